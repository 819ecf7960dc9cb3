set_option maxRecDepth 100000 in
set_option maxHeartbeats 4000000 in
theorem lp_X5_sundayGoes_40 {w : WC} {x : Cy} {μ : Me} (hM : Md w) (hI : IvD (μ.1 1))  (C : Cx w x cX5_sundayGoes 9 RX5 none (Rm 3 69)) (hQ : y_Q x = MQ (y_b x) (QV w (Pv (ua μ 1 (suM (μ.1 1))))) (y_a x) (y_s x) 0 0 (AA w)) : ∀ (m i : Nat) (D : Nat → Int32) (c : Nat), (dn (μ.1 1)) + 1 ≤ i + m → i ≤ (dn (μ.1 1)) → ((D, c) = suD (μ.1 1) (V_ (μ.1 1)) (S_ (μ.1 1)) (P_ (μ.1 1)) ((μ.1 1) 6) (onL (V_ (μ.1 1)) 8) (cl ((μ.1 1) 4)) i) → V w x 9 (ua μ 1 D) 40 [(0, .ref (w_ad w 0)), (1, .int (V_ (μ.1 1))), (2, .int (S_ (μ.1 1))), (3, .int (P_ (μ.1 1))), (4, .int (nI c)), (5, .int (onL (V_ (μ.1 1)) 8)), (6, .int (nI i))] [] := by
  intro m
  induction m with
  | zero =>
    intro i D c hm hi
    exact absurd hm (by omega)
  | succ m ih =>
    intro i D c hm hi he
    have hn := hI.n.1
    have hcc : c ≤ 20 := by have z := suD_c (d := (μ.1 1)) (v := V_ (μ.1 1)) (s := S_ (μ.1 1)) (p := P_ (μ.1 1)) (g := (μ.1 1) 6) (b := onL (V_ (μ.1 1)) 8) (c := cl ((μ.1 1) 4)) i; rw [← he] at z; have y := (hI.2.2.2.1.cl (by omega)).1; have z2 : c ≤ cl ((μ.1 1) 4) := z; omega
    have hDo : ∀ a, (a < 21 ∨ 53 ≤ a ∨ (29 ≤ a ∧ a < 37)) → D a = (μ.1 1) a := fun a ha => by have z := suD_o (μ.1 1) (V_ (μ.1 1)) (S_ (μ.1 1)) (P_ (μ.1 1)) ((μ.1 1) 6) (onL (V_ (μ.1 1)) 8) (cl ((μ.1 1) 4)) (a := a) i (by omega) (ha.elim Or.inl (fun h => Or.inr (h.elim Or.inl (fun h => Or.inr (Or.inl h))))); rw [← he] at z; exact z
    have hD0 : D 0 = nI (dn (μ.1 1)) := (hDo 0 (by omega)).trans hI.n.2
    have hD6 : D 6 = (μ.1 1) 6 := hDo 6 (by omega)
    have hR : ∀ r, r < dn (μ.1 1) → IvR D (dn (μ.1 1)) r := fun r hr => by have z := IvR_su (v := V_ (μ.1 1)) (s := S_ (μ.1 1)) (p := P_ (μ.1 1)) (g := (μ.1 1) 6) (b := onL (V_ (μ.1 1)) 8) (c := cl ((μ.1 1) 4)) hn hI.2.2.2.2.2.2.2.1 i (by omega) r hr; rw [← he] at z; exact z
    have n1 : (37 + i) ≠ 21 + i := by omega
    have n5 : (21 + i) ≠ 45 + i := by omega
    have n7 : (6 : Nat) ≠ 45 + i := by omega
    refine v_iload C dX5_sundayGoes_40 rfl rfl ?_
    refine v_aload_n C dX5_sundayGoes_42 rfl rfl ?_
    refine g_X5_d C hM.1 dX5_sundayGoes_43 fl_X5_7 rfl ?_
    refine v_iconst C dX5_sundayGoes_46 ic_0 rfl ?_
    refine a_I C hM.2.1 (by decide) dX5_sundayGoes_47 (0) rfl (by decide) rfl ?_
    refine v_eqi ((congrFun (ua_s μ 1 D) 0).trans hD0) ?_
    refine v_icmp_ge C 238 51 dX5_sundayGoes_48 (by decide) rfl (fun h48 => ?_) (fun h48 => ?_)
    · have g : i = dn (μ.1 1) := by have := (le_n (a := dn (μ.1 1)) (b := i) (by omega) (by omega)).mp h48; omega
      refine v_aload_n C dX5_sundayGoes_238 rfl rfl ?_
      refine g_X5_d C hM.1 dX5_sundayGoes_239 fl_X5_7 rfl ?_
      refine v_iconst C dX5_sundayGoes_242 ic_1 rfl ?_
      refine v_aload_n C dX5_sundayGoes_243 rfl rfl ?_
      refine g_X5_d C hM.1 dX5_sundayGoes_244 fl_X5_7 rfl ?_
      refine v_iconst C dX5_sundayGoes_247 ic_1 rfl ?_
      refine a_I C hM.2.1 (by decide) dX5_sundayGoes_248 (1) rfl (by decide) rfl ?_
      refine v_iconst C dX5_sundayGoes_249 ic_1 rfl ?_
      refine v_iadd C dX5_sundayGoes_250 rfl ?_
      refine v_iconst C dX5_sundayGoes_251 ic_0 rfl ?_
      refine v_ldc C dX5_sundayGoes_252 cn_X5_91 rfl ?_
      refine v_iS C dX5_sundayGoes_254 ms_X5_held c_X5_held rfl ml_X5_50 (rk_of rfl) rfl (Nat.le_of_ble_eq_true rfl) rfl (px_k ?_)
      refine s_I C hM.2.1 (by decide) dX5_sundayGoes_257 (1) rfl (by decide) rfl ?_
      exact v_vret C hQ dX5_sundayGoes_258 (by rw [ua_s, up_ua, hDo 1 (by omega), hd_suT hI.2.1]; unfold suM; rw [← g, ← he])
    · have g : i < dn (μ.1 1) := by rcases Nat.lt_or_ge i (dn (μ.1 1)) with q | q; exact q; exact absurd ((le_n (a := dn (μ.1 1)) (b := i) (by omega) (by omega)).mpr q) h48
      have q := hR i g
      unfold IvR at q
      refine v_aload_n C dX5_sundayGoes_51 rfl rfl ?_
      refine v_iload C dX5_sundayGoes_52 rfl rfl ?_
      refine v_iload C dX5_sundayGoes_54 rfl rfl ?_
      refine v_iV C dX5_sundayGoes_56 mi_X5_loses (c_X5_loses hM (i := i) (by omega) rfl) rfl hM.1.1 hM.1.2 rfl ml_X5_81 (rk_of rfl) rfl (Nat.le_of_ble_eq_true rfl) rfl (px_k ?_)
      refine v_ineg C dX5_sundayGoes_59 rfl ?_
      refine v_istore C dX5_sundayGoes_60 (by decide) rfl ?_
      refine v_iconst C dX5_sundayGoes_62 ic_1 rfl ?_
      refine v_istore C dX5_sundayGoes_63 (by decide) rfl ?_
      refine v_iload_n C dX5_sundayGoes_65 rfl rfl ?_
      refine v_iload C dX5_sundayGoes_66 rfl rfl ?_
      refine v_ishr C dX5_sundayGoes_68 rfl ?_
      refine v_iconst C dX5_sundayGoes_69 ic_1 rfl ?_
      refine v_iand C dX5_sundayGoes_70 rfl ?_
      refine v_iconst C dX5_sundayGoes_71 ic_1 rfl ?_
      refine v_icmp_ne C 138 75 dX5_sundayGoes_72 (by decide) rfl (fun h72 => ?_) (fun h72 => ?_)
      · refine v_iload_n C dX5_sundayGoes_138 rfl rfl ?_
        refine v_iload C dX5_sundayGoes_139 rfl rfl ?_
        refine v_ishr C dX5_sundayGoes_141 rfl ?_
        refine v_iconst C dX5_sundayGoes_142 ic_1 rfl ?_
        refine v_iand C dX5_sundayGoes_143 rfl ?_
        refine v_iconst C dX5_sundayGoes_144 ic_1 rfl ?_
        refine v_icmp_ne C 161 148 dX5_sundayGoes_145 (by decide) rfl (fun h145 => ?_) (fun h145 => ?_)
        · refine v_iload_n C dX5_sundayGoes_161 rfl rfl ?_
          refine v_iload C dX5_sundayGoes_162 rfl rfl ?_
          refine v_ishr C dX5_sundayGoes_164 rfl ?_
          refine v_iconst C dX5_sundayGoes_165 ic_1 rfl ?_
          refine v_iand C dX5_sundayGoes_166 rfl ?_
          refine v_iconst C dX5_sundayGoes_167 ic_1 rfl ?_
          refine v_icmp_ne C 177 171 dX5_sundayGoes_168 (by decide) rfl (fun h168 => ?_) (fun h168 => ?_)
          · refine v_aload_n C dX5_sundayGoes_177 rfl rfl ?_
            refine v_iload C dX5_sundayGoes_178 rfl rfl ?_
            refine v_iconst C dX5_sundayGoes_180 ic_1 rfl ?_
            refine v_aload_n C dX5_sundayGoes_181 rfl rfl ?_
            refine v_iload C dX5_sundayGoes_182 rfl rfl ?_
            refine v_iconst C dX5_sundayGoes_184 ic_1 rfl ?_
            refine v_iV C dX5_sundayGoes_185 mi_X5_its (c_X5_its hM (i := i) (f := 1) (j := 21 + i) (by omega) (by decide) rfl rfl rfl) rfl hM.1.1 hM.1.2 rfl ml_X5_46 (rk_of rfl) rfl (Nat.le_of_ble_eq_true rfl) rfl (px_k ?_)
            refine v_iload C dX5_sundayGoes_188 rfl rfl ?_
            refine v_iadd C dX5_sundayGoes_190 rfl ?_
            refine v_iconst C dX5_sundayGoes_191 ic_0 rfl ?_
            refine v_bipush C dX5_sundayGoes_192 bp_99 rfl ?_
            refine v_iS C dX5_sundayGoes_194 ms_X5_held c_X5_held rfl ml_X5_50 (rk_of rfl) rfl (Nat.le_of_ble_eq_true rfl) rfl (px_k ?_)
            refine v_vV C dX5_sundayGoes_197 mi_X5_sets (c_X5_sets hM (i := i) (f := 1) (j := 21 + i) (by omega) (by decide) rfl rfl rfl) rfl hM.1.1 hM.1.2 rfl ml_X5_87 (rk_of rfl) rfl (Nat.le_of_ble_eq_true rfl) rfl (pv_k ?_)
            refine v_aload_n C dX5_sundayGoes_200 rfl rfl ?_
            refine v_iload C dX5_sundayGoes_201 rfl rfl ?_
            refine v_iconst C dX5_sundayGoes_203 ic_3 rfl ?_
            refine v_iload C dX5_sundayGoes_204 rfl rfl ?_
            refine v_if_eq C 228 209 dX5_sundayGoes_206 (by decide) rfl (fun h206 => ?_) (fun h206 => ?_)
            · exact absurd h206 (by decide)
            · refine v_aload_n C dX5_sundayGoes_209 rfl rfl ?_
              refine v_iload C dX5_sundayGoes_210 rfl rfl ?_
              refine v_iconst C dX5_sundayGoes_212 ic_3 rfl ?_
              refine v_iV C dX5_sundayGoes_213 mi_X5_its (c_X5_its hM (i := i) (f := 3) (j := 37 + i) (by omega) (by decide) rfl rfl rfl) rfl hM.1.1 hM.1.2 rfl ml_X5_46 (rk_of rfl) rfl (Nat.le_of_ble_eq_true rfl) rfl (px_k ?_)
              refine v_iconst C dX5_sundayGoes_216 ic_1 rfl ?_
              refine v_iadd C dX5_sundayGoes_217 rfl ?_
              refine v_iconst C dX5_sundayGoes_218 ic_0 rfl ?_
              refine v_sipush C dX5_sundayGoes_219 sp_9999 rfl ?_
              refine v_iS C dX5_sundayGoes_222 ms_X5_held c_X5_held rfl ml_X5_50 (rk_of rfl) rfl (Nat.le_of_ble_eq_true rfl) rfl (px_k ?_)
              refine v_goto C 229 dX5_sundayGoes_225 (by decide) ?_
              refine v_vV C dX5_sundayGoes_229 mi_X5_sets (c_X5_sets hM (i := i) (f := 3) (j := 37 + i) (by omega) (by decide) rfl rfl rfl) rfl hM.1.1 hM.1.2 rfl ml_X5_87 (rk_of rfl) rfl (Nat.le_of_ble_eq_true rfl) rfl (pv_k ?_)
              refine v_iincN C dX5_sundayGoes_232 rfl (by decide) rfl ?_
              refine v_goto C 40 dX5_sundayGoes_235 (by decide) ?_
              refine v_mem (μ' := ua μ 1 (ddA D i (onL (V_ (μ.1 1)) 8))) ?_ (V.norm (ih (i + 1) _ c (by omega) (by omega) ?_) rfl)
              · simp only [ua_s, up_r, upd_n _ _ n1]
                exact mdA q.2.2.2.1
              · rw [suD_a h72 h145 h168, ← he]
          · refine v_iconst C dX5_sundayGoes_171 ic_4 rfl ?_
            refine v_istore C dX5_sundayGoes_172 (by decide) rfl ?_
            refine v_iconst C dX5_sundayGoes_174 ic_0 rfl ?_
            refine v_istore C dX5_sundayGoes_175 (by decide) rfl ?_
            refine v_aload_n C dX5_sundayGoes_177 rfl rfl ?_
            refine v_iload C dX5_sundayGoes_178 rfl rfl ?_
            refine v_iconst C dX5_sundayGoes_180 ic_1 rfl ?_
            refine v_aload_n C dX5_sundayGoes_181 rfl rfl ?_
            refine v_iload C dX5_sundayGoes_182 rfl rfl ?_
            refine v_iconst C dX5_sundayGoes_184 ic_1 rfl ?_
            refine v_iV C dX5_sundayGoes_185 mi_X5_its (c_X5_its hM (i := i) (f := 1) (j := 21 + i) (by omega) (by decide) rfl rfl rfl) rfl hM.1.1 hM.1.2 rfl ml_X5_46 (rk_of rfl) rfl (Nat.le_of_ble_eq_true rfl) rfl (px_k ?_)
            refine v_iload C dX5_sundayGoes_188 rfl rfl ?_
            refine v_iadd C dX5_sundayGoes_190 rfl ?_
            refine v_iconst C dX5_sundayGoes_191 ic_0 rfl ?_
            refine v_bipush C dX5_sundayGoes_192 bp_99 rfl ?_
            refine v_iS C dX5_sundayGoes_194 ms_X5_held c_X5_held rfl ml_X5_50 (rk_of rfl) rfl (Nat.le_of_ble_eq_true rfl) rfl (px_k ?_)
            refine v_vV C dX5_sundayGoes_197 mi_X5_sets (c_X5_sets hM (i := i) (f := 1) (j := 21 + i) (by omega) (by decide) rfl rfl rfl) rfl hM.1.1 hM.1.2 rfl ml_X5_87 (rk_of rfl) rfl (Nat.le_of_ble_eq_true rfl) rfl (pv_k ?_)
            refine v_aload_n C dX5_sundayGoes_200 rfl rfl ?_
            refine v_iload C dX5_sundayGoes_201 rfl rfl ?_
            refine v_iconst C dX5_sundayGoes_203 ic_3 rfl ?_
            refine v_iload C dX5_sundayGoes_204 rfl rfl ?_
            refine v_if_eq C 228 209 dX5_sundayGoes_206 (by decide) rfl (fun h206 => ?_) (fun h206 => ?_)
            · refine v_iconst C dX5_sundayGoes_228 ic_0 rfl ?_
              refine v_vV C dX5_sundayGoes_229 mi_X5_sets (c_X5_sets hM (i := i) (f := 3) (j := 37 + i) (by omega) (by decide) rfl rfl rfl) rfl hM.1.1 hM.1.2 rfl ml_X5_87 (rk_of rfl) rfl (Nat.le_of_ble_eq_true rfl) rfl (pv_k ?_)
              refine v_iincN C dX5_sundayGoes_232 rfl (by decide) rfl ?_
              refine v_goto C 40 dX5_sundayGoes_235 (by decide) ?_
              refine v_mem (μ' := ua μ 1 (ddH D i)) ?_ (V.norm (ih (i + 1) _ c (by omega) (by omega) ?_) rfl)
              · simp only [ua_s]
                exact mdH
              · rw [suD_h h72 h145 h168, ← he]
            · exact absurd rfl h206
        · refine v_aload_n C dX5_sundayGoes_148 rfl rfl ?_
          refine v_iload C dX5_sundayGoes_149 rfl rfl ?_
          refine v_iV C dX5_sundayGoes_151 mi_X5_gains (c_X5_gains hM (i := i) (by omega) rfl (by rw [ua_s, hD6]; exact hI.2.2.2.2.2.1)) rfl hM.1.1 hM.1.2 rfl ml_X5_84 (rk_of rfl) rfl (Nat.le_of_ble_eq_true rfl) rfl (px_k ?_)
          refine v_iconst C dX5_sundayGoes_154 ic_2 rfl ?_
          refine v_idiv C dX5_sundayGoes_155 (by decide) rfl ?_
          refine v_istore C dX5_sundayGoes_156 (by decide) rfl ?_
          refine v_goto C 177 dX5_sundayGoes_158 (by decide) ?_
          refine v_aload_n C dX5_sundayGoes_177 rfl rfl ?_
          refine v_iload C dX5_sundayGoes_178 rfl rfl ?_
          refine v_iconst C dX5_sundayGoes_180 ic_1 rfl ?_
          refine v_aload_n C dX5_sundayGoes_181 rfl rfl ?_
          refine v_iload C dX5_sundayGoes_182 rfl rfl ?_
          refine v_iconst C dX5_sundayGoes_184 ic_1 rfl ?_
          refine v_iV C dX5_sundayGoes_185 mi_X5_its (c_X5_its hM (i := i) (f := 1) (j := 21 + i) (by omega) (by decide) rfl rfl rfl) rfl hM.1.1 hM.1.2 rfl ml_X5_46 (rk_of rfl) rfl (Nat.le_of_ble_eq_true rfl) rfl (px_k ?_)
          refine v_iload C dX5_sundayGoes_188 rfl rfl ?_
          refine v_iadd C dX5_sundayGoes_190 rfl ?_
          refine v_iconst C dX5_sundayGoes_191 ic_0 rfl ?_
          refine v_bipush C dX5_sundayGoes_192 bp_99 rfl ?_
          refine v_iS C dX5_sundayGoes_194 ms_X5_held c_X5_held rfl ml_X5_50 (rk_of rfl) rfl (Nat.le_of_ble_eq_true rfl) rfl (px_k ?_)
          refine v_vV C dX5_sundayGoes_197 mi_X5_sets (c_X5_sets hM (i := i) (f := 1) (j := 21 + i) (by omega) (by decide) rfl rfl rfl) rfl hM.1.1 hM.1.2 rfl ml_X5_87 (rk_of rfl) rfl (Nat.le_of_ble_eq_true rfl) rfl (pv_k ?_)
          refine v_aload_n C dX5_sundayGoes_200 rfl rfl ?_
          refine v_iload C dX5_sundayGoes_201 rfl rfl ?_
          refine v_iconst C dX5_sundayGoes_203 ic_3 rfl ?_
          refine v_iload C dX5_sundayGoes_204 rfl rfl ?_
          refine v_if_eq C 228 209 dX5_sundayGoes_206 (by decide) rfl (fun h206 => ?_) (fun h206 => ?_)
          · exact absurd h206 (by decide)
          · refine v_aload_n C dX5_sundayGoes_209 rfl rfl ?_
            refine v_iload C dX5_sundayGoes_210 rfl rfl ?_
            refine v_iconst C dX5_sundayGoes_212 ic_3 rfl ?_
            refine v_iV C dX5_sundayGoes_213 mi_X5_its (c_X5_its hM (i := i) (f := 3) (j := 37 + i) (by omega) (by decide) rfl rfl rfl) rfl hM.1.1 hM.1.2 rfl ml_X5_46 (rk_of rfl) rfl (Nat.le_of_ble_eq_true rfl) rfl (px_k ?_)
            refine v_iconst C dX5_sundayGoes_216 ic_1 rfl ?_
            refine v_iadd C dX5_sundayGoes_217 rfl ?_
            refine v_iconst C dX5_sundayGoes_218 ic_0 rfl ?_
            refine v_sipush C dX5_sundayGoes_219 sp_9999 rfl ?_
            refine v_iS C dX5_sundayGoes_222 ms_X5_held c_X5_held rfl ml_X5_50 (rk_of rfl) rfl (Nat.le_of_ble_eq_true rfl) rfl (px_k ?_)
            refine v_goto C 229 dX5_sundayGoes_225 (by decide) ?_
            refine v_vV C dX5_sundayGoes_229 mi_X5_sets (c_X5_sets hM (i := i) (f := 3) (j := 37 + i) (by omega) (by decide) rfl rfl rfl) rfl hM.1.1 hM.1.2 rfl ml_X5_87 (rk_of rfl) rfl (Nat.le_of_ble_eq_true rfl) rfl (pv_k ?_)
            refine v_iincN C dX5_sundayGoes_232 rfl (by decide) rfl ?_
            refine v_goto C 40 dX5_sundayGoes_235 (by decide) ?_
            refine v_mem (μ' := ua μ 1 (ddS D i (μ.1 1 6))) ?_ (V.norm (ih (i + 1) _ c (by omega) (by omega) ?_) rfl)
            · simp only [ua_s, up_r, upd_n _ _ n1]
              rw [hD6]
              exact mdS q.2.2.2.1
            · rw [suD_s h72 h145, ← he]
      · refine v_aload_n C dX5_sundayGoes_75 rfl rfl ?_
        refine v_iload C dX5_sundayGoes_76 rfl rfl ?_
        refine v_iV C dX5_sundayGoes_78 mi_X5_gains (c_X5_gains hM (i := i) (by omega) rfl (by rw [ua_s, hD6]; exact hI.2.2.2.2.2.1)) rfl hM.1.1 hM.1.2 rfl ml_X5_84 (rk_of rfl) rfl (Nat.le_of_ble_eq_true rfl) rfl (px_k ?_)
        refine v_iload C dX5_sundayGoes_81 rfl rfl ?_
        refine v_if_le C 90 86 dX5_sundayGoes_83 (by decide) rfl (fun h83 => ?_) (fun h83 => ?_)
        · have hc : ¬ 0 < c := by have := (le_n (a := c) (b := 0) (by omega) (by omega)).mp h83; omega
          refine v_iconst C dX5_sundayGoes_90 ic_0 rfl ?_
          refine v_iadd C dX5_sundayGoes_91 rfl ?_
          refine v_istore C dX5_sundayGoes_92 (by decide) rfl ?_
          refine v_iload C dX5_sundayGoes_94 rfl rfl ?_
          refine v_iload C dX5_sundayGoes_96 rfl rfl ?_
          refine v_if_le C 105 101 dX5_sundayGoes_98 (by decide) rfl (fun h98 => ?_) (fun h98 => ?_)
          · refine v_iconst C dX5_sundayGoes_105 ic_0 rfl ?_
            refine v_isub C dX5_sundayGoes_106 rfl ?_
            refine v_eqi (b := nI (c - 1)) (by rw [show c - 1 = c by omega]; simp) ?_
            refine v_istore C dX5_sundayGoes_107 (by decide) rfl ?_
            refine v_iconst C dX5_sundayGoes_109 ic_0 rfl ?_
            refine v_istore C dX5_sundayGoes_110 (by decide) rfl ?_
            refine v_aload_n C dX5_sundayGoes_112 rfl rfl ?_
            refine v_iload C dX5_sundayGoes_113 rfl rfl ?_
            refine v_iconst C dX5_sundayGoes_115 ic_4 rfl ?_
            refine v_aload_n C dX5_sundayGoes_116 rfl rfl ?_
            refine v_iload C dX5_sundayGoes_117 rfl rfl ?_
            refine v_iconst C dX5_sundayGoes_119 ic_4 rfl ?_
            refine v_iV C dX5_sundayGoes_120 mi_X5_its (c_X5_its hM (i := i) (f := 4) (j := 45 + i) (by omega) (by decide) rfl rfl rfl) rfl hM.1.1 hM.1.2 rfl ml_X5_46 (rk_of rfl) rfl (Nat.le_of_ble_eq_true rfl) rfl (px_k ?_)
            refine v_iconst C dX5_sundayGoes_123 ic_1 rfl ?_
            refine v_iadd C dX5_sundayGoes_124 rfl ?_
            refine v_iconst C dX5_sundayGoes_125 ic_0 rfl ?_
            refine v_sipush C dX5_sundayGoes_126 sp_9999 rfl ?_
            refine v_iS C dX5_sundayGoes_129 ms_X5_held c_X5_held rfl ml_X5_50 (rk_of rfl) rfl (Nat.le_of_ble_eq_true rfl) rfl (px_k ?_)
            refine v_vV C dX5_sundayGoes_132 mi_X5_sets (c_X5_sets hM (i := i) (f := 4) (j := 45 + i) (by omega) (by decide) rfl rfl rfl) rfl hM.1.1 hM.1.2 rfl ml_X5_87 (rk_of rfl) rfl (Nat.le_of_ble_eq_true rfl) rfl (pv_k ?_)
            refine v_goto C 177 dX5_sundayGoes_135 (by decide) ?_
            refine v_aload_n C dX5_sundayGoes_177 rfl rfl ?_
            refine v_iload C dX5_sundayGoes_178 rfl rfl ?_
            refine v_iconst C dX5_sundayGoes_180 ic_1 rfl ?_
            refine v_aload_n C dX5_sundayGoes_181 rfl rfl ?_
            refine v_iload C dX5_sundayGoes_182 rfl rfl ?_
            refine v_iconst C dX5_sundayGoes_184 ic_1 rfl ?_
            refine v_iV C dX5_sundayGoes_185 mi_X5_its (c_X5_its hM (i := i) (f := 1) (j := 21 + i) (by omega) (by decide) rfl rfl rfl) rfl hM.1.1 hM.1.2 rfl ml_X5_46 (rk_of rfl) rfl (Nat.le_of_ble_eq_true rfl) rfl (px_k ?_)
            refine v_iload C dX5_sundayGoes_188 rfl rfl ?_
            refine v_iadd C dX5_sundayGoes_190 rfl ?_
            refine v_iconst C dX5_sundayGoes_191 ic_0 rfl ?_
            refine v_bipush C dX5_sundayGoes_192 bp_99 rfl ?_
            refine v_iS C dX5_sundayGoes_194 ms_X5_held c_X5_held rfl ml_X5_50 (rk_of rfl) rfl (Nat.le_of_ble_eq_true rfl) rfl (px_k ?_)
            refine v_vV C dX5_sundayGoes_197 mi_X5_sets (c_X5_sets hM (i := i) (f := 1) (j := 21 + i) (by omega) (by decide) rfl rfl rfl) rfl hM.1.1 hM.1.2 rfl ml_X5_87 (rk_of rfl) rfl (Nat.le_of_ble_eq_true rfl) rfl (pv_k ?_)
            refine v_aload_n C dX5_sundayGoes_200 rfl rfl ?_
            refine v_iload C dX5_sundayGoes_201 rfl rfl ?_
            refine v_iconst C dX5_sundayGoes_203 ic_3 rfl ?_
            refine v_iload C dX5_sundayGoes_204 rfl rfl ?_
            refine v_if_eq C 228 209 dX5_sundayGoes_206 (by decide) rfl (fun h206 => ?_) (fun h206 => ?_)
            · refine v_iconst C dX5_sundayGoes_228 ic_0 rfl ?_
              refine v_vV C dX5_sundayGoes_229 mi_X5_sets (c_X5_sets hM (i := i) (f := 3) (j := 37 + i) (by omega) (by decide) rfl rfl rfl) rfl hM.1.1 hM.1.2 rfl ml_X5_87 (rk_of rfl) rfl (Nat.le_of_ble_eq_true rfl) rfl (pv_k ?_)
              refine v_iincN C dX5_sundayGoes_232 rfl (by decide) rfl ?_
              refine v_goto C 40 dX5_sundayGoes_235 (by decide) ?_
              refine v_mem (μ' := ua μ 1 (ddV D i (μ.1 1 6) c)) ?_ (V.norm (ih (i + 1) _ (c - 1) (by omega) (by omega) ?_) rfl)
              · simp only [ua_s, up_r, upd_n _ _ n5, upd_n _ _ n7]
                rw [hD6]
                exact mdV (t := 0) q.2.2.2.2 (if_neg hc).symm
              · rw [suD_v h72, ← he]
            · exact absurd rfl h206
          · exact absurd h83 h98
        · have hc : 0 < c := by rcases Nat.eq_zero_or_pos c with z | z; (exact absurd (show nI c ≤ 0 by rw [z]; decide) h83); exact z
          refine v_iconst C dX5_sundayGoes_86 ic_1 rfl ?_
          refine v_goto C 91 dX5_sundayGoes_87 (by decide) ?_
          refine v_iadd C dX5_sundayGoes_91 rfl ?_
          refine v_istore C dX5_sundayGoes_92 (by decide) rfl ?_
          refine v_iload C dX5_sundayGoes_94 rfl rfl ?_
          refine v_iload C dX5_sundayGoes_96 rfl rfl ?_
          refine v_if_le C 105 101 dX5_sundayGoes_98 (by decide) rfl (fun h98 => ?_) (fun h98 => ?_)
          · exact absurd h98 h83
          · refine v_iconst C dX5_sundayGoes_101 ic_1 rfl ?_
            refine v_goto C 106 dX5_sundayGoes_102 (by decide) ?_
            refine v_isub C dX5_sundayGoes_106 rfl ?_
            refine v_eqi (b := nI (c - 1)) (by obtain ⟨k, rfl⟩ : ∃ k, c = k + 1 := ⟨c - 1, by omega⟩; exact nI_pred k) ?_
            refine v_istore C dX5_sundayGoes_107 (by decide) rfl ?_
            refine v_iconst C dX5_sundayGoes_109 ic_0 rfl ?_
            refine v_istore C dX5_sundayGoes_110 (by decide) rfl ?_
            refine v_aload_n C dX5_sundayGoes_112 rfl rfl ?_
            refine v_iload C dX5_sundayGoes_113 rfl rfl ?_
            refine v_iconst C dX5_sundayGoes_115 ic_4 rfl ?_
            refine v_aload_n C dX5_sundayGoes_116 rfl rfl ?_
            refine v_iload C dX5_sundayGoes_117 rfl rfl ?_
            refine v_iconst C dX5_sundayGoes_119 ic_4 rfl ?_
            refine v_iV C dX5_sundayGoes_120 mi_X5_its (c_X5_its hM (i := i) (f := 4) (j := 45 + i) (by omega) (by decide) rfl rfl rfl) rfl hM.1.1 hM.1.2 rfl ml_X5_46 (rk_of rfl) rfl (Nat.le_of_ble_eq_true rfl) rfl (px_k ?_)
            refine v_iconst C dX5_sundayGoes_123 ic_1 rfl ?_
            refine v_iadd C dX5_sundayGoes_124 rfl ?_
            refine v_iconst C dX5_sundayGoes_125 ic_0 rfl ?_
            refine v_sipush C dX5_sundayGoes_126 sp_9999 rfl ?_
            refine v_iS C dX5_sundayGoes_129 ms_X5_held c_X5_held rfl ml_X5_50 (rk_of rfl) rfl (Nat.le_of_ble_eq_true rfl) rfl (px_k ?_)
            refine v_vV C dX5_sundayGoes_132 mi_X5_sets (c_X5_sets hM (i := i) (f := 4) (j := 45 + i) (by omega) (by decide) rfl rfl rfl) rfl hM.1.1 hM.1.2 rfl ml_X5_87 (rk_of rfl) rfl (Nat.le_of_ble_eq_true rfl) rfl (pv_k ?_)
            refine v_goto C 177 dX5_sundayGoes_135 (by decide) ?_
            refine v_aload_n C dX5_sundayGoes_177 rfl rfl ?_
            refine v_iload C dX5_sundayGoes_178 rfl rfl ?_
            refine v_iconst C dX5_sundayGoes_180 ic_1 rfl ?_
            refine v_aload_n C dX5_sundayGoes_181 rfl rfl ?_
            refine v_iload C dX5_sundayGoes_182 rfl rfl ?_
            refine v_iconst C dX5_sundayGoes_184 ic_1 rfl ?_
            refine v_iV C dX5_sundayGoes_185 mi_X5_its (c_X5_its hM (i := i) (f := 1) (j := 21 + i) (by omega) (by decide) rfl rfl rfl) rfl hM.1.1 hM.1.2 rfl ml_X5_46 (rk_of rfl) rfl (Nat.le_of_ble_eq_true rfl) rfl (px_k ?_)
            refine v_iload C dX5_sundayGoes_188 rfl rfl ?_
            refine v_iadd C dX5_sundayGoes_190 rfl ?_
            refine v_iconst C dX5_sundayGoes_191 ic_0 rfl ?_
            refine v_bipush C dX5_sundayGoes_192 bp_99 rfl ?_
            refine v_iS C dX5_sundayGoes_194 ms_X5_held c_X5_held rfl ml_X5_50 (rk_of rfl) rfl (Nat.le_of_ble_eq_true rfl) rfl (px_k ?_)
            refine v_vV C dX5_sundayGoes_197 mi_X5_sets (c_X5_sets hM (i := i) (f := 1) (j := 21 + i) (by omega) (by decide) rfl rfl rfl) rfl hM.1.1 hM.1.2 rfl ml_X5_87 (rk_of rfl) rfl (Nat.le_of_ble_eq_true rfl) rfl (pv_k ?_)
            refine v_aload_n C dX5_sundayGoes_200 rfl rfl ?_
            refine v_iload C dX5_sundayGoes_201 rfl rfl ?_
            refine v_iconst C dX5_sundayGoes_203 ic_3 rfl ?_
            refine v_iload C dX5_sundayGoes_204 rfl rfl ?_
            refine v_if_eq C 228 209 dX5_sundayGoes_206 (by decide) rfl (fun h206 => ?_) (fun h206 => ?_)
            · refine v_iconst C dX5_sundayGoes_228 ic_0 rfl ?_
              refine v_vV C dX5_sundayGoes_229 mi_X5_sets (c_X5_sets hM (i := i) (f := 3) (j := 37 + i) (by omega) (by decide) rfl rfl rfl) rfl hM.1.1 hM.1.2 rfl ml_X5_87 (rk_of rfl) rfl (Nat.le_of_ble_eq_true rfl) rfl (pv_k ?_)
              refine v_iincN C dX5_sundayGoes_232 rfl (by decide) rfl ?_
              refine v_goto C 40 dX5_sundayGoes_235 (by decide) ?_
              refine v_mem (μ' := ua μ 1 (ddV D i (μ.1 1 6) c)) ?_ (V.norm (ih (i + 1) _ (c - 1) (by omega) (by omega) ?_) rfl)
              · simp only [ua_s, up_r, upd_n _ _ n5, upd_n _ _ n7]
                rw [hD6]
                exact mdV (t := 0) q.2.2.2.2 (if_pos hc).symm
              · rw [suD_v h72, ← he]
            · exact absurd rfl h206
set_option maxRecDepth 100000 in
set_option maxHeartbeats 4000000 in
theorem c_X5_sundayGoes {l : Launch} {w : WC} {μ : Me} (hM : Md w) (hI : IvD (μ.1 1)) : CtV l w yX5_sundayGoes cX5_sundayGoes 9 (Rm 3 69) [.ref (w_ad w 0)] μ (Pv (ua μ 1 (suM (μ.1 1)))) := by
  refine Ct.mk (own := RX5) rfl (by decide) (Nat.le_of_ble_eq_true rfl) (fun x hxl C hQ => ?_)
  subst hxl
  have hn := hI.n.1
  have h0 := hI.n.2
  obtain ⟨s, hs1, hs⟩ := hI.2.1
  have hw : ∀ r, r < dn (μ.1 1) → Le ((μ.1 1) (37 + r)) 9999 := fun r hr => (hI.2.2.2.2.2.2.2.1 r hr).2.2.2.1
  have hj := hI.2.2.2.2.1.cl (by omega)
  have hc := hI.2.2.2.1.cl (by omega)
  refine v_aload_n C dX5_sundayGoes_0 rfl rfl ?_
  refine v_aload_n C dX5_sundayGoes_1 rfl rfl ?_
  refine v_iV C dX5_sundayGoes_2 mi_X5_todays (c_X5_todays hM hs1 hs) rfl hM.1.1 hM.1.2 rfl ml_X5_65 (rk_of rfl) rfl (Nat.le_of_ble_eq_true rfl) rfl (px_k ?_)
  refine v_iV C dX5_sundayGoes_5 mi_X5_visitedOf (c_X5_visitedOf hM hn h0) rfl hM.1.1 hM.1.2 rfl ml_X5_69 (rk_of rfl) rfl (Nat.le_of_ble_eq_true rfl) rfl (px_k ?_)
  refine v_eqi (show _ = V_ (μ.1 1) from rfl) ?_
  refine v_istore_n C dX5_sundayGoes_8 (by decide) rfl ?_
  refine v_aload_n C dX5_sundayGoes_9 rfl rfl ?_
  refine v_iload_n C dX5_sundayGoes_10 rfl rfl ?_
  refine v_iV C dX5_sundayGoes_11 mi_X5_sharersOf (c_X5_sharersOf hM hn h0) rfl hM.1.1 hM.1.2 rfl ml_X5_72 (rk_of rfl) rfl (Nat.le_of_ble_eq_true rfl) rfl (px_k ?_)
  refine v_eqi (show _ = S_ (μ.1 1) from rfl) ?_
  refine v_istore_n C dX5_sundayGoes_14 (by decide) rfl ?_
  refine v_aload_n C dX5_sundayGoes_15 rfl rfl ?_
  refine v_iload_n C dX5_sundayGoes_16 rfl rfl ?_
  refine v_iload_n C dX5_sundayGoes_17 rfl rfl ?_
  refine v_ior C dX5_sundayGoes_18 rfl ?_
  refine v_iV C dX5_sundayGoes_19 mi_X5_helpedOf (c_X5_helpedOf hM hn h0 hw hj.1 hj.2) rfl hM.1.1 hM.1.2 rfl ml_X5_75 (rk_of rfl) rfl (Nat.le_of_ble_eq_true rfl) rfl (px_k ?_)
  refine v_eqi (show _ = P_ (μ.1 1) from rfl) ?_
  refine v_istore_n C dX5_sundayGoes_22 (by decide) rfl ?_
  refine v_aload_n C dX5_sundayGoes_23 rfl rfl ?_
  refine g_X5_d C hM.1 dX5_sundayGoes_24 fl_X5_7 rfl ?_
  refine v_iconst C dX5_sundayGoes_27 ic_4 rfl ?_
  refine a_I C hM.2.1 (by decide) dX5_sundayGoes_28 (4) rfl (by decide) rfl ?_
  refine v_eqi (hc.2) ?_
  refine v_istore C dX5_sundayGoes_29 (by decide) rfl ?_
  refine v_iload_n C dX5_sundayGoes_31 rfl rfl ?_
  refine v_iS C dX5_sundayGoes_32 ms_X5_ones c_X5_ones rfl ml_X5_78 (rk_of rfl) rfl (Nat.le_of_ble_eq_true rfl) rfl (px_k ?_)
  refine v_istore C dX5_sundayGoes_35 (by decide) rfl ?_
  refine v_iconst C dX5_sundayGoes_37 ic_0 rfl ?_
  refine v_istore C dX5_sundayGoes_38 (by decide) rfl ?_
  refine v_mem (ua_self μ 1).symm (V.norm (lp_X5_sundayGoes_40 hM hI C hQ (dn (μ.1 1) + 1) 0 _ _ (by omega) (Nat.zero_le _) rfl) rfl)

set_option maxRecDepth 100000 in
set_option maxHeartbeats 4000000 in
theorem lp_X5_sundaysGo_2 {w : WC} {x : Cy} {μ : Me} (hM : Md w) (hI : IvD (μ.1 1)) {a : Int32} {t : Nat} (ht : t < 1000) (ha : a = nI t)  (C : Cx w x cX5_sundaysGo 3 RX5 none (Rm 4 97)) (hQ : y_Q x = MQ (y_b x) (QV w (Pv (ua μ 1 (suN t (μ.1 1))))) (y_a x) (y_s x) 0 0 (AA w)) : ∀ (m i : Nat), t + 1 ≤ i + m → i ≤ t → V w x 3 (ua μ 1 (suN i (μ.1 1))) 2 [(0, .ref (w_ad w 0)), (1, .int a), (2, .int (nI i))] [] := by
  intro m
  induction m with
  | zero =>
    intro i  hm hi
    exact absurd hm (by omega)
  | succ m ih =>
    intro i  hm hi 
    subst ha
    have hs : (ua μ 1 (suN i (μ.1 1))).1 1 = suN i (μ.1 1) := ua_s _ _ _
    refine v_iload_n C dX5_sundaysGo_2 rfl rfl ?_
    refine v_iload_n C dX5_sundaysGo_3 rfl rfl ?_
    refine v_icmp_ge C 17 7 dX5_sundaysGo_4 (by decide) rfl (fun h4 => ?_) (fun h4 => ?_)
    · have g : i = t := by have := (le_n (a := t) (b := i) (by omega) (by omega)).mp h4; omega
      exact v_vret C hQ dX5_sundaysGo_17 (by rw [g])
    · have g : i < t := by rcases Nat.lt_or_ge i (t) with q | q; exact q; exact absurd ((le_n (a := t) (b := i) (by omega) (by omega)).mpr q) h4
      refine v_aload_n C dX5_sundaysGo_7 rfl rfl ?_
      refine v_vV C dX5_sundaysGo_8 mi_X5_sundayGoes (c_X5_sundayGoes hM (by rw [hs]; exact IvD_n hI i)) rfl hM.1.1 hM.1.2 rfl ml_X5_92 (rk_of rfl) rfl (Nat.le_of_ble_eq_true rfl) rfl (pv_k ?_)
      refine v_iincN C dX5_sundaysGo_11 rfl (by decide) rfl ?_
      refine v_goto C 2 dX5_sundaysGo_14 (by decide) ?_
      refine v_mem ?_ (V.norm (ih (i + 1) (by omega) (by omega)) rfl)
      rw [hs, ua_ua]
      rfl
set_option maxRecDepth 100000 in
set_option maxHeartbeats 4000000 in
theorem c_X5_sundaysGo {l : Launch} {w : WC} {μ : Me} (hM : Md w) (hI : IvD (μ.1 1)) {a : Int32} {t : Nat} (ht : t < 1000) (ha : a = nI t) : CtV l w yX5_sundaysGo cX5_sundaysGo 3 (Rm 4 97) [.ref (w_ad w 0), .int a] μ (Pv (ua μ 1 (suN t (μ.1 1)))) := by
  refine Ct.mk (own := RX5) rfl (by decide) (Nat.le_of_ble_eq_true rfl) (fun x hxl C hQ => ?_)
  subst hxl
  refine v_iconst C dX5_sundaysGo_0 ic_0 rfl ?_
  refine v_istore_n C dX5_sundaysGo_1 (by decide) rfl ?_
  refine v_mem (ua_self μ 1).symm (V.norm (lp_X5_sundaysGo_2 hM hI ht ha C hQ (t + 1) 0 (by omega) (by omega)) rfl)
