set_option maxRecDepth 100000 in
set_option maxHeartbeats 4000000 in
theorem c_X3_tokenOf {l : Launch} {w : WC} {μ : Me} {v : Int32} : CtI l w yX3_tokenOf cX3_tokenOf 1 (some .int) (Rm 0 0) [.int v] μ (Px (nI (ty (nb v))) μ) := by
  refine Ct.mk (own := RX3) rfl (by decide) (Nat.le_of_ble_eq_true rfl) (fun x hxl C hQ => ?_)
  subst hxl
  refine v_iload_n C dX3_tokenOf_0 rfl rfl ?_
  refine v_bipush C dX3_tokenOf_1 bp_97 rfl ?_
  refine v_icmp_lt C 14 6 dX3_tokenOf_3 (by decide) rfl (fun h3 => ?_) (fun h3 => ?_)
  · refine v_iload_n C dX3_tokenOf_14 rfl rfl ?_
    refine v_bipush C dX3_tokenOf_15 bp_48 rfl ?_
    refine v_icmp_lt C 28 20 dX3_tokenOf_17 (by decide) rfl (fun h17 => ?_) (fun h17 => ?_)
    · refine v_iload_n C dX3_tokenOf_28 rfl rfl ?_
      refine v_bipush C dX3_tokenOf_29 bp_59 rfl ?_
      refine v_icmp_ne C 38 34 dX3_tokenOf_31 (by decide) rfl (fun h31 => ?_) (fun h31 => ?_)
      · refine v_iconst C dX3_tokenOf_38 ic_4 rfl ?_
        exact v_iret C hQ dX3_tokenOf_39 ⟨(show tokS v = _ from ((if_neg (fun h => absurd h.1 (Int32.not_le.mpr h3))).trans ((if_neg (fun h => absurd h.1 (Int32.not_le.mpr h17))).trans (if_neg h31)))).symm.trans (tok_ty v), rfl⟩
      · refine v_iconst C dX3_tokenOf_34 ic_3 rfl ?_
        refine v_goto C 39 dX3_tokenOf_35 (by decide) ?_
        exact v_iret C hQ dX3_tokenOf_39 ⟨(show tokS v = _ from ((if_neg (fun h => absurd h.1 (Int32.not_le.mpr h3))).trans ((if_neg (fun h => absurd h.1 (Int32.not_le.mpr h17))).trans (if_pos h31)))).symm.trans (tok_ty v), rfl⟩
    · refine v_iload_n C dX3_tokenOf_20 rfl rfl ?_
      refine v_bipush C dX3_tokenOf_21 bp_57 rfl ?_
      refine v_icmp_gt C 28 26 dX3_tokenOf_23 (by decide) rfl (fun h23 => ?_) (fun h23 => ?_)
      · refine v_iload_n C dX3_tokenOf_28 rfl rfl ?_
        refine v_bipush C dX3_tokenOf_29 bp_59 rfl ?_
        refine v_icmp_ne C 38 34 dX3_tokenOf_31 (by decide) rfl (fun h31 => ?_) (fun h31 => ?_)
        · refine v_iconst C dX3_tokenOf_38 ic_4 rfl ?_
          exact v_iret C hQ dX3_tokenOf_39 ⟨(show tokS v = _ from ((if_neg (fun h => absurd h.1 (Int32.not_le.mpr h3))).trans ((if_neg (fun h => absurd h.2 (Int32.not_le.mpr h23))).trans (if_neg h31)))).symm.trans (tok_ty v), rfl⟩
        · refine v_iconst C dX3_tokenOf_34 ic_3 rfl ?_
          refine v_goto C 39 dX3_tokenOf_35 (by decide) ?_
          exact v_iret C hQ dX3_tokenOf_39 ⟨(show tokS v = _ from ((if_neg (fun h => absurd h.1 (Int32.not_le.mpr h3))).trans ((if_neg (fun h => absurd h.2 (Int32.not_le.mpr h23))).trans (if_pos h31)))).symm.trans (tok_ty v), rfl⟩
      · refine v_iconst C dX3_tokenOf_26 ic_2 rfl ?_
        exact v_iret C hQ dX3_tokenOf_27 ⟨(show tokS v = _ from ((if_neg (fun h => absurd h.1 (Int32.not_le.mpr h3))).trans (if_pos ⟨Int32.not_lt.mp h17, Int32.not_lt.mp h23⟩))).symm.trans (tok_ty v), rfl⟩
  · refine v_iload_n C dX3_tokenOf_6 rfl rfl ?_
    refine v_bipush C dX3_tokenOf_7 bp_122 rfl ?_
    refine v_icmp_gt C 14 12 dX3_tokenOf_9 (by decide) rfl (fun h9 => ?_) (fun h9 => ?_)
    · refine v_iload_n C dX3_tokenOf_14 rfl rfl ?_
      refine v_bipush C dX3_tokenOf_15 bp_48 rfl ?_
      refine v_icmp_lt C 28 20 dX3_tokenOf_17 (by decide) rfl (fun h17 => ?_) (fun h17 => ?_)
      · refine v_iload_n C dX3_tokenOf_28 rfl rfl ?_
        refine v_bipush C dX3_tokenOf_29 bp_59 rfl ?_
        refine v_icmp_ne C 38 34 dX3_tokenOf_31 (by decide) rfl (fun h31 => ?_) (fun h31 => ?_)
        · refine v_iconst C dX3_tokenOf_38 ic_4 rfl ?_
          exact v_iret C hQ dX3_tokenOf_39 ⟨(show tokS v = _ from ((if_neg (fun h => absurd h.2 (Int32.not_le.mpr h9))).trans ((if_neg (fun h => absurd h.1 (Int32.not_le.mpr h17))).trans (if_neg h31)))).symm.trans (tok_ty v), rfl⟩
        · refine v_iconst C dX3_tokenOf_34 ic_3 rfl ?_
          refine v_goto C 39 dX3_tokenOf_35 (by decide) ?_
          exact v_iret C hQ dX3_tokenOf_39 ⟨(show tokS v = _ from ((if_neg (fun h => absurd h.2 (Int32.not_le.mpr h9))).trans ((if_neg (fun h => absurd h.1 (Int32.not_le.mpr h17))).trans (if_pos h31)))).symm.trans (tok_ty v), rfl⟩
      · refine v_iload_n C dX3_tokenOf_20 rfl rfl ?_
        refine v_bipush C dX3_tokenOf_21 bp_57 rfl ?_
        refine v_icmp_gt C 28 26 dX3_tokenOf_23 (by decide) rfl (fun h23 => ?_) (fun h23 => ?_)
        · refine v_iload_n C dX3_tokenOf_28 rfl rfl ?_
          refine v_bipush C dX3_tokenOf_29 bp_59 rfl ?_
          refine v_icmp_ne C 38 34 dX3_tokenOf_31 (by decide) rfl (fun h31 => ?_) (fun h31 => ?_)
          · refine v_iconst C dX3_tokenOf_38 ic_4 rfl ?_
            exact v_iret C hQ dX3_tokenOf_39 ⟨(show tokS v = _ from ((if_neg (fun h => absurd h.2 (Int32.not_le.mpr h9))).trans ((if_neg (fun h => absurd h.2 (Int32.not_le.mpr h23))).trans (if_neg h31)))).symm.trans (tok_ty v), rfl⟩
          · refine v_iconst C dX3_tokenOf_34 ic_3 rfl ?_
            refine v_goto C 39 dX3_tokenOf_35 (by decide) ?_
            exact v_iret C hQ dX3_tokenOf_39 ⟨(show tokS v = _ from ((if_neg (fun h => absurd h.2 (Int32.not_le.mpr h9))).trans ((if_neg (fun h => absurd h.2 (Int32.not_le.mpr h23))).trans (if_pos h31)))).symm.trans (tok_ty v), rfl⟩
        · refine v_iconst C dX3_tokenOf_26 ic_2 rfl ?_
          exact v_iret C hQ dX3_tokenOf_27 ⟨(show tokS v = _ from ((if_neg (fun h => absurd h.2 (Int32.not_le.mpr h9))).trans (if_pos ⟨Int32.not_lt.mp h17, Int32.not_lt.mp h23⟩))).symm.trans (tok_ty v), rfl⟩
    · refine v_iconst C dX3_tokenOf_12 ic_1 rfl ?_
      exact v_iret C hQ dX3_tokenOf_13 ⟨(show tokS v = _ from (if_pos ⟨Int32.not_lt.mp h3, Int32.not_lt.mp h9⟩)).symm.trans (tok_ty v), rfl⟩

set_option maxRecDepth 100000 in
set_option maxHeartbeats 4000000 in
theorem lp_X3_step_107 {w : WC} {x : Cy} {μ : Me} (hS : Sv w) {a : Nat → Nat} {n p : Nat} (hz : Tz μ a n) (hp : p ≤ n) (he : μ.1 40 4 = nI p) {b t : Nat} (C : Cx w x cX3_step 1 RX3 none (Rm 1 21)) (hQ : y_Q x = MQ (y_b x) (QV w (fun u => Fr μ u ∧ Tk u a n p)) (y_a x) (y_s x) 0 0 (AA w)) : ∀ (m i : Nat) (v : Nat), n + 1 ≤ i + m → i ≤ n → (Tq a n p b t v i) → V w x 1 (t4 μ (nI b) (nI t) (nI v) (nI i)) 107 [(0, .ref (w_ad w 40))] [] := by
  intro m
  induction m with
  | zero =>
    intro i v hm hi
    exact absurd hm (by omega)
  | succ m ih =>
    intro i v hm hi hq
    have hn := hz.2.1
    have ht4 : t ≤ 4 := by rw [← hq.2.1]; exact tT_r _ _ _
    have hv := hq.2.2.2.2.2.2
    refine v_aload_n C dX3_step_107 rfl rfl ?_
    refine g_X3_token C hS.2.2.2.2.1.1 dX3_step_108 fl_X3_32 rfl ?_
    refine v_eqi (t4_2 _ _ _ _ _) ?_
    refine v_iconst C dX3_step_111 ic_3 rfl ?_
    refine v_icmp_eq C 196 115 dX3_step_112 (by decide) rfl (fun h112 => ?_) (fun h112 => ?_)
    · have t3 : t = 3 := (eq_n (a := t) (b := 3) (by omega) (by decide)).mp h112
      exact v_vret C hQ dX3_step_196 ⟨t4_Fr _ _ _ _ _, Tq_end hn hq hi (Or.inl t3)⟩
    · have n3 : t ≠ 3 := fun h => h112 (by rw [h]; rfl)
      refine v_aload_n C dX3_step_115 rfl rfl ?_
      refine g_X3_end C hS.2.2.2.2.1.1 dX3_step_116 fl_X3_19 rfl ?_
      refine v_eqi (t4_4 _ _ _ _ _) ?_
      refine v_aload_n C dX3_step_119 rfl rfl ?_
      refine g_X3_length C hS.2.2.2.2.1.1 dX3_step_120 fl_X3_15 rfl ?_
      refine v_eqi ((t4_1 _ _ _ _ _).trans hz.1) ?_
      refine v_icmp_ge C 196 126 dX3_step_123 (by decide) rfl (fun h123 => ?_) (fun h123 => ?_)
      · have g : i = n := by have := (le_n (a := n) (b := i) (by omega) (by omega)).mp h123; omega
        exact v_vret C hQ dX3_step_196 ⟨t4_Fr _ _ _ _ _, Tq_end hn hq hi (Or.inr (Or.inl g))⟩
      · have g : i < n := by rcases Nat.lt_or_ge i (n) with q | q; exact q; exact absurd ((le_n (a := n) (b := i) (by omega) (by omega)).mpr q) h123
        refine v_aload_n C dX3_step_126 rfl rfl ?_
        refine g_X3_bytes C hS.2.2.2.2.1.1 dX3_step_127 fl_X3_9 rfl ?_
        refine v_aload_n C dX3_step_130 rfl rfl ?_
        refine g_X3_end C hS.2.2.2.2.1.1 dX3_step_131 fl_X3_19 rfl ?_
        refine v_eqi (t4_4 _ _ _ _ _) ?_
        refine a_I C hS.2.2.2.2.1.2 (by decide) dX3_step_134 (i) rfl (by omega) rfl ?_
        refine v_eqi (congrFun (t4_o _ _ _ _ _ (by decide)) i) ?_
        refine v_iS C dX3_step_135 ms_X3_tokenOf c_X3_tokenOf rfl ml_X3_103 (rk_of rfl) rfl (Nat.le_of_ble_eq_true rfl) rfl (px_k ?_)
        refine v_aload_n C dX3_step_138 rfl rfl ?_
        refine g_X3_token C hS.2.2.2.2.1.1 dX3_step_139 fl_X3_32 rfl ?_
        refine v_eqi (t4_2 _ _ _ _ _) ?_
        refine v_icmp_ne C 196 145 dX3_step_142 (by decide) rfl (fun h142 => ?_) (fun h142 => ?_)
        · have ht : ty (a i) ≠ t := fun h => h142 (by rw [hz.2.2 i g, h])
          exact v_vret C hQ dX3_step_196 ⟨t4_Fr _ _ _ _ _, Tq_end hn hq hi (Or.inr (Or.inr ht))⟩
        · have ht : ty (a i) = t := by rw [hz.2.2 i g] at h142; have q := ty_r (a i); exact (eq_n (by omega) (by omega)).mp h142
          refine v_aload_n C dX3_step_145 rfl rfl ?_
          refine g_X3_token C hS.2.2.2.2.1.1 dX3_step_146 fl_X3_32 rfl ?_
          refine v_eqi (t4_2 _ _ _ _ _) ?_
          refine v_iconst C dX3_step_149 ic_2 rfl ?_
          refine v_icmp_ne C 183 153 dX3_step_150 (by decide) rfl (fun h150 => ?_) (fun h150 => ?_)
          · have n2 : t ≠ 2 := fun h => h150 (by rw [h]; rfl)
            refine v_aload_n C dX3_step_183 rfl rfl ?_
            refine v_dup C dX3_step_184 rfl rfl ?_
            refine g_X3_end C hS.2.2.2.2.1.1 dX3_step_185 fl_X3_19 rfl ?_
            refine v_eqi (t4_4 _ _ _ _ _) ?_
            refine v_iconst C dX3_step_188 ic_1 rfl ?_
            refine v_iadd C dX3_step_189 rfl ?_
            refine p_X3_end C hS.2.2.2.2.1.1 dX3_step_190 fl_X3_19 rfl ?_
            refine v_goto C 107 dX3_step_193 (by decide) ?_
            refine v_mem ?_ (V.norm (ih (i + 1) v (by omega) (by omega) (Tq_step hq n3 n2 ht)) rfl)
            exact (t4_e _ _ _ _ _ _).trans (by rw [nI_1])
          · have t2 : t = 2 := (eq_n (a := t) (b := 2) (by omega) (by decide)).mp h150
            have hc := ty_2.mp (ht.trans t2)
            have ec : μ.1 41 i = nI (a i) := by have q := hz.2.2 i g; exact (nb_eq (by omega)).mpr q
            refine v_aload_n C dX3_step_153 rfl rfl ?_
            refine v_sipush C dX3_step_154 sp_10000 rfl ?_
            refine v_aload_n C dX3_step_157 rfl rfl ?_
            refine g_X3_value C hS.2.2.2.2.1.1 dX3_step_158 fl_X3_82 rfl ?_
            refine v_eqi (t4_5 _ _ _ _ _) ?_
            refine v_bipush C dX3_step_161 bp_10 rfl ?_
            refine v_imul C dX3_step_163 rfl ?_
            refine v_aload_n C dX3_step_164 rfl rfl ?_
            refine g_X3_bytes C hS.2.2.2.2.1.1 dX3_step_165 fl_X3_9 rfl ?_
            refine v_aload_n C dX3_step_168 rfl rfl ?_
            refine g_X3_end C hS.2.2.2.2.1.1 dX3_step_169 fl_X3_19 rfl ?_
            refine v_eqi (t4_4 _ _ _ _ _) ?_
            refine a_I C hS.2.2.2.2.1.2 (by decide) dX3_step_172 (i) rfl (by omega) rfl ?_
            refine v_eqi ((congrFun (t4_o _ _ _ _ _ (by decide)) i).trans ec) ?_
            refine v_iadd C dX3_step_173 rfl ?_
            refine v_bipush C dX3_step_174 bp_48 rfl ?_
            refine v_isub C dX3_step_176 rfl ?_
            refine v_mmin C dX3_step_177 ml_X3_106 st_min in_J9 co_min (by decide) (Nat.le_of_ble_eq_true rfl) rfl ?_
            refine v_eqi (num_n hv hc.1 hc.2) ?_
            refine p_X3_value C hS.2.2.2.2.1.1 dX3_step_180 fl_X3_82 rfl ?_
            refine v_mem (t4_v _ _ _ _ _ _) ?_
            refine v_aload_n C dX3_step_183 rfl rfl ?_
            refine v_dup C dX3_step_184 rfl rfl ?_
            refine g_X3_end C hS.2.2.2.2.1.1 dX3_step_185 fl_X3_19 rfl ?_
            refine v_eqi (t4_4 _ _ _ _ _) ?_
            refine v_iconst C dX3_step_188 ic_1 rfl ?_
            refine v_iadd C dX3_step_189 rfl ?_
            refine p_X3_end C hS.2.2.2.2.1.1 dX3_step_190 fl_X3_19 rfl ?_
            refine v_goto C 107 dX3_step_193 (by decide) ?_
            refine v_mem ?_ (V.norm (ih (i + 1) (if 10000 < v * 10 + (a i - 48) then 10000 else v * 10 + (a i - 48)) (by omega) (by omega) ?_) rfl)
            · rw [t4_e, nI_1]
            · have q := Tq_num (t2 ▸ hq) (ht.trans t2)
              rw [t2]; exact q
set_option maxRecDepth 100000 in
set_option maxHeartbeats 4000000 in
theorem lp_X3_step_8 {w : WC} {x : Cy} {μ : Me} (hS : Sv w) {a : Nat → Nat} {n p : Nat} (hz : Tz μ a n) (hp : p ≤ n) (he : μ.1 40 4 = nI p)  (C : Cx w x cX3_step 1 RX3 none (Rm 1 21)) (hQ : y_Q x = MQ (y_b x) (QV w (fun u => Fr μ u ∧ Tk u a n p)) (y_a x) (y_s x) 0 0 (AA w)) : ∀ (m i : Nat), n + 1 ≤ i + m → i ≤ n → (p ≤ i) → (∀ j, p ≤ j → j < i → a j = 32) → V w x 1 (up μ 40 3 (nI i)) 8 [(0, .ref (w_ad w 40))] [] := by
  intro m
  induction m with
  | zero =>
    intro i  hm hi
    exact absurd hm (by omega)
  | succ m ih =>
    intro i  hm hi hpi hsp
    have hn := hz.2.1
    refine v_aload_n C dX3_step_8 rfl rfl ?_
    refine g_X3_begin C hS.2.2.2.2.1.1 dX3_step_9 fl_X3_29 rfl ?_
    refine v_eqi (up_s _ _ _ _) ?_
    refine v_aload_n C dX3_step_12 rfl rfl ?_
    refine g_X3_length C hS.2.2.2.2.1.1 dX3_step_13 fl_X3_15 rfl ?_
    refine v_eqi ((up_i _ _ _ (by decide)).trans hz.1) ?_
    refine v_icmp_ge C 46 19 dX3_step_16 (by decide) rfl (fun h16 => ?_) (fun h16 => ?_)
    · have g : i = n := by have := (le_n (a := n) (b := i) (by omega) (by omega)).mp h16; omega
      have hB : tB a n p = i := tB_u hn hpi hi hsp (Or.inl g)
      have hT : tT a n p = 0 := by unfold tT; rw [hB, if_neg (by omega)]
      refine v_aload_n C dX3_step_46 rfl rfl ?_
      refine v_aload_n C dX3_step_47 rfl rfl ?_
      refine g_X3_begin C hS.2.2.2.2.1.1 dX3_step_48 fl_X3_29 rfl ?_
      refine v_eqi (up_s _ _ _ _) ?_
      refine v_aload_n C dX3_step_51 rfl rfl ?_
      refine g_X3_length C hS.2.2.2.2.1.1 dX3_step_52 fl_X3_15 rfl ?_
      refine v_eqi ((up_i _ _ _ (by decide)).trans hz.1) ?_
      refine v_icmp_ge C 73 58 dX3_step_55 (by decide) rfl (fun h55 => ?_) (fun h55 => ?_)
      · refine v_iconst C dX3_step_73 ic_0 rfl ?_
        refine p_X3_token C hS.2.2.2.2.1.1 dX3_step_74 fl_X3_32 rfl ?_
        refine v_aload_n C dX3_step_77 rfl rfl ?_
        refine v_aload_n C dX3_step_78 rfl rfl ?_
        refine g_X3_token C hS.2.2.2.2.1.1 dX3_step_79 fl_X3_32 rfl ?_
        refine v_eqi (up_s _ _ _ _) ?_
        refine v_iconst C dX3_step_82 ic_3 rfl ?_
        refine v_icmp_ne C 95 86 dX3_step_83 (by decide) rfl (fun h83 => ?_) (fun h83 => ?_)
        · try have n3 : ¬ ty (a i) = 3 := fun h => h83 (by rw [h]; rfl)
          refine v_aload_n C dX3_step_95 rfl rfl ?_
          refine g_X3_begin C hS.2.2.2.2.1.1 dX3_step_96 fl_X3_29 rfl ?_
          refine v_eqi ((up_i _ _ _ (by decide)).trans (up_s _ _ _ _)) ?_
          refine p_X3_end C hS.2.2.2.2.1.1 dX3_step_99 fl_X3_19 rfl ?_
          refine v_aload_n C dX3_step_102 rfl rfl ?_
          refine v_iconst C dX3_step_103 ic_0 rfl ?_
          refine p_X3_value C hS.2.2.2.2.1.1 dX3_step_104 fl_X3_82 rfl ?_
          refine v_mem (t4_mk _ _ _ _ _) ?_
          exact V.norm (lp_X3_step_107 (μ := μ) hS hz hp he C hQ (b := i) (t := 0) (n + 1) i 0 (by omega) (by omega) ⟨hB, hT, by omega, by omega, fun _ j x y => by omega, by omega, by omega⟩) rfl
        · exact absurd h83 (by decide)
      · exact absurd ((le_n (a := n) (b := i) (by omega) (by omega)).mpr (by omega)) h55
    · have g : i < n := by rcases Nat.lt_or_ge i (n) with q | q; exact q; exact absurd ((le_n (a := n) (b := i) (by omega) (by omega)).mpr q) h16
      refine v_aload_n C dX3_step_19 rfl rfl ?_
      refine g_X3_bytes C hS.2.2.2.2.1.1 dX3_step_20 fl_X3_9 rfl ?_
      refine v_aload_n C dX3_step_23 rfl rfl ?_
      refine g_X3_begin C hS.2.2.2.2.1.1 dX3_step_24 fl_X3_29 rfl ?_
      refine v_eqi (up_s _ _ _ _) ?_
      refine a_I C hS.2.2.2.2.1.2 (by decide) dX3_step_27 (i) rfl (by omega) rfl ?_
      refine v_eqi (congrFun (up_n _ _ _ (by decide)) i) ?_
      refine v_bipush C dX3_step_28 bp_32 rfl ?_
      refine v_icmp_ne C 46 33 dX3_step_30 (by decide) rfl (fun h30 => ?_) (fun h30 => ?_)
      · have hB : tB a n p = i := tB_u hn hpi hi hsp (Or.inr (fun h => h30 ((nb_eq (c := 32) (by decide)).mpr ((hz.2.2 i g).trans h))))
        have hT : tT a n p = ty (a i) := by unfold tT; rw [hB, if_pos g]
        refine v_aload_n C dX3_step_46 rfl rfl ?_
        refine v_aload_n C dX3_step_47 rfl rfl ?_
        refine g_X3_begin C hS.2.2.2.2.1.1 dX3_step_48 fl_X3_29 rfl ?_
        refine v_eqi (up_s _ _ _ _) ?_
        refine v_aload_n C dX3_step_51 rfl rfl ?_
        refine g_X3_length C hS.2.2.2.2.1.1 dX3_step_52 fl_X3_15 rfl ?_
        refine v_eqi ((up_i _ _ _ (by decide)).trans hz.1) ?_
        refine v_icmp_ge C 73 58 dX3_step_55 (by decide) rfl (fun h55 => ?_) (fun h55 => ?_)
        · exact absurd ((le_n (a := n) (b := i) (by omega) (by omega)).mp h55) (by omega)
        · refine v_aload_n C dX3_step_58 rfl rfl ?_
          refine g_X3_bytes C hS.2.2.2.2.1.1 dX3_step_59 fl_X3_9 rfl ?_
          refine v_aload_n C dX3_step_62 rfl rfl ?_
          refine g_X3_begin C hS.2.2.2.2.1.1 dX3_step_63 fl_X3_29 rfl ?_
          refine v_eqi (up_s _ _ _ _) ?_
          refine a_I C hS.2.2.2.2.1.2 (by decide) dX3_step_66 (i) rfl (by omega) rfl ?_
          refine v_eqi (congrFun (up_n _ _ _ (by decide)) i) ?_
          refine v_iS C dX3_step_67 ms_X3_tokenOf c_X3_tokenOf rfl ml_X3_103 (rk_of rfl) rfl (Nat.le_of_ble_eq_true rfl) rfl (px_k ?_)
          refine v_eqi (b := nI (ty (a i))) (by rw [hz.2.2 i g]) ?_
          refine v_goto C 74 dX3_step_70 (by decide) ?_
          refine p_X3_token C hS.2.2.2.2.1.1 dX3_step_74 fl_X3_32 rfl ?_
          refine v_aload_n C dX3_step_77 rfl rfl ?_
          refine v_aload_n C dX3_step_78 rfl rfl ?_
          refine g_X3_token C hS.2.2.2.2.1.1 dX3_step_79 fl_X3_32 rfl ?_
          refine v_eqi (up_s _ _ _ _) ?_
          refine v_iconst C dX3_step_82 ic_3 rfl ?_
          refine v_icmp_ne C 95 86 dX3_step_83 (by decide) rfl (fun h83 => ?_) (fun h83 => ?_)
          · try have n3 : ¬ ty (a i) = 3 := fun h => h83 (by rw [h]; rfl)
            refine v_aload_n C dX3_step_95 rfl rfl ?_
            refine g_X3_begin C hS.2.2.2.2.1.1 dX3_step_96 fl_X3_29 rfl ?_
            refine v_eqi ((up_i _ _ _ (by decide)).trans (up_s _ _ _ _)) ?_
            refine p_X3_end C hS.2.2.2.2.1.1 dX3_step_99 fl_X3_19 rfl ?_
            refine v_aload_n C dX3_step_102 rfl rfl ?_
            refine v_iconst C dX3_step_103 ic_0 rfl ?_
            refine p_X3_value C hS.2.2.2.2.1.1 dX3_step_104 fl_X3_82 rfl ?_
            refine v_mem (t4_mk _ _ _ _ _) ?_
            exact V.norm (lp_X3_step_107 (μ := μ) hS hz hp he C hQ (b := i) (t := (ty (a i))) (n + 1) i 0 (by omega) (by omega) ⟨hB, hT, by omega, fun h => absurd h n3, fun _ j x y => by omega, fun _ => by rw [Nat.sub_self]; rfl, by omega⟩) rfl
          · have t3 : ty (a i) = 3 := by have q := ty_r (a i); exact (eq_n (a := ty (a i)) (b := 3) (by omega) (by decide)).mp h83
            refine v_aload_n C dX3_step_86 rfl rfl ?_
            refine g_X3_begin C hS.2.2.2.2.1.1 dX3_step_87 fl_X3_29 rfl ?_
            refine v_eqi ((up_i _ _ _ (by decide)).trans (up_s _ _ _ _)) ?_
            refine v_iconst C dX3_step_90 ic_1 rfl ?_
            refine v_iadd C dX3_step_91 rfl ?_
            refine v_goto C 99 dX3_step_92 (by decide) ?_
            refine p_X3_end C hS.2.2.2.2.1.1 dX3_step_99 fl_X3_19 rfl ?_
            refine v_aload_n C dX3_step_102 rfl rfl ?_
            refine v_iconst C dX3_step_103 ic_0 rfl ?_
            refine p_X3_value C hS.2.2.2.2.1.1 dX3_step_104 fl_X3_82 rfl ?_
            refine v_mem (t4_mk _ _ _ _ _) ?_
            refine v_mem (μ' := t4 μ (nI i) (nI (ty (a i))) (nI 0) (nI (i + 1))) (by rw [nI_1]; rfl) ?_
            exact V.norm (lp_X3_step_107 (μ := μ) hS hz hp he C hQ (b := i) (t := (ty (a i))) (n + 1) (i + 1) 0 (by omega) (by omega) ⟨hB, hT, by omega, fun _ => rfl, fun h => absurd t3 h, fun h => by omega, by omega⟩) rfl
      · have h32 : a i = 32 := by rw [← hz.2.2 i g]; exact (nb_eq (c := 32) (by decide)).mp h30
        refine v_aload_n C dX3_step_33 rfl rfl ?_
        refine v_dup C dX3_step_34 rfl rfl ?_
        refine g_X3_begin C hS.2.2.2.2.1.1 dX3_step_35 fl_X3_29 rfl ?_
        refine v_eqi (up_s _ _ _ _) ?_
        refine v_iconst C dX3_step_38 ic_1 rfl ?_
        refine v_iadd C dX3_step_39 rfl ?_
        refine p_X3_begin C hS.2.2.2.2.1.1 dX3_step_40 fl_X3_29 rfl ?_
        refine v_goto C 8 dX3_step_43 (by decide) ?_
        refine v_mem ?_ (V.norm (ih (i + 1) (by omega) (by omega) (by omega) (fun j x y => ?_)) rfl)
        · rw [up_up, nI_1]
        · by_cases z : j = i
          · subst z; exact h32
          · exact hsp j x (by omega)
set_option maxRecDepth 100000 in
set_option maxHeartbeats 4000000 in
theorem c_X3_step {l : Launch} {w : WC} {μ : Me} (hS : Sv w) {a : Nat → Nat} {n p : Nat} (hz : Tz μ a n) (hp : p ≤ n) (he : μ.1 40 4 = nI p) : CtV l w yX3_step cX3_step 1 (Rm 1 21) [.ref (w_ad w 40)] μ (fun u => Fr μ u ∧ Tk u a n p) := by
  refine Ct.mk (own := RX3) rfl (by decide) (Nat.le_of_ble_eq_true rfl) (fun x hxl C hQ => ?_)
  subst hxl
  refine v_aload_n C dX3_step_0 rfl rfl ?_
  refine v_aload_n C dX3_step_1 rfl rfl ?_
  refine g_X3_end C hS.2.2.2.2.1.1 dX3_step_2 fl_X3_19 rfl ?_
  refine v_eqi (he) ?_
  refine p_X3_begin C hS.2.2.2.2.1.1 dX3_step_5 fl_X3_29 rfl ?_
  exact V.norm (lp_X3_step_8 (μ := μ) hS hz hp he C hQ (n + 1) p (by omega) hp (Nat.le_refl _) (fun j x y => by omega)) rfl
