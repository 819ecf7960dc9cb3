set_option maxRecDepth 100000 in
set_option maxHeartbeats 4000000 in
theorem c_X5_letter {l : Launch} {w : WC} {μ : Me} {v : Int32} : CtI l w yX5_letter cX5_letter 1 (some .int) (Rm 0 0) [.int v] μ (Px (nI (leN (nb v))) μ) := by
  refine Ct.mk (own := RX5) rfl (by decide) (Nat.le_of_ble_eq_true rfl) (fun x hxl C hQ => ?_)
  subst hxl
  refine v_iload_n C dX5_letter_0 rfl rfl ?_
  refine v_bipush C dX5_letter_1 bp_97 rfl ?_
  refine v_icmp_lt C 21 6 dX5_letter_3 (by decide) rfl (fun h3 => ?_) (fun h3 => ?_)
  · refine v_iconst C dX5_letter_21 ic_0 rfl ?_
    exact v_iret C hQ dX5_letter_22 ⟨le_0 (fun h => Int32.not_le.mpr h3 h.1), rfl⟩
  · refine v_iload_n C dX5_letter_6 rfl rfl ?_
    refine v_bipush C dX5_letter_7 bp_122 rfl ?_
    refine v_icmp_gt C 21 12 dX5_letter_9 (by decide) rfl (fun h9 => ?_) (fun h9 => ?_)
    · refine v_iconst C dX5_letter_21 ic_0 rfl ?_
      exact v_iret C hQ dX5_letter_22 ⟨le_0 (fun h => Int32.not_le.mpr h9 h.2), rfl⟩
    · refine v_iload_n C dX5_letter_12 rfl rfl ?_
      refine v_bipush C dX5_letter_13 bp_97 rfl ?_
      refine v_isub C dX5_letter_15 rfl ?_
      refine v_iconst C dX5_letter_16 ic_1 rfl ?_
      refine v_iadd C dX5_letter_17 rfl ?_
      refine v_goto C 22 dX5_letter_18 (by decide) ?_
      exact v_iret C hQ dX5_letter_22 ⟨le_s (Int32.not_lt.mp h3) (Int32.not_lt.mp h9), rfl⟩

set_option maxRecDepth 100000 in
set_option maxHeartbeats 4000000 in
theorem c_X5_isDigit {l : Launch} {w : WC} {μ : Me} {v : Int32} : CtI l w yX5_isDigit cX5_isDigit 1 (some .boolean) (Rm 0 0) [.int v] μ (Px (diS v) μ) := by
  refine Ct.mk (own := RX5) rfl (by decide) (Nat.le_of_ble_eq_true rfl) (fun x hxl C hQ => ?_)
  subst hxl
  refine v_iload_n C dX5_isDigit_0 rfl rfl ?_
  refine v_bipush C dX5_isDigit_1 bp_48 rfl ?_
  refine v_icmp_lt C 16 6 dX5_isDigit_3 (by decide) rfl (fun h3 => ?_) (fun h3 => ?_)
  · refine v_iconst C dX5_isDigit_16 ic_0 rfl ?_
    exact v_zret C hQ dX5_isDigit_17 rfl ⟨(if_neg (fun h => Int32.not_le.mpr h3 (di_i.mpr h).1)).symm, rfl⟩
  · refine v_iload_n C dX5_isDigit_6 rfl rfl ?_
    refine v_bipush C dX5_isDigit_7 bp_57 rfl ?_
    refine v_icmp_gt C 16 12 dX5_isDigit_9 (by decide) rfl (fun h9 => ?_) (fun h9 => ?_)
    · refine v_iconst C dX5_isDigit_16 ic_0 rfl ?_
      exact v_zret C hQ dX5_isDigit_17 rfl ⟨(if_neg (fun h => Int32.not_le.mpr h9 (di_i.mpr h).2)).symm, rfl⟩
    · refine v_iconst C dX5_isDigit_12 ic_1 rfl ?_
      refine v_goto C 17 dX5_isDigit_13 (by decide) ?_
      exact v_zret C hQ dX5_isDigit_17 rfl ⟨(if_pos (di_i.mp ⟨Int32.not_lt.mp h3, Int32.not_lt.mp h9⟩)).symm, rfl⟩

set_option maxRecDepth 100000 in
set_option maxHeartbeats 4000000 in
theorem c_X5_byteAt {l : Launch} {w : WC} {μ : Me} (hM : Md w) {n i : Nat} (hn : n ≤ 120) (h7 : μ.1 0 7 = nI n) (hi : i ≤ 120) : CtI l w yX5_byteAt cX5_byteAt 2 (some .int) (Rm 0 0) [.ref (w_ad w 0), .int (nI i)] μ (Px (bA μ n i) μ) := by
  refine Ct.mk (own := RX5) rfl (by decide) (Nat.le_of_ble_eq_true rfl) (fun x hxl C hQ => ?_)
  subst hxl
  refine v_iload_n C dX5_byteAt_0 rfl rfl ?_
  refine v_aload_n C dX5_byteAt_1 rfl rfl ?_
  refine g_X5_taped C hM.1 dX5_byteAt_2 fl_X5_189 rfl ?_
  refine v_eqi (h7) ?_
  refine v_icmp_ge C 17 8 dX5_byteAt_5 (by decide) rfl (fun h5 => ?_) (fun h5 => ?_)
  · have g : ¬ i < n := by have := (le_n (a := n) (b := i) (by omega) (by omega)).mp h5; omega
    refine v_iconst C dX5_byteAt_17 ic_m1 rfl ?_
    exact v_iret C hQ dX5_byteAt_18 ⟨(if_neg g).symm, rfl⟩
  · have g : i < n := by rcases Nat.lt_or_ge i n with q | q; exact q; exact absurd ((le_n (a := n) (b := i) (by omega) (by omega)).mpr q) h5
    refine v_aload_n C dX5_byteAt_8 rfl rfl ?_
    refine g_X5_tape C hM.1 dX5_byteAt_9 fl_X5_25 rfl ?_
    refine v_iload_n C dX5_byteAt_12 rfl rfl ?_
    refine a_B C hM.2.2.2.2.2.2.1 (by decide) dX5_byteAt_13 (i) rfl (by omega) rfl ?_
    refine v_goto C 18 dX5_byteAt_14 (by decide) ?_
    exact v_iret C hQ dX5_byteAt_18 ⟨(if_pos g).symm, rfl⟩

set_option maxRecDepth 100000 in
set_option maxHeartbeats 4000000 in
theorem lp_X5_next_185 {w : WC} {x : Cy} {μ : Me} (hM : Md w) {a : Nat → Nat} {n p : Nat} (hz : Zm μ a n) (hp : p ≤ n) (he : μ.1 0 8 = nI p) {b : Nat} {c : Int32} (C : Cx w x cX5_next 2 RX5 none (Rm 1 21)) (hQ : y_Q x = MQ (y_b x) (QV w (fun u => Fm μ u ∧ Tm u a n p)) (y_a x) (y_s x) 0 0 (AA w)) : ∀ (m i : Nat), n + 1 ≤ i + m → i ≤ n → (Mq a n p b 2 i) → V w x 2 (m4 μ 2 (nI b) (nI i) (lN (nvM a b (i - b)))) 185 [(0, .ref (w_ad w 0)), (1, .int c)] [] := by
  intro m
  induction m with
  | zero =>
    intro i  hm hi
    exact absurd hm (by omega)
  | succ m ih =>
    intro i  hm hi hq
    have hn := hz.2.1
    have hw := Mq_n hq
    refine v_aload_n C dX5_next_185 rfl rfl ?_
    refine v_aload_n C dX5_next_186 rfl rfl ?_
    refine g_X5_at C hM.1 dX5_next_187 fl_X5_193 rfl ?_
    refine v_eqi (m4_8 _ _ _ _ _) ?_
    refine v_iV C dX5_next_190 mi_X5_byteAt (c_X5_byteAt hM (n := n) (i := i) hz.2.1 ((m4_j _ _ _ _ _ (by decide) (by decide) (by decide)).trans hz.1) (by omega)) rfl hM.1.1 hM.1.2 rfl ml_X5_196 (rk_of rfl) rfl (Nat.le_of_ble_eq_true rfl) rfl (px_k ?_)
    refine v_eqi (b := bA μ n i) (bA_m (m4_o _ _ _ _ _ (by decide))) ?_
    refine v_iS C dX5_next_193 ms_X5_isDigit c_X5_isDigit rfl ml_X5_216 (rk_of rfl) rfl (Nat.le_of_ble_eq_true rfl) rfl (px_k ?_)
    refine v_if_eq C 261 199 dX5_next_196 (by decide) rfl (fun h196 => ?_) (fun h196 => ?_)
    · have hx : ¬ (i < n ∧ ty (a i) = 2) := ax_n (fun q => by unfold diS at h196; rw [bA_n hz, if_pos q] at h196; exact absurd h196 (by decide))
      exact v_vret C hQ dX5_next_261 ⟨m4_Fm _ _ _ _ _, Tm_2 hn hq hi hx⟩
    · have ht := ax_t (a := a) (n := n) (i := i) (t := 2) (by decide) (Decidable.not_not.mp (fun q => h196 (by unfold diS; rw [bA_n hz]; exact if_neg q)))
      have hc := ty_2.mp ht.2
      have eb : bA μ n i = nI (a i) := (nb_eq (by omega)).mpr ((bA_n hz).trans (ax_i ht.1))
      refine v_aload_n C dX5_next_199 rfl rfl ?_
      refine v_aload_n C dX5_next_200 rfl rfl ?_
      refine g_X5_value C hM.1 dX5_next_201 fl_X5_202 rfl ?_
      refine v_ldc2 C dX5_next_204 cn_X5_132 rfl ?_
      refine v_lcmp C dX5_next_207 rfl ?_
      refine v_if_le C 218 211 dX5_next_208 (by decide) rfl (fun h208 => ?_) (fun h208 => ?_)
      · have q17 : ¬ 9999 < nvM a b (i - b) := by have q := (lN_le6 (a := nvM a b (i - b)) (b := 9999) (by omega) (by decide)).mp ((lg_cmp_le _ _).mp h208); omega
        refine v_aload_n C dX5_next_218 rfl rfl ?_
        refine g_X5_value C hM.1 dX5_next_219 fl_X5_202 rfl ?_
        refine v_ldc2 C dX5_next_222 cn_X5_219 rfl ?_
        refine v_lmul C dX5_next_225 rfl ?_
        refine v_aload_n C dX5_next_226 rfl rfl ?_
        refine v_aload_n C dX5_next_227 rfl rfl ?_
        refine g_X5_at C hM.1 dX5_next_228 fl_X5_193 rfl ?_
        refine v_eqi (m4_8 _ _ _ _ _) ?_
        refine v_iV C dX5_next_231 mi_X5_byteAt (c_X5_byteAt hM (n := n) (i := i) hz.2.1 ((m4_j _ _ _ _ _ (by decide) (by decide) (by decide)).trans hz.1) (by omega)) rfl hM.1.1 hM.1.2 rfl ml_X5_196 (rk_of rfl) rfl (Nat.le_of_ble_eq_true rfl) rfl (px_k ?_)
        refine v_eqi (b := nI (a i)) ((bA_m (m4_o _ _ _ _ _ (by decide))).trans eb) ?_
        refine v_i2l C dX5_next_234 rfl ?_
        refine v_ladd C dX5_next_235 rfl ?_
        refine v_ldc2 C dX5_next_236 cn_X5_221 rfl ?_
        refine v_lsub C dX5_next_239 rfl ?_
        refine p_X5_value C hM.1 hM.2.2.2.2.2.2.2.2.2.2.2 dX5_next_240 fl_X5_202 rfl ?_
        refine v_mem (m4_v _ _ _ _ _ _) ?_
        refine v_aload_n C dX5_next_243 rfl rfl ?_
        refine v_dup C dX5_next_244 rfl rfl ?_
        refine g_X5_at C hM.1 dX5_next_245 fl_X5_193 rfl ?_
        refine v_eqi (m4_8 _ _ _ _ _) ?_
        refine v_iconst C dX5_next_248 ic_1 rfl ?_
        refine v_iadd C dX5_next_249 rfl ?_
        refine p_X5_at C hM.1 dX5_next_250 fl_X5_193 rfl ?_
        refine v_goto C 185 dX5_next_253 (by decide) ?_
        refine v_mem ?_ (V.norm (ih (i + 1) (by omega) (by omega) (Mq_s hq ht.2)) rfl)
        rw [m4_e, nI_1, nv_up hq.2.2.1, if_neg q17, ← val_2 hc.1 hc.2]
        rfl
      · have q17 : 9999 < nvM a b (i - b) := by rcases Nat.lt_or_ge 9999 (nvM a b (i - b)) with q | q; exact q; exact absurd ((lg_cmp_le _ _).mpr ((lN_le6 (a := nvM a b (i - b)) (b := 9999) (by omega) (by decide)).mpr q)) h208
        refine v_aload_n C dX5_next_211 rfl rfl ?_
        refine g_X5_value C hM.1 dX5_next_212 fl_X5_202 rfl ?_
        refine v_goto C 240 dX5_next_215 (by decide) ?_
        refine p_X5_value C hM.1 hM.2.2.2.2.2.2.2.2.2.2.2 dX5_next_240 fl_X5_202 rfl ?_
        refine v_mem (m4_v _ _ _ _ _ _) ?_
        refine v_aload_n C dX5_next_243 rfl rfl ?_
        refine v_dup C dX5_next_244 rfl rfl ?_
        refine g_X5_at C hM.1 dX5_next_245 fl_X5_193 rfl ?_
        refine v_eqi (m4_8 _ _ _ _ _) ?_
        refine v_iconst C dX5_next_248 ic_1 rfl ?_
        refine v_iadd C dX5_next_249 rfl ?_
        refine p_X5_at C hM.1 dX5_next_250 fl_X5_193 rfl ?_
        refine v_goto C 185 dX5_next_253 (by decide) ?_
        refine v_mem ?_ (V.norm (ih (i + 1) (by omega) (by omega) (Mq_s hq ht.2)) rfl)
        rw [m4_e, nI_1, nv_up hq.2.2.1, if_pos q17]
        rfl
set_option maxRecDepth 100000 in
set_option maxHeartbeats 4000000 in
theorem lp_X5_next_103 {w : WC} {x : Cy} {μ : Me} (hM : Md w) {a : Nat → Nat} {n p : Nat} (hz : Zm μ a n) (hp : p ≤ n) (he : μ.1 0 8 = nI p) {b : Nat} {c : Int32} (C : Cx w x cX5_next 2 RX5 none (Rm 1 21)) (hQ : y_Q x = MQ (y_b x) (QV w (fun u => Fm μ u ∧ Tm u a n p)) (y_a x) (y_s x) 0 0 (AA w)) : ∀ (m i : Nat), n + 1 ≤ i + m → i ≤ n → (Mq a n p b 1 i) → V w x 2 (m4 μ 1 (nI b) (nI i) (lN (wv a b (i - b)))) 103 [(0, .ref (w_ad w 0)), (1, .int c)] [] := by
  intro m
  induction m with
  | zero =>
    intro i  hm hi
    exact absurd hm (by omega)
  | succ m ih =>
    intro i  hm hi hq
    have hn := hz.2.1
    have hw := Mq_w hq
    refine v_aload_n C dX5_next_103 rfl rfl ?_
    refine v_aload_n C dX5_next_104 rfl rfl ?_
    refine g_X5_at C hM.1 dX5_next_105 fl_X5_193 rfl ?_
    refine v_eqi (m4_8 _ _ _ _ _) ?_
    refine v_iV C dX5_next_108 mi_X5_byteAt (c_X5_byteAt hM (n := n) (i := i) hz.2.1 ((m4_j _ _ _ _ _ (by decide) (by decide) (by decide)).trans hz.1) (by omega)) rfl hM.1.1 hM.1.2 rfl ml_X5_196 (rk_of rfl) rfl (Nat.le_of_ble_eq_true rfl) rfl (px_k ?_)
    refine v_eqi (b := bA μ n i) (bA_m (m4_o _ _ _ _ _ (by decide))) ?_
    refine v_iS C dX5_next_111 ms_X5_letter c_X5_letter rfl ml_X5_209 (rk_of rfl) rfl (Nat.le_of_ble_eq_true rfl) rfl (px_k ?_)
    refine v_eqi (b := nI (leN (aX a n i))) (by rw [bA_n hz]) ?_
    refine v_if_le C 261 117 dX5_next_114 (by decide) rfl (fun h114 => ?_) (fun h114 => ?_)
    · have hx := ax_n ((le_z (by rw [← bA_n hz]; exact nb_128 _)).mp h114)
      exact v_vret C hQ dX5_next_261 ⟨m4_Fm _ _ _ _ _, Tm_1 hn hq hi hx⟩
    · have ht := ax_t (by decide) (Decidable.not_not.mp (fun q => h114 ((le_z (by rw [← bA_n (i := i) hz]; exact nb_128 _)).mpr q)))
      have hc := ty_1.mp ht.2
      refine v_aload_n C dX5_next_117 rfl rfl ?_
      refine v_aload_n C dX5_next_118 rfl rfl ?_
      refine g_X5_value C hM.1 dX5_next_119 fl_X5_202 rfl ?_
      refine v_ldc2 C dX5_next_122 cn_X5_212 rfl ?_
      refine v_lcmp C dX5_next_125 rfl ?_
      refine v_if_le C 136 129 dX5_next_126 (by decide) rfl (fun h126 => ?_) (fun h126 => ?_)
      · have q17 : ¬ 100000000000000000 < wv a b (i - b) := by have q := (lN_le6 (a := wv a b (i - b)) (b := 100000000000000000) (by omega) (by decide)).mp ((lg_cmp_le _ _).mp h126); omega
        refine v_aload_n C dX5_next_136 rfl rfl ?_
        refine g_X5_value C hM.1 dX5_next_137 fl_X5_202 rfl ?_
        refine v_ldc2 C dX5_next_140 cn_X5_214 rfl ?_
        refine v_lmul C dX5_next_143 rfl ?_
        refine v_aload_n C dX5_next_144 rfl rfl ?_
        refine v_aload_n C dX5_next_145 rfl rfl ?_
        refine g_X5_at C hM.1 dX5_next_146 fl_X5_193 rfl ?_
        refine v_eqi (m4_8 _ _ _ _ _) ?_
        refine v_iV C dX5_next_149 mi_X5_byteAt (c_X5_byteAt hM (n := n) (i := i) hz.2.1 ((m4_j _ _ _ _ _ (by decide) (by decide) (by decide)).trans hz.1) (by omega)) rfl hM.1.1 hM.1.2 rfl ml_X5_196 (rk_of rfl) rfl (Nat.le_of_ble_eq_true rfl) rfl (px_k ?_)
        refine v_eqi (b := bA μ n i) (bA_m (m4_o _ _ _ _ _ (by decide))) ?_
        refine v_iS C dX5_next_152 ms_X5_letter c_X5_letter rfl ml_X5_209 (rk_of rfl) rfl (Nat.le_of_ble_eq_true rfl) rfl (px_k ?_)
        refine v_eqi (b := nI (leN (aX a n i))) (by rw [bA_n hz]) ?_
        refine v_i2l C dX5_next_155 rfl ?_
        refine v_ladd C dX5_next_156 rfl ?_
        refine p_X5_value C hM.1 hM.2.2.2.2.2.2.2.2.2.2.2 dX5_next_157 fl_X5_202 rfl ?_
        refine v_mem (m4_v _ _ _ _ _ _) ?_
        refine v_aload_n C dX5_next_160 rfl rfl ?_
        refine v_dup C dX5_next_161 rfl rfl ?_
        refine g_X5_at C hM.1 dX5_next_162 fl_X5_193 rfl ?_
        refine v_eqi (m4_8 _ _ _ _ _) ?_
        refine v_iconst C dX5_next_165 ic_1 rfl ?_
        refine v_iadd C dX5_next_166 rfl ?_
        refine p_X5_at C hM.1 dX5_next_167 fl_X5_193 rfl ?_
        refine v_goto C 103 dX5_next_170 (by decide) ?_
        refine v_mem ?_ (V.norm (ih (i + 1) (by omega) (by omega) (Mq_s hq ht.2)) rfl)
        rw [m4_e, nI_1, wv_up hq.2.2.1, if_neg q17, ← val_1 (le_ax ht.1 ht.2) hc.2]
        rfl
      · have q17 : 100000000000000000 < wv a b (i - b) := by rcases Nat.lt_or_ge 100000000000000000 (wv a b (i - b)) with q | q; exact q; exact absurd ((lg_cmp_le _ _).mpr ((lN_le6 (a := wv a b (i - b)) (b := 100000000000000000) (by omega) (by decide)).mpr q)) h126
        refine v_aload_n C dX5_next_129 rfl rfl ?_
        refine g_X5_value C hM.1 dX5_next_130 fl_X5_202 rfl ?_
        refine v_goto C 157 dX5_next_133 (by decide) ?_
        refine p_X5_value C hM.1 hM.2.2.2.2.2.2.2.2.2.2.2 dX5_next_157 fl_X5_202 rfl ?_
        refine v_mem (m4_v _ _ _ _ _ _) ?_
        refine v_aload_n C dX5_next_160 rfl rfl ?_
        refine v_dup C dX5_next_161 rfl rfl ?_
        refine g_X5_at C hM.1 dX5_next_162 fl_X5_193 rfl ?_
        refine v_eqi (m4_8 _ _ _ _ _) ?_
        refine v_iconst C dX5_next_165 ic_1 rfl ?_
        refine v_iadd C dX5_next_166 rfl ?_
        refine p_X5_at C hM.1 dX5_next_167 fl_X5_193 rfl ?_
        refine v_goto C 103 dX5_next_170 (by decide) ?_
        refine v_mem ?_ (V.norm (ih (i + 1) (by omega) (by omega) (Mq_s hq ht.2)) rfl)
        rw [m4_e, nI_1, wv_up hq.2.2.1, if_pos q17]
        rfl
set_option maxRecDepth 100000 in
set_option maxHeartbeats 4000000 in
theorem lp_X5_next_0 {w : WC} {x : Cy} {μ : Me} (hM : Md w) {a : Nat → Nat} {n p : Nat} (hz : Zm μ a n) (hp : p ≤ n) (he : μ.1 0 8 = nI p)  (C : Cx w x cX5_next 2 RX5 none (Rm 1 21)) (hQ : y_Q x = MQ (y_b x) (QV w (fun u => Fm μ u ∧ Tm u a n p)) (y_a x) (y_s x) 0 0 (AA w)) : ∀ (m i : Nat), n + 1 ≤ i + m → i ≤ n → (p ≤ i) → (∀ j, p ≤ j → j < i → a j = 32) → V w x 2 (up μ 0 8 (nI i)) 0 [(0, .ref (w_ad w 0))] [] := by
  intro m
  induction m with
  | zero =>
    intro i  hm hi
    exact absurd hm (by omega)
  | succ m ih =>
    intro i  hm hi hpi hsp
    have hn := hz.2.1
    refine v_aload_n C dX5_next_0 rfl rfl ?_
    refine v_aload_n C dX5_next_1 rfl rfl ?_
    refine g_X5_at C hM.1 dX5_next_2 fl_X5_193 rfl ?_
    refine v_eqi (up_s _ _ _ _) ?_
    refine v_iV C dX5_next_5 mi_X5_byteAt (c_X5_byteAt hM (n := n) (i := i) hz.2.1 ((up_i _ _ _ (by decide)).trans hz.1) (by omega)) rfl hM.1.1 hM.1.2 rfl ml_X5_196 (rk_of rfl) rfl (Nat.le_of_ble_eq_true rfl) rfl (px_k ?_)
    refine v_eqi (b := bA μ n i) (bA_m (up_n _ _ _ (by decide))) ?_
    refine v_bipush C dX5_next_8 bp_32 rfl ?_
    refine v_icmp_ne C 26 13 dX5_next_10 (by decide) rfl (fun h10 => ?_) (fun h10 => ?_)
    · have hB : tB a n p = i := tB_u hn hpi hi hsp (by by_cases q : i < n; exact Or.inr (fun z => h10 ((nb_eq (c := 32) (by decide)).mpr ((bA_n hz).trans ((ax_i q).trans z)))); exact Or.inl (by omega))
      refine v_aload_n C dX5_next_26 rfl rfl ?_
      refine v_aload_n C dX5_next_27 rfl rfl ?_
      refine g_X5_at C hM.1 dX5_next_28 fl_X5_193 rfl ?_
      refine v_eqi (up_s _ _ _ _) ?_
      refine p_X5_from C hM.1 dX5_next_31 fl_X5_199 rfl ?_
      refine v_aload_n C dX5_next_34 rfl rfl ?_
      refine v_lconst (v := 0) C dX5_next_35 rfl rfl ?_
      refine p_X5_value C hM.1 hM.2.2.2.2.2.2.2.2.2.2.2 dX5_next_36 fl_X5_202 rfl ?_
      refine v_mem (m4_m3 _ _ _ _) ?_
      refine v_aload_n C dX5_next_39 rfl rfl ?_
      refine v_aload_n C dX5_next_40 rfl rfl ?_
      refine g_X5_at C hM.1 dX5_next_41 fl_X5_193 rfl ?_
      refine v_eqi (m4_8 _ _ _ _ _) ?_
      refine v_iV C dX5_next_44 mi_X5_byteAt (c_X5_byteAt hM (n := n) (i := i) hz.2.1 ((m4_j _ _ _ _ _ (by decide) (by decide) (by decide)).trans hz.1) (by omega)) rfl hM.1.1 hM.1.2 rfl ml_X5_196 (rk_of rfl) rfl (Nat.le_of_ble_eq_true rfl) rfl (px_k ?_)
      refine v_eqi (b := bA μ n i) (bA_m (m4_o _ _ _ _ _ (by decide))) ?_
      refine v_istore_n C dX5_next_47 (by decide) rfl ?_
      refine v_aload_n C dX5_next_48 rfl rfl ?_
      refine g_X5_at C hM.1 dX5_next_49 fl_X5_193 rfl ?_
      refine v_eqi (m4_8 _ _ _ _ _) ?_
      refine v_aload_n C dX5_next_52 rfl rfl ?_
      refine g_X5_taped C hM.1 dX5_next_53 fl_X5_189 rfl ?_
      refine v_eqi ((m4_j _ _ _ _ _ (by decide) (by decide) (by decide)).trans hz.1) ?_
      refine v_icmp_ne C 67 59 dX5_next_56 (by decide) rfl (fun h56 => ?_) (fun h56 => ?_)
      · have g : i < n := by rcases Nat.lt_or_ge i n with q | q; exact q; exact absurd (by rw [show i = n by omega]) h56
        have hT : tT a n p = ty (a i) := by unfold tT; rw [hB, if_pos g]
        have eb := (bA_n (i := i) hz).trans (ax_i g)
        refine v_iload_n C dX5_next_67 rfl rfl ?_
        refine v_bipush C dX5_next_68 bp_59 rfl ?_
        refine v_icmp_ne C 91 73 dX5_next_70 (by decide) rfl (fun h70 => ?_) (fun h70 => ?_)
        · have n59 : ¬ a i = 59 := fun z => h70 ((nb_eq (c := 59) (by decide)).mpr (eb.trans z))
          refine v_iload_n C dX5_next_91 rfl rfl ?_
          refine v_iS C dX5_next_92 ms_X5_letter c_X5_letter rfl ml_X5_209 (rk_of rfl) rfl (Nat.le_of_ble_eq_true rfl) rfl (px_k ?_)
          refine v_eqi (b := nI (leN (a i))) (by rw [bA_n hz, ax_i g]) ?_
          refine v_if_le C 173 98 dX5_next_95 (by decide) rfl (fun h95 => ?_) (fun h95 => ?_)
          · have n1 := (le_z (by rw [← eb]; exact nb_128 _)).mp h95
            refine v_iload_n C dX5_next_173 rfl rfl ?_
            refine v_iS C dX5_next_174 ms_X5_isDigit c_X5_isDigit rfl ml_X5_216 (rk_of rfl) rfl (Nat.le_of_ble_eq_true rfl) rfl (px_k ?_)
            refine v_eqi (b := if ty (a i) = 2 then 1 else 0) (by unfold diS; rw [bA_n hz, ax_i g]) ?_
            refine v_if_eq C 256 180 dX5_next_177 (by decide) rfl (fun h177 => ?_) (fun h177 => ?_)
            · have n2 : ¬ ty (a i) = 2 := fun q => absurd ((if_pos q).symm.trans h177) (by decide)
              refine v_aload_n C dX5_next_256 rfl rfl ?_
              refine v_iconst C dX5_next_257 ic_4 rfl ?_
              refine p_X5_sort C hM.1 dX5_next_258 fl_X5_206 rfl ?_
              exact v_vret C hQ dX5_next_261 (by rw [m4_t]; exact ⟨m4_Fm _ _ _ _ _, Tm_4 hB (hT.trans (ty4 n1 n2 n59))⟩)
            · have t2 : ty (a i) = 2 := Decidable.not_not.mp (fun q => h177 (if_neg q))
              refine v_aload_n C dX5_next_180 rfl rfl ?_
              refine v_iconst C dX5_next_181 ic_2 rfl ?_
              refine p_X5_sort C hM.1 dX5_next_182 fl_X5_206 rfl ?_
              refine v_mem (μ' := m4 μ 2 (nI i) (nI i) (lN (nvM a i (i - i)))) (by rw [m4_t, Nat.sub_self]; rfl) ?_
              exact V.norm (lp_X5_next_185 hM hz hp he C hQ (b := i) (n + 1) i (by omega) (by omega) ⟨hB, hT.trans t2, Nat.le_refl _, fun j x y => by omega⟩) rfl
          · have t1 : ty (a i) = 1 := Decidable.not_not.mp (fun q => h95 ((le_z (by rw [← eb]; exact nb_128 _)).mpr q))
            refine v_aload_n C dX5_next_98 rfl rfl ?_
            refine v_iconst C dX5_next_99 ic_1 rfl ?_
            refine p_X5_sort C hM.1 dX5_next_100 fl_X5_206 rfl ?_
            refine v_mem (μ' := m4 μ 1 (nI i) (nI i) (lN (wv a i (i - i)))) (by rw [m4_t, Nat.sub_self]; rfl) ?_
            exact V.norm (lp_X5_next_103 hM hz hp he C hQ (b := i) (n + 1) i (by omega) (by omega) ⟨hB, hT.trans t1, Nat.le_refl _, fun j x y => by omega⟩) rfl
        · have e59 : a i = 59 := by rw [← eb]; exact (nb_eq (c := 59) (by decide)).mp h70
          refine v_aload_n C dX5_next_73 rfl rfl ?_
          refine v_iconst C dX5_next_74 ic_3 rfl ?_
          refine p_X5_sort C hM.1 dX5_next_75 fl_X5_206 rfl ?_
          refine v_mem (m4_t _ _ _ _ _ _) ?_
          refine v_aload_n C dX5_next_78 rfl rfl ?_
          refine v_dup C dX5_next_79 rfl rfl ?_
          refine g_X5_at C hM.1 dX5_next_80 fl_X5_193 rfl ?_
          refine v_eqi (m4_8 _ _ _ _ _) ?_
          refine v_iconst C dX5_next_83 ic_1 rfl ?_
          refine v_iadd C dX5_next_84 rfl ?_
          refine p_X5_at C hM.1 dX5_next_85 fl_X5_193 rfl ?_
          refine v_goto C 261 dX5_next_88 (by decide) ?_
          exact v_vret C hQ dX5_next_261 (by rw [m4_e, nI_1]; exact ⟨m4_Fm _ _ _ _ _, Tm_3 hB (by rw [hT, e59]; decide +kernel)⟩)
      · have g : i = n := (eq_n (by omega) (by omega)).mp h56
        refine v_aload_n C dX5_next_59 rfl rfl ?_
        refine v_iconst C dX5_next_60 ic_0 rfl ?_
        refine p_X5_sort C hM.1 dX5_next_61 fl_X5_206 rfl ?_
        refine v_goto C 261 dX5_next_64 (by decide) ?_
        exact v_vret C hQ dX5_next_261 (by rw [m4_t, g]; rw [g] at hB; exact ⟨m4_Fm _ _ _ _ _, Tm_0 hn hB⟩)
    · have g32 := aX_y (by decide) ((bA_n (i := i) hz).symm.trans ((nb_eq (c := 32) (by decide)).mp h10))
      refine v_aload_n C dX5_next_13 rfl rfl ?_
      refine v_dup C dX5_next_14 rfl rfl ?_
      refine g_X5_at C hM.1 dX5_next_15 fl_X5_193 rfl ?_
      refine v_eqi (up_s _ _ _ _) ?_
      refine v_iconst C dX5_next_18 ic_1 rfl ?_
      refine v_iadd C dX5_next_19 rfl ?_
      refine p_X5_at C hM.1 dX5_next_20 fl_X5_193 rfl ?_
      refine v_goto C 0 dX5_next_23 (by decide) ?_
      refine v_mem ?_ (V.norm (ih (i + 1) (by omega) (by omega) (by omega) (fun j x y => ?_)) rfl)
      · rw [up_up, nI_1]
      · by_cases z : j = i
        · subst z; exact g32.2
        · exact hsp j x (by omega)
set_option maxRecDepth 100000 in
set_option maxHeartbeats 4000000 in
theorem c_X5_next {l : Launch} {w : WC} {μ : Me} (hM : Md w) {a : Nat → Nat} {n p : Nat} (hz : Zm μ a n) (hp : p ≤ n) (he : μ.1 0 8 = nI p) : CtV l w yX5_next cX5_next 2 (Rm 1 21) [.ref (w_ad w 0)] μ (fun u => Fm μ u ∧ Tm u a n p) := by
  refine Ct.mk (own := RX5) rfl (by decide) (Nat.le_of_ble_eq_true rfl) (fun x hxl C hQ => ?_)
  subst hxl
  refine v_mem (up_self μ he).symm ?_
  exact V.norm (lp_X5_next_0 hM hz hp he C hQ (n + 1) p (by omega) hp (Nat.le_refl _) (fun j x y => by omega)) rfl

set_option maxRecDepth 100000 in
set_option maxHeartbeats 4000000 in
theorem c_X5_wrongHere {l : Launch} {w : WC} {μ : Me} (hM : Md w) : CtV l w yX5_wrongHere cX5_wrongHere 1 (Rm 0 0) [.ref (w_ad w 0)] μ (Pv (wrS μ)) := by
  refine Ct.mk (own := RX5) rfl (by decide) (Nat.le_of_ble_eq_true rfl) (fun x hxl C hQ => ?_)
  subst hxl
  refine v_aload_n C dX5_wrongHere_0 rfl rfl ?_
  refine v_aload_n C dX5_wrongHere_1 rfl rfl ?_
  refine g_X5_fault C hM.1 dX5_wrongHere_2 fl_X5_223 rfl ?_
  refine v_if_ge C 15 8 dX5_wrongHere_5 (by decide) rfl (fun h5 => ?_) (fun h5 => ?_)
  · refine v_aload_n C dX5_wrongHere_15 rfl rfl ?_
    refine g_X5_fault C hM.1 dX5_wrongHere_16 fl_X5_223 rfl ?_
    refine p_X5_fault C hM.1 dX5_wrongHere_19 fl_X5_223 rfl ?_
    exact v_vret C hQ dX5_wrongHere_22 (by unfold wrS; rw [if_neg (Int32.not_lt.mpr h5)]; exact up_self _ rfl)
  · refine v_aload_n C dX5_wrongHere_8 rfl rfl ?_
    refine g_X5_from C hM.1 dX5_wrongHere_9 fl_X5_199 rfl ?_
    refine v_goto C 19 dX5_wrongHere_12 (by decide) ?_
    refine p_X5_fault C hM.1 dX5_wrongHere_19 fl_X5_223 rfl ?_
    exact v_vret C hQ dX5_wrongHere_22 (by unfold wrS; rw [if_pos (Int32.not_le.mp h5)])

set_option maxRecDepth 100000 in
set_option maxHeartbeats 4000000 in
theorem c_X5_isWord {l : Launch} {w : WC} {μ : Me} (hM : Md w) {a : Nat → Nat} {n p : Nat} (hn : n ≤ 120) (hp : p ≤ n) (hk : Tm μ a n p) {c : Nat} (hc : c < 15) {W : Int64} (hW : W = lN (wnC c)) : CtI l w yX5_isWord cX5_isWord 3 (some .boolean) (Rm 0 0) [.ref (w_ad w 0), .long W] μ (Px (if Wd a n p (wdW c) = true then 1 else 0) μ) := by
  refine Ct.mk (own := RX5) rfl (by decide) (Nat.le_of_ble_eq_true rfl) (fun x hxl C hQ => ?_)
  subst hxl
  have hi := Wm_i hn hp hk hc
  rw [← hW] at hi
  refine v_aload_n C dX5_isWord_0 rfl rfl ?_
  refine g_X5_sort C hM.1 dX5_isWord_1 fl_X5_206 rfl ?_
  refine v_iconst C dX5_isWord_4 ic_1 rfl ?_
  refine v_icmp_ne C 21 8 dX5_isWord_5 (by decide) rfl (fun h5 => ?_) (fun h5 => ?_)
  · refine v_iconst C dX5_isWord_21 ic_0 rfl ?_
    exact v_zret C hQ dX5_isWord_22 rfl ⟨(if_neg (fun h => h5 (hi.mpr h).1)).symm, rfl⟩
  · refine v_aload_n C dX5_isWord_8 rfl rfl ?_
    refine g_X5_value C hM.1 dX5_isWord_9 fl_X5_202 rfl ?_
    refine v_lload_n C dX5_isWord_12 rfl rfl ?_
    refine v_lcmp C dX5_isWord_13 rfl ?_
    refine v_if_ne C 21 17 dX5_isWord_14 (by decide) rfl (fun h14 => ?_) (fun h14 => ?_)
    · refine v_iconst C dX5_isWord_21 ic_0 rfl ?_
      exact v_zret C hQ dX5_isWord_22 rfl ⟨(if_neg (fun h => h14 ((lg_cmp_eq _ _).mpr (hi.mpr h).2))).symm, rfl⟩
    · refine v_iconst C dX5_isWord_17 ic_1 rfl ?_
      refine v_goto C 22 dX5_isWord_18 (by decide) ?_
      exact v_zret C hQ dX5_isWord_22 rfl ⟨(if_pos (hi.mp ⟨h5, (lg_cmp_eq _ _).mp h14⟩)).symm, rfl⟩

set_option maxRecDepth 100000 in
set_option maxHeartbeats 4000000 in
theorem c_X5_kindHere {l : Launch} {w : WC} {μ : Me} (hM : Md w) {a : Nat → Nat} {n p : Nat} (hn : n ≤ 120) (hp : p ≤ n) (hk : Tm μ a n p) : CtI l w yX5_kindHere cX5_kindHere 1 (some .int) (Rm 1 22) [.ref (w_ad w 0)] μ (Px (khS a n p 7 0) μ) := by
  refine Ct.mk (own := RX5) rfl (by decide) (Nat.le_of_ble_eq_true rfl) (fun x hxl C hQ => ?_)
  subst hxl
  refine v_aload_n C dX5_kindHere_0 rfl rfl ?_
  refine v_ldc2 C dX5_kindHere_1 cn_X5_226 rfl ?_
  refine v_iV C dX5_kindHere_4 mi_X5_isWord (c_X5_isWord hM hn hp hk (c := kwI 0) (by decide) (by decide +kernel)) rfl hM.1.1 hM.1.2 rfl ml_X5_228 (rk_of rfl) rfl (Nat.le_of_ble_eq_true rfl) rfl (px_k ?_)
  refine v_if_eq C 14 10 dX5_kindHere_7 (by decide) rfl (fun h7 => ?_) (fun h7 => ?_)
  · have w0 : ¬ Wd a n p (wdW (kwI 0)) = true := fun q => absurd ((if_pos q).symm.trans h7) (by decide)
    refine v_aload_n C dX5_kindHere_14 rfl rfl ?_
    refine v_ldc2 C dX5_kindHere_15 cn_X5_232 rfl ?_
    refine v_iV C dX5_kindHere_18 mi_X5_isWord (c_X5_isWord hM hn hp hk (c := kwI 1) (by decide) (by decide +kernel)) rfl hM.1.1 hM.1.2 rfl ml_X5_228 (rk_of rfl) rfl (Nat.le_of_ble_eq_true rfl) rfl (px_k ?_)
    refine v_if_eq C 28 24 dX5_kindHere_21 (by decide) rfl (fun h21 => ?_) (fun h21 => ?_)
    · have w1 : ¬ Wd a n p (wdW (kwI 1)) = true := fun q => absurd ((if_pos q).symm.trans h21) (by decide)
      refine v_aload_n C dX5_kindHere_28 rfl rfl ?_
      refine v_ldc2 C dX5_kindHere_29 cn_X5_234 rfl ?_
      refine v_iV C dX5_kindHere_32 mi_X5_isWord (c_X5_isWord hM hn hp hk (c := kwI 2) (by decide) (by decide +kernel)) rfl hM.1.1 hM.1.2 rfl ml_X5_228 (rk_of rfl) rfl (Nat.le_of_ble_eq_true rfl) rfl (px_k ?_)
      refine v_if_eq C 42 38 dX5_kindHere_35 (by decide) rfl (fun h35 => ?_) (fun h35 => ?_)
      · have w2 : ¬ Wd a n p (wdW (kwI 2)) = true := fun q => absurd ((if_pos q).symm.trans h35) (by decide)
        refine v_aload_n C dX5_kindHere_42 rfl rfl ?_
        refine v_ldc2 C dX5_kindHere_43 cn_X5_236 rfl ?_
        refine v_iV C dX5_kindHere_46 mi_X5_isWord (c_X5_isWord hM hn hp hk (c := kwI 3) (by decide) (by decide +kernel)) rfl hM.1.1 hM.1.2 rfl ml_X5_228 (rk_of rfl) rfl (Nat.le_of_ble_eq_true rfl) rfl (px_k ?_)
        refine v_if_eq C 56 52 dX5_kindHere_49 (by decide) rfl (fun h49 => ?_) (fun h49 => ?_)
        · have w3 : ¬ Wd a n p (wdW (kwI 3)) = true := fun q => absurd ((if_pos q).symm.trans h49) (by decide)
          refine v_aload_n C dX5_kindHere_56 rfl rfl ?_
          refine v_ldc2 C dX5_kindHere_57 cn_X5_238 rfl ?_
          refine v_iV C dX5_kindHere_60 mi_X5_isWord (c_X5_isWord hM hn hp hk (c := kwI 4) (by decide) (by decide +kernel)) rfl hM.1.1 hM.1.2 rfl ml_X5_228 (rk_of rfl) rfl (Nat.le_of_ble_eq_true rfl) rfl (px_k ?_)
          refine v_if_eq C 70 66 dX5_kindHere_63 (by decide) rfl (fun h63 => ?_) (fun h63 => ?_)
          · have w4 : ¬ Wd a n p (wdW (kwI 4)) = true := fun q => absurd ((if_pos q).symm.trans h63) (by decide)
            refine v_aload_n C dX5_kindHere_70 rfl rfl ?_
            refine v_ldc2 C dX5_kindHere_71 cn_X5_240 rfl ?_
            refine v_iV C dX5_kindHere_74 mi_X5_isWord (c_X5_isWord hM hn hp hk (c := kwI 5) (by decide) (by decide +kernel)) rfl hM.1.1 hM.1.2 rfl ml_X5_228 (rk_of rfl) rfl (Nat.le_of_ble_eq_true rfl) rfl (px_k ?_)
            refine v_if_eq C 84 80 dX5_kindHere_77 (by decide) rfl (fun h77 => ?_) (fun h77 => ?_)
            · have w5 : ¬ Wd a n p (wdW (kwI 5)) = true := fun q => absurd ((if_pos q).symm.trans h77) (by decide)
              refine v_aload_n C dX5_kindHere_84 rfl rfl ?_
              refine v_ldc2 C dX5_kindHere_85 cn_X5_242 rfl ?_
              refine v_iV C dX5_kindHere_88 mi_X5_isWord (c_X5_isWord hM hn hp hk (c := kwI 6) (by decide) (by decide +kernel)) rfl hM.1.1 hM.1.2 rfl ml_X5_228 (rk_of rfl) rfl (Nat.le_of_ble_eq_true rfl) rfl (px_k ?_)
              refine v_if_eq C 99 94 dX5_kindHere_91 (by decide) rfl (fun h91 => ?_) (fun h91 => ?_)
              · have w6 : ¬ Wd a n p (wdW (kwI 6)) = true := fun q => absurd ((if_pos q).symm.trans h91) (by decide)
                refine v_iconst C dX5_kindHere_99 ic_m1 rfl ?_
                exact v_iret C hQ dX5_kindHere_100 ⟨(show khS a n p 7 0 = _ from ((if_neg w0).trans ((if_neg w1).trans ((if_neg w2).trans ((if_neg w3).trans ((if_neg w4).trans ((if_neg w5).trans ((if_neg w6).trans rfl)))))))).symm, rfl⟩
              · have w6 : Wd a n p (wdW (kwI 6)) = true := Decidable.not_not.mp (fun q => h91 (if_neg q))
                refine v_bipush C dX5_kindHere_94 bp_6 rfl ?_
                refine v_goto C 100 dX5_kindHere_96 (by decide) ?_
                exact v_iret C hQ dX5_kindHere_100 ⟨(show khS a n p 7 0 = _ from ((if_neg w0).trans ((if_neg w1).trans ((if_neg w2).trans ((if_neg w3).trans ((if_neg w4).trans ((if_neg w5).trans (if_pos w6)))))))).symm, rfl⟩
            · have w5 : Wd a n p (wdW (kwI 5)) = true := Decidable.not_not.mp (fun q => h77 (if_neg q))
              refine v_iconst C dX5_kindHere_80 ic_5 rfl ?_
              refine v_goto C 100 dX5_kindHere_81 (by decide) ?_
              exact v_iret C hQ dX5_kindHere_100 ⟨(show khS a n p 7 0 = _ from ((if_neg w0).trans ((if_neg w1).trans ((if_neg w2).trans ((if_neg w3).trans ((if_neg w4).trans (if_pos w5))))))).symm, rfl⟩
          · have w4 : Wd a n p (wdW (kwI 4)) = true := Decidable.not_not.mp (fun q => h63 (if_neg q))
            refine v_iconst C dX5_kindHere_66 ic_4 rfl ?_
            refine v_goto C 100 dX5_kindHere_67 (by decide) ?_
            exact v_iret C hQ dX5_kindHere_100 ⟨(show khS a n p 7 0 = _ from ((if_neg w0).trans ((if_neg w1).trans ((if_neg w2).trans ((if_neg w3).trans (if_pos w4)))))).symm, rfl⟩
        · have w3 : Wd a n p (wdW (kwI 3)) = true := Decidable.not_not.mp (fun q => h49 (if_neg q))
          refine v_iconst C dX5_kindHere_52 ic_3 rfl ?_
          refine v_goto C 100 dX5_kindHere_53 (by decide) ?_
          exact v_iret C hQ dX5_kindHere_100 ⟨(show khS a n p 7 0 = _ from ((if_neg w0).trans ((if_neg w1).trans ((if_neg w2).trans (if_pos w3))))).symm, rfl⟩
      · have w2 : Wd a n p (wdW (kwI 2)) = true := Decidable.not_not.mp (fun q => h35 (if_neg q))
        refine v_iconst C dX5_kindHere_38 ic_2 rfl ?_
        refine v_goto C 100 dX5_kindHere_39 (by decide) ?_
        exact v_iret C hQ dX5_kindHere_100 ⟨(show khS a n p 7 0 = _ from ((if_neg w0).trans ((if_neg w1).trans (if_pos w2)))).symm, rfl⟩
    · have w1 : Wd a n p (wdW (kwI 1)) = true := Decidable.not_not.mp (fun q => h21 (if_neg q))
      refine v_iconst C dX5_kindHere_24 ic_1 rfl ?_
      refine v_goto C 100 dX5_kindHere_25 (by decide) ?_
      exact v_iret C hQ dX5_kindHere_100 ⟨(show khS a n p 7 0 = _ from ((if_neg w0).trans (if_pos w1))).symm, rfl⟩
  · have w0 : Wd a n p (wdW (kwI 0)) = true := Decidable.not_not.mp (fun q => h7 (if_neg q))
    refine v_iconst C dX5_kindHere_10 ic_0 rfl ?_
    refine v_goto C 100 dX5_kindHere_11 (by decide) ?_
    exact v_iret C hQ dX5_kindHere_100 ⟨(show khS a n p 7 0 = _ from (if_pos w0)).symm, rfl⟩

set_option maxRecDepth 100000 in
set_option maxHeartbeats 4000000 in
theorem c_X5_setHere {l : Launch} {w : WC} {μ : Me} (hM : Md w) {a : Nat → Nat} {n p : Nat} (hn : n ≤ 120) (hp : p ≤ n) (hk : Tm μ a n p) : CtI l w yX5_setHere cX5_setHere 1 (some .int) (Rm 1 22) [.ref (w_ad w 0)] μ (Px (seH a n p 4 0) μ) := by
  refine Ct.mk (own := RX5) rfl (by decide) (Nat.le_of_ble_eq_true rfl) (fun x hxl C hQ => ?_)
  subst hxl
  refine v_aload_n C dX5_setHere_0 rfl rfl ?_
  refine v_ldc2 C dX5_setHere_1 cn_X5_244 rfl ?_
  refine v_iV C dX5_setHere_4 mi_X5_isWord (c_X5_isWord hM hn hp hk (c := 10 + 0) (by decide) (by decide +kernel)) rfl hM.1.1 hM.1.2 rfl ml_X5_228 (rk_of rfl) rfl (Nat.le_of_ble_eq_true rfl) rfl (px_k ?_)
  refine v_if_eq C 14 10 dX5_setHere_7 (by decide) rfl (fun h7 => ?_) (fun h7 => ?_)
  · have w0 : ¬ Wd a n p (wdW (10 + 0)) = true := fun q => absurd ((if_pos q).symm.trans h7) (by decide)
    refine v_aload_n C dX5_setHere_14 rfl rfl ?_
    refine v_ldc2 C dX5_setHere_15 cn_X5_246 rfl ?_
    refine v_iV C dX5_setHere_18 mi_X5_isWord (c_X5_isWord hM hn hp hk (c := 10 + 1) (by decide) (by decide +kernel)) rfl hM.1.1 hM.1.2 rfl ml_X5_228 (rk_of rfl) rfl (Nat.le_of_ble_eq_true rfl) rfl (px_k ?_)
    refine v_if_eq C 28 24 dX5_setHere_21 (by decide) rfl (fun h21 => ?_) (fun h21 => ?_)
    · have w1 : ¬ Wd a n p (wdW (10 + 1)) = true := fun q => absurd ((if_pos q).symm.trans h21) (by decide)
      refine v_aload_n C dX5_setHere_28 rfl rfl ?_
      refine v_ldc2 C dX5_setHere_29 cn_X5_248 rfl ?_
      refine v_iV C dX5_setHere_32 mi_X5_isWord (c_X5_isWord hM hn hp hk (c := 10 + 2) (by decide) (by decide +kernel)) rfl hM.1.1 hM.1.2 rfl ml_X5_228 (rk_of rfl) rfl (Nat.le_of_ble_eq_true rfl) rfl (px_k ?_)
      refine v_if_eq C 42 38 dX5_setHere_35 (by decide) rfl (fun h35 => ?_) (fun h35 => ?_)
      · have w2 : ¬ Wd a n p (wdW (10 + 2)) = true := fun q => absurd ((if_pos q).symm.trans h35) (by decide)
        refine v_aload_n C dX5_setHere_42 rfl rfl ?_
        refine v_ldc2 C dX5_setHere_43 cn_X5_250 rfl ?_
        refine v_iV C dX5_setHere_46 mi_X5_isWord (c_X5_isWord hM hn hp hk (c := 10 + 3) (by decide) (by decide +kernel)) rfl hM.1.1 hM.1.2 rfl ml_X5_228 (rk_of rfl) rfl (Nat.le_of_ble_eq_true rfl) rfl (px_k ?_)
        refine v_if_eq C 56 52 dX5_setHere_49 (by decide) rfl (fun h49 => ?_) (fun h49 => ?_)
        · have w3 : ¬ Wd a n p (wdW (10 + 3)) = true := fun q => absurd ((if_pos q).symm.trans h49) (by decide)
          refine v_iconst C dX5_setHere_56 ic_m1 rfl ?_
          exact v_iret C hQ dX5_setHere_57 ⟨(show seH a n p 4 0 = _ from ((if_neg w0).trans ((if_neg w1).trans ((if_neg w2).trans ((if_neg w3).trans rfl))))).symm, rfl⟩
        · have w3 : Wd a n p (wdW (10 + 3)) = true := Decidable.not_not.mp (fun q => h49 (if_neg q))
          refine v_iconst C dX5_setHere_52 ic_3 rfl ?_
          refine v_goto C 57 dX5_setHere_53 (by decide) ?_
          exact v_iret C hQ dX5_setHere_57 ⟨(show seH a n p 4 0 = _ from ((if_neg w0).trans ((if_neg w1).trans ((if_neg w2).trans (if_pos w3))))).symm, rfl⟩
      · have w2 : Wd a n p (wdW (10 + 2)) = true := Decidable.not_not.mp (fun q => h35 (if_neg q))
        refine v_iconst C dX5_setHere_38 ic_2 rfl ?_
        refine v_goto C 57 dX5_setHere_39 (by decide) ?_
        exact v_iret C hQ dX5_setHere_57 ⟨(show seH a n p 4 0 = _ from ((if_neg w0).trans ((if_neg w1).trans (if_pos w2)))).symm, rfl⟩
    · have w1 : Wd a n p (wdW (10 + 1)) = true := Decidable.not_not.mp (fun q => h21 (if_neg q))
      refine v_iconst C dX5_setHere_24 ic_1 rfl ?_
      refine v_goto C 57 dX5_setHere_25 (by decide) ?_
      exact v_iret C hQ dX5_setHere_57 ⟨(show seH a n p 4 0 = _ from ((if_neg w0).trans (if_pos w1))).symm, rfl⟩
  · have w0 : Wd a n p (wdW (10 + 0)) = true := Decidable.not_not.mp (fun q => h7 (if_neg q))
    refine v_iconst C dX5_setHere_10 ic_0 rfl ?_
    refine v_goto C 57 dX5_setHere_11 (by decide) ?_
    exact v_iret C hQ dX5_setHere_57 ⟨(show seH a n p 4 0 = _ from (if_pos w0)).symm, rfl⟩
