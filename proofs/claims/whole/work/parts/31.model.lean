set_option maxRecDepth 100000 in
set_option maxHeartbeats 4000000 in
theorem c_X5_in {l : Launch} {w : WC} {μ : Me} {v a b : Int64} : CtI l w yX5_in cX5_in 6 (some .boolean) (Rm 0 0) [.long v, .long a, .long b] μ (Px (inS v a b) μ) := by
  refine Ct.mk (own := RX5) rfl (by decide) (Nat.le_of_ble_eq_true rfl) (fun x hxl C hQ => ?_)
  subst hxl
  refine v_lload_n C dX5_in_0 rfl rfl ?_
  refine v_lload_n C dX5_in_1 rfl rfl ?_
  refine v_lcmp C dX5_in_2 rfl ?_
  refine v_if_lt C 17 6 dX5_in_3 (by decide) rfl (fun h3 => ?_) (fun h3 => ?_)
  · refine v_iconst C dX5_in_17 ic_0 rfl ?_
    exact v_zret C hQ dX5_in_18 rfl ⟨by unfold inS; first | exact (if_pos ⟨Int64.not_lt.mp (fun h => h3 ((lg_cmp_lt _ _).mpr h)), Int64.not_lt.mp (fun h => h10 ((lg_cmp_gt _ _).mpr h))⟩).symm | exact (if_neg (fun (h : _ ∧ _) => Int64.not_le.mpr ((lg_cmp_lt _ _).mp h3) h.1)).symm | exact (if_neg (fun (h : _ ∧ _) => Int64.not_le.mpr ((lg_cmp_gt _ _).mp h10) h.2)).symm, rfl⟩
  · refine v_lload_n C dX5_in_6 rfl rfl ?_
    refine v_lload C dX5_in_7 rfl rfl ?_
    refine v_lcmp C dX5_in_9 rfl ?_
    refine v_if_gt C 17 13 dX5_in_10 (by decide) rfl (fun h10 => ?_) (fun h10 => ?_)
    · refine v_iconst C dX5_in_17 ic_0 rfl ?_
      exact v_zret C hQ dX5_in_18 rfl ⟨by unfold inS; first | exact (if_pos ⟨Int64.not_lt.mp (fun h => h3 ((lg_cmp_lt _ _).mpr h)), Int64.not_lt.mp (fun h => h10 ((lg_cmp_gt _ _).mpr h))⟩).symm | exact (if_neg (fun (h : _ ∧ _) => Int64.not_le.mpr ((lg_cmp_lt _ _).mp h3) h.1)).symm | exact (if_neg (fun (h : _ ∧ _) => Int64.not_le.mpr ((lg_cmp_gt _ _).mp h10) h.2)).symm, rfl⟩
    · refine v_iconst C dX5_in_13 ic_1 rfl ?_
      refine v_goto C 18 dX5_in_14 (by decide) ?_
      exact v_zret C hQ dX5_in_18 rfl ⟨by unfold inS; first | exact (if_pos ⟨Int64.not_lt.mp (fun h => h3 ((lg_cmp_lt _ _).mpr h)), Int64.not_lt.mp (fun h => h10 ((lg_cmp_gt _ _).mpr h))⟩).symm | exact (if_neg (fun (h : _ ∧ _) => Int64.not_le.mpr ((lg_cmp_lt _ _).mp h3) h.1)).symm | exact (if_neg (fun (h : _ ∧ _) => Int64.not_le.mpr ((lg_cmp_gt _ _).mp h10) h.2)).symm, rfl⟩

set_option maxRecDepth 100000 in
set_option maxHeartbeats 4000000 in
theorem c_X5_held {l : Launch} {w : WC} {μ : Me} {v a b : Int32} : CtI l w yX5_held cX5_held 3 (some .int) (Rm 0 0) [.int v, .int a, .int b] μ (Px (hdS v a b) μ) := by
  refine Ct.mk (own := RX5) rfl (by decide) (Nat.le_of_ble_eq_true rfl) (fun x hxl C hQ => ?_)
  subst hxl
  refine v_iload_n C dX5_held_0 rfl rfl ?_
  refine v_iload_n C dX5_held_1 rfl rfl ?_
  refine v_icmp_ge C 9 5 dX5_held_2 (by decide) rfl (fun h2 => ?_) (fun h2 => ?_)
  · refine v_iload_n C dX5_held_9 rfl rfl ?_
    refine v_iload_n C dX5_held_10 rfl rfl ?_
    refine v_icmp_le C 18 14 dX5_held_11 (by decide) rfl (fun h11 => ?_) (fun h11 => ?_)
    · refine v_iload_n C dX5_held_18 rfl rfl ?_
      exact v_iret C hQ dX5_held_19 ⟨by unfold hdS; first | (rw [if_neg (Int32.not_lt.mpr h2), if_neg (Int32.not_lt.mpr h11)]; done) | (rw [if_neg (Int32.not_lt.mpr h2), if_pos (Int32.not_le.mp h11)]; done) | (rw [if_pos (Int32.not_le.mp h2)]; done), rfl⟩
    · refine v_iload_n C dX5_held_14 rfl rfl ?_
      refine v_goto C 19 dX5_held_15 (by decide) ?_
      exact v_iret C hQ dX5_held_19 ⟨by unfold hdS; first | (rw [if_neg (Int32.not_lt.mpr h2), if_neg (Int32.not_lt.mpr h11)]; done) | (rw [if_neg (Int32.not_lt.mpr h2), if_pos (Int32.not_le.mp h11)]; done) | (rw [if_pos (Int32.not_le.mp h2)]; done), rfl⟩
  · refine v_iload_n C dX5_held_5 rfl rfl ?_
    refine v_goto C 19 dX5_held_6 (by decide) ?_
    exact v_iret C hQ dX5_held_19 ⟨by unfold hdS; first | (rw [if_neg (Int32.not_lt.mpr h2), if_neg (Int32.not_lt.mpr h11)]; done) | (rw [if_neg (Int32.not_lt.mpr h2), if_pos (Int32.not_le.mp h11)]; done) | (rw [if_pos (Int32.not_le.mp h2)]; done), rfl⟩

set_option maxRecDepth 100000 in
set_option maxHeartbeats 4000000 in
theorem lp_X5_copies_2 {w : WC} {x : Cy} {μ : Me} {a b : Nat} (ha : Ia w a 63) (hb : Ia w b 63) (hab : a ≠ b)  (C : Cx w x cX5_copies 3 RX5 none (Rm 0 0)) (hQ : y_Q x = MQ (y_b x) (QV w (Pv (ua μ b (ldF (μ.1 a) (μ.1 b) 63)))) (y_a x) (y_s x) 0 0 (AA w)) : ∀ (m i : Nat), 63 + 1 ≤ i + m → i ≤ 63 → V w x 3 (ua μ b (ldF (μ.1 a) (μ.1 b) i)) 2 [(0, .ref (w_ad w a)), (1, .ref (w_ad w b)), (2, .int (nI i))] [] := by
  intro m
  induction m with
  | zero =>
    intro i  hm hi
    exact absurd hm (by omega)
  | succ m ih =>
    intro i  hm hi 
    refine v_iload_n C dX5_copies_2 rfl rfl ?_
    refine v_bipush C dX5_copies_3 bp_63 rfl ?_
    refine v_icmp_ge C 20 8 dX5_copies_5 (by decide) rfl (fun h5 => ?_) (fun h5 => ?_)
    · have g : i = 63 := by have := (le_n (a := 63) (b := i) (by omega) (by omega)).mp h5; omega
      exact v_vret C hQ dX5_copies_20 (by rw [g])
    · have g : i < 63 := by rcases Nat.lt_or_ge i (63) with q | q; exact q; exact absurd ((le_n (a := 63) (b := i) (by omega) (by omega)).mpr q) h5
      refine v_aload_n C dX5_copies_8 rfl rfl ?_
      refine v_iload_n C dX5_copies_9 rfl rfl ?_
      refine v_aload_n C dX5_copies_10 rfl rfl ?_
      refine v_iload_n C dX5_copies_11 rfl rfl ?_
      refine a_I C ha (by decide) dX5_copies_12 (i) rfl (by omega) rfl ?_
      refine v_eqi (congrFun (ua_n μ (ldF (μ.1 a) (μ.1 b) i) hab) i) ?_
      refine s_I C hb (by decide) dX5_copies_13 (i) rfl (by omega) rfl ?_
      refine v_iincN C dX5_copies_14 rfl (by decide) rfl ?_
      refine v_goto C 2 dX5_copies_17 (by decide) ?_
      refine v_mem ?_ (V.norm (ih (i + 1) (by omega) (by omega)) rfl)
      rw [up_ua, ldF_s]
set_option maxRecDepth 100000 in
set_option maxHeartbeats 4000000 in
theorem c_X5_copies {l : Launch} {w : WC} {μ : Me} {a b : Nat} (ha : Ia w a 63) (hb : Ia w b 63) (hab : a ≠ b) : CtV l w yX5_copies cX5_copies 3 (Rm 0 0) [.ref (w_ad w a), .ref (w_ad w b)] μ (Pv (ua μ b (ldF (μ.1 a) (μ.1 b) 63))) := by
  refine Ct.mk (own := RX5) rfl (by decide) (Nat.le_of_ble_eq_true rfl) (fun x hxl C hQ => ?_)
  subst hxl
  refine v_iconst C dX5_copies_0 ic_0 rfl ?_
  refine v_istore_n C dX5_copies_1 (by decide) rfl ?_
  refine v_mem ?_ (V.norm (lp_X5_copies_2 (μ := μ) ha hb hab C hQ 64 0 (by omega) (by omega)) rfl)
  rw [ldF_0, ua_self]

set_option maxRecDepth 100000 in
set_option maxHeartbeats 4000000 in
theorem lp_X5_ones_4 {w : WC} {x : Cy} {μ : Me} {s : Int32}  (C : Cx w x cX5_ones 3 RX5 (some .int) (Rm 0 0)) (hQ : y_Q x = MQ (y_b x) (QI w (Px (onL s 8) μ)) (y_a x) (y_s x) 0 0 (AA w)) : ∀ (m i : Nat) (a : Int32), 8 + 1 ≤ i + m → i ≤ 8 → (a = onL s i) → V w x 3 μ 4 [(0, .int s), (1, .int a), (2, .int (nI i))] [] := by
  intro m
  induction m with
  | zero =>
    intro i a hm hi
    exact absurd hm (by omega)
  | succ m ih =>
    intro i a hm hi ha
    refine v_iload_n C dX5_ones_4 rfl rfl ?_
    refine v_bipush C dX5_ones_5 bp_8 rfl ?_
    refine v_icmp_ge C 24 10 dX5_ones_7 (by decide) rfl (fun h7 => ?_) (fun h7 => ?_)
    · have g : i = 8 := by have := (le_n (a := 8) (b := i) (by omega) (by omega)).mp h7; omega
      refine v_iload_n C dX5_ones_24 rfl rfl ?_
      exact v_iret C hQ dX5_ones_25 ⟨by rw [ha, g], rfl⟩
    · have g : i < 8 := by rcases Nat.lt_or_ge i (8) with q | q; exact q; exact absurd ((le_n (a := 8) (b := i) (by omega) (by omega)).mpr q) h7
      refine v_iload_n C dX5_ones_10 rfl rfl ?_
      refine v_iload_n C dX5_ones_11 rfl rfl ?_
      refine v_iload_n C dX5_ones_12 rfl rfl ?_
      refine v_ishr C dX5_ones_13 rfl ?_
      refine v_iconst C dX5_ones_14 ic_1 rfl ?_
      refine v_iand C dX5_ones_15 rfl ?_
      refine v_iadd C dX5_ones_16 rfl ?_
      refine v_istore_n C dX5_ones_17 (by decide) rfl ?_
      refine v_iincN C dX5_ones_18 rfl (by decide) rfl ?_
      refine v_goto C 4 dX5_ones_21 (by decide) ?_
      exact V.norm (ih (i + 1) _ (by omega) (by omega) (by rw [ha]; rfl)) rfl
set_option maxRecDepth 100000 in
set_option maxHeartbeats 4000000 in
theorem c_X5_ones {l : Launch} {w : WC} {μ : Me} {s : Int32} : CtI l w yX5_ones cX5_ones 3 (some .int) (Rm 0 0) [.int s] μ (Px (onL s 8) μ) := by
  refine Ct.mk (own := RX5) rfl (by decide) (Nat.le_of_ble_eq_true rfl) (fun x hxl C hQ => ?_)
  subst hxl
  refine v_iconst C dX5_ones_0 ic_0 rfl ?_
  refine v_istore_n C dX5_ones_1 (by decide) rfl ?_
  refine v_iconst C dX5_ones_2 ic_0 rfl ?_
  refine v_istore_n C dX5_ones_3 (by decide) rfl ?_
  exact V.norm (lp_X5_ones_4 C hQ 9 0 _ (by omega) (by omega) rfl) rfl

set_option maxRecDepth 100000 in
set_option maxHeartbeats 4000000 in
theorem c_X5_finds {l : Launch} {w : WC} {μ : Me} (hM : Md w) {a e : Int32} {p : Nat} (hp : p < 7) (ha : a = nI p) (he : -1000001 - a = e) : CtI l w yX5_finds cX5_finds 2 (some .int) (Rm 0 0) [.ref (w_ad w 0), .int a] μ (Px e (fnS μ p)) := by
  refine Ct.mk (own := RX5) rfl (by decide) (Nat.le_of_ble_eq_true rfl) (fun x hxl C hQ => ?_)
  subst hxl
  refine v_aload_n C dX5_finds_0 rfl rfl ?_
  refine g_X5_found C hM.1 dX5_finds_1 fl_X5_22 rfl ?_
  refine v_iload_n C dX5_finds_4 rfl rfl ?_
  refine v_dup2 C dX5_finds_5 rfl rfl rfl ?_
  refine a_I C hM.2.2.2.2.2.1 (by decide) dX5_finds_6 (p) ha hp rfl ?_
  refine v_iconst C dX5_finds_7 ic_1 rfl ?_
  refine v_iadd C dX5_finds_8 rfl ?_
  refine s_I C hM.2.2.2.2.2.1 (by decide) dX5_finds_9 (p) ha hp rfl ?_
  refine v_ldc C dX5_finds_10 cn_X5_41 rfl ?_
  refine v_iload_n C dX5_finds_12 rfl rfl ?_
  refine v_isub C dX5_finds_13 rfl ?_
  exact v_iret C hQ dX5_finds_14 ⟨he, rfl⟩

set_option maxRecDepth 100000 in
set_option maxHeartbeats 4000000 in
theorem c_X5_isResident {l : Launch} {w : WC} {μ : Me} (hM : Md w) {r : Int32} : CtI l w yX5_isResident cX5_isResident 2 (some .boolean) (Rm 1 25) [.ref (w_ad w 0), .int r] μ (Px (wiS r 0 (μ.1 1 0 - 1)) μ) := by
  refine Ct.mk (own := RX5) rfl (by decide) (Nat.le_of_ble_eq_true rfl) (fun x hxl C hQ => ?_)
  subst hxl
  refine v_iload_n C dX5_isResident_0 rfl rfl ?_
  refine v_i2l C dX5_isResident_1 rfl ?_
  refine v_lconst (v := 0) C dX5_isResident_2 rfl rfl ?_
  refine v_aload_n C dX5_isResident_3 rfl rfl ?_
  refine g_X5_d C hM.1 dX5_isResident_4 fl_X5_7 rfl ?_
  refine v_iconst C dX5_isResident_7 ic_0 rfl ?_
  refine a_I C hM.2.1 (by decide) dX5_isResident_8 (0) rfl (by decide) rfl ?_
  refine v_iconst C dX5_isResident_9 ic_1 rfl ?_
  refine v_isub C dX5_isResident_10 rfl ?_
  refine v_i2l C dX5_isResident_11 rfl ?_
  refine v_iS C dX5_isResident_12 ms_X5_in c_X5_in rfl ml_X5_42 (rk_of rfl) rfl (Nat.le_of_ble_eq_true rfl) rfl (px_k ?_)
  refine v_eqi (in_w (a := (0)) (b := _) (by decide) rfl) ?_
  exact v_zret C hQ dX5_isResident_15 (by unfold wiS; split <;> rfl) ⟨rfl, rfl⟩

set_option maxRecDepth 100000 in
set_option maxHeartbeats 4000000 in
theorem c_X5_its {l : Launch} {w : WC} {μ : Me} (hM : Md w) {r t : Int32} {i f j : Nat} (hi : i < 8) (hf : f < 5) (hr : r = nI i) (ht : t = nI f) (hj : 13 + 8 * f + i = j) : CtI l w yX5_its cX5_its 3 (some .int) (Rm 0 0) [.ref (w_ad w 0), .int r, .int t] μ (Px (μ.1 1 j) μ) := by
  refine Ct.mk (own := RX5) rfl (by decide) (Nat.le_of_ble_eq_true rfl) (fun x hxl C hQ => ?_)
  subst hxl
  refine v_aload_n C dX5_its_0 rfl rfl ?_
  refine g_X5_d C hM.1 dX5_its_1 fl_X5_7 rfl ?_
  refine v_bipush C dX5_its_4 bp_13 rfl ?_
  refine v_bipush C dX5_its_6 bp_8 rfl ?_
  refine v_iload_n C dX5_its_8 rfl rfl ?_
  refine v_imul C dX5_its_9 rfl ?_
  refine v_iadd C dX5_its_10 rfl ?_
  refine v_iload_n C dX5_its_11 rfl rfl ?_
  refine v_iadd C dX5_its_12 rfl ?_
  refine a_I C hM.2.1 (by decide) dX5_its_13 (j) (by rw [hr, ht, ix_n, hj]) (by omega) rfl ?_
  exact v_iret C hQ dX5_its_14 ⟨rfl, rfl⟩

set_option maxRecDepth 100000 in
set_option maxHeartbeats 4000000 in
theorem c_X5_sets {l : Launch} {w : WC} {μ : Me} (hM : Md w) {r t : Int32} {i f j : Nat} (hi : i < 8) (hf : f < 5) (hr : r = nI i) (ht : t = nI f) (hj : 13 + 8 * f + i = j) {v : Int32} : CtV l w yX5_sets cX5_sets 4 (Rm 0 0) [.ref (w_ad w 0), .int r, .int t, .int v] μ (Pv (up μ 1 j v)) := by
  refine Ct.mk (own := RX5) rfl (by decide) (Nat.le_of_ble_eq_true rfl) (fun x hxl C hQ => ?_)
  subst hxl
  refine v_aload_n C dX5_sets_0 rfl rfl ?_
  refine g_X5_d C hM.1 dX5_sets_1 fl_X5_7 rfl ?_
  refine v_bipush C dX5_sets_4 bp_13 rfl ?_
  refine v_bipush C dX5_sets_6 bp_8 rfl ?_
  refine v_iload_n C dX5_sets_8 rfl rfl ?_
  refine v_imul C dX5_sets_9 rfl ?_
  refine v_iadd C dX5_sets_10 rfl ?_
  refine v_iload_n C dX5_sets_11 rfl rfl ?_
  refine v_iadd C dX5_sets_12 rfl ?_
  refine v_iload_n C dX5_sets_13 rfl rfl ?_
  refine s_I C hM.2.1 (by decide) dX5_sets_14 (j) (by rw [hr, ht, ix_n, hj]) (by omega) rfl ?_
  exact v_vret C hQ dX5_sets_15 rfl

set_option maxRecDepth 100000 in
set_option maxHeartbeats 4000000 in
theorem c_X5_becomes {l : Launch} {w : WC} {μ : Me} (hM : Md w) {a v : Int32} {j : Nat} (hj : j < 63) (ha : a = nI j) : CtI l w yX5_becomes cX5_becomes 4 (some .int) (Rm 0 0) [.ref (w_ad w 0), .int a, .int v] μ (Px (μ.1 1 j) (up μ 1 j v)) := by
  refine Ct.mk (own := RX5) rfl (by decide) (Nat.le_of_ble_eq_true rfl) (fun x hxl C hQ => ?_)
  subst hxl
  refine v_aload_n C dX5_becomes_0 rfl rfl ?_
  refine g_X5_d C hM.1 dX5_becomes_1 fl_X5_7 rfl ?_
  refine v_iload_n C dX5_becomes_4 rfl rfl ?_
  refine a_I C hM.2.1 (by decide) dX5_becomes_5 (j) ha hj rfl ?_
  refine v_istore_n C dX5_becomes_6 (by decide) rfl ?_
  refine v_aload_n C dX5_becomes_7 rfl rfl ?_
  refine g_X5_d C hM.1 dX5_becomes_8 fl_X5_7 rfl ?_
  refine v_iload_n C dX5_becomes_11 rfl rfl ?_
  refine v_iload_n C dX5_becomes_12 rfl rfl ?_
  refine s_I C hM.2.1 (by decide) dX5_becomes_13 (j) ha hj rfl ?_
  refine v_iload_n C dX5_becomes_14 rfl rfl ?_
  exact v_iret C hQ dX5_becomes_15 ⟨rfl, rfl⟩

set_option maxRecDepth 100000 in
set_option maxHeartbeats 4000000 in
theorem c_X5_seats {l : Launch} {w : WC} {μ : Me} (hM : Md w) {r : Int32} {i : Nat} (hi : i < 8) (hr : r = nI i) : CtI l w yX5_seats cX5_seats 2 (some .int) (Rm 1 22) [.ref (w_ad w 0), .int r] μ (Px (seatsS (μ.1 1 (13 + i))) μ) := by
  refine Ct.mk (own := RX5) rfl (by decide) (Nat.le_of_ble_eq_true rfl) (fun x hxl C hQ => ?_)
  subst hxl
  refine v_aload_n C dX5_seats_0 rfl rfl ?_
  refine v_iload_n C dX5_seats_1 rfl rfl ?_
  refine v_iconst C dX5_seats_2 ic_0 rfl ?_
  refine v_iV C dX5_seats_3 mi_X5_its (c_X5_its hM (i := i) (f := 0) (j := 13 + i) hi (by decide) hr rfl rfl) rfl hM.1.1 hM.1.2 rfl ml_X5_46 (rk_of rfl) rfl (Nat.le_of_ble_eq_true rfl) rfl (px_k ?_)
  refine v_case (1) (fun e6_1 => ?_) (fun n6_1 => ?_)
  · refine v_tableIn C 44 dX5_seats_6 e6_1 (by decide) (by decide) rfl (by decide) ?_
    refine v_iconst C dX5_seats_44 ic_3 rfl ?_
    exact v_iret C hQ dX5_seats_45 ⟨by simp [seatsS, *], rfl⟩
  refine v_case (2) (fun e6_2 => ?_) (fun n6_2 => ?_)
  · refine v_tableIn C 48 dX5_seats_6 e6_2 (by decide) (by decide) rfl (by decide) ?_
    refine v_iconst C dX5_seats_48 ic_1 rfl ?_
    exact v_iret C hQ dX5_seats_49 ⟨by simp [seatsS, *], rfl⟩
  refine v_case (3) (fun e6_3 => ?_) (fun n6_3 => ?_)
  · refine v_tableIn C 48 dX5_seats_6 e6_3 (by decide) (by decide) rfl (by decide) ?_
    refine v_iconst C dX5_seats_48 ic_1 rfl ?_
    exact v_iret C hQ dX5_seats_49 ⟨by simp [seatsS, *], rfl⟩
  refine v_case (4) (fun e6_4 => ?_) (fun n6_4 => ?_)
  · refine v_tableIn C 48 dX5_seats_6 e6_4 (by decide) (by decide) rfl (by decide) ?_
    refine v_iconst C dX5_seats_48 ic_1 rfl ?_
    exact v_iret C hQ dX5_seats_49 ⟨by simp [seatsS, *], rfl⟩
  refine v_case (5) (fun e6_5 => ?_) (fun n6_5 => ?_)
  · refine v_tableIn C 50 dX5_seats_6 e6_5 (by decide) (by decide) rfl (by decide) ?_
    refine v_iconst C dX5_seats_50 ic_2 rfl ?_
    exact v_iret C hQ dX5_seats_51 ⟨by simp [seatsS, *], rfl⟩
  refine v_case (6) (fun e6_6 => ?_) (fun n6_6 => ?_)
  · refine v_tableIn C 46 dX5_seats_6 e6_6 (by decide) (by decide) rfl (by decide) ?_
    refine v_iconst C dX5_seats_46 ic_4 rfl ?_
    exact v_iret C hQ dX5_seats_47 ⟨by simp [seatsS, *], rfl⟩
  refine v_tableOut C 50 dX5_seats_6 (by have z1 := lv_neT n6_1 (a := 1) (by decide); have z2 := lv_neT n6_2 (a := 2) (by decide); have z3 := lv_neT n6_3 (a := 3) (by decide); have z4 := lv_neT n6_4 (a := 4) (by decide); have z5 := lv_neT n6_5 (a := 5) (by decide); have z6 := lv_neT n6_6 (a := 6) (by decide); omega) (by decide) ?_
  refine v_iconst C dX5_seats_50 ic_2 rfl ?_
  exact v_iret C hQ dX5_seats_51 ⟨by simp [seatsS, *], rfl⟩

set_option maxRecDepth 100000 in
set_option maxHeartbeats 4000000 in
theorem c_X5_gains {l : Launch} {w : WC} {μ : Me} (hM : Md w) {r : Int32} {i : Nat} (hi : i < 8) (hr : r = nI i) (hg : ∃ g, 1 ≤ g ∧ g ≤ 12 ∧ μ.1 1 6 = nI g) : CtI l w yX5_gains cX5_gains 3 (some .int) (Rm 1 22) [.ref (w_ad w 0), .int r] μ (Px (gainsS (μ.1 1 (13 + i)) (μ.1 1 6)) μ) := by
  refine Ct.mk (own := RX5) rfl (by decide) (Nat.le_of_ble_eq_true rfl) (fun x hxl C hQ => ?_)
  subst hxl
  refine v_iconst C dX5_gains_0 ic_2 rfl ?_
  refine v_aload_n C dX5_gains_1 rfl rfl ?_
  refine g_X5_d C hM.1 dX5_gains_2 fl_X5_7 rfl ?_
  refine v_bipush C dX5_gains_5 bp_6 rfl ?_
  refine a_I C hM.2.1 (by decide) dX5_gains_7 (6) rfl (by decide) rfl ?_
  refine v_imul C dX5_gains_8 rfl ?_
  refine v_iconst C dX5_gains_9 ic_0 rfl ?_
  refine v_bipush C dX5_gains_10 bp_12 rfl ?_
  refine v_iS C dX5_gains_12 ms_X5_held c_X5_held rfl ml_X5_50 (rk_of rfl) rfl (Nat.le_of_ble_eq_true rfl) rfl (px_k ?_)
  refine v_eqi (hd_plain hg) ?_
  refine v_istore_n C dX5_gains_15 (by decide) rfl ?_
  refine v_aload_n C dX5_gains_16 rfl rfl ?_
  refine v_iload_n C dX5_gains_17 rfl rfl ?_
  refine v_iconst C dX5_gains_18 ic_0 rfl ?_
  refine v_iV C dX5_gains_19 mi_X5_its (c_X5_its hM (i := i) (f := 0) (j := 13 + i) hi (by decide) hr rfl rfl) rfl hM.1.1 hM.1.2 rfl ml_X5_46 (rk_of rfl) rfl (Nat.le_of_ble_eq_true rfl) rfl (px_k ?_)
  refine v_case (1) (fun e22_1 => ?_) (fun n22_1 => ?_)
  · refine v_tableIn C 60 dX5_gains_22 e22_1 (by decide) (by decide) rfl (by decide) ?_
    refine v_iload_n C dX5_gains_60 rfl rfl ?_
    refine v_aload_n C dX5_gains_61 rfl rfl ?_
    refine g_X5_d C hM.1 dX5_gains_62 fl_X5_7 rfl ?_
    refine v_bipush C dX5_gains_65 bp_6 rfl ?_
    refine a_I C hM.2.1 (by decide) dX5_gains_67 (6) rfl (by decide) rfl ?_
    refine v_iadd C dX5_gains_68 rfl ?_
    exact v_iret C hQ dX5_gains_69 ⟨by first | (simp [gainsS, *]; done) | (simp [gainsS, *]; intro h; exact absurd h (Int32.not_lt.mpr (by assumption))), rfl⟩
  refine v_case (2) (fun e22_2 => ?_) (fun n22_2 => ?_)
  · refine v_tableIn C 70 dX5_gains_22 e22_2 (by decide) (by decide) rfl (by decide) ?_
    refine v_iload_n C dX5_gains_70 rfl rfl ?_
    refine v_iconst C dX5_gains_71 ic_2 rfl ?_
    refine v_idiv C dX5_gains_72 (by decide) rfl ?_
    exact v_iret C hQ dX5_gains_73 ⟨by first | (simp [gainsS, *]; done) | (simp [gainsS, *]; intro h; exact absurd h (Int32.not_lt.mpr (by assumption))), rfl⟩
  refine v_case (3) (fun e22_3 => ?_) (fun n22_3 => ?_)
  · refine v_tableIn C 74 dX5_gains_22 e22_3 (by decide) (by decide) rfl (by decide) ?_
    refine v_iload_n C dX5_gains_74 rfl rfl ?_
    refine v_iconst C dX5_gains_75 ic_2 rfl ?_
    refine v_idiv C dX5_gains_76 (by decide) rfl ?_
    refine v_iconst C dX5_gains_77 ic_5 rfl ?_
    refine v_iadd C dX5_gains_78 rfl ?_
    exact v_iret C hQ dX5_gains_79 ⟨by first | (simp [gainsS, *]; done) | (simp [gainsS, *]; intro h; exact absurd h (Int32.not_lt.mpr (by assumption))), rfl⟩
  refine v_case (4) (fun e22_4 => ?_) (fun n22_4 => ?_)
  · refine v_tableIn C 74 dX5_gains_22 e22_4 (by decide) (by decide) rfl (by decide) ?_
    refine v_iload_n C dX5_gains_74 rfl rfl ?_
    refine v_iconst C dX5_gains_75 ic_2 rfl ?_
    refine v_idiv C dX5_gains_76 (by decide) rfl ?_
    refine v_iconst C dX5_gains_77 ic_5 rfl ?_
    refine v_iadd C dX5_gains_78 rfl ?_
    exact v_iret C hQ dX5_gains_79 ⟨by first | (simp [gainsS, *]; done) | (simp [gainsS, *]; intro h; exact absurd h (Int32.not_lt.mpr (by assumption))), rfl⟩
  refine v_case (5) (fun e22_5 => ?_) (fun n22_5 => ?_)
  · refine v_tableIn C 80 dX5_gains_22 e22_5 (by decide) (by decide) rfl (by decide) ?_
    refine v_aload_n C dX5_gains_80 rfl rfl ?_
    refine g_X5_d C hM.1 dX5_gains_81 fl_X5_7 rfl ?_
    refine v_bipush C dX5_gains_84 bp_6 rfl ?_
    refine a_I C hM.2.1 (by decide) dX5_gains_86 (6) rfl (by decide) rfl ?_
    refine v_bipush C dX5_gains_87 bp_6 rfl ?_
    refine v_icmp_le C 98 92 dX5_gains_89 (by decide) rfl (fun h89 => ?_) (fun h89 => ?_)
    · refine v_iload_n C dX5_gains_98 rfl rfl ?_
      exact v_iret C hQ dX5_gains_99 ⟨by first | (simp [gainsS, *]; done) | (simp [gainsS, *]; intro h; exact absurd h (Int32.not_lt.mpr (by assumption))), rfl⟩
    · refine v_iload_n C dX5_gains_92 rfl rfl ?_
      refine v_iconst C dX5_gains_93 ic_2 rfl ?_
      refine v_isub C dX5_gains_94 rfl ?_
      refine v_goto C 99 dX5_gains_95 (by decide) ?_
      exact v_iret C hQ dX5_gains_99 ⟨by first | (simp [gainsS, *]; done) | (simp [gainsS, *]; intro h; exact absurd h (Int32.not_lt.mpr (by assumption))), rfl⟩
  refine v_case (6) (fun e22_6 => ?_) (fun n22_6 => ?_)
  · refine v_tableIn C 60 dX5_gains_22 e22_6 (by decide) (by decide) rfl (by decide) ?_
    refine v_iload_n C dX5_gains_60 rfl rfl ?_
    refine v_aload_n C dX5_gains_61 rfl rfl ?_
    refine g_X5_d C hM.1 dX5_gains_62 fl_X5_7 rfl ?_
    refine v_bipush C dX5_gains_65 bp_6 rfl ?_
    refine a_I C hM.2.1 (by decide) dX5_gains_67 (6) rfl (by decide) rfl ?_
    refine v_iadd C dX5_gains_68 rfl ?_
    exact v_iret C hQ dX5_gains_69 ⟨by first | (simp [gainsS, *]; done) | (simp [gainsS, *]; intro h; exact absurd h (Int32.not_lt.mpr (by assumption))), rfl⟩
  refine v_tableOut C 100 dX5_gains_22 (by have z1 := lv_neT n22_1 (a := 1) (by decide); have z2 := lv_neT n22_2 (a := 2) (by decide); have z3 := lv_neT n22_3 (a := 3) (by decide); have z4 := lv_neT n22_4 (a := 4) (by decide); have z5 := lv_neT n22_5 (a := 5) (by decide); have z6 := lv_neT n22_6 (a := 6) (by decide); omega) (by decide) ?_
  refine v_iload_n C dX5_gains_100 rfl rfl ?_
  exact v_iret C hQ dX5_gains_101 ⟨by first | (simp [gainsS, *]; done) | (simp [gainsS, *]; intro h; exact absurd h (Int32.not_lt.mpr (by assumption))), rfl⟩

set_option maxRecDepth 100000 in
set_option maxHeartbeats 4000000 in
theorem c_X5_loses {l : Launch} {w : WC} {μ : Me} (hM : Md w) {r : Int32} {i : Nat} (hi : i < 8) (hr : r = nI i) {v : Int32} : CtI l w yX5_loses cX5_loses 3 (some .int) (Rm 1 22) [.ref (w_ad w 0), .int r, .int v] μ (Px (losesS (μ.1 1 (13 + i)) (μ.1 1 (37 + i)) v) μ) := by
  refine Ct.mk (own := RX5) rfl (by decide) (Nat.le_of_ble_eq_true rfl) (fun x hxl C hQ => ?_)
  subst hxl
  refine v_aload_n C dX5_loses_0 rfl rfl ?_
  refine v_iload_n C dX5_loses_1 rfl rfl ?_
  refine v_iconst C dX5_loses_2 ic_0 rfl ?_
  refine v_iV C dX5_loses_3 mi_X5_its (c_X5_its hM (i := i) (f := 0) (j := 13 + i) hi (by decide) hr rfl rfl) rfl hM.1.1 hM.1.2 rfl ml_X5_46 (rk_of rfl) rfl (Nat.le_of_ble_eq_true rfl) rfl (px_k ?_)
  refine v_case (1) (fun e6_1 => ?_) (fun n6_1 => ?_)
  · refine v_tableIn C 44 dX5_loses_6 e6_1 (by decide) (by decide) rfl (by decide) ?_
    refine v_iconst C dX5_loses_44 ic_2 rfl ?_
    exact v_iret C hQ dX5_loses_45 ⟨by first | (simp [losesS, *]; done) | (simp [losesS, *]; intro h; exact absurd h (Int32.not_le.mpr (by assumption))), rfl⟩
  refine v_case (2) (fun e6_2 => ?_) (fun n6_2 => ?_)
  · refine v_tableIn C 46 dX5_loses_6 e6_2 (by decide) (by decide) rfl (by decide) ?_
    refine v_iconst C dX5_loses_46 ic_1 rfl ?_
    exact v_iret C hQ dX5_loses_47 ⟨by first | (simp [losesS, *]; done) | (simp [losesS, *]; intro h; exact absurd h (Int32.not_le.mpr (by assumption))), rfl⟩
  refine v_case (3) (fun e6_3 => ?_) (fun n6_3 => ?_)
  · refine v_tableIn C 48 dX5_loses_6 e6_3 (by decide) (by decide) rfl (by decide) ?_
    refine v_aload_n C dX5_loses_48 rfl rfl ?_
    refine v_iload_n C dX5_loses_49 rfl rfl ?_
    refine v_iconst C dX5_loses_50 ic_3 rfl ?_
    refine v_iV C dX5_loses_51 mi_X5_its (c_X5_its hM (i := i) (f := 3) (j := 37 + i) hi (by decide) hr rfl rfl) rfl hM.1.1 hM.1.2 rfl ml_X5_46 (rk_of rfl) rfl (Nat.le_of_ble_eq_true rfl) rfl (px_k ?_)
    refine v_iconst C dX5_loses_54 ic_4 rfl ?_
    refine v_icmp_lt C 62 58 dX5_loses_55 (by decide) rfl (fun h55 => ?_) (fun h55 => ?_)
    · refine v_iconst C dX5_loses_62 ic_1 rfl ?_
      exact v_iret C hQ dX5_loses_63 ⟨by first | (simp [losesS, *]; done) | (simp [losesS, *]; intro h; exact absurd h (Int32.not_le.mpr (by assumption))), rfl⟩
    · refine v_iconst C dX5_loses_58 ic_2 rfl ?_
      refine v_goto C 63 dX5_loses_59 (by decide) ?_
      exact v_iret C hQ dX5_loses_63 ⟨by first | (simp [losesS, *]; done) | (simp [losesS, *]; intro h; exact absurd h (Int32.not_le.mpr (by assumption))), rfl⟩
  refine v_case (4) (fun e6_4 => ?_) (fun n6_4 => ?_)
  · refine v_tableIn C 64 dX5_loses_6 e6_4 (by decide) (by decide) rfl (by decide) ?_
    refine v_iconst C dX5_loses_64 ic_0 rfl ?_
    exact v_iret C hQ dX5_loses_65 ⟨by first | (simp [losesS, *]; done) | (simp [losesS, *]; intro h; exact absurd h (Int32.not_le.mpr (by assumption))), rfl⟩
  refine v_case (5) (fun e6_5 => ?_) (fun n6_5 => ?_)
  · refine v_tableIn C 66 dX5_loses_6 e6_5 (by decide) (by decide) rfl (by decide) ?_
    refine v_iconst C dX5_loses_66 ic_3 rfl ?_
    refine v_iload_n C dX5_loses_67 rfl rfl ?_
    refine v_iadd C dX5_loses_68 rfl ?_
    exact v_iret C hQ dX5_loses_69 ⟨by first | (simp [losesS, *]; done) | (simp [losesS, *]; intro h; exact absurd h (Int32.not_le.mpr (by assumption))), rfl⟩
  refine v_case (6) (fun e6_6 => ?_) (fun n6_6 => ?_)
  · refine v_tableIn C 44 dX5_loses_6 e6_6 (by decide) (by decide) rfl (by decide) ?_
    refine v_iconst C dX5_loses_44 ic_2 rfl ?_
    exact v_iret C hQ dX5_loses_45 ⟨by first | (simp [losesS, *]; done) | (simp [losesS, *]; intro h; exact absurd h (Int32.not_le.mpr (by assumption))), rfl⟩
  refine v_tableOut C 70 dX5_loses_6 (by have z1 := lv_neT n6_1 (a := 1) (by decide); have z2 := lv_neT n6_2 (a := 2) (by decide); have z3 := lv_neT n6_3 (a := 3) (by decide); have z4 := lv_neT n6_4 (a := 4) (by decide); have z5 := lv_neT n6_5 (a := 5) (by decide); have z6 := lv_neT n6_6 (a := 6) (by decide); omega) (by decide) ?_
  refine v_iconst C dX5_loses_70 ic_3 rfl ?_
  exact v_iret C hQ dX5_loses_71 ⟨by first | (simp [losesS, *]; done) | (simp [losesS, *]; intro h; exact absurd h (Int32.not_le.mpr (by assumption))), rfl⟩

set_option maxRecDepth 100000 in
set_option maxHeartbeats 4000000 in
theorem c_X5_shares {l : Launch} {w : WC} {μ : Me} (hM : Md w) {r : Int32} {i : Nat} (hi : i < 8) (hr : r = nI i) : CtI l w yX5_shares cX5_shares 3 (some .boolean) (Rm 1 22) [.ref (w_ad w 0), .int r] μ (Px (sharesS (μ.1 1 (13 + i)) (μ.1 1 (21 + i))) μ) := by
  refine Ct.mk (own := RX5) rfl (by decide) (Nat.le_of_ble_eq_true rfl) (fun x hxl C hQ => ?_)
  subst hxl
  refine v_aload_n C dX5_shares_0 rfl rfl ?_
  refine v_iload_n C dX5_shares_1 rfl rfl ?_
  refine v_iconst C dX5_shares_2 ic_0 rfl ?_
  refine v_iV C dX5_shares_3 mi_X5_its (c_X5_its hM (i := i) (f := 0) (j := 13 + i) hi (by decide) hr rfl rfl) rfl hM.1.1 hM.1.2 rfl ml_X5_46 (rk_of rfl) rfl (Nat.le_of_ble_eq_true rfl) rfl (px_k ?_)
  refine v_istore_n C dX5_shares_6 (by decide) rfl ?_
  refine v_iload_n C dX5_shares_7 rfl rfl ?_
  refine v_bipush C dX5_shares_8 bp_6 rfl ?_
  refine v_icmp_eq C 34 13 dX5_shares_10 (by decide) rfl (fun h10 => ?_) (fun h10 => ?_)
  · refine v_iconst C dX5_shares_34 ic_1 rfl ?_
    refine v_goto C 39 dX5_shares_35 (by decide) ?_
    exact v_zret C hQ dX5_shares_39 rfl ⟨by first | (simp [sharesS, *]; done) | (simp [sharesS, *]; intro h; exact absurd h (Int32.not_le.mpr (by assumption))), rfl⟩
  · refine v_iload_n C dX5_shares_13 rfl rfl ?_
    refine v_iconst C dX5_shares_14 ic_3 rfl ?_
    refine v_icmp_eq C 34 18 dX5_shares_15 (by decide) rfl (fun h15 => ?_) (fun h15 => ?_)
    · refine v_iconst C dX5_shares_34 ic_1 rfl ?_
      refine v_goto C 39 dX5_shares_35 (by decide) ?_
      exact v_zret C hQ dX5_shares_39 rfl ⟨by first | (simp [sharesS, *]; done) | (simp [sharesS, *]; intro h; exact absurd h (Int32.not_le.mpr (by assumption))), rfl⟩
    · refine v_iload_n C dX5_shares_18 rfl rfl ?_
      refine v_iconst C dX5_shares_19 ic_4 rfl ?_
      refine v_icmp_eq C 38 23 dX5_shares_20 (by decide) rfl (fun h20 => ?_) (fun h20 => ?_)
      · refine v_iconst C dX5_shares_38 ic_0 rfl ?_
        exact v_zret C hQ dX5_shares_39 rfl ⟨by first | (simp [sharesS, *]; done) | (simp [sharesS, *]; intro h; exact absurd h (Int32.not_le.mpr (by assumption))), rfl⟩
      · refine v_aload_n C dX5_shares_23 rfl rfl ?_
        refine v_iload_n C dX5_shares_24 rfl rfl ?_
        refine v_iconst C dX5_shares_25 ic_1 rfl ?_
        refine v_iV C dX5_shares_26 mi_X5_its (c_X5_its hM (i := i) (f := 1) (j := 21 + i) hi (by decide) hr rfl rfl) rfl hM.1.1 hM.1.2 rfl ml_X5_46 (rk_of rfl) rfl (Nat.le_of_ble_eq_true rfl) rfl (px_k ?_)
        refine v_bipush C dX5_shares_29 bp_70 rfl ?_
        refine v_icmp_lt C 38 34 dX5_shares_31 (by decide) rfl (fun h31 => ?_) (fun h31 => ?_)
        · refine v_iconst C dX5_shares_38 ic_0 rfl ?_
          exact v_zret C hQ dX5_shares_39 rfl ⟨by first | (simp [sharesS, *]; done) | (simp [sharesS, *]; intro h; exact absurd h (Int32.not_le.mpr (by assumption))), rfl⟩
        · refine v_iconst C dX5_shares_34 ic_1 rfl ?_
          refine v_goto C 39 dX5_shares_35 (by decide) ?_
          exact v_zret C hQ dX5_shares_39 rfl ⟨by first | (simp [sharesS, *]; done) | (simp [sharesS, *]; intro h; exact absurd h (Int32.not_le.mpr (by assumption))), rfl⟩

set_option maxRecDepth 100000 in
set_option maxHeartbeats 4000000 in
theorem lp_X5_visitedOf_12 {w : WC} {x : Cy} {μ : Me} (hM : Md w) {n : Nat} (hn : n ≤ 8) (h0 : μ.1 1 0 = nI n) {v : Int32}  (C : Cx w x cX5_visitedOf 5 RX5 (some .int) (Rm 2 43)) (hQ : y_Q x = MQ (y_b x) (QI w (Px (seL (fun r => μ.1 1 (13 + r)) (μ.1 1 3) v n).2 μ)) (y_a x) (y_s x) 0 0 (AA w)) : ∀ (m i : Nat) (a : Int32) (b : Int32), n + 1 ≤ i + m → i ≤ n → (a = (seL (fun r => μ.1 1 (13 + r)) (μ.1 1 3) v i).1) → (b = (seL (fun r => μ.1 1 (13 + r)) (μ.1 1 3) v i).2) → V w x 5 μ 12 [(0, .ref (w_ad w 0)), (1, .int v), (2, .int a), (3, .int b), (4, .int (nI i))] [] := by
  intro m
  induction m with
  | zero =>
    intro i a b hm hi
    exact absurd hm (by omega)
  | succ m ih =>
    intro i a b hm hi ha hb
    refine v_iload C dX5_visitedOf_12 rfl rfl ?_
    refine v_aload_n C dX5_visitedOf_14 rfl rfl ?_
    refine g_X5_d C hM.1 dX5_visitedOf_15 fl_X5_7 rfl ?_
    refine v_iconst C dX5_visitedOf_18 ic_0 rfl ?_
    refine a_I C hM.2.1 (by decide) dX5_visitedOf_19 (0) rfl (by decide) rfl ?_
    refine v_eqi (h0) ?_
    refine v_icmp_ge C 65 23 dX5_visitedOf_20 (by decide) rfl (fun h20 => ?_) (fun h20 => ?_)
    · have g : i = n := by have := (le_n (a := n) (b := i) (by omega) (by omega)).mp h20; omega
      refine v_iload_n C dX5_visitedOf_65 rfl rfl ?_
      exact v_iret C hQ dX5_visitedOf_66 ⟨by rw [hb, g], rfl⟩
    · have g : i < n := by rcases Nat.lt_or_ge i (n) with q | q; exact q; exact absurd ((le_n (a := n) (b := i) (by omega) (by omega)).mpr q) h20
      refine v_iload_n C dX5_visitedOf_23 rfl rfl ?_
      refine v_iload C dX5_visitedOf_24 rfl rfl ?_
      refine v_ishr C dX5_visitedOf_26 rfl ?_
      refine v_iconst C dX5_visitedOf_27 ic_1 rfl ?_
      refine v_iand C dX5_visitedOf_28 rfl ?_
      refine v_iconst C dX5_visitedOf_29 ic_1 rfl ?_
      refine v_icmp_ne C 59 33 dX5_visitedOf_30 (by decide) rfl (fun h30 => ?_) (fun h30 => ?_)
      · refine v_iincN C dX5_visitedOf_59 rfl (by decide) rfl ?_
        refine v_goto C 12 dX5_visitedOf_62 (by decide) ?_
        exact V.norm (ih (i + 1) _ _ (by omega) (by omega) (by subst ha; subst hb; first | rw [seL_y h30 (Int32.not_lt.mp h40)] | rw [seL_n1 h30] | rw [seL_n2 (Int32.not_le.mpr h40)]) (by subst ha; subst hb; first | rw [seL_y h30 (Int32.not_lt.mp h40)] | rw [seL_n1 h30] | rw [seL_n2 (Int32.not_le.mpr h40)])) rfl
      · refine v_aload_n C dX5_visitedOf_33 rfl rfl ?_
        refine v_iload C dX5_visitedOf_34 rfl rfl ?_
        refine v_iV C dX5_visitedOf_36 mi_X5_seats (c_X5_seats hM (i := i) (by omega) rfl) rfl hM.1.1 hM.1.2 rfl ml_X5_54 (rk_of rfl) rfl (Nat.le_of_ble_eq_true rfl) rfl (px_k ?_)
        refine v_iload_n C dX5_visitedOf_39 rfl rfl ?_
        refine v_icmp_gt C 59 43 dX5_visitedOf_40 (by decide) rfl (fun h40 => ?_) (fun h40 => ?_)
        · refine v_iincN C dX5_visitedOf_59 rfl (by decide) rfl ?_
          refine v_goto C 12 dX5_visitedOf_62 (by decide) ?_
          exact V.norm (ih (i + 1) _ _ (by omega) (by omega) (by subst ha; subst hb; first | rw [seL_y h30 (Int32.not_lt.mp h40)] | rw [seL_n1 h30] | rw [seL_n2 (Int32.not_le.mpr h40)]) (by subst ha; subst hb; first | rw [seL_y h30 (Int32.not_lt.mp h40)] | rw [seL_n1 h30] | rw [seL_n2 (Int32.not_le.mpr h40)])) rfl
        · refine v_iload_n C dX5_visitedOf_43 rfl rfl ?_
          refine v_aload_n C dX5_visitedOf_44 rfl rfl ?_
          refine v_iload C dX5_visitedOf_45 rfl rfl ?_
          refine v_iV C dX5_visitedOf_47 mi_X5_seats (c_X5_seats hM (i := i) (by omega) rfl) rfl hM.1.1 hM.1.2 rfl ml_X5_54 (rk_of rfl) rfl (Nat.le_of_ble_eq_true rfl) rfl (px_k ?_)
          refine v_isub C dX5_visitedOf_50 rfl ?_
          refine v_istore_n C dX5_visitedOf_51 (by decide) rfl ?_
          refine v_iload_n C dX5_visitedOf_52 rfl rfl ?_
          refine v_iconst C dX5_visitedOf_53 ic_1 rfl ?_
          refine v_iload C dX5_visitedOf_54 rfl rfl ?_
          refine v_ishl C dX5_visitedOf_56 rfl ?_
          refine v_ior C dX5_visitedOf_57 rfl ?_
          refine v_istore_n C dX5_visitedOf_58 (by decide) rfl ?_
          refine v_iincN C dX5_visitedOf_59 rfl (by decide) rfl ?_
          refine v_goto C 12 dX5_visitedOf_62 (by decide) ?_
          exact V.norm (ih (i + 1) _ _ (by omega) (by omega) (by subst ha; subst hb; first | rw [seL_y h30 (Int32.not_lt.mp h40)] | rw [seL_n1 h30] | rw [seL_n2 (Int32.not_le.mpr h40)]) (by subst ha; subst hb; first | rw [seL_y h30 (Int32.not_lt.mp h40)] | rw [seL_n1 h30] | rw [seL_n2 (Int32.not_le.mpr h40)])) rfl
set_option maxRecDepth 100000 in
set_option maxHeartbeats 4000000 in
theorem c_X5_visitedOf {l : Launch} {w : WC} {μ : Me} (hM : Md w) {n : Nat} (hn : n ≤ 8) (h0 : μ.1 1 0 = nI n) {v : Int32} : CtI l w yX5_visitedOf cX5_visitedOf 5 (some .int) (Rm 2 43) [.ref (w_ad w 0), .int v] μ (Px (seL (fun r => μ.1 1 (13 + r)) (μ.1 1 3) v n).2 μ) := by
  refine Ct.mk (own := RX5) rfl (by decide) (Nat.le_of_ble_eq_true rfl) (fun x hxl C hQ => ?_)
  subst hxl
  refine v_aload_n C dX5_visitedOf_0 rfl rfl ?_
  refine g_X5_d C hM.1 dX5_visitedOf_1 fl_X5_7 rfl ?_
  refine v_iconst C dX5_visitedOf_4 ic_3 rfl ?_
  refine a_I C hM.2.1 (by decide) dX5_visitedOf_5 (3) rfl (by decide) rfl ?_
  refine v_istore_n C dX5_visitedOf_6 (by decide) rfl ?_
  refine v_iconst C dX5_visitedOf_7 ic_0 rfl ?_
  refine v_istore_n C dX5_visitedOf_8 (by decide) rfl ?_
  refine v_iconst C dX5_visitedOf_9 ic_0 rfl ?_
  refine v_istore C dX5_visitedOf_10 (by decide) rfl ?_
  exact V.norm (lp_X5_visitedOf_12 hM hn h0 C hQ (n + 1) 0 _ _ (by omega) (by omega) rfl rfl) rfl

set_option maxRecDepth 100000 in
set_option maxHeartbeats 4000000 in
theorem c_X5_todays {l : Launch} {w : WC} {μ : Me} (hM : Md w) {s : Nat} (hs1 : s ≤ 99999) (hs : μ.1 1 1 = nI s) : CtI l w yX5_todays cX5_todays 1 (some .int) (Rm 0 0) [.ref (w_ad w 0)] μ (Px (μ.1 1 (7 + s6 (μ.1 1 1))) μ) := by
  refine Ct.mk (own := RX5) rfl (by decide) (Nat.le_of_ble_eq_true rfl) (fun x hxl C hQ => ?_)
  subst hxl
  refine v_aload_n C dX5_todays_0 rfl rfl ?_
  refine g_X5_d C hM.1 dX5_todays_1 fl_X5_7 rfl ?_
  refine v_bipush C dX5_todays_4 bp_7 rfl ?_
  refine v_aload_n C dX5_todays_6 rfl rfl ?_
  refine g_X5_d C hM.1 dX5_todays_7 fl_X5_7 rfl ?_
  refine v_iconst C dX5_todays_10 ic_1 rfl ?_
  refine a_I C hM.2.1 (by decide) dX5_todays_11 (1) rfl (by decide) rfl ?_
  refine v_bipush C dX5_todays_12 bp_6 rfl ?_
  refine v_irem C dX5_todays_14 (by decide) rfl ?_
  refine v_iadd C dX5_todays_15 rfl ?_
  refine a_I C hM.2.1 (by decide) dX5_todays_16 (7 + s6 (μ.1 1 1)) (by rw [hs, s6_e (by omega)]; show nI 7 + (nI s - nI s / 6 * 6) = _; rw [s6_n (by omega), nI_add]) (by rw [hs, s6_e (by omega)]; omega) rfl ?_
  exact v_iret C hQ dX5_todays_17 ⟨rfl, rfl⟩

set_option maxRecDepth 100000 in
set_option maxHeartbeats 4000000 in
theorem lp_X5_sharersOf_4 {w : WC} {x : Cy} {μ : Me} (hM : Md w) {n : Nat} (hn : n ≤ 8) (h0 : μ.1 1 0 = nI n) {v : Int32}  (C : Cx w x cX5_sharersOf 6 RX5 (some .int) (Rm 2 44)) (hQ : y_Q x = MQ (y_b x) (QI w (Px (shL (fun r => μ.1 1 (13 + r)) (fun r => μ.1 1 (21 + r)) (fun r => μ.1 1 (29 + r)) v n) μ)) (y_a x) (y_s x) 0 0 (AA w)) : ∀ (m i : Nat) (a : Int32), n + 1 ≤ i + m → i ≤ n → (a = shL (fun r => μ.1 1 (13 + r)) (fun r => μ.1 1 (21 + r)) (fun r => μ.1 1 (29 + r)) v i) → V w x 6 μ 4 [(0, .ref (w_ad w 0)), (1, .int v), (2, .int a), (3, .int (nI i))] [] := by
  intro m
  induction m with
  | zero =>
    intro i a hm hi
    exact absurd hm (by omega)
  | succ m ih =>
    intro i a hm hi ha
    refine v_iload_n C dX5_sharersOf_4 rfl rfl ?_
    refine v_aload_n C dX5_sharersOf_5 rfl rfl ?_
    refine g_X5_d C hM.1 dX5_sharersOf_6 fl_X5_7 rfl ?_
    refine v_iconst C dX5_sharersOf_9 ic_0 rfl ?_
    refine a_I C hM.2.1 (by decide) dX5_sharersOf_10 (0) rfl (by decide) rfl ?_
    refine v_eqi (h0) ?_
    refine v_icmp_ge C 81 14 dX5_sharersOf_11 (by decide) rfl (fun h11 => ?_) (fun h11 => ?_)
    · have g : i = n := by have := (le_n (a := n) (b := i) (by omega) (by omega)).mp h11; omega
      refine v_iload_n C dX5_sharersOf_81 rfl rfl ?_
      exact v_iret C hQ dX5_sharersOf_82 ⟨by rw [ha, g], rfl⟩
    · have g : i < n := by rcases Nat.lt_or_ge i (n) with q | q; exact q; exact absurd ((le_n (a := n) (b := i) (by omega) (by omega)).mpr q) h11
      refine v_aload_n C dX5_sharersOf_14 rfl rfl ?_
      refine v_iload_n C dX5_sharersOf_15 rfl rfl ?_
      refine v_iconst C dX5_sharersOf_16 ic_2 rfl ?_
      refine v_iV C dX5_sharersOf_17 mi_X5_its (c_X5_its hM (i := i) (f := 2) (j := 29 + i) (by omega) (by decide) rfl rfl rfl) rfl hM.1.1 hM.1.2 rfl ml_X5_46 (rk_of rfl) rfl (Nat.le_of_ble_eq_true rfl) rfl (px_k ?_)
      refine v_istore C dX5_sharersOf_20 (by decide) rfl ?_
      refine v_iload_n C dX5_sharersOf_22 rfl rfl ?_
      refine v_iload_n C dX5_sharersOf_23 rfl rfl ?_
      refine v_ishr C dX5_sharersOf_24 rfl ?_
      refine v_iconst C dX5_sharersOf_25 ic_1 rfl ?_
      refine v_iand C dX5_sharersOf_26 rfl ?_
      refine v_if_ne C 57 30 dX5_sharersOf_27 (by decide) rfl (fun h27 => ?_) (fun h27 => ?_)
      · refine v_iconst C dX5_sharersOf_57 ic_0 rfl ?_
        refine v_istore C dX5_sharersOf_58 (by decide) rfl ?_
        refine v_iload_n C dX5_sharersOf_60 rfl rfl ?_
        refine v_iload C dX5_sharersOf_61 rfl rfl ?_
        refine v_if_eq C 72 66 dX5_sharersOf_63 (by decide) rfl (fun h63 => ?_) (fun h63 => ?_)
        · refine v_iconst C dX5_sharersOf_72 ic_0 rfl ?_
          refine v_ior C dX5_sharersOf_73 rfl ?_
          refine v_istore_n C dX5_sharersOf_74 (by decide) rfl ?_
          refine v_iincN C dX5_sharersOf_75 rfl (by decide) rfl ?_
          refine v_goto C 4 dX5_sharersOf_78 (by decide) ?_
          exact V.norm (ih (i + 1) _ (by omega) (by omega) (by rw [shL_n1 (kd := (fun r => μ.1 1 (13 + r))) (md := (fun r => μ.1 1 (21 + r))) (fr := (fun r => μ.1 1 (29 + r))) (v := v) (i := i) (bit_n0 h27), ha]; exact or_0 _)) rfl
        · refine v_iconst C dX5_sharersOf_66 ic_1 rfl ?_
          refine v_iload_n C dX5_sharersOf_67 rfl rfl ?_
          refine v_ishl C dX5_sharersOf_68 rfl ?_
          refine v_goto C 73 dX5_sharersOf_69 (by decide) ?_
          refine v_ior C dX5_sharersOf_73 rfl ?_
          refine v_istore_n C dX5_sharersOf_74 (by decide) rfl ?_
          refine v_iincN C dX5_sharersOf_75 rfl (by decide) rfl ?_
          refine v_goto C 4 dX5_sharersOf_78 (by decide) ?_
          exact absurd rfl h63
      · refine v_iload C dX5_sharersOf_30 rfl rfl ?_
        refine v_if_lt C 57 35 dX5_sharersOf_32 (by decide) rfl (fun h32 => ?_) (fun h32 => ?_)
        · refine v_iconst C dX5_sharersOf_57 ic_0 rfl ?_
          refine v_istore C dX5_sharersOf_58 (by decide) rfl ?_
          refine v_iload_n C dX5_sharersOf_60 rfl rfl ?_
          refine v_iload C dX5_sharersOf_61 rfl rfl ?_
          refine v_if_eq C 72 66 dX5_sharersOf_63 (by decide) rfl (fun h63 => ?_) (fun h63 => ?_)
          · refine v_iconst C dX5_sharersOf_72 ic_0 rfl ?_
            refine v_ior C dX5_sharersOf_73 rfl ?_
            refine v_istore_n C dX5_sharersOf_74 (by decide) rfl ?_
            refine v_iincN C dX5_sharersOf_75 rfl (by decide) rfl ?_
            refine v_goto C 4 dX5_sharersOf_78 (by decide) ?_
            exact V.norm (ih (i + 1) _ (by omega) (by omega) (by rw [shL_n2 (kd := (fun r => μ.1 1 (13 + r))) (md := (fun r => μ.1 1 (21 + r))) (fr := (fun r => μ.1 1 (29 + r))) (v := v) (i := i) (is_nn h32), ha]; exact or_0 _)) rfl
          · refine v_iconst C dX5_sharersOf_66 ic_1 rfl ?_
            refine v_iload_n C dX5_sharersOf_67 rfl rfl ?_
            refine v_ishl C dX5_sharersOf_68 rfl ?_
            refine v_goto C 73 dX5_sharersOf_69 (by decide) ?_
            refine v_ior C dX5_sharersOf_73 rfl ?_
            refine v_istore_n C dX5_sharersOf_74 (by decide) rfl ?_
            refine v_iincN C dX5_sharersOf_75 rfl (by decide) rfl ?_
            refine v_goto C 4 dX5_sharersOf_78 (by decide) ?_
            exact absurd rfl h63
        · refine v_iload_n C dX5_sharersOf_35 rfl rfl ?_
          refine v_iload C dX5_sharersOf_36 rfl rfl ?_
          refine v_ishr C dX5_sharersOf_38 rfl ?_
          refine v_iconst C dX5_sharersOf_39 ic_1 rfl ?_
          refine v_iand C dX5_sharersOf_40 rfl ?_
          refine v_iconst C dX5_sharersOf_41 ic_1 rfl ?_
          refine v_icmp_ne C 57 45 dX5_sharersOf_42 (by decide) rfl (fun h42 => ?_) (fun h42 => ?_)
          · refine v_iconst C dX5_sharersOf_57 ic_0 rfl ?_
            refine v_istore C dX5_sharersOf_58 (by decide) rfl ?_
            refine v_iload_n C dX5_sharersOf_60 rfl rfl ?_
            refine v_iload C dX5_sharersOf_61 rfl rfl ?_
            refine v_if_eq C 72 66 dX5_sharersOf_63 (by decide) rfl (fun h63 => ?_) (fun h63 => ?_)
            · refine v_iconst C dX5_sharersOf_72 ic_0 rfl ?_
              refine v_ior C dX5_sharersOf_73 rfl ?_
              refine v_istore_n C dX5_sharersOf_74 (by decide) rfl ?_
              refine v_iincN C dX5_sharersOf_75 rfl (by decide) rfl ?_
              refine v_goto C 4 dX5_sharersOf_78 (by decide) ?_
              exact V.norm (ih (i + 1) _ (by omega) (by omega) (by rw [shL_n2 (kd := (fun r => μ.1 1 (13 + r))) (md := (fun r => μ.1 1 (21 + r))) (fr := (fun r => μ.1 1 (29 + r))) (v := v) (i := i) (is_nb h42), ha]; exact or_0 _)) rfl
            · refine v_iconst C dX5_sharersOf_66 ic_1 rfl ?_
              refine v_iload_n C dX5_sharersOf_67 rfl rfl ?_
              refine v_ishl C dX5_sharersOf_68 rfl ?_
              refine v_goto C 73 dX5_sharersOf_69 (by decide) ?_
              refine v_ior C dX5_sharersOf_73 rfl ?_
              refine v_istore_n C dX5_sharersOf_74 (by decide) rfl ?_
              refine v_iincN C dX5_sharersOf_75 rfl (by decide) rfl ?_
              refine v_goto C 4 dX5_sharersOf_78 (by decide) ?_
              exact absurd rfl h63
          · refine v_aload_n C dX5_sharersOf_45 rfl rfl ?_
            refine v_iload_n C dX5_sharersOf_46 rfl rfl ?_
            refine v_iV C dX5_sharersOf_47 mi_X5_shares (c_X5_shares hM (i := i) (by omega) rfl) rfl hM.1.1 hM.1.2 rfl ml_X5_58 (rk_of rfl) rfl (Nat.le_of_ble_eq_true rfl) rfl (px_k ?_)
            refine v_if_eq C 57 53 dX5_sharersOf_50 (by decide) rfl (fun h50 => ?_) (fun h50 => ?_)
            · refine v_iconst C dX5_sharersOf_57 ic_0 rfl ?_
              refine v_istore C dX5_sharersOf_58 (by decide) rfl ?_
              refine v_iload_n C dX5_sharersOf_60 rfl rfl ?_
              refine v_iload C dX5_sharersOf_61 rfl rfl ?_
              refine v_if_eq C 72 66 dX5_sharersOf_63 (by decide) rfl (fun h63 => ?_) (fun h63 => ?_)
              · refine v_iconst C dX5_sharersOf_72 ic_0 rfl ?_
                refine v_ior C dX5_sharersOf_73 rfl ?_
                refine v_istore_n C dX5_sharersOf_74 (by decide) rfl ?_
                refine v_iincN C dX5_sharersOf_75 rfl (by decide) rfl ?_
                refine v_goto C 4 dX5_sharersOf_78 (by decide) ?_
                exact V.norm (ih (i + 1) _ (by omega) (by omega) (by rw [shL_n3 (kd := (fun r => μ.1 1 (13 + r))) (md := (fun r => μ.1 1 (21 + r))) (fr := (fun r => μ.1 1 (29 + r))) (v := v) (i := i) h50, ha]; exact or_0 _)) rfl
              · refine v_iconst C dX5_sharersOf_66 ic_1 rfl ?_
                refine v_iload_n C dX5_sharersOf_67 rfl rfl ?_
                refine v_ishl C dX5_sharersOf_68 rfl ?_
                refine v_goto C 73 dX5_sharersOf_69 (by decide) ?_
                refine v_ior C dX5_sharersOf_73 rfl ?_
                refine v_istore_n C dX5_sharersOf_74 (by decide) rfl ?_
                refine v_iincN C dX5_sharersOf_75 rfl (by decide) rfl ?_
                refine v_goto C 4 dX5_sharersOf_78 (by decide) ?_
                exact absurd rfl h63
            · refine v_iconst C dX5_sharersOf_53 ic_1 rfl ?_
              refine v_goto C 58 dX5_sharersOf_54 (by decide) ?_
              refine v_istore C dX5_sharersOf_58 (by decide) rfl ?_
              refine v_iload_n C dX5_sharersOf_60 rfl rfl ?_
              refine v_iload C dX5_sharersOf_61 rfl rfl ?_
              refine v_if_eq C 72 66 dX5_sharersOf_63 (by decide) rfl (fun h63 => ?_) (fun h63 => ?_)
              · refine v_iconst C dX5_sharersOf_72 ic_0 rfl ?_
                refine v_ior C dX5_sharersOf_73 rfl ?_
                refine v_istore_n C dX5_sharersOf_74 (by decide) rfl ?_
                refine v_iincN C dX5_sharersOf_75 rfl (by decide) rfl ?_
                refine v_goto C 4 dX5_sharersOf_78 (by decide) ?_
                exact absurd h63 (by decide)
              · refine v_iconst C dX5_sharersOf_66 ic_1 rfl ?_
                refine v_iload_n C dX5_sharersOf_67 rfl rfl ?_
                refine v_ishl C dX5_sharersOf_68 rfl ?_
                refine v_goto C 73 dX5_sharersOf_69 (by decide) ?_
                refine v_ior C dX5_sharersOf_73 rfl ?_
                refine v_istore_n C dX5_sharersOf_74 (by decide) rfl ?_
                refine v_iincN C dX5_sharersOf_75 rfl (by decide) rfl ?_
                refine v_goto C 4 dX5_sharersOf_78 (by decide) ?_
                exact V.norm (ih (i + 1) _ (by omega) (by omega) (by rw [shL_y (kd := (fun r => μ.1 1 (13 + r))) (md := (fun r => μ.1 1 (21 + r))) (fr := (fun r => μ.1 1 (29 + r))) (v := v) (i := i) (bit_0n h27) (is_y h32 h42) h50, ha])) rfl
set_option maxRecDepth 100000 in
set_option maxHeartbeats 4000000 in
theorem c_X5_sharersOf {l : Launch} {w : WC} {μ : Me} (hM : Md w) {n : Nat} (hn : n ≤ 8) (h0 : μ.1 1 0 = nI n) {v : Int32} : CtI l w yX5_sharersOf cX5_sharersOf 6 (some .int) (Rm 2 44) [.ref (w_ad w 0), .int v] μ (Px (shL (fun r => μ.1 1 (13 + r)) (fun r => μ.1 1 (21 + r)) (fun r => μ.1 1 (29 + r)) v n) μ) := by
  refine Ct.mk (own := RX5) rfl (by decide) (Nat.le_of_ble_eq_true rfl) (fun x hxl C hQ => ?_)
  subst hxl
  refine v_iconst C dX5_sharersOf_0 ic_0 rfl ?_
  refine v_istore_n C dX5_sharersOf_1 (by decide) rfl ?_
  refine v_iconst C dX5_sharersOf_2 ic_0 rfl ?_
  refine v_istore_n C dX5_sharersOf_3 (by decide) rfl ?_
  exact V.norm (lp_X5_sharersOf_4 hM hn h0 C hQ (n + 1) 0 _ (by omega) (by omega) rfl) rfl

set_option maxRecDepth 100000 in
set_option maxHeartbeats 4000000 in
theorem lp_X5_longest_4 {w : WC} {x : Cy} {μ : Me} (hM : Md w) {n : Nat} (hn : n ≤ 8) (h0 : μ.1 1 0 = nI n) (hw : ∀ r, r < n → Le (μ.1 1 (37 + r)) 9999) {s : Int32}  (C : Cx w x cX5_longest 4 RX5 (some .int) (Rm 1 22)) (hQ : y_Q x = MQ (y_b x) (QI w (Px (lwL (fun r => μ.1 1 (37 + r)) s n).1 μ)) (y_a x) (y_s x) 0 0 (AA w)) : ∀ (m i : Nat) (a : Int32), n + 1 ≤ i + m → i ≤ n → (a = (lwL (fun r => μ.1 1 (37 + r)) s i).1) → V w x 4 μ 4 [(0, .ref (w_ad w 0)), (1, .int s), (2, .int a), (3, .int (nI i))] [] := by
  intro m
  induction m with
  | zero =>
    intro i a hm hi
    exact absurd hm (by omega)
  | succ m ih =>
    intro i a hm hi ha
    refine v_iload_n C dX5_longest_4 rfl rfl ?_
    refine v_aload_n C dX5_longest_5 rfl rfl ?_
    refine g_X5_d C hM.1 dX5_longest_6 fl_X5_7 rfl ?_
    refine v_iconst C dX5_longest_9 ic_0 rfl ?_
    refine a_I C hM.2.1 (by decide) dX5_longest_10 (0) rfl (by decide) rfl ?_
    refine v_eqi (h0) ?_
    refine v_icmp_ge C 53 14 dX5_longest_11 (by decide) rfl (fun h11 => ?_) (fun h11 => ?_)
    · have g : i = n := by have := (le_n (a := n) (b := i) (by omega) (by omega)).mp h11; omega
      refine v_iload_n C dX5_longest_53 rfl rfl ?_
      exact v_iret C hQ dX5_longest_54 ⟨by rw [ha, g], rfl⟩
    · have g : i < n := by rcases Nat.lt_or_ge i (n) with q | q; exact q; exact absurd ((le_n (a := n) (b := i) (by omega) (by omega)).mpr q) h11
      refine v_iload_n C dX5_longest_14 rfl rfl ?_
      refine v_iload_n C dX5_longest_15 rfl rfl ?_
      refine v_ishr C dX5_longest_16 rfl ?_
      refine v_iconst C dX5_longest_17 ic_1 rfl ?_
      refine v_iand C dX5_longest_18 rfl ?_
      refine v_if_ne C 47 22 dX5_longest_19 (by decide) rfl (fun h19 => ?_) (fun h19 => ?_)
      · refine v_iincN C dX5_longest_47 rfl (by decide) rfl ?_
        refine v_goto C 4 dX5_longest_50 (by decide) ?_
        exact V.norm (ih (i + 1) _ (by omega) (by omega) (by rw [lwL_n1 (f := (fun r => μ.1 1 (37 + r))) (s := s) (i := i) h19]; exact ha)) rfl
      · refine v_iload_n C dX5_longest_22 rfl rfl ?_
        refine v_if_lt C 41 26 dX5_longest_23 (by decide) rfl (fun h23 => ?_) (fun h23 => ?_)
        · refine v_iload_n C dX5_longest_41 rfl rfl ?_
          refine v_goto C 46 dX5_longest_42 (by decide) ?_
          refine v_istore_n C dX5_longest_46 (by decide) rfl ?_
          refine v_iincN C dX5_longest_47 rfl (by decide) rfl ?_
          refine v_goto C 4 dX5_longest_50 (by decide) ?_
          exact V.norm (ih (i + 1) _ (by omega) (by omega) (by rw [lwL_y (f := (fun r => μ.1 1 (37 + r))) (s := s) (i := i) h19 (lw_neg hn hw i (by omega) (by rw [← ha]; exact h23))])) rfl
        · obtain ⟨bb, hbb, hb1, hb2⟩ := lw_pos (f := (fun r => μ.1 1 (37 + r))) (s := s) (i := i) (by rw [← ha]; exact h23)
          refine v_aload_n C dX5_longest_26 rfl rfl ?_
          refine v_iload_n C dX5_longest_27 rfl rfl ?_
          refine v_iconst C dX5_longest_28 ic_3 rfl ?_
          refine v_iV C dX5_longest_29 mi_X5_its (c_X5_its hM (i := i) (f := 3) (j := 37 + i) (by omega) (by decide) rfl rfl rfl) rfl hM.1.1 hM.1.2 rfl ml_X5_46 (rk_of rfl) rfl (Nat.le_of_ble_eq_true rfl) rfl (px_k ?_)
          refine v_aload_n C dX5_longest_32 rfl rfl ?_
          refine v_iload_n C dX5_longest_33 rfl rfl ?_
          refine v_iconst C dX5_longest_34 ic_3 rfl ?_
          refine v_iV C dX5_longest_35 mi_X5_its (c_X5_its hM (i := bb) (f := 3) (j := 37 + bb) (by omega) (by decide) (ha.trans hb1) rfl rfl) rfl hM.1.1 hM.1.2 rfl ml_X5_46 (rk_of rfl) rfl (Nat.le_of_ble_eq_true rfl) rfl (px_k ?_)
          refine v_icmp_le C 45 41 dX5_longest_38 (by decide) rfl (fun h38 => ?_) (fun h38 => ?_)
          · refine v_iload_n C dX5_longest_45 rfl rfl ?_
            refine v_istore_n C dX5_longest_46 (by decide) rfl ?_
            refine v_iincN C dX5_longest_47 rfl (by decide) rfl ?_
            refine v_goto C 4 dX5_longest_50 (by decide) ?_
            exact V.norm (ih (i + 1) _ (by omega) (by omega) (by rw [lwL_n2 (f := (fun r => μ.1 1 (37 + r))) (s := s) (i := i) (by rw [hb2]; exact Int32.not_lt.mpr h38)]; exact ha)) rfl
          · refine v_iload_n C dX5_longest_41 rfl rfl ?_
            refine v_goto C 46 dX5_longest_42 (by decide) ?_
            refine v_istore_n C dX5_longest_46 (by decide) rfl ?_
            refine v_iincN C dX5_longest_47 rfl (by decide) rfl ?_
            refine v_goto C 4 dX5_longest_50 (by decide) ?_
            exact V.norm (ih (i + 1) _ (by omega) (by omega) (by rw [lwL_y (f := (fun r => μ.1 1 (37 + r))) (s := s) (i := i) h19 (by rw [hb2]; exact Int32.not_le.mp h38)])) rfl
set_option maxRecDepth 100000 in
set_option maxHeartbeats 4000000 in
theorem c_X5_longest {l : Launch} {w : WC} {μ : Me} (hM : Md w) {n : Nat} (hn : n ≤ 8) (h0 : μ.1 1 0 = nI n) (hw : ∀ r, r < n → Le (μ.1 1 (37 + r)) 9999) {s : Int32} : CtI l w yX5_longest cX5_longest 4 (some .int) (Rm 1 22) [.ref (w_ad w 0), .int s] μ (Px (lwL (fun r => μ.1 1 (37 + r)) s n).1 μ) := by
  refine Ct.mk (own := RX5) rfl (by decide) (Nat.le_of_ble_eq_true rfl) (fun x hxl C hQ => ?_)
  subst hxl
  refine v_iconst C dX5_longest_0 ic_m1 rfl ?_
  refine v_istore_n C dX5_longest_1 (by decide) rfl ?_
  refine v_iconst C dX5_longest_2 ic_0 rfl ?_
  refine v_istore_n C dX5_longest_3 (by decide) rfl ?_
  exact V.norm (lp_X5_longest_4 hM hn h0 hw C hQ (n + 1) 0 _ (by omega) (by omega) rfl) rfl

set_option maxRecDepth 100000 in
set_option maxHeartbeats 4000000 in
theorem lp_X5_helpedOf_4 {w : WC} {x : Cy} {μ : Me} (hM : Md w) {n : Nat} (hn : n ≤ 8) (h0 : μ.1 1 0 = nI n) (hw : ∀ r, r < n → Le (μ.1 1 (37 + r)) 9999) {s : Int32} {j : Nat} (hj : j ≤ 8) (hv : μ.1 1 5 = nI j)  (C : Cx w x cX5_helpedOf 5 RX5 (some .int) (Rm 2 45)) (hQ : y_Q x = MQ (y_b x) (QI w (Px (voL (fun r => μ.1 1 (37 + r)) n s j) μ)) (y_a x) (y_s x) 0 0 (AA w)) : ∀ (m i : Nat) (a : Int32), j + 1 ≤ i + m → i ≤ j → (a = voL (fun r => μ.1 1 (37 + r)) n s i) → V w x 5 μ 4 [(0, .ref (w_ad w 0)), (1, .int s), (2, .int a), (3, .int (nI i))] [] := by
  intro m
  induction m with
  | zero =>
    intro i a hm hi
    exact absurd hm (by omega)
  | succ m ih =>
    intro i a hm hi ha
    refine v_iload_n C dX5_helpedOf_4 rfl rfl ?_
    refine v_aload_n C dX5_helpedOf_5 rfl rfl ?_
    refine g_X5_d C hM.1 dX5_helpedOf_6 fl_X5_7 rfl ?_
    refine v_iconst C dX5_helpedOf_9 ic_5 rfl ?_
    refine a_I C hM.2.1 (by decide) dX5_helpedOf_10 (5) rfl (by decide) rfl ?_
    refine v_eqi (hv) ?_
    refine v_icmp_ge C 45 14 dX5_helpedOf_11 (by decide) rfl (fun h11 => ?_) (fun h11 => ?_)
    · have g : i = j := by have := (le_n (a := j) (b := i) (by omega) (by omega)).mp h11; omega
      refine v_iload_n C dX5_helpedOf_45 rfl rfl ?_
      exact v_iret C hQ dX5_helpedOf_46 ⟨by rw [ha, g], rfl⟩
    · have g : i < j := by rcases Nat.lt_or_ge i (j) with q | q; exact q; exact absurd ((le_n (a := j) (b := i) (by omega) (by omega)).mpr q) h11
      refine v_aload_n C dX5_helpedOf_14 rfl rfl ?_
      refine v_iload_n C dX5_helpedOf_15 rfl rfl ?_
      refine v_iload_n C dX5_helpedOf_16 rfl rfl ?_
      refine v_ior C dX5_helpedOf_17 rfl ?_
      refine v_iV C dX5_helpedOf_18 mi_X5_longest (c_X5_longest hM hn h0 hw) rfl hM.1.1 hM.1.2 rfl ml_X5_62 (rk_of rfl) rfl (Nat.le_of_ble_eq_true rfl) rfl (px_k ?_)
      refine v_istore C dX5_helpedOf_21 (by decide) rfl ?_
      refine v_iload_n C dX5_helpedOf_23 rfl rfl ?_
      refine v_iload C dX5_helpedOf_24 rfl rfl ?_
      refine v_if_ge C 33 29 dX5_helpedOf_26 (by decide) rfl (fun h26 => ?_) (fun h26 => ?_)
      · refine v_iconst C dX5_helpedOf_33 ic_1 rfl ?_
        refine v_iload C dX5_helpedOf_34 rfl rfl ?_
        refine v_ishl C dX5_helpedOf_36 rfl ?_
        refine v_ior C dX5_helpedOf_37 rfl ?_
        refine v_istore_n C dX5_helpedOf_38 (by decide) rfl ?_
        refine v_iincN C dX5_helpedOf_39 rfl (by decide) rfl ?_
        refine v_goto C 4 dX5_helpedOf_42 (by decide) ?_
        exact V.norm (ih (i + 1) _ (by omega) (by omega) (by rw [voL, if_neg (fun e => Int32.not_lt.mpr h26 (by rw [ha]; exact (lw_m1 (by omega)).mpr e)), ha])) rfl
      · refine v_iconst C dX5_helpedOf_29 ic_0 rfl ?_
        refine v_goto C 37 dX5_helpedOf_30 (by decide) ?_
        refine v_ior C dX5_helpedOf_37 rfl ?_
        refine v_istore_n C dX5_helpedOf_38 (by decide) rfl ?_
        refine v_iincN C dX5_helpedOf_39 rfl (by decide) rfl ?_
        refine v_goto C 4 dX5_helpedOf_42 (by decide) ?_
        exact V.norm (ih (i + 1) _ (by omega) (by omega) (by rw [voL, if_pos ((lw_m1 (by omega)).mp (by rw [← ha]; exact Int32.not_le.mp h26)), ha]; exact or_0 _)) rfl
set_option maxRecDepth 100000 in
set_option maxHeartbeats 4000000 in
theorem c_X5_helpedOf {l : Launch} {w : WC} {μ : Me} (hM : Md w) {n : Nat} (hn : n ≤ 8) (h0 : μ.1 1 0 = nI n) (hw : ∀ r, r < n → Le (μ.1 1 (37 + r)) 9999) {s : Int32} {j : Nat} (hj : j ≤ 8) (hv : μ.1 1 5 = nI j) : CtI l w yX5_helpedOf cX5_helpedOf 5 (some .int) (Rm 2 45) [.ref (w_ad w 0), .int s] μ (Px (voL (fun r => μ.1 1 (37 + r)) n s j) μ) := by
  refine Ct.mk (own := RX5) rfl (by decide) (Nat.le_of_ble_eq_true rfl) (fun x hxl C hQ => ?_)
  subst hxl
  refine v_iconst C dX5_helpedOf_0 ic_0 rfl ?_
  refine v_istore_n C dX5_helpedOf_1 (by decide) rfl ?_
  refine v_iconst C dX5_helpedOf_2 ic_0 rfl ?_
  refine v_istore_n C dX5_helpedOf_3 (by decide) rfl ?_
  exact V.norm (lp_X5_helpedOf_4 hM hn h0 hw hj hv C hQ (j + 1) 0 _ (by omega) (by omega) rfl) rfl

set_option maxRecDepth 100000 in
set_option maxHeartbeats 4000000 in
theorem lp_X5_sumOf_4 {w : WC} {x : Cy} {μ : Me} (hM : Md w) {n : Nat} (hn : n ≤ 8) (h0 : μ.1 1 0 = nI n) {t : Int32} {f : Nat} (hf : f < 5) (ht : t = nI f)  (C : Cx w x cX5_sumOf 4 RX5 (some .int) (Rm 1 22)) (hQ : y_Q x = MQ (y_b x) (QI w (Px (smL (fun r => μ.1 1 (13 + 8 * f + r)) n) μ)) (y_a x) (y_s x) 0 0 (AA w)) : ∀ (m i : Nat) (a : Int32), n + 1 ≤ i + m → i ≤ n → (a = smL (fun r => μ.1 1 (13 + 8 * f + r)) i) → V w x 4 μ 4 [(0, .ref (w_ad w 0)), (1, .int t), (2, .int a), (3, .int (nI i))] [] := by
  intro m
  induction m with
  | zero =>
    intro i a hm hi
    exact absurd hm (by omega)
  | succ m ih =>
    intro i a hm hi ha
    refine v_iload_n C dX5_sumOf_4 rfl rfl ?_
    refine v_aload_n C dX5_sumOf_5 rfl rfl ?_
    refine g_X5_d C hM.1 dX5_sumOf_6 fl_X5_7 rfl ?_
    refine v_iconst C dX5_sumOf_9 ic_0 rfl ?_
    refine a_I C hM.2.1 (by decide) dX5_sumOf_10 (0) rfl (by decide) rfl ?_
    refine v_eqi (h0) ?_
    refine v_icmp_ge C 29 14 dX5_sumOf_11 (by decide) rfl (fun h11 => ?_) (fun h11 => ?_)
    · have g : i = n := by have := (le_n (a := n) (b := i) (by omega) (by omega)).mp h11; omega
      refine v_iload_n C dX5_sumOf_29 rfl rfl ?_
      exact v_iret C hQ dX5_sumOf_30 ⟨by rw [ha, g], rfl⟩
    · have g : i < n := by rcases Nat.lt_or_ge i (n) with q | q; exact q; exact absurd ((le_n (a := n) (b := i) (by omega) (by omega)).mpr q) h11
      refine v_iload_n C dX5_sumOf_14 rfl rfl ?_
      refine v_aload_n C dX5_sumOf_15 rfl rfl ?_
      refine v_iload_n C dX5_sumOf_16 rfl rfl ?_
      refine v_iload_n C dX5_sumOf_17 rfl rfl ?_
      refine v_iV C dX5_sumOf_18 mi_X5_its (c_X5_its hM (i := i) (f := f) (j := 13 + 8 * f + i) (by omega) hf rfl ht rfl) rfl hM.1.1 hM.1.2 rfl ml_X5_46 (rk_of rfl) rfl (Nat.le_of_ble_eq_true rfl) rfl (px_k ?_)
      refine v_iadd C dX5_sumOf_21 rfl ?_
      refine v_istore_n C dX5_sumOf_22 (by decide) rfl ?_
      refine v_iincN C dX5_sumOf_23 rfl (by decide) rfl ?_
      refine v_goto C 4 dX5_sumOf_26 (by decide) ?_
      exact V.norm (ih (i + 1) _ (by omega) (by omega) (by rw [ha]; rfl)) rfl
set_option maxRecDepth 100000 in
set_option maxHeartbeats 4000000 in
theorem c_X5_sumOf {l : Launch} {w : WC} {μ : Me} (hM : Md w) {n : Nat} (hn : n ≤ 8) (h0 : μ.1 1 0 = nI n) {t : Int32} {f : Nat} (hf : f < 5) (ht : t = nI f) : CtI l w yX5_sumOf cX5_sumOf 4 (some .int) (Rm 1 22) [.ref (w_ad w 0), .int t] μ (Px (smL (fun r => μ.1 1 (13 + 8 * f + r)) n) μ) := by
  refine Ct.mk (own := RX5) rfl (by decide) (Nat.le_of_ble_eq_true rfl) (fun x hxl C hQ => ?_)
  subst hxl
  refine v_iconst C dX5_sumOf_0 ic_0 rfl ?_
  refine v_istore_n C dX5_sumOf_1 (by decide) rfl ?_
  refine v_iconst C dX5_sumOf_2 ic_0 rfl ?_
  refine v_istore_n C dX5_sumOf_3 (by decide) rfl ?_
  exact V.norm (lp_X5_sumOf_4 hM hn h0 hf ht C hQ (n + 1) 0 _ (by omega) (by omega) rfl) rfl

set_option maxRecDepth 100000 in
set_option maxHeartbeats 4000000 in
theorem lp_X5_wells_4 {w : WC} {x : Cy} {μ : Me} (hM : Md w) {n : Nat} (hn : n ≤ 8) (h0 : μ.1 1 0 = nI n)  (C : Cx w x cX5_wells 3 RX5 (some .int) (Rm 1 22)) (hQ : y_Q x = MQ (y_b x) (QI w (Px (weL (fun r => μ.1 1 (21 + r)) n) μ)) (y_a x) (y_s x) 0 0 (AA w)) : ∀ (m i : Nat) (a : Int32), n + 1 ≤ i + m → i ≤ n → (a = weL (fun r => μ.1 1 (21 + r)) i) → V w x 3 μ 4 [(0, .ref (w_ad w 0)), (1, .int a), (2, .int (nI i))] [] := by
  intro m
  induction m with
  | zero =>
    intro i a hm hi
    exact absurd hm (by omega)
  | succ m ih =>
    intro i a hm hi ha
    refine v_iload_n C dX5_wells_4 rfl rfl ?_
    refine v_aload_n C dX5_wells_5 rfl rfl ?_
    refine g_X5_d C hM.1 dX5_wells_6 fl_X5_7 rfl ?_
    refine v_iconst C dX5_wells_9 ic_0 rfl ?_
    refine a_I C hM.2.1 (by decide) dX5_wells_10 (0) rfl (by decide) rfl ?_
    refine v_eqi (h0) ?_
    refine v_icmp_ge C 41 14 dX5_wells_11 (by decide) rfl (fun h11 => ?_) (fun h11 => ?_)
    · have g : i = n := by have := (le_n (a := n) (b := i) (by omega) (by omega)).mp h11; omega
      refine v_iload_n C dX5_wells_41 rfl rfl ?_
      exact v_iret C hQ dX5_wells_42 ⟨by rw [ha, g], rfl⟩
    · have g : i < n := by rcases Nat.lt_or_ge i (n) with q | q; exact q; exact absurd ((le_n (a := n) (b := i) (by omega) (by omega)).mpr q) h11
      refine v_iload_n C dX5_wells_14 rfl rfl ?_
      refine v_aload_n C dX5_wells_15 rfl rfl ?_
      refine v_iload_n C dX5_wells_16 rfl rfl ?_
      refine v_iconst C dX5_wells_17 ic_1 rfl ?_
      refine v_iV C dX5_wells_18 mi_X5_its (c_X5_its hM (i := i) (f := 1) (j := 21 + i) (by omega) (by decide) rfl rfl rfl) rfl hM.1.1 hM.1.2 rfl ml_X5_46 (rk_of rfl) rfl (Nat.le_of_ble_eq_true rfl) rfl (px_k ?_)
      refine v_bipush C dX5_wells_21 bp_60 rfl ?_
      refine v_icmp_lt C 32 26 dX5_wells_23 (by decide) rfl (fun h23 => ?_) (fun h23 => ?_)
      · refine v_iconst C dX5_wells_32 ic_0 rfl ?_
        refine v_ior C dX5_wells_33 rfl ?_
        refine v_istore_n C dX5_wells_34 (by decide) rfl ?_
        refine v_iincN C dX5_wells_35 rfl (by decide) rfl ?_
        refine v_goto C 4 dX5_wells_38 (by decide) ?_
        exact V.norm (ih (i + 1) _ (by omega) (by omega) (by rw [weL, if_neg (Int32.not_le.mpr h23), ha]; exact or_0 _)) rfl
      · refine v_iconst C dX5_wells_26 ic_1 rfl ?_
        refine v_iload_n C dX5_wells_27 rfl rfl ?_
        refine v_ishl C dX5_wells_28 rfl ?_
        refine v_goto C 33 dX5_wells_29 (by decide) ?_
        refine v_ior C dX5_wells_33 rfl ?_
        refine v_istore_n C dX5_wells_34 (by decide) rfl ?_
        refine v_iincN C dX5_wells_35 rfl (by decide) rfl ?_
        refine v_goto C 4 dX5_wells_38 (by decide) ?_
        exact V.norm (ih (i + 1) _ (by omega) (by omega) (by rw [weL, if_pos (Int32.not_lt.mp h23), ha])) rfl
set_option maxRecDepth 100000 in
set_option maxHeartbeats 4000000 in
theorem c_X5_wells {l : Launch} {w : WC} {μ : Me} (hM : Md w) {n : Nat} (hn : n ≤ 8) (h0 : μ.1 1 0 = nI n) : CtI l w yX5_wells cX5_wells 3 (some .int) (Rm 1 22) [.ref (w_ad w 0)] μ (Px (weL (fun r => μ.1 1 (21 + r)) n) μ) := by
  refine Ct.mk (own := RX5) rfl (by decide) (Nat.le_of_ble_eq_true rfl) (fun x hxl C hQ => ?_)
  subst hxl
  refine v_iconst C dX5_wells_0 ic_0 rfl ?_
  refine v_istore_n C dX5_wells_1 (by decide) rfl ?_
  refine v_iconst C dX5_wells_2 ic_0 rfl ?_
  refine v_istore_n C dX5_wells_3 (by decide) rfl ?_
  exact V.norm (lp_X5_wells_4 hM hn h0 C hQ (n + 1) 0 _ (by omega) (by omega) rfl) rfl
