set_option maxRecDepth 100000 in
set_option maxHeartbeats 4000000 in
theorem c_X4_within {l : Launch} {w : WC} {μ : Me} {v a b : Int32} : CtI l w yX4_within cX4_within 3 (some .boolean) (Rm 0 0) [.int v, .int a, .int b] μ (Px (wiS v a b) μ) := by
  refine Ct.mk (own := RX4) rfl (by decide) (Nat.le_of_ble_eq_true rfl) (fun x hxl C hQ => ?_)
  subst hxl
  refine v_iload_n C dX4_within_0 rfl rfl ?_
  refine v_iload_n C dX4_within_1 rfl rfl ?_
  refine v_icmp_lt C 14 5 dX4_within_2 (by decide) rfl (fun h2 => ?_) (fun h2 => ?_)
  · refine v_iconst C dX4_within_14 ic_0 rfl ?_
    exact v_zret C hQ dX4_within_15 rfl ⟨by unfold wiS; first | exact (if_pos ⟨Int32.not_lt.mp h2, Int32.not_lt.mp h7⟩).symm | exact (if_neg (fun (h : _ ∧ _) => Int32.not_le.mpr h2 h.1)).symm | exact (if_neg (fun (h : _ ∧ _) => Int32.not_le.mpr h7 h.2)).symm, rfl⟩
  · refine v_iload_n C dX4_within_5 rfl rfl ?_
    refine v_iload_n C dX4_within_6 rfl rfl ?_
    refine v_icmp_gt C 14 10 dX4_within_7 (by decide) rfl (fun h7 => ?_) (fun h7 => ?_)
    · refine v_iconst C dX4_within_14 ic_0 rfl ?_
      exact v_zret C hQ dX4_within_15 rfl ⟨by unfold wiS; first | exact (if_pos ⟨Int32.not_lt.mp h2, Int32.not_lt.mp h7⟩).symm | exact (if_neg (fun (h : _ ∧ _) => Int32.not_le.mpr h2 h.1)).symm | exact (if_neg (fun (h : _ ∧ _) => Int32.not_le.mpr h7 h.2)).symm, rfl⟩
    · refine v_iconst C dX4_within_10 ic_1 rfl ?_
      refine v_goto C 15 dX4_within_11 (by decide) ?_
      exact v_zret C hQ dX4_within_15 rfl ⟨by unfold wiS; first | exact (if_pos ⟨Int32.not_lt.mp h2, Int32.not_lt.mp h7⟩).symm | exact (if_neg (fun (h : _ ∧ _) => Int32.not_le.mpr h2 h.1)).symm | exact (if_neg (fun (h : _ ∧ _) => Int32.not_le.mpr h7 h.2)).symm, rfl⟩

set_option maxRecDepth 100000 in
set_option maxHeartbeats 4000000 in
theorem c_X4_isIn {l : Launch} {w : WC} {μ : Me} {s n : Int32} : CtI l w yX4_isIn cX4_isIn 2 (some .boolean) (Rm 0 0) [.int s, .int n] μ (Px (isS s n) μ) := by
  refine Ct.mk (own := RX4) rfl (by decide) (Nat.le_of_ble_eq_true rfl) (fun x hxl C hQ => ?_)
  subst hxl
  refine v_iload_n C dX4_isIn_0 rfl rfl ?_
  refine v_if_lt C 17 4 dX4_isIn_1 (by decide) rfl (fun h1 => ?_) (fun h1 => ?_)
  · refine v_iconst C dX4_isIn_17 ic_0 rfl ?_
    exact v_zret C hQ dX4_isIn_18 rfl ⟨by unfold isS; first | exact (if_pos ⟨Int32.not_lt.mp h1, (by assumption : _ &&& _ = (1 : Int32))⟩).symm | exact (if_neg (fun (h : _ ∧ _) => Int32.not_le.mpr h1 h.1)).symm | exact (if_neg (fun (h : _ ∧ _) => (by assumption : ¬ _ &&& _ = (1 : Int32)) h.2)).symm, rfl⟩
  · refine v_iload_n C dX4_isIn_4 rfl rfl ?_
    refine v_iload_n C dX4_isIn_5 rfl rfl ?_
    refine v_ishr C dX4_isIn_6 rfl ?_
    refine v_iconst C dX4_isIn_7 ic_1 rfl ?_
    refine v_iand C dX4_isIn_8 rfl ?_
    refine v_iconst C dX4_isIn_9 ic_1 rfl ?_
    refine v_icmp_ne C 17 13 dX4_isIn_10 (by decide) rfl (fun h10 => ?_) (fun h10 => ?_)
    · refine v_iconst C dX4_isIn_17 ic_0 rfl ?_
      exact v_zret C hQ dX4_isIn_18 rfl ⟨by unfold isS; first | exact (if_pos ⟨Int32.not_lt.mp h1, (by assumption : _ &&& _ = (1 : Int32))⟩).symm | exact (if_neg (fun (h : _ ∧ _) => Int32.not_le.mpr h1 h.1)).symm | exact (if_neg (fun (h : _ ∧ _) => (by assumption : ¬ _ &&& _ = (1 : Int32)) h.2)).symm, rfl⟩
    · refine v_iconst C dX4_isIn_13 ic_1 rfl ?_
      refine v_goto C 18 dX4_isIn_14 (by decide) ?_
      exact v_zret C hQ dX4_isIn_18 rfl ⟨by unfold isS; first | exact (if_pos ⟨Int32.not_lt.mp h1, (by assumption : _ &&& _ = (1 : Int32))⟩).symm | exact (if_neg (fun (h : _ ∧ _) => Int32.not_le.mpr h1 h.1)).symm | exact (if_neg (fun (h : _ ∧ _) => (by assumption : ¬ _ &&& _ = (1 : Int32)) h.2)).symm, rfl⟩

set_option maxRecDepth 100000 in
set_option maxHeartbeats 4000000 in
theorem c_X4_leastSetting {l : Launch} {w : WC} {μ : Me} {a : Int32} : CtI l w yX4_leastSetting cX4_leastSetting 1 (some .int) (Rm 0 0) [.int a] μ (Px (leastS a) μ) := by
  refine Ct.mk (own := RX4) rfl (by decide) (Nat.le_of_ble_eq_true rfl) (fun x hxl C hQ => ?_)
  subst hxl
  refine v_iload_n C dX4_leastSetting_0 rfl rfl ?_
  refine v_iconst C dX4_leastSetting_1 ic_3 rfl ?_
  refine v_icmp_ne C 9 5 dX4_leastSetting_2 (by decide) rfl (fun h2 => ?_) (fun h2 => ?_)
  · refine v_iconst C dX4_leastSetting_9 ic_0 rfl ?_
    exact v_iret C hQ dX4_leastSetting_10 ⟨by simp [leastS, *], rfl⟩
  · refine v_iconst C dX4_leastSetting_5 ic_1 rfl ?_
    refine v_goto C 10 dX4_leastSetting_6 (by decide) ?_
    exact v_iret C hQ dX4_leastSetting_10 ⟨by simp [leastS, *], rfl⟩

set_option maxRecDepth 100000 in
set_option maxHeartbeats 4000000 in
theorem c_X4_mostSetting {l : Launch} {w : WC} {μ : Me} {a : Int32} : CtI l w yX4_mostSetting cX4_mostSetting 1 (some .int) (Rm 0 0) [.int a] μ (Px (mostS a) μ) := by
  refine Ct.mk (own := RX4) rfl (by decide) (Nat.le_of_ble_eq_true rfl) (fun x hxl C hQ => ?_)
  subst hxl
  refine v_iload_n C dX4_mostSetting_0 rfl rfl ?_
  refine v_case (2) (fun e1_2 => ?_) (fun n1_2 => ?_)
  · refine v_lookup C 28 dX4_mostSetting_1 (by decide) (off := 27) (by rw [e1_2]; first | done | decide) (by decide) ?_
    refine v_bipush C dX4_mostSetting_28 bp_8 rfl ?_
    exact v_iret C hQ dX4_mostSetting_30 ⟨by simp [mostS, *], rfl⟩
  refine v_case (3) (fun e1_3 => ?_) (fun n1_3 => ?_)
  · refine v_lookup C 31 dX4_mostSetting_1 (by decide) (off := 30) (by rw [e1_3]; first | done | decide) (by decide) ?_
    refine v_bipush C dX4_mostSetting_31 bp_12 rfl ?_
    exact v_iret C hQ dX4_mostSetting_33 ⟨by simp [mostS, *], rfl⟩
  refine v_lookup C 34 dX4_mostSetting_1 (by decide) (off := 33) (by show Op.lookupswitch.offset [(2, 27), (3, 30)] _ _ = _; rw [lv_osw n1_2 (by decide), lv_osw n1_3 (by decide)]; first | done | rfl) (by decide) ?_
  refine v_bipush C dX4_mostSetting_34 bp_20 rfl ?_
  exact v_iret C hQ dX4_mostSetting_36 ⟨by simp [mostS, *], rfl⟩

set_option maxRecDepth 100000 in
set_option maxHeartbeats 4000000 in
theorem c_X4_settingFits {l : Launch} {w : WC} {μ : Me} {a v : Int32} : CtI l w yX4_settingFits cX4_settingFits 2 (some .boolean) (Rm 1 22) [.int a, .int v] μ (Px (fitS a v) μ) := by
  refine Ct.mk (own := RX4) rfl (by decide) (Nat.le_of_ble_eq_true rfl) (fun x hxl C hQ => ?_)
  subst hxl
  refine v_iload_n C dX4_settingFits_0 rfl rfl ?_
  refine v_iconst C dX4_settingFits_1 ic_0 rfl ?_
  refine v_iconst C dX4_settingFits_2 ic_3 rfl ?_
  refine v_iS C dX4_settingFits_3 ms_X4_within c_X4_within rfl ml_X4_56 (rk_of rfl) rfl (Nat.le_of_ble_eq_true rfl) rfl (px_k ?_)
  refine v_if_eq C 28 9 dX4_settingFits_6 (by decide) rfl (fun h6 => ?_) (fun h6 => ?_)
  · refine v_iconst C dX4_settingFits_28 ic_0 rfl ?_
    exact v_zret C hQ dX4_settingFits_29 rfl ⟨by simp_all [fitS, wiS], rfl⟩
  · refine v_iload_n C dX4_settingFits_9 rfl rfl ?_
    refine v_iload_n C dX4_settingFits_10 rfl rfl ?_
    refine v_iS C dX4_settingFits_11 ms_X4_leastSetting c_X4_leastSetting rfl ml_X4_154 (rk_of rfl) rfl (Nat.le_of_ble_eq_true rfl) rfl (px_k ?_)
    refine v_iload_n C dX4_settingFits_14 rfl rfl ?_
    refine v_iS C dX4_settingFits_15 ms_X4_mostSetting c_X4_mostSetting rfl ml_X4_157 (rk_of rfl) rfl (Nat.le_of_ble_eq_true rfl) rfl (px_k ?_)
    refine v_iS C dX4_settingFits_18 ms_X4_within c_X4_within rfl ml_X4_56 (rk_of rfl) rfl (Nat.le_of_ble_eq_true rfl) rfl (px_k ?_)
    refine v_if_eq C 28 24 dX4_settingFits_21 (by decide) rfl (fun h21 => ?_) (fun h21 => ?_)
    · refine v_iconst C dX4_settingFits_28 ic_0 rfl ?_
      exact v_zret C hQ dX4_settingFits_29 rfl ⟨by simp_all [fitS, wiS], rfl⟩
    · refine v_iconst C dX4_settingFits_24 ic_1 rfl ?_
      refine v_goto C 29 dX4_settingFits_25 (by decide) ?_
      exact v_zret C hQ dX4_settingFits_29 rfl ⟨by simp_all [fitS, wiS], rfl⟩

set_option maxRecDepth 100000 in
set_option maxHeartbeats 4000000 in
theorem c_X4_kindAbove {l : Launch} {w : WC} {μ : Me} {a : Int32} : CtI l w yX4_kindAbove cX4_kindAbove 1 (some .int) (Rm 0 0) [.int a] μ (Px (aboveS a) μ) := by
  refine Ct.mk (own := RX4) rfl (by decide) (Nat.le_of_ble_eq_true rfl) (fun x hxl C hQ => ?_)
  subst hxl
  refine v_iload_n C dX4_kindAbove_0 rfl rfl ?_
  refine v_case (1) (fun e1_1 => ?_) (fun n1_1 => ?_)
  · refine v_tableIn C 40 dX4_kindAbove_1 e1_1 (by decide) (by decide) rfl (by decide) ?_
    refine v_iconst C dX4_kindAbove_40 ic_0 rfl ?_
    exact v_iret C hQ dX4_kindAbove_41 ⟨by simp [aboveS, *], rfl⟩
  refine v_case (2) (fun e1_2 => ?_) (fun n1_2 => ?_)
  · refine v_tableIn C 40 dX4_kindAbove_1 e1_2 (by decide) (by decide) rfl (by decide) ?_
    refine v_iconst C dX4_kindAbove_40 ic_0 rfl ?_
    exact v_iret C hQ dX4_kindAbove_41 ⟨by simp [aboveS, *], rfl⟩
  refine v_case (3) (fun e1_3 => ?_) (fun n1_3 => ?_)
  · refine v_tableIn C 42 dX4_kindAbove_1 e1_3 (by decide) (by decide) rfl (by decide) ?_
    refine v_iconst C dX4_kindAbove_42 ic_2 rfl ?_
    exact v_iret C hQ dX4_kindAbove_43 ⟨by simp [aboveS, *], rfl⟩
  refine v_case (4) (fun e1_4 => ?_) (fun n1_4 => ?_)
  · refine v_tableIn C 44 dX4_kindAbove_1 e1_4 (by decide) (by decide) rfl (by decide) ?_
    refine v_iconst C dX4_kindAbove_44 ic_3 rfl ?_
    exact v_iret C hQ dX4_kindAbove_45 ⟨by simp [aboveS, *], rfl⟩
  refine v_case (5) (fun e1_5 => ?_) (fun n1_5 => ?_)
  · refine v_tableIn C 40 dX4_kindAbove_1 e1_5 (by decide) (by decide) rfl (by decide) ?_
    refine v_iconst C dX4_kindAbove_40 ic_0 rfl ?_
    exact v_iret C hQ dX4_kindAbove_41 ⟨by simp [aboveS, *], rfl⟩
  refine v_case (6) (fun e1_6 => ?_) (fun n1_6 => ?_)
  · refine v_tableIn C 46 dX4_kindAbove_1 e1_6 (by decide) (by decide) rfl (by decide) ?_
    refine v_iconst C dX4_kindAbove_46 ic_1 rfl ?_
    exact v_iret C hQ dX4_kindAbove_47 ⟨by simp [aboveS, *], rfl⟩
  refine v_tableOut C 48 dX4_kindAbove_1 (by have z1 := lv_neT n1_1 (a := 1) (by decide); have z2 := lv_neT n1_2 (a := 2) (by decide); have z3 := lv_neT n1_3 (a := 3) (by decide); have z4 := lv_neT n1_4 (a := 4) (by decide); have z5 := lv_neT n1_5 (a := 5) (by decide); have z6 := lv_neT n1_6 (a := 6) (by decide); omega) (by decide) ?_
  refine v_iconst C dX4_kindAbove_48 ic_m1 rfl ?_
  exact v_iret C hQ dX4_kindAbove_49 ⟨by simp [aboveS, *], rfl⟩

set_option maxRecDepth 100000 in
set_option maxHeartbeats 4000000 in
theorem lp_X4_isUnder_4 {w : WC} {x : Cy} {μ : Me} {k a : Int32}  (C : Cx w x cX4_isUnder 4 RX4 (some .boolean) (Rm 1 20)) (hQ : y_Q x = MQ (y_b x) (QI w (Px (undL 7 k a) μ)) (y_a x) (y_s x) 0 0 (AA w)) : ∀ (m i : Nat) (t : Int32), 7 + 1 ≤ i + m → i ≤ 7 → (undL 7 k a = undL (7 - i) t a) → V w x 4 μ 4 [(0, .int k), (1, .int a), (2, .int t), (3, .int (nI i))] [] := by
  intro m
  induction m with
  | zero =>
    intro i t hm hi
    exact absurd hm (by omega)
  | succ m ih =>
    intro i t hm hi hE
    refine v_iload_n C dX4_isUnder_4 rfl rfl ?_
    refine v_bipush C dX4_isUnder_5 bp_7 rfl ?_
    refine v_icmp_ge C 33 10 dX4_isUnder_7 (by decide) rfl (fun h7 => ?_) (fun h7 => ?_)
    · have g : i = 7 := by have := (le_n (a := 7) (b := i) (by decide) (by omega)).mp h7; omega
      rw [g] at hE
      refine v_iconst C dX4_isUnder_33 ic_0 rfl ?_
      exact v_zret C hQ dX4_isUnder_34 rfl ⟨by rw [hE]; first | rfl | rw [undL, if_pos h12], rfl⟩
    · have g : i < 7 := by rcases Nat.lt_or_ge i 7 with q | q; exact q; exact absurd ((le_n (a := 7) (b := i) (by decide) (by omega)).mpr q) h7
      rw [show 7 - i = (7 - (i + 1)) + 1 by omega] at hE
      refine v_iload_n C dX4_isUnder_10 rfl rfl ?_
      refine v_iconst C dX4_isUnder_11 ic_m1 rfl ?_
      refine v_icmp_eq C 33 15 dX4_isUnder_12 (by decide) rfl (fun h12 => ?_) (fun h12 => ?_)
      · refine v_iconst C dX4_isUnder_33 ic_0 rfl ?_
        exact v_zret C hQ dX4_isUnder_34 rfl ⟨by rw [hE]; first | rfl | rw [undL, if_pos h12], rfl⟩
      · refine v_iload_n C dX4_isUnder_15 rfl rfl ?_
        refine v_iload_n C dX4_isUnder_16 rfl rfl ?_
        refine v_icmp_ne C 22 20 dX4_isUnder_17 (by decide) rfl (fun h17 => ?_) (fun h17 => ?_)
        · refine v_iload_n C dX4_isUnder_22 rfl rfl ?_
          refine v_iS C dX4_isUnder_23 ms_X4_kindAbove c_X4_kindAbove rfl ml_X4_283 (rk_of rfl) rfl (Nat.le_of_ble_eq_true rfl) rfl (px_k ?_)
          refine v_istore_n C dX4_isUnder_26 (by decide) rfl ?_
          refine v_iincN C dX4_isUnder_27 rfl (by decide) rfl ?_
          refine v_goto C 4 dX4_isUnder_30 (by decide) ?_
          exact V.norm (ih (i + 1) _ (by omega) (by omega) (by rw [hE, undL, if_neg h12, if_neg h17])) rfl
        · refine v_iconst C dX4_isUnder_20 ic_1 rfl ?_
          exact v_zret C hQ dX4_isUnder_21 rfl ⟨by rw [hE, undL, if_neg h12, if_pos h17], rfl⟩
set_option maxRecDepth 100000 in
set_option maxHeartbeats 4000000 in
theorem c_X4_isUnder {l : Launch} {w : WC} {μ : Me} {k a : Int32} : CtI l w yX4_isUnder cX4_isUnder 4 (some .boolean) (Rm 1 20) [.int k, .int a] μ (Px (undL 7 k a) μ) := by
  refine Ct.mk (own := RX4) rfl (by decide) (Nat.le_of_ble_eq_true rfl) (fun x hxl C hQ => ?_)
  subst hxl
  refine v_iload_n C dX4_isUnder_0 rfl rfl ?_
  refine v_istore_n C dX4_isUnder_1 (by decide) rfl ?_
  refine v_iconst C dX4_isUnder_2 ic_0 rfl ?_
  refine v_istore_n C dX4_isUnder_3 (by decide) rfl ?_
  exact V.norm (lp_X4_isUnder_4 C hQ 8 0 k (by omega) (by omega) rfl) rfl

set_option maxRecDepth 100000 in
set_option maxHeartbeats 4000000 in
theorem lp_X4_power_5 {w : WC} {x : Cy} {μ : Me} {b c : Int32} {n : Nat} (hn : n < 1000) (hc : c = nI n)  (C : Cx w x cX4_power 5 RX4 (some .long) (Rm 0 0)) (hQ : y_Q x = MQ (y_b x) (QL w (Pl (powL b n) μ)) (y_a x) (y_s x) 0 0 (AA w)) : ∀ (m i : Nat) (t : Int64), n + 1 ≤ i + m → i ≤ n → (t = powL b i) → V w x 5 μ 5 [(0, .int b), (1, .int c), (2, .long t), (4, .int (nI i))] [] := by
  intro m
  induction m with
  | zero =>
    intro i t hm hi
    exact absurd hm (by omega)
  | succ m ih =>
    intro i t hm hi hE
    subst hc
    refine v_iload C dX4_power_5 rfl rfl ?_
    refine v_iload_n C dX4_power_7 rfl rfl ?_
    refine v_icmp_ge C 22 11 dX4_power_8 (by decide) rfl (fun h8 => ?_) (fun h8 => ?_)
    · have g : i = n := by have := (le_n (a := n) (b := i) (by omega) (by omega)).mp h8; omega
      refine v_lload_n C dX4_power_22 rfl rfl ?_
      exact v_lret C hQ dX4_power_23 ⟨by rw [hE, g], rfl⟩
    · have g : i < n := by rcases Nat.lt_or_ge i n with q | q; exact q; exact absurd ((le_n (a := n) (b := i) (by omega) (by omega)).mpr q) h8
      refine v_lload_n C dX4_power_11 rfl rfl ?_
      refine v_iload_n C dX4_power_12 rfl rfl ?_
      refine v_i2l C dX4_power_13 rfl ?_
      refine v_lmul C dX4_power_14 rfl ?_
      refine v_lstore_n C dX4_power_15 (by decide) rfl ?_
      refine v_iincN C dX4_power_16 rfl (by decide) rfl ?_
      refine v_goto C 5 dX4_power_19 (by decide) ?_
      exact V.norm (ih (i + 1) _ (by omega) (by omega) (by rw [hE]; rfl)) rfl
set_option maxRecDepth 100000 in
set_option maxHeartbeats 4000000 in
theorem c_X4_power {l : Launch} {w : WC} {μ : Me} {b c : Int32} {n : Nat} (hn : n < 1000) (hc : c = nI n) : CtL l w yX4_power cX4_power 5 (Rm 0 0) [.int b, .int c] μ (Pl (powL b n) μ) := by
  refine Ct.mk (own := RX4) rfl (by decide) (Nat.le_of_ble_eq_true rfl) (fun x hxl C hQ => ?_)
  subst hxl
  refine v_lconst (v := 1) C dX4_power_0 rfl rfl ?_
  refine v_lstore_n C dX4_power_1 (by decide) rfl ?_
  refine v_iconst C dX4_power_2 ic_0 rfl ?_
  refine v_istore C dX4_power_3 (by decide) rfl ?_
  exact V.norm (lp_X4_power_5 hn hc C hQ (n + 1) 0 1 (by omega) (by omega) rfl) rfl
