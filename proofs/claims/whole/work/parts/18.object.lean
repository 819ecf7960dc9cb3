set_option maxRecDepth 100000 in
set_option maxHeartbeats 4000000 in
theorem lp_J7_fill_53178_5 {w : WC} {x : Cy} {μ : Me} {kk n : Nat} (hk : Ia w kk n) (hn : n < 2 ^ 31) {v : Int32}  (C : Cx w x cJ7_fill_53178 4 RJ7 none (Rm 0 0)) (hQ : y_Q x = MQ (y_b x) (QV w (Pv (ua μ kk (fiL (μ.1 kk) v n)))) (y_a x) (y_s x) 0 0 (AA w)) : ∀ (m i : Nat), n + 1 ≤ i + m → i ≤ n → V w x 4 (ua μ kk (fiL (μ.1 kk) v i)) 5 [(0, .ref (w_ad w kk)), (1, .int v), (2, .int (nI i)), (3, .int (nI n))] [] := by
  intro m
  induction m with
  | zero =>
    intro i  hm hi
    exact absurd hm (by omega)
  | succ m ih =>
    intro i  hm hi 
    refine v_iload_n C dJ7_fill_53178_5 rfl rfl ?_
    refine v_iload_n C dJ7_fill_53178_6 rfl rfl ?_
    refine v_icmp_ge C 20 10 dJ7_fill_53178_7 (by decide) rfl (fun h7 => ?_) (fun h7 => ?_)
    · have g : i = n := by have := (le_n (a := n) (b := i) (by omega) (by omega)).mp h7; omega
      exact v_vret C hQ dJ7_fill_53178_20 (by rw [g])
    · have g : i < n := by rcases Nat.lt_or_ge i (n) with q | q; exact q; exact absurd ((le_n (a := n) (b := i) (by omega) (by omega)).mpr q) h7
      refine v_aload_n C dJ7_fill_53178_10 rfl rfl ?_
      refine v_iload_n C dJ7_fill_53178_11 rfl rfl ?_
      refine v_iload_n C dJ7_fill_53178_12 rfl rfl ?_
      refine s_I C hk hn dJ7_fill_53178_13 (i) rfl (by omega) rfl ?_
      refine v_iincN C dJ7_fill_53178_14 rfl (by decide) rfl ?_
      refine v_goto C 5 dJ7_fill_53178_17 (by decide) ?_
      refine v_mem ?_ (V.norm (ih (i + 1) (by omega) (by omega)) rfl)
      rw [up_ua, fiL_s]
set_option maxRecDepth 100000 in
set_option maxHeartbeats 4000000 in
theorem c_J7_fill_53178 {l : Launch} {w : WC} {μ : Me} {kk n : Nat} (hk : Ia w kk n) (hn : n < 2 ^ 31) {v : Int32} : CtV l w yJ7_fill_53178 cJ7_fill_53178 4 (Rm 0 0) [.ref (w_ad w kk), .int v] μ (Pv (ua μ kk (fiL (μ.1 kk) v n))) := by
  refine Ct.mk (own := RJ7) rfl (by decide) (Nat.le_of_ble_eq_true rfl) (fun x hxl C hQ => ?_)
  subst hxl
  refine v_iconst C dJ7_fill_53178_0 ic_0 rfl ?_
  refine v_istore_n C dJ7_fill_53178_1 (by decide) rfl ?_
  refine v_aload_n C dJ7_fill_53178_2 rfl rfl ?_
  refine v_alenI C dJ7_fill_53178_3 hk.1 hk.2 rfl ?_
  refine v_istore_n C dJ7_fill_53178_4 (by decide) rfl ?_
  refine v_mem ?_ (V.norm (lp_J7_fill_53178_5 (μ := μ) hk hn C hQ (n + 1) 0 (by omega) (by omega)) rfl)
  rw [fiL_0, ua_self]

set_option maxRecDepth 100000 in
set_option maxHeartbeats 4000000 in
theorem c_X2_isMissing {l : Launch} {w : WC} {μ : Me} {k : Nat} (hk : Sht w k) : CtI l w yX2_isMissing cX2_isMissing 1 (some .boolean) (Rm 0 0) [.ref (w_ad w k)] μ (Px (if μ.1 k 0 = 0 then 1 else 0) μ) := by
  refine Ct.mk (own := RX2) rfl (by decide) (Nat.le_of_ble_eq_true rfl) (fun x hxl C hQ => ?_)
  subst hxl
  refine v_aload_n C dX2_isMissing_0 rfl rfl ?_
  refine g_X2_bits C hk.1 dX2_isMissing_1 fl_X2_15 rfl ?_
  refine v_if_ne C 11 7 dX2_isMissing_4 (by decide) rfl (fun h4 => ?_) (fun h4 => ?_)
  · refine v_iconst C dX2_isMissing_11 ic_0 rfl ?_
    exact v_zret C hQ dX2_isMissing_12 rfl ⟨by simp [*], rfl⟩
  · refine v_iconst C dX2_isMissing_7 ic_1 rfl ?_
    refine v_goto C 12 dX2_isMissing_8 (by decide) ?_
    exact v_zret C hQ dX2_isMissing_12 rfl ⟨by simp [*], rfl⟩

set_option maxRecDepth 100000 in
set_option maxHeartbeats 4000000 in
theorem c_X2_cut {l : Launch} {w : WC} {μ : Me} {k : Nat} (hk : Sht w k) {v : Int32} : CtI l w yX2_cut cX2_cut 2 (some .int) (Rm 0 0) [.ref (w_ad w k), .int v] μ (Px (cutS (μ.1 k 0) v) μ) := by
  refine Ct.mk (own := RX2) rfl (by decide) (Nat.le_of_ble_eq_true rfl) (fun x hxl C hQ => ?_)
  subst hxl
  refine v_aload_n C dX2_cut_0 rfl rfl ?_
  refine g_X2_bits C hk.1 dX2_cut_1 fl_X2_15 rfl ?_
  refine v_case (8) (fun e4_8 => ?_) (fun n4_8 => ?_)
  · refine v_lookup C 32 dX2_cut_4 (by decide) (off := 28) (by rw [e4_8]; first | done | decide) (by decide) ?_
    refine v_iload_n C dX2_cut_32 rfl rfl ?_
    refine v_i2b C dX2_cut_33 rfl ?_
    exact v_iret C hQ dX2_cut_34 ⟨by simp [cutS, *], rfl⟩
  refine v_case (16) (fun e4_16 => ?_) (fun n4_16 => ?_)
  · refine v_lookup C 35 dX2_cut_4 (by decide) (off := 31) (by rw [e4_16]; first | done | decide) (by decide) ?_
    refine v_iload_n C dX2_cut_35 rfl rfl ?_
    refine v_i2s C dX2_cut_36 rfl ?_
    exact v_iret C hQ dX2_cut_37 ⟨by simp [cutS, *], rfl⟩
  refine v_lookup C 38 dX2_cut_4 (by decide) (off := 34) (by show Op.lookupswitch.offset [(8, 28), (16, 31)] _ _ = _; rw [lv_osw n4_8 (by decide), lv_osw n4_16 (by decide)]; first | done | rfl) (by decide) ?_
  refine v_iload_n C dX2_cut_38 rfl rfl ?_
  exact v_iret C hQ dX2_cut_39 ⟨by simp [cutS, *], rfl⟩

set_option maxRecDepth 100000 in
set_option maxHeartbeats 4000000 in
theorem c_X2_hasRun {l : Launch} {w : WC} {μ : Me} {k : Nat} (hk : Sht w k) {f n : Int32} : CtI l w yX2_hasRun cX2_hasRun 3 (some .boolean) (Rm 0 0) [.ref (w_ad w k), .int f, .int n] μ (Px (hrS (μ.1 k 1) f n) μ) := by
  refine Ct.mk (own := RX2) rfl (by decide) (Nat.le_of_ble_eq_true rfl) (fun x hxl C hQ => ?_)
  subst hxl
  refine v_iload_n C dX2_hasRun_0 rfl rfl ?_
  refine v_if_lt C 30 4 dX2_hasRun_1 (by decide) rfl (fun h1 => ?_) (fun h1 => ?_)
  · refine v_iconst C dX2_hasRun_30 ic_0 rfl ?_
    exact v_zret C hQ dX2_hasRun_31 rfl ⟨by unfold hrS; first | exact (if_pos ⟨Int32.not_lt.mp h1, Int32.not_lt.mp h9, Int32.not_lt.mp h13, Int32.not_lt.mp h23⟩).symm | exact (if_neg (fun (h : _ ∧ _ ∧ _ ∧ _) => Int32.not_le.mpr h1 h.1)).symm | exact (if_neg (fun (h : _ ∧ _ ∧ _ ∧ _) => Int32.not_le.mpr h9 h.2.1)).symm | exact (if_neg (fun (h : _ ∧ _ ∧ _ ∧ _) => Int32.not_le.mpr h13 h.2.2.1)).symm | exact (if_neg (fun (h : _ ∧ _ ∧ _ ∧ _) => Int32.not_le.mpr h23 h.2.2.2)).symm, rfl⟩
  · refine v_iload_n C dX2_hasRun_4 rfl rfl ?_
    refine v_aload_n C dX2_hasRun_5 rfl rfl ?_
    refine g_X2_size C hk.1 dX2_hasRun_6 fl_X2_19 rfl ?_
    refine v_icmp_gt C 30 12 dX2_hasRun_9 (by decide) rfl (fun h9 => ?_) (fun h9 => ?_)
    · refine v_iconst C dX2_hasRun_30 ic_0 rfl ?_
      exact v_zret C hQ dX2_hasRun_31 rfl ⟨by unfold hrS; first | exact (if_pos ⟨Int32.not_lt.mp h1, Int32.not_lt.mp h9, Int32.not_lt.mp h13, Int32.not_lt.mp h23⟩).symm | exact (if_neg (fun (h : _ ∧ _ ∧ _ ∧ _) => Int32.not_le.mpr h1 h.1)).symm | exact (if_neg (fun (h : _ ∧ _ ∧ _ ∧ _) => Int32.not_le.mpr h9 h.2.1)).symm | exact (if_neg (fun (h : _ ∧ _ ∧ _ ∧ _) => Int32.not_le.mpr h13 h.2.2.1)).symm | exact (if_neg (fun (h : _ ∧ _ ∧ _ ∧ _) => Int32.not_le.mpr h23 h.2.2.2)).symm, rfl⟩
    · refine v_iload_n C dX2_hasRun_12 rfl rfl ?_
      refine v_if_lt C 30 16 dX2_hasRun_13 (by decide) rfl (fun h13 => ?_) (fun h13 => ?_)
      · refine v_iconst C dX2_hasRun_30 ic_0 rfl ?_
        exact v_zret C hQ dX2_hasRun_31 rfl ⟨by unfold hrS; first | exact (if_pos ⟨Int32.not_lt.mp h1, Int32.not_lt.mp h9, Int32.not_lt.mp h13, Int32.not_lt.mp h23⟩).symm | exact (if_neg (fun (h : _ ∧ _ ∧ _ ∧ _) => Int32.not_le.mpr h1 h.1)).symm | exact (if_neg (fun (h : _ ∧ _ ∧ _ ∧ _) => Int32.not_le.mpr h9 h.2.1)).symm | exact (if_neg (fun (h : _ ∧ _ ∧ _ ∧ _) => Int32.not_le.mpr h13 h.2.2.1)).symm | exact (if_neg (fun (h : _ ∧ _ ∧ _ ∧ _) => Int32.not_le.mpr h23 h.2.2.2)).symm, rfl⟩
      · refine v_iload_n C dX2_hasRun_16 rfl rfl ?_
        refine v_aload_n C dX2_hasRun_17 rfl rfl ?_
        refine g_X2_size C hk.1 dX2_hasRun_18 fl_X2_19 rfl ?_
        refine v_iload_n C dX2_hasRun_21 rfl rfl ?_
        refine v_isub C dX2_hasRun_22 rfl ?_
        refine v_icmp_gt C 30 26 dX2_hasRun_23 (by decide) rfl (fun h23 => ?_) (fun h23 => ?_)
        · refine v_iconst C dX2_hasRun_30 ic_0 rfl ?_
          exact v_zret C hQ dX2_hasRun_31 rfl ⟨by unfold hrS; first | exact (if_pos ⟨Int32.not_lt.mp h1, Int32.not_lt.mp h9, Int32.not_lt.mp h13, Int32.not_lt.mp h23⟩).symm | exact (if_neg (fun (h : _ ∧ _ ∧ _ ∧ _) => Int32.not_le.mpr h1 h.1)).symm | exact (if_neg (fun (h : _ ∧ _ ∧ _ ∧ _) => Int32.not_le.mpr h9 h.2.1)).symm | exact (if_neg (fun (h : _ ∧ _ ∧ _ ∧ _) => Int32.not_le.mpr h13 h.2.2.1)).symm | exact (if_neg (fun (h : _ ∧ _ ∧ _ ∧ _) => Int32.not_le.mpr h23 h.2.2.2)).symm, rfl⟩
        · refine v_iconst C dX2_hasRun_26 ic_1 rfl ?_
          refine v_goto C 31 dX2_hasRun_27 (by decide) ?_
          exact v_zret C hQ dX2_hasRun_31 rfl ⟨by unfold hrS; first | exact (if_pos ⟨Int32.not_lt.mp h1, Int32.not_lt.mp h9, Int32.not_lt.mp h13, Int32.not_lt.mp h23⟩).symm | exact (if_neg (fun (h : _ ∧ _ ∧ _ ∧ _) => Int32.not_le.mpr h1 h.1)).symm | exact (if_neg (fun (h : _ ∧ _ ∧ _ ∧ _) => Int32.not_le.mpr h9 h.2.1)).symm | exact (if_neg (fun (h : _ ∧ _ ∧ _ ∧ _) => Int32.not_le.mpr h13 h.2.2.1)).symm | exact (if_neg (fun (h : _ ∧ _ ∧ _ ∧ _) => Int32.not_le.mpr h23 h.2.2.2)).symm, rfl⟩

set_option maxRecDepth 100000 in
set_option maxHeartbeats 4000000 in
theorem c_X2_renew {l : Launch} {w : WC} {μ : Me} {k : Nat} (hk : Sht w k) {b n : Int32} : CtV l w yX2_renew cX2_renew 3 (Rm 1 23) [.ref (w_ad w k), .int b, .int n] μ (Pv (rnS μ k b n)) := by
  refine Ct.mk (own := RX2) rfl (by decide) (Nat.le_of_ble_eq_true rfl) (fun x hxl C hQ => ?_)
  subst hxl
  refine v_aload_n C dX2_renew_0 rfl rfl ?_
  refine v_iload_n C dX2_renew_1 rfl rfl ?_
  refine p_X2_bits C hk.1 dX2_renew_2 fl_X2_15 rfl ?_
  refine v_aload_n C dX2_renew_5 rfl rfl ?_
  refine v_iload_n C dX2_renew_6 rfl rfl ?_
  refine v_if_ne C 14 10 dX2_renew_7 (by decide) rfl (fun h7 => ?_) (fun h7 => ?_)
  · refine v_iload_n C dX2_renew_14 rfl rfl ?_
    refine p_X2_size C hk.1 dX2_renew_15 fl_X2_19 rfl ?_
    refine v_aload_n C dX2_renew_18 rfl rfl ?_
    refine g_X2_numbers C hk.1 dX2_renew_19 fl_X2_9 rfl ?_
    refine v_iconst C dX2_renew_22 ic_0 rfl ?_
    refine v_vS C dX2_renew_23 ms_J7_fill_53178 (c_J7_fill_53178 hk.2 (by decide)) rfl ml_X2_22 (rk_of rfl) rfl (Nat.le_of_ble_eq_true rfl) rfl (pv_k ?_)
    exact v_vret C hQ dX2_renew_26 (by simp only [Pv, rnS]; rw [up_n _ _ _ (by omega), up_n _ _ _ (by omega)]; first | rw [if_pos h7] | rw [if_neg h7])
  · refine v_iconst C dX2_renew_10 ic_0 rfl ?_
    refine v_goto C 15 dX2_renew_11 (by decide) ?_
    refine p_X2_size C hk.1 dX2_renew_15 fl_X2_19 rfl ?_
    refine v_aload_n C dX2_renew_18 rfl rfl ?_
    refine g_X2_numbers C hk.1 dX2_renew_19 fl_X2_9 rfl ?_
    refine v_iconst C dX2_renew_22 ic_0 rfl ?_
    refine v_vS C dX2_renew_23 ms_J7_fill_53178 (c_J7_fill_53178 hk.2 (by decide)) rfl ml_X2_22 (rk_of rfl) rfl (Nat.le_of_ble_eq_true rfl) rfl (pv_k ?_)
    exact v_vret C hQ dX2_renew_26 (by simp only [Pv, rnS]; rw [up_n _ _ _ (by omega), up_n _ _ _ (by omega)]; first | rw [if_pos h7] | rw [if_neg h7])

set_option maxRecDepth 100000 in
set_option maxHeartbeats 4000000 in
theorem c_X4_tell {l : Launch} {w : WC} {μ : Me} (hS : Sv w) (hX : Nx w) {f : Int32} {p : Nat} (hp : p < 7) (hf : -1000001 - f = nI p) : CtI l w yX4_tell cX4_tell 3 (some .int) (Rm 1 22) [.ref (w_ad w 0), .int f] μ (Px f (tlS μ p)) := by
  refine Ct.mk (own := RX4) rfl (by decide) (Nat.le_of_ble_eq_true rfl) (fun x hxl C hQ => ?_)
  subst hxl
  refine v_ldc C dX4_tell_0 cn_X4_48 rfl ?_
  refine v_iload_n C dX4_tell_2 rfl rfl ?_
  refine v_isub C dX4_tell_3 rfl ?_
  refine v_istore_n C dX4_tell_4 (by decide) rfl ?_
  refine v_iload_n C dX4_tell_5 rfl rfl ?_
  refine v_iconst C dX4_tell_6 ic_0 rfl ?_
  refine v_bipush C dX4_tell_7 bp_6 rfl ?_
  refine v_iS C dX4_tell_9 ms_X4_within c_X4_within rfl ml_X4_56 (rk_of rfl) rfl (Nat.le_of_ble_eq_true rfl) rfl (px_k ?_)
  refine v_if_eq C 25 15 dX4_tell_12 (by decide) rfl (fun h12 => ?_) (fun h12 => ?_)
  · exact absurd h12 (by rw [hf]; exact wi_y (m := 6) (by omega) (by omega))
  · refine v_aload_n C dX4_tell_15 rfl rfl ?_
    refine g_X4_found C hS.1 dX4_tell_16 fl_X4_40 rfl ?_
    refine v_iload_n C dX4_tell_19 rfl rfl ?_
    refine v_dup2 C dX4_tell_20 rfl rfl rfl ?_
    refine a_I C hS.2.2.2.2.2.2.2.1 (by decide) dX4_tell_21 (p) hf hp rfl ?_
    refine v_iconst C dX4_tell_22 ic_1 rfl ?_
    refine v_iadd C dX4_tell_23 rfl ?_
    refine s_I C hS.2.2.2.2.2.2.2.1 (by decide) dX4_tell_24 (p) hf hp rfl ?_
    refine v_iload_n C dX4_tell_25 rfl rfl ?_
    exact v_iret C hQ dX4_tell_26 ⟨rfl, rfl⟩

set_option maxRecDepth 100000 in
set_option maxHeartbeats 4000000 in
theorem c_X4_set {l : Launch} {w : WC} {μ : Me} (hS : Sv w) (hX : Nx w) {a v : Int32} : CtI l w yX4_set cX4_set 4 (some .int) (Rm 2 44) [.ref (w_ad w 0), .int a, .int v] μ (Px (if fitS a v = 0 then -1000001 else μ.1 2 (cl a)) (if fitS a v = 0 then tlS μ 0 else up μ 2 (cl a) v)) := by
  refine Ct.mk (own := RX4) rfl (by decide) (Nat.le_of_ble_eq_true rfl) (fun x hxl C hQ => ?_)
  subst hxl
  refine v_iload_n C dX4_set_0 rfl rfl ?_
  refine v_iload_n C dX4_set_1 rfl rfl ?_
  refine v_iS C dX4_set_2 ms_X4_settingFits c_X4_settingFits rfl ml_X4_44 (rk_of rfl) rfl (Nat.le_of_ble_eq_true rfl) rfl (px_k ?_)
  refine v_if_ne C 15 8 dX4_set_5 (by decide) rfl (fun h5 => ?_) (fun h5 => ?_)
  · have q := fit_i h5
    refine v_aload_n C dX4_set_15 rfl rfl ?_
    refine g_X4_live C hS.1 dX4_set_16 fl_X4_12 rfl ?_
    refine g_X0_settings C hS.2.1.1 dX4_set_19 fl_X4_53 rfl ?_
    refine v_iload_n C dX4_set_22 rfl rfl ?_
    refine a_I C hS.2.1.2.1 (by decide) dX4_set_23 (cl a) q.1 (by omega) rfl ?_
    refine v_istore_n C dX4_set_24 (by decide) rfl ?_
    refine v_aload_n C dX4_set_25 rfl rfl ?_
    refine g_X4_live C hS.1 dX4_set_26 fl_X4_12 rfl ?_
    refine g_X0_settings C hS.2.1.1 dX4_set_29 fl_X4_53 rfl ?_
    refine v_iload_n C dX4_set_32 rfl rfl ?_
    refine v_iload_n C dX4_set_33 rfl rfl ?_
    refine s_I C hS.2.1.2.1 (by decide) dX4_set_34 (cl a) q.1 (by omega) rfl ?_
    refine v_iload_n C dX4_set_35 rfl rfl ?_
    exact v_iret C hQ dX4_set_36 ⟨(if_neg h5).symm, (if_neg h5).symm⟩
  · refine v_aload_n C dX4_set_8 rfl rfl ?_
    refine v_ldc C dX4_set_9 cn_X4_48 rfl ?_
    refine v_iV C dX4_set_11 mi_X4_tell (c_X4_tell hS hX (p := 0) (by decide) (by decide)) rfl hS.1.1 hS.1.2 rfl ml_X4_49 (rk_of rfl) rfl (Nat.le_of_ble_eq_true rfl) rfl (px_k ?_)
    exact v_iret C hQ dX4_set_14 ⟨(if_pos h5).symm, (if_pos h5).symm⟩

set_option maxRecDepth 100000 in
set_option maxHeartbeats 4000000 in
theorem c_X4_home {l : Launch} {w : WC} {μ : Me} (hS : Sv w) (hX : Nx w) {a : Int32} : CtI l w yX4_home cX4_home 2 (some .int) (Rm 2 44) [.ref (w_ad w 0), .int a] μ (Px (if wiS a 0 3 = 0 then -1000001 else μ.1 2 (cl a)) (if wiS a 0 3 = 0 then tlS μ 0 else μ)) := by
  refine Ct.mk (own := RX4) rfl (by decide) (Nat.le_of_ble_eq_true rfl) (fun x hxl C hQ => ?_)
  subst hxl
  refine v_iload_n C dX4_home_0 rfl rfl ?_
  refine v_iconst C dX4_home_1 ic_0 rfl ?_
  refine v_iconst C dX4_home_2 ic_3 rfl ?_
  refine v_iS C dX4_home_3 ms_X4_within c_X4_within rfl ml_X4_56 (rk_of rfl) rfl (Nat.le_of_ble_eq_true rfl) rfl (px_k ?_)
  refine v_if_ne C 16 9 dX4_home_6 (by decide) rfl (fun h6 => ?_) (fun h6 => ?_)
  · have q := wi_i (m := 3) (by omega) h6
    refine v_aload_n C dX4_home_16 rfl rfl ?_
    refine g_X4_live C hS.1 dX4_home_17 fl_X4_12 rfl ?_
    refine g_X0_settings C hS.2.1.1 dX4_home_20 fl_X4_53 rfl ?_
    refine v_iload_n C dX4_home_23 rfl rfl ?_
    refine a_I C hS.2.1.2.1 (by decide) dX4_home_24 (cl a) q.1 (by omega) rfl ?_
    exact v_iret C hQ dX4_home_25 ⟨(if_neg h6).symm, (if_neg h6).symm⟩
  · refine v_aload_n C dX4_home_9 rfl rfl ?_
    refine v_ldc C dX4_home_10 cn_X4_48 rfl ?_
    refine v_iV C dX4_home_12 mi_X4_tell (c_X4_tell hS hX (p := 0) (by decide) (by decide)) rfl hS.1.1 hS.1.2 rfl ml_X4_49 (rk_of rfl) rfl (Nat.le_of_ble_eq_true rfl) rfl (px_k ?_)
    exact v_iret C hQ dX4_home_15 ⟨(if_pos h6).symm, (if_pos h6).symm⟩

set_option maxRecDepth 100000 in
set_option maxHeartbeats 4000000 in
theorem c_X4_visits {l : Launch} {w : WC} {μ : Me} (hS : Sv w) (hX : Nx w) {a : Int32} : CtI l w yX4_visits cX4_visits 2 (some .int) (Rm 2 44) [.ref (w_ad w 0), .int a] μ (Px (if wiS a 0 5 = 0 then -1000001 else μ.1 3 (cl a)) (if wiS a 0 5 = 0 then tlS μ 0 else μ)) := by
  refine Ct.mk (own := RX4) rfl (by decide) (Nat.le_of_ble_eq_true rfl) (fun x hxl C hQ => ?_)
  subst hxl
  refine v_iload_n C dX4_visits_0 rfl rfl ?_
  refine v_iconst C dX4_visits_1 ic_0 rfl ?_
  refine v_iconst C dX4_visits_2 ic_5 rfl ?_
  refine v_iS C dX4_visits_3 ms_X4_within c_X4_within rfl ml_X4_56 (rk_of rfl) rfl (Nat.le_of_ble_eq_true rfl) rfl (px_k ?_)
  refine v_if_ne C 16 9 dX4_visits_6 (by decide) rfl (fun h6 => ?_) (fun h6 => ?_)
  · have q := wi_i (m := 5) (by omega) h6
    refine v_aload_n C dX4_visits_16 rfl rfl ?_
    refine g_X4_live C hS.1 dX4_visits_17 fl_X4_12 rfl ?_
    refine g_X0_list C hS.2.1.1 dX4_visits_20 fl_X4_60 rfl ?_
    refine v_iload_n C dX4_visits_23 rfl rfl ?_
    refine a_I C hS.2.1.2.2.1 (by decide) dX4_visits_24 (cl a) q.1 (by omega) rfl ?_
    exact v_iret C hQ dX4_visits_25 ⟨(if_neg h6).symm, (if_neg h6).symm⟩
  · refine v_aload_n C dX4_visits_9 rfl rfl ?_
    refine v_ldc C dX4_visits_10 cn_X4_48 rfl ?_
    refine v_iV C dX4_visits_12 mi_X4_tell (c_X4_tell hS hX (p := 0) (by decide) (by decide)) rfl hS.1.1 hS.1.2 rfl ml_X4_49 (rk_of rfl) rfl (Nat.le_of_ble_eq_true rfl) rfl (px_k ?_)
    exact v_iret C hQ dX4_visits_15 ⟨(if_pos h6).symm, (if_pos h6).symm⟩

set_option maxRecDepth 100000 in
set_option maxHeartbeats 4000000 in
theorem c_X4_visit {l : Launch} {w : WC} {μ : Me} (hS : Sv w) (hX : Nx w) {a v : Int32} : CtI l w yX4_visit cX4_visit 4 (some .int) (Rm 2 44) [.ref (w_ad w 0), .int a, .int v] μ (Px (if wiS a 0 5 = 0 ∨ wiS v 0 255 = 0 then -1000001 else μ.1 3 (cl a)) (if wiS a 0 5 = 0 ∨ wiS v 0 255 = 0 then tlS μ 0 else up μ 3 (cl a) v)) := by
  refine Ct.mk (own := RX4) rfl (by decide) (Nat.le_of_ble_eq_true rfl) (fun x hxl C hQ => ?_)
  subst hxl
  refine v_iload_n C dX4_visit_0 rfl rfl ?_
  refine v_iconst C dX4_visit_1 ic_0 rfl ?_
  refine v_iconst C dX4_visit_2 ic_5 rfl ?_
  refine v_iS C dX4_visit_3 ms_X4_within c_X4_within rfl ml_X4_56 (rk_of rfl) rfl (Nat.le_of_ble_eq_true rfl) rfl (px_k ?_)
  refine v_if_eq C 20 9 dX4_visit_6 (by decide) rfl (fun h6 => ?_) (fun h6 => ?_)
  · refine v_aload_n C dX4_visit_20 rfl rfl ?_
    refine v_ldc C dX4_visit_21 cn_X4_48 rfl ?_
    refine v_iV C dX4_visit_23 mi_X4_tell (c_X4_tell hS hX (p := 0) (by decide) (by decide)) rfl hS.1.1 hS.1.2 rfl ml_X4_49 (rk_of rfl) rfl (Nat.le_of_ble_eq_true rfl) rfl (px_k ?_)
    exact v_iret C hQ dX4_visit_26 ⟨(if_pos (by first | exact Or.inl h6 | exact Or.inr h17)).symm, (if_pos (by first | exact Or.inl h6 | exact Or.inr h17)).symm⟩
  · refine v_iload_n C dX4_visit_9 rfl rfl ?_
    refine v_iconst C dX4_visit_10 ic_0 rfl ?_
    refine v_sipush C dX4_visit_11 sp_255 rfl ?_
    refine v_iS C dX4_visit_14 ms_X4_within c_X4_within rfl ml_X4_56 (rk_of rfl) rfl (Nat.le_of_ble_eq_true rfl) rfl (px_k ?_)
    refine v_if_ne C 27 20 dX4_visit_17 (by decide) rfl (fun h17 => ?_) (fun h17 => ?_)
    · have q := wi_i (m := 5) (by omega) h6
      refine v_aload_n C dX4_visit_27 rfl rfl ?_
      refine g_X4_live C hS.1 dX4_visit_28 fl_X4_12 rfl ?_
      refine g_X0_list C hS.2.1.1 dX4_visit_31 fl_X4_60 rfl ?_
      refine v_iload_n C dX4_visit_34 rfl rfl ?_
      refine a_I C hS.2.1.2.2.1 (by decide) dX4_visit_35 (cl a) q.1 (by omega) rfl ?_
      refine v_istore_n C dX4_visit_36 (by decide) rfl ?_
      refine v_aload_n C dX4_visit_37 rfl rfl ?_
      refine g_X4_live C hS.1 dX4_visit_38 fl_X4_12 rfl ?_
      refine g_X0_list C hS.2.1.1 dX4_visit_41 fl_X4_60 rfl ?_
      refine v_iload_n C dX4_visit_44 rfl rfl ?_
      refine v_iload_n C dX4_visit_45 rfl rfl ?_
      refine s_I C hS.2.1.2.2.1 (by decide) dX4_visit_46 (cl a) q.1 (by omega) rfl ?_
      refine v_iload_n C dX4_visit_47 rfl rfl ?_
      exact v_iret C hQ dX4_visit_48 ⟨(if_neg (fun h => h.elim h6 h17)).symm, (if_neg (fun h => h.elim h6 h17)).symm⟩
    · refine v_aload_n C dX4_visit_20 rfl rfl ?_
      refine v_ldc C dX4_visit_21 cn_X4_48 rfl ?_
      refine v_iV C dX4_visit_23 mi_X4_tell (c_X4_tell hS hX (p := 0) (by decide) (by decide)) rfl hS.1.1 hS.1.2 rfl ml_X4_49 (rk_of rfl) rfl (Nat.le_of_ble_eq_true rfl) rfl (px_k ?_)
      exact v_iret C hQ dX4_visit_26 ⟨(if_pos (by first | exact Or.inl h6 | exact Or.inr h17)).symm, (if_pos (by first | exact Or.inl h6 | exact Or.inr h17)).symm⟩

set_option maxRecDepth 100000 in
set_option maxHeartbeats 4000000 in
theorem c_X4_resident {l : Launch} {w : WC} {μ : Me} (hS : Sv w) (hX : Nx w) {d : Nat → Int32} (hL : LH μ 1 d) (hI : IvD d) {a : Int32} : CtI l w yX4_resident cX4_resident 3 (some .int) (Rm 2 44) [.ref (w_ad w 0), .int a] μ (Px (if wiS a 0 6 = 0 then -1000001 else if dn d < 8 then nI (dn d) else -1000002) (if wiS a 0 6 = 0 then tlS μ 0 else if dn d < 8 then up (bgS μ (1 + 3 + 2 + dn d) a) 1 3 (nI (dn d + 1)) else tlS μ 1)) := by
  refine Ct.mk (own := RX4) rfl (by decide) (Nat.le_of_ble_eq_true rfl) (fun x hxl C hQ => ?_)
  subst hxl
  have hn := hI.n.1
  have h0 : μ.1 1 3 = nI (dn d) := hL.1.trans hI.n.2
  refine v_iload_n C dX4_resident_0 rfl rfl ?_
  refine v_iconst C dX4_resident_1 ic_0 rfl ?_
  refine v_bipush C dX4_resident_2 bp_6 rfl ?_
  refine v_iS C dX4_resident_4 ms_X4_within c_X4_within rfl ml_X4_56 (rk_of rfl) rfl (Nat.le_of_ble_eq_true rfl) rfl (px_k ?_)
  refine v_if_ne C 17 10 dX4_resident_7 (by decide) rfl (fun h7 => ?_) (fun h7 => ?_)
  · refine v_aload_n C dX4_resident_17 rfl rfl ?_
    refine g_X4_live C hS.1 dX4_resident_18 fl_X4_12 rfl ?_
    refine v_iload_n C dX4_resident_21 rfl rfl ?_
    refine v_iV C dX4_resident_22 mi_X0_welcome (c_X0_welcome hS.2.1 hX hn h0) rfl hS.2.1.1.1 hS.2.1.1.2 rfl ml_X4_63 (rk_of rfl) rfl (Nat.le_of_ble_eq_true rfl) rfl (px_k ?_)
    refine v_istore_n C dX4_resident_25 (by decide) rfl ?_
    refine v_iload_n C dX4_resident_26 rfl rfl ?_
    refine v_iconst C dX4_resident_27 ic_m1 rfl ?_
    refine v_icmp_ne C 40 31 dX4_resident_28 (by decide) rfl (fun h28 => ?_) (fun h28 => ?_)
    · have q : dn d < 8 := by
        by_cases q : dn d < 8
        · exact q
        · rw [if_neg q] at h28; exact absurd rfl h28
      refine v_iload_n C dX4_resident_40 rfl rfl ?_
      exact v_iret C hQ dX4_resident_41 ⟨by simp [h7, q], by simp [h7, q]⟩
    · have q : ¬ dn d < 8 := fun q => nI_ne_m1 (n := dn d) (by omega) (by rw [if_pos q] at h28; exact h28)
      refine v_aload_n C dX4_resident_31 rfl rfl ?_
      refine v_ldc C dX4_resident_32 cn_X4_66 rfl ?_
      refine v_iV C dX4_resident_34 mi_X4_tell (c_X4_tell hS hX (p := 1) (by decide) (by decide)) rfl hS.1.1 hS.1.2 rfl ml_X4_49 (rk_of rfl) rfl (Nat.le_of_ble_eq_true rfl) rfl (px_k ?_)
      refine v_goto C 41 dX4_resident_37 (by decide) ?_
      exact v_iret C hQ dX4_resident_41 ⟨by simp [h7, q], by simp [h7, q]⟩
  · refine v_aload_n C dX4_resident_10 rfl rfl ?_
    refine v_ldc C dX4_resident_11 cn_X4_48 rfl ?_
    refine v_iV C dX4_resident_13 mi_X4_tell (c_X4_tell hS hX (p := 0) (by decide) (by decide)) rfl hS.1.1 hS.1.2 rfl ml_X4_49 (rk_of rfl) rfl (Nat.le_of_ble_eq_true rfl) rfl (px_k ?_)
    exact v_iret C hQ dX4_resident_16 ⟨(if_pos h7).symm, (if_pos h7).symm⟩

set_option maxRecDepth 100000 in
set_option maxHeartbeats 4000000 in
theorem c_X4_seed {l : Launch} {w : WC} {μ : Me} (hS : Sv w) (hX : Nx w) {v : Int32} : CtI l w yX4_seed cX4_seed 3 (some .int) (Rm 0 0) [.ref (w_ad w 0), .int v] μ (Px (μ.1 1 5) (up μ 1 5 v)) := by
  refine Ct.mk (own := RX4) rfl (by decide) (Nat.le_of_ble_eq_true rfl) (fun x hxl C hQ => ?_)
  subst hxl
  refine v_aload_n C dX4_seed_0 rfl rfl ?_
  refine g_X4_live C hS.1 dX4_seed_1 fl_X4_12 rfl ?_
  refine g_X0_z C hS.2.1.1 dX4_seed_4 fl_X4_204 rfl ?_
  refine v_istore_n C dX4_seed_7 (by decide) rfl ?_
  refine v_aload_n C dX4_seed_8 rfl rfl ?_
  refine g_X4_live C hS.1 dX4_seed_9 fl_X4_12 rfl ?_
  refine v_iload_n C dX4_seed_12 rfl rfl ?_
  refine p_X0_z C hS.2.1.1 dX4_seed_13 fl_X4_204 rfl ?_
  refine v_iload_n C dX4_seed_16 rfl rfl ?_
  exact v_iret C hQ dX4_seed_17 ⟨rfl, rfl⟩

set_option maxRecDepth 100000 in
set_option maxHeartbeats 4000000 in
theorem c_X4_wipe {l : Launch} {w : WC} {μ : Me} (hS : Sv w) (hX : Nx w) : CtI l w yX4_wipe cX4_wipe 2 (some .int) (Rm 0 0) [.ref (w_ad w 0)] μ (Px (μ.1 40 1) (up μ 40 1 0)) := by
  refine Ct.mk (own := RX4) rfl (by decide) (Nat.le_of_ble_eq_true rfl) (fun x hxl C hQ => ?_)
  subst hxl
  refine v_aload_n C dX4_wipe_0 rfl rfl ?_
  refine g_X4_tape C hS.1 dX4_wipe_1 fl_X4_29 rfl ?_
  refine g_X3_length C hS.2.2.2.2.1.1 dX4_wipe_4 fl_X4_207 rfl ?_
  refine v_istore_n C dX4_wipe_7 (by decide) rfl ?_
  refine v_aload_n C dX4_wipe_8 rfl rfl ?_
  refine g_X4_tape C hS.1 dX4_wipe_9 fl_X4_29 rfl ?_
  refine v_iconst C dX4_wipe_12 ic_0 rfl ?_
  refine p_X3_length C hS.2.2.2.2.1.1 dX4_wipe_13 fl_X4_207 rfl ?_
  refine v_iload_n C dX4_wipe_16 rfl rfl ?_
  exact v_iret C hQ dX4_wipe_17 ⟨rfl, rfl⟩

set_option maxRecDepth 100000 in
set_option maxHeartbeats 4000000 in
theorem c_X4_tear {l : Launch} {w : WC} {μ : Me} (hS : Sv w) (hX : Nx w) : CtI l w yX4_tear cX4_tear 2 (some .int) (Rm 0 0) [.ref (w_ad w 0)] μ (Px (if μ.1 0 3 = 0 then 0 else 1) (up μ 0 3 0)) := by
  refine Ct.mk (own := RX4) rfl (by decide) (Nat.le_of_ble_eq_true rfl) (fun x hxl C hQ => ?_)
  subst hxl
  refine v_aload_n C dX4_tear_0 rfl rfl ?_
  refine g_X4_keeps C hS.1 dX4_tear_1 fl_X4_22 rfl ?_
  refine v_if_eq C 11 7 dX4_tear_4 (by decide) rfl (fun h4 => ?_) (fun h4 => ?_)
  · refine v_iconst C dX4_tear_11 ic_0 rfl ?_
    refine v_istore_n C dX4_tear_12 (by decide) rfl ?_
    refine v_aload_n C dX4_tear_13 rfl rfl ?_
    refine v_iconst C dX4_tear_14 ic_0 rfl ?_
    refine p_X4_keeps C hS.1 dX4_tear_15 fl_X4_22 rfl rfl rfl ?_
    refine v_iload_n C dX4_tear_18 rfl rfl ?_
    exact v_iret C hQ dX4_tear_19 ⟨by simp [*], rfl⟩
  · refine v_iconst C dX4_tear_7 ic_1 rfl ?_
    refine v_goto C 12 dX4_tear_8 (by decide) ?_
    refine v_istore_n C dX4_tear_12 (by decide) rfl ?_
    refine v_aload_n C dX4_tear_13 rfl rfl ?_
    refine v_iconst C dX4_tear_14 ic_0 rfl ?_
    refine p_X4_keeps C hS.1 dX4_tear_15 fl_X4_22 rfl rfl rfl ?_
    refine v_iload_n C dX4_tear_18 rfl rfl ?_
    exact v_iret C hQ dX4_tear_19 ⟨by simp [*], rfl⟩

set_option maxRecDepth 100000 in
set_option maxHeartbeats 4000000 in
theorem c_X4_lackOf {l : Launch} {w : WC} {μ : Me} (hS : Sv w) (hX : Nx w) {s : Int32} : CtI l w yX4_lackOf cX4_lackOf 2 (some .int) (Rm 1 22) [.ref (w_ad w 0), .int s] μ (Px (lkS μ s) μ) := by
  refine Ct.mk (own := RX4) rfl (by decide) (Nat.le_of_ble_eq_true rfl) (fun x hxl C hQ => ?_)
  subst hxl
  refine v_iload_n C dX4_lackOf_0 rfl rfl ?_
  refine v_iconst C dX4_lackOf_1 ic_0 rfl ?_
  refine v_iconst C dX4_lackOf_2 ic_3 rfl ?_
  refine v_iS C dX4_lackOf_3 ms_X4_within c_X4_within rfl ml_X4_56 (rk_of rfl) rfl (Nat.le_of_ble_eq_true rfl) rfl (px_k ?_)
  refine v_if_ne C 12 9 dX4_lackOf_6 (by decide) rfl (fun h6 => ?_) (fun h6 => ?_)
  · have q := wi_i (m := 3) (by omega) h6
    refine v_aload_n C dX4_lackOf_12 rfl rfl ?_
    refine g_X4_sheets C hS.1 dX4_lackOf_13 fl_X4_35 rfl ?_
    refine v_iload_n C dX4_lackOf_16 rfl rfl ?_
    refine a_S C hS.2.2.2.2.2.1 dX4_lackOf_17 (cl s) q.1 (by omega) rfl ?_
    refine v_iV C dX4_lackOf_18 mi_X2_isMissing (c_X2_isMissing (hS.2.2.2.2.2.2.1 (cl s) (by omega))) rfl (hS.2.2.2.2.2.2.1 (cl s) (by omega)).1.1 (hS.2.2.2.2.2.2.1 (cl s) (by omega)).1.2 rfl ml_X4_246 (rk_of rfl) rfl (Nat.le_of_ble_eq_true rfl) rfl (px_k ?_)
    refine v_if_eq C 29 24 dX4_lackOf_21 (by decide) rfl (fun h21 => ?_) (fun h21 => ?_)
    · refine v_iconst C dX4_lackOf_29 ic_0 rfl ?_
      exact v_iret C hQ dX4_lackOf_30 ⟨by unfold lkS; first | exact (if_pos h6).symm | (rw [if_neg h6]; by_cases q2 : μ.1 (42 + 1 + cl s) 0 = 0; (rw [if_pos q2] at h21; first | exact (if_pos q2).symm | exact absurd h21 (by decide)); (rw [if_neg q2] at h21; first | exact (if_neg q2).symm | exact absurd rfl h21)), rfl⟩
    · refine v_ldc C dX4_lackOf_24 cn_X4_224 rfl ?_
      refine v_goto C 30 dX4_lackOf_26 (by decide) ?_
      exact v_iret C hQ dX4_lackOf_30 ⟨by unfold lkS; first | exact (if_pos h6).symm | (rw [if_neg h6]; by_cases q2 : μ.1 (42 + 1 + cl s) 0 = 0; (rw [if_pos q2] at h21; first | exact (if_pos q2).symm | exact absurd h21 (by decide)); (rw [if_neg q2] at h21; first | exact (if_neg q2).symm | exact absurd rfl h21)), rfl⟩
  · refine v_ldc C dX4_lackOf_9 cn_X4_48 rfl ?_
    exact v_iret C hQ dX4_lackOf_11 ⟨by unfold lkS; first | exact (if_pos h6).symm | (rw [if_neg h6]; by_cases q2 : μ.1 (42 + 1 + cl s) 0 = 0; (rw [if_pos q2] at h21; first | exact (if_pos q2).symm | exact absurd h21 (by decide)); (rw [if_neg q2] at h21; first | exact (if_neg q2).symm | exact absurd rfl h21)), rfl⟩

set_option maxRecDepth 100000 in
set_option maxHeartbeats 4000000 in
theorem c_X4_lackFor {l : Launch} {w : WC} {μ : Me} (hS : Sv w) (hX : Nx w) {s r : Int32} : CtI l w yX4_lackFor cX4_lackFor 4 (some .int) (Rm 2 43) [.ref (w_ad w 0), .int s, .int r] μ (Px (lfS μ s r) μ) := by
  refine Ct.mk (own := RX4) rfl (by decide) (Nat.le_of_ble_eq_true rfl) (fun x hxl C hQ => ?_)
  subst hxl
  refine v_aload_n C dX4_lackFor_0 rfl rfl ?_
  refine v_iload_n C dX4_lackFor_1 rfl rfl ?_
  refine v_iV C dX4_lackFor_2 mi_X4_lackOf (c_X4_lackOf hS hX) rfl hS.1.1 hS.1.2 rfl ml_X4_237 (rk_of rfl) rfl (Nat.le_of_ble_eq_true rfl) rfl (px_k ?_)
  refine v_istore_n C dX4_lackFor_5 (by decide) rfl ?_
  refine v_iload_n C dX4_lackFor_6 rfl rfl ?_
  refine v_if_eq C 12 10 dX4_lackFor_7 (by decide) rfl (fun h7 => ?_) (fun h7 => ?_)
  · refine v_aload_n C dX4_lackFor_12 rfl rfl ?_
    refine g_X4_live C hS.1 dX4_lackFor_13 fl_X4_12 rfl ?_
    refine v_iload_n C dX4_lackFor_16 rfl rfl ?_
    refine v_iV C dX4_lackFor_17 mi_X0_has (c_X0_has hS.2.1 hX) rfl hS.2.1.1.1 hS.2.1.1.2 rfl ml_X4_67 (rk_of rfl) rfl (Nat.le_of_ble_eq_true rfl) rfl (px_k ?_)
    refine v_if_eq C 27 23 dX4_lackFor_20 (by decide) rfl (fun h20 => ?_) (fun h20 => ?_)
    · refine v_ldc C dX4_lackFor_27 cn_X4_48 rfl ?_
      exact v_iret C hQ dX4_lackFor_29 ⟨by unfold lfS; first | exact (if_neg h7).symm | (rw [if_pos h7]; first | exact (if_pos h20).symm | exact (if_neg h20).symm), rfl⟩
    · refine v_iconst C dX4_lackFor_23 ic_0 rfl ?_
      refine v_goto C 29 dX4_lackFor_24 (by decide) ?_
      exact v_iret C hQ dX4_lackFor_29 ⟨by unfold lfS; first | exact (if_neg h7).symm | (rw [if_pos h7]; first | exact (if_pos h20).symm | exact (if_neg h20).symm), rfl⟩
  · refine v_iload_n C dX4_lackFor_10 rfl rfl ?_
    exact v_iret C hQ dX4_lackFor_11 ⟨by unfold lfS; first | exact (if_neg h7).symm | (rw [if_pos h7]; first | exact (if_pos h20).symm | exact (if_neg h20).symm), rfl⟩

set_option maxRecDepth 100000 in
set_option maxHeartbeats 4000000 in
theorem c_X4_beginTrial {l : Launch} {w : WC} {μ : Me} (hS : Sv w) (hX : Nx w) {d : Nat → Int32} (hL : LH μ 1 d) (hI : IvD d) : CtV l w yX4_beginTrial cX4_beginTrial 1 (Rm 2 62) [.ref (w_ad w 0)] μ (Pv (tkS μ 14 1 (dn d))) := by
  refine Ct.mk (own := RX4) rfl (by decide) (Nat.le_of_ble_eq_true rfl) (fun x hxl C hQ => ?_)
  subst hxl
  have hn := hI.n.1
  have h0 : μ.1 1 3 = nI (dn d) := hL.1.trans hI.n.2
  refine v_aload_n C dX4_beginTrial_0 rfl rfl ?_
  refine g_X4_trial C hS.1 dX4_beginTrial_1 fl_X4_16 rfl ?_
  refine v_aload_n C dX4_beginTrial_4 rfl rfl ?_
  refine g_X4_live C hS.1 dX4_beginTrial_5 fl_X4_12 rfl ?_
  refine v_vV C dX4_beginTrial_8 mi_X0_takeAll (c_X0_takeAll hS.2.2.1 hX hS.2.1 (by unfold Ap; omega) hn h0) rfl hS.2.2.1.1.1 hS.2.2.1.1.2 rfl ml_X4_217 (rk_of rfl) rfl (Nat.le_of_ble_eq_true rfl) rfl (pv_k ?_)
  exact v_vret C hQ dX4_beginTrial_11 rfl

set_option maxRecDepth 100000 in
set_option maxHeartbeats 4000000 in
theorem c_X4_image {l : Launch} {w : WC} {μ : Me} (hS : Sv w) (hX : Nx w) {d : Nat → Int32} (hL : LH μ 1 d) (hI : IvD d) : CtI l w yX4_image cX4_image 1 (some .int) (Rm 2 62) [.ref (w_ad w 0)] μ (Px 1 (up (tkS μ 27 1 (dn d)) 0 3 1)) := by
  refine Ct.mk (own := RX4) rfl (by decide) (Nat.le_of_ble_eq_true rfl) (fun x hxl C hQ => ?_)
  subst hxl
  have hn := hI.n.1
  have h0 : μ.1 1 3 = nI (dn d) := hL.1.trans hI.n.2
  refine v_aload_n C dX4_image_0 rfl rfl ?_
  refine g_X4_kept C hS.1 dX4_image_1 fl_X4_19 rfl ?_
  refine v_aload_n C dX4_image_4 rfl rfl ?_
  refine g_X4_live C hS.1 dX4_image_5 fl_X4_12 rfl ?_
  refine v_vV C dX4_image_8 mi_X0_takeAll (c_X0_takeAll hS.2.2.2.1 hX hS.2.1 (by unfold Ap; omega) hn h0) rfl hS.2.2.2.1.1.1 hS.2.2.2.1.1.2 rfl ml_X4_217 (rk_of rfl) rfl (Nat.le_of_ble_eq_true rfl) rfl (pv_k ?_)
  refine v_aload_n C dX4_image_11 rfl rfl ?_
  refine v_iconst C dX4_image_12 ic_1 rfl ?_
  refine p_X4_keeps C hS.1 dX4_image_13 fl_X4_22 rfl rfl rfl ?_
  refine v_iconst C dX4_image_16 ic_1 rfl ?_
  exact v_iret C hQ dX4_image_17 ⟨rfl, rfl⟩

set_option maxRecDepth 100000 in
set_option maxHeartbeats 4000000 in
theorem c_X4_undo {l : Launch} {w : WC} {μ : Me} (hS : Sv w) (hX : Nx w) {d : Nat → Int32} (hL : ¬ μ.1 0 3 = 0 → LH μ 27 d) (hI : ¬ μ.1 0 3 = 0 → IvD d) : CtI l w yX4_undo cX4_undo 1 (some .int) (Rm 2 62) [.ref (w_ad w 0)] μ (Px (if μ.1 0 3 = 0 then -1000004 else (tkS μ 1 27 (dn d)).1 1 4) (if μ.1 0 3 = 0 then tlS μ 3 else tkS μ 1 27 (dn d))) := by
  refine Ct.mk (own := RX4) rfl (by decide) (Nat.le_of_ble_eq_true rfl) (fun x hxl C hQ => ?_)
  subst hxl
  refine v_aload_n C dX4_undo_0 rfl rfl ?_
  refine g_X4_keeps C hS.1 dX4_undo_1 fl_X4_22 rfl ?_
  refine v_if_ne C 14 7 dX4_undo_4 (by decide) rfl (fun h4 => ?_) (fun h4 => ?_)
  · have hn := (hI h4).n.1
    have h0 : μ.1 27 3 = nI (dn d) := (hL h4).1.trans (hI h4).n.2
    refine v_aload_n C dX4_undo_14 rfl rfl ?_
    refine g_X4_live C hS.1 dX4_undo_15 fl_X4_12 rfl ?_
    refine v_aload_n C dX4_undo_18 rfl rfl ?_
    refine g_X4_kept C hS.1 dX4_undo_19 fl_X4_19 rfl ?_
    refine v_vV C dX4_undo_22 mi_X0_takeAll (c_X0_takeAll hS.2.1 hX hS.2.2.2.1 (by unfold Ap; omega) hn h0) rfl hS.2.1.1.1 hS.2.1.1.2 rfl ml_X4_217 (rk_of rfl) rfl (Nat.le_of_ble_eq_true rfl) rfl (pv_k ?_)
    refine v_aload_n C dX4_undo_25 rfl rfl ?_
    refine g_X4_live C hS.1 dX4_undo_26 fl_X4_12 rfl ?_
    refine g_X0_sunday C hS.2.1.1 dX4_undo_29 fl_X4_101 rfl ?_
    exact v_iret C hQ dX4_undo_32 ⟨(if_neg h4).symm, (if_neg h4).symm⟩
  · refine v_aload_n C dX4_undo_7 rfl rfl ?_
    refine v_ldc C dX4_undo_8 cn_X4_153 rfl ?_
    refine v_iV C dX4_undo_10 mi_X4_tell (c_X4_tell hS hX (p := 3) (by decide) (by decide)) rfl hS.1.1 hS.1.2 rfl ml_X4_49 (rk_of rfl) rfl (Nat.le_of_ble_eq_true rfl) rfl (px_k ?_)
    exact v_iret C hQ dX4_undo_13 ⟨(if_pos h4).symm, (if_pos h4).symm⟩
