set_option maxRecDepth 100000 in
set_option maxHeartbeats 4000000 in
theorem c_X5_isSet {l : Launch} {w : WC} {μ : Me} {a v : Int32} : CtI l w yX5_isSet cX5_isSet 2 (some .boolean) (Rm 1 25) [.int a, .int v] μ (Px (fitS a v) μ) := by
  refine Ct.mk (own := RX5) rfl (by decide) (Nat.le_of_ble_eq_true rfl) (fun x hxl C hQ => ?_)
  subst hxl
  refine v_iload_n C dX5_isSet_0 rfl rfl ?_
  refine v_if_eq C 9 4 dX5_isSet_1 (by decide) rfl (fun h1 => ?_) (fun h1 => ?_)
  · refine v_iload_n C dX5_isSet_9 rfl rfl ?_
    refine v_i2l C dX5_isSet_10 rfl ?_
    refine v_lconst (v := 0) C dX5_isSet_11 rfl rfl ?_
    refine v_ldc2 C dX5_isSet_12 cn_X5_95 rfl ?_
    refine v_iS C dX5_isSet_15 ms_X5_in c_X5_in rfl ml_X5_42 (rk_of rfl) rfl (Nat.le_of_ble_eq_true rfl) rfl (px_k ?_)
    refine v_eqi (in_w (a := (0)) (b := (20)) (by decide) (by decide)) ?_
    refine v_goto C 60 dX5_isSet_18 (by decide) ?_
    exact v_zret C hQ dX5_isSet_60 (by first | rfl | (unfold wiS; split <;> rfl)) ⟨by first | exact (fit_01 (Or.inl h1)).symm | exact (fit_01 (Or.inr h6)).symm | (rw [h23]; exact fit_2.symm) | (rw [h40, fit_3]; first | exact h52.symm | exact ((wi_01 _ _ _).resolve_left h52).symm) | exact (fit_o h1 h6 h23 h40).symm, rfl⟩
  · refine v_iload_n C dX5_isSet_4 rfl rfl ?_
    refine v_iconst C dX5_isSet_5 ic_1 rfl ?_
    refine v_icmp_ne C 21 9 dX5_isSet_6 (by decide) rfl (fun h6 => ?_) (fun h6 => ?_)
    · refine v_iload_n C dX5_isSet_21 rfl rfl ?_
      refine v_iconst C dX5_isSet_22 ic_2 rfl ?_
      refine v_icmp_ne C 38 26 dX5_isSet_23 (by decide) rfl (fun h23 => ?_) (fun h23 => ?_)
      · refine v_iload_n C dX5_isSet_38 rfl rfl ?_
        refine v_iconst C dX5_isSet_39 ic_3 rfl ?_
        refine v_icmp_ne C 59 43 dX5_isSet_40 (by decide) rfl (fun h40 => ?_) (fun h40 => ?_)
        · refine v_iconst C dX5_isSet_59 ic_0 rfl ?_
          exact v_zret C hQ dX5_isSet_60 (by first | rfl | (unfold wiS; split <;> rfl)) ⟨by first | exact (fit_01 (Or.inl h1)).symm | exact (fit_01 (Or.inr h6)).symm | (rw [h23]; exact fit_2.symm) | (rw [h40, fit_3]; first | exact h52.symm | exact ((wi_01 _ _ _).resolve_left h52).symm) | exact (fit_o h1 h6 h23 h40).symm, rfl⟩
        · refine v_iload_n C dX5_isSet_43 rfl rfl ?_
          refine v_i2l C dX5_isSet_44 rfl ?_
          refine v_lconst (v := 1) C dX5_isSet_45 rfl rfl ?_
          refine v_ldc2 C dX5_isSet_46 cn_X5_99 rfl ?_
          refine v_iS C dX5_isSet_49 ms_X5_in c_X5_in rfl ml_X5_42 (rk_of rfl) rfl (Nat.le_of_ble_eq_true rfl) rfl (px_k ?_)
          refine v_eqi (in_w (a := (1)) (b := (12)) (by decide) (by decide)) ?_
          refine v_if_eq C 59 55 dX5_isSet_52 (by decide) rfl (fun h52 => ?_) (fun h52 => ?_)
          · refine v_iconst C dX5_isSet_59 ic_0 rfl ?_
            exact v_zret C hQ dX5_isSet_60 (by first | rfl | (unfold wiS; split <;> rfl)) ⟨by first | exact (fit_01 (Or.inl h1)).symm | exact (fit_01 (Or.inr h6)).symm | (rw [h23]; exact fit_2.symm) | (rw [h40, fit_3]; first | exact h52.symm | exact ((wi_01 _ _ _).resolve_left h52).symm) | exact (fit_o h1 h6 h23 h40).symm, rfl⟩
          · refine v_iconst C dX5_isSet_55 ic_1 rfl ?_
            refine v_goto C 60 dX5_isSet_56 (by decide) ?_
            exact v_zret C hQ dX5_isSet_60 (by first | rfl | (unfold wiS; split <;> rfl)) ⟨by first | exact (fit_01 (Or.inl h1)).symm | exact (fit_01 (Or.inr h6)).symm | (rw [h23]; exact fit_2.symm) | (rw [h40, fit_3]; first | exact h52.symm | exact ((wi_01 _ _ _).resolve_left h52).symm) | exact (fit_o h1 h6 h23 h40).symm, rfl⟩
      · refine v_iload_n C dX5_isSet_26 rfl rfl ?_
        refine v_i2l C dX5_isSet_27 rfl ?_
        refine v_lconst (v := 0) C dX5_isSet_28 rfl rfl ?_
        refine v_ldc2 C dX5_isSet_29 cn_X5_97 rfl ?_
        refine v_iS C dX5_isSet_32 ms_X5_in c_X5_in rfl ml_X5_42 (rk_of rfl) rfl (Nat.le_of_ble_eq_true rfl) rfl (px_k ?_)
        refine v_eqi (in_w (a := (0)) (b := (8)) (by decide) (by decide)) ?_
        refine v_goto C 60 dX5_isSet_35 (by decide) ?_
        exact v_zret C hQ dX5_isSet_60 (by first | rfl | (unfold wiS; split <;> rfl)) ⟨by first | exact (fit_01 (Or.inl h1)).symm | exact (fit_01 (Or.inr h6)).symm | (rw [h23]; exact fit_2.symm) | (rw [h40, fit_3]; first | exact h52.symm | exact ((wi_01 _ _ _).resolve_left h52).symm) | exact (fit_o h1 h6 h23 h40).symm, rfl⟩
    · refine v_iload_n C dX5_isSet_9 rfl rfl ?_
      refine v_i2l C dX5_isSet_10 rfl ?_
      refine v_lconst (v := 0) C dX5_isSet_11 rfl rfl ?_
      refine v_ldc2 C dX5_isSet_12 cn_X5_95 rfl ?_
      refine v_iS C dX5_isSet_15 ms_X5_in c_X5_in rfl ml_X5_42 (rk_of rfl) rfl (Nat.le_of_ble_eq_true rfl) rfl (px_k ?_)
      refine v_eqi (in_w (a := (0)) (b := (20)) (by decide) (by decide)) ?_
      refine v_goto C 60 dX5_isSet_18 (by decide) ?_
      exact v_zret C hQ dX5_isSet_60 (by first | rfl | (unfold wiS; split <;> rfl)) ⟨by first | exact (fit_01 (Or.inl h1)).symm | exact (fit_01 (Or.inr h6)).symm | (rw [h23]; exact fit_2.symm) | (rw [h40, fit_3]; first | exact h52.symm | exact ((wi_01 _ _ _).resolve_left h52).symm) | exact (fit_o h1 h6 h23 h40).symm, rfl⟩

set_option maxRecDepth 100000 in
set_option maxHeartbeats 4000000 in
theorem c_X5_isPlace {l : Launch} {w : WC} {μ : Me} {a : Int32} : CtI l w yX5_isPlace cX5_isPlace 1 (some .boolean) (Rm 1 25) [.int a] μ (Px (wiS a 0 5) μ) := by
  refine Ct.mk (own := RX5) rfl (by decide) (Nat.le_of_ble_eq_true rfl) (fun x hxl C hQ => ?_)
  subst hxl
  refine v_iload_n C dX5_isPlace_0 rfl rfl ?_
  refine v_i2l C dX5_isPlace_1 rfl ?_
  refine v_lconst (v := 0) C dX5_isPlace_2 rfl rfl ?_
  refine v_ldc2 C dX5_isPlace_3 cn_X5_113 rfl ?_
  refine v_iS C dX5_isPlace_6 ms_X5_in c_X5_in rfl ml_X5_42 (rk_of rfl) rfl (Nat.le_of_ble_eq_true rfl) rfl (px_k ?_)
  refine v_eqi (in_w (a := (0)) (b := (5)) (by decide) (by decide)) ?_
  exact v_zret C hQ dX5_isPlace_9 (by unfold wiS; split <;> rfl) ⟨rfl, rfl⟩

set_option maxRecDepth 100000 in
set_option maxHeartbeats 4000000 in
theorem c_X5_isShort {l : Launch} {w : WC} {μ : Me} {a : Int32} : CtI l w yX5_isShort cX5_isShort 1 (some .boolean) (Rm 1 25) [.int a] μ (Px (wiS a 0 40) μ) := by
  refine Ct.mk (own := RX5) rfl (by decide) (Nat.le_of_ble_eq_true rfl) (fun x hxl C hQ => ?_)
  subst hxl
  refine v_iload_n C dX5_isShort_0 rfl rfl ?_
  refine v_i2l C dX5_isShort_1 rfl ?_
  refine v_lconst (v := 0) C dX5_isShort_2 rfl rfl ?_
  refine v_ldc2 C dX5_isShort_3 cn_X5_168 rfl ?_
  refine v_iS C dX5_isShort_6 ms_X5_in c_X5_in rfl ml_X5_42 (rk_of rfl) rfl (Nat.le_of_ble_eq_true rfl) rfl (px_k ?_)
  refine v_eqi (in_w (a := (0)) (b := (40)) (by decide) (by decide)) ?_
  exact v_zret C hQ dX5_isShort_9 (by unfold wiS; split <;> rfl) ⟨rfl, rfl⟩

set_option maxRecDepth 100000 in
set_option maxHeartbeats 4000000 in
theorem c_X5_isSheet {l : Launch} {w : WC} {μ : Me} {a : Int32} : CtI l w yX5_isSheet cX5_isSheet 1 (some .boolean) (Rm 1 25) [.int a] μ (Px (wiS a 0 3) μ) := by
  refine Ct.mk (own := RX5) rfl (by decide) (Nat.le_of_ble_eq_true rfl) (fun x hxl C hQ => ?_)
  subst hxl
  refine v_iload_n C dX5_isSheet_0 rfl rfl ?_
  refine v_i2l C dX5_isSheet_1 rfl ?_
  refine v_lconst (v := 0) C dX5_isSheet_2 rfl rfl ?_
  refine v_ldc2 C dX5_isSheet_3 cn_X5_111 rfl ?_
  refine v_iS C dX5_isSheet_6 ms_X5_in c_X5_in rfl ml_X5_42 (rk_of rfl) rfl (Nat.le_of_ble_eq_true rfl) rfl (px_k ?_)
  refine v_eqi (in_w (a := (0)) (b := (3)) (by decide) (by decide)) ?_
  exact v_zret C hQ dX5_isSheet_9 (by unfold wiS; split <;> rfl) ⟨rfl, rfl⟩

set_option maxRecDepth 100000 in
set_option maxHeartbeats 4000000 in
theorem c_X5_above {l : Launch} {w : WC} {μ : Me} {a : Int32} : CtI l w yX5_above cX5_above 1 (some .int) (Rm 0 0) [.int a] μ (Px (abM a) μ) := by
  refine Ct.mk (own := RX5) rfl (by decide) (Nat.le_of_ble_eq_true rfl) (fun x hxl C hQ => ?_)
  subst hxl
  refine v_iload_n C dX5_above_0 rfl rfl ?_
  refine v_iconst C dX5_above_1 ic_3 rfl ?_
  refine v_icmp_ne C 9 5 dX5_above_2 (by decide) rfl (fun h2 => ?_) (fun h2 => ?_)
  · refine v_iload_n C dX5_above_9 rfl rfl ?_
    refine v_iconst C dX5_above_10 ic_4 rfl ?_
    refine v_icmp_ne C 18 14 dX5_above_11 (by decide) rfl (fun h11 => ?_) (fun h11 => ?_)
    · refine v_iload_n C dX5_above_18 rfl rfl ?_
      refine v_bipush C dX5_above_19 bp_6 rfl ?_
      refine v_icmp_ne C 28 24 dX5_above_21 (by decide) rfl (fun h21 => ?_) (fun h21 => ?_)
      · refine v_iconst C dX5_above_28 ic_0 rfl ?_
        exact v_iret C hQ dX5_above_29 ⟨by simp [abM, *], rfl⟩
      · refine v_iconst C dX5_above_24 ic_1 rfl ?_
        refine v_goto C 29 dX5_above_25 (by decide) ?_
        exact v_iret C hQ dX5_above_29 ⟨by simp [abM, *], rfl⟩
    · refine v_iconst C dX5_above_14 ic_3 rfl ?_
      refine v_goto C 29 dX5_above_15 (by decide) ?_
      exact v_iret C hQ dX5_above_29 ⟨by simp [abM, *], rfl⟩
  · refine v_iconst C dX5_above_5 ic_2 rfl ?_
    refine v_goto C 29 dX5_above_6 (by decide) ?_
    exact v_iret C hQ dX5_above_29 ⟨by simp [abM, *], rfl⟩

set_option maxRecDepth 100000 in
set_option maxHeartbeats 4000000 in
theorem c_X5_set {l : Launch} {w : WC} {μ : Me} (hM : Md w) {a v : Int32} : CtI l w yX5_set cX5_set 3 (some .int) (Rm 2 46) [.ref (w_ad w 0), .int a, .int v] μ (Px (if fitS a v = 0 then -1000001 else (μ.1 1) (3 + cl a)) (if fitS a v = 0 then fnS μ 0 else up μ 1 (3 + cl a) v)) := by
  refine Ct.mk (own := RX5) rfl (by decide) (Nat.le_of_ble_eq_true rfl) (fun x hxl C hQ => ?_)
  subst hxl
  refine v_iload_n C dX5_set_0 rfl rfl ?_
  refine v_iload_n C dX5_set_1 rfl rfl ?_
  refine v_iS C dX5_set_2 ms_X5_isSet c_X5_isSet rfl ml_X5_101 (rk_of rfl) rfl (Nat.le_of_ble_eq_true rfl) rfl (px_k ?_)
  refine v_if_eq C 19 8 dX5_set_5 (by decide) rfl (fun h5 => ?_) (fun h5 => ?_)
  · refine v_aload_n C dX5_set_19 rfl rfl ?_
    refine v_iconst C dX5_set_20 ic_0 rfl ?_
    refine v_iV C dX5_set_21 mi_X5_finds (c_X5_finds hM (p := 0) (e := -1000001) (by decide) rfl (by decide)) rfl hM.1.1 hM.1.2 rfl ml_X5_108 (rk_of rfl) rfl (Nat.le_of_ble_eq_true rfl) rfl (px_k ?_)
    exact v_iret C hQ dX5_set_24 (by first | exact ⟨(if_pos h5).symm, (if_pos h5).symm⟩ | exact ⟨(if_neg h5).symm, (if_neg h5).symm⟩)
  · have q := fit_i h5
    refine v_aload_n C dX5_set_8 rfl rfl ?_
    refine v_iconst C dX5_set_9 ic_3 rfl ?_
    refine v_iload_n C dX5_set_10 rfl rfl ?_
    refine v_iadd C dX5_set_11 rfl ?_
    refine v_iload_n C dX5_set_12 rfl rfl ?_
    refine v_iV C dX5_set_13 mi_X5_becomes (c_X5_becomes hM (j := 3 + cl a) (by omega) (by rw [q.1, cl_n (by omega)]; exact nI_add 3 (cl a))) rfl hM.1.1 hM.1.2 rfl ml_X5_105 (rk_of rfl) rfl (Nat.le_of_ble_eq_true rfl) rfl (px_k ?_)
    refine v_goto C 24 dX5_set_16 (by decide) ?_
    exact v_iret C hQ dX5_set_24 (by first | exact ⟨(if_pos h5).symm, (if_pos h5).symm⟩ | exact ⟨(if_neg h5).symm, (if_neg h5).symm⟩)

set_option maxRecDepth 100000 in
set_option maxHeartbeats 4000000 in
theorem c_X5_home {l : Launch} {w : WC} {μ : Me} (hM : Md w) {a : Int32} : CtI l w yX5_home cX5_home 2 (some .int) (Rm 1 25) [.ref (w_ad w 0), .int a] μ (Px (if wiS a 0 3 = 0 then -1000001 else (μ.1 1) (3 + cl a)) (if wiS a 0 3 = 0 then fnS μ 0 else μ)) := by
  refine Ct.mk (own := RX5) rfl (by decide) (Nat.le_of_ble_eq_true rfl) (fun x hxl C hQ => ?_)
  subst hxl
  refine v_iload_n C dX5_home_0 rfl rfl ?_
  refine v_i2l C dX5_home_1 rfl ?_
  refine v_lconst (v := 0) C dX5_home_2 rfl rfl ?_
  refine v_ldc2 C dX5_home_3 cn_X5_111 rfl ?_
  refine v_iS C dX5_home_6 ms_X5_in c_X5_in rfl ml_X5_42 (rk_of rfl) rfl (Nat.le_of_ble_eq_true rfl) rfl (px_k ?_)
  refine v_eqi (in_w (a := (0)) (b := (3)) (by decide) (by decide)) ?_
  refine v_if_eq C 23 12 dX5_home_9 (by decide) rfl (fun h9 => ?_) (fun h9 => ?_)
  · refine v_aload_n C dX5_home_23 rfl rfl ?_
    refine v_iconst C dX5_home_24 ic_0 rfl ?_
    refine v_iV C dX5_home_25 mi_X5_finds (c_X5_finds hM (p := 0) (e := -1000001) (by decide) rfl (by decide)) rfl hM.1.1 hM.1.2 rfl ml_X5_108 (rk_of rfl) rfl (Nat.le_of_ble_eq_true rfl) rfl (px_k ?_)
    exact v_iret C hQ dX5_home_28 (by first | exact ⟨(if_pos h9).symm, (if_pos h9).symm⟩ | exact ⟨(if_neg h9).symm, (if_neg h9).symm⟩)
  · have q := wi_i (m := 3) (by omega) h9
    refine v_aload_n C dX5_home_12 rfl rfl ?_
    refine g_X5_d C hM.1 dX5_home_13 fl_X5_7 rfl ?_
    refine v_iconst C dX5_home_16 ic_3 rfl ?_
    refine v_iload_n C dX5_home_17 rfl rfl ?_
    refine v_iadd C dX5_home_18 rfl ?_
    refine a_I C hM.2.1 (by decide) dX5_home_19 (3 + cl a) (by rw [q.1, cl_n (by omega)]; exact nI_add 3 (cl a)) (by omega) rfl ?_
    refine v_goto C 28 dX5_home_20 (by decide) ?_
    exact v_iret C hQ dX5_home_28 (by first | exact ⟨(if_pos h9).symm, (if_pos h9).symm⟩ | exact ⟨(if_neg h9).symm, (if_neg h9).symm⟩)

set_option maxRecDepth 100000 in
set_option maxHeartbeats 4000000 in
theorem c_X5_visits {l : Launch} {w : WC} {μ : Me} (hM : Md w) {a : Int32} : CtI l w yX5_visits cX5_visits 2 (some .int) (Rm 2 45) [.ref (w_ad w 0), .int a] μ (Px (if wiS a 0 5 = 0 then -1000001 else (μ.1 1) (7 + cl a)) (if wiS a 0 5 = 0 then fnS μ 0 else μ)) := by
  refine Ct.mk (own := RX5) rfl (by decide) (Nat.le_of_ble_eq_true rfl) (fun x hxl C hQ => ?_)
  subst hxl
  refine v_iload_n C dX5_visits_0 rfl rfl ?_
  refine v_iS C dX5_visits_1 ms_X5_isPlace c_X5_isPlace rfl ml_X5_115 (rk_of rfl) rfl (Nat.le_of_ble_eq_true rfl) rfl (px_k ?_)
  refine v_if_eq C 19 7 dX5_visits_4 (by decide) rfl (fun h4 => ?_) (fun h4 => ?_)
  · refine v_aload_n C dX5_visits_19 rfl rfl ?_
    refine v_iconst C dX5_visits_20 ic_0 rfl ?_
    refine v_iV C dX5_visits_21 mi_X5_finds (c_X5_finds hM (p := 0) (e := -1000001) (by decide) rfl (by decide)) rfl hM.1.1 hM.1.2 rfl ml_X5_108 (rk_of rfl) rfl (Nat.le_of_ble_eq_true rfl) rfl (px_k ?_)
    exact v_iret C hQ dX5_visits_24 (by first | exact ⟨(if_pos h4).symm, (if_pos h4).symm⟩ | exact ⟨(if_neg h4).symm, (if_neg h4).symm⟩)
  · have q := wi_i (m := 5) (by omega) h4
    refine v_aload_n C dX5_visits_7 rfl rfl ?_
    refine g_X5_d C hM.1 dX5_visits_8 fl_X5_7 rfl ?_
    refine v_bipush C dX5_visits_11 bp_7 rfl ?_
    refine v_iload_n C dX5_visits_13 rfl rfl ?_
    refine v_iadd C dX5_visits_14 rfl ?_
    refine a_I C hM.2.1 (by decide) dX5_visits_15 (7 + cl a) (by rw [q.1, cl_n (by omega)]; exact nI_add 7 (cl a)) (by omega) rfl ?_
    refine v_goto C 24 dX5_visits_16 (by decide) ?_
    exact v_iret C hQ dX5_visits_24 (by first | exact ⟨(if_pos h4).symm, (if_pos h4).symm⟩ | exact ⟨(if_neg h4).symm, (if_neg h4).symm⟩)

set_option maxRecDepth 100000 in
set_option maxHeartbeats 4000000 in
theorem c_X5_visit {l : Launch} {w : WC} {μ : Me} (hM : Md w) {a v : Int32} : CtI l w yX5_visit cX5_visit 3 (some .int) (Rm 2 45) [.ref (w_ad w 0), .int a, .int v] μ (Px (if wiS a 0 5 = 0 ∨ wiS v 0 255 = 0 then -1000001 else (μ.1 1) (7 + cl a)) (if wiS a 0 5 = 0 ∨ wiS v 0 255 = 0 then fnS μ 0 else up μ 1 (7 + cl a) v)) := by
  refine Ct.mk (own := RX5) rfl (by decide) (Nat.le_of_ble_eq_true rfl) (fun x hxl C hQ => ?_)
  subst hxl
  refine v_iload_n C dX5_visit_0 rfl rfl ?_
  refine v_iS C dX5_visit_1 ms_X5_isPlace c_X5_isPlace rfl ml_X5_115 (rk_of rfl) rfl (Nat.le_of_ble_eq_true rfl) rfl (px_k ?_)
  refine v_if_eq C 31 7 dX5_visit_4 (by decide) rfl (fun h4 => ?_) (fun h4 => ?_)
  · refine v_aload_n C dX5_visit_31 rfl rfl ?_
    refine v_iconst C dX5_visit_32 ic_0 rfl ?_
    refine v_iV C dX5_visit_33 mi_X5_finds (c_X5_finds hM (p := 0) (e := -1000001) (by decide) rfl (by decide)) rfl hM.1.1 hM.1.2 rfl ml_X5_108 (rk_of rfl) rfl (Nat.le_of_ble_eq_true rfl) rfl (px_k ?_)
    exact v_iret C hQ dX5_visit_36 (by first | exact ⟨(if_pos (Or.inl h4)).symm, (if_pos (Or.inl h4)).symm⟩ | exact ⟨(if_pos (Or.inr h16)).symm, (if_pos (Or.inr h16)).symm⟩ | exact ⟨(if_neg (fun h => h.elim h4 h16)).symm, (if_neg (fun h => h.elim h4 h16)).symm⟩)
  · have q := wi_i (m := 5) (by omega) h4
    refine v_iload_n C dX5_visit_7 rfl rfl ?_
    refine v_i2l C dX5_visit_8 rfl ?_
    refine v_lconst (v := 0) C dX5_visit_9 rfl rfl ?_
    refine v_ldc2 C dX5_visit_10 cn_X5_118 rfl ?_
    refine v_iS C dX5_visit_13 ms_X5_in c_X5_in rfl ml_X5_42 (rk_of rfl) rfl (Nat.le_of_ble_eq_true rfl) rfl (px_k ?_)
    refine v_eqi (in_w (a := (0)) (b := (255)) (by decide) (by decide)) ?_
    refine v_if_eq C 31 19 dX5_visit_16 (by decide) rfl (fun h16 => ?_) (fun h16 => ?_)
    · refine v_aload_n C dX5_visit_31 rfl rfl ?_
      refine v_iconst C dX5_visit_32 ic_0 rfl ?_
      refine v_iV C dX5_visit_33 mi_X5_finds (c_X5_finds hM (p := 0) (e := -1000001) (by decide) rfl (by decide)) rfl hM.1.1 hM.1.2 rfl ml_X5_108 (rk_of rfl) rfl (Nat.le_of_ble_eq_true rfl) rfl (px_k ?_)
      exact v_iret C hQ dX5_visit_36 (by first | exact ⟨(if_pos (Or.inl h4)).symm, (if_pos (Or.inl h4)).symm⟩ | exact ⟨(if_pos (Or.inr h16)).symm, (if_pos (Or.inr h16)).symm⟩ | exact ⟨(if_neg (fun h => h.elim h4 h16)).symm, (if_neg (fun h => h.elim h4 h16)).symm⟩)
    · refine v_aload_n C dX5_visit_19 rfl rfl ?_
      refine v_bipush C dX5_visit_20 bp_7 rfl ?_
      refine v_iload_n C dX5_visit_22 rfl rfl ?_
      refine v_iadd C dX5_visit_23 rfl ?_
      refine v_iload_n C dX5_visit_24 rfl rfl ?_
      refine v_iV C dX5_visit_25 mi_X5_becomes (c_X5_becomes hM (j := 7 + cl a) (by omega) (by rw [q.1, cl_n (by omega)]; exact nI_add 7 (cl a))) rfl hM.1.1 hM.1.2 rfl ml_X5_105 (rk_of rfl) rfl (Nat.le_of_ble_eq_true rfl) rfl (px_k ?_)
      refine v_goto C 36 dX5_visit_28 (by decide) ?_
      exact v_iret C hQ dX5_visit_36 (by first | exact ⟨(if_pos (Or.inl h4)).symm, (if_pos (Or.inl h4)).symm⟩ | exact ⟨(if_pos (Or.inr h16)).symm, (if_pos (Or.inr h16)).symm⟩ | exact ⟨(if_neg (fun h => h.elim h4 h16)).symm, (if_neg (fun h => h.elim h4 h16)).symm⟩)

set_option maxRecDepth 100000 in
set_option maxHeartbeats 4000000 in
theorem c_X5_comes {l : Launch} {w : WC} {μ : Me} (hM : Md w) {n : Nat} (hn : n < 8) (h0 : μ.1 1 0 = nI n) {a : Int32} : CtI l w yX5_comes cX5_comes 3 (some .int) (Rm 1 23) [.ref (w_ad w 0), .int a] μ (Px (nI n) (ua μ 1 (wlD (μ.1 1) n a))) := by
  refine Ct.mk (own := RX5) rfl (by decide) (Nat.le_of_ble_eq_true rfl) (fun x hxl C hQ => ?_)
  subst hxl
  refine v_aload_n C dX5_comes_0 rfl rfl ?_
  refine g_X5_d C hM.1 dX5_comes_1 fl_X5_7 rfl ?_
  refine v_iconst C dX5_comes_4 ic_0 rfl ?_
  refine a_I C hM.2.1 (by decide) dX5_comes_5 (0) rfl (by decide) rfl ?_
  refine v_eqi (h0) ?_
  refine v_istore_n C dX5_comes_6 (by decide) rfl ?_
  refine v_aload_n C dX5_comes_7 rfl rfl ?_
  refine v_iload_n C dX5_comes_8 rfl rfl ?_
  refine v_iconst C dX5_comes_9 ic_0 rfl ?_
  refine v_iload_n C dX5_comes_10 rfl rfl ?_
  refine v_vV C dX5_comes_11 mi_X5_sets (c_X5_sets hM (i := n) (f := 0) (j := 13 + n) (by omega) (by decide) rfl rfl rfl) rfl hM.1.1 hM.1.2 rfl ml_X5_87 (rk_of rfl) rfl (Nat.le_of_ble_eq_true rfl) rfl (pv_k ?_)
  refine v_aload_n C dX5_comes_14 rfl rfl ?_
  refine v_iload_n C dX5_comes_15 rfl rfl ?_
  refine v_iconst C dX5_comes_16 ic_1 rfl ?_
  refine v_bipush C dX5_comes_17 bp_50 rfl ?_
  refine v_vV C dX5_comes_19 mi_X5_sets (c_X5_sets hM (i := n) (f := 1) (j := 21 + n) (by omega) (by decide) rfl rfl rfl) rfl hM.1.1 hM.1.2 rfl ml_X5_87 (rk_of rfl) rfl (Nat.le_of_ble_eq_true rfl) rfl (pv_k ?_)
  refine v_aload_n C dX5_comes_22 rfl rfl ?_
  refine v_iload_n C dX5_comes_23 rfl rfl ?_
  refine v_iconst C dX5_comes_24 ic_2 rfl ?_
  refine v_iconst C dX5_comes_25 ic_m1 rfl ?_
  refine v_vV C dX5_comes_26 mi_X5_sets (c_X5_sets hM (i := n) (f := 2) (j := 29 + n) (by omega) (by decide) rfl rfl rfl) rfl hM.1.1 hM.1.2 rfl ml_X5_87 (rk_of rfl) rfl (Nat.le_of_ble_eq_true rfl) rfl (pv_k ?_)
  refine v_aload_n C dX5_comes_29 rfl rfl ?_
  refine v_iload_n C dX5_comes_30 rfl rfl ?_
  refine v_iconst C dX5_comes_31 ic_3 rfl ?_
  refine v_iconst C dX5_comes_32 ic_0 rfl ?_
  refine v_vV C dX5_comes_33 mi_X5_sets (c_X5_sets hM (i := n) (f := 3) (j := 37 + n) (by omega) (by decide) rfl rfl rfl) rfl hM.1.1 hM.1.2 rfl ml_X5_87 (rk_of rfl) rfl (Nat.le_of_ble_eq_true rfl) rfl (pv_k ?_)
  refine v_aload_n C dX5_comes_36 rfl rfl ?_
  refine v_iload_n C dX5_comes_37 rfl rfl ?_
  refine v_iconst C dX5_comes_38 ic_4 rfl ?_
  refine v_iconst C dX5_comes_39 ic_0 rfl ?_
  refine v_vV C dX5_comes_40 mi_X5_sets (c_X5_sets hM (i := n) (f := 4) (j := 45 + n) (by omega) (by decide) rfl rfl rfl) rfl hM.1.1 hM.1.2 rfl ml_X5_87 (rk_of rfl) rfl (Nat.le_of_ble_eq_true rfl) rfl (pv_k ?_)
  refine v_aload_n C dX5_comes_43 rfl rfl ?_
  refine g_X5_d C hM.1 dX5_comes_44 fl_X5_7 rfl ?_
  refine v_iconst C dX5_comes_47 ic_0 rfl ?_
  refine v_dup2 C dX5_comes_48 rfl rfl rfl ?_
  refine a_I C hM.2.1 (by decide) dX5_comes_49 (0) rfl (by decide) rfl ?_
  refine v_iconst C dX5_comes_50 ic_1 rfl ?_
  refine v_iadd C dX5_comes_51 rfl ?_
  refine s_I C hM.2.1 (by decide) dX5_comes_52 (0) rfl (by decide) rfl ?_
  refine v_iload_n C dX5_comes_53 rfl rfl ?_
  exact v_iret C hQ dX5_comes_54 ⟨rfl, wl_mem h0⟩

set_option maxRecDepth 100000 in
set_option maxHeartbeats 4000000 in
theorem c_X5_resident {l : Launch} {w : WC} {μ : Me} (hM : Md w) (hI : IvD (μ.1 1)) {a : Int32} : CtI l w yX5_resident cX5_resident 2 (some .int) (Rm 2 45) [.ref (w_ad w 0), .int a] μ (Px (if wiS a 0 6 = 0 then -1000001 else if dn (μ.1 1) < 8 then nI (dn (μ.1 1)) else -1000002) (if wiS a 0 6 = 0 then fnS μ 0 else if dn (μ.1 1) < 8 then ua μ 1 (wlD (μ.1 1) (dn (μ.1 1)) a) else fnS μ 1)) := by
  refine Ct.mk (own := RX5) rfl (by decide) (Nat.le_of_ble_eq_true rfl) (fun x hxl C hQ => ?_)
  subst hxl
  have hn := hI.n.1
  have h0 := hI.n.2
  refine v_iload_n C dX5_resident_0 rfl rfl ?_
  refine v_i2l C dX5_resident_1 rfl ?_
  refine v_lconst (v := 0) C dX5_resident_2 rfl rfl ?_
  refine v_ldc2 C dX5_resident_3 cn_X5_120 rfl ?_
  refine v_iS C dX5_resident_6 ms_X5_in c_X5_in rfl ml_X5_42 (rk_of rfl) rfl (Nat.le_of_ble_eq_true rfl) rfl (px_k ?_)
  refine v_eqi (in_w (a := (0)) (b := (6)) (by decide) (by decide)) ?_
  refine v_if_ne C 18 12 dX5_resident_9 (by decide) rfl (fun h9 => ?_) (fun h9 => ?_)
  · refine v_aload_n C dX5_resident_18 rfl rfl ?_
    refine g_X5_d C hM.1 dX5_resident_19 fl_X5_7 rfl ?_
    refine v_iconst C dX5_resident_22 ic_0 rfl ?_
    refine a_I C hM.2.1 (by decide) dX5_resident_23 (0) rfl (by decide) rfl ?_
    refine v_eqi (h0) ?_
    refine v_bipush C dX5_resident_24 bp_8 rfl ?_
    refine v_icmp_ne C 37 29 dX5_resident_26 (by decide) rfl (fun h26 => ?_) (fun h26 => ?_)
    · have q : dn (μ.1 1) < 8 := by rcases Nat.lt_or_ge (dn (μ.1 1)) 8 with y | y; exact y; exact absurd (show nI (dn (μ.1 1)) = 8 by rw [show dn (μ.1 1) = 8 by omega]; rfl) h26
      refine v_aload_n C dX5_resident_37 rfl rfl ?_
      refine v_iload_n C dX5_resident_38 rfl rfl ?_
      refine v_iV C dX5_resident_39 mi_X5_comes (c_X5_comes hM q h0) rfl hM.1.1 hM.1.2 rfl ml_X5_122 (rk_of rfl) rfl (Nat.le_of_ble_eq_true rfl) rfl (px_k ?_)
      exact v_iret C hQ dX5_resident_42 ⟨by simp [h9, q], by simp [h9, q]⟩
    · have q : ¬ dn (μ.1 1) < 8 := by have z := (nI_eq (a := dn (μ.1 1)) (b := 8) (by omega) (by omega)).mp h26; omega
      refine v_aload_n C dX5_resident_29 rfl rfl ?_
      refine v_iconst C dX5_resident_30 ic_1 rfl ?_
      refine v_iV C dX5_resident_31 mi_X5_finds (c_X5_finds hM (p := 1) (e := -1000002) (by decide) rfl (by decide)) rfl hM.1.1 hM.1.2 rfl ml_X5_108 (rk_of rfl) rfl (Nat.le_of_ble_eq_true rfl) rfl (px_k ?_)
      refine v_goto C 42 dX5_resident_34 (by decide) ?_
      exact v_iret C hQ dX5_resident_42 ⟨by simp [h9, q], by simp [h9, q]⟩
  · refine v_aload_n C dX5_resident_12 rfl rfl ?_
    refine v_iconst C dX5_resident_13 ic_0 rfl ?_
    refine v_iV C dX5_resident_14 mi_X5_finds (c_X5_finds hM (p := 0) (e := -1000001) (by decide) rfl (by decide)) rfl hM.1.1 hM.1.2 rfl ml_X5_108 (rk_of rfl) rfl (Nat.le_of_ble_eq_true rfl) rfl (px_k ?_)
    exact v_iret C hQ dX5_resident_17 ⟨(if_pos h9).symm, (if_pos h9).symm⟩

set_option maxRecDepth 100000 in
set_option maxHeartbeats 4000000 in
theorem c_X5_of {l : Launch} {w : WC} {μ : Me} (hM : Md w) (hI : IvD (μ.1 1)) {r t : Int32} : CtI l w yX5_of cX5_of 3 (some .int) (Rm 2 46) [.ref (w_ad w 0), .int r, .int t] μ (Px (if wiS r 0 ((μ.1 1) 0 - 1) = 0 ∨ wiS t 0 8 = 0 then -1000001 else ofS (μ.1 1) (cl r) t) (if wiS r 0 ((μ.1 1) 0 - 1) = 0 ∨ wiS t 0 8 = 0 then fnS μ 0 else μ)) := by
  refine Ct.mk (own := RX5) rfl (by decide) (Nat.le_of_ble_eq_true rfl) (fun x hxl C hQ => ?_)
  subst hxl
  have hn := hI.n.1
  have h0 := hI.n.2
  refine v_aload_n C dX5_of_0 rfl rfl ?_
  refine v_iload_n C dX5_of_1 rfl rfl ?_
  refine v_iV C dX5_of_2 mi_X5_isResident (c_X5_isResident hM) rfl hM.1.1 hM.1.2 rfl ml_X5_125 (rk_of rfl) rfl (Nat.le_of_ble_eq_true rfl) rfl (px_k ?_)
  refine v_if_eq C 20 8 dX5_of_5 (by decide) rfl (fun h5 => ?_) (fun h5 => ?_)
  · refine v_aload_n C dX5_of_20 rfl rfl ?_
    refine v_iconst C dX5_of_21 ic_0 rfl ?_
    refine v_iV C dX5_of_22 mi_X5_finds (c_X5_finds hM (p := 0) (e := -1000001) (by decide) rfl (by decide)) rfl hM.1.1 hM.1.2 rfl ml_X5_108 (rk_of rfl) rfl (Nat.le_of_ble_eq_true rfl) rfl (px_k ?_)
    exact v_iret C hQ dX5_of_25 (by first | exact ⟨(if_pos (Or.inl h5)).symm, (if_pos (Or.inl h5)).symm⟩ | exact ⟨(if_pos (Or.inr h17)).symm, (if_pos (Or.inr h17)).symm⟩)
  · refine v_iload_n C dX5_of_8 rfl rfl ?_
    refine v_i2l C dX5_of_9 rfl ?_
    refine v_lconst (v := 0) C dX5_of_10 rfl rfl ?_
    refine v_ldc2 C dX5_of_11 cn_X5_97 rfl ?_
    refine v_iS C dX5_of_14 ms_X5_in c_X5_in rfl ml_X5_42 (rk_of rfl) rfl (Nat.le_of_ble_eq_true rfl) rfl (px_k ?_)
    refine v_eqi (in_w (a := (0)) (b := (8)) (by decide) (by decide)) ?_
    refine v_if_ne C 26 20 dX5_of_17 (by decide) rfl (fun h17 => ?_) (fun h17 => ?_)
    · have q := has_i hn h0 h5
      have q2 := wi_i (m := 8) (by omega) h17
      refine v_iload_n C dX5_of_26 rfl rfl ?_
      refine v_case (5) (fun e27_5 => ?_) (fun n27_5 => ?_)
      · refine v_tableIn C 56 dX5_of_27 e27_5 (by decide) (by decide) rfl (by decide) ?_
        refine v_aload_n C dX5_of_56 rfl rfl ?_
        refine v_iload_n C dX5_of_57 rfl rfl ?_
        refine v_iV C dX5_of_58 mi_X5_seats (c_X5_seats hM (i := cl r) (by omega) q.1) rfl hM.1.1 hM.1.2 rfl ml_X5_54 (rk_of rfl) rfl (Nat.le_of_ble_eq_true rfl) rfl (px_k ?_)
        exact v_iret C hQ dX5_of_61 ⟨by rw [if_neg (fun h => h.elim h5 h17), e27_5, ofS_5], (if_neg (fun h => h.elim h5 h17)).symm⟩
      refine v_case (6) (fun e27_6 => ?_) (fun n27_6 => ?_)
      · refine v_tableIn C 62 dX5_of_27 e27_6 (by decide) (by decide) rfl (by decide) ?_
        refine v_aload_n C dX5_of_62 rfl rfl ?_
        refine v_iload_n C dX5_of_63 rfl rfl ?_
        refine v_iV C dX5_of_64 mi_X5_gains (c_X5_gains hM (i := cl r) (by omega) q.1 hI.2.2.2.2.2.1) rfl hM.1.1 hM.1.2 rfl ml_X5_84 (rk_of rfl) rfl (Nat.le_of_ble_eq_true rfl) rfl (px_k ?_)
        exact v_iret C hQ dX5_of_67 ⟨by rw [if_neg (fun h => h.elim h5 h17), e27_6, ofS_6], (if_neg (fun h => h.elim h5 h17)).symm⟩
      refine v_case (7) (fun e27_7 => ?_) (fun n27_7 => ?_)
      · refine v_tableIn C 68 dX5_of_27 e27_7 (by decide) (by decide) rfl (by decide) ?_
        refine v_aload_n C dX5_of_68 rfl rfl ?_
        refine v_iload_n C dX5_of_69 rfl rfl ?_
        refine v_iconst C dX5_of_70 ic_0 rfl ?_
        refine v_iV C dX5_of_71 mi_X5_loses (c_X5_loses hM (i := cl r) (by omega) q.1) rfl hM.1.1 hM.1.2 rfl ml_X5_81 (rk_of rfl) rfl (Nat.le_of_ble_eq_true rfl) rfl (px_k ?_)
        exact v_iret C hQ dX5_of_74 ⟨by rw [if_neg (fun h => h.elim h5 h17), e27_7, ofS_7], (if_neg (fun h => h.elim h5 h17)).symm⟩
      refine v_case (8) (fun e27_8 => ?_) (fun n27_8 => ?_)
      · refine v_tableIn C 75 dX5_of_27 e27_8 (by decide) (by decide) rfl (by decide) ?_
        refine v_aload_n C dX5_of_75 rfl rfl ?_
        refine v_iload_n C dX5_of_76 rfl rfl ?_
        refine v_iV C dX5_of_77 mi_X5_shares (c_X5_shares hM (i := cl r) (by omega) q.1) rfl hM.1.1 hM.1.2 rfl ml_X5_58 (rk_of rfl) rfl (Nat.le_of_ble_eq_true rfl) rfl (px_k ?_)
        refine v_if_eq C 87 83 dX5_of_80 (by decide) rfl (fun h80 => ?_) (fun h80 => ?_)
        · refine v_iconst C dX5_of_87 ic_0 rfl ?_
          exact v_iret C hQ dX5_of_88 ⟨by rw [if_neg (fun h => h.elim h5 h17), e27_8, ofS_8]; first | exact h80.symm | exact (sh_01.mp h80).symm, (if_neg (fun h => h.elim h5 h17)).symm⟩
        · refine v_iconst C dX5_of_83 ic_1 rfl ?_
          refine v_goto C 88 dX5_of_84 (by decide) ?_
          exact v_iret C hQ dX5_of_88 ⟨by rw [if_neg (fun h => h.elim h5 h17), e27_8, ofS_8]; first | exact h80.symm | exact (sh_01.mp h80).symm, (if_neg (fun h => h.elim h5 h17)).symm⟩
      refine v_tableOut C 89 dX5_of_27 (by have z5 := lv_neT n27_5 (a := 5) (by decide); have z6 := lv_neT n27_6 (a := 6) (by decide); have z7 := lv_neT n27_7 (a := 7) (by decide); have z8 := lv_neT n27_8 (a := 8) (by decide); omega) (by decide) ?_
      refine v_aload_n C dX5_of_89 rfl rfl ?_
      refine v_iload_n C dX5_of_90 rfl rfl ?_
      refine v_iload_n C dX5_of_91 rfl rfl ?_
      refine v_iV C dX5_of_92 mi_X5_its (c_X5_its hM (i := cl r) (f := cl t) (j := 13 + 8 * cl t + cl r) (by omega) (by have z5 : cl t ≠ 5 := (fun e => n27_5 (by rw [q2.1, e]; rfl)); have z6 : cl t ≠ 6 := (fun e => n27_6 (by rw [q2.1, e]; rfl)); have z7 : cl t ≠ 7 := (fun e => n27_7 (by rw [q2.1, e]; rfl)); have z8 : cl t ≠ 8 := (fun e => n27_8 (by rw [q2.1, e]; rfl)); omega) q.1 q2.1 rfl) rfl hM.1.1 hM.1.2 rfl ml_X5_46 (rk_of rfl) rfl (Nat.le_of_ble_eq_true rfl) rfl (px_k ?_)
      exact v_iret C hQ dX5_of_95 ⟨by rw [if_neg (fun h => h.elim h5 h17)]; unfold ofS; rw [if_neg n27_5, if_neg n27_6, if_neg n27_7, if_neg n27_8], (if_neg (fun h => h.elim h5 h17)).symm⟩
    · refine v_aload_n C dX5_of_20 rfl rfl ?_
      refine v_iconst C dX5_of_21 ic_0 rfl ?_
      refine v_iV C dX5_of_22 mi_X5_finds (c_X5_finds hM (p := 0) (e := -1000001) (by decide) rfl (by decide)) rfl hM.1.1 hM.1.2 rfl ml_X5_108 (rk_of rfl) rfl (Nat.le_of_ble_eq_true rfl) rfl (px_k ?_)
      exact v_iret C hQ dX5_of_25 (by first | exact ⟨(if_pos (Or.inl h5)).symm, (if_pos (Or.inl h5)).symm⟩ | exact ⟨(if_pos (Or.inr h17)).symm, (if_pos (Or.inr h17)).symm⟩)

set_option maxRecDepth 100000 in
set_option maxHeartbeats 4000000 in
theorem c_X5_isIts {l : Launch} {w : WC} {μ : Me} (hM : Md w) (hI : IvD (μ.1 1)) {r t v : Int32} (hr : ∃ k, k < 8 ∧ r = nI k) (ht : ¬ wiS t 0 4 = 0) : CtI l w yX5_isIts cX5_isIts 4 (some .boolean) (Rm 1 25) [.ref (w_ad w 0), .int r, .int t, .int v] μ (Px (ffS ((μ.1 1) 0) r t v) μ) := by
  refine Ct.mk (own := RX5) rfl (by decide) (Nat.le_of_ble_eq_true rfl) (fun x hxl C hQ => ?_)
  subst hxl
  have hn := hI.n.1
  have h0 := hI.n.2
  have q := wi_i (m := 4) (by omega) ht
  refine v_iload_n C dX5_isIts_0 rfl rfl ?_
  refine v_if_ne C 16 4 dX5_isIts_1 (by decide) rfl (fun h1 => ?_) (fun h1 => ?_)
  · refine v_iload_n C dX5_isIts_16 rfl rfl ?_
    refine v_iconst C dX5_isIts_17 ic_1 rfl ?_
    refine v_icmp_ne C 33 21 dX5_isIts_18 (by decide) rfl (fun h18 => ?_) (fun h18 => ?_)
    · refine v_iload_n C dX5_isIts_33 rfl rfl ?_
      refine v_iconst C dX5_isIts_34 ic_2 rfl ?_
      refine v_icmp_ne C 71 38 dX5_isIts_35 (by decide) rfl (fun h35 => ?_) (fun h35 => ?_)
      · refine v_iload_n C dX5_isIts_71 rfl rfl ?_
        refine v_i2l C dX5_isIts_72 rfl ?_
        refine v_lconst (v := 0) C dX5_isIts_73 rfl rfl ?_
        refine v_ldc2 C dX5_isIts_74 cn_X5_132 rfl ?_
        refine v_iS C dX5_isIts_77 ms_X5_in c_X5_in rfl ml_X5_42 (rk_of rfl) rfl (Nat.le_of_ble_eq_true rfl) rfl (px_k ?_)
        refine v_eqi (in_w (a := (0)) (b := (9999)) (by decide) (by decide)) ?_
        exact v_zret C hQ dX5_isIts_80 (by first | rfl | (unfold wiS; split <;> rfl)) ⟨by first | (rw [h1]; exact (if_pos rfl).symm) | (rw [h18]; unfold ffS; rw [if_neg (by decide), if_pos rfl]) | (rw [h35, ff_2 hn h0 hr]; first | (rw [if_pos h55]; done) | (rw [if_neg h55, if_pos h60]; done) | (rw [if_neg h55, if_neg h60]; done)) | (unfold ffS; rw [if_neg h1, if_neg h18, if_neg h35, if_pos]; have z0 : cl t ≠ 0 := (fun e => h1 (by rw [q.1, e]; rfl)); have z1 : cl t ≠ 1 := (fun e => h18 (by rw [q.1, e]; rfl)); have z2 : cl t ≠ 2 := (fun e => h35 (by rw [q.1, e]; rfl)); have z : cl t = 3 ∨ cl t = 4 := (by omega); exact z.elim (fun e => Or.inl (by rw [q.1, e]; rfl)) (fun e => Or.inr (by rw [q.1, e]; rfl))), rfl⟩
      · refine v_iload_n C dX5_isIts_38 rfl rfl ?_
        refine v_i2l C dX5_isIts_39 rfl ?_
        refine v_ldc2 C dX5_isIts_40 cn_X5_130 rfl ?_
        refine v_aload_n C dX5_isIts_43 rfl rfl ?_
        refine g_X5_d C hM.1 dX5_isIts_44 fl_X5_7 rfl ?_
        refine v_iconst C dX5_isIts_47 ic_0 rfl ?_
        refine a_I C hM.2.1 (by decide) dX5_isIts_48 (0) rfl (by decide) rfl ?_
        refine v_iconst C dX5_isIts_49 ic_1 rfl ?_
        refine v_isub C dX5_isIts_50 rfl ?_
        refine v_i2l C dX5_isIts_51 rfl ?_
        refine v_iS C dX5_isIts_52 ms_X5_in c_X5_in rfl ml_X5_42 (rk_of rfl) rfl (Nat.le_of_ble_eq_true rfl) rfl (px_k ?_)
        refine v_eqi (in_w (a := (-1)) (b := _) (by decide) rfl) ?_
        refine v_if_eq C 67 58 dX5_isIts_55 (by decide) rfl (fun h55 => ?_) (fun h55 => ?_)
        · refine v_iconst C dX5_isIts_67 ic_0 rfl ?_
          refine v_goto C 80 dX5_isIts_68 (by decide) ?_
          exact v_zret C hQ dX5_isIts_80 (by first | rfl | (unfold wiS; split <;> rfl)) ⟨by first | (rw [h1]; exact (if_pos rfl).symm) | (rw [h18]; unfold ffS; rw [if_neg (by decide), if_pos rfl]) | (rw [h35, ff_2 hn h0 hr]; first | (rw [if_pos h55]; done) | (rw [if_neg h55, if_pos h60]; done) | (rw [if_neg h55, if_neg h60]; done)) | (unfold ffS; rw [if_neg h1, if_neg h18, if_neg h35, if_pos]; have z0 : cl t ≠ 0 := (fun e => h1 (by rw [q.1, e]; rfl)); have z1 : cl t ≠ 1 := (fun e => h18 (by rw [q.1, e]; rfl)); have z2 : cl t ≠ 2 := (fun e => h35 (by rw [q.1, e]; rfl)); have z : cl t = 3 ∨ cl t = 4 := (by omega); exact z.elim (fun e => Or.inl (by rw [q.1, e]; rfl)) (fun e => Or.inr (by rw [q.1, e]; rfl))), rfl⟩
        · refine v_iload_n C dX5_isIts_58 rfl rfl ?_
          refine v_iload_n C dX5_isIts_59 rfl rfl ?_
          refine v_icmp_eq C 67 63 dX5_isIts_60 (by decide) rfl (fun h60 => ?_) (fun h60 => ?_)
          · refine v_iconst C dX5_isIts_67 ic_0 rfl ?_
            refine v_goto C 80 dX5_isIts_68 (by decide) ?_
            exact v_zret C hQ dX5_isIts_80 (by first | rfl | (unfold wiS; split <;> rfl)) ⟨by first | (rw [h1]; exact (if_pos rfl).symm) | (rw [h18]; unfold ffS; rw [if_neg (by decide), if_pos rfl]) | (rw [h35, ff_2 hn h0 hr]; first | (rw [if_pos h55]; done) | (rw [if_neg h55, if_pos h60]; done) | (rw [if_neg h55, if_neg h60]; done)) | (unfold ffS; rw [if_neg h1, if_neg h18, if_neg h35, if_pos]; have z0 : cl t ≠ 0 := (fun e => h1 (by rw [q.1, e]; rfl)); have z1 : cl t ≠ 1 := (fun e => h18 (by rw [q.1, e]; rfl)); have z2 : cl t ≠ 2 := (fun e => h35 (by rw [q.1, e]; rfl)); have z : cl t = 3 ∨ cl t = 4 := (by omega); exact z.elim (fun e => Or.inl (by rw [q.1, e]; rfl)) (fun e => Or.inr (by rw [q.1, e]; rfl))), rfl⟩
          · refine v_iconst C dX5_isIts_63 ic_1 rfl ?_
            refine v_goto C 80 dX5_isIts_64 (by decide) ?_
            exact v_zret C hQ dX5_isIts_80 (by first | rfl | (unfold wiS; split <;> rfl)) ⟨by first | (rw [h1]; exact (if_pos rfl).symm) | (rw [h18]; unfold ffS; rw [if_neg (by decide), if_pos rfl]) | (rw [h35, ff_2 hn h0 hr]; first | (rw [if_pos h55]; done) | (rw [if_neg h55, if_pos h60]; done) | (rw [if_neg h55, if_neg h60]; done)) | (unfold ffS; rw [if_neg h1, if_neg h18, if_neg h35, if_pos]; have z0 : cl t ≠ 0 := (fun e => h1 (by rw [q.1, e]; rfl)); have z1 : cl t ≠ 1 := (fun e => h18 (by rw [q.1, e]; rfl)); have z2 : cl t ≠ 2 := (fun e => h35 (by rw [q.1, e]; rfl)); have z : cl t = 3 ∨ cl t = 4 := (by omega); exact z.elim (fun e => Or.inl (by rw [q.1, e]; rfl)) (fun e => Or.inr (by rw [q.1, e]; rfl))), rfl⟩
    · refine v_iload_n C dX5_isIts_21 rfl rfl ?_
      refine v_i2l C dX5_isIts_22 rfl ?_
      refine v_lconst (v := 0) C dX5_isIts_23 rfl rfl ?_
      refine v_ldc2 C dX5_isIts_24 cn_X5_128 rfl ?_
      refine v_iS C dX5_isIts_27 ms_X5_in c_X5_in rfl ml_X5_42 (rk_of rfl) rfl (Nat.le_of_ble_eq_true rfl) rfl (px_k ?_)
      refine v_eqi (in_w (a := (0)) (b := (99)) (by decide) (by decide)) ?_
      refine v_goto C 80 dX5_isIts_30 (by decide) ?_
      exact v_zret C hQ dX5_isIts_80 (by first | rfl | (unfold wiS; split <;> rfl)) ⟨by first | (rw [h1]; exact (if_pos rfl).symm) | (rw [h18]; unfold ffS; rw [if_neg (by decide), if_pos rfl]) | (rw [h35, ff_2 hn h0 hr]; first | (rw [if_pos h55]; done) | (rw [if_neg h55, if_pos h60]; done) | (rw [if_neg h55, if_neg h60]; done)) | (unfold ffS; rw [if_neg h1, if_neg h18, if_neg h35, if_pos]; have z0 : cl t ≠ 0 := (fun e => h1 (by rw [q.1, e]; rfl)); have z1 : cl t ≠ 1 := (fun e => h18 (by rw [q.1, e]; rfl)); have z2 : cl t ≠ 2 := (fun e => h35 (by rw [q.1, e]; rfl)); have z : cl t = 3 ∨ cl t = 4 := (by omega); exact z.elim (fun e => Or.inl (by rw [q.1, e]; rfl)) (fun e => Or.inr (by rw [q.1, e]; rfl))), rfl⟩
  · refine v_iload_n C dX5_isIts_4 rfl rfl ?_
    refine v_i2l C dX5_isIts_5 rfl ?_
    refine v_lconst (v := 0) C dX5_isIts_6 rfl rfl ?_
    refine v_ldc2 C dX5_isIts_7 cn_X5_120 rfl ?_
    refine v_iS C dX5_isIts_10 ms_X5_in c_X5_in rfl ml_X5_42 (rk_of rfl) rfl (Nat.le_of_ble_eq_true rfl) rfl (px_k ?_)
    refine v_eqi (in_w (a := (0)) (b := (6)) (by decide) (by decide)) ?_
    refine v_goto C 80 dX5_isIts_13 (by decide) ?_
    exact v_zret C hQ dX5_isIts_80 (by first | rfl | (unfold wiS; split <;> rfl)) ⟨by first | (rw [h1]; exact (if_pos rfl).symm) | (rw [h18]; unfold ffS; rw [if_neg (by decide), if_pos rfl]) | (rw [h35, ff_2 hn h0 hr]; first | (rw [if_pos h55]; done) | (rw [if_neg h55, if_pos h60]; done) | (rw [if_neg h55, if_neg h60]; done)) | (unfold ffS; rw [if_neg h1, if_neg h18, if_neg h35, if_pos]; have z0 : cl t ≠ 0 := (fun e => h1 (by rw [q.1, e]; rfl)); have z1 : cl t ≠ 1 := (fun e => h18 (by rw [q.1, e]; rfl)); have z2 : cl t ≠ 2 := (fun e => h35 (by rw [q.1, e]; rfl)); have z : cl t = 3 ∨ cl t = 4 := (by omega); exact z.elim (fun e => Or.inl (by rw [q.1, e]; rfl)) (fun e => Or.inr (by rw [q.1, e]; rfl))), rfl⟩

set_option maxRecDepth 100000 in
set_option maxHeartbeats 4000000 in
theorem c_X5_change {l : Launch} {w : WC} {μ : Me} (hM : Md w) (hI : IvD (μ.1 1)) {r t v : Int32} : CtI l w yX5_change cX5_change 4 (some .int) (Rm 2 48) [.ref (w_ad w 0), .int r, .int t, .int v] μ (Px (if wiS r 0 ((μ.1 1) 0 - 1) = 0 ∨ ffS ((μ.1 1) 0) r t v = 0 then -1000001 else (μ.1 1) (13 + 8 * cl t + cl r)) (if wiS r 0 ((μ.1 1) 0 - 1) = 0 ∨ ffS ((μ.1 1) 0) r t v = 0 then fnS μ 0 else up μ 1 (13 + 8 * cl t + cl r) v)) := by
  refine Ct.mk (own := RX5) rfl (by decide) (Nat.le_of_ble_eq_true rfl) (fun x hxl C hQ => ?_)
  subst hxl
  have hn := hI.n.1
  have h0 := hI.n.2
  refine v_aload_n C dX5_change_0 rfl rfl ?_
  refine v_iload_n C dX5_change_1 rfl rfl ?_
  refine v_iV C dX5_change_2 mi_X5_isResident (c_X5_isResident hM) rfl hM.1.1 hM.1.2 rfl ml_X5_125 (rk_of rfl) rfl (Nat.le_of_ble_eq_true rfl) rfl (px_k ?_)
  refine v_if_eq C 47 8 dX5_change_5 (by decide) rfl (fun h5 => ?_) (fun h5 => ?_)
  · refine v_aload_n C dX5_change_47 rfl rfl ?_
    refine v_iconst C dX5_change_48 ic_0 rfl ?_
    refine v_iV C dX5_change_49 mi_X5_finds (c_X5_finds hM (p := 0) (e := -1000001) (by decide) rfl (by decide)) rfl hM.1.1 hM.1.2 rfl ml_X5_108 (rk_of rfl) rfl (Nat.le_of_ble_eq_true rfl) rfl (px_k ?_)
    exact v_iret C hQ dX5_change_52 (by first | exact ⟨(if_pos (Or.inl h5)).symm, (if_pos (Or.inl h5)).symm⟩ | exact ⟨(if_pos (Or.inr (ff_o h17))).symm, (if_pos (Or.inr (ff_o h17))).symm⟩ | exact ⟨(if_pos (Or.inr h27)).symm, (if_pos (Or.inr h27)).symm⟩ | exact ⟨(if_neg (fun h => h.elim h5 h27)).symm, (if_neg (fun h => h.elim h5 h27)).symm⟩)
  · have q := has_i hn h0 h5
    refine v_iload_n C dX5_change_8 rfl rfl ?_
    refine v_i2l C dX5_change_9 rfl ?_
    refine v_lconst (v := 0) C dX5_change_10 rfl rfl ?_
    refine v_ldc2 C dX5_change_11 cn_X5_134 rfl ?_
    refine v_iS C dX5_change_14 ms_X5_in c_X5_in rfl ml_X5_42 (rk_of rfl) rfl (Nat.le_of_ble_eq_true rfl) rfl (px_k ?_)
    refine v_eqi (in_w (a := (0)) (b := (4)) (by decide) (by decide)) ?_
    refine v_if_eq C 47 20 dX5_change_17 (by decide) rfl (fun h17 => ?_) (fun h17 => ?_)
    · refine v_aload_n C dX5_change_47 rfl rfl ?_
      refine v_iconst C dX5_change_48 ic_0 rfl ?_
      refine v_iV C dX5_change_49 mi_X5_finds (c_X5_finds hM (p := 0) (e := -1000001) (by decide) rfl (by decide)) rfl hM.1.1 hM.1.2 rfl ml_X5_108 (rk_of rfl) rfl (Nat.le_of_ble_eq_true rfl) rfl (px_k ?_)
      exact v_iret C hQ dX5_change_52 (by first | exact ⟨(if_pos (Or.inl h5)).symm, (if_pos (Or.inl h5)).symm⟩ | exact ⟨(if_pos (Or.inr (ff_o h17))).symm, (if_pos (Or.inr (ff_o h17))).symm⟩ | exact ⟨(if_pos (Or.inr h27)).symm, (if_pos (Or.inr h27)).symm⟩ | exact ⟨(if_neg (fun h => h.elim h5 h27)).symm, (if_neg (fun h => h.elim h5 h27)).symm⟩)
    · have q2 := wi_i (m := 4) (by omega) h17
      refine v_aload_n C dX5_change_20 rfl rfl ?_
      refine v_iload_n C dX5_change_21 rfl rfl ?_
      refine v_iload_n C dX5_change_22 rfl rfl ?_
      refine v_iload_n C dX5_change_23 rfl rfl ?_
      refine v_iV C dX5_change_24 mi_X5_isIts (c_X5_isIts hM hI ⟨cl r, by omega, q.1⟩ h17) rfl hM.1.1 hM.1.2 rfl ml_X5_136 (rk_of rfl) rfl (Nat.le_of_ble_eq_true rfl) rfl (px_k ?_)
      refine v_if_eq C 47 30 dX5_change_27 (by decide) rfl (fun h27 => ?_) (fun h27 => ?_)
      · refine v_aload_n C dX5_change_47 rfl rfl ?_
        refine v_iconst C dX5_change_48 ic_0 rfl ?_
        refine v_iV C dX5_change_49 mi_X5_finds (c_X5_finds hM (p := 0) (e := -1000001) (by decide) rfl (by decide)) rfl hM.1.1 hM.1.2 rfl ml_X5_108 (rk_of rfl) rfl (Nat.le_of_ble_eq_true rfl) rfl (px_k ?_)
        exact v_iret C hQ dX5_change_52 (by first | exact ⟨(if_pos (Or.inl h5)).symm, (if_pos (Or.inl h5)).symm⟩ | exact ⟨(if_pos (Or.inr (ff_o h17))).symm, (if_pos (Or.inr (ff_o h17))).symm⟩ | exact ⟨(if_pos (Or.inr h27)).symm, (if_pos (Or.inr h27)).symm⟩ | exact ⟨(if_neg (fun h => h.elim h5 h27)).symm, (if_neg (fun h => h.elim h5 h27)).symm⟩)
      · refine v_aload_n C dX5_change_30 rfl rfl ?_
        refine v_bipush C dX5_change_31 bp_13 rfl ?_
        refine v_bipush C dX5_change_33 bp_8 rfl ?_
        refine v_iload_n C dX5_change_35 rfl rfl ?_
        refine v_imul C dX5_change_36 rfl ?_
        refine v_iadd C dX5_change_37 rfl ?_
        refine v_iload_n C dX5_change_38 rfl rfl ?_
        refine v_iadd C dX5_change_39 rfl ?_
        refine v_iload_n C dX5_change_40 rfl rfl ?_
        refine v_iV C dX5_change_41 mi_X5_becomes (c_X5_becomes hM (j := 13 + 8 * cl t + cl r) (by omega) (by rw [q2.1, q.1, ix_n, cl_n (by omega), cl_n (by omega)])) rfl hM.1.1 hM.1.2 rfl ml_X5_105 (rk_of rfl) rfl (Nat.le_of_ble_eq_true rfl) rfl (px_k ?_)
        refine v_goto C 52 dX5_change_44 (by decide) ?_
        exact v_iret C hQ dX5_change_52 (by first | exact ⟨(if_pos (Or.inl h5)).symm, (if_pos (Or.inl h5)).symm⟩ | exact ⟨(if_pos (Or.inr (ff_o h17))).symm, (if_pos (Or.inr (ff_o h17))).symm⟩ | exact ⟨(if_pos (Or.inr h27)).symm, (if_pos (Or.inr h27)).symm⟩ | exact ⟨(if_neg (fun h => h.elim h5 h27)).symm, (if_neg (fun h => h.elim h5 h27)).symm⟩)

set_option maxRecDepth 100000 in
set_option maxHeartbeats 4000000 in
theorem c_X5_go {l : Launch} {w : WC} {μ : Me} (hM : Md w) (hI : IvD (μ.1 1)) {n : Int32} : CtI l w yX5_go cX5_go 2 (some .int) (Rm 5 119) [.ref (w_ad w 0), .int n] μ (Px (if wiS n 1 60 = 0 then -1000001 else if (μ.1 1) 1 + n ≤ 99999 then smL (fun r => suN (cl n) (μ.1 1) (21 + r)) (dn (μ.1 1)) else -1000005) (if wiS n 1 60 = 0 then fnS μ 0 else if (μ.1 1) 1 + n ≤ 99999 then ua μ 1 (suN (cl n) (μ.1 1)) else fnS μ 4)) := by
  refine Ct.mk (own := RX5) rfl (by decide) (Nat.le_of_ble_eq_true rfl) (fun x hxl C hQ => ?_)
  subst hxl
  have hn := hI.n.1
  have h0 := hI.n.2
  refine v_iload_n C dX5_go_0 rfl rfl ?_
  refine v_i2l C dX5_go_1 rfl ?_
  refine v_lconst (v := 1) C dX5_go_2 rfl rfl ?_
  refine v_ldc2 C dX5_go_3 cn_X5_140 rfl ?_
  refine v_iS C dX5_go_6 ms_X5_in c_X5_in rfl ml_X5_42 (rk_of rfl) rfl (Nat.le_of_ble_eq_true rfl) rfl (px_k ?_)
  refine v_eqi (in_w (a := (1)) (b := (60)) (by decide) (by decide)) ?_
  refine v_if_ne C 18 12 dX5_go_9 (by decide) rfl (fun h9 => ?_) (fun h9 => ?_)
  · refine v_aload_n C dX5_go_18 rfl rfl ?_
    refine g_X5_d C hM.1 dX5_go_19 fl_X5_7 rfl ?_
    refine v_iconst C dX5_go_22 ic_1 rfl ?_
    refine a_I C hM.2.1 (by decide) dX5_go_23 (1) rfl (by decide) rfl ?_
    refine v_iload_n C dX5_go_24 rfl rfl ?_
    refine v_iadd C dX5_go_25 rfl ?_
    refine v_ldc C dX5_go_26 cn_X5_91 rfl ?_
    refine v_icmp_le C 37 31 dX5_go_28 (by decide) rfl (fun h28 => ?_) (fun h28 => ?_)
    · have q := wi_j (m := 60) (by omega) h9
      refine v_aload_n C dX5_go_37 rfl rfl ?_
      refine v_iload_n C dX5_go_38 rfl rfl ?_
      refine v_vV C dX5_go_39 mi_X5_sundaysGo (c_X5_sundaysGo hM hI (t := cl n) (by omega) q.1) rfl hM.1.1 hM.1.2 rfl ml_X5_142 (rk_of rfl) rfl (Nat.le_of_ble_eq_true rfl) rfl (pv_k ?_)
      refine v_aload_n C dX5_go_42 rfl rfl ?_
      refine v_iconst C dX5_go_43 ic_1 rfl ?_
      refine v_iV C dX5_go_44 mi_X5_sumOf (c_X5_sumOf hM (n := dn (μ.1 1)) hn (by rw [ua_s, suN_o hI (by decide) (Or.inl (by decide))]; exact h0) (f := 1) (by decide) rfl) rfl hM.1.1 hM.1.2 rfl ml_X5_146 (rk_of rfl) rfl (Nat.le_of_ble_eq_true rfl) rfl (px_k ?_)
      rw [ua_s]
      exact v_iret C hQ dX5_go_47 ⟨by rw [if_neg h9, if_pos h28], by rw [if_neg h9, if_pos h28]⟩
    · refine v_aload_n C dX5_go_31 rfl rfl ?_
      refine v_iconst C dX5_go_32 ic_4 rfl ?_
      refine v_iV C dX5_go_33 mi_X5_finds (c_X5_finds hM (p := 4) (e := -1000005) (by decide) rfl (by decide)) rfl hM.1.1 hM.1.2 rfl ml_X5_108 (rk_of rfl) rfl (Nat.le_of_ble_eq_true rfl) rfl (px_k ?_)
      exact v_iret C hQ dX5_go_36 ⟨by rw [if_neg h9, if_neg h28], by rw [if_neg h9, if_neg h28]⟩
  · refine v_aload_n C dX5_go_12 rfl rfl ?_
    refine v_iconst C dX5_go_13 ic_0 rfl ?_
    refine v_iV C dX5_go_14 mi_X5_finds (c_X5_finds hM (p := 0) (e := -1000001) (by decide) rfl (by decide)) rfl hM.1.1 hM.1.2 rfl ml_X5_108 (rk_of rfl) rfl (Nat.le_of_ble_eq_true rfl) rfl (px_k ?_)
    exact v_iret C hQ dX5_go_17 ⟨(if_pos h9).symm, (if_pos h9).symm⟩

set_option maxRecDepth 100000 in
set_option maxHeartbeats 4000000 in
theorem c_X5_now {l : Launch} {w : WC} {μ : Me} (hM : Md w) (hI : IvD (μ.1 1)) {t : Int32} : CtI l w yX5_now cX5_now 4 (some .int) (Rm 3 69) [.ref (w_ad w 0), .int t] μ (Px (nowS (μ.1 1) t) (if wiS t 0 7 = 0 then fnS μ 0 else μ)) := by
  refine Ct.mk (own := RX5) rfl (by decide) (Nat.le_of_ble_eq_true rfl) (fun x hxl C hQ => ?_)
  subst hxl
  have hn := hI.n.1
  have h0 := hI.n.2
  obtain ⟨s, hs1, hs⟩ := hI.2.1
  have hw : ∀ r, r < dn (μ.1 1) → Le ((μ.1 1) (37 + r)) 9999 := fun r hr => (hI.2.2.2.2.2.2.2.1 r hr).2.2.2.1
  have hj := hI.2.2.2.2.1.cl (by omega)
  refine v_aload_n C dX5_now_0 rfl rfl ?_
  refine v_aload_n C dX5_now_1 rfl rfl ?_
  refine v_iV C dX5_now_2 mi_X5_todays (c_X5_todays hM hs1 hs) rfl hM.1.1 hM.1.2 rfl ml_X5_65 (rk_of rfl) rfl (Nat.le_of_ble_eq_true rfl) rfl (px_k ?_)
  refine v_iV C dX5_now_5 mi_X5_visitedOf (c_X5_visitedOf hM hn h0) rfl hM.1.1 hM.1.2 rfl ml_X5_69 (rk_of rfl) rfl (Nat.le_of_ble_eq_true rfl) rfl (px_k ?_)
  refine v_eqi (show _ = V_ (μ.1 1) from rfl) ?_
  refine v_istore_n C dX5_now_8 (by decide) rfl ?_
  refine v_aload_n C dX5_now_9 rfl rfl ?_
  refine v_iload_n C dX5_now_10 rfl rfl ?_
  refine v_iV C dX5_now_11 mi_X5_sharersOf (c_X5_sharersOf hM hn h0) rfl hM.1.1 hM.1.2 rfl ml_X5_72 (rk_of rfl) rfl (Nat.le_of_ble_eq_true rfl) rfl (px_k ?_)
  refine v_eqi (show _ = S_ (μ.1 1) from rfl) ?_
  refine v_istore_n C dX5_now_14 (by decide) rfl ?_
  refine v_iload_n C dX5_now_15 rfl rfl ?_
  refine v_case (0) (fun e16_0 => ?_) (fun n16_0 => ?_)
  · refine v_tableIn C 64 dX5_now_16 e16_0 (by decide) (by decide) rfl (by decide) ?_
    refine v_aload_n C dX5_now_64 rfl rfl ?_
    refine g_X5_d C hM.1 dX5_now_65 fl_X5_7 rfl ?_
    refine v_iconst C dX5_now_68 ic_1 rfl ?_
    refine a_I C hM.2.1 (by decide) dX5_now_69 (1) rfl (by decide) rfl ?_
    exact v_iret C hQ dX5_now_70 ⟨by rw [e16_0, nowS_0], by rw [e16_0, if_neg (by decide)]⟩
  refine v_case (1) (fun e16_1 => ?_) (fun n16_1 => ?_)
  · refine v_tableIn C 71 dX5_now_16 e16_1 (by decide) (by decide) rfl (by decide) ?_
    refine v_aload_n C dX5_now_71 rfl rfl ?_
    refine v_iconst C dX5_now_72 ic_1 rfl ?_
    refine v_iV C dX5_now_73 mi_X5_sumOf (c_X5_sumOf hM hn h0 (f := 1) (by decide) rfl) rfl hM.1.1 hM.1.2 rfl ml_X5_146 (rk_of rfl) rfl (Nat.le_of_ble_eq_true rfl) rfl (px_k ?_)
    exact v_iret C hQ dX5_now_76 ⟨by rw [e16_1, nowS_1], by rw [e16_1, if_neg (by decide)]⟩
  refine v_case (2) (fun e16_2 => ?_) (fun n16_2 => ?_)
  · refine v_tableIn C 77 dX5_now_16 e16_2 (by decide) (by decide) rfl (by decide) ?_
    refine v_aload_n C dX5_now_77 rfl rfl ?_
    refine v_iV C dX5_now_78 mi_X5_wells (c_X5_wells hM hn h0) rfl hM.1.1 hM.1.2 rfl ml_X5_149 (rk_of rfl) rfl (Nat.le_of_ble_eq_true rfl) rfl (px_k ?_)
    exact v_iret C hQ dX5_now_81 ⟨by rw [e16_2, nowS_2], by rw [e16_2, if_neg (by decide)]⟩
  refine v_case (3) (fun e16_3 => ?_) (fun n16_3 => ?_)
  · refine v_tableIn C 82 dX5_now_16 e16_3 (by decide) (by decide) rfl (by decide) ?_
    refine v_iload_n C dX5_now_82 rfl rfl ?_
    exact v_iret C hQ dX5_now_83 ⟨by rw [e16_3, nowS_3], by rw [e16_3, if_neg (by decide)]⟩
  refine v_case (4) (fun e16_4 => ?_) (fun n16_4 => ?_)
  · refine v_tableIn C 84 dX5_now_16 e16_4 (by decide) (by decide) rfl (by decide) ?_
    refine v_iload_n C dX5_now_84 rfl rfl ?_
    exact v_iret C hQ dX5_now_85 ⟨by rw [e16_4, nowS_4], by rw [e16_4, if_neg (by decide)]⟩
  refine v_case (5) (fun e16_5 => ?_) (fun n16_5 => ?_)
  · refine v_tableIn C 86 dX5_now_16 e16_5 (by decide) (by decide) rfl (by decide) ?_
    refine v_aload_n C dX5_now_86 rfl rfl ?_
    refine v_iload_n C dX5_now_87 rfl rfl ?_
    refine v_iload_n C dX5_now_88 rfl rfl ?_
    refine v_ior C dX5_now_89 rfl ?_
    refine v_iV C dX5_now_90 mi_X5_helpedOf (c_X5_helpedOf hM hn h0 hw hj.1 hj.2) rfl hM.1.1 hM.1.2 rfl ml_X5_75 (rk_of rfl) rfl (Nat.le_of_ble_eq_true rfl) rfl (px_k ?_)
    refine v_eqi (show _ = P_ (μ.1 1) from rfl) ?_
    exact v_iret C hQ dX5_now_93 ⟨by rw [e16_5, nowS_5], by rw [e16_5, if_neg (by decide)]⟩
  refine v_case (6) (fun e16_6 => ?_) (fun n16_6 => ?_)
  · refine v_tableIn C 94 dX5_now_16 e16_6 (by decide) (by decide) rfl (by decide) ?_
    refine v_aload_n C dX5_now_94 rfl rfl ?_
    refine v_iconst C dX5_now_95 ic_0 rfl ?_
    refine v_iV C dX5_now_96 mi_X5_longest (c_X5_longest hM hn h0 hw) rfl hM.1.1 hM.1.2 rfl ml_X5_62 (rk_of rfl) rfl (Nat.le_of_ble_eq_true rfl) rfl (px_k ?_)
    exact v_iret C hQ dX5_now_99 ⟨by rw [e16_6, nowS_6], by rw [e16_6, if_neg (by decide)]⟩
  refine v_case (7) (fun e16_7 => ?_) (fun n16_7 => ?_)
  · refine v_tableIn C 100 dX5_now_16 e16_7 (by decide) (by decide) rfl (by decide) ?_
    refine v_aload_n C dX5_now_100 rfl rfl ?_
    refine v_iconst C dX5_now_101 ic_4 rfl ?_
    refine v_iV C dX5_now_102 mi_X5_sumOf (c_X5_sumOf hM hn h0 (f := 4) (by decide) rfl) rfl hM.1.1 hM.1.2 rfl ml_X5_146 (rk_of rfl) rfl (Nat.le_of_ble_eq_true rfl) rfl (px_k ?_)
    exact v_iret C hQ dX5_now_105 ⟨by rw [e16_7, nowS_7], by rw [e16_7, if_neg (by decide)]⟩
  refine v_tableOut C 106 dX5_now_16 (by have z0 := lv_neT n16_0 (a := 0) (by decide); have z1 := lv_neT n16_1 (a := 1) (by decide); have z2 := lv_neT n16_2 (a := 2) (by decide); have z3 := lv_neT n16_3 (a := 3) (by decide); have z4 := lv_neT n16_4 (a := 4) (by decide); have z5 := lv_neT n16_5 (a := 5) (by decide); have z6 := lv_neT n16_6 (a := 6) (by decide); have z7 := lv_neT n16_7 (a := 7) (by decide); omega) (by decide) ?_
  refine v_aload_n C dX5_now_106 rfl rfl ?_
  refine v_iconst C dX5_now_107 ic_0 rfl ?_
  refine v_iV C dX5_now_108 mi_X5_finds (c_X5_finds hM (p := 0) (e := -1000001) (by decide) rfl (by decide)) rfl hM.1.1 hM.1.2 rfl ml_X5_108 (rk_of rfl) rfl (Nat.le_of_ble_eq_true rfl) rfl (px_k ?_)
  exact v_iret C hQ dX5_now_111 ⟨by unfold nowS; rw [if_neg n16_0, if_neg n16_1, if_neg n16_2, if_neg n16_3, if_neg n16_4, if_neg n16_5, if_neg n16_6, if_neg n16_7], by rw [if_pos (tab_out7 n16_0 n16_1 n16_2 n16_3 n16_4 n16_5 n16_6 n16_7)]⟩

set_option maxRecDepth 100000 in
set_option maxHeartbeats 4000000 in
theorem lp_X5_holding_4 {w : WC} {x : Cy} {μ : Me} (hM : Md w)  (C : Cx w x cX5_holding 3 RX5 (some .int) (Rm 0 0)) (hQ : y_Q x = MQ (y_b x) (QI w (Px (hoL (fun i => (μ.1 1) (53 + i)) 10) μ)) (y_a x) (y_s x) 0 0 (AA w)) : ∀ (m i : Nat) (a : Int32), 10 + 1 ≤ i + m → i ≤ 10 → (a = hoL (fun i => (μ.1 1) (53 + i)) i) → V w x 3 μ 4 [(0, .ref (w_ad w 0)), (1, .int a), (2, .int (nI i))] [] := by
  intro m
  induction m with
  | zero =>
    intro i a hm hi
    exact absurd hm (by omega)
  | succ m ih =>
    intro i a hm hi ha
    refine v_iload_n C dX5_holding_4 rfl rfl ?_
    refine v_bipush C dX5_holding_5 bp_10 rfl ?_
    refine v_icmp_ge C 36 10 dX5_holding_7 (by decide) rfl (fun h7 => ?_) (fun h7 => ?_)
    · have g : i = 10 := by have := (le_n (a := 10) (b := i) (by omega) (by omega)).mp h7; omega
      refine v_iload_n C dX5_holding_36 rfl rfl ?_
      exact v_iret C hQ dX5_holding_37 ⟨by rw [ha, g], rfl⟩
    · have g : i < 10 := by rcases Nat.lt_or_ge i (10) with q | q; exact q; exact absurd ((le_n (a := 10) (b := i) (by omega) (by omega)).mpr q) h7
      refine v_iload_n C dX5_holding_10 rfl rfl ?_
      refine v_aload_n C dX5_holding_11 rfl rfl ?_
      refine g_X5_d C hM.1 dX5_holding_12 fl_X5_7 rfl ?_
      refine v_bipush C dX5_holding_15 bp_53 rfl ?_
      refine v_iload_n C dX5_holding_17 rfl rfl ?_
      refine v_iadd C dX5_holding_18 rfl ?_
      refine a_I C hM.2.1 (by decide) dX5_holding_19 (53 + i) (nI_add 53 i) (by omega) rfl ?_
      refine v_if_le C 27 23 dX5_holding_20 (by decide) rfl (fun h20 => ?_) (fun h20 => ?_)
      · refine v_iconst C dX5_holding_27 ic_0 rfl ?_
        refine v_iadd C dX5_holding_28 rfl ?_
        refine v_istore_n C dX5_holding_29 (by decide) rfl ?_
        refine v_iincN C dX5_holding_30 rfl (by decide) rfl ?_
        refine v_goto C 4 dX5_holding_33 (by decide) ?_
        exact V.norm (ih (i + 1) _ (by omega) (by omega) (by rw [ha, hoL, if_neg (Int32.not_lt.mpr h20)]; simp)) rfl
      · refine v_iconst C dX5_holding_23 ic_1 rfl ?_
        refine v_goto C 28 dX5_holding_24 (by decide) ?_
        refine v_iadd C dX5_holding_28 rfl ?_
        refine v_istore_n C dX5_holding_29 (by decide) rfl ?_
        refine v_iincN C dX5_holding_30 rfl (by decide) rfl ?_
        refine v_goto C 4 dX5_holding_33 (by decide) ?_
        exact V.norm (ih (i + 1) _ (by omega) (by omega) (by rw [ha, hoL, if_pos (Int32.not_le.mp h20)])) rfl
set_option maxRecDepth 100000 in
set_option maxHeartbeats 4000000 in
theorem c_X5_holding {l : Launch} {w : WC} {μ : Me} (hM : Md w) : CtI l w yX5_holding cX5_holding 3 (some .int) (Rm 0 0) [.ref (w_ad w 0)] μ (Px (hoL (fun i => (μ.1 1) (53 + i)) 10) μ) := by
  refine Ct.mk (own := RX5) rfl (by decide) (Nat.le_of_ble_eq_true rfl) (fun x hxl C hQ => ?_)
  subst hxl
  refine v_iconst C dX5_holding_0 ic_0 rfl ?_
  refine v_istore_n C dX5_holding_1 (by decide) rfl ?_
  refine v_iconst C dX5_holding_2 ic_0 rfl ?_
  refine v_istore_n C dX5_holding_3 (by decide) rfl ?_
  exact V.norm (lp_X5_holding_4 hM C hQ 11 0 _ (by omega) (by omega) rfl) rfl

set_option maxRecDepth 100000 in
set_option maxHeartbeats 4000000 in
theorem c_X5_count {l : Launch} {w : WC} {μ : Me} (hM : Md w) (hI : IvD (μ.1 1)) {t : Int32} : CtI l w yX5_count cX5_count 2 (some .int) (Rm 2 45) [.ref (w_ad w 0), .int t] μ (Px (ctS (μ.1 1) (μ.1 0 7) t) (if wiS t 0 7 = 0 then fnS μ 0 else μ)) := by
  refine Ct.mk (own := RX5) rfl (by decide) (Nat.le_of_ble_eq_true rfl) (fun x hxl C hQ => ?_)
  subst hxl
  have hn := hI.n.1
  have h0 := hI.n.2
  refine v_iload_n C dX5_count_0 rfl rfl ?_
  refine v_case (0) (fun e1_0 => ?_) (fun n1_0 => ?_)
  · refine v_tableIn C 48 dX5_count_1 e1_0 (by decide) (by decide) rfl (by decide) ?_
    refine v_aload_n C dX5_count_48 rfl rfl ?_
    refine g_X5_d C hM.1 dX5_count_49 fl_X5_7 rfl ?_
    refine v_iconst C dX5_count_52 ic_1 rfl ?_
    refine a_I C hM.2.1 (by decide) dX5_count_53 (1) rfl (by decide) rfl ?_
    exact v_iret C hQ dX5_count_54 ⟨by rw [e1_0, ctS_0], by rw [e1_0, if_neg (by decide)]⟩
  refine v_case (1) (fun e1_1 => ?_) (fun n1_1 => ?_)
  · refine v_tableIn C 55 dX5_count_1 e1_1 (by decide) (by decide) rfl (by decide) ?_
    refine v_aload_n C dX5_count_55 rfl rfl ?_
    refine g_X5_d C hM.1 dX5_count_56 fl_X5_7 rfl ?_
    refine v_iconst C dX5_count_59 ic_0 rfl ?_
    refine a_I C hM.2.1 (by decide) dX5_count_60 (0) rfl (by decide) rfl ?_
    exact v_iret C hQ dX5_count_61 ⟨by rw [e1_1, ctS_1], by rw [e1_1, if_neg (by decide)]⟩
  refine v_case (2) (fun e1_2 => ?_) (fun n1_2 => ?_)
  · refine v_tableIn C 62 dX5_count_1 e1_2 (by decide) (by decide) rfl (by decide) ?_
    refine v_aload_n C dX5_count_62 rfl rfl ?_
    refine v_iconst C dX5_count_63 ic_1 rfl ?_
    refine v_iV C dX5_count_64 mi_X5_sumOf (c_X5_sumOf hM hn h0 (f := 1) (by decide) rfl) rfl hM.1.1 hM.1.2 rfl ml_X5_146 (rk_of rfl) rfl (Nat.le_of_ble_eq_true rfl) rfl (px_k ?_)
    exact v_iret C hQ dX5_count_67 ⟨by rw [e1_2, ctS_2], by rw [e1_2, if_neg (by decide)]⟩
  refine v_case (3) (fun e1_3 => ?_) (fun n1_3 => ?_)
  · refine v_tableIn C 68 dX5_count_1 e1_3 (by decide) (by decide) rfl (by decide) ?_
    refine v_aload_n C dX5_count_68 rfl rfl ?_
    refine v_iconst C dX5_count_69 ic_4 rfl ?_
    refine v_iV C dX5_count_70 mi_X5_sumOf (c_X5_sumOf hM hn h0 (f := 4) (by decide) rfl) rfl hM.1.1 hM.1.2 rfl ml_X5_146 (rk_of rfl) rfl (Nat.le_of_ble_eq_true rfl) rfl (px_k ?_)
    exact v_iret C hQ dX5_count_73 ⟨by rw [e1_3, ctS_3], by rw [e1_3, if_neg (by decide)]⟩
  refine v_case (4) (fun e1_4 => ?_) (fun n1_4 => ?_)
  · refine v_tableIn C 74 dX5_count_1 e1_4 (by decide) (by decide) rfl (by decide) ?_
    refine v_aload_n C dX5_count_74 rfl rfl ?_
    refine v_iV C dX5_count_75 mi_X5_wells (c_X5_wells hM hn h0) rfl hM.1.1 hM.1.2 rfl ml_X5_149 (rk_of rfl) rfl (Nat.le_of_ble_eq_true rfl) rfl (px_k ?_)
    refine v_iS C dX5_count_78 ms_X5_ones c_X5_ones rfl ml_X5_78 (rk_of rfl) rfl (Nat.le_of_ble_eq_true rfl) rfl (px_k ?_)
    exact v_iret C hQ dX5_count_81 ⟨by rw [e1_4, ctS_4], by rw [e1_4, if_neg (by decide)]⟩
  refine v_case (5) (fun e1_5 => ?_) (fun n1_5 => ?_)
  · refine v_tableIn C 82 dX5_count_1 e1_5 (by decide) (by decide) rfl (by decide) ?_
    refine v_aload_n C dX5_count_82 rfl rfl ?_
    refine g_X5_taped C hM.1 dX5_count_83 fl_X5_189 rfl ?_
    exact v_iret C hQ dX5_count_86 ⟨by rw [e1_5, ctS_5], by rw [e1_5, if_neg (by decide)]⟩
  refine v_case (6) (fun e1_6 => ?_) (fun n1_6 => ?_)
  · refine v_tableIn C 87 dX5_count_1 e1_6 (by decide) (by decide) rfl (by decide) ?_
    refine v_aload_n C dX5_count_87 rfl rfl ?_
    refine g_X5_d C hM.1 dX5_count_88 fl_X5_7 rfl ?_
    refine v_iconst C dX5_count_91 ic_2 rfl ?_
    refine a_I C hM.2.1 (by decide) dX5_count_92 (2) rfl (by decide) rfl ?_
    exact v_iret C hQ dX5_count_93 ⟨by rw [e1_6, ctS_6], by rw [e1_6, if_neg (by decide)]⟩
  refine v_case (7) (fun e1_7 => ?_) (fun n1_7 => ?_)
  · refine v_tableIn C 94 dX5_count_1 e1_7 (by decide) (by decide) rfl (by decide) ?_
    refine v_aload_n C dX5_count_94 rfl rfl ?_
    refine v_iV C dX5_count_95 mi_X5_holding (c_X5_holding hM) rfl hM.1.1 hM.1.2 rfl ml_X5_303 (rk_of rfl) rfl (Nat.le_of_ble_eq_true rfl) rfl (px_k ?_)
    exact v_iret C hQ dX5_count_98 ⟨by rw [e1_7, ctS_7], by rw [e1_7, if_neg (by decide)]⟩
  refine v_tableOut C 99 dX5_count_1 (by have z0 := lv_neT n1_0 (a := 0) (by decide); have z1 := lv_neT n1_1 (a := 1) (by decide); have z2 := lv_neT n1_2 (a := 2) (by decide); have z3 := lv_neT n1_3 (a := 3) (by decide); have z4 := lv_neT n1_4 (a := 4) (by decide); have z5 := lv_neT n1_5 (a := 5) (by decide); have z6 := lv_neT n1_6 (a := 6) (by decide); have z7 := lv_neT n1_7 (a := 7) (by decide); omega) (by decide) ?_
  refine v_aload_n C dX5_count_99 rfl rfl ?_
  refine v_iconst C dX5_count_100 ic_0 rfl ?_
  refine v_iV C dX5_count_101 mi_X5_finds (c_X5_finds hM (p := 0) (e := -1000001) (by decide) rfl (by decide)) rfl hM.1.1 hM.1.2 rfl ml_X5_108 (rk_of rfl) rfl (Nat.le_of_ble_eq_true rfl) rfl (px_k ?_)
  exact v_iret C hQ dX5_count_104 ⟨by unfold ctS; rw [if_neg n1_0, if_neg n1_1, if_neg n1_2, if_neg n1_3, if_neg n1_4, if_neg n1_5, if_neg n1_6, if_neg n1_7], by rw [if_pos (tab_out7 n1_0 n1_1 n1_2 n1_3 n1_4 n1_5 n1_6 n1_7)]⟩

set_option maxRecDepth 100000 in
set_option maxHeartbeats 4000000 in
theorem c_X5_seed {l : Launch} {w : WC} {μ : Me} (hM : Md w) {v : Int32} : CtI l w yX5_seed cX5_seed 2 (some .int) (Rm 1 23) [.ref (w_ad w 0), .int v] μ (Px ((μ.1 1) 2) (up μ 1 2 v)) := by
  refine Ct.mk (own := RX5) rfl (by decide) (Nat.le_of_ble_eq_true rfl) (fun x hxl C hQ => ?_)
  subst hxl
  refine v_aload_n C dX5_seed_0 rfl rfl ?_
  refine v_iconst C dX5_seed_1 ic_2 rfl ?_
  refine v_iload_n C dX5_seed_2 rfl rfl ?_
  refine v_iV C dX5_seed_3 mi_X5_becomes (c_X5_becomes hM (j := 2) (by decide) rfl) rfl hM.1.1 hM.1.2 rfl ml_X5_105 (rk_of rfl) rfl (Nat.le_of_ble_eq_true rfl) rfl (px_k ?_)
  exact v_iret C hQ dX5_seed_6 ⟨rfl, rfl⟩

set_option maxRecDepth 100000 in
set_option maxHeartbeats 4000000 in
theorem c_X5_wipe {l : Launch} {w : WC} {μ : Me} (hM : Md w) : CtI l w yX5_wipe cX5_wipe 2 (some .int) (Rm 0 0) [.ref (w_ad w 0)] μ (Px (μ.1 0 7) (up μ 0 7 0)) := by
  refine Ct.mk (own := RX5) rfl (by decide) (Nat.le_of_ble_eq_true rfl) (fun x hxl C hQ => ?_)
  subst hxl
  refine v_aload_n C dX5_wipe_0 rfl rfl ?_
  refine g_X5_taped C hM.1 dX5_wipe_1 fl_X5_189 rfl ?_
  refine v_istore_n C dX5_wipe_4 (by decide) rfl ?_
  refine v_aload_n C dX5_wipe_5 rfl rfl ?_
  refine v_iconst C dX5_wipe_6 ic_0 rfl ?_
  refine p_X5_taped C hM.1 dX5_wipe_7 fl_X5_189 rfl ?_
  refine v_iload_n C dX5_wipe_10 rfl rfl ?_
  exact v_iret C hQ dX5_wipe_11 ⟨rfl, rfl⟩

set_option maxRecDepth 100000 in
set_option maxHeartbeats 4000000 in
theorem c_X5_tear {l : Launch} {w : WC} {μ : Me} (hM : Md w) : CtI l w yX5_tear cX5_tear 2 (some .int) (Rm 0 0) [.ref (w_ad w 0)] μ (Px (if μ.1 0 4 = 0 then 0 else 1) (up μ 0 4 0)) := by
  refine Ct.mk (own := RX5) rfl (by decide) (Nat.le_of_ble_eq_true rfl) (fun x hxl C hQ => ?_)
  subst hxl
  refine v_aload_n C dX5_tear_0 rfl rfl ?_
  refine g_X5_isKept C hM.1 dX5_tear_1 fl_X5_299 rfl ?_
  refine v_if_eq C 11 7 dX5_tear_4 (by decide) rfl (fun h4 => ?_) (fun h4 => ?_)
  · refine v_iconst C dX5_tear_11 ic_0 rfl ?_
    refine v_istore_n C dX5_tear_12 (by decide) rfl ?_
    refine v_aload_n C dX5_tear_13 rfl rfl ?_
    refine v_iconst C dX5_tear_14 ic_0 rfl ?_
    refine p_X5_isKept C hM.1 dX5_tear_15 fl_X5_299 rfl rfl rfl ?_
    refine v_iload_n C dX5_tear_18 rfl rfl ?_
    exact v_iret C hQ dX5_tear_19 ⟨by simp [*], rfl⟩
  · refine v_iconst C dX5_tear_7 ic_1 rfl ?_
    refine v_goto C 12 dX5_tear_8 (by decide) ?_
    refine v_istore_n C dX5_tear_12 (by decide) rfl ?_
    refine v_aload_n C dX5_tear_13 rfl rfl ?_
    refine v_iconst C dX5_tear_14 ic_0 rfl ?_
    refine p_X5_isKept C hM.1 dX5_tear_15 fl_X5_299 rfl rfl rfl ?_
    refine v_iload_n C dX5_tear_18 rfl rfl ?_
    exact v_iret C hQ dX5_tear_19 ⟨by simp [*], rfl⟩

set_option maxRecDepth 100000 in
set_option maxHeartbeats 4000000 in
theorem c_X5_image {l : Launch} {w : WC} {μ : Me} (hM : Md w) : CtI l w yX5_image cX5_image 1 (some .int) (Rm 1 22) [.ref (w_ad w 0)] μ (Px 1 (up (ua μ 4 (ldF (μ.1 1) (μ.1 4) 63)) 0 4 1)) := by
  refine Ct.mk (own := RX5) rfl (by decide) (Nat.le_of_ble_eq_true rfl) (fun x hxl C hQ => ?_)
  subst hxl
  refine v_aload_n C dX5_image_0 rfl rfl ?_
  refine g_X5_d C hM.1 dX5_image_1 fl_X5_7 rfl ?_
  refine v_aload_n C dX5_image_4 rfl rfl ?_
  refine g_X5_kept C hM.1 dX5_image_5 fl_X5_19 rfl ?_
  refine v_vS C dX5_image_8 ms_X5_copies (c_X5_copies hM.2.1 hM.2.2.2.2.1 (by decide)) rfl ml_X5_152 (rk_of rfl) rfl (Nat.le_of_ble_eq_true rfl) rfl (pv_k ?_)
  refine v_aload_n C dX5_image_11 rfl rfl ?_
  refine v_iconst C dX5_image_12 ic_1 rfl ?_
  refine p_X5_isKept C hM.1 dX5_image_13 fl_X5_299 rfl rfl rfl ?_
  refine v_iconst C dX5_image_16 ic_1 rfl ?_
  exact v_iret C hQ dX5_image_17 ⟨rfl, rfl⟩

set_option maxRecDepth 100000 in
set_option maxHeartbeats 4000000 in
theorem c_X5_undo {l : Launch} {w : WC} {μ : Me} (hM : Md w) : CtI l w yX5_undo cX5_undo 1 (some .int) (Rm 1 22) [.ref (w_ad w 0)] μ (Px (if μ.1 0 4 = 0 then -1000004 else (ua μ 1 (ldF (μ.1 4) (μ.1 1) 63)).1 1 1) (if μ.1 0 4 = 0 then fnS μ 3 else ua μ 1 (ldF (μ.1 4) (μ.1 1) 63))) := by
  refine Ct.mk (own := RX5) rfl (by decide) (Nat.le_of_ble_eq_true rfl) (fun x hxl C hQ => ?_)
  subst hxl
  refine v_aload_n C dX5_undo_0 rfl rfl ?_
  refine g_X5_isKept C hM.1 dX5_undo_1 fl_X5_299 rfl ?_
  refine v_if_ne C 13 7 dX5_undo_4 (by decide) rfl (fun h4 => ?_) (fun h4 => ?_)
  · refine v_aload_n C dX5_undo_13 rfl rfl ?_
    refine g_X5_kept C hM.1 dX5_undo_14 fl_X5_19 rfl ?_
    refine v_aload_n C dX5_undo_17 rfl rfl ?_
    refine g_X5_d C hM.1 dX5_undo_18 fl_X5_7 rfl ?_
    refine v_vS C dX5_undo_21 ms_X5_copies (c_X5_copies hM.2.2.2.2.1 hM.2.1 (by decide)) rfl ml_X5_152 (rk_of rfl) rfl (Nat.le_of_ble_eq_true rfl) rfl (pv_k ?_)
    refine v_aload_n C dX5_undo_24 rfl rfl ?_
    refine g_X5_d C hM.1 dX5_undo_25 fl_X5_7 rfl ?_
    refine v_iconst C dX5_undo_28 ic_1 rfl ?_
    refine a_I C hM.2.1 (by decide) dX5_undo_29 (1) rfl (by decide) rfl ?_
    exact v_iret C hQ dX5_undo_30 ⟨(if_neg h4).symm, (if_neg h4).symm⟩
  · refine v_aload_n C dX5_undo_7 rfl rfl ?_
    refine v_iconst C dX5_undo_8 ic_3 rfl ?_
    refine v_iV C dX5_undo_9 mi_X5_finds (c_X5_finds hM (p := 3) (e := -1000004) (by decide) rfl (by decide)) rfl hM.1.1 hM.1.2 rfl ml_X5_108 (rk_of rfl) rfl (Nat.le_of_ble_eq_true rfl) rfl (px_k ?_)
    exact v_iret C hQ dX5_undo_12 ⟨(if_pos h4).symm, (if_pos h4).symm⟩

set_option maxRecDepth 100000 in
set_option maxHeartbeats 4000000 in
theorem c_X5_draw {l : Launch} {w : WC} {μ : Me} (hM : Md w) : CtI l w yX5_draw cX5_draw 1 (some .int) (Rm 0 0) [.ref (w_ad w 0)] μ (Px (drS (zS ((μ.1 1) 2))) (up μ 1 2 (zS ((μ.1 1) 2)))) := by
  refine Ct.mk (own := RX5) rfl (by decide) (Nat.le_of_ble_eq_true rfl) (fun x hxl C hQ => ?_)
  subst hxl
  refine v_aload_n C dX5_draw_0 rfl rfl ?_
  refine g_X5_d C hM.1 dX5_draw_1 fl_X5_7 rfl ?_
  refine v_iconst C dX5_draw_4 ic_2 rfl ?_
  refine v_aload_n C dX5_draw_5 rfl rfl ?_
  refine g_X5_d C hM.1 dX5_draw_6 fl_X5_7 rfl ?_
  refine v_iconst C dX5_draw_9 ic_2 rfl ?_
  refine a_I C hM.2.1 (by decide) dX5_draw_10 (2) rfl (by decide) rfl ?_
  refine v_ldc C dX5_draw_11 cn_X5_183 rfl ?_
  refine v_imul C dX5_draw_13 rfl ?_
  refine v_sipush C dX5_draw_14 sp_12345 rfl ?_
  refine v_iadd C dX5_draw_17 rfl ?_
  refine s_I C hM.2.1 (by decide) dX5_draw_18 (2) rfl (by decide) rfl ?_
  refine v_aload_n C dX5_draw_19 rfl rfl ?_
  refine g_X5_d C hM.1 dX5_draw_20 fl_X5_7 rfl ?_
  refine v_iconst C dX5_draw_23 ic_2 rfl ?_
  refine a_I C hM.2.1 (by decide) dX5_draw_24 (2) rfl (by decide) rfl ?_
  refine v_bipush C dX5_draw_25 bp_8 rfl ?_
  refine v_iushr C dX5_draw_27 rfl ?_
  exact v_iret C hQ dX5_draw_28 ⟨by rw [up_s]; rfl, rfl⟩
