set_option maxRecDepth 100000 in
set_option maxHeartbeats 4000000 in
theorem lp_X3_isWord_28 {w : WC} {x : Cy} {μ : Me} (hS : Sv w) {fz : Option Nat} (hJ : Jz w fz) {sa sv : Nat → Nat} (hT : Tx w sa sv) {a : Nat → Nat} {n p : Nat} (hz : Tz μ a n) (hk : Tk μ a n p) (hp : p ≤ n) {c : Nat} (hc : c < 15) (t1 : tT a n p = 1) (e2 : tE a n p - tB a n p = (wdW c).length) (C : Cx w x cX3_isWord 3 RX3 (some .boolean) (Rm 4 85)) (hQ : y_Q x = MQ (y_b x) (QI w (Px (if Wd a n p (wdW c) = true then 1 else 0) μ)) (y_a x) (y_s x) 0 0 (AA w)) : ∀ (m i : Nat), (wdW c).length + 1 ≤ i + m → i ≤ (wdW c).length → (∀ j, j < i → a (tB a n p + j) = (wdW c).getD j 0) → V w x 3 μ 28 [(0, .ref (w_ad w 40)), (1, .ref (sa c)), (2, .int (nI i))] [] := by
  intro m
  induction m with
  | zero =>
    intro i  hm hi
    exact absurd hm (by omega)
  | succ m ih =>
    intro i  hm hi hw
    have hn := hz.2.1
    have hl := wd_ty hc
    have hE := tE_s (a := a) hz.2.1 hp
    refine v_iload_n C dX3_isWord_28 rfl rfl ?_
    refine v_aload_n C dX3_isWord_29 rfl rfl ?_
    refine v_iX C dX3_isWord_30 mi_J0_length_8abf5 (c_J0_length_8abf5 hJ (hT c hc).1) rfl (fun U h => ((hT c hc).1 U h).1) ml_X3_112 (rk_of rfl) rfl (Nat.le_of_ble_eq_true rfl) rfl (px_k ?_)
    refine v_icmp_ge C 63 36 dX3_isWord_33 (by decide) rfl (fun h33 => ?_) (fun h33 => ?_)
    · have g : i = (wdW c).length := by have := (le_n (a := (wdW c).length) (b := i) (by omega) (by omega)).mp h33; omega
      refine v_iconst C dX3_isWord_63 ic_1 rfl ?_
      exact v_zret C hQ dX3_isWord_64 rfl ⟨(if_pos (Wd_i.mpr ⟨t1, e2, fun j hj => hw j (by omega)⟩)).symm, rfl⟩
    · have g : i < (wdW c).length := by rcases Nat.lt_or_ge i ((wdW c).length) with q | q; exact q; exact absurd ((le_n (a := (wdW c).length) (b := i) (by omega) (by omega)).mpr q) h33
      refine v_aload_n C dX3_isWord_36 rfl rfl ?_
      refine g_X3_bytes C hS.2.2.2.2.1.1 dX3_isWord_37 fl_X3_9 rfl ?_
      refine v_aload_n C dX3_isWord_40 rfl rfl ?_
      refine g_X3_begin C hS.2.2.2.2.1.1 dX3_isWord_41 fl_X3_29 rfl ?_
      refine v_eqi (hk.1) ?_
      refine v_iload_n C dX3_isWord_44 rfl rfl ?_
      refine v_iadd C dX3_isWord_45 rfl ?_
      refine a_I C hS.2.2.2.2.1.2 (by decide) dX3_isWord_46 (tB a n p + i) (nI_add _ _) (by omega) rfl ?_
      refine v_aload_n C dX3_isWord_47 rfl rfl ?_
      refine v_iload_n C dX3_isWord_48 rfl rfl ?_
      refine v_iX C dX3_isWord_49 mi_J0_charAt_5068e (c_J0_charAt_5068e hJ (hT c hc).1 (c := (wdW c).getD i 0) (j := i) rfl g (by omega) (by have := ty_1.mp (hl.2 i g); omega) rfl) rfl (fun U h => ((hT c hc).1 U h).1) ml_X3_117 (rk_of rfl) rfl (Nat.le_of_ble_eq_true rfl) rfl (px_k ?_)
      refine v_icmp_eq C 57 55 dX3_isWord_52 (by decide) rfl (fun h52 => ?_) (fun h52 => ?_)
      · have h1 : a (tB a n p + i) = (wdW c).getD i 0 := by rw [← hz.2.2 _ (by omega)]; exact (nb_eq (by have := ty_1.mp (hl.2 i g); omega)).mp h52
        refine v_iincN C dX3_isWord_57 rfl (by decide) rfl ?_
        refine v_goto C 28 dX3_isWord_60 (by decide) ?_
        exact V.norm (ih (i + 1) (by omega) (by omega) (fun j hj => by by_cases z : j = i; (subst z; exact h1); (exact hw j (by omega)))) rfl
      · have h1 : ¬ a (tB a n p + i) = (wdW c).getD i 0 := fun h => h52 ((nb_eq (by have := ty_1.mp (hl.2 i g); omega)).mpr ((hz.2.2 _ (by omega)).trans h))
        refine v_iconst C dX3_isWord_55 ic_0 rfl ?_
        exact v_zret C hQ dX3_isWord_56 rfl ⟨(if_neg (fun h => h1 ((Wd_i.mp h).2.2 i g))).symm, rfl⟩
set_option maxRecDepth 100000 in
set_option maxHeartbeats 4000000 in
theorem c_X3_isWord {l : Launch} {w : WC} {μ : Me} (hS : Sv w) {fz : Option Nat} (hJ : Jz w fz) {sa sv : Nat → Nat} (hT : Tx w sa sv) {a : Nat → Nat} {n p : Nat} (hz : Tz μ a n) (hk : Tk μ a n p) (hp : p ≤ n) {c : Nat} (hc : c < 15) : CtI l w yX3_isWord cX3_isWord 3 (some .boolean) (Rm 4 85) [.ref (w_ad w 40), .ref (sa c)] μ (Px (if Wd a n p (wdW c) = true then 1 else 0) μ) := by
  refine Ct.mk (own := RX3) rfl (by decide) (Nat.le_of_ble_eq_true rfl) (fun x hxl C hQ => ?_)
  subst hxl
  have hn := hz.2.1
  have hl := (wd_ty hc).1
  have hE := tE_s (a := a) hz.2.1 hp
  have hB := (tB_s (a := a) hz.2.1 hp).2
  refine v_aload_n C dX3_isWord_0 rfl rfl ?_
  refine g_X3_token C hS.2.2.2.2.1.1 dX3_isWord_1 fl_X3_32 rfl ?_
  refine v_eqi (hk.2.1) ?_
  refine v_iconst C dX3_isWord_4 ic_1 rfl ?_
  refine v_icmp_ne C 24 8 dX3_isWord_5 (by decide) rfl (fun h5 => ?_) (fun h5 => ?_)
  · have n1 : ¬ tT a n p = 1 := fun h => h5 (by rw [h]; rfl)
    refine v_iconst C dX3_isWord_24 ic_0 rfl ?_
    exact v_zret C hQ dX3_isWord_25 rfl ⟨(if_neg (fun h => n1 (Wd_i.mp h).1)).symm, rfl⟩
  · have t1 : tT a n p = 1 := by have := tT_r a n p; exact (eq_n (a := tT a n p) (b := 1) (by omega) (by decide)).mp h5
    refine v_aload_n C dX3_isWord_8 rfl rfl ?_
    refine g_X3_end C hS.2.2.2.2.1.1 dX3_isWord_9 fl_X3_19 rfl ?_
    refine v_eqi (hk.2.2.1 (by omega)) ?_
    refine v_aload_n C dX3_isWord_12 rfl rfl ?_
    refine g_X3_begin C hS.2.2.2.2.1.1 dX3_isWord_13 fl_X3_29 rfl ?_
    refine v_eqi (hk.1) ?_
    refine v_isub C dX3_isWord_16 rfl ?_
    refine v_eqi (sub_n hE.1) ?_
    refine v_aload_n C dX3_isWord_17 rfl rfl ?_
    refine v_iX C dX3_isWord_18 mi_J0_length_8abf5 (c_J0_length_8abf5 hJ (hT c hc).1) rfl (fun U h => ((hT c hc).1 U h).1) ml_X3_112 (rk_of rfl) rfl (Nat.le_of_ble_eq_true rfl) rfl (px_k ?_)
    refine v_icmp_eq C 26 24 dX3_isWord_21 (by decide) rfl (fun h21 => ?_) (fun h21 => ?_)
    · have e2 : tE a n p - tB a n p = (wdW c).length := (eq_n (by omega) (by omega)).mp h21
      refine v_iconst C dX3_isWord_26 ic_0 rfl ?_
      refine v_istore_n C dX3_isWord_27 (by decide) rfl ?_
      exact V.norm (lp_X3_isWord_28 hS hJ hT hz hk hp hc t1 e2 C hQ ((wdW c).length + 1) 0 (by omega) (by omega) (fun j hj => by omega)) rfl
    · have n2 : ¬ tE a n p - tB a n p = (wdW c).length := fun h => h21 (by rw [h])
      refine v_iconst C dX3_isWord_24 ic_0 rfl ?_
      exact v_zret C hQ dX3_isWord_25 rfl ⟨(if_neg (fun h => n2 (Wd_i.mp h).2.1)).symm, rfl⟩

set_option maxRecDepth 100000 in
set_option maxHeartbeats 4000000 in
theorem c_X3_isNumber {l : Launch} {w : WC} {μ : Me} (hS : Sv w) (hX : Nx w) {b c : Int32} : CtI l w yX3_isNumber cX3_isNumber 3 (some .boolean) (Rm 1 22) [.ref (w_ad w 40), .int b, .int c] μ (Px (if μ.1 40 2 = 2 then wiS (μ.1 40 5) b c else 0) μ) := by
  refine Ct.mk (own := RX3) rfl (by decide) (Nat.le_of_ble_eq_true rfl) (fun x hxl C hQ => ?_)
  subst hxl
  refine v_aload_n C dX3_isNumber_0 rfl rfl ?_
  refine g_X3_token C hS.2.2.2.2.1.1 dX3_isNumber_1 fl_X3_32 rfl ?_
  refine v_iconst C dX3_isNumber_4 ic_2 rfl ?_
  refine v_icmp_ne C 24 8 dX3_isNumber_5 (by decide) rfl (fun h5 => ?_) (fun h5 => ?_)
  · refine v_iconst C dX3_isNumber_24 ic_0 rfl ?_
    exact v_zret C hQ dX3_isNumber_25 rfl ⟨(if_neg h5).symm, rfl⟩
  · refine v_aload_n C dX3_isNumber_8 rfl rfl ?_
    refine g_X3_value C hS.2.2.2.2.1.1 dX3_isNumber_9 fl_X3_82 rfl ?_
    refine v_iload_n C dX3_isNumber_12 rfl rfl ?_
    refine v_iload_n C dX3_isNumber_13 rfl rfl ?_
    refine v_iN C dX3_isNumber_14 ms_X4_within c_X4_within rfl (fun U h => nw_X3_121 hX h) (rk_of rfl) rfl (Nat.le_of_ble_eq_true rfl) rfl (px_k ?_)
    refine v_if_eq C 24 20 dX3_isNumber_17 (by decide) rfl (fun h17 => ?_) (fun h17 => ?_)
    · refine v_iconst C dX3_isNumber_24 ic_0 rfl ?_
      exact v_zret C hQ dX3_isNumber_25 rfl ⟨((if_pos h5).trans h17).symm, rfl⟩
    · refine v_iconst C dX3_isNumber_20 ic_1 rfl ?_
      refine v_goto C 25 dX3_isNumber_21 (by decide) ?_
      exact v_zret C hQ dX3_isNumber_25 rfl ⟨((if_pos h5).trans (wi_b h17)).symm, rfl⟩

set_option maxRecDepth 100000 in
set_option maxHeartbeats 4000000 in
theorem c_X3_kindWord {l : Launch} {w : WC} {μ : Me} {sa sv : Nat → Nat} (hT : Tx w sa sv) {k : Nat} (hk : k < 7) : CtR l w yX3_kindWord cX3_kindWord 1 (some (.object "java/lang/String")) (Rm 0 0) [.int (nI k)] μ (Pr (sa (kwI k)) μ) := by
  refine Ct.mk (own := RX3) rfl (by decide) (Nat.le_of_ble_eq_true rfl) (fun x hxl C hQ => ?_)
  subst hxl
  refine v_iload_n C dX3_kindWord_0 rfl rfl ?_
  refine v_case (1) (fun e1_1 => ?_) (fun n1_1 => ?_)
  · refine v_tableIn C 40 dX3_kindWord_1 e1_1 (by decide) (by decide) rfl (by decide) ?_
    refine v_ldcS C (fun U h => (hT 0 (by decide)).2 U h) dX3_kindWord_40 rfl ?_
    exact v_rret C hQ dX3_kindWord_42 ⟨by have q := (eq_n (a := k) (b := 1) (by omega) (by decide)).mp e1_1; subst q; rfl, rfl⟩
  refine v_case (2) (fun e1_2 => ?_) (fun n1_2 => ?_)
  · refine v_tableIn C 43 dX3_kindWord_1 e1_2 (by decide) (by decide) rfl (by decide) ?_
    refine v_ldcS C (fun U h => (hT 1 (by decide)).2 U h) dX3_kindWord_43 rfl ?_
    exact v_rret C hQ dX3_kindWord_45 ⟨by have q := (eq_n (a := k) (b := 2) (by omega) (by decide)).mp e1_2; subst q; rfl, rfl⟩
  refine v_case (3) (fun e1_3 => ?_) (fun n1_3 => ?_)
  · refine v_tableIn C 46 dX3_kindWord_1 e1_3 (by decide) (by decide) rfl (by decide) ?_
    refine v_ldcS C (fun U h => (hT 2 (by decide)).2 U h) dX3_kindWord_46 rfl ?_
    exact v_rret C hQ dX3_kindWord_48 ⟨by have q := (eq_n (a := k) (b := 3) (by omega) (by decide)).mp e1_3; subst q; rfl, rfl⟩
  refine v_case (4) (fun e1_4 => ?_) (fun n1_4 => ?_)
  · refine v_tableIn C 49 dX3_kindWord_1 e1_4 (by decide) (by decide) rfl (by decide) ?_
    refine v_ldcS C (fun U h => (hT 3 (by decide)).2 U h) dX3_kindWord_49 rfl ?_
    exact v_rret C hQ dX3_kindWord_51 ⟨by have q := (eq_n (a := k) (b := 4) (by omega) (by decide)).mp e1_4; subst q; rfl, rfl⟩
  refine v_case (5) (fun e1_5 => ?_) (fun n1_5 => ?_)
  · refine v_tableIn C 52 dX3_kindWord_1 e1_5 (by decide) (by decide) rfl (by decide) ?_
    refine v_ldcS C (fun U h => (hT 4 (by decide)).2 U h) dX3_kindWord_52 rfl ?_
    exact v_rret C hQ dX3_kindWord_54 ⟨by have q := (eq_n (a := k) (b := 5) (by omega) (by decide)).mp e1_5; subst q; rfl, rfl⟩
  refine v_case (6) (fun e1_6 => ?_) (fun n1_6 => ?_)
  · refine v_tableIn C 55 dX3_kindWord_1 e1_6 (by decide) (by decide) rfl (by decide) ?_
    refine v_ldcS C (fun U h => (hT 5 (by decide)).2 U h) dX3_kindWord_55 rfl ?_
    exact v_rret C hQ dX3_kindWord_57 ⟨by have q := (eq_n (a := k) (b := 6) (by omega) (by decide)).mp e1_6; subst q; rfl, rfl⟩
  refine v_tableOut C 58 dX3_kindWord_1 (by have z1 := lv_neT n1_1 (a := 1) (by decide); have z2 := lv_neT n1_2 (a := 2) (by decide); have z3 := lv_neT n1_3 (a := 3) (by decide); have z4 := lv_neT n1_4 (a := 4) (by decide); have z5 := lv_neT n1_5 (a := 5) (by decide); have z6 := lv_neT n1_6 (a := 6) (by decide); omega) (by decide) ?_
  refine v_ldcS C (fun U h => (hT 6 (by decide)).2 U h) dX3_kindWord_58 rfl ?_
  exact v_rret C hQ dX3_kindWord_60 ⟨by have q := kw_0 hk n1_1 n1_2 n1_3 n1_4 n1_5 n1_6; subst q; rfl, rfl⟩

set_option maxRecDepth 100000 in
set_option maxHeartbeats 4000000 in
theorem c_X3_settingWord {l : Launch} {w : WC} {μ : Me} {sa sv : Nat → Nat} (hT : Tx w sa sv) {k : Nat} (hk : k < 4) : CtR l w yX3_settingWord cX3_settingWord 1 (some (.object "java/lang/String")) (Rm 0 0) [.int (nI k)] μ (Pr (sa (10 + k)) μ) := by
  refine Ct.mk (own := RX3) rfl (by decide) (Nat.le_of_ble_eq_true rfl) (fun x hxl C hQ => ?_)
  subst hxl
  refine v_iload_n C dX3_settingWord_0 rfl rfl ?_
  refine v_case (0) (fun e1_0 => ?_) (fun n1_0 => ?_)
  · refine v_tableIn C 28 dX3_settingWord_1 e1_0 (by decide) (by decide) rfl (by decide) ?_
    refine v_ldcS C (fun U h => (hT 10 (by decide)).2 U h) dX3_settingWord_28 rfl ?_
    exact v_rret C hQ dX3_settingWord_30 ⟨by have q := (eq_n (a := k) (b := 0) (by omega) (by decide)).mp e1_0; subst q; rfl, rfl⟩
  refine v_case (1) (fun e1_1 => ?_) (fun n1_1 => ?_)
  · refine v_tableIn C 31 dX3_settingWord_1 e1_1 (by decide) (by decide) rfl (by decide) ?_
    refine v_ldcS C (fun U h => (hT 11 (by decide)).2 U h) dX3_settingWord_31 rfl ?_
    exact v_rret C hQ dX3_settingWord_33 ⟨by have q := (eq_n (a := k) (b := 1) (by omega) (by decide)).mp e1_1; subst q; rfl, rfl⟩
  refine v_case (2) (fun e1_2 => ?_) (fun n1_2 => ?_)
  · refine v_tableIn C 34 dX3_settingWord_1 e1_2 (by decide) (by decide) rfl (by decide) ?_
    refine v_ldcS C (fun U h => (hT 12 (by decide)).2 U h) dX3_settingWord_34 rfl ?_
    exact v_rret C hQ dX3_settingWord_36 ⟨by have q := (eq_n (a := k) (b := 2) (by omega) (by decide)).mp e1_2; subst q; rfl, rfl⟩
  refine v_tableOut C 37 dX3_settingWord_1 (by have z0 := lv_neT n1_0 (a := 0) (by decide); have z1 := lv_neT n1_1 (a := 1) (by decide); have z2 := lv_neT n1_2 (a := 2) (by decide); omega) (by decide) ?_
  refine v_ldcS C (fun U h => (hT 13 (by decide)).2 U h) dX3_settingWord_37 rfl ?_
  exact v_rret C hQ dX3_settingWord_39 ⟨by have q := kw_3 hk n1_0 n1_1 n1_2; subst q; rfl, rfl⟩
