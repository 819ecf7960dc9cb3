set_option maxRecDepth 100000 in
set_option maxHeartbeats 4000000 in
theorem c_X3_readResident {l : Launch} {w : WC} {μ : Me} (hS : Sv w) (hX : Nx w) {fz : Option Nat} (hJ : Jz w fz) {sa sv : Nat → Nat} (hT : Tx w sa sv) {a : Nat → Nat} {n p : Nat} (hz : Tz μ a n) (hk : Tk μ a n p) (hp : p ≤ n) {d : Nat → Int32} (hL : LH μ 14 d) (hI : IvD d) {k : Int32} (t1 : tT a n p = 1) : CtI l w yX3_readResident cX3_readResident 5 (some .boolean) (Rm 6 131) [.ref (w_ad w 40), .ref (w_ad w 14), .int k] μ (RX μ a n (rRes a n k p d)) := by
  refine Ct.mk (own := RX3) rfl (by decide) (Nat.le_of_ble_eq_true rfl) (fun x hxl C hQ => ?_)
  subst hxl
  have hn := hz.2.1
  have hd := hI.n.1
  have h0 : μ.1 14 3 = nI (dn d) := hL.1.trans hI.n.2
  have hE := tE_s (a := a) hz.2.1 hp
  refine v_aload_n C dX3_readResident_0 rfl rfl ?_
  refine v_iload_n C dX3_readResident_1 rfl rfl ?_
  refine v_iV C dX3_readResident_2 mi_X0_welcome (c_X0_welcome hS.2.2.1 hX hd h0) rfl hS.2.2.1.1.1 hS.2.2.1.1.2 rfl ml_X3_58 (rk_of rfl) rfl (Nat.le_of_ble_eq_true rfl) rfl (px_k ?_)
  refine v_istore_n C dX3_readResident_5 (by decide) rfl ?_
  refine v_iload_n C dX3_readResident_6 rfl rfl ?_
  refine v_iconst C dX3_readResident_7 ic_m1 rfl ?_
  refine v_icmp_ne C 13 11 dX3_readResident_8 (by decide) rfl (fun h8 => ?_) (fun h8 => ?_)
  · have q8 : dn d < 8 := by by_cases q : dn d < 8; exact q; exact absurd (if_neg q) h8
    simp only [if_pos q8]
    have zw : Tz (up (bgS μ (14 + 3 + 2 + dn d) k) 14 3 (nI (dn d + 1))) a n := Tz_up (Tz_bg hz (by omega) (by omega)) (by decide) (by decide)
    have kw : Tk (up (bgS μ (14 + 3 + 2 + dn d) k) 14 3 (nI (dn d + 1))) a n p := Tk_up (Tk_bg hk (by omega)) (by decide)
    have Lw := LH_wl hL q8 k
    have Fw : Fq μ (up (bgS μ (14 + 3 + 2 + dn d) k) 14 3 (nI (dn d + 1))) := Fq_up (Fq_bg (by omega) (by omega)) (by decide) (by decide)
    have Dw := wlD_dn (d := d) (a := k) q8
    refine v_aload_n C dX3_readResident_13 rfl rfl ?_
    refine g_X0_residents C hS.2.2.1.1 dX3_readResident_14 fl_X3_64 rfl ?_
    refine v_iload_n C dX3_readResident_17 rfl rfl ?_
    refine a_R C hS.2.2.1.2.2.2.1 dX3_readResident_18 (dn d) rfl q8 rfl ?_
    refine v_astore C dX3_readResident_19 (by decide) rfl ?_
    refine v_aload_n C dX3_readResident_21 rfl rfl ?_
    refine v_vV C dX3_readResident_22 mi_X3_step (c_X3_step hS zw hE.2.1 (kw.2.2.1 (by omega))) rfl hS.2.2.2.2.1.1.1 hS.2.2.2.2.1.1.2 rfl ml_X3_22 (rk_of rfl) rfl (Nat.le_of_ble_eq_true rfl) rfl (fun u22 hu22 => ?_)
    refine v_aload_n C dX3_readResident_25 rfl rfl ?_
    refine v_aload C dX3_readResident_26 rfl rfl ?_
    refine v_ldcS C (fun U h => (hT 7 (by decide)).2 U h) dX3_readResident_28 rfl ?_
    refine v_iconst C dX3_readResident_30 ic_1 rfl ?_
    refine v_bipush C dX3_readResident_31 bp_99 rfl ?_
    refine v_iV C dX3_readResident_33 mi_X3_readFact (c_X3_readFact hS hX hJ hT (Fr_Tz hu22.1 zw) hu22.2 hE.2.1 (hu22.1.L Lw (by omega)) (by omega) (r := dn d) (f := 1) (c := 7) (lim := 100) q8 (by decide) (by decide) (by decide) (by decide)) rfl hS.2.2.2.2.1.1.1 hS.2.2.2.2.1.1.2 rfl ml_X3_70 (rk_of rfl) rfl (Nat.le_of_ble_eq_true rfl) rfl (fun r33 u33 hu33 => ?_)
    refine v_if_eq C 73 39 dX3_readResident_36 (by decide) rfl (fun h36 => ?_) (fun h36 => ?_)
    · refine v_iconst C dX3_readResident_73 ic_0 rfl ?_
      exact v_zret C hQ dX3_readResident_74 rfl (by unfold rRes; rw [if_pos q8]; exact RX.tr (Fw.tr hu22.1.q) (hu33.f h36 _))
    · obtain ⟨p1, d1, x1, f1, F1, z1, k1, L1⟩ := hu33.t h36
      obtain ⟨g1a, g1, -⟩ := rFact_ok hn hE.2.1 x1
      have D1 := rF_dn hn hE.2.1 (by omega) x1
      have y1 : rFact a n (wdW 7) (21 + dn d) 100 (tE a n p) (wlD d (dn d) k) = .inr (p1, d1) := x1
      refine v_aload_n C dX3_readResident_39 rfl rfl ?_
      refine v_aload C dX3_readResident_40 rfl rfl ?_
      refine v_ldcS C (fun U h => (hT 8 (by decide)).2 U h) dX3_readResident_42 rfl ?_
      refine v_iconst C dX3_readResident_44 ic_2 rfl ?_
      refine v_iload_n C dX3_readResident_45 rfl rfl ?_
      refine v_iconst C dX3_readResident_46 ic_1 rfl ?_
      refine v_isub C dX3_readResident_47 rfl ?_
      refine v_iV C dX3_readResident_48 mi_X3_readFact (c_X3_readFact hS hX hJ hT z1 k1 g1 L1 (by omega) (r := dn d) (f := 2) (c := 8) (lim := dn d) q8 (by decide) (by decide) (by omega) rfl) rfl hS.2.2.2.2.1.1.1 hS.2.2.2.2.1.1.2 rfl ml_X3_70 (rk_of rfl) rfl (Nat.le_of_ble_eq_true rfl) rfl (fun r48 u48 hu48 => ?_)
      refine v_if_eq C 73 54 dX3_readResident_51 (by decide) rfl (fun h51 => ?_) (fun h51 => ?_)
      · refine v_iconst C dX3_readResident_73 ic_0 rfl ?_
        exact v_zret C hQ dX3_readResident_74 rfl (by unfold rRes; rw [if_pos q8, y1]; exact RX.tr ((Fw.tr hu22.1.q).tr F1) (hu48.f h51 _))
      · obtain ⟨p2, d2, x2, f2, F2, z2, k2, L2⟩ := hu48.t h51
        obtain ⟨g2a, g2, -⟩ := rFact_ok hn g1 x2
        have D2 := rF_dn hn g1 (by omega) x2
        have y2 : rFact a n (wdW 8) (29 + dn d) (dn d) p1 d1 = .inr (p2, d2) := x2
        refine v_aload_n C dX3_readResident_54 rfl rfl ?_
        refine v_aload C dX3_readResident_55 rfl rfl ?_
        refine v_ldcS C (fun U h => (hT 9 (by decide)).2 U h) dX3_readResident_57 rfl ?_
        refine v_iconst C dX3_readResident_59 ic_3 rfl ?_
        refine v_sipush C dX3_readResident_60 sp_9999 rfl ?_
        refine v_iV C dX3_readResident_63 mi_X3_readFact (c_X3_readFact hS hX hJ hT z2 k2 g2 L2 (by omega) (r := dn d) (f := 3) (c := 9) (lim := 10000) q8 (by decide) (by decide) (by decide) (by decide)) rfl hS.2.2.2.2.1.1.1 hS.2.2.2.2.1.1.2 rfl ml_X3_70 (rk_of rfl) rfl (Nat.le_of_ble_eq_true rfl) rfl (fun r63 u63 hu63 => ?_)
        refine v_if_eq C 73 69 dX3_readResident_66 (by decide) rfl (fun h66 => ?_) (fun h66 => ?_)
        · refine v_iconst C dX3_readResident_73 ic_0 rfl ?_
          exact v_zret C hQ dX3_readResident_74 rfl (by unfold rRes; rw [if_pos q8, y1]; show RX μ a n (rB (rFact a n (wdW 8) (29 + dn d) (dn d) p1 d1) _) _ _; rw [y2]; exact RX.tr (((Fw.tr hu22.1.q).tr F1).tr F2) (h66 ▸ hu63))
        · refine v_iconst C dX3_readResident_69 ic_1 rfl ?_
          refine v_goto C 74 dX3_readResident_70 (by decide) ?_
          exact v_zret C hQ dX3_readResident_74 rfl (by unfold rRes; rw [if_pos q8, y1]; show RX μ a n (rB (rFact a n (wdW 8) (29 + dn d) (dn d) p1 d1) _) _ _; rw [y2]; exact RX.tr (((Fw.tr hu22.1.q).tr F1).tr F2) ((hu63.t h66).choose_spec.choose_spec.2.1 ▸ hu63))
  · have q8 : ¬ dn d < 8 := fun q => absurd ((if_pos q).symm.trans h8) (nI_ne_m1 (by omega))
    refine v_iconst C dX3_readResident_11 ic_0 rfl ?_
    exact v_zret C hQ dX3_readResident_12 rfl (by unfold rRes; rw [if_neg q8, if_neg q8]; exact ⟨Fq.rf _, hz, rfl, hk.1⟩)

set_option maxRecDepth 100000 in
set_option maxHeartbeats 4000000 in
theorem lp_X3_readItem_34 {w : WC} {x : Cy} {μ : Me} (hS : Sv w) (hX : Nx w) {fz : Option Nat} (hJ : Jz w fz) {sa sv : Nat → Nat} (hT : Tx w sa sv) {a : Nat → Nat} {n p : Nat} (hz : Tz μ a n) (hk : Tk μ a n p) (hp : p ≤ n) {d : Nat → Int32} (hL : LH μ 14 d) (hI : IvD d)  (C : Cx w x cX3_readItem 3 RX3 (some .boolean) (Rm 7 155)) (hQ : y_Q x = MQ (y_b x) (QI w (RX μ a n (rK a n p d 7 0))) (y_a x) (y_s x) 0 0 (AA w)) : ∀ (m i : Nat), 4 + 1 ≤ i + m → i ≤ 4 → (rK a n p d 7 0 = rS a n p d (4 - i) i) → V w x 3 μ 34 [(0, .ref (w_ad w 40)), (1, .ref (w_ad w 14)), (2, .int (nI i))] [] := by
  intro m
  induction m with
  | zero =>
    intro i  hm hi
    exact absurd hm (by omega)
  | succ m ih =>
    intro i  hm hi hr
    have hd := hI.n.1
    refine v_iload_n C dX3_readItem_34 rfl rfl ?_
    refine v_iconst C dX3_readItem_35 ic_4 rfl ?_
    refine v_icmp_ge C 63 39 dX3_readItem_36 (by decide) rfl (fun h36 => ?_) (fun h36 => ?_)
    · have g : i = 4 := by have := (le_n (a := 4) (b := i) (by omega) (by omega)).mp h36; omega
      refine v_aload_n C dX3_readItem_63 rfl rfl ?_
      refine v_ldcS C (fun U h => (hT 14 (by decide)).2 U h) dX3_readItem_64 rfl ?_
      refine v_iV C dX3_readItem_66 mi_X3_isWord (c_X3_isWord hS hJ hT hz hk hp (c := 14) (by decide)) rfl hS.2.2.2.2.1.1.1 hS.2.2.2.2.1.1.2 rfl ml_X3_39 (rk_of rfl) rfl (Nat.le_of_ble_eq_true rfl) rfl (px_k ?_)
      refine v_if_eq C 84 72 dX3_readItem_69 (by decide) rfl (fun h69 => ?_) (fun h69 => ?_)
      · have w69 : ¬ Wd a n p (wdW (14)) = true := fun q => absurd ((if_pos q).symm.trans h69) (by decide)
        refine v_iconst C dX3_readItem_84 ic_0 rfl ?_
        exact v_zret C hQ dX3_readItem_85 rfl (by rw [hr, g]; show RX μ a n (rS a n p d 0 4) _ _; rw [rS, if_neg w69]; exact ⟨Fq.rf _, hz, rfl, hk.1⟩)
      · have w69 : Wd a n p (wdW (14)) = true := by by_cases q : Wd a n p (wdW (14)) = true; exact q; exact absurd (if_neg q) h69
        have t1 := (Wd_i.mp w69).1
        refine v_aload_n C dX3_readItem_72 rfl rfl ?_
        refine v_aload_n C dX3_readItem_73 rfl rfl ?_
        refine v_iV C dX3_readItem_74 mi_X3_readVisits (c_X3_readVisits hS hX hJ hT hz hk hp hL hd t1) rfl hS.2.2.2.2.1.1.1 hS.2.2.2.2.1.1.2 rfl ml_X3_55 (rk_of rfl) rfl (Nat.le_of_ble_eq_true rfl) rfl (fun r74 u74 hu74 => ?_)
        refine v_if_eq C 84 80 dX3_readItem_77 (by decide) rfl (fun h77 => ?_) (fun h77 => ?_)
        · refine v_iconst C dX3_readItem_84 ic_0 rfl ?_
          exact v_zret C hQ dX3_readItem_85 rfl (by rw [hr, g]; show RX μ a n (rS a n p d 0 4) _ _; rw [rS, if_pos w69]; exact h77 ▸ hu74)
        · refine v_iconst C dX3_readItem_80 ic_1 rfl ?_
          refine v_goto C 85 dX3_readItem_81 (by decide) ?_
          exact v_zret C hQ dX3_readItem_85 rfl (by rw [hr, g]; show RX μ a n (rS a n p d 0 4) _ _; rw [rS, if_pos w69]; exact (hu74.t h77).choose_spec.choose_spec.2.1 ▸ hu74)
    · have g : i < 4 := by rcases Nat.lt_or_ge i (4) with q | q; exact q; exact absurd ((le_n (a := 4) (b := i) (by omega) (by omega)).mpr q) h36
      refine v_aload_n C dX3_readItem_39 rfl rfl ?_
      refine v_iload_n C dX3_readItem_40 rfl rfl ?_
      refine v_rS C dX3_readItem_41 ms_X3_settingWord (c_X3_settingWord hT g) rfl ml_X3_47 (rk_of rfl) rfl (Nat.le_of_ble_eq_true rfl) rfl (pr_k ?_)
      refine v_iV C dX3_readItem_44 mi_X3_isWord (c_X3_isWord hS hJ hT hz hk hp (c := 10 + i) (by omega)) rfl hS.2.2.2.2.1.1.1 hS.2.2.2.2.1.1.2 rfl ml_X3_39 (rk_of rfl) rfl (Nat.le_of_ble_eq_true rfl) rfl (px_k ?_)
      refine v_if_eq C 57 50 dX3_readItem_47 (by decide) rfl (fun h47 => ?_) (fun h47 => ?_)
      · have w47 : ¬ Wd a n p (wdW (10 + i)) = true := fun q => absurd ((if_pos q).symm.trans h47) (by decide)
        refine v_iincN C dX3_readItem_57 rfl (by decide) rfl ?_
        refine v_goto C 34 dX3_readItem_60 (by decide) ?_
        exact V.norm (ih (i + 1) (by omega) (by omega) (by rw [hr, show 4 - i = (4 - (i + 1)) + 1 by omega, rS, if_neg w47])) rfl
      · have w47 : Wd a n p (wdW (10 + i)) = true := by by_cases q : Wd a n p (wdW (10 + i)) = true; exact q; exact absurd (if_neg q) h47
        have t1 := (Wd_i.mp w47).1
        refine v_aload_n C dX3_readItem_50 rfl rfl ?_
        refine v_aload_n C dX3_readItem_51 rfl rfl ?_
        refine v_iload_n C dX3_readItem_52 rfl rfl ?_
        refine v_iV C dX3_readItem_53 mi_X3_readSetting (c_X3_readSetting hS hX hJ hT hz hk hp hL hd g t1) rfl hS.2.2.2.2.1.1.1 hS.2.2.2.2.1.1.2 rfl ml_X3_50 (rk_of rfl) rfl (Nat.le_of_ble_eq_true rfl) rfl (fun r53 u53 hu53 => ?_)
        exact v_zret C hQ dX3_readItem_56 hu53.z (by rw [hr, show 4 - i = (3 - i) + 1 by omega, rS, if_pos w47]; exact hu53)
set_option maxRecDepth 100000 in
set_option maxHeartbeats 4000000 in
theorem lp_X3_readItem_2 {w : WC} {x : Cy} {μ : Me} (hS : Sv w) (hX : Nx w) {fz : Option Nat} (hJ : Jz w fz) {sa sv : Nat → Nat} (hT : Tx w sa sv) {a : Nat → Nat} {n p : Nat} (hz : Tz μ a n) (hk : Tk μ a n p) (hp : p ≤ n) {d : Nat → Int32} (hL : LH μ 14 d) (hI : IvD d)  (C : Cx w x cX3_readItem 3 RX3 (some .boolean) (Rm 7 155)) (hQ : y_Q x = MQ (y_b x) (QI w (RX μ a n (rK a n p d 7 0))) (y_a x) (y_s x) 0 0 (AA w)) : ∀ (m i : Nat), 7 + 1 ≤ i + m → i ≤ 7 → (rK a n p d 7 0 = rK a n p d (7 - i) i) → V w x 3 μ 2 [(0, .ref (w_ad w 40)), (1, .ref (w_ad w 14)), (2, .int (nI i))] [] := by
  intro m
  induction m with
  | zero =>
    intro i  hm hi
    exact absurd hm (by omega)
  | succ m ih =>
    intro i  hm hi hr
    have hd := hI.n.1
    refine v_iload_n C dX3_readItem_2 rfl rfl ?_
    refine v_bipush C dX3_readItem_3 bp_7 rfl ?_
    refine v_icmp_ge C 32 8 dX3_readItem_5 (by decide) rfl (fun h5 => ?_) (fun h5 => ?_)
    · have g : i = 7 := by have := (le_n (a := 7) (b := i) (by omega) (by omega)).mp h5; omega
      refine v_iconst C dX3_readItem_32 ic_0 rfl ?_
      refine v_istore_n C dX3_readItem_33 (by decide) rfl ?_
      exact V.norm (lp_X3_readItem_34 hS hX hJ hT hz hk hp hL hI C hQ 5 0 (by omega) (by omega) (by rw [hr, g]; rfl)) rfl
    · have g : i < 7 := by rcases Nat.lt_or_ge i (7) with q | q; exact q; exact absurd ((le_n (a := 7) (b := i) (by omega) (by omega)).mpr q) h5
      refine v_aload_n C dX3_readItem_8 rfl rfl ?_
      refine v_iload_n C dX3_readItem_9 rfl rfl ?_
      refine v_rS C dX3_readItem_10 ms_X3_kindWord (c_X3_kindWord hT g) rfl ml_X3_35 (rk_of rfl) rfl (Nat.le_of_ble_eq_true rfl) rfl (pr_k ?_)
      refine v_iV C dX3_readItem_13 mi_X3_isWord (c_X3_isWord hS hJ hT hz hk hp (c := kwI i) (by unfold kwI; split <;> omega)) rfl hS.2.2.2.2.1.1.1 hS.2.2.2.2.1.1.2 rfl ml_X3_39 (rk_of rfl) rfl (Nat.le_of_ble_eq_true rfl) rfl (px_k ?_)
      refine v_if_eq C 26 19 dX3_readItem_16 (by decide) rfl (fun h16 => ?_) (fun h16 => ?_)
      · have w16 : ¬ Wd a n p (wdW (kwI i)) = true := fun q => absurd ((if_pos q).symm.trans h16) (by decide)
        refine v_iincN C dX3_readItem_26 rfl (by decide) rfl ?_
        refine v_goto C 2 dX3_readItem_29 (by decide) ?_
        exact V.norm (ih (i + 1) (by omega) (by omega) (by rw [hr, show 7 - i = (7 - (i + 1)) + 1 by omega, rK, if_neg w16])) rfl
      · have w16 : Wd a n p (wdW (kwI i)) = true := by by_cases q : Wd a n p (wdW (kwI i)) = true; exact q; exact absurd (if_neg q) h16
        have t1 := (Wd_i.mp w16).1
        refine v_aload_n C dX3_readItem_19 rfl rfl ?_
        refine v_aload_n C dX3_readItem_20 rfl rfl ?_
        refine v_iload_n C dX3_readItem_21 rfl rfl ?_
        refine v_iV C dX3_readItem_22 mi_X3_readResident (c_X3_readResident hS hX hJ hT hz hk hp hL hI t1) rfl hS.2.2.2.2.1.1.1 hS.2.2.2.2.1.1.2 rfl ml_X3_43 (rk_of rfl) rfl (Nat.le_of_ble_eq_true rfl) rfl (fun r22 u22 hu22 => ?_)
        exact v_zret C hQ dX3_readItem_25 hu22.z (by rw [hr, show 7 - i = (6 - i) + 1 by omega, rK, if_pos w16]; exact hu22)
set_option maxRecDepth 100000 in
set_option maxHeartbeats 4000000 in
theorem c_X3_readItem {l : Launch} {w : WC} {μ : Me} (hS : Sv w) (hX : Nx w) {fz : Option Nat} (hJ : Jz w fz) {sa sv : Nat → Nat} (hT : Tx w sa sv) {a : Nat → Nat} {n p : Nat} (hz : Tz μ a n) (hk : Tk μ a n p) (hp : p ≤ n) {d : Nat → Int32} (hL : LH μ 14 d) (hI : IvD d) : CtI l w yX3_readItem cX3_readItem 3 (some .boolean) (Rm 7 155) [.ref (w_ad w 40), .ref (w_ad w 14)] μ (RX μ a n (rK a n p d 7 0)) := by
  refine Ct.mk (own := RX3) rfl (by decide) (Nat.le_of_ble_eq_true rfl) (fun x hxl C hQ => ?_)
  subst hxl
  refine v_iconst C dX3_readItem_0 ic_0 rfl ?_
  refine v_istore_n C dX3_readItem_1 (by decide) rfl ?_
  exact V.norm (lp_X3_readItem_2 hS hX hJ hT hz hk hp hL hI C hQ 8 0 (by omega) (by omega) rfl) rfl

set_option maxRecDepth 100000 in
set_option maxHeartbeats 4000000 in
theorem lp_X3_readInto_11 {w : WC} {x : Cy} {μ : Me} (hS : Sv w) (hX : Nx w) {fz : Option Nat} (hJ : Jz w fz) {sa sv : Nat → Nat} (hT : Tx w sa sv) {a : Nat → Nat} {n : Nat} (hz : Tz μ a n) {d : Nat → Int32} (hL : LH μ 14 d) (hI : IvD d)  (C : Cx w x cX3_readInto 3 RX3 (some .int) (Rm 8 177)) (hQ : y_Q x = MQ (y_b x) (QI w (RA μ a n (rAll a n 121 1 0 d))) (y_a x) (y_s x) 0 0 (AA w)) : ∀ (m i : Nat) (u : Me) (p : Nat) (e : Nat → Int32), 121 + 1 ≤ i + m → i ≤ 121 → (Fq μ u) → (Tz u a n) → (Tk u a n p) → (p ≤ n) → (1 ≤ i) → (2 * i ≤ p + 2) → (LH u 14 e) → (IvD e) → (rAll a n 121 1 0 d = rAll a n (122 - i) i p e) → V w x 3 u 11 [(0, .ref (w_ad w 40)), (1, .ref (w_ad w 14)), (2, .int (nI i))] [] := by
  intro m
  induction m with
  | zero =>
    intro i u p e hm hi
    exact absurd hm (by omega)
  | succ m ih =>
    intro i u p e hm hi hF hz2 hk hp hi2 hip hL2 hI2 hr
    have hn := hz.2.1
    have rk := rK_ok (a := a) hn hp hI2 7 0 rfl
    refine v_iload_n C dX3_readInto_11 rfl rfl ?_
    refine v_bipush C dX3_readInto_12 bp_120 rfl ?_
    refine v_icmp_gt C 66 17 dX3_readInto_14 (by decide) rfl (fun h14 => ?_) (fun h14 => ?_)
    · exact absurd ((lt_n (a := 120) (b := i) (by decide) (by omega)).mp h14) (by omega)
    · refine v_aload_n C dX3_readInto_17 rfl rfl ?_
      refine v_aload_n C dX3_readInto_18 rfl rfl ?_
      refine v_iV C dX3_readInto_19 mi_X3_readItem (c_X3_readItem hS hX hJ hT hz2 hk hp hL2 hI2) rfl hS.2.2.2.2.1.1.1 hS.2.2.2.2.1.1.2 rfl ml_X3_25 (rk_of rfl) rfl (Nat.le_of_ble_eq_true rfl) rfl (fun r19 u19 hu19 => ?_)
      refine v_if_ne C 32 25 dX3_readInto_22 (by decide) rfl (fun h22 => ?_) (fun h22 => ?_)
      · obtain ⟨q, e2, x1, -, F1, z1, k1, L1⟩ := hu19.t h22
        rw [x1] at rk
        obtain ⟨r1, r2, r3⟩ := rk
        have r1 : p + 1 ≤ q := r1
        have r2 : q ≤ n := r2
        have hE := tE_s (a := a) hn r2
        have hB := tB_s (a := a) hn r2
        have hT4 := tT_r a n q
        refine v_aload_n C dX3_readInto_32 rfl rfl ?_
        refine g_X3_token C hS.2.2.2.2.1.1 dX3_readInto_33 fl_X3_32 rfl ?_
        refine v_eqi (k1.2.1) ?_
        refine v_if_ne C 41 39 dX3_readInto_36 (by decide) rfl (fun h36 => ?_) (fun h36 => ?_)
        · have t0 : ¬ tT a n q = 0 := fun h => h36 (by rw [h]; rfl)
          refine v_aload_n C dX3_readInto_41 rfl rfl ?_
          refine g_X3_token C hS.2.2.2.2.1.1 dX3_readInto_42 fl_X3_32 rfl ?_
          refine v_eqi (k1.2.1) ?_
          refine v_iconst C dX3_readInto_45 ic_3 rfl ?_
          refine v_icmp_eq C 56 49 dX3_readInto_46 (by decide) rfl (fun h46 => ?_) (fun h46 => ?_)
          · have t3 : tT a n q = 3 := (eq_n (a := tT a n q) (b := 3) (by omega) (by decide)).mp h46
            refine v_aload_n C dX3_readInto_56 rfl rfl ?_
            refine v_vV C dX3_readInto_57 mi_X3_step (c_X3_step hS z1 hE.2.1 (k1.2.2.1 (by omega))) rfl hS.2.2.2.2.1.1.1 hS.2.2.2.2.1.1.2 rfl ml_X3_22 (rk_of rfl) rfl (Nat.le_of_ble_eq_true rfl) rfl (fun u57 hu57 => ?_)
            refine v_iincN C dX3_readInto_60 rfl (by decide) rfl ?_
            refine v_goto C 11 dX3_readInto_63 (by decide) ?_
            exact V.norm (ih (i + 1) u57 (tE a n q) e2 (by omega) (by omega) ((hF.tr F1).tr hu57.1.q) (Fr_Tz hu57.1 z1) hu57.2 hE.2.1 (by omega) (by have := hE.2.2.1 t0; omega) (hu57.1.L L1 r3.n.1) r3 (by rw [hr, show 122 - i = (122 - (i + 1)) + 1 by omega, rAll, x1]; simp only [rB]; rw [if_neg t0, if_pos t3])) rfl
          · have t3 : ¬ tT a n q = 3 := fun h => h46 (by rw [h]; rfl)
            refine v_iconst C dX3_readInto_49 ic_m1 rfl ?_
            refine v_aload_n C dX3_readInto_50 rfl rfl ?_
            refine g_X3_begin C hS.2.2.2.2.1.1 dX3_readInto_51 fl_X3_29 rfl ?_
            refine v_eqi (k1.1) ?_
            refine v_isub C dX3_readInto_54 rfl ?_
            exact v_iret C hQ dX3_readInto_55 (by refine ⟨hF.tr F1, z1, ?_⟩; rw [hr, show 122 - i = (121 - i) + 1 by omega, rAll, x1]; simp only [rB]; rw [if_neg t0, if_neg t3]; rfl)
        · have t0 : tT a n q = 0 := (eq_n (a := tT a n q) (b := 0) (by omega) (by decide)).mp h36
          refine v_iload_n C dX3_readInto_39 rfl rfl ?_
          exact v_iret C hQ dX3_readInto_40 (by refine ⟨hF.tr F1, z1, ?_⟩; rw [hr, show 122 - i = (121 - i) + 1 by omega, rAll, x1]; simp only [rB]; rw [if_pos t0]; exact ⟨rfl, L1⟩)
      · refine v_iconst C dX3_readInto_25 ic_m1 rfl ?_
        refine v_aload_n C dX3_readInto_26 rfl rfl ?_
        refine g_X3_begin C hS.2.2.2.2.1.1 dX3_readInto_27 fl_X3_29 rfl ?_
        refine v_isub C dX3_readInto_30 rfl ?_
        exact v_iret C hQ dX3_readInto_31 (by obtain ⟨b, x1, e1, F1, z1⟩ := hu19.b h22; refine ⟨hF.tr F1, z1, ?_⟩; rw [hr, show 122 - i = (121 - i) + 1 by omega, rAll, x1]; show -1 - _ = -1 - _; rw [e1])
set_option maxRecDepth 100000 in
set_option maxHeartbeats 4000000 in
theorem c_X3_readInto {l : Launch} {w : WC} {μ : Me} (hS : Sv w) (hX : Nx w) {fz : Option Nat} (hJ : Jz w fz) {sa sv : Nat → Nat} (hT : Tx w sa sv) {a : Nat → Nat} {n : Nat} (hz : Tz μ a n) {d : Nat → Int32} (hL : LH μ 14 d) (hI : IvD d) : CtI l w yX3_readInto cX3_readInto 3 (some .int) (Rm 8 177) [.ref (w_ad w 40), .ref (w_ad w 14)] μ (RA μ a n (rAll a n 121 1 0 d)) := by
  refine Ct.mk (own := RX3) rfl (by decide) (Nat.le_of_ble_eq_true rfl) (fun x hxl C hQ => ?_)
  subst hxl
  have hn := hz.2.1
  have hd := hI.n.1
  refine v_aload_n C dX3_readInto_0 rfl rfl ?_
  refine v_iconst C dX3_readInto_1 ic_0 rfl ?_
  refine p_X3_end C hS.2.2.2.2.1.1 dX3_readInto_2 fl_X3_19 rfl ?_
  have E0 : Fr μ (up μ 40 4 0) := ⟨rfl, fun k h => up_n _ _ _ h, up_i _ _ _ (by decide)⟩
  refine v_aload_n C dX3_readInto_5 rfl rfl ?_
  refine v_vV C dX3_readInto_6 mi_X3_step (c_X3_step hS (Fr_Tz E0 hz) (p := 0) (Nat.zero_le n) (up_s _ _ _ _)) rfl hS.2.2.2.2.1.1.1 hS.2.2.2.2.1.1.2 rfl ml_X3_22 (rk_of rfl) rfl (Nat.le_of_ble_eq_true rfl) rfl (fun u6 hu6 => ?_)
  refine v_iconst C dX3_readInto_9 ic_1 rfl ?_
  refine v_istore_n C dX3_readInto_10 (by decide) rfl ?_
  exact V.norm (lp_X3_readInto_11 hS hX hJ hT hz hL hI C hQ 121 1 u6 0 d (by omega) (by omega) (E0.q.tr hu6.1.q) (Fr_Tz hu6.1 (Fr_Tz E0 hz)) hu6.2 (Nat.zero_le n) (by omega) (by omega) (hu6.1.L (E0.L hL hd) hd) hI rfl) rfl
