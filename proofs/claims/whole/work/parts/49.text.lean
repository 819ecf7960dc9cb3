set_option maxRecDepth 100000 in
set_option maxHeartbeats 4000000 in
theorem c_X3_readFact {l : Launch} {w : WC} {μ : Me} (hS : Sv w) (hX : Nx w) {fz : Option Nat} (hJ : Jz w fz) {sa sv : Nat → Nat} (hT : Tx w sa sv) {a : Nat → Nat} {n p : Nat} (hz : Tz μ a n) (hk : Tk μ a n p) (hp : p ≤ n) {d : Nat → Int32} (hL : LH μ 14 d) (hd : dn d ≤ 8) {r f c lim : Nat} (hr : r < 8) (hf : f < 5) (hc : c < 15) (hl : lim ≤ 10000) {b : Int32} (hb : b = nI lim - 1) : CtI l w yX3_readFact cX3_readFact 5 (some .boolean) (Rm 5 107) [.ref (w_ad w 40), .ref (w_ad w (14 + 3 + 2 + r)), .ref (sa c), .int (nI f), .int b] μ (RX μ a n (rFact a n (wdW c) (13 + 8 * f + r) lim p d)) := by
  refine Ct.mk (own := RX3) rfl (by decide) (Nat.le_of_ble_eq_true rfl) (fun x hxl C hQ => ?_)
  subst hxl
  have hn := hz.2.1
  have hE := tE_s (a := a) hz.2.1 hp
  have hE2 := tE_s (a := a) hz.2.1 hE.2.1
  have hT4 := tT_r a n p
  have hTT := tT_r a n (tE a n p)
  have hV := nvC_r a (tB a n (tE a n p)) (tE a n (tE a n p) - tB a n (tE a n p))
  refine v_aload_n C dX3_readFact_0 rfl rfl ?_
  refine v_aload_n C dX3_readFact_1 rfl rfl ?_
  refine v_iV C dX3_readFact_2 mi_X3_isWord (c_X3_isWord hS hJ hT hz hk hp hc) rfl hS.2.2.2.2.1.1.1 hS.2.2.2.2.1.1.2 rfl ml_X3_39 (rk_of rfl) rfl (Nat.le_of_ble_eq_true rfl) rfl (px_k ?_)
  refine v_if_ne C 10 8 dX3_readFact_5 (by decide) rfl (fun h5 => ?_) (fun h5 => ?_)
  · have w1 : Wd a n p (wdW c) = true := by by_cases q : Wd a n p (wdW c) = true; exact q; exact absurd (if_neg q) h5
    have t1 := (Wd_i.mp w1).1
    refine v_aload_n C dX3_readFact_10 rfl rfl ?_
    refine v_vV C dX3_readFact_11 mi_X3_step (c_X3_step hS hz hE.2.1 (hk.2.2.1 (by omega))) rfl hS.2.2.2.2.1.1.1 hS.2.2.2.2.1.1.2 rfl ml_X3_22 (rk_of rfl) rfl (Nat.le_of_ble_eq_true rfl) rfl (fun u11 hu11 => ?_)
    refine v_aload_n C dX3_readFact_14 rfl rfl ?_
    refine v_iconst C dX3_readFact_15 ic_0 rfl ?_
    refine v_iload C dX3_readFact_16 rfl rfl ?_
    refine v_iV C dX3_readFact_18 mi_X3_isNumber (c_X3_isNumber hS hX) rfl hS.2.2.2.2.1.1.1 hS.2.2.2.2.1.1.2 rfl ml_X3_78 (rk_of rfl) rfl (Nat.le_of_ble_eq_true rfl) rfl (px_k ?_)
    refine v_if_ne C 26 24 dX3_readFact_21 (by decide) rfl (fun h21 => ?_) (fun h21 => ?_)
    · have qq : tT a n (tE a n p) = 2 ∧ tV a n (tE a n p) < lim := by
        rw [hu11.2.2.1] at h21
        by_cases q : tT a n (tE a n p) = 2
        · rw [if_pos (by rw [q]; rfl), hu11.2.2.2.2 q, hb] at h21
          exact ⟨q, (wi_lim hV hl).mp h21⟩
        · exact absurd (if_neg (fun e => q ((eq_n (a := tT a n (tE a n p)) (b := 2) (by omega) (by decide)).mp e))) h21
      have zz : Tz (up u11 (14 + 3 + 2 + r) f (nI (tV a n (tE a n p)))) a n := Tz_up (Fr_Tz hu11.1 hz) (by omega) (by omega)
      refine v_aload_n C dX3_readFact_26 rfl rfl ?_
      refine v_iload_n C dX3_readFact_27 rfl rfl ?_
      refine v_aload_n C dX3_readFact_28 rfl rfl ?_
      refine g_X3_value C hS.2.2.2.2.1.1 dX3_readFact_29 fl_X3_82 rfl ?_
      refine v_eqi (hu11.2.2.2.2 qq.1) ?_
      refine v_vV C dX3_readFact_32 mi_X1_become (c_X1_become (hS.2.2.1.2.2.2.2.2 r hr) hf rfl) rfl (hS.2.2.1.2.2.2.2.2 r hr).1 (hS.2.2.1.2.2.2.2.2 r hr).2 rfl ml_X3_85 (rk_of rfl) rfl (Nat.le_of_ble_eq_true rfl) rfl (pv_k ?_)
      refine v_aload_n C dX3_readFact_35 rfl rfl ?_
      refine v_vV C dX3_readFact_36 mi_X3_step (c_X3_step hS zz hE2.2.1 ((congrFun (up_n _ _ _ (by omega)) 4).trans (hu11.2.2.2.1 (by omega)))) rfl hS.2.2.2.2.1.1.1 hS.2.2.2.2.1.1.2 rfl ml_X3_22 (rk_of rfl) rfl (Nat.le_of_ble_eq_true rfl) rfl (fun u36 hu36 => ?_)
      refine v_iconst C dX3_readFact_39 ic_1 rfl ?_
      exact v_zret C hQ dX3_readFact_40 rfl (by unfold rFact; rw [if_pos w1, if_pos qq]; exact ⟨(Fq_up hu11.1.q (by omega) (by omega)).tr hu36.1.q, Fr_Tz hu36.1 zz, rfl, hu36.2, hu36.1.L (LH_upR (hu11.1.L hL hd) hd hr hf _) (by rw [dn_up (by omega)]; exact hd)⟩)
    · have qq : ¬ (tT a n (tE a n p) = 2 ∧ tV a n (tE a n p) < lim) := by
        intro ⟨q1, q2⟩
        rw [hu11.2.2.1, if_pos (by rw [q1]; rfl), hu11.2.2.2.2 q1, hb] at h21
        exact absurd h21 ((wi_lim hV hl).mpr q2)
      refine v_iconst C dX3_readFact_24 ic_0 rfl ?_
      exact v_zret C hQ dX3_readFact_25 rfl (by unfold rFact; rw [if_pos w1, if_neg qq]; exact ⟨hu11.1.q, Fr_Tz hu11.1 hz, rfl, hu11.2.1⟩)
  · have w0 : ¬ Wd a n p (wdW c) = true := fun q => absurd ((if_pos q).symm.trans h5) (by decide)
    refine v_iconst C dX3_readFact_8 ic_1 rfl ?_
    exact v_zret C hQ dX3_readFact_9 rfl (by unfold rFact; rw [if_neg w0]; exact ⟨Fq.rf _, hz, rfl, hk, hL⟩)

set_option maxRecDepth 100000 in
set_option maxHeartbeats 4000000 in
theorem c_X3_readSetting {l : Launch} {w : WC} {μ : Me} (hS : Sv w) (hX : Nx w) {fz : Option Nat} (hJ : Jz w fz) {sa sv : Nat → Nat} (hT : Tx w sa sv) {a : Nat → Nat} {n p : Nat} (hz : Tz μ a n) (hk : Tk μ a n p) (hp : p ≤ n) {d : Nat → Int32} (hL : LH μ 14 d) (hd : dn d ≤ 8) {i : Nat} (hi : i < 4) (t1 : tT a n p = 1) : CtI l w yX3_readSetting cX3_readSetting 3 (some .boolean) (Rm 2 44) [.ref (w_ad w 40), .ref (w_ad w 14), .int (nI i)] μ (RX μ a n (rSet a n i p d)) := by
  refine Ct.mk (own := RX3) rfl (by decide) (Nat.le_of_ble_eq_true rfl) (fun x hxl C hQ => ?_)
  subst hxl
  have hn := hz.2.1
  have hE := tE_s (a := a) hz.2.1 hp
  have hE2 := tE_s (a := a) hz.2.1 hE.2.1
  have hT4 := tT_r a n p
  have hTT := tT_r a n (tE a n p)
  have hV := nvC_r a (tB a n (tE a n p)) (tE a n (tE a n p) - tB a n (tE a n p))
  refine v_aload_n C dX3_readSetting_0 rfl rfl ?_
  refine v_vV C dX3_readSetting_1 mi_X3_step (c_X3_step hS hz hE.2.1 (hk.2.2.1 (by omega))) rfl hS.2.2.2.2.1.1.1 hS.2.2.2.2.1.1.2 rfl ml_X3_22 (rk_of rfl) rfl (Nat.le_of_ble_eq_true rfl) rfl (fun u1 hu1 => ?_)
  refine v_aload_n C dX3_readSetting_4 rfl rfl ?_
  refine v_iload_n C dX3_readSetting_5 rfl rfl ?_
  refine v_iN C dX3_readSetting_6 ms_X4_leastSetting c_X4_leastSetting rfl (fun U h => nw_X3_91 hX h) (rk_of rfl) rfl (Nat.le_of_ble_eq_true rfl) rfl (px_k ?_)
  refine v_iload_n C dX3_readSetting_9 rfl rfl ?_
  refine v_iN C dX3_readSetting_10 ms_X4_mostSetting c_X4_mostSetting rfl (fun U h => nw_X3_94 hX h) (rk_of rfl) rfl (Nat.le_of_ble_eq_true rfl) rfl (px_k ?_)
  refine v_iV C dX3_readSetting_13 mi_X3_isNumber (c_X3_isNumber hS hX) rfl hS.2.2.2.2.1.1.1 hS.2.2.2.2.1.1.2 rfl ml_X3_78 (rk_of rfl) rfl (Nat.le_of_ble_eq_true rfl) rfl (px_k ?_)
  refine v_if_ne C 21 19 dX3_readSetting_16 (by decide) rfl (fun h16 => ?_) (fun h16 => ?_)
  · have qq : (tT a n (tE a n p) = 2 ∧ loN i ≤ tV a n (tE a n p) ∧ tV a n (tE a n p) ≤ hiN i) := by
      rw [hu1.2.2.1] at h16
      by_cases q : tT a n (tE a n p) = 2
      · rw [if_pos (by rw [q]; rfl), hu1.2.2.2.2 q, lo_n hi, hi_n hi] at h16
        exact ⟨q, (wi_2 hV (lo_r i) (hi_r i)).mp h16⟩
      · exact absurd (if_neg (fun e => q ((eq_n (a := tT a n (tE a n p)) (b := 2) (by omega) (by decide)).mp e))) h16
    have zz : Tz (up u1 (14 + 1) i (nI (tV a n (tE a n p)))) a n := Tz_up (Fr_Tz hu1.1 hz) (by decide) (by decide)
    refine v_aload_n C dX3_readSetting_21 rfl rfl ?_
    refine g_X0_settings C hS.2.2.1.1 dX3_readSetting_22 fl_X3_97 rfl ?_
    refine v_iload_n C dX3_readSetting_25 rfl rfl ?_
    refine v_aload_n C dX3_readSetting_26 rfl rfl ?_
    refine g_X3_value C hS.2.2.2.2.1.1 dX3_readSetting_27 fl_X3_82 rfl ?_
    refine v_eqi (hu1.2.2.2.2 qq.1) ?_
    refine s_I C hS.2.2.1.2.1 (by decide) dX3_readSetting_30 (i) rfl hi rfl ?_
    refine v_aload_n C dX3_readSetting_31 rfl rfl ?_
    refine v_vV C dX3_readSetting_32 mi_X3_step (c_X3_step hS zz hE2.2.1 ((congrFun (up_n _ _ _ (by decide)) 4).trans (hu1.2.2.2.1 (by omega)))) rfl hS.2.2.2.2.1.1.1 hS.2.2.2.2.1.1.2 rfl ml_X3_22 (rk_of rfl) rfl (Nat.le_of_ble_eq_true rfl) rfl (fun u32 hu32 => ?_)
    refine v_iconst C dX3_readSetting_35 ic_1 rfl ?_
    exact v_zret C hQ dX3_readSetting_36 rfl (by unfold rSet; rw [if_pos qq]; exact ⟨(Fq_up hu1.1.q (by decide) (by decide)).tr hu32.1.q, Fr_Tz hu32.1 zz, rfl, hu32.2, hu32.1.L (LH_upS (hu1.1.L hL hd) hd hi _) (by rw [dn_up (by omega)]; exact hd)⟩)
  · have qq : ¬ (tT a n (tE a n p) = 2 ∧ loN i ≤ tV a n (tE a n p) ∧ tV a n (tE a n p) ≤ hiN i) := by
      intro ⟨q1, q2⟩
      rw [hu1.2.2.1, if_pos (by rw [q1]; rfl), hu1.2.2.2.2 q1, lo_n hi, hi_n hi] at h16
      exact absurd h16 ((wi_2 hV (lo_r i) (hi_r i)).mpr q2)
    refine v_iconst C dX3_readSetting_19 ic_0 rfl ?_
    exact v_zret C hQ dX3_readSetting_20 rfl (by unfold rSet; rw [if_neg qq]; exact ⟨hu1.1.q, Fr_Tz hu1.1 hz, rfl, hu1.2.1⟩)

set_option maxRecDepth 100000 in
set_option maxHeartbeats 4000000 in
theorem c_X3_readVisits {l : Launch} {w : WC} {μ : Me} (hS : Sv w) (hX : Nx w) {fz : Option Nat} (hJ : Jz w fz) {sa sv : Nat → Nat} (hT : Tx w sa sv) {a : Nat → Nat} {n p : Nat} (hz : Tz μ a n) (hk : Tk μ a n p) (hp : p ≤ n) {d : Nat → Int32} (hL : LH μ 14 d) (hd : dn d ≤ 8) (t1 : tT a n p = 1) : CtI l w yX3_readVisits cX3_readVisits 3 (some .boolean) (Rm 2 44) [.ref (w_ad w 40), .ref (w_ad w 14)] μ (RX μ a n (rVis a n p d)) := by
  refine Ct.mk (own := RX3) rfl (by decide) (Nat.le_of_ble_eq_true rfl) (fun x hxl C hQ => ?_)
  subst hxl
  have hn := hz.2.1
  have hE := tE_s (a := a) hz.2.1 hp
  have hE2 := tE_s (a := a) hz.2.1 hE.2.1
  have hT4 := tT_r a n p
  have hTT := tT_r a n (tE a n p)
  have hV := nvC_r a (tB a n (tE a n p)) (tE a n (tE a n p) - tB a n (tE a n p))
  have hE3 := tE_s (a := a) hz.2.1 hE2.2.1
  have hT3 := tT_r a n (tE a n (tE a n p))
  have hV2 := nvC_r a (tB a n (tE a n (tE a n p))) (tE a n (tE a n (tE a n p)) - tB a n (tE a n (tE a n p)))
  refine v_aload_n C dX3_readVisits_0 rfl rfl ?_
  refine v_vV C dX3_readVisits_1 mi_X3_step (c_X3_step hS hz hE.2.1 (hk.2.2.1 (by omega))) rfl hS.2.2.2.2.1.1.1 hS.2.2.2.2.1.1.2 rfl ml_X3_22 (rk_of rfl) rfl (Nat.le_of_ble_eq_true rfl) rfl (fun u1 hu1 => ?_)
  refine v_aload_n C dX3_readVisits_4 rfl rfl ?_
  refine v_iconst C dX3_readVisits_5 ic_0 rfl ?_
  refine v_iconst C dX3_readVisits_6 ic_5 rfl ?_
  refine v_iV C dX3_readVisits_7 mi_X3_isNumber (c_X3_isNumber hS hX) rfl hS.2.2.2.2.1.1.1 hS.2.2.2.2.1.1.2 rfl ml_X3_78 (rk_of rfl) rfl (Nat.le_of_ble_eq_true rfl) rfl (px_k ?_)
  refine v_if_ne C 15 13 dX3_readVisits_10 (by decide) rfl (fun h10 => ?_) (fun h10 => ?_)
  · have q10 : (tT a n (tE a n p) = 2 ∧ tV a n (tE a n p) < 6) := by
      rw [hu1.2.2.1] at h10
      by_cases q : tT a n (tE a n p) = 2
      · rw [if_pos (by rw [q]; rfl), hu1.2.2.2.2 q] at h10
        exact ⟨q, (wi_lim (lim := 6) hV (by decide)).mp h10⟩
      · exact absurd (if_neg (fun e => q ((eq_n (a := tT a n (tE a n p)) (b := 2) (by omega) (by decide)).mp e))) h10
    refine v_aload_n C dX3_readVisits_15 rfl rfl ?_
    refine g_X3_value C hS.2.2.2.2.1.1 dX3_readVisits_16 fl_X3_82 rfl ?_
    refine v_eqi (hu1.2.2.2.2 q10.1) ?_
    refine v_istore_n C dX3_readVisits_19 (by decide) rfl ?_
    refine v_aload_n C dX3_readVisits_20 rfl rfl ?_
    refine v_vV C dX3_readVisits_21 mi_X3_step (c_X3_step hS (Fr_Tz hu1.1 hz) hE2.2.1 (hu1.2.2.2.1 (by omega))) rfl hS.2.2.2.2.1.1.1 hS.2.2.2.2.1.1.2 rfl ml_X3_22 (rk_of rfl) rfl (Nat.le_of_ble_eq_true rfl) rfl (fun u21 hu21 => ?_)
    refine v_aload_n C dX3_readVisits_24 rfl rfl ?_
    refine v_iconst C dX3_readVisits_25 ic_0 rfl ?_
    refine v_sipush C dX3_readVisits_26 sp_255 rfl ?_
    refine v_iV C dX3_readVisits_29 mi_X3_isNumber (c_X3_isNumber hS hX) rfl hS.2.2.2.2.1.1.1 hS.2.2.2.2.1.1.2 rfl ml_X3_78 (rk_of rfl) rfl (Nat.le_of_ble_eq_true rfl) rfl (px_k ?_)
    refine v_if_ne C 37 35 dX3_readVisits_32 (by decide) rfl (fun h32 => ?_) (fun h32 => ?_)
    · have q32 : (tT a n (tE a n (tE a n p)) = 2 ∧ tV a n (tE a n (tE a n p)) < 256) := by
        rw [hu21.2.2.1] at h32
        by_cases q : tT a n (tE a n (tE a n p)) = 2
        · rw [if_pos (by rw [q]; rfl), hu21.2.2.2.2 q] at h32
          exact ⟨q, (wi_lim (lim := 256) hV2 (by decide)).mp h32⟩
        · exact absurd (if_neg (fun e => q ((eq_n (a := tT a n (tE a n (tE a n p))) (b := 2) (by omega) (by decide)).mp e))) h32
      have zz : Tz (up u21 (14 + 2) (tV a n (tE a n p)) (nI (tV a n (tE a n (tE a n p))))) a n := Tz_up (Fr_Tz hu21.1 (Fr_Tz hu1.1 hz)) (by decide) (by decide)
      refine v_aload_n C dX3_readVisits_37 rfl rfl ?_
      refine g_X0_list C hS.2.2.1.1 dX3_readVisits_38 fl_X3_100 rfl ?_
      refine v_iload_n C dX3_readVisits_41 rfl rfl ?_
      refine v_aload_n C dX3_readVisits_42 rfl rfl ?_
      refine g_X3_value C hS.2.2.2.2.1.1 dX3_readVisits_43 fl_X3_82 rfl ?_
      refine v_eqi (hu21.2.2.2.2 q32.1) ?_
      refine s_I C hS.2.2.1.2.2.1 (by decide) dX3_readVisits_46 (tV a n (tE a n p)) rfl q10.2 rfl ?_
      refine v_aload_n C dX3_readVisits_47 rfl rfl ?_
      refine v_vV C dX3_readVisits_48 mi_X3_step (c_X3_step hS zz hE3.2.1 ((congrFun (up_n _ _ _ (by decide)) 4).trans (hu21.2.2.2.1 (by omega)))) rfl hS.2.2.2.2.1.1.1 hS.2.2.2.2.1.1.2 rfl ml_X3_22 (rk_of rfl) rfl (Nat.le_of_ble_eq_true rfl) rfl (fun u48 hu48 => ?_)
      refine v_iconst C dX3_readVisits_51 ic_1 rfl ?_
      exact v_zret C hQ dX3_readVisits_52 rfl (by unfold rVis; rw [if_pos q10, if_pos q32]; exact ⟨(Fq_up (hu1.1.q.tr hu21.1.q) (by decide) (by decide)).tr hu48.1.q, Fr_Tz hu48.1 zz, rfl, hu48.2, hu48.1.L (LH_upL (hu21.1.L (hu1.1.L hL hd) hd) hd q10.2 _) (by rw [dn_up (by omega)]; exact hd)⟩)
    · have q32 : ¬ (tT a n (tE a n (tE a n p)) = 2 ∧ tV a n (tE a n (tE a n p)) < 256) := by
        intro ⟨q1, q2⟩
        rw [hu21.2.2.1, if_pos (by rw [q1]; rfl), hu21.2.2.2.2 q1] at h32
        exact absurd h32 ((wi_lim (lim := 256) hV2 (by decide)).mpr q2)
      refine v_iconst C dX3_readVisits_35 ic_0 rfl ?_
      exact v_zret C hQ dX3_readVisits_36 rfl (by unfold rVis; rw [if_pos q10, if_neg q32]; exact ⟨hu1.1.q.tr hu21.1.q, Fr_Tz hu21.1 (Fr_Tz hu1.1 hz), rfl, hu21.2.1⟩)
  · have q10 : ¬ (tT a n (tE a n p) = 2 ∧ tV a n (tE a n p) < 6) := by
      intro ⟨q1, q2⟩
      rw [hu1.2.2.1, if_pos (by rw [q1]; rfl), hu1.2.2.2.2 q1] at h10
      exact absurd h10 ((wi_lim (lim := 6) hV (by decide)).mpr q2)
    refine v_iconst C dX3_readVisits_13 ic_0 rfl ?_
    exact v_zret C hQ dX3_readVisits_14 rfl (by unfold rVis; rw [if_neg q10]; exact ⟨hu1.1.q, Fr_Tz hu1.1 hz, rfl, hu1.2.1⟩)
