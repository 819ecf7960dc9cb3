set_option maxRecDepth 100000 in
set_option maxHeartbeats 4000000 in
theorem c_X5_item {l : Launch} {w : WC} {μ : Me} (hM : Md w) {a : Nat → Nat} {n p : Nat} (hz : Zm μ a n) (hp : p ≤ n) (hk : Tm μ a n p) (hf0 : μ.1 0 12 = -1) (hI : IvD (μ.1 1)) : CtV l w yX5_item cX5_item 3 (Rm 5 113) [.ref (w_ad w 0)] μ (MX μ a n (rK a n p (μ.1 1) 7 0)) := by
  refine Ct.mk (own := RX5) rfl (by decide) (Nat.le_of_ble_eq_true rfl) (fun x hxl C hQ => ?_)
  subst hxl
  have hn := hz.2.1
  have hE := tE_s (a := a) hn hp
  have hB := tB_s (a := a) hn hp
  have hT4 := tT_r a n p
  refine v_aload_n C dX5_item_0 rfl rfl ?_
  refine v_iV C dX5_item_1 mi_X5_kindHere (c_X5_kindHere hM hn hp hk) rfl hM.1.1 hM.1.2 rfl ml_X5_271 (rk_of rfl) rfl (Nat.le_of_ble_eq_true rfl) rfl (px_k ?_)
  refine v_istore_n C dX5_item_4 (by decide) rfl ?_
  refine v_aload_n C dX5_item_5 rfl rfl ?_
  refine v_iV C dX5_item_6 mi_X5_setHere (c_X5_setHere hM hn hp hk) rfl hM.1.1 hM.1.2 rfl ml_X5_274 (rk_of rfl) rfl (Nat.le_of_ble_eq_true rfl) rfl (px_k ?_)
  refine v_istore_n C dX5_item_9 (by decide) rfl ?_
  refine v_iload_n C dX5_item_10 rfl rfl ?_
  refine v_if_lt C 22 14 dX5_item_11 (by decide) rfl (fun h11 => ?_) (fun h11 => ?_)
  · obtain ⟨k1, k2⟩ | ⟨j, k1, k2, k3, t1⟩ := kh_c a n p (μ.1 1) 7 0
    rotate_left
    · exact absurd h11 (by rw [k2]; exact nI_pos (by omega))
    refine v_iload_n C dX5_item_22 rfl rfl ?_
    refine v_if_lt C 77 26 dX5_item_23 (by decide) rfl (fun h23 => ?_) (fun h23 => ?_)
    · obtain ⟨s1, s2⟩ | ⟨i, s1, s2, s3, t1⟩ := se_c a n p (μ.1 1) 4 0
      rotate_left
      · exact absurd h23 (by rw [s2]; exact nI_pos (by omega))
      refine v_aload_n C dX5_item_77 rfl rfl ?_
      refine v_ldc2 C dX5_item_78 cn_X5_280 rfl ?_
      refine v_iV C dX5_item_81 mi_X5_isWord (c_X5_isWord hM hn hp hk (c := 14) (by decide) (by decide +kernel)) rfl hM.1.1 hM.1.2 rfl ml_X5_228 (rk_of rfl) rfl (Nat.le_of_ble_eq_true rfl) rfl (px_k ?_)
      refine v_if_eq C 94 87 dX5_item_84 (by decide) rfl (fun h84 => ?_) (fun h84 => ?_)
      · have w0 : ¬ Wd a n p (wdW 14) = true := fun q => absurd ((if_pos q).symm.trans h84) (by decide)
        refine v_aload_n C dX5_item_94 rfl rfl ?_
        refine v_vV C dX5_item_95 mi_X5_wrongHere (c_X5_wrongHere hM) rfl hM.1.1 hM.1.2 rfl ml_X5_252 (rk_of rfl) rfl (Nat.le_of_ble_eq_true rfl) rfl (pv_k ?_)
        exact v_vret C hQ dX5_item_98 (by rw [k2, s2]; show MX μ a n (if Wd a n p (wdW 14) = true then rVis a n p (μ.1 1) else .inl (tB a n p)) _; rw [if_neg w0, wr_m hf0, hk.1]; exact ⟨Gm_12 (Gm.rf _) _, hB.2, up_s _ _ _ _⟩)
      · have w0 : Wd a n p (wdW 14) = true := Decidable.not_not.mp (fun q => h84 (if_neg q))
        have t1 := (Wd_i.mp w0).1
        refine v_aload_n C dX5_item_87 rfl rfl ?_
        refine v_vV C dX5_item_88 mi_X5_visitsHere (c_X5_visitsHere hM hz hp hk hf0 t1) rfl hM.1.1 hM.1.2 rfl ml_X5_282 (rk_of rfl) rfl (Nat.le_of_ble_eq_true rfl) rfl (fun u88 hu88 => ?_)
        refine v_goto C 98 dX5_item_91 (by decide) ?_
        exact v_vret C hQ dX5_item_98 (by rw [k2, s2]; show MX μ a n (if Wd a n p (wdW 14) = true then rVis a n p (μ.1 1) else .inl (tB a n p)) _; rw [if_pos w0]; exact hu88)
    · obtain ⟨s1, s2⟩ | ⟨i, s1, s2, s3, t1⟩ := se_c a n p (μ.1 1) 4 0
      · exact absurd (show seH a n p 4 0 < 0 by rw [s1]; decide) h23
      simp only [s2]
      refine v_aload_n C dX5_item_26 rfl rfl ?_
      refine v_vV C dX5_item_27 mi_X5_next (c_X5_next hM hz hE.2.1 (hk.2.2.1 (by omega))) rfl hM.1.1 hM.1.2 rfl ml_X5_255 (rk_of rfl) rfl (Nat.le_of_ble_eq_true rfl) rfl (fun u27 hu27 => ?_)
      refine v_aload_n C dX5_item_30 rfl rfl ?_
      refine g_X5_d C hM.1 dX5_item_31 fl_X5_7 rfl ?_
      refine v_iconst C dX5_item_34 ic_3 rfl ?_
      refine v_iload_n C dX5_item_35 rfl rfl ?_
      refine v_iadd C dX5_item_36 rfl ?_
      refine v_aload_n C dX5_item_37 rfl rfl ?_
      refine v_iload_n C dX5_item_38 rfl rfl ?_
      refine v_iconst C dX5_item_39 ic_3 rfl ?_
      refine v_icmp_ne C 47 43 dX5_item_40 (by decide) rfl (fun h40 => ?_) (fun h40 => ?_)
      · have e3 : ¬ i = 3 := fun h => h40 (by rw [h]; rfl)
        refine v_iconst C dX5_item_47 ic_0 rfl ?_
        refine v_iload_n C dX5_item_48 rfl rfl ?_
        refine v_iconst C dX5_item_49 ic_2 rfl ?_
        refine v_icmp_ge C 58 53 dX5_item_50 (by decide) rfl (fun h50 => ?_) (fun h50 => ?_)
        · have g2 : 2 ≤ i := (le_n (a := 2) (b := i) (by decide) (by omega)).mp h50
          refine v_iload_n C dX5_item_58 rfl rfl ?_
          refine v_iconst C dX5_item_59 ic_2 rfl ?_
          refine v_icmp_ne C 68 63 dX5_item_60 (by decide) rfl (fun h60 => ?_) (fun h60 => ?_)
          · exact absurd ((show i = 2 by omega) ▸ rfl) h60
          · have e2 : i = 2 := (eq_n (a := i) (b := 2) (by omega) (by decide)).mp h60
            refine v_bipush C dX5_item_63 bp_8 rfl ?_
            refine v_goto C 70 dX5_item_65 (by decide) ?_
            refine v_iV C dX5_item_70 mi_X5_numberHere (c_X5_numberHere hM (Fm_Zm hu27.1 hz) hE.2.1 hu27.2 ((hu27.1.2 12 (by decide) (by decide) (by decide)).trans hf0) (lo := loN i) (lim := hiN i + 1) (lo_r i) (hi_r1 i) (lo_0 e3) (hi_8 e2)) rfl hM.1.1 hM.1.2 rfl ml_X5_258 (rk_of rfl) rfl (Nat.le_of_ble_eq_true rfl) rfl (fun r70 u70 hu70 => ?_)
            refine s_I C hM.2.1 (by decide) dX5_item_73 (3 + i) (nI_add 3 i) (by omega) rfl ?_
            refine v_goto C 98 dX5_item_74 (by decide) ?_
            exact v_vret C hQ dX5_item_98 (by rw [k2, s3]; exact set_y hn hp hf0 hu27 hu70)
        · have e2 : i < 2 := by rcases Nat.lt_or_ge i 2 with q | q; exact q; exact absurd ((le_n (a := 2) (b := i) (by decide) (by omega)).mpr q) h50
          refine v_bipush C dX5_item_53 bp_20 rfl ?_
          refine v_goto C 70 dX5_item_55 (by decide) ?_
          refine v_iV C dX5_item_70 mi_X5_numberHere (c_X5_numberHere hM (Fm_Zm hu27.1 hz) hE.2.1 hu27.2 ((hu27.1.2 12 (by decide) (by decide) (by decide)).trans hf0) (lo := loN i) (lim := hiN i + 1) (lo_r i) (hi_r1 i) (lo_0 e3) (hi_20 e2)) rfl hM.1.1 hM.1.2 rfl ml_X5_258 (rk_of rfl) rfl (Nat.le_of_ble_eq_true rfl) rfl (fun r70 u70 hu70 => ?_)
          refine s_I C hM.2.1 (by decide) dX5_item_73 (3 + i) (nI_add 3 i) (by omega) rfl ?_
          refine v_goto C 98 dX5_item_74 (by decide) ?_
          exact v_vret C hQ dX5_item_98 (by rw [k2, s3]; exact set_y hn hp hf0 hu27 hu70)
      · have e3 : i = 3 := (eq_n (a := i) (b := 3) (by omega) (by decide)).mp h40
        refine v_iconst C dX5_item_43 ic_1 rfl ?_
        refine v_goto C 48 dX5_item_44 (by decide) ?_
        refine v_iload_n C dX5_item_48 rfl rfl ?_
        refine v_iconst C dX5_item_49 ic_2 rfl ?_
        refine v_icmp_ge C 58 53 dX5_item_50 (by decide) rfl (fun h50 => ?_) (fun h50 => ?_)
        · have g2 : 2 ≤ i := (le_n (a := 2) (b := i) (by decide) (by omega)).mp h50
          refine v_iload_n C dX5_item_58 rfl rfl ?_
          refine v_iconst C dX5_item_59 ic_2 rfl ?_
          refine v_icmp_ne C 68 63 dX5_item_60 (by decide) rfl (fun h60 => ?_) (fun h60 => ?_)
          · refine v_bipush C dX5_item_68 bp_12 rfl ?_
            refine v_iV C dX5_item_70 mi_X5_numberHere (c_X5_numberHere hM (Fm_Zm hu27.1 hz) hE.2.1 hu27.2 ((hu27.1.2 12 (by decide) (by decide) (by decide)).trans hf0) (lo := loN i) (lim := hiN i + 1) (lo_r i) (hi_r1 i) (lo_1 e3) (hi_12 e3)) rfl hM.1.1 hM.1.2 rfl ml_X5_258 (rk_of rfl) rfl (Nat.le_of_ble_eq_true rfl) rfl (fun r70 u70 hu70 => ?_)
            refine s_I C hM.2.1 (by decide) dX5_item_73 (3 + i) (nI_add 3 i) (by omega) rfl ?_
            refine v_goto C 98 dX5_item_74 (by decide) ?_
            exact v_vret C hQ dX5_item_98 (by rw [k2, s3]; exact set_y hn hp hf0 hu27 hu70)
          · exact absurd h60 (by rw [e3]; decide)
        · exact absurd (by rw [e3]; decide) h50
  · obtain ⟨k1, k2⟩ | ⟨j, k1, k2, k3, t1⟩ := kh_c a n p (μ.1 1) 7 0
    · exact absurd (show khS a n p 7 0 < 0 by rw [k1]; decide) h11
    refine v_aload_n C dX5_item_14 rfl rfl ?_
    refine v_iload_n C dX5_item_15 rfl rfl ?_
    refine v_vV C dX5_item_16 mi_X5_residentHere (c_X5_residentHere hM hz hp hk hf0 hI (k := khS a n p 7 0) t1) rfl hM.1.1 hM.1.2 rfl ml_X5_277 (rk_of rfl) rfl (Nat.le_of_ble_eq_true rfl) rfl (fun u16 hu16 => ?_)
    refine v_goto C 98 dX5_item_19 (by decide) ?_
    exact v_vret C hQ dX5_item_98 (by rw [k3, ← k2]; exact hu16)

set_option maxRecDepth 100000 in
set_option maxHeartbeats 4000000 in
theorem lp_X5_items_20 {w : WC} {x : Cy} {μ : Me} (hM : Md w) {a : Nat → Nat} {n : Nat} (hz : Zm μ a n) (hI : IvD (μ.1 1))  (C : Cx w x cX5_items 2 RX5 (some .int) (Rm 6 135)) (hQ : y_Q x = MQ (y_b x) (QI w (MA μ (rAll a n 121 1 0 (μ.1 1)))) (y_a x) (y_s x) 0 0 (AA w)) : ∀ (m i : Nat) (u : Me) (p : Nat) (e : Nat → Int32), 121 + 1 ≤ i + m → i ≤ 121 → (Gm μ u) → (MXm a n (rK a n p e 7 0) u) → (p ≤ n) → (1 ≤ i) → (2 * i ≤ p + 2) → (IvD e) → (rAll a n 121 1 0 (μ.1 1) = rB (rK a n p e 7 0) (rC a n (121 - i) i)) → V w x 2 u 20 [(0, .ref (w_ad w 0)), (1, .int (nI i))] [] := by
  intro m
  induction m with
  | zero =>
    intro i u p e hm hi
    exact absurd hm (by omega)
  | succ m ih =>
    intro i u p e hm hi hG hX hp hi2 hip hI2 hr
    have hn := hz.2.1
    have rk := rK_ok (a := a) hn hp hI2 7 0 rfl
    refine v_aload_n C dX5_items_20 rfl rfl ?_
    refine g_X5_fault C hM.1 dX5_items_21 fl_X5_223 rfl ?_
    refine v_if_ge C 49 27 dX5_items_24 (by decide) rfl (fun h24 => ?_) (fun h24 => ?_)
    · obtain ⟨b, x1, hb1, hb2⟩ := hX.f h24
      refine v_aload_n C dX5_items_49 rfl rfl ?_
      refine g_X5_fault C hM.1 dX5_items_50 fl_X5_223 rfl ?_
      refine v_if_ge C 67 56 dX5_items_53 (by decide) rfl (fun h53 => ?_) (fun h53 => ?_)
      · refine v_iload_n C dX5_items_67 rfl rfl ?_
        exact v_iret C hQ dX5_items_68 (by rw [hr, x1]; exact ⟨hG, Nat.le_trans hb1 hn, hb2⟩)
      · exact absurd h24 h53
    · obtain ⟨q, d2, x1, hq, f0, k1, hd⟩ := hX.t hn h24
      rw [x1] at rk hr
      obtain ⟨r1, r2, r3⟩ := rk
      have r1 : p + 1 ≤ q := r1
      have hE := tE_s (a := a) hn hq
      have hB := tB_s (a := a) hn hq
      have hT4 := tT_r a n q
      have hr : rAll a n 121 1 0 (μ.1 1) = rC a n (121 - i) i q d2 := hr
      refine v_aload_n C dX5_items_27 rfl rfl ?_
      refine g_X5_sort C hM.1 dX5_items_28 fl_X5_206 rfl ?_
      refine v_eqi (k1.2.1) ?_
      refine v_iconst C dX5_items_31 ic_3 rfl ?_
      refine v_icmp_ne C 49 35 dX5_items_32 (by decide) rfl (fun h32 => ?_) (fun h32 => ?_)
      · have t3 : ¬ tT a n q = 3 := fun h => h32 (by rw [h]; rfl)
        refine v_aload_n C dX5_items_49 rfl rfl ?_
        refine g_X5_fault C hM.1 dX5_items_50 fl_X5_223 rfl ?_
        refine v_if_ge C 67 56 dX5_items_53 (by decide) rfl (fun h53 => ?_) (fun h53 => ?_)
        · exact absurd h53 h24
        · refine v_aload_n C dX5_items_56 rfl rfl ?_
          refine g_X5_sort C hM.1 dX5_items_57 fl_X5_206 rfl ?_
          refine v_eqi (k1.2.1) ?_
          refine v_if_eq C 67 63 dX5_items_60 (by decide) rfl (fun h60 => ?_) (fun h60 => ?_)
          · have t0 : tT a n q = 0 := (eq_n (a := tT a n q) (b := 0) (by omega) (by decide)).mp h60
            refine v_iload_n C dX5_items_67 rfl rfl ?_
            exact v_iret C hQ dX5_items_68 (by rw [hr, rC, if_pos t0]; exact ⟨hG, f0, rfl, hd⟩)
          · have t0 : ¬ tT a n q = 0 := fun h => h60 (by rw [h]; rfl)
            refine v_aload_n C dX5_items_63 rfl rfl ?_
            refine v_vV C dX5_items_64 mi_X5_wrongHere (c_X5_wrongHere hM) rfl hM.1.1 hM.1.2 rfl ml_X5_252 (rk_of rfl) rfl (Nat.le_of_ble_eq_true rfl) rfl (pv_k ?_)
            refine v_iload_n C dX5_items_67 rfl rfl ?_
            exact v_iret C hQ dX5_items_68 (by rw [hr, rC, if_neg t0, if_neg t3, wr_m f0, k1.1]; exact ⟨Gm_12 hG _, Nat.le_trans hB.2 hn, up_s _ _ _ _⟩)
      · have t3 : tT a n q = 3 := (eq_n (a := tT a n q) (b := 3) (by omega) (by decide)).mp h32
        refine v_aload_n C dX5_items_35 rfl rfl ?_
        refine v_vV C dX5_items_36 mi_X5_next (c_X5_next hM (Gm_Zm hG hz) hE.2.1 (k1.2.2.1 (by omega))) rfl hM.1.1 hM.1.2 rfl ml_X5_255 (rk_of rfl) rfl (Nat.le_of_ble_eq_true rfl) rfl (fun u36 hu36 => ?_)
        refine v_aload_n C dX5_items_39 rfl rfl ?_
        refine v_vV C dX5_items_40 mi_X5_item (c_X5_item hM (Gm_Zm (hG.tr hu36.1.g) hz) hE.2.1 hu36.2 ((hu36.1.2 12 (by decide) (by decide) (by decide)).trans f0) (by rw [hu36.1.1 1 (by decide), hd]; exact r3)) rfl hM.1.1 hM.1.2 rfl ml_X5_285 (rk_of rfl) rfl (Nat.le_of_ble_eq_true rfl) rfl (fun u40 hu40 => ?_)
        refine v_iincN C dX5_items_43 rfl (by decide) rfl ?_
        refine v_goto C 20 dX5_items_46 (by decide) ?_
        have e2 : u36.1 1 = d2 := (hu36.1.1 1 (by decide)).trans hd
        rw [e2] at hu40
        exact V.norm (ih (i + 1) u40 (tE a n q) d2 (by omega) (by omega) ((hG.tr hu36.1.g).tr hu40.1) hu40.2 hE.2.1 (by omega) (by have := hE.2.2.1 (by omega); omega) r3 (by rw [hr, rC, if_neg (by omega), if_pos t3, show 121 - i = (121 - (i + 1)) + 1 by omega, rAll_C])) rfl
set_option maxRecDepth 100000 in
set_option maxHeartbeats 4000000 in
theorem c_X5_items {l : Launch} {w : WC} {μ : Me} (hM : Md w) {a : Nat → Nat} {n : Nat} (hz : Zm μ a n) (hI : IvD (μ.1 1)) : CtI l w yX5_items cX5_items 2 (some .int) (Rm 6 135) [.ref (w_ad w 0)] μ (MA μ (rAll a n 121 1 0 (μ.1 1))) := by
  refine Ct.mk (own := RX5) rfl (by decide) (Nat.le_of_ble_eq_true rfl) (fun x hxl C hQ => ?_)
  subst hxl
  have hn := hz.2.1
  refine v_aload_n C dX5_items_0 rfl rfl ?_
  refine v_iconst C dX5_items_1 ic_0 rfl ?_
  refine p_X5_at C hM.1 dX5_items_2 fl_X5_193 rfl ?_
  refine v_aload_n C dX5_items_5 rfl rfl ?_
  refine v_iconst C dX5_items_6 ic_m1 rfl ?_
  refine p_X5_fault C hM.1 dX5_items_7 fl_X5_223 rfl ?_
  have G0 : Gm μ (up (up μ 0 8 0) 0 12 (-1)) := ⟨fun k x y => by rw [up_n _ _ _ x, up_n _ _ _ x], fun j x y z v => by rw [up_i _ _ _ v, up_i _ _ _ x]⟩
  refine v_aload_n C dX5_items_10 rfl rfl ?_
  refine v_vV C dX5_items_11 mi_X5_next (c_X5_next hM (Gm_Zm G0 hz) (p := 0) (Nat.zero_le n) ((up_i _ _ _ (by decide)).trans (up_s _ _ _ _))) rfl hM.1.1 hM.1.2 rfl ml_X5_255 (rk_of rfl) rfl (Nat.le_of_ble_eq_true rfl) rfl (fun u11 hu11 => ?_)
  have e1 : u11.1 1 = (μ.1 1) := by rw [hu11.1.1 1 (by decide), up_n _ _ _ (by decide), up_n _ _ _ (by decide)]
  refine v_aload_n C dX5_items_14 rfl rfl ?_
  refine v_vV C dX5_items_15 mi_X5_item (c_X5_item hM (Gm_Zm (G0.tr hu11.1.g) hz) (Nat.zero_le n) hu11.2 ((hu11.1.2 12 (by decide) (by decide) (by decide)).trans (up_s _ _ _ _)) (e1 ▸ hI)) rfl hM.1.1 hM.1.2 rfl ml_X5_285 (rk_of rfl) rfl (Nat.le_of_ble_eq_true rfl) rfl (fun u15 hu15 => ?_)
  refine v_iconst C dX5_items_18 ic_1 rfl ?_
  refine v_istore_n C dX5_items_19 (by decide) rfl ?_
  rw [e1] at hu15
  exact V.norm (lp_X5_items_20 hM hz hI C hQ 121 1 u15 0 (μ.1 1) (by omega) (by omega) ((G0.tr hu11.1.g).tr hu15.1) hu15.2 (Nat.zero_le n) (by omega) (by omega) hI rfl) rfl

set_option maxRecDepth 100000 in
set_option maxHeartbeats 4000000 in
theorem c_X5_text {l : Launch} {w : WC} {μ : Me} (hM : Md w) {a : Nat → Nat} {n : Nat} (hz : Zm μ a n) (hI : IvD (μ.1 1)) : CtI l w yX5_text cX5_text 2 (some .int) (Rm 7 156) [.ref (w_ad w 0)] μ (MT μ (rAll a n 121 1 0 (μ.1 1)) (μ.1 1)) := by
  refine Ct.mk (own := RX5) rfl (by decide) (Nat.le_of_ble_eq_true rfl) (fun x hxl C hQ => ?_)
  subst hxl
  have e1 : (ua μ 2 (ldF (μ.1 1) (μ.1 2) 63)).1 1 = (μ.1 1) := ua_n _ _ (by decide)
  have z1 : Zm (ua μ 2 (ldF (μ.1 1) (μ.1 2) 63)) a n := ⟨by rw [ua_n _ _ (by decide)]; exact hz.1, hz.2.1, fun i hi => by rw [ua_n _ _ (by decide)]; exact hz.2.2 i hi⟩
  refine v_aload_n C dX5_text_0 rfl rfl ?_
  refine g_X5_d C hM.1 dX5_text_1 fl_X5_7 rfl ?_
  refine v_aload_n C dX5_text_4 rfl rfl ?_
  refine g_X5_e C hM.1 dX5_text_5 fl_X5_13 rfl ?_
  refine v_vS C dX5_text_8 ms_X5_copies (c_X5_copies hM.2.1 hM.2.2.1 (by decide)) rfl ml_X5_152 (rk_of rfl) rfl (Nat.le_of_ble_eq_true rfl) rfl (pv_k ?_)
  refine v_aload_n C dX5_text_11 rfl rfl ?_
  refine v_iV C dX5_text_12 mi_X5_items (c_X5_items hM z1 (e1.symm ▸ hI)) rfl hM.1.1 hM.1.2 rfl ml_X5_288 (rk_of rfl) rfl (Nat.le_of_ble_eq_true rfl) rfl (fun r12 u12 hu12 => ?_)
  rw [e1] at hu12
  refine v_istore_n C dX5_text_15 (by decide) rfl ?_
  refine v_aload_n C dX5_text_16 rfl rfl ?_
  refine v_iconst C dX5_text_17 ic_0 rfl ?_
  refine p_X5_taped C hM.1 dX5_text_18 fl_X5_189 rfl ?_
  refine v_aload_n C dX5_text_21 rfl rfl ?_
  refine g_X5_fault C hM.1 dX5_text_22 fl_X5_223 rfl ?_
  refine v_eqi (up_i _ _ _ (by decide)) ?_
  refine v_if_lt C 46 28 dX5_text_25 (by decide) rfl (fun h25 => ?_) (fun h25 => ?_)
  · refine v_iload_n C dX5_text_46 rfl rfl ?_
    exact v_iret C hQ dX5_text_47 (MT_t hu12 h25)
  · refine v_aload_n C dX5_text_28 rfl rfl ?_
    refine g_X5_e C hM.1 dX5_text_29 fl_X5_13 rfl ?_
    refine v_aload_n C dX5_text_32 rfl rfl ?_
    refine g_X5_d C hM.1 dX5_text_33 fl_X5_7 rfl ?_
    refine v_vS C dX5_text_36 ms_X5_copies (c_X5_copies hM.2.2.1 hM.2.1 (by decide)) rfl ml_X5_152 (rk_of rfl) rfl (Nat.le_of_ble_eq_true rfl) rfl (pv_k ?_)
    refine v_iconst C dX5_text_39 ic_m1 rfl ?_
    refine v_aload_n C dX5_text_40 rfl rfl ?_
    refine g_X5_fault C hM.1 dX5_text_41 fl_X5_223 rfl ?_
    refine v_eqi ((congrFun (ua_n _ _ (by decide)) 12).trans (up_i _ _ _ (by decide))) ?_
    refine v_isub C dX5_text_44 rfl ?_
    exact v_iret C hQ dX5_text_45 (MT_f hu12 h25)
