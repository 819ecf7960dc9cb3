set_option maxRecDepth 100000 in
set_option maxHeartbeats 4000000 in
theorem c_X5_whyNot {l : Launch} {w : WC} {μ : Me} (hM : Md w) {s r : Int32} : CtI l w yX5_whyNot cX5_whyNot 4 (some .int) (Rm 3 66) [.ref (w_ad w 0), .int s, .int r] μ (Px (wnS μ s r) μ) := by
  refine Ct.mk (own := RX5) rfl (by decide) (Nat.le_of_ble_eq_true rfl) (fun x hxl C hQ => ?_)
  subst hxl
  refine v_aload_n C dX5_whyNot_0 rfl rfl ?_
  refine v_iload_n C dX5_whyNot_1 rfl rfl ?_
  refine v_iV C dX5_whyNot_2 mi_X5_whyNone (c_X5_whyNone hM) rfl hM.1.1 hM.1.2 rfl ml_X5_173 (rk_of rfl) rfl (Nat.le_of_ble_eq_true rfl) rfl (px_k ?_)
  refine v_istore_n C dX5_whyNot_5 (by decide) rfl ?_
  refine v_iload_n C dX5_whyNot_6 rfl rfl ?_
  refine v_if_lt C 14 10 dX5_whyNot_7 (by decide) rfl (fun h7 => ?_) (fun h7 => ?_)
  · refine v_aload_n C dX5_whyNot_14 rfl rfl ?_
    refine v_iload_n C dX5_whyNot_15 rfl rfl ?_
    refine v_iV C dX5_whyNot_16 mi_X5_isResident (c_X5_isResident hM) rfl hM.1.1 hM.1.2 rfl ml_X5_125 (rk_of rfl) rfl (Nat.le_of_ble_eq_true rfl) rfl (px_k ?_)
    refine v_if_eq C 26 22 dX5_whyNot_19 (by decide) rfl (fun h19 => ?_) (fun h19 => ?_)
    · refine v_iconst C dX5_whyNot_26 ic_0 rfl ?_
      exact v_iret C hQ dX5_whyNot_27 ⟨by unfold wnS; first | (rw [if_neg h7]; done) | (rw [if_pos h7, if_pos h19]; done) | (rw [if_pos h7, if_neg h19]; done), rfl⟩
    · refine v_iconst C dX5_whyNot_22 ic_m1 rfl ?_
      refine v_goto C 27 dX5_whyNot_23 (by decide) ?_
      exact v_iret C hQ dX5_whyNot_27 ⟨by unfold wnS; first | (rw [if_neg h7]; done) | (rw [if_pos h7, if_pos h19]; done) | (rw [if_pos h7, if_neg h19]; done), rfl⟩
  · refine v_iload_n C dX5_whyNot_10 rfl rfl ?_
    refine v_goto C 27 dX5_whyNot_11 (by decide) ?_
    exact v_iret C hQ dX5_whyNot_27 ⟨by unfold wnS; first | (rw [if_neg h7]; done) | (rw [if_pos h7, if_pos h19]; done) | (rw [if_pos h7, if_neg h19]; done), rfl⟩

set_option maxRecDepth 100000 in
set_option maxHeartbeats 4000000 in
theorem lp_X5_isTold_6 {w : WC} {x : Cy} {μ : Me} (hM : Md w) {μ0 : Me} {X : Nat → Int32} (hμ : μ = ua (asM μ0) 1 X) (hI : IvD X) (hX : ∀ j, 63 ≤ j → X j = μ0.1 1 j) {s0 i0 z : Nat} (hs0 : s0 < 4) (hi0 : i0 < dn X) (hz : μ0.1 8 s0 = nI z) (hz4 : z ≤ 40) {s r wv : Int32} (hs : s = nI s0) (hr : r = nI i0)  (C : Cx w x cX5_isTold 8 RX5 (some .boolean) (Rm 4 97)) (hQ : y_Q x = MQ (y_b x) (QI w (Px (gtN (fun j => μ0.1 9 (40 * s0 + j)) z X i0 wv (z + 1) 0) (asM μ0))) (y_a x) (y_s x) 0 0 (AA w)) : ∀ (m i : Nat) (a : Int32), z + 1 ≤ i + m → i ≤ z → ((a = 1 ∧ gtN (fun j => μ0.1 9 (40 * s0 + j)) z X i0 wv (z + 1) 0 = gtN (fun j => μ0.1 9 (40 * s0 + j)) z X i0 wv (z + 1 - i) i) ∨ (a = 0 ∧ gtN (fun j => μ0.1 9 (40 * s0 + j)) z X i0 wv (z + 1) 0 = 0)) → V w x 8 (ua (asM μ0) 1 (suN i X)) 6 [(0, .ref (w_ad w 0)), (1, .int s), (2, .int r), (3, .int wv), (4, .int a), (5, .int (nI i))] [] := by
  intro m
  induction m with
  | zero =>
    intro i a hm hi
    exact absurd hm (by omega)
  | succ m ih =>
    intro i a hm hi hO
    have hn := hI.n.1
    have hs1 : (ua (asM μ0) 1 (suN i X)).1 1 = suN i X := ua_s _ _ _
    have r8 : (ua (asM μ0) 1 (suN i X)).1 8 = μ0.1 8 := by rw [ua_n _ _ (by decide), asM_o (by decide)]
    have r9 : (ua (asM μ0) 1 (suN i X)).1 9 = μ0.1 9 := by rw [ua_n _ _ (by decide), asM_o (by decide)]
    refine v_iload C dX5_isTold_6 rfl rfl ?_
    refine v_aload_n C dX5_isTold_8 rfl rfl ?_
    refine g_X5_sizeOf C hM.1 dX5_isTold_9 fl_X5_32 rfl ?_
    refine v_iload_n C dX5_isTold_12 rfl rfl ?_
    refine a_I C hM.2.2.2.2.2.2.2.2.1 (by decide) dX5_isTold_13 (s0) hs hs0 rfl ?_
    refine v_eqi ((congrFun r8 s0).trans hz) ?_
    refine v_icmp_ge C 93 17 dX5_isTold_14 (by decide) rfl (fun h14 => ?_) (fun h14 => ?_)
    · have g : i = z := by have := (le_n (a := z) (b := i) (by omega) (by omega)).mp h14; omega
      have hA : a = gtN (fun j => μ0.1 9 (40 * s0 + j)) z X i0 wv (z + 1) 0 := by rcases hO with ⟨e, e2⟩ | ⟨e, e2⟩; (rw [e, e2, g, show z + 1 - z = 0 + 1 by omega, gtN_e (by omega)]); (rw [e, e2])
      refine v_aload_n C dX5_isTold_93 rfl rfl ?_
      refine g_X5_aside C hM.1 dX5_isTold_94 fl_X5_16 rfl ?_
      refine v_aload_n C dX5_isTold_97 rfl rfl ?_
      refine g_X5_d C hM.1 dX5_isTold_98 fl_X5_7 rfl ?_
      refine v_vS C dX5_isTold_101 ms_X5_copies (c_X5_copies hM.2.2.2.1 hM.2.1 (by decide)) rfl ml_X5_152 (rk_of rfl) rfl (Nat.le_of_ble_eq_true rfl) rfl (pv_k ?_)
      rw [rst (fun j hj => (suN_63 hI i hj).trans (hX j hj))]
      refine v_iload C dX5_isTold_104 rfl rfl ?_
      exact v_zret C hQ dX5_isTold_106 (by rw [hA]; exact gt_nar _ _) ⟨hA, rfl⟩
    · have g : i < z := by rcases Nat.lt_or_ge i (z) with q | q; exact q; exact absurd ((le_n (a := z) (b := i) (by omega) (by omega)).mpr q) h14
      refine v_iload C dX5_isTold_17 rfl rfl ?_
      refine v_if_eq C 93 22 dX5_isTold_19 (by decide) rfl (fun h19 => ?_) (fun h19 => ?_)
      · have hA : a = gtN (fun j => μ0.1 9 (40 * s0 + j)) z X i0 wv (z + 1) 0 := by rcases hO with ⟨e, e2⟩ | ⟨e, e2⟩; (rw [e] at h19; exact absurd h19 (by decide)); (rw [e, e2])
        refine v_aload_n C dX5_isTold_93 rfl rfl ?_
        refine g_X5_aside C hM.1 dX5_isTold_94 fl_X5_16 rfl ?_
        refine v_aload_n C dX5_isTold_97 rfl rfl ?_
        refine g_X5_d C hM.1 dX5_isTold_98 fl_X5_7 rfl ?_
        refine v_vS C dX5_isTold_101 ms_X5_copies (c_X5_copies hM.2.2.2.1 hM.2.1 (by decide)) rfl ml_X5_152 (rk_of rfl) rfl (Nat.le_of_ble_eq_true rfl) rfl (pv_k ?_)
        rw [rst (fun j hj => (suN_63 hI i hj).trans (hX j hj))]
        refine v_iload C dX5_isTold_104 rfl rfl ?_
        exact v_zret C hQ dX5_isTold_106 (by rw [hA]; exact gt_nar _ _) ⟨hA, rfl⟩
      · have hE : gtN (fun j => μ0.1 9 (40 * s0 + j)) z X i0 wv (z + 1) 0 = gtN (fun j => μ0.1 9 (40 * s0 + j)) z X i0 wv ((z - i) + 1) i := by rcases hO with ⟨e, e2⟩ | ⟨e, e2⟩; (rw [e2, show z + 1 - i = (z - i) + 1 by omega]); (exact absurd e h19)
        refine v_aload_n C dX5_isTold_22 rfl rfl ?_
        refine g_X5_number C hM.1 dX5_isTold_23 fl_X5_35 rfl ?_
        refine v_bipush C dX5_isTold_26 bp_40 rfl ?_
        refine v_iload_n C dX5_isTold_28 rfl rfl ?_
        refine v_imul C dX5_isTold_29 rfl ?_
        refine v_iload C dX5_isTold_30 rfl rfl ?_
        refine v_iadd C dX5_isTold_32 rfl ?_
        refine a_I C hM.2.2.2.2.2.2.2.2.2.1 (by decide) dX5_isTold_33 (40 * s0 + i) (by rw [hs, i40]) (by omega) rfl ?_
        refine v_eqi (congrFun r9 (40 * s0 + i)) ?_
        refine v_istore C dX5_isTold_34 (by decide) rfl ?_
        refine v_aload_n C dX5_isTold_36 rfl rfl ?_
        refine v_iload_n C dX5_isTold_37 rfl rfl ?_
        refine v_iconst C dX5_isTold_38 ic_1 rfl ?_
        refine v_iV C dX5_isTold_39 mi_X5_its (c_X5_its hM (i := i0) (f := 1) (j := 21 + i0) (by omega) (by decide) hr rfl rfl) rfl hM.1.1 hM.1.2 rfl ml_X5_46 (rk_of rfl) rfl (Nat.le_of_ble_eq_true rfl) rfl (px_k ?_)
        rw [hs1]
        refine v_istore C dX5_isTold_42 (by decide) rfl ?_
        refine v_iload C dX5_isTold_44 rfl rfl ?_
        refine v_iconst C dX5_isTold_46 ic_m1 rfl ?_
        refine v_icmp_eq C 76 50 dX5_isTold_47 (by decide) rfl (fun h47 => ?_) (fun h47 => ?_)
        · refine v_iconst C dX5_isTold_76 ic_1 rfl ?_
          refine v_goto C 81 dX5_isTold_77 (by decide) ?_
          refine v_istore C dX5_isTold_81 (by decide) rfl ?_
          refine v_aload_n C dX5_isTold_83 rfl rfl ?_
          refine v_vV C dX5_isTold_84 mi_X5_sundayGoes (c_X5_sundayGoes hM (by rw [hs1]; exact IvD_n hI i)) rfl hM.1.1 hM.1.2 rfl ml_X5_92 (rk_of rfl) rfl (Nat.le_of_ble_eq_true rfl) rfl (pv_k ?_)
          refine v_iincN C dX5_isTold_87 rfl (by decide) rfl ?_
          refine v_goto C 6 dX5_isTold_90 (by decide) ?_
          refine v_mem ?_ (V.norm (ih (i + 1) _ (by omega) (by omega) (Or.inl ⟨rfl, by rw [hE, gtN_y (f := (fun j => μ0.1 9 (40 * s0 + j))) (d := X) (r := i0) (w := wv) (i := i) g (Or.inl h47), show z + 1 - (i + 1) = z - i by omega]⟩)) rfl)
          rw [hs1, ua_ua]
          rfl
        · refine v_iload C dX5_isTold_50 rfl rfl ?_
          refine v_iload_n C dX5_isTold_52 rfl rfl ?_
          refine v_if_eq C 71 56 dX5_isTold_53 (by decide) rfl (fun h53 => ?_) (fun h53 => ?_)
          · refine v_iload C dX5_isTold_71 rfl rfl ?_
            refine v_icmp_ne C 80 76 dX5_isTold_73 (by decide) rfl (fun h73 => ?_) (fun h73 => ?_)
            · refine v_iconst C dX5_isTold_80 ic_0 rfl ?_
              refine v_istore C dX5_isTold_81 (by decide) rfl ?_
              refine v_aload_n C dX5_isTold_83 rfl rfl ?_
              refine v_vV C dX5_isTold_84 mi_X5_sundayGoes (c_X5_sundayGoes hM (by rw [hs1]; exact IvD_n hI i)) rfl hM.1.1 hM.1.2 rfl ml_X5_92 (rk_of rfl) rfl (Nat.le_of_ble_eq_true rfl) rfl (pv_k ?_)
              refine v_iincN C dX5_isTold_87 rfl (by decide) rfl ?_
              refine v_goto C 6 dX5_isTold_90 (by decide) ?_
              have hsw : (suN i X (21 + i0) : Int32) = swS wv (suN i X (21 + i0)) := by unfold swS; rw [if_pos h53]
              refine v_mem ?_ (V.norm (ih (i + 1) _ (by omega) (by omega) (Or.inr ⟨rfl, by rw [hE, gtN_n (f := (fun j => μ0.1 9 (40 * s0 + j))) (d := X) (r := i0) (w := wv) (i := i) g ((fun h => h.elim h47 (fun h => h73 (h.trans hsw.symm))))]⟩)) rfl)
              rw [hs1, ua_ua]
              rfl
            · refine v_iconst C dX5_isTold_76 ic_1 rfl ?_
              refine v_goto C 81 dX5_isTold_77 (by decide) ?_
              refine v_istore C dX5_isTold_81 (by decide) rfl ?_
              refine v_aload_n C dX5_isTold_83 rfl rfl ?_
              refine v_vV C dX5_isTold_84 mi_X5_sundayGoes (c_X5_sundayGoes hM (by rw [hs1]; exact IvD_n hI i)) rfl hM.1.1 hM.1.2 rfl ml_X5_92 (rk_of rfl) rfl (Nat.le_of_ble_eq_true rfl) rfl (pv_k ?_)
              refine v_iincN C dX5_isTold_87 rfl (by decide) rfl ?_
              refine v_goto C 6 dX5_isTold_90 (by decide) ?_
              have hsw : (suN i X (21 + i0) : Int32) = swS wv (suN i X (21 + i0)) := by unfold swS; rw [if_pos h53]
              refine v_mem ?_ (V.norm (ih (i + 1) _ (by omega) (by omega) (Or.inl ⟨rfl, by rw [hE, gtN_y (f := (fun j => μ0.1 9 (40 * s0 + j))) (d := X) (r := i0) (w := wv) (i := i) g (Or.inr (h73.trans hsw)), show z + 1 - (i + 1) = z - i by omega]⟩)) rfl)
              rw [hs1, ua_ua]
              rfl
          · refine v_iload C dX5_isTold_56 rfl rfl ?_
            refine v_bipush C dX5_isTold_58 bp_60 rfl ?_
            refine v_icmp_lt C 67 63 dX5_isTold_60 (by decide) rfl (fun h60 => ?_) (fun h60 => ?_)
            · refine v_iconst C dX5_isTold_67 ic_0 rfl ?_
              refine v_goto C 73 dX5_isTold_68 (by decide) ?_
              refine v_icmp_ne C 80 76 dX5_isTold_73 (by decide) rfl (fun h73 => ?_) (fun h73 => ?_)
              · refine v_iconst C dX5_isTold_80 ic_0 rfl ?_
                refine v_istore C dX5_isTold_81 (by decide) rfl ?_
                refine v_aload_n C dX5_isTold_83 rfl rfl ?_
                refine v_vV C dX5_isTold_84 mi_X5_sundayGoes (c_X5_sundayGoes hM (by rw [hs1]; exact IvD_n hI i)) rfl hM.1.1 hM.1.2 rfl ml_X5_92 (rk_of rfl) rfl (Nat.le_of_ble_eq_true rfl) rfl (pv_k ?_)
                refine v_iincN C dX5_isTold_87 rfl (by decide) rfl ?_
                refine v_goto C 6 dX5_isTold_90 (by decide) ?_
                have hsw : (0 : Int32) = swS wv (suN i X (21 + i0)) := by unfold swS wellS; rw [if_neg h53, if_neg (Int32.not_le.mpr h60)]
                refine v_mem ?_ (V.norm (ih (i + 1) _ (by omega) (by omega) (Or.inr ⟨rfl, by rw [hE, gtN_n (f := (fun j => μ0.1 9 (40 * s0 + j))) (d := X) (r := i0) (w := wv) (i := i) g ((fun h => h.elim h47 (fun h => h73 (h.trans hsw.symm))))]⟩)) rfl)
                rw [hs1, ua_ua]
                rfl
              · refine v_iconst C dX5_isTold_76 ic_1 rfl ?_
                refine v_goto C 81 dX5_isTold_77 (by decide) ?_
                refine v_istore C dX5_isTold_81 (by decide) rfl ?_
                refine v_aload_n C dX5_isTold_83 rfl rfl ?_
                refine v_vV C dX5_isTold_84 mi_X5_sundayGoes (c_X5_sundayGoes hM (by rw [hs1]; exact IvD_n hI i)) rfl hM.1.1 hM.1.2 rfl ml_X5_92 (rk_of rfl) rfl (Nat.le_of_ble_eq_true rfl) rfl (pv_k ?_)
                refine v_iincN C dX5_isTold_87 rfl (by decide) rfl ?_
                refine v_goto C 6 dX5_isTold_90 (by decide) ?_
                have hsw : (0 : Int32) = swS wv (suN i X (21 + i0)) := by unfold swS wellS; rw [if_neg h53, if_neg (Int32.not_le.mpr h60)]
                refine v_mem ?_ (V.norm (ih (i + 1) _ (by omega) (by omega) (Or.inl ⟨rfl, by rw [hE, gtN_y (f := (fun j => μ0.1 9 (40 * s0 + j))) (d := X) (r := i0) (w := wv) (i := i) g (Or.inr (h73.trans hsw)), show z + 1 - (i + 1) = z - i by omega]⟩)) rfl)
                rw [hs1, ua_ua]
                rfl
            · refine v_iconst C dX5_isTold_63 ic_1 rfl ?_
              refine v_goto C 73 dX5_isTold_64 (by decide) ?_
              refine v_icmp_ne C 80 76 dX5_isTold_73 (by decide) rfl (fun h73 => ?_) (fun h73 => ?_)
              · refine v_iconst C dX5_isTold_80 ic_0 rfl ?_
                refine v_istore C dX5_isTold_81 (by decide) rfl ?_
                refine v_aload_n C dX5_isTold_83 rfl rfl ?_
                refine v_vV C dX5_isTold_84 mi_X5_sundayGoes (c_X5_sundayGoes hM (by rw [hs1]; exact IvD_n hI i)) rfl hM.1.1 hM.1.2 rfl ml_X5_92 (rk_of rfl) rfl (Nat.le_of_ble_eq_true rfl) rfl (pv_k ?_)
                refine v_iincN C dX5_isTold_87 rfl (by decide) rfl ?_
                refine v_goto C 6 dX5_isTold_90 (by decide) ?_
                have hsw : (1 : Int32) = swS wv (suN i X (21 + i0)) := by unfold swS wellS; rw [if_neg h53, if_pos (Int32.not_lt.mp h60)]
                refine v_mem ?_ (V.norm (ih (i + 1) _ (by omega) (by omega) (Or.inr ⟨rfl, by rw [hE, gtN_n (f := (fun j => μ0.1 9 (40 * s0 + j))) (d := X) (r := i0) (w := wv) (i := i) g ((fun h => h.elim h47 (fun h => h73 (h.trans hsw.symm))))]⟩)) rfl)
                rw [hs1, ua_ua]
                rfl
              · refine v_iconst C dX5_isTold_76 ic_1 rfl ?_
                refine v_goto C 81 dX5_isTold_77 (by decide) ?_
                refine v_istore C dX5_isTold_81 (by decide) rfl ?_
                refine v_aload_n C dX5_isTold_83 rfl rfl ?_
                refine v_vV C dX5_isTold_84 mi_X5_sundayGoes (c_X5_sundayGoes hM (by rw [hs1]; exact IvD_n hI i)) rfl hM.1.1 hM.1.2 rfl ml_X5_92 (rk_of rfl) rfl (Nat.le_of_ble_eq_true rfl) rfl (pv_k ?_)
                refine v_iincN C dX5_isTold_87 rfl (by decide) rfl ?_
                refine v_goto C 6 dX5_isTold_90 (by decide) ?_
                have hsw : (1 : Int32) = swS wv (suN i X (21 + i0)) := by unfold swS wellS; rw [if_neg h53, if_pos (Int32.not_lt.mp h60)]
                refine v_mem ?_ (V.norm (ih (i + 1) _ (by omega) (by omega) (Or.inl ⟨rfl, by rw [hE, gtN_y (f := (fun j => μ0.1 9 (40 * s0 + j))) (d := X) (r := i0) (w := wv) (i := i) g (Or.inr (h73.trans hsw)), show z + 1 - (i + 1) = z - i by omega]⟩)) rfl)
                rw [hs1, ua_ua]
                rfl
set_option maxRecDepth 100000 in
set_option maxHeartbeats 4000000 in
theorem c_X5_isTold {l : Launch} {w : WC} {μ : Me} (hM : Md w) {μ0 : Me} {X : Nat → Int32} (hμ : μ = ua (asM μ0) 1 X) (hI : IvD X) (hX : ∀ j, 63 ≤ j → X j = μ0.1 1 j) {s0 i0 z : Nat} (hs0 : s0 < 4) (hi0 : i0 < dn X) (hz : μ0.1 8 s0 = nI z) (hz4 : z ≤ 40) {s r wv : Int32} (hs : s = nI s0) (hr : r = nI i0) : CtI l w yX5_isTold cX5_isTold 8 (some .boolean) (Rm 4 97) [.ref (w_ad w 0), .int s, .int r, .int wv] μ (Px (gtN (fun j => μ0.1 9 (40 * s0 + j)) z X i0 wv (z + 1) 0) (asM μ0)) := by
  refine Ct.mk (own := RX5) rfl (by decide) (Nat.le_of_ble_eq_true rfl) (fun x hxl C hQ => ?_)
  subst hxl
  subst hμ
  refine v_iconst C dX5_isTold_0 ic_1 rfl ?_
  refine v_istore C dX5_isTold_1 (by decide) rfl ?_
  refine v_iconst C dX5_isTold_3 ic_0 rfl ?_
  refine v_istore C dX5_isTold_4 (by decide) rfl ?_
  exact V.norm (lp_X5_isTold_6 (μ := ua (asM μ0) 1 X) hM rfl hI hX hs0 hi0 hz hz4 hs hr C hQ (z + 1) 0 _ (by omega) (by omega) (Or.inl ⟨rfl, rfl⟩)) rfl

set_option maxRecDepth 100000 in
set_option maxHeartbeats 4000000 in
theorem lp_X5_fits_34 {w : WC} {x : Cy} {μ : Me} (hM : Md w) (hV : IvZ μ) (hI : IvD (μ.1 1)) {s r : Int32} (hl : lfM μ s r = 0) (q1 : s = nI (cl s) ∧ cl s ≤ 3 ∧ ¬ μ.1 7 (cl s) = 0) (q2 : r = nI (cl r) ∧ cl r < dn (μ.1 1)) (zz : (cl (μ.1 8 (cl s))) ≤ 40 ∧ μ.1 8 (cl s) = nI (cl (μ.1 8 (cl s)))) (C : Cx w x cX5_fits 6 RX5 (some .int) (Rm 5 124)) (hQ : y_Q x = MQ (y_b x) (QI w (Px (if lfM μ s r = 0 then cnL (fun i => gtN (fun j => μ.1 9 (40 * cl s + j)) (cl (μ.1 8 (cl s))) (upd (μ.1 1) (21 + cl r) (nI i)) (cl r) 1 ((cl (μ.1 8 (cl s))) + 1) 0) 100 else lfM μ s r) (if lfM μ s r = 0 then asM μ else fnS μ (lfQ μ s)))) (y_a x) (y_s x) 0 0 (AA w)) : ∀ (m i : Nat) (a : Int32), 100 + 1 ≤ i + m → i ≤ 100 → (a = cnL (fun i => gtN (fun j => μ.1 9 (40 * cl s + j)) (cl (μ.1 8 (cl s))) (upd (μ.1 1) (21 + cl r) (nI i)) (cl r) 1 ((cl (μ.1 8 (cl s))) + 1) 0) i) → V w x 6 (asM μ) 34 [(0, .ref (w_ad w 0)), (1, .int s), (2, .int r), (3, .int (wnS μ s r)), (4, .int a), (5, .int (nI i))] [] := by
  intro m
  induction m with
  | zero =>
    intro i a hm hi
    exact absurd hm (by omega)
  | succ m ih =>
    intro i a hm hi ha
    have hn := hI.n.1
    refine v_iload C dX5_fits_34 rfl rfl ?_
    refine v_bipush C dX5_fits_36 bp_99 rfl ?_
    refine v_icmp_gt C 75 41 dX5_fits_38 (by decide) rfl (fun h38 => ?_) (fun h38 => ?_)
    · have g : i = 100 := by have := (lt_n (a := 99) (b := i) (by omega) (by omega)).mp h38; omega
      refine v_iload C dX5_fits_75 rfl rfl ?_
      exact v_iret C hQ dX5_fits_77 ⟨by rw [if_pos hl, ha, g], by rw [if_pos hl]⟩
    · have g : i ≤ 99 := by rcases Nat.lt_or_ge 99 i with q | q; exact absurd ((lt_n (a := 99) (b := i) (by omega) (by omega)).mpr q) h38; exact q
      have hI2 : IvD (upd (μ.1 1) (21 + cl r) (nI i)) := IvD_upd hI (by omega) (by omega) (by omega) (by omega) (by omega) (by omega) (by omega) (by omega) (fun _ _ => ⟨i, by omega, rfl⟩) (by omega) (by omega) (by omega)
      refine v_aload_n C dX5_fits_41 rfl rfl ?_
      refine v_iload_n C dX5_fits_42 rfl rfl ?_
      refine v_iconst C dX5_fits_43 ic_1 rfl ?_
      refine v_iload C dX5_fits_44 rfl rfl ?_
      refine v_vV C dX5_fits_46 mi_X5_sets (c_X5_sets hM (i := cl r) (f := 1) (j := 21 + cl r) (by omega) (by decide) q2.1 rfl rfl) rfl hM.1.1 hM.1.2 rfl ml_X5_87 (rk_of rfl) rfl (Nat.le_of_ble_eq_true rfl) rfl (pv_k ?_)
      refine v_iload C dX5_fits_49 rfl rfl ?_
      refine v_aload_n C dX5_fits_51 rfl rfl ?_
      refine v_iload_n C dX5_fits_52 rfl rfl ?_
      refine v_iload_n C dX5_fits_53 rfl rfl ?_
      refine v_iconst C dX5_fits_54 ic_1 rfl ?_
      refine v_iV C dX5_fits_55 mi_X5_isTold (c_X5_isTold hM (asM_upd μ _ _) hI2 (upd_63 (by omega)) (s0 := cl s) (i0 := cl r) (z := (cl (μ.1 8 (cl s)))) (by omega) (by rw [dn_upd (by omega)]; exact q2.2) zz.2 zz.1 q1.1 q2.1) rfl hM.1.1 hM.1.2 rfl ml_X5_179 (rk_of rfl) rfl (Nat.le_of_ble_eq_true rfl) rfl (px_k ?_)
      refine v_if_eq C 65 61 dX5_fits_58 (by decide) rfl (fun h58 => ?_) (fun h58 => ?_)
      · refine v_iconst C dX5_fits_65 ic_0 rfl ?_
        refine v_iadd C dX5_fits_66 rfl ?_
        refine v_istore C dX5_fits_67 (by decide) rfl ?_
        refine v_iincN C dX5_fits_69 rfl (by decide) rfl ?_
        refine v_goto C 34 dX5_fits_72 (by decide) ?_
        exact V.norm (ih (i + 1) _ (by omega) (by omega) (by rw [ha]; exact (cn_0 (g := (fun i => gtN (fun j => μ.1 9 (40 * cl s + j)) (cl (μ.1 8 (cl s))) (upd (μ.1 1) (21 + cl r) (nI i)) (cl r) 1 ((cl (μ.1 8 (cl s))) + 1) 0)) (i := i) h58).symm)) rfl
      · refine v_iconst C dX5_fits_61 ic_1 rfl ?_
        refine v_goto C 66 dX5_fits_62 (by decide) ?_
        refine v_iadd C dX5_fits_66 rfl ?_
        refine v_istore C dX5_fits_67 (by decide) rfl ?_
        refine v_iincN C dX5_fits_69 rfl (by decide) rfl ?_
        refine v_goto C 34 dX5_fits_72 (by decide) ?_
        exact V.norm (ih (i + 1) _ (by omega) (by omega) (by rw [ha]; exact (if_neg h58).symm)) rfl
set_option maxRecDepth 100000 in
set_option maxHeartbeats 4000000 in
theorem c_X5_fits {l : Launch} {w : WC} {μ : Me} (hM : Md w) (hV : IvZ μ) (hI : IvD (μ.1 1)) {s r : Int32} : CtI l w yX5_fits cX5_fits 6 (some .int) (Rm 5 124) [.ref (w_ad w 0), .int s, .int r] μ (Px (if lfM μ s r = 0 then cnL (fun i => gtN (fun j => μ.1 9 (40 * cl s + j)) (cl (μ.1 8 (cl s))) (upd (μ.1 1) (21 + cl r) (nI i)) (cl r) 1 ((cl (μ.1 8 (cl s))) + 1) 0) 100 else lfM μ s r) (if lfM μ s r = 0 then asM μ else fnS μ (lfQ μ s))) := by
  refine Ct.mk (own := RX5) rfl (by decide) (Nat.le_of_ble_eq_true rfl) (fun x hxl C hQ => ?_)
  subst hxl
  have hn := hI.n.1
  have h0 := hI.n.2
  refine v_aload_n C dX5_fits_0 rfl rfl ?_
  refine v_iload_n C dX5_fits_1 rfl rfl ?_
  refine v_iload_n C dX5_fits_2 rfl rfl ?_
  refine v_iV C dX5_fits_3 mi_X5_whyNot (c_X5_whyNot hM) rfl hM.1.1 hM.1.2 rfl ml_X5_176 (rk_of rfl) rfl (Nat.le_of_ble_eq_true rfl) rfl (px_k ?_)
  refine v_istore_n C dX5_fits_6 (by decide) rfl ?_
  refine v_iload_n C dX5_fits_7 rfl rfl ?_
  refine v_if_lt C 17 11 dX5_fits_8 (by decide) rfl (fun h8 => ?_) (fun h8 => ?_)
  · have e8 : lfM μ s r = 0 := wn_neg.mp h8
    have q := lfm_i e8
    have q1 := lm_i q.1
    have q2 := has_i hn h0 q.2
    have zz := (hV (cl s) (by omega)).cl (by omega)
    refine v_aload_n C dX5_fits_17 rfl rfl ?_
    refine g_X5_d C hM.1 dX5_fits_18 fl_X5_7 rfl ?_
    refine v_aload_n C dX5_fits_21 rfl rfl ?_
    refine g_X5_aside C hM.1 dX5_fits_22 fl_X5_16 rfl ?_
    refine v_vS C dX5_fits_25 ms_X5_copies (c_X5_copies hM.2.1 hM.2.2.2.1 (by decide)) rfl ml_X5_152 (rk_of rfl) rfl (Nat.le_of_ble_eq_true rfl) rfl (pv_k ?_)
    refine v_iconst C dX5_fits_28 ic_0 rfl ?_
    refine v_istore C dX5_fits_29 (by decide) rfl ?_
    refine v_iconst C dX5_fits_31 ic_0 rfl ?_
    refine v_istore C dX5_fits_32 (by decide) rfl ?_
    exact V.norm (lp_X5_fits_34 hM hV hI e8 q1 q2 zz C hQ 101 0 _ (by omega) (by omega) rfl) rfl
  · have e8 : ¬ lfM μ s r = 0 := fun e => h8 (wn_neg.mpr e)
    refine v_aload_n C dX5_fits_11 rfl rfl ?_
    refine v_iload_n C dX5_fits_12 rfl rfl ?_
    refine v_iV C dX5_fits_13 mi_X5_finds (c_X5_finds hM (lfQ_lt μ s) (wn_p e8).1 (wn_p e8).2) rfl hM.1.1 hM.1.2 rfl ml_X5_108 (rk_of rfl) rfl (Nat.le_of_ble_eq_true rfl) rfl (px_k ?_)
    exact v_iret C hQ dX5_fits_16 ⟨(if_neg e8).symm, (if_neg e8).symm⟩

set_option maxRecDepth 100000 in
set_option maxHeartbeats 4000000 in
theorem lp_X5_kinds_34 {w : WC} {x : Cy} {μ : Me} (hM : Md w) (hV : IvZ μ) (hI : IvD (μ.1 1)) {s r : Int32} (hl : lfM μ s r = 0) (q1 : s = nI (cl s) ∧ cl s ≤ 3 ∧ ¬ μ.1 7 (cl s) = 0) (q2 : r = nI (cl r) ∧ cl r < dn (μ.1 1)) (zz : (cl (μ.1 8 (cl s))) ≤ 40 ∧ μ.1 8 (cl s) = nI (cl (μ.1 8 (cl s)))) (C : Cx w x cX5_kinds 6 RX5 (some .int) (Rm 5 124)) (hQ : y_Q x = MQ (y_b x) (QI w (Px (if lfM μ s r = 0 then kbL (fun i => gtN (fun j => μ.1 9 (40 * cl s + j)) (cl (μ.1 8 (cl s))) (upd (μ.1 1) (13 + cl r) (nI i)) (cl r) 0 ((cl (μ.1 8 (cl s))) + 1) 0) 7 else lfM μ s r) (if lfM μ s r = 0 then asM μ else fnS μ (lfQ μ s)))) (y_a x) (y_s x) 0 0 (AA w)) : ∀ (m i : Nat) (a : Int32), 7 + 1 ≤ i + m → i ≤ 7 → (a = kbL (fun i => gtN (fun j => μ.1 9 (40 * cl s + j)) (cl (μ.1 8 (cl s))) (upd (μ.1 1) (13 + cl r) (nI i)) (cl r) 0 ((cl (μ.1 8 (cl s))) + 1) 0) i) → V w x 6 (asM μ) 34 [(0, .ref (w_ad w 0)), (1, .int s), (2, .int r), (3, .int (wnS μ s r)), (4, .int a), (5, .int (nI i))] [] := by
  intro m
  induction m with
  | zero =>
    intro i a hm hi
    exact absurd hm (by omega)
  | succ m ih =>
    intro i a hm hi ha
    have hn := hI.n.1
    refine v_iload C dX5_kinds_34 rfl rfl ?_
    refine v_bipush C dX5_kinds_36 bp_7 rfl ?_
    refine v_icmp_ge C 78 41 dX5_kinds_38 (by decide) rfl (fun h38 => ?_) (fun h38 => ?_)
    · have g : i = 7 := by have := (le_n (a := 7) (b := i) (by omega) (by omega)).mp h38; omega
      refine v_iload C dX5_kinds_78 rfl rfl ?_
      exact v_iret C hQ dX5_kinds_80 ⟨by rw [if_pos hl, ha, g], by rw [if_pos hl]⟩
    · have g : i < 7 := by rcases Nat.lt_or_ge i (7) with q | q; exact q; exact absurd ((le_n (a := 7) (b := i) (by omega) (by omega)).mpr q) h38
      have hI2 : IvD (upd (μ.1 1) (13 + cl r) (nI i)) := IvD_upd hI (by omega) (by omega) (by omega) (by omega) (by omega) (by omega) (by omega) (fun _ _ => ⟨i, by omega, rfl⟩) (by omega) (by omega) (by omega) (by omega)
      refine v_aload_n C dX5_kinds_41 rfl rfl ?_
      refine v_iload_n C dX5_kinds_42 rfl rfl ?_
      refine v_iconst C dX5_kinds_43 ic_0 rfl ?_
      refine v_iload C dX5_kinds_44 rfl rfl ?_
      refine v_vV C dX5_kinds_46 mi_X5_sets (c_X5_sets hM (i := cl r) (f := 0) (j := 13 + cl r) (by omega) (by decide) q2.1 rfl rfl) rfl hM.1.1 hM.1.2 rfl ml_X5_87 (rk_of rfl) rfl (Nat.le_of_ble_eq_true rfl) rfl (pv_k ?_)
      refine v_iload C dX5_kinds_49 rfl rfl ?_
      refine v_aload_n C dX5_kinds_51 rfl rfl ?_
      refine v_iload_n C dX5_kinds_52 rfl rfl ?_
      refine v_iload_n C dX5_kinds_53 rfl rfl ?_
      refine v_iconst C dX5_kinds_54 ic_0 rfl ?_
      refine v_iV C dX5_kinds_55 mi_X5_isTold (c_X5_isTold hM (asM_upd μ _ _) hI2 (upd_63 (by omega)) (s0 := cl s) (i0 := cl r) (z := (cl (μ.1 8 (cl s)))) (by omega) (by rw [dn_upd (by omega)]; exact q2.2) zz.2 zz.1 q1.1 q2.1) rfl hM.1.1 hM.1.2 rfl ml_X5_179 (rk_of rfl) rfl (Nat.le_of_ble_eq_true rfl) rfl (px_k ?_)
      refine v_if_eq C 68 61 dX5_kinds_58 (by decide) rfl (fun h58 => ?_) (fun h58 => ?_)
      · refine v_iconst C dX5_kinds_68 ic_0 rfl ?_
        refine v_ior C dX5_kinds_69 rfl ?_
        refine v_istore C dX5_kinds_70 (by decide) rfl ?_
        refine v_iincN C dX5_kinds_72 rfl (by decide) rfl ?_
        refine v_goto C 34 dX5_kinds_75 (by decide) ?_
        exact V.norm (ih (i + 1) _ (by omega) (by omega) (by rw [ha]; exact (kb_0 (g := (fun i => gtN (fun j => μ.1 9 (40 * cl s + j)) (cl (μ.1 8 (cl s))) (upd (μ.1 1) (13 + cl r) (nI i)) (cl r) 0 ((cl (μ.1 8 (cl s))) + 1) 0)) (i := i) h58).symm)) rfl
      · refine v_iconst C dX5_kinds_61 ic_1 rfl ?_
        refine v_iload C dX5_kinds_62 rfl rfl ?_
        refine v_ishl C dX5_kinds_64 rfl ?_
        refine v_goto C 69 dX5_kinds_65 (by decide) ?_
        refine v_ior C dX5_kinds_69 rfl ?_
        refine v_istore C dX5_kinds_70 (by decide) rfl ?_
        refine v_iincN C dX5_kinds_72 rfl (by decide) rfl ?_
        refine v_goto C 34 dX5_kinds_75 (by decide) ?_
        exact V.norm (ih (i + 1) _ (by omega) (by omega) (by rw [ha]; exact (if_neg h58).symm)) rfl
set_option maxRecDepth 100000 in
set_option maxHeartbeats 4000000 in
theorem c_X5_kinds {l : Launch} {w : WC} {μ : Me} (hM : Md w) (hV : IvZ μ) (hI : IvD (μ.1 1)) {s r : Int32} : CtI l w yX5_kinds cX5_kinds 6 (some .int) (Rm 5 124) [.ref (w_ad w 0), .int s, .int r] μ (Px (if lfM μ s r = 0 then kbL (fun i => gtN (fun j => μ.1 9 (40 * cl s + j)) (cl (μ.1 8 (cl s))) (upd (μ.1 1) (13 + cl r) (nI i)) (cl r) 0 ((cl (μ.1 8 (cl s))) + 1) 0) 7 else lfM μ s r) (if lfM μ s r = 0 then asM μ else fnS μ (lfQ μ s))) := by
  refine Ct.mk (own := RX5) rfl (by decide) (Nat.le_of_ble_eq_true rfl) (fun x hxl C hQ => ?_)
  subst hxl
  have hn := hI.n.1
  have h0 := hI.n.2
  refine v_aload_n C dX5_kinds_0 rfl rfl ?_
  refine v_iload_n C dX5_kinds_1 rfl rfl ?_
  refine v_iload_n C dX5_kinds_2 rfl rfl ?_
  refine v_iV C dX5_kinds_3 mi_X5_whyNot (c_X5_whyNot hM) rfl hM.1.1 hM.1.2 rfl ml_X5_176 (rk_of rfl) rfl (Nat.le_of_ble_eq_true rfl) rfl (px_k ?_)
  refine v_istore_n C dX5_kinds_6 (by decide) rfl ?_
  refine v_iload_n C dX5_kinds_7 rfl rfl ?_
  refine v_if_lt C 17 11 dX5_kinds_8 (by decide) rfl (fun h8 => ?_) (fun h8 => ?_)
  · have e8 : lfM μ s r = 0 := wn_neg.mp h8
    have q := lfm_i e8
    have q1 := lm_i q.1
    have q2 := has_i hn h0 q.2
    have zz := (hV (cl s) (by omega)).cl (by omega)
    refine v_aload_n C dX5_kinds_17 rfl rfl ?_
    refine g_X5_d C hM.1 dX5_kinds_18 fl_X5_7 rfl ?_
    refine v_aload_n C dX5_kinds_21 rfl rfl ?_
    refine g_X5_aside C hM.1 dX5_kinds_22 fl_X5_16 rfl ?_
    refine v_vS C dX5_kinds_25 ms_X5_copies (c_X5_copies hM.2.1 hM.2.2.2.1 (by decide)) rfl ml_X5_152 (rk_of rfl) rfl (Nat.le_of_ble_eq_true rfl) rfl (pv_k ?_)
    refine v_iconst C dX5_kinds_28 ic_0 rfl ?_
    refine v_istore C dX5_kinds_29 (by decide) rfl ?_
    refine v_iconst C dX5_kinds_31 ic_0 rfl ?_
    refine v_istore C dX5_kinds_32 (by decide) rfl ?_
    exact V.norm (lp_X5_kinds_34 hM hV hI e8 q1 q2 zz C hQ 8 0 _ (by omega) (by omega) rfl) rfl
  · have e8 : ¬ lfM μ s r = 0 := fun e => h8 (wn_neg.mpr e)
    refine v_aload_n C dX5_kinds_11 rfl rfl ?_
    refine v_iload_n C dX5_kinds_12 rfl rfl ?_
    refine v_iV C dX5_kinds_13 mi_X5_finds (c_X5_finds hM (lfQ_lt μ s) (wn_p e8).1 (wn_p e8).2) rfl hM.1.1 hM.1.2 rfl ml_X5_108 (rk_of rfl) rfl (Nat.le_of_ble_eq_true rfl) rfl (px_k ?_)
    exact v_iret C hQ dX5_kinds_16 ⟨(if_neg e8).symm, (if_neg e8).symm⟩

set_option maxRecDepth 100000 in
set_option maxHeartbeats 4000000 in
theorem lp_X5_mood_31 {w : WC} {x : Cy} {μ : Me} (hM : Md w) (hV : IvZ μ) (hI : IvD (μ.1 1)) {s r : Int32} (hl : lfM μ s r = 0) (q1 : s = nI (cl s) ∧ cl s ≤ 3 ∧ ¬ μ.1 7 (cl s) = 0) (q2 : r = nI (cl r) ∧ cl r < dn (μ.1 1)) (zz : (cl (μ.1 8 (cl s))) ≤ 40 ∧ μ.1 8 (cl s) = nI (cl (μ.1 8 (cl s)))) (C : Cx w x cX5_mood 5 RX5 (some .int) (Rm 5 124)) (hQ : y_Q x = MQ (y_b x) (QI w (Px (if lfM μ s r = 0 then (if fsN (fun i => gtN (fun j => μ.1 9 (40 * cl s + j)) (cl (μ.1 8 (cl s))) (upd (μ.1 1) (21 + cl r) (nI i)) (cl r) 1 ((cl (μ.1 8 (cl s))) + 1) 0) 100 0 ≤ 99 then nI (fsN (fun i => gtN (fun j => μ.1 9 (40 * cl s + j)) (cl (μ.1 8 (cl s))) (upd (μ.1 1) (21 + cl r) (nI i)) (cl r) 1 ((cl (μ.1 8 (cl s))) + 1) 0) 100 0) else -1000004) else lfM μ s r) (if lfM μ s r = 0 then (if fsN (fun i => gtN (fun j => μ.1 9 (40 * cl s + j)) (cl (μ.1 8 (cl s))) (upd (μ.1 1) (21 + cl r) (nI i)) (cl r) 1 ((cl (μ.1 8 (cl s))) + 1) 0) 100 0 ≤ 99 then asM μ else fnS (asM μ) 3) else fnS μ (lfQ μ s)))) (y_a x) (y_s x) 0 0 (AA w)) : ∀ (m i : Nat), 100 + 1 ≤ i + m → i ≤ 100 → (fsN (fun i => gtN (fun j => μ.1 9 (40 * cl s + j)) (cl (μ.1 8 (cl s))) (upd (μ.1 1) (21 + cl r) (nI i)) (cl r) 1 ((cl (μ.1 8 (cl s))) + 1) 0) 100 0 = fsN (fun i => gtN (fun j => μ.1 9 (40 * cl s + j)) (cl (μ.1 8 (cl s))) (upd (μ.1 1) (21 + cl r) (nI i)) (cl r) 1 ((cl (μ.1 8 (cl s))) + 1) 0) (100 - i) i) → V w x 5 (asM μ) 31 [(0, .ref (w_ad w 0)), (1, .int s), (2, .int r), (3, .int (wnS μ s r)), (4, .int (nI i))] [] := by
  intro m
  induction m with
  | zero =>
    intro i  hm hi
    exact absurd hm (by omega)
  | succ m ih =>
    intro i  hm hi hE
    have hn := hI.n.1
    refine v_iload C dX5_mood_31 rfl rfl ?_
    refine v_bipush C dX5_mood_33 bp_99 rfl ?_
    refine v_icmp_gt C 65 38 dX5_mood_35 (by decide) rfl (fun h35 => ?_) (fun h35 => ?_)
    · have g : i = 100 := by have := (lt_n (a := 99) (b := i) (by omega) (by omega)).mp h35; omega
      subst g
      refine v_aload_n C dX5_mood_65 rfl rfl ?_
      refine v_iconst C dX5_mood_66 ic_3 rfl ?_
      refine v_iV C dX5_mood_67 mi_X5_finds (c_X5_finds hM (p := 3) (e := -1000004) (by decide) rfl (by decide)) rfl hM.1.1 hM.1.2 rfl ml_X5_108 (rk_of rfl) rfl (Nat.le_of_ble_eq_true rfl) rfl (px_k ?_)
      exact v_iret C hQ dX5_mood_70 ⟨by rw [if_pos hl, if_neg (show ¬ fsN (fun i => gtN (fun j => μ.1 9 (40 * cl s + j)) (cl (μ.1 8 (cl s))) (upd (μ.1 1) (21 + cl r) (nI i)) (cl r) 1 ((cl (μ.1 8 (cl s))) + 1) 0) 100 0 ≤ 99 by rw [hE]; show ¬ 100 ≤ 99; omega)], by rw [if_pos hl, if_neg (show ¬ fsN (fun i => gtN (fun j => μ.1 9 (40 * cl s + j)) (cl (μ.1 8 (cl s))) (upd (μ.1 1) (21 + cl r) (nI i)) (cl r) 1 ((cl (μ.1 8 (cl s))) + 1) 0) 100 0 ≤ 99 by rw [hE]; show ¬ 100 ≤ 99; omega)]⟩
    · have g : i ≤ 99 := by rcases Nat.lt_or_ge 99 i with q | q; exact absurd ((lt_n (a := 99) (b := i) (by omega) (by omega)).mpr q) h35; exact q
      rw [show 100 - i = (99 - i) + 1 by omega] at hE
      have hI2 : IvD (upd (μ.1 1) (21 + cl r) (nI i)) := IvD_upd hI (by omega) (by omega) (by omega) (by omega) (by omega) (by omega) (by omega) (by omega) (fun _ _ => ⟨i, by omega, rfl⟩) (by omega) (by omega) (by omega)
      refine v_aload_n C dX5_mood_38 rfl rfl ?_
      refine v_iload_n C dX5_mood_39 rfl rfl ?_
      refine v_iconst C dX5_mood_40 ic_1 rfl ?_
      refine v_iload C dX5_mood_41 rfl rfl ?_
      refine v_vV C dX5_mood_43 mi_X5_sets (c_X5_sets hM (i := cl r) (f := 1) (j := 21 + cl r) (by omega) (by decide) q2.1 rfl rfl) rfl hM.1.1 hM.1.2 rfl ml_X5_87 (rk_of rfl) rfl (Nat.le_of_ble_eq_true rfl) rfl (pv_k ?_)
      refine v_aload_n C dX5_mood_46 rfl rfl ?_
      refine v_iload_n C dX5_mood_47 rfl rfl ?_
      refine v_iload_n C dX5_mood_48 rfl rfl ?_
      refine v_iconst C dX5_mood_49 ic_1 rfl ?_
      refine v_iV C dX5_mood_50 mi_X5_isTold (c_X5_isTold hM (asM_upd μ _ _) hI2 (upd_63 (by omega)) (s0 := cl s) (i0 := cl r) (z := (cl (μ.1 8 (cl s)))) (by omega) (by rw [dn_upd (by omega)]; exact q2.2) zz.2 zz.1 q1.1 q2.1) rfl hM.1.1 hM.1.2 rfl ml_X5_179 (rk_of rfl) rfl (Nat.le_of_ble_eq_true rfl) rfl (px_k ?_)
      refine v_if_eq C 59 56 dX5_mood_53 (by decide) rfl (fun h53 => ?_) (fun h53 => ?_)
      · refine v_iincN C dX5_mood_59 rfl (by decide) rfl ?_
        refine v_goto C 31 dX5_mood_62 (by decide) ?_
        exact V.norm (ih (i + 1) (by omega) (by omega) (by rw [hE, fsN_n (p := (fun i => gtN (fun j => μ.1 9 (40 * cl s + j)) (cl (μ.1 8 (cl s))) (upd (μ.1 1) (21 + cl r) (nI i)) (cl r) 1 ((cl (μ.1 8 (cl s))) + 1) 0)) (i := i) (m := 99 - i) h53, show 100 - (i + 1) = 99 - i by omega])) rfl
      · refine v_iload C dX5_mood_56 rfl rfl ?_
        exact v_iret C hQ dX5_mood_58 ⟨by rw [if_pos hl, hE, fsN_y (p := (fun i => gtN (fun j => μ.1 9 (40 * cl s + j)) (cl (μ.1 8 (cl s))) (upd (μ.1 1) (21 + cl r) (nI i)) (cl r) 1 ((cl (μ.1 8 (cl s))) + 1) 0)) (i := i) (m := 99 - i) h53, if_pos g], by rw [if_pos hl, hE, fsN_y (p := (fun i => gtN (fun j => μ.1 9 (40 * cl s + j)) (cl (μ.1 8 (cl s))) (upd (μ.1 1) (21 + cl r) (nI i)) (cl r) 1 ((cl (μ.1 8 (cl s))) + 1) 0)) (i := i) (m := 99 - i) h53, if_pos g]⟩
set_option maxRecDepth 100000 in
set_option maxHeartbeats 4000000 in
theorem c_X5_mood {l : Launch} {w : WC} {μ : Me} (hM : Md w) (hV : IvZ μ) (hI : IvD (μ.1 1)) {s r : Int32} : CtI l w yX5_mood cX5_mood 5 (some .int) (Rm 5 124) [.ref (w_ad w 0), .int s, .int r] μ (Px (if lfM μ s r = 0 then (if fsN (fun i => gtN (fun j => μ.1 9 (40 * cl s + j)) (cl (μ.1 8 (cl s))) (upd (μ.1 1) (21 + cl r) (nI i)) (cl r) 1 ((cl (μ.1 8 (cl s))) + 1) 0) 100 0 ≤ 99 then nI (fsN (fun i => gtN (fun j => μ.1 9 (40 * cl s + j)) (cl (μ.1 8 (cl s))) (upd (μ.1 1) (21 + cl r) (nI i)) (cl r) 1 ((cl (μ.1 8 (cl s))) + 1) 0) 100 0) else -1000004) else lfM μ s r) (if lfM μ s r = 0 then (if fsN (fun i => gtN (fun j => μ.1 9 (40 * cl s + j)) (cl (μ.1 8 (cl s))) (upd (μ.1 1) (21 + cl r) (nI i)) (cl r) 1 ((cl (μ.1 8 (cl s))) + 1) 0) 100 0 ≤ 99 then asM μ else fnS (asM μ) 3) else fnS μ (lfQ μ s))) := by
  refine Ct.mk (own := RX5) rfl (by decide) (Nat.le_of_ble_eq_true rfl) (fun x hxl C hQ => ?_)
  subst hxl
  have hn := hI.n.1
  have h0 := hI.n.2
  refine v_aload_n C dX5_mood_0 rfl rfl ?_
  refine v_iload_n C dX5_mood_1 rfl rfl ?_
  refine v_iload_n C dX5_mood_2 rfl rfl ?_
  refine v_iV C dX5_mood_3 mi_X5_whyNot (c_X5_whyNot hM) rfl hM.1.1 hM.1.2 rfl ml_X5_176 (rk_of rfl) rfl (Nat.le_of_ble_eq_true rfl) rfl (px_k ?_)
  refine v_istore_n C dX5_mood_6 (by decide) rfl ?_
  refine v_iload_n C dX5_mood_7 rfl rfl ?_
  refine v_if_lt C 17 11 dX5_mood_8 (by decide) rfl (fun h8 => ?_) (fun h8 => ?_)
  · have e8 : lfM μ s r = 0 := wn_neg.mp h8
    have q := lfm_i e8
    have q1 := lm_i q.1
    have q2 := has_i hn h0 q.2
    have zz := (hV (cl s) (by omega)).cl (by omega)
    refine v_aload_n C dX5_mood_17 rfl rfl ?_
    refine g_X5_d C hM.1 dX5_mood_18 fl_X5_7 rfl ?_
    refine v_aload_n C dX5_mood_21 rfl rfl ?_
    refine g_X5_aside C hM.1 dX5_mood_22 fl_X5_16 rfl ?_
    refine v_vS C dX5_mood_25 ms_X5_copies (c_X5_copies hM.2.1 hM.2.2.2.1 (by decide)) rfl ml_X5_152 (rk_of rfl) rfl (Nat.le_of_ble_eq_true rfl) rfl (pv_k ?_)
    refine v_iconst C dX5_mood_28 ic_0 rfl ?_
    refine v_istore C dX5_mood_29 (by decide) rfl ?_
    exact V.norm (lp_X5_mood_31 hM hV hI e8 q1 q2 zz C hQ 101 0 (by omega) (by omega) rfl) rfl
  · have e8 : ¬ lfM μ s r = 0 := fun e => h8 (wn_neg.mpr e)
    refine v_aload_n C dX5_mood_11 rfl rfl ?_
    refine v_iload_n C dX5_mood_12 rfl rfl ?_
    refine v_iV C dX5_mood_13 mi_X5_finds (c_X5_finds hM (lfQ_lt μ s) (wn_p e8).1 (wn_p e8).2) rfl hM.1.1 hM.1.2 rfl ml_X5_108 (rk_of rfl) rfl (Nat.le_of_ble_eq_true rfl) rfl (px_k ?_)
    exact v_iret C hQ dX5_mood_16 ⟨(if_neg e8).symm, (if_neg e8).symm⟩
