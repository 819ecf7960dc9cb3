set_option maxRecDepth 100000 in
set_option maxHeartbeats 4000000 in
theorem lp_X4_goesAsTold_3 {w : WC} {x : Cy} {μ : Me} (hS : Sv w) (hX : Nx w) {d : Nat → Int32} (hI : IvD d) {s0 i0 z : Nat} (hs0 : s0 < 4) (hi8 : i0 < 8) (hi0 : i0 < dn d) (hz : μ.1 (43 + s0) 1 = nI z) (hz4 : z ≤ 40) (hu0 : LH μ 14 d) {wv : Int32}  (C : Cx w x cX4_goesAsTold 6 RX4 (some .boolean) (Rm 4 93)) (hQ : y_Q x = MQ (y_b x) (QI w (fun r u => r = gtN (μ.1 (43 + s0 + 4)) z d i0 wv (z + 1) 0 ∧ Tr μ u)) (y_a x) (y_s x) 0 0 (AA w)) : ∀ (m i : Nat) (uu : Me), z + 1 ≤ i + m → i ≤ z → (Tr μ uu) → (LH uu 14 (suN (i - 1) d)) → (gtN (μ.1 (43 + s0 + 4)) z d i0 wv (z + 1) 0 = gtN (μ.1 (43 + s0 + 4)) z d i0 wv (z + 1 - i) i) → V w x 6 uu 3 [(0, .ref (w_ad w 0)), (1, .ref (w_ad w (43 + s0))), (2, .ref (w_ad w (14 + 3 + 2 + i0))), (3, .int wv), (4, .int (nI i))] [] := by
  intro m
  induction m with
  | zero =>
    intro i uu hm hi
    exact absurd hm (by omega)
  | succ m ih =>
    intro i uu hm hi ht hu hE
    have hn := hI.n.1
    have r1 : uu.1 (43 + s0) 1 = nI z := by rw [ht _ (by omega)]; exact hz
    have r2 : uu.1 (43 + s0 + 4) = μ.1 (43 + s0 + 4) := ht _ (by omega)
    refine v_iload C dX4_goesAsTold_3 rfl rfl ?_
    refine v_aload_n C dX4_goesAsTold_5 rfl rfl ?_
    refine g_X2_size C (hS.2.2.2.2.2.2.1 s0 hs0).1 dX4_goesAsTold_6 fl_X4_236 rfl ?_
    refine v_eqi (r1) ?_
    refine v_icmp_ge C 72 12 dX4_goesAsTold_9 (by decide) rfl (fun h9 => ?_) (fun h9 => ?_)
    · have g : i = z := by have := (le_n (a := z) (b := i) (by omega) (by omega)).mp h9; omega
      refine v_iconst C dX4_goesAsTold_72 ic_1 rfl ?_
      exact v_zret C hQ dX4_goesAsTold_73 rfl ⟨by rw [hE, show z + 1 - i = 0 + 1 by omega, gtN_e (by omega)], ht⟩
    · have g : i < z := by rcases Nat.lt_or_ge i (z) with q | q; exact q; exact absurd ((le_n (a := z) (b := i) (by omega) (by omega)).mpr q) h9
      rw [show z + 1 - i = (z - i) + 1 by omega] at hE
      refine v_iload C dX4_goesAsTold_12 rfl rfl ?_
      refine v_if_le C 24 17 dX4_goesAsTold_14 (by decide) rfl (fun h14 => ?_) (fun h14 => ?_)
      · have g0 : i = 0 := by have := (le_n (a := i) (b := 0) (by omega) (by omega)).mp h14; omega
        have hv : LH uu 14 (suN i d) := by rw [g0] at hu ⊢; exact hu
        have hrow := LH.r hI hv hi0
        have htt := ht
        refine v_iload_n C dX4_goesAsTold_24 rfl rfl ?_
        refine v_if_eq C 35 28 dX4_goesAsTold_25 (by decide) rfl (fun h25 => ?_) (fun h25 => ?_)
        · refine v_aload_n C dX4_goesAsTold_35 rfl rfl ?_
          refine g_X1_mood C (hS.2.2.1.2.2.2.2.2 i0 hi8) dX4_goesAsTold_36 fl_X4_261 rfl ?_
          refine v_eqi (b := swS wv (suN i d (21 + i0))) (by unfold swS; first | (rw [if_pos h25]; exact hrow.2.1) | rw [if_neg h25]) ?_
          refine v_istore C dX4_goesAsTold_39 (by decide) rfl ?_
          refine v_aload_n C dX4_goesAsTold_41 rfl rfl ?_
          refine g_X2_numbers C (hS.2.2.2.2.2.2.1 s0 hs0).1 dX4_goesAsTold_42 fl_X4_240 rfl ?_
          refine v_iload C dX4_goesAsTold_45 rfl rfl ?_
          refine a_I C (hS.2.2.2.2.2.2.1 s0 hs0).2 (by decide) dX4_goesAsTold_47 (i) rfl (by omega) rfl ?_
          refine v_iconst C dX4_goesAsTold_48 ic_m1 rfl ?_
          refine v_icmp_eq C 66 52 dX4_goesAsTold_49 (by decide) rfl (fun h49 => ?_) (fun h49 => ?_)
          · refine v_iincN C dX4_goesAsTold_66 rfl (by decide) rfl ?_
            refine v_goto C 3 dX4_goesAsTold_69 (by decide) ?_
            exact V.norm (ih (i + 1) _ (by omega) (by omega) htt (by rw [show i + 1 - 1 = i by omega]; exact hv) (by rw [hE, gtN_y g (by first | exact Or.inl (by rw [r2] at h49; exact h49) | exact Or.inr (by rw [r2] at h61; exact h61)), show z + 1 - (i + 1) = z - i by omega])) rfl
          · refine v_aload_n C dX4_goesAsTold_52 rfl rfl ?_
            refine g_X2_numbers C (hS.2.2.2.2.2.2.1 s0 hs0).1 dX4_goesAsTold_53 fl_X4_240 rfl ?_
            refine v_iload C dX4_goesAsTold_56 rfl rfl ?_
            refine a_I C (hS.2.2.2.2.2.2.1 s0 hs0).2 (by decide) dX4_goesAsTold_58 (i) rfl (by omega) rfl ?_
            refine v_iload C dX4_goesAsTold_59 rfl rfl ?_
            refine v_icmp_eq C 66 64 dX4_goesAsTold_61 (by decide) rfl (fun h61 => ?_) (fun h61 => ?_)
            · refine v_iincN C dX4_goesAsTold_66 rfl (by decide) rfl ?_
              refine v_goto C 3 dX4_goesAsTold_69 (by decide) ?_
              exact V.norm (ih (i + 1) _ (by omega) (by omega) htt (by rw [show i + 1 - 1 = i by omega]; exact hv) (by rw [hE, gtN_y g (by first | exact Or.inl (by rw [r2] at h49; exact h49) | exact Or.inr (by rw [r2] at h61; exact h61)), show z + 1 - (i + 1) = z - i by omega])) rfl
            · refine v_iconst C dX4_goesAsTold_64 ic_0 rfl ?_
              exact v_zret C hQ dX4_goesAsTold_65 rfl ⟨by rw [hE, gtN_n g (by rw [r2] at h49; rw [r2] at h61; exact fun h => h.elim h49 h61)], htt⟩
        · refine v_aload_n C dX4_goesAsTold_28 rfl rfl ?_
          refine v_iV C dX4_goesAsTold_29 mi_X1_wellSign (c_X1_wellSign (hS.2.2.1.2.2.2.2.2 i0 hi8)) rfl (hS.2.2.1.2.2.2.2.2 i0 hi8).1 (hS.2.2.1.2.2.2.2.2 i0 hi8).2 rfl ml_X4_280 (rk_of rfl) rfl (Nat.le_of_ble_eq_true rfl) rfl (px_k ?_)
          rw [hrow.2.1]
          refine v_goto C 39 dX4_goesAsTold_32 (by decide) ?_
          refine v_eqi (b := swS wv (suN i d (21 + i0))) (by unfold swS; first | (rw [if_pos h25]; exact hrow.2.1) | rw [if_neg h25]) ?_
          refine v_istore C dX4_goesAsTold_39 (by decide) rfl ?_
          refine v_aload_n C dX4_goesAsTold_41 rfl rfl ?_
          refine g_X2_numbers C (hS.2.2.2.2.2.2.1 s0 hs0).1 dX4_goesAsTold_42 fl_X4_240 rfl ?_
          refine v_iload C dX4_goesAsTold_45 rfl rfl ?_
          refine a_I C (hS.2.2.2.2.2.2.1 s0 hs0).2 (by decide) dX4_goesAsTold_47 (i) rfl (by omega) rfl ?_
          refine v_iconst C dX4_goesAsTold_48 ic_m1 rfl ?_
          refine v_icmp_eq C 66 52 dX4_goesAsTold_49 (by decide) rfl (fun h49 => ?_) (fun h49 => ?_)
          · refine v_iincN C dX4_goesAsTold_66 rfl (by decide) rfl ?_
            refine v_goto C 3 dX4_goesAsTold_69 (by decide) ?_
            exact V.norm (ih (i + 1) _ (by omega) (by omega) htt (by rw [show i + 1 - 1 = i by omega]; exact hv) (by rw [hE, gtN_y g (by first | exact Or.inl (by rw [r2] at h49; exact h49) | exact Or.inr (by rw [r2] at h61; exact h61)), show z + 1 - (i + 1) = z - i by omega])) rfl
          · refine v_aload_n C dX4_goesAsTold_52 rfl rfl ?_
            refine g_X2_numbers C (hS.2.2.2.2.2.2.1 s0 hs0).1 dX4_goesAsTold_53 fl_X4_240 rfl ?_
            refine v_iload C dX4_goesAsTold_56 rfl rfl ?_
            refine a_I C (hS.2.2.2.2.2.2.1 s0 hs0).2 (by decide) dX4_goesAsTold_58 (i) rfl (by omega) rfl ?_
            refine v_iload C dX4_goesAsTold_59 rfl rfl ?_
            refine v_icmp_eq C 66 64 dX4_goesAsTold_61 (by decide) rfl (fun h61 => ?_) (fun h61 => ?_)
            · refine v_iincN C dX4_goesAsTold_66 rfl (by decide) rfl ?_
              refine v_goto C 3 dX4_goesAsTold_69 (by decide) ?_
              exact V.norm (ih (i + 1) _ (by omega) (by omega) htt (by rw [show i + 1 - 1 = i by omega]; exact hv) (by rw [hE, gtN_y g (by first | exact Or.inl (by rw [r2] at h49; exact h49) | exact Or.inr (by rw [r2] at h61; exact h61)), show z + 1 - (i + 1) = z - i by omega])) rfl
            · refine v_iconst C dX4_goesAsTold_64 ic_0 rfl ?_
              exact v_zret C hQ dX4_goesAsTold_65 rfl ⟨by rw [hE, gtN_n g (by rw [r2] at h49; rw [r2] at h61; exact fun h => h.elim h49 h61)], htt⟩
      · have g0 : ¬ i = 0 := fun e => h14 (by rw [e]; exact nI_le (a := 0) (b := 0) (by omega) (by omega))
        refine v_aload_n C dX4_goesAsTold_17 rfl rfl ?_
        refine g_X4_trial C hS.1 dX4_goesAsTold_18 fl_X4_16 rfl ?_
        refine v_vV C dX4_goesAsTold_21 mi_X0_passSunday (c_X0_passSunday hS.2.2.1 hX (hu.iv (IvD_n hI (i - 1)))) rfl hS.2.2.1.1.1 hS.2.2.1.1.2 rfl ml_X4_150 (rk_of rfl) rfl (Nat.le_of_ble_eq_true rfl) rfl (pv_k ?_)
        have hv := LH_ps hu (IvD_n hI (i - 1))
        have e9 : suM (suN (i - 1) d) = suN i d := by obtain ⟨j, rfl⟩ : ∃ j, i = j + 1 := ⟨i - 1, by omega⟩; rfl
        rw [e9] at hv
        have htt := ht.ps (n := dn (suN (i - 1) d)) (j := cl (suN (i - 1) d 5)) (by rw [suN_dn hI]; omega)
        generalize psS uu 14 (dn (suN (i - 1) d)) (cl (suN (i - 1) d 5)) = uv at hv htt ⊢
        have hrow := LH.r hI hv hi0
        have r2 : uv.1 (43 + s0 + 4) = μ.1 (43 + s0 + 4) := htt _ (by omega)
        refine v_iload_n C dX4_goesAsTold_24 rfl rfl ?_
        refine v_if_eq C 35 28 dX4_goesAsTold_25 (by decide) rfl (fun h25 => ?_) (fun h25 => ?_)
        · refine v_aload_n C dX4_goesAsTold_35 rfl rfl ?_
          refine g_X1_mood C (hS.2.2.1.2.2.2.2.2 i0 hi8) dX4_goesAsTold_36 fl_X4_261 rfl ?_
          refine v_eqi (b := swS wv (suN i d (21 + i0))) (by unfold swS; first | (rw [if_pos h25]; exact hrow.2.1) | rw [if_neg h25]) ?_
          refine v_istore C dX4_goesAsTold_39 (by decide) rfl ?_
          refine v_aload_n C dX4_goesAsTold_41 rfl rfl ?_
          refine g_X2_numbers C (hS.2.2.2.2.2.2.1 s0 hs0).1 dX4_goesAsTold_42 fl_X4_240 rfl ?_
          refine v_iload C dX4_goesAsTold_45 rfl rfl ?_
          refine a_I C (hS.2.2.2.2.2.2.1 s0 hs0).2 (by decide) dX4_goesAsTold_47 (i) rfl (by omega) rfl ?_
          refine v_iconst C dX4_goesAsTold_48 ic_m1 rfl ?_
          refine v_icmp_eq C 66 52 dX4_goesAsTold_49 (by decide) rfl (fun h49 => ?_) (fun h49 => ?_)
          · refine v_iincN C dX4_goesAsTold_66 rfl (by decide) rfl ?_
            refine v_goto C 3 dX4_goesAsTold_69 (by decide) ?_
            exact V.norm (ih (i + 1) _ (by omega) (by omega) htt (by rw [show i + 1 - 1 = i by omega]; exact hv) (by rw [hE, gtN_y g (by first | exact Or.inl (by rw [r2] at h49; exact h49) | exact Or.inr (by rw [r2] at h61; exact h61)), show z + 1 - (i + 1) = z - i by omega])) rfl
          · refine v_aload_n C dX4_goesAsTold_52 rfl rfl ?_
            refine g_X2_numbers C (hS.2.2.2.2.2.2.1 s0 hs0).1 dX4_goesAsTold_53 fl_X4_240 rfl ?_
            refine v_iload C dX4_goesAsTold_56 rfl rfl ?_
            refine a_I C (hS.2.2.2.2.2.2.1 s0 hs0).2 (by decide) dX4_goesAsTold_58 (i) rfl (by omega) rfl ?_
            refine v_iload C dX4_goesAsTold_59 rfl rfl ?_
            refine v_icmp_eq C 66 64 dX4_goesAsTold_61 (by decide) rfl (fun h61 => ?_) (fun h61 => ?_)
            · refine v_iincN C dX4_goesAsTold_66 rfl (by decide) rfl ?_
              refine v_goto C 3 dX4_goesAsTold_69 (by decide) ?_
              exact V.norm (ih (i + 1) _ (by omega) (by omega) htt (by rw [show i + 1 - 1 = i by omega]; exact hv) (by rw [hE, gtN_y g (by first | exact Or.inl (by rw [r2] at h49; exact h49) | exact Or.inr (by rw [r2] at h61; exact h61)), show z + 1 - (i + 1) = z - i by omega])) rfl
            · refine v_iconst C dX4_goesAsTold_64 ic_0 rfl ?_
              exact v_zret C hQ dX4_goesAsTold_65 rfl ⟨by rw [hE, gtN_n g (by rw [r2] at h49; rw [r2] at h61; exact fun h => h.elim h49 h61)], htt⟩
        · refine v_aload_n C dX4_goesAsTold_28 rfl rfl ?_
          refine v_iV C dX4_goesAsTold_29 mi_X1_wellSign (c_X1_wellSign (hS.2.2.1.2.2.2.2.2 i0 hi8)) rfl (hS.2.2.1.2.2.2.2.2 i0 hi8).1 (hS.2.2.1.2.2.2.2.2 i0 hi8).2 rfl ml_X4_280 (rk_of rfl) rfl (Nat.le_of_ble_eq_true rfl) rfl (px_k ?_)
          rw [hrow.2.1]
          refine v_goto C 39 dX4_goesAsTold_32 (by decide) ?_
          refine v_eqi (b := swS wv (suN i d (21 + i0))) (by unfold swS; first | (rw [if_pos h25]; exact hrow.2.1) | rw [if_neg h25]) ?_
          refine v_istore C dX4_goesAsTold_39 (by decide) rfl ?_
          refine v_aload_n C dX4_goesAsTold_41 rfl rfl ?_
          refine g_X2_numbers C (hS.2.2.2.2.2.2.1 s0 hs0).1 dX4_goesAsTold_42 fl_X4_240 rfl ?_
          refine v_iload C dX4_goesAsTold_45 rfl rfl ?_
          refine a_I C (hS.2.2.2.2.2.2.1 s0 hs0).2 (by decide) dX4_goesAsTold_47 (i) rfl (by omega) rfl ?_
          refine v_iconst C dX4_goesAsTold_48 ic_m1 rfl ?_
          refine v_icmp_eq C 66 52 dX4_goesAsTold_49 (by decide) rfl (fun h49 => ?_) (fun h49 => ?_)
          · refine v_iincN C dX4_goesAsTold_66 rfl (by decide) rfl ?_
            refine v_goto C 3 dX4_goesAsTold_69 (by decide) ?_
            exact V.norm (ih (i + 1) _ (by omega) (by omega) htt (by rw [show i + 1 - 1 = i by omega]; exact hv) (by rw [hE, gtN_y g (by first | exact Or.inl (by rw [r2] at h49; exact h49) | exact Or.inr (by rw [r2] at h61; exact h61)), show z + 1 - (i + 1) = z - i by omega])) rfl
          · refine v_aload_n C dX4_goesAsTold_52 rfl rfl ?_
            refine g_X2_numbers C (hS.2.2.2.2.2.2.1 s0 hs0).1 dX4_goesAsTold_53 fl_X4_240 rfl ?_
            refine v_iload C dX4_goesAsTold_56 rfl rfl ?_
            refine a_I C (hS.2.2.2.2.2.2.1 s0 hs0).2 (by decide) dX4_goesAsTold_58 (i) rfl (by omega) rfl ?_
            refine v_iload C dX4_goesAsTold_59 rfl rfl ?_
            refine v_icmp_eq C 66 64 dX4_goesAsTold_61 (by decide) rfl (fun h61 => ?_) (fun h61 => ?_)
            · refine v_iincN C dX4_goesAsTold_66 rfl (by decide) rfl ?_
              refine v_goto C 3 dX4_goesAsTold_69 (by decide) ?_
              exact V.norm (ih (i + 1) _ (by omega) (by omega) htt (by rw [show i + 1 - 1 = i by omega]; exact hv) (by rw [hE, gtN_y g (by first | exact Or.inl (by rw [r2] at h49; exact h49) | exact Or.inr (by rw [r2] at h61; exact h61)), show z + 1 - (i + 1) = z - i by omega])) rfl
            · refine v_iconst C dX4_goesAsTold_64 ic_0 rfl ?_
              exact v_zret C hQ dX4_goesAsTold_65 rfl ⟨by rw [hE, gtN_n g (by rw [r2] at h49; rw [r2] at h61; exact fun h => h.elim h49 h61)], htt⟩
set_option maxRecDepth 100000 in
set_option maxHeartbeats 4000000 in
theorem c_X4_goesAsTold {l : Launch} {w : WC} {μ : Me} (hS : Sv w) (hX : Nx w) {d : Nat → Int32} (hI : IvD d) {s0 i0 z : Nat} (hs0 : s0 < 4) (hi8 : i0 < 8) (hi0 : i0 < dn d) (hz : μ.1 (43 + s0) 1 = nI z) (hz4 : z ≤ 40) (hu0 : LH μ 14 d) {wv : Int32} : CtI l w yX4_goesAsTold cX4_goesAsTold 6 (some .boolean) (Rm 4 93) [.ref (w_ad w 0), .ref (w_ad w (43 + s0)), .ref (w_ad w (14 + 3 + 2 + i0)), .int wv] μ (fun r u => r = gtN (μ.1 (43 + s0 + 4)) z d i0 wv (z + 1) 0 ∧ Tr μ u) := by
  refine Ct.mk (own := RX4) rfl (by decide) (Nat.le_of_ble_eq_true rfl) (fun x hxl C hQ => ?_)
  subst hxl
  refine v_iconst C dX4_goesAsTold_0 ic_0 rfl ?_
  refine v_istore C dX4_goesAsTold_1 (by decide) rfl ?_
  exact V.norm (lp_X4_goesAsTold_3 hS hX hI hs0 hi8 hi0 hz hz4 hu0 C hQ (z + 1) 0 _ (by omega) (by omega) (Tr.rf μ) hu0 (by rfl)) rfl

set_option maxRecDepth 100000 in
set_option maxHeartbeats 4000000 in
theorem c_X4_moodFits {l : Launch} {w : WC} {μ : Me} (hS : Sv w) (hX : Nx w) {d : Nat → Int32} (hL : LH μ 1 d) (hI : IvD d) {s0 i0 z : Nat} (hs0 : s0 < 4) (hi0 : i0 < dn d) (hz : μ.1 (43 + s0) 1 = nI z) (hz4 : z ≤ 40) {r a : Int32} (hr : r = nI i0) (ha : Le a 99) : CtI l w yX4_moodFits cX4_moodFits 4 (some .boolean) (Rm 5 118) [.ref (w_ad w 0), .ref (w_ad w (43 + s0)), .int r, .int a] μ (fun v u => v = gtN (μ.1 (43 + s0 + 4)) z (upd d (21 + i0) a) i0 1 (z + 1) 0 ∧ Tr μ u) := by
  refine Ct.mk (own := RX4) rfl (by decide) (Nat.le_of_ble_eq_true rfl) (fun x hxl C hQ => ?_)
  subst hxl
  have hn := hI.n.1
  have hi8 : i0 < 8 := by omega
  have hT := tk14 hL hI
  have hU := LH_upR (f := 1) hT hn (r := i0) (by omega) (by decide) a
  have hI2 : IvD (upd d (21 + i0) a) := IvD_upd hI (by omega) (by omega) (by omega) (by omega) (by omega) (by omega) (by omega) (by omega) (fun _ _ => ha) (by omega) (by omega) (by omega)
  rw [show 13 + 8 * 1 + i0 = 21 + i0 by omega] at hU
  refine v_aload_n C dX4_moodFits_0 rfl rfl ?_
  refine v_vV C dX4_moodFits_1 mi_X4_beginTrial (c_X4_beginTrial hS hX hL hI) rfl hS.1.1 hS.1.2 rfl ml_X4_135 (rk_of rfl) rfl (Nat.le_of_ble_eq_true rfl) rfl (pv_k ?_)
  refine v_aload_n C dX4_moodFits_4 rfl rfl ?_
  refine g_X4_trial C hS.1 dX4_moodFits_5 fl_X4_16 rfl ?_
  refine g_X0_residents C hS.2.2.1.1 dX4_moodFits_8 fl_X4_71 rfl ?_
  refine v_iload_n C dX4_moodFits_11 rfl rfl ?_
  refine a_R C hS.2.2.1.2.2.2.1 dX4_moodFits_12 (i0) hr (by omega) rfl ?_
  refine v_iload_n C dX4_moodFits_13 rfl rfl ?_
  refine p_X1_mood C (hS.2.2.1.2.2.2.2.2 (i0) (by omega)) dX4_moodFits_14 fl_X4_261 rfl ?_
  refine v_aload_n C dX4_moodFits_17 rfl rfl ?_
  refine v_aload_n C dX4_moodFits_18 rfl rfl ?_
  refine v_aload_n C dX4_moodFits_19 rfl rfl ?_
  refine g_X4_trial C hS.1 dX4_moodFits_20 fl_X4_16 rfl ?_
  refine g_X0_residents C hS.2.2.1.1 dX4_moodFits_23 fl_X4_71 rfl ?_
  refine v_iload_n C dX4_moodFits_26 rfl rfl ?_
  refine a_R C hS.2.2.1.2.2.2.1 dX4_moodFits_27 (i0) hr (by omega) rfl ?_
  refine v_iconst C dX4_moodFits_28 ic_1 rfl ?_
  refine v_iV C dX4_moodFits_29 mi_X4_goesAsTold (c_X4_goesAsTold hS hX hI2 hs0 (by omega) (by rw [dn_upd (by omega)]; exact hi0) (z := z) (by rw [up_n _ _ _ (by omega), tkS_o hn (by omega)]; exact hz) hz4 hU) rfl hS.1.1 hS.1.2 rfl ml_X4_276 (rk_of rfl) rfl (Nat.le_of_ble_eq_true rfl) rfl (fun r29 u29 hu29 => ?_)
  obtain ⟨hu1, hu2⟩ := hu29
  exact v_zret C hQ dX4_moodFits_32 (by rw [hu1]; exact gt_nar _ _) ⟨by rw [hu1, up_n _ _ _ (by omega), tkS_o hn (by omega)], (((Tr.rf μ).tk hn).up (by omega)).trans hu2⟩

set_option maxRecDepth 100000 in
set_option maxHeartbeats 4000000 in
theorem c_X4_kindFits {l : Launch} {w : WC} {μ : Me} (hS : Sv w) (hX : Nx w) {d : Nat → Int32} (hL : LH μ 1 d) (hI : IvD d) {s0 i0 z : Nat} (hs0 : s0 < 4) (hi0 : i0 < dn d) (hz : μ.1 (43 + s0) 1 = nI z) (hz4 : z ≤ 40) {r a : Int32} (hr : r = nI i0) (ha : Le a 6) : CtI l w yX4_kindFits cX4_kindFits 4 (some .boolean) (Rm 5 118) [.ref (w_ad w 0), .ref (w_ad w (43 + s0)), .int r, .int a] μ (fun v u => v = gtN (μ.1 (43 + s0 + 4)) z (upd d (13 + i0) a) i0 0 (z + 1) 0 ∧ Tr μ u) := by
  refine Ct.mk (own := RX4) rfl (by decide) (Nat.le_of_ble_eq_true rfl) (fun x hxl C hQ => ?_)
  subst hxl
  have hn := hI.n.1
  have hi8 : i0 < 8 := by omega
  have hT := tk14 hL hI
  have hU := LH_upR (f := 0) hT hn (r := i0) (by omega) (by decide) a
  have hI2 : IvD (upd d (13 + i0) a) := IvD_upd hI (by omega) (by omega) (by omega) (by omega) (by omega) (by omega) (by omega) (fun _ _ => ha) (by omega) (by omega) (by omega) (by omega)
  rw [show 13 + 8 * 0 + i0 = 13 + i0 by omega] at hU
  refine v_aload_n C dX4_kindFits_0 rfl rfl ?_
  refine v_vV C dX4_kindFits_1 mi_X4_beginTrial (c_X4_beginTrial hS hX hL hI) rfl hS.1.1 hS.1.2 rfl ml_X4_135 (rk_of rfl) rfl (Nat.le_of_ble_eq_true rfl) rfl (pv_k ?_)
  refine v_aload_n C dX4_kindFits_4 rfl rfl ?_
  refine g_X4_trial C hS.1 dX4_kindFits_5 fl_X4_16 rfl ?_
  refine g_X0_residents C hS.2.2.1.1 dX4_kindFits_8 fl_X4_71 rfl ?_
  refine v_iload_n C dX4_kindFits_11 rfl rfl ?_
  refine a_R C hS.2.2.1.2.2.2.1 dX4_kindFits_12 (i0) hr (by omega) rfl ?_
  refine v_iload_n C dX4_kindFits_13 rfl rfl ?_
  refine p_X1_kind C (hS.2.2.1.2.2.2.2.2 (i0) (by omega)) dX4_kindFits_14 fl_X4_225 rfl ?_
  refine v_aload_n C dX4_kindFits_17 rfl rfl ?_
  refine v_aload_n C dX4_kindFits_18 rfl rfl ?_
  refine v_aload_n C dX4_kindFits_19 rfl rfl ?_
  refine g_X4_trial C hS.1 dX4_kindFits_20 fl_X4_16 rfl ?_
  refine g_X0_residents C hS.2.2.1.1 dX4_kindFits_23 fl_X4_71 rfl ?_
  refine v_iload_n C dX4_kindFits_26 rfl rfl ?_
  refine a_R C hS.2.2.1.2.2.2.1 dX4_kindFits_27 (i0) hr (by omega) rfl ?_
  refine v_iconst C dX4_kindFits_28 ic_0 rfl ?_
  refine v_iV C dX4_kindFits_29 mi_X4_goesAsTold (c_X4_goesAsTold hS hX hI2 hs0 (by omega) (by rw [dn_upd (by omega)]; exact hi0) (z := z) (by rw [up_n _ _ _ (by omega), tkS_o hn (by omega)]; exact hz) hz4 hU) rfl hS.1.1 hS.1.2 rfl ml_X4_276 (rk_of rfl) rfl (Nat.le_of_ble_eq_true rfl) rfl (fun r29 u29 hu29 => ?_)
  obtain ⟨hu1, hu2⟩ := hu29
  exact v_zret C hQ dX4_kindFits_32 (by rw [hu1]; exact gt_nar _ _) ⟨by rw [hu1, up_n _ _ _ (by omega), tkS_o hn (by omega)], (((Tr.rf μ).tk hn).up (by omega)).trans hu2⟩

set_option maxRecDepth 100000 in
set_option maxHeartbeats 4000000 in
theorem lp_X4_fits_23 {w : WC} {x : Cy} {μ : Me} (hS : Sv w) (hX : Nx w) (hV : IvS μ) {d : Nat → Int32} (hL : LH μ 1 d) (hI : IvD d) {s r : Int32} (hl : lfS μ s r = 0) (q1 : s = nI (cl s) ∧ cl s ≤ 3 ∧ ¬ μ.1 (43 + cl s) 0 = 0) (q2 : r = nI (cl r) ∧ cl r < dn d) (zz : (cl (μ.1 (43 + cl s) 1)) ≤ 40 ∧ μ.1 (43 + cl s) 1 = nI (cl (μ.1 (43 + cl s) 1))) (C : Cx w x cX4_fits 6 RX4 (some .int) (Rm 6 141)) (hQ : y_Q x = MQ (y_b x) (QI w (Pt (if lfS μ s r = 0 then cnL (fun i => gtN (μ.1 (43 + cl s + 4)) (cl (μ.1 (43 + cl s) 1)) (upd d (21 + cl r) (nI i)) (cl r) 1 ((cl (μ.1 (43 + cl s) 1)) + 1) 0) 100 else lfS μ s r) (if lfS μ s r = 0 then μ else tlS μ (lfP μ s)))) (y_a x) (y_s x) 0 0 (AA w)) : ∀ (m i : Nat) (uu : Me) (a : Int32), 100 + 1 ≤ i + m → i ≤ 100 → (Tr μ uu) → (a = cnL (fun i => gtN (μ.1 (43 + cl s + 4)) (cl (μ.1 (43 + cl s) 1)) (upd d (21 + cl r) (nI i)) (cl r) 1 ((cl (μ.1 (43 + cl s) 1)) + 1) 0) i) → V w x 6 uu 23 [(0, .ref (w_ad w 0)), (1, .int s), (2, .int r), (3, .int (lfS μ s r)), (4, .int a), (5, .int (nI i))] [] := by
  intro m
  induction m with
  | zero =>
    intro i uu a hm hi
    exact absurd hm (by omega)
  | succ m ih =>
    intro i uu a hm hi ht ha
    have hn := hI.n.1
    have hll := hL.tr ht hI
    have r2 : uu.1 (43 + cl s + 4) = μ.1 (43 + cl s + 4) := ht _ (by omega)
    have r3 : uu.1 (43 + cl s) 1 = nI (cl (μ.1 (43 + cl s) 1)) := by rw [ht _ (by omega)]; exact zz.2
    refine v_iload C dX4_fits_23 rfl rfl ?_
    refine v_bipush C dX4_fits_25 bp_99 rfl ?_
    refine v_icmp_gt C 55 30 dX4_fits_27 (by decide) rfl (fun h27 => ?_) (fun h27 => ?_)
    · have g : i = 100 := by have := (lt_n (a := 99) (b := i) (by omega) (by omega)).mp h27; omega
      refine v_iload C dX4_fits_55 rfl rfl ?_
      exact v_iret C hQ dX4_fits_57 ⟨by rw [if_pos hl, ha, g], by rw [if_pos hl]; exact ht⟩
    · have g : i ≤ 99 := by rcases Nat.lt_or_ge 99 i with q | q; exact absurd ((lt_n (a := 99) (b := i) (by omega) (by omega)).mpr q) h27; exact q
      refine v_aload_n C dX4_fits_30 rfl rfl ?_
      refine v_aload_n C dX4_fits_31 rfl rfl ?_
      refine g_X4_sheets C hS.1 dX4_fits_32 fl_X4_35 rfl ?_
      refine v_iload_n C dX4_fits_35 rfl rfl ?_
      refine a_S C hS.2.2.2.2.2.1 dX4_fits_36 (cl s) q1.1 (by omega) rfl ?_
      refine v_iload_n C dX4_fits_37 rfl rfl ?_
      refine v_iload C dX4_fits_38 rfl rfl ?_
      refine v_iV C dX4_fits_40 mi_X4_moodFits (c_X4_moodFits hS hX hll hI (s0 := cl s) (by omega) q2.2 (z := (cl (μ.1 (43 + cl s) 1))) r3 zz.1 q2.1 ⟨i, by omega, rfl⟩) rfl hS.1.1 hS.1.2 rfl ml_X4_187 (rk_of rfl) rfl (Nat.le_of_ble_eq_true rfl) rfl (fun r40 u40 hu40 => ?_)
      obtain ⟨hu1, hu2⟩ := hu40
      rw [r2] at hu1
      subst hu1
      have htt := ht.trans hu2
      refine v_if_eq C 49 46 dX4_fits_43 (by decide) rfl (fun h43 => ?_) (fun h43 => ?_)
      · refine v_iincN C dX4_fits_49 rfl (by decide) rfl ?_
        refine v_goto C 23 dX4_fits_52 (by decide) ?_
        exact V.norm (ih (i + 1) _ _ (by omega) (by omega) htt (by rw [ha]; exact (if_pos h43).symm)) rfl
      · refine v_iincP C dX4_fits_46 rfl (by decide) rfl ?_
        refine v_iincN C dX4_fits_49 rfl (by decide) rfl ?_
        refine v_goto C 23 dX4_fits_52 (by decide) ?_
        exact V.norm (ih (i + 1) _ _ (by omega) (by omega) htt (by rw [ha]; exact (if_neg h43).symm)) rfl
set_option maxRecDepth 100000 in
set_option maxHeartbeats 4000000 in
theorem c_X4_fits {l : Launch} {w : WC} {μ : Me} (hS : Sv w) (hX : Nx w) (hV : IvS μ) {d : Nat → Int32} (hL : LH μ 1 d) (hI : IvD d) {s r : Int32} : CtI l w yX4_fits cX4_fits 6 (some .int) (Rm 6 141) [.ref (w_ad w 0), .int s, .int r] μ (Pt (if lfS μ s r = 0 then cnL (fun i => gtN (μ.1 (43 + cl s + 4)) (cl (μ.1 (43 + cl s) 1)) (upd d (21 + cl r) (nI i)) (cl r) 1 ((cl (μ.1 (43 + cl s) 1)) + 1) 0) 100 else lfS μ s r) (if lfS μ s r = 0 then μ else tlS μ (lfP μ s))) := by
  refine Ct.mk (own := RX4) rfl (by decide) (Nat.le_of_ble_eq_true rfl) (fun x hxl C hQ => ?_)
  subst hxl
  have hn := hI.n.1
  have h0 : μ.1 1 3 = nI (dn d) := hL.1.trans hI.n.2
  refine v_aload_n C dX4_fits_0 rfl rfl ?_
  refine v_iload_n C dX4_fits_1 rfl rfl ?_
  refine v_iload_n C dX4_fits_2 rfl rfl ?_
  refine v_iV C dX4_fits_3 mi_X4_lackFor (c_X4_lackFor hS hX) rfl hS.1.1 hS.1.2 rfl ml_X4_184 (rk_of rfl) rfl (Nat.le_of_ble_eq_true rfl) rfl (px_k ?_)
  refine v_istore_n C dX4_fits_6 (by decide) rfl ?_
  refine v_iload_n C dX4_fits_7 rfl rfl ?_
  refine v_if_eq C 17 11 dX4_fits_8 (by decide) rfl (fun h8 => ?_) (fun h8 => ?_)
  · have q := lf_i h8
    have q1 := lk_i q.1
    have q2 := has_i hn h0 q.2
    have zz := ((hV (cl s) (by omega)).2).cl (by omega)
    refine v_iconst C dX4_fits_17 ic_0 rfl ?_
    refine v_istore C dX4_fits_18 (by decide) rfl ?_
    refine v_iconst C dX4_fits_20 ic_0 rfl ?_
    refine v_istore C dX4_fits_21 (by decide) rfl ?_
    exact V.norm (lp_X4_fits_23 hS hX hV hL hI h8 q1 q2 zz C hQ 101 0 _ _ (by omega) (by omega) (Tr.rf μ) rfl) rfl
  · refine v_aload_n C dX4_fits_11 rfl rfl ?_
    refine v_iload_n C dX4_fits_12 rfl rfl ?_
    refine v_iV C dX4_fits_13 mi_X4_tell (c_X4_tell hS hX (lfP_lt μ s) (lf_p h8)) rfl hS.1.1 hS.1.2 rfl ml_X4_49 (rk_of rfl) rfl (Nat.le_of_ble_eq_true rfl) rfl (px_k ?_)
    exact v_iret C hQ dX4_fits_16 ⟨(if_neg h8).symm, by rw [if_neg h8]; exact Tr.rf _⟩

set_option maxRecDepth 100000 in
set_option maxHeartbeats 4000000 in
theorem lp_X4_kinds_23 {w : WC} {x : Cy} {μ : Me} (hS : Sv w) (hX : Nx w) (hV : IvS μ) {d : Nat → Int32} (hL : LH μ 1 d) (hI : IvD d) {s r : Int32} (hl : lfS μ s r = 0) (q1 : s = nI (cl s) ∧ cl s ≤ 3 ∧ ¬ μ.1 (43 + cl s) 0 = 0) (q2 : r = nI (cl r) ∧ cl r < dn d) (zz : (cl (μ.1 (43 + cl s) 1)) ≤ 40 ∧ μ.1 (43 + cl s) 1 = nI (cl (μ.1 (43 + cl s) 1))) (C : Cx w x cX4_kinds 6 RX4 (some .int) (Rm 6 141)) (hQ : y_Q x = MQ (y_b x) (QI w (Pt (if lfS μ s r = 0 then kbL (fun i => gtN (μ.1 (43 + cl s + 4)) (cl (μ.1 (43 + cl s) 1)) (upd d (13 + cl r) (nI i)) (cl r) 0 ((cl (μ.1 (43 + cl s) 1)) + 1) 0) 7 else lfS μ s r) (if lfS μ s r = 0 then μ else tlS μ (lfP μ s)))) (y_a x) (y_s x) 0 0 (AA w)) : ∀ (m i : Nat) (uu : Me) (a : Int32), 7 + 1 ≤ i + m → i ≤ 7 → (Tr μ uu) → (a = kbL (fun i => gtN (μ.1 (43 + cl s + 4)) (cl (μ.1 (43 + cl s) 1)) (upd d (13 + cl r) (nI i)) (cl r) 0 ((cl (μ.1 (43 + cl s) 1)) + 1) 0) i) → V w x 6 uu 23 [(0, .ref (w_ad w 0)), (1, .int s), (2, .int r), (3, .int (lfS μ s r)), (4, .int a), (5, .int (nI i))] [] := by
  intro m
  induction m with
  | zero =>
    intro i uu a hm hi
    exact absurd hm (by omega)
  | succ m ih =>
    intro i uu a hm hi ht ha
    have hn := hI.n.1
    have hll := hL.tr ht hI
    have r2 : uu.1 (43 + cl s + 4) = μ.1 (43 + cl s + 4) := ht _ (by omega)
    have r3 : uu.1 (43 + cl s) 1 = nI (cl (μ.1 (43 + cl s) 1)) := by rw [ht _ (by omega)]; exact zz.2
    refine v_iload C dX4_kinds_23 rfl rfl ?_
    refine v_bipush C dX4_kinds_25 bp_7 rfl ?_
    refine v_icmp_ge C 61 30 dX4_kinds_27 (by decide) rfl (fun h27 => ?_) (fun h27 => ?_)
    · have g : i = 7 := by have := (le_n (a := 7) (b := i) (by omega) (by omega)).mp h27; omega
      refine v_iload C dX4_kinds_61 rfl rfl ?_
      exact v_iret C hQ dX4_kinds_63 ⟨by rw [if_pos hl, ha, g], by rw [if_pos hl]; exact ht⟩
    · have g : i < 7 := by rcases Nat.lt_or_ge i (7) with q | q; exact q; exact absurd ((le_n (a := 7) (b := i) (by omega) (by omega)).mpr q) h27
      refine v_aload_n C dX4_kinds_30 rfl rfl ?_
      refine v_aload_n C dX4_kinds_31 rfl rfl ?_
      refine g_X4_sheets C hS.1 dX4_kinds_32 fl_X4_35 rfl ?_
      refine v_iload_n C dX4_kinds_35 rfl rfl ?_
      refine a_S C hS.2.2.2.2.2.1 dX4_kinds_36 (cl s) q1.1 (by omega) rfl ?_
      refine v_iload_n C dX4_kinds_37 rfl rfl ?_
      refine v_iload C dX4_kinds_38 rfl rfl ?_
      refine v_iV C dX4_kinds_40 mi_X4_kindFits (c_X4_kindFits hS hX hll hI (s0 := cl s) (by omega) q2.2 (z := (cl (μ.1 (43 + cl s) 1))) r3 zz.1 q2.1 ⟨i, by omega, rfl⟩) rfl hS.1.1 hS.1.2 rfl ml_X4_191 (rk_of rfl) rfl (Nat.le_of_ble_eq_true rfl) rfl (fun r40 u40 hu40 => ?_)
      obtain ⟨hu1, hu2⟩ := hu40
      rw [r2] at hu1
      subst hu1
      have htt := ht.trans hu2
      refine v_if_eq C 55 46 dX4_kinds_43 (by decide) rfl (fun h43 => ?_) (fun h43 => ?_)
      · refine v_iincN C dX4_kinds_55 rfl (by decide) rfl ?_
        refine v_goto C 23 dX4_kinds_58 (by decide) ?_
        exact V.norm (ih (i + 1) _ _ (by omega) (by omega) htt (by rw [ha]; exact (if_pos h43).symm)) rfl
      · refine v_iload C dX4_kinds_46 rfl rfl ?_
        refine v_iconst C dX4_kinds_48 ic_1 rfl ?_
        refine v_iload C dX4_kinds_49 rfl rfl ?_
        refine v_ishl C dX4_kinds_51 rfl ?_
        refine v_ior C dX4_kinds_52 rfl ?_
        refine v_istore C dX4_kinds_53 (by decide) rfl ?_
        refine v_iincN C dX4_kinds_55 rfl (by decide) rfl ?_
        refine v_goto C 23 dX4_kinds_58 (by decide) ?_
        exact V.norm (ih (i + 1) _ _ (by omega) (by omega) htt (by rw [ha]; exact (if_neg h43).symm)) rfl
set_option maxRecDepth 100000 in
set_option maxHeartbeats 4000000 in
theorem c_X4_kinds {l : Launch} {w : WC} {μ : Me} (hS : Sv w) (hX : Nx w) (hV : IvS μ) {d : Nat → Int32} (hL : LH μ 1 d) (hI : IvD d) {s r : Int32} : CtI l w yX4_kinds cX4_kinds 6 (some .int) (Rm 6 141) [.ref (w_ad w 0), .int s, .int r] μ (Pt (if lfS μ s r = 0 then kbL (fun i => gtN (μ.1 (43 + cl s + 4)) (cl (μ.1 (43 + cl s) 1)) (upd d (13 + cl r) (nI i)) (cl r) 0 ((cl (μ.1 (43 + cl s) 1)) + 1) 0) 7 else lfS μ s r) (if lfS μ s r = 0 then μ else tlS μ (lfP μ s))) := by
  refine Ct.mk (own := RX4) rfl (by decide) (Nat.le_of_ble_eq_true rfl) (fun x hxl C hQ => ?_)
  subst hxl
  have hn := hI.n.1
  have h0 : μ.1 1 3 = nI (dn d) := hL.1.trans hI.n.2
  refine v_aload_n C dX4_kinds_0 rfl rfl ?_
  refine v_iload_n C dX4_kinds_1 rfl rfl ?_
  refine v_iload_n C dX4_kinds_2 rfl rfl ?_
  refine v_iV C dX4_kinds_3 mi_X4_lackFor (c_X4_lackFor hS hX) rfl hS.1.1 hS.1.2 rfl ml_X4_184 (rk_of rfl) rfl (Nat.le_of_ble_eq_true rfl) rfl (px_k ?_)
  refine v_istore_n C dX4_kinds_6 (by decide) rfl ?_
  refine v_iload_n C dX4_kinds_7 rfl rfl ?_
  refine v_if_eq C 17 11 dX4_kinds_8 (by decide) rfl (fun h8 => ?_) (fun h8 => ?_)
  · have q := lf_i h8
    have q1 := lk_i q.1
    have q2 := has_i hn h0 q.2
    have zz := ((hV (cl s) (by omega)).2).cl (by omega)
    refine v_iconst C dX4_kinds_17 ic_0 rfl ?_
    refine v_istore C dX4_kinds_18 (by decide) rfl ?_
    refine v_iconst C dX4_kinds_20 ic_0 rfl ?_
    refine v_istore C dX4_kinds_21 (by decide) rfl ?_
    exact V.norm (lp_X4_kinds_23 hS hX hV hL hI h8 q1 q2 zz C hQ 8 0 _ _ (by omega) (by omega) (Tr.rf μ) rfl) rfl
  · refine v_aload_n C dX4_kinds_11 rfl rfl ?_
    refine v_iload_n C dX4_kinds_12 rfl rfl ?_
    refine v_iV C dX4_kinds_13 mi_X4_tell (c_X4_tell hS hX (lfP_lt μ s) (lf_p h8)) rfl hS.1.1 hS.1.2 rfl ml_X4_49 (rk_of rfl) rfl (Nat.le_of_ble_eq_true rfl) rfl (px_k ?_)
    exact v_iret C hQ dX4_kinds_16 ⟨(if_neg h8).symm, by rw [if_neg h8]; exact Tr.rf _⟩

set_option maxRecDepth 100000 in
set_option maxHeartbeats 4000000 in
theorem lp_X4_mood_20 {w : WC} {x : Cy} {μ : Me} (hS : Sv w) (hX : Nx w) (hV : IvS μ) {d : Nat → Int32} (hL : LH μ 1 d) (hI : IvD d) {s r : Int32} (hl : lfS μ s r = 0) (q1 : s = nI (cl s) ∧ cl s ≤ 3 ∧ ¬ μ.1 (43 + cl s) 0 = 0) (q2 : r = nI (cl r) ∧ cl r < dn d) (zz : (cl (μ.1 (43 + cl s) 1)) ≤ 40 ∧ μ.1 (43 + cl s) 1 = nI (cl (μ.1 (43 + cl s) 1))) (C : Cx w x cX4_mood 5 RX4 (some .int) (Rm 6 141)) (hQ : y_Q x = MQ (y_b x) (QI w (Pt (if lfS μ s r = 0 then (if fsN (fun i => gtN (μ.1 (43 + cl s + 4)) (cl (μ.1 (43 + cl s) 1)) (upd d (21 + cl r) (nI i)) (cl r) 1 ((cl (μ.1 (43 + cl s) 1)) + 1) 0) 100 0 ≤ 99 then nI (fsN (fun i => gtN (μ.1 (43 + cl s + 4)) (cl (μ.1 (43 + cl s) 1)) (upd d (21 + cl r) (nI i)) (cl r) 1 ((cl (μ.1 (43 + cl s) 1)) + 1) 0) 100 0) else -1000004) else lfS μ s r) (if lfS μ s r = 0 then (if fsN (fun i => gtN (μ.1 (43 + cl s + 4)) (cl (μ.1 (43 + cl s) 1)) (upd d (21 + cl r) (nI i)) (cl r) 1 ((cl (μ.1 (43 + cl s) 1)) + 1) 0) 100 0 ≤ 99 then μ else tlS μ 3) else tlS μ (lfP μ s)))) (y_a x) (y_s x) 0 0 (AA w)) : ∀ (m i : Nat) (uu : Me), 100 + 1 ≤ i + m → i ≤ 100 → (Tr μ uu) → (fsN (fun i => gtN (μ.1 (43 + cl s + 4)) (cl (μ.1 (43 + cl s) 1)) (upd d (21 + cl r) (nI i)) (cl r) 1 ((cl (μ.1 (43 + cl s) 1)) + 1) 0) 100 0 = fsN (fun i => gtN (μ.1 (43 + cl s + 4)) (cl (μ.1 (43 + cl s) 1)) (upd d (21 + cl r) (nI i)) (cl r) 1 ((cl (μ.1 (43 + cl s) 1)) + 1) 0) (100 - i) i) → V w x 5 uu 20 [(0, .ref (w_ad w 0)), (1, .int s), (2, .int r), (3, .int (lfS μ s r)), (4, .int (nI i))] [] := by
  intro m
  induction m with
  | zero =>
    intro i uu hm hi
    exact absurd hm (by omega)
  | succ m ih =>
    intro i uu hm hi ht hE
    have hn := hI.n.1
    have hll := hL.tr ht hI
    have r2 : uu.1 (43 + cl s + 4) = μ.1 (43 + cl s + 4) := ht _ (by omega)
    have r3 : uu.1 (43 + cl s) 1 = nI (cl (μ.1 (43 + cl s) 1)) := by rw [ht _ (by omega)]; exact zz.2
    refine v_iload C dX4_mood_20 rfl rfl ?_
    refine v_bipush C dX4_mood_22 bp_99 rfl ?_
    refine v_icmp_gt C 52 27 dX4_mood_24 (by decide) rfl (fun h24 => ?_) (fun h24 => ?_)
    · have g : i = 100 := by have := (lt_n (a := 99) (b := i) (by omega) (by omega)).mp h24; omega
      subst g
      refine v_aload_n C dX4_mood_52 rfl rfl ?_
      refine v_ldc C dX4_mood_53 cn_X4_153 rfl ?_
      refine v_iV C dX4_mood_55 mi_X4_tell (c_X4_tell hS hX (p := 3) (by decide) (by decide)) rfl hS.1.1 hS.1.2 rfl ml_X4_49 (rk_of rfl) rfl (Nat.le_of_ble_eq_true rfl) rfl (px_k ?_)
      exact v_iret C hQ dX4_mood_58 ⟨by rw [if_pos hl, if_neg (show ¬ fsN (fun i => gtN (μ.1 (43 + cl s + 4)) (cl (μ.1 (43 + cl s) 1)) (upd d (21 + cl r) (nI i)) (cl r) 1 ((cl (μ.1 (43 + cl s) 1)) + 1) 0) 100 0 ≤ 99 by rw [hE]; show ¬ 100 ≤ 99; omega)], by rw [if_pos hl, if_neg (show ¬ fsN (fun i => gtN (μ.1 (43 + cl s + 4)) (cl (μ.1 (43 + cl s) 1)) (upd d (21 + cl r) (nI i)) (cl r) 1 ((cl (μ.1 (43 + cl s) 1)) + 1) 0) 100 0 ≤ 99 by rw [hE]; show ¬ 100 ≤ 99; omega)]; exact ht.tl 3⟩
    · have g : i ≤ 99 := by rcases Nat.lt_or_ge 99 i with q | q; exact absurd ((lt_n (a := 99) (b := i) (by omega) (by omega)).mpr q) h24; exact q
      rw [show 100 - i = (99 - i) + 1 by omega] at hE
      refine v_aload_n C dX4_mood_27 rfl rfl ?_
      refine v_aload_n C dX4_mood_28 rfl rfl ?_
      refine g_X4_sheets C hS.1 dX4_mood_29 fl_X4_35 rfl ?_
      refine v_iload_n C dX4_mood_32 rfl rfl ?_
      refine a_S C hS.2.2.2.2.2.1 dX4_mood_33 (cl s) q1.1 (by omega) rfl ?_
      refine v_iload_n C dX4_mood_34 rfl rfl ?_
      refine v_iload C dX4_mood_35 rfl rfl ?_
      refine v_iV C dX4_mood_37 mi_X4_moodFits (c_X4_moodFits hS hX hll hI (s0 := cl s) (by omega) q2.2 (z := (cl (μ.1 (43 + cl s) 1))) r3 zz.1 q2.1 ⟨i, by omega, rfl⟩) rfl hS.1.1 hS.1.2 rfl ml_X4_187 (rk_of rfl) rfl (Nat.le_of_ble_eq_true rfl) rfl (fun r37 u37 hu37 => ?_)
      obtain ⟨hu1, hu2⟩ := hu37
      rw [r2] at hu1
      subst hu1
      have htt := ht.trans hu2
      refine v_if_eq C 46 43 dX4_mood_40 (by decide) rfl (fun h40 => ?_) (fun h40 => ?_)
      · refine v_iincN C dX4_mood_46 rfl (by decide) rfl ?_
        refine v_goto C 20 dX4_mood_49 (by decide) ?_
        exact V.norm (ih (i + 1) _ (by omega) (by omega) htt (by rw [hE, fsN_n (p := (fun i => gtN (μ.1 (43 + cl s + 4)) (cl (μ.1 (43 + cl s) 1)) (upd d (21 + cl r) (nI i)) (cl r) 1 ((cl (μ.1 (43 + cl s) 1)) + 1) 0)) (i := i) (m := 99 - i) h40, show 100 - (i + 1) = 99 - i by omega])) rfl
      · refine v_iload C dX4_mood_43 rfl rfl ?_
        exact v_iret C hQ dX4_mood_45 ⟨by rw [if_pos hl, hE, fsN_y (p := (fun i => gtN (μ.1 (43 + cl s + 4)) (cl (μ.1 (43 + cl s) 1)) (upd d (21 + cl r) (nI i)) (cl r) 1 ((cl (μ.1 (43 + cl s) 1)) + 1) 0)) (i := i) (m := 99 - i) h40, if_pos g], by rw [if_pos hl, hE, fsN_y (p := (fun i => gtN (μ.1 (43 + cl s + 4)) (cl (μ.1 (43 + cl s) 1)) (upd d (21 + cl r) (nI i)) (cl r) 1 ((cl (μ.1 (43 + cl s) 1)) + 1) 0)) (i := i) (m := 99 - i) h40, if_pos g]; exact htt⟩
set_option maxRecDepth 100000 in
set_option maxHeartbeats 4000000 in
theorem c_X4_mood {l : Launch} {w : WC} {μ : Me} (hS : Sv w) (hX : Nx w) (hV : IvS μ) {d : Nat → Int32} (hL : LH μ 1 d) (hI : IvD d) {s r : Int32} : CtI l w yX4_mood cX4_mood 5 (some .int) (Rm 6 141) [.ref (w_ad w 0), .int s, .int r] μ (Pt (if lfS μ s r = 0 then (if fsN (fun i => gtN (μ.1 (43 + cl s + 4)) (cl (μ.1 (43 + cl s) 1)) (upd d (21 + cl r) (nI i)) (cl r) 1 ((cl (μ.1 (43 + cl s) 1)) + 1) 0) 100 0 ≤ 99 then nI (fsN (fun i => gtN (μ.1 (43 + cl s + 4)) (cl (μ.1 (43 + cl s) 1)) (upd d (21 + cl r) (nI i)) (cl r) 1 ((cl (μ.1 (43 + cl s) 1)) + 1) 0) 100 0) else -1000004) else lfS μ s r) (if lfS μ s r = 0 then (if fsN (fun i => gtN (μ.1 (43 + cl s + 4)) (cl (μ.1 (43 + cl s) 1)) (upd d (21 + cl r) (nI i)) (cl r) 1 ((cl (μ.1 (43 + cl s) 1)) + 1) 0) 100 0 ≤ 99 then μ else tlS μ 3) else tlS μ (lfP μ s))) := by
  refine Ct.mk (own := RX4) rfl (by decide) (Nat.le_of_ble_eq_true rfl) (fun x hxl C hQ => ?_)
  subst hxl
  have hn := hI.n.1
  have h0 : μ.1 1 3 = nI (dn d) := hL.1.trans hI.n.2
  refine v_aload_n C dX4_mood_0 rfl rfl ?_
  refine v_iload_n C dX4_mood_1 rfl rfl ?_
  refine v_iload_n C dX4_mood_2 rfl rfl ?_
  refine v_iV C dX4_mood_3 mi_X4_lackFor (c_X4_lackFor hS hX) rfl hS.1.1 hS.1.2 rfl ml_X4_184 (rk_of rfl) rfl (Nat.le_of_ble_eq_true rfl) rfl (px_k ?_)
  refine v_istore_n C dX4_mood_6 (by decide) rfl ?_
  refine v_iload_n C dX4_mood_7 rfl rfl ?_
  refine v_if_eq C 17 11 dX4_mood_8 (by decide) rfl (fun h8 => ?_) (fun h8 => ?_)
  · have q := lf_i h8
    have q1 := lk_i q.1
    have q2 := has_i hn h0 q.2
    have zz := ((hV (cl s) (by omega)).2).cl (by omega)
    refine v_iconst C dX4_mood_17 ic_0 rfl ?_
    refine v_istore C dX4_mood_18 (by decide) rfl ?_
    exact V.norm (lp_X4_mood_20 hS hX hV hL hI h8 q1 q2 zz C hQ 101 0 _ (by omega) (by omega) (Tr.rf μ) rfl) rfl
  · refine v_aload_n C dX4_mood_11 rfl rfl ?_
    refine v_iload_n C dX4_mood_12 rfl rfl ?_
    refine v_iV C dX4_mood_13 mi_X4_tell (c_X4_tell hS hX (lfP_lt μ s) (lf_p h8)) rfl hS.1.1 hS.1.2 rfl ml_X4_49 (rk_of rfl) rfl (Nat.le_of_ble_eq_true rfl) rfl (px_k ?_)
    exact v_iret C hQ dX4_mood_16 ⟨(if_neg h8).symm, by rw [if_neg h8]; exact Tr.rf _⟩
