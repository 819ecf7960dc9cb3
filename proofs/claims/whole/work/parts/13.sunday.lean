set_option maxRecDepth 100000 in
set_option maxHeartbeats 4000000 in
theorem c_J6_bitCount_0f7a4 {l : Launch} {w : WC} {μ : Me} {a : Int32} : CtI l w yJ6_bitCount_0f7a4 cJ6_bitCount_0f7a4 1 (some .int) (Rm 0 0) [.int a] μ (Px (bcS a) μ) := by
  refine Ct.mk (own := RJ6) rfl (by decide) (Nat.le_of_ble_eq_true rfl) (fun x hxl C hQ => ?_)
  subst hxl
  refine v_iload_n C dJ6_bitCount_0f7a4_0 rfl rfl ?_
  refine v_iload_n C dJ6_bitCount_0f7a4_1 rfl rfl ?_
  refine v_iconst C dJ6_bitCount_0f7a4_2 ic_1 rfl ?_
  refine v_iushr C dJ6_bitCount_0f7a4_3 rfl ?_
  refine v_ldcw C dJ6_bitCount_0f7a4_4 cn_J6_265 rfl ?_
  refine v_iand C dJ6_bitCount_0f7a4_7 rfl ?_
  refine v_isub C dJ6_bitCount_0f7a4_8 rfl ?_
  refine v_istore_n C dJ6_bitCount_0f7a4_9 (by decide) rfl ?_
  refine v_iload_n C dJ6_bitCount_0f7a4_10 rfl rfl ?_
  refine v_ldcw C dJ6_bitCount_0f7a4_11 cn_J6_266 rfl ?_
  refine v_iand C dJ6_bitCount_0f7a4_14 rfl ?_
  refine v_iload_n C dJ6_bitCount_0f7a4_15 rfl rfl ?_
  refine v_iconst C dJ6_bitCount_0f7a4_16 ic_2 rfl ?_
  refine v_iushr C dJ6_bitCount_0f7a4_17 rfl ?_
  refine v_ldcw C dJ6_bitCount_0f7a4_18 cn_J6_266 rfl ?_
  refine v_iand C dJ6_bitCount_0f7a4_21 rfl ?_
  refine v_iadd C dJ6_bitCount_0f7a4_22 rfl ?_
  refine v_istore_n C dJ6_bitCount_0f7a4_23 (by decide) rfl ?_
  refine v_iload_n C dJ6_bitCount_0f7a4_24 rfl rfl ?_
  refine v_iload_n C dJ6_bitCount_0f7a4_25 rfl rfl ?_
  refine v_iconst C dJ6_bitCount_0f7a4_26 ic_4 rfl ?_
  refine v_iushr C dJ6_bitCount_0f7a4_27 rfl ?_
  refine v_iadd C dJ6_bitCount_0f7a4_28 rfl ?_
  refine v_ldcw C dJ6_bitCount_0f7a4_29 cn_J6_267 rfl ?_
  refine v_iand C dJ6_bitCount_0f7a4_32 rfl ?_
  refine v_istore_n C dJ6_bitCount_0f7a4_33 (by decide) rfl ?_
  refine v_iload_n C dJ6_bitCount_0f7a4_34 rfl rfl ?_
  refine v_iload_n C dJ6_bitCount_0f7a4_35 rfl rfl ?_
  refine v_bipush C dJ6_bitCount_0f7a4_36 bp_8 rfl ?_
  refine v_iushr C dJ6_bitCount_0f7a4_38 rfl ?_
  refine v_iadd C dJ6_bitCount_0f7a4_39 rfl ?_
  refine v_istore_n C dJ6_bitCount_0f7a4_40 (by decide) rfl ?_
  refine v_iload_n C dJ6_bitCount_0f7a4_41 rfl rfl ?_
  refine v_iload_n C dJ6_bitCount_0f7a4_42 rfl rfl ?_
  refine v_bipush C dJ6_bitCount_0f7a4_43 bp_16 rfl ?_
  refine v_iushr C dJ6_bitCount_0f7a4_45 rfl ?_
  refine v_iadd C dJ6_bitCount_0f7a4_46 rfl ?_
  refine v_istore_n C dJ6_bitCount_0f7a4_47 (by decide) rfl ?_
  refine v_iload_n C dJ6_bitCount_0f7a4_48 rfl rfl ?_
  refine v_bipush C dJ6_bitCount_0f7a4_49 bp_63 rfl ?_
  refine v_iand C dJ6_bitCount_0f7a4_51 rfl ?_
  exact v_iret C hQ dJ6_bitCount_0f7a4_52 ⟨rfl, rfl⟩

set_option maxRecDepth 100000 in
set_option maxHeartbeats 4000000 in
theorem c_X0_decide {l : Launch} {w : WC} {μ : Me} {k : Nat} (hk : Hm w k) (hX : Nx w) {n j : Nat} (hI : IvH μ k n j) : CtV l w yX0_decide cX0_decide 1 (Rm 2 48) [.ref (w_ad w k)] μ (Pv (deS μ k n j)) := by
  refine Ct.mk (own := RX0) rfl (by decide) (Nat.le_of_ble_eq_true rfl) (fun x hxl C hQ => ?_)
  subst hxl
  obtain ⟨hn, h0, ⟨s, hs1, hs⟩, hj, hv⟩ := hI
  refine v_aload_n C dX0_decide_0 rfl rfl ?_
  refine v_aload_n C dX0_decide_1 rfl rfl ?_
  refine v_aload_n C dX0_decide_2 rfl rfl ?_
  refine g_X0_list C hk.1 dX0_decide_3 fl_X0_15 rfl ?_
  refine v_aload_n C dX0_decide_6 rfl rfl ?_
  refine g_X0_sunday C hk.1 dX0_decide_7 fl_X0_51 rfl ?_
  refine v_bipush C dX0_decide_10 bp_6 rfl ?_
  refine v_irem C dX0_decide_12 (by decide) rfl ?_
  refine a_I C hk.2.2.1 (by decide) dX0_decide_13 (s6 (μ.1 k 4)) (by rw [hs, s6_e (by omega)]; exact s6_n (by omega)) (by rw [hs, s6_e (by omega)]; omega) rfl ?_
  refine v_iV C dX0_decide_14 mi_X0_seated (c_X0_seated hk hX hn h0) rfl hk.1.1 hk.1.2 rfl ml_X0_112 (rk_of rfl) rfl (Nat.le_of_ble_eq_true rfl) rfl (px_k ?_)
  refine p_X0_visited C hk.1 dX0_decide_17 fl_X0_73 rfl ?_
  refine v_aload_n C dX0_decide_20 rfl rfl ?_
  refine v_aload_n C dX0_decide_21 rfl rfl ?_
  refine v_iV C dX0_decide_22 mi_X0_sharers (c_X0_sharers hk hX hn (by rw [up_i _ _ _ (by decide)]; exact h0)) rfl hk.1.1 hk.1.2 rfl ml_X0_115 (rk_of rfl) rfl (Nat.le_of_ble_eq_true rfl) rfl (px_k ?_)
  refine p_X0_sharing C hk.1 dX0_decide_25 fl_X0_90 rfl ?_
  refine v_aload_n C dX0_decide_28 rfl rfl ?_
  refine v_aload_n C dX0_decide_29 rfl rfl ?_
  refine v_aload_n C dX0_decide_30 rfl rfl ?_
  refine g_X0_visited C hk.1 dX0_decide_31 fl_X0_73 rfl ?_
  refine v_aload_n C dX0_decide_34 rfl rfl ?_
  refine g_X0_sharing C hk.1 dX0_decide_35 fl_X0_90 rfl ?_
  refine v_ior C dX0_decide_38 rfl ?_
  refine v_iV C dX0_decide_39 mi_X0_volunteersTo (c_X0_volunteersTo hk hX hn (by rw [up_i _ _ _ (by decide), up_i _ _ _ (by decide)]; exact h0) hj (by rw [up_k1, up_k1]; exact hv)) rfl hk.1.1 hk.1.2 rfl ml_X0_119 (rk_of rfl) rfl (Nat.le_of_ble_eq_true rfl) rfl (px_k ?_)
  refine p_X0_helped C hk.1 dX0_decide_42 fl_X0_96 rfl ?_
  exact v_vret C hQ dX0_decide_45 (by simp only [Pv, deS, hpS, shS, viS, up_res, up_s, up_i _ _ _ (show (7 : Nat) ≠ 8 by decide)])

set_option maxRecDepth 100000 in
set_option maxHeartbeats 4000000 in
theorem lp_X0_passSunday_29 {w : WC} {x : Cy} {μ : Me} {k : Nat} (hk : Hm w k) (hX : Nx w) {n j : Nat} (hI : IvH μ k n j) {m0 : Me} {g b c : Int32} (hn : n ≤ 8) (h0 : m0.1 k 3 = nI n) (hF : Pv (up (suL m0 k g b c n).1 k 4 (suT (m0.1 k 4))) = Pv (psS μ k n j)) (C : Cx w x cX0_passSunday 6 RX0 none (Rm 3 68)) (hQ : y_Q x = MQ (y_b x) (QV w (Pv (psS μ k n j))) (y_a x) (y_s x) 0 0 (AA w)) : ∀ (m i : Nat) (mm : Me) (cc : Int32), n + 1 ≤ i + m → i ≤ n → ((mm, cc) = suL m0 k g b c i) → V w x 6 mm 29 [(0, .ref (w_ad w k)), (1, .int g), (2, .int cc), (3, .int b), (4, .int (nI i))] [] := by
  intro m
  induction m with
  | zero =>
    intro i mm cc hm hi
    exact absurd hm (by omega)
  | succ m ih =>
    intro i mm cc hm hi he
    have hr : mm.1 k = m0.1 k := by have q := suL_k m0 k g b c i; rw [← he] at q; exact q
    refine v_iload C dX0_passSunday_29 rfl rfl ?_
    refine v_aload_n C dX0_passSunday_31 rfl rfl ?_
    refine g_X0_size C hk.1 dX0_passSunday_32 fl_X0_44 rfl ?_
    refine v_eqi ((congrFun hr 3).trans h0) ?_
    refine v_icmp_ge C 133 38 dX0_passSunday_35 (by decide) rfl (fun h35 => ?_) (fun h35 => ?_)
    · have g : i = n := by have := (le_n (a := n) (b := i) (by omega) (by omega)).mp h35; omega
      refine v_aload_n C dX0_passSunday_133 rfl rfl ?_
      refine v_ldc C dX0_passSunday_134 cn_X0_105 rfl ?_
      refine v_aload_n C dX0_passSunday_136 rfl rfl ?_
      refine g_X0_sunday C hk.1 dX0_passSunday_137 fl_X0_51 rfl ?_
      refine v_iconst C dX0_passSunday_140 ic_1 rfl ?_
      refine v_iadd C dX0_passSunday_141 rfl ?_
      refine v_mmin C dX0_passSunday_142 ml_X0_106 st_min in_J9 co_min (by decide) (Nat.le_of_ble_eq_true rfl) rfl ?_
      refine p_X0_sunday C hk.1 dX0_passSunday_145 fl_X0_51 rfl ?_
      exact v_vret C hQ dX0_passSunday_148 (by rw [← hF, ← g, ← he]; show up mm k 4 _ = up mm k 4 _; rw [congrFun hr 4]; rfl)
    · have g : i < n := by rcases Nat.lt_or_ge i (n) with q | q; exact q; exact absurd ((le_n (a := n) (b := i) (by omega) (by omega)).mpr q) h35
      refine v_aload_n C dX0_passSunday_38 rfl rfl ?_
      refine g_X0_residents C hk.1 dX0_passSunday_39 fl_X0_20 rfl ?_
      refine v_iload C dX0_passSunday_42 rfl rfl ?_
      refine a_R C hk.2.2.2.1 dX0_passSunday_44 (i) rfl (by omega) rfl ?_
      refine v_astore C dX0_passSunday_45 (by decide) rfl ?_
      refine v_aload_n C dX0_passSunday_47 rfl rfl ?_
      refine g_X0_visited C hk.1 dX0_passSunday_48 fl_X0_73 rfl ?_
      refine v_eqi (congrFun hr 7) ?_
      refine v_iload C dX0_passSunday_51 rfl rfl ?_
      refine v_iN C dX0_passSunday_53 ms_X4_isIn c_X4_isIn rfl (fun U h => nw_X0_82 hX h) (rk_of rfl) rfl (Nat.le_of_ble_eq_true rfl) rfl (px_k ?_)
      refine v_if_eq C 80 59 dX0_passSunday_56 (by decide) rfl (fun h56 => ?_) (fun h56 => ?_)
      · refine v_aload_n C dX0_passSunday_80 rfl rfl ?_
        refine g_X0_sharing C hk.1 dX0_passSunday_81 fl_X0_90 rfl ?_
        refine v_eqi (congrFun hr 8) ?_
        refine v_iload C dX0_passSunday_84 rfl rfl ?_
        refine v_iN C dX0_passSunday_86 ms_X4_isIn c_X4_isIn rfl (fun U h => nw_X0_82 hX h) (rk_of rfl) rfl (Nat.le_of_ble_eq_true rfl) rfl (px_k ?_)
        refine v_if_eq C 101 92 dX0_passSunday_89 (by decide) rfl (fun h89 => ?_) (fun h89 => ?_)
        · refine v_aload_n C dX0_passSunday_101 rfl rfl ?_
          refine g_X0_helped C hk.1 dX0_passSunday_102 fl_X0_96 rfl ?_
          refine v_eqi (congrFun hr 9) ?_
          refine v_iload C dX0_passSunday_105 rfl rfl ?_
          refine v_iN C dX0_passSunday_107 ms_X4_isIn c_X4_isIn rfl (fun U h => nw_X0_82 hX h) (rk_of rfl) rfl (Nat.le_of_ble_eq_true rfl) rfl (px_k ?_)
          refine v_if_eq C 121 113 dX0_passSunday_110 (by decide) rfl (fun h110 => ?_) (fun h110 => ?_)
          · refine v_aload C dX0_passSunday_121 rfl rfl ?_
            refine v_iload_n C dX0_passSunday_123 rfl rfl ?_
            refine v_vV C dX0_passSunday_124 mi_X1_beAlone (c_X1_beAlone (hk.2.2.2.2.2 (i) (by omega))) rfl (hk.2.2.2.2.2 (i) (by omega)).1 (hk.2.2.2.2.2 (i) (by omega)).2 rfl ml_X0_102 (rk_of rfl) rfl (Nat.le_of_ble_eq_true rfl) rfl (pv_k ?_)
            refine v_iincN C dX0_passSunday_127 rfl (by decide) rfl ?_
            refine v_goto C 29 dX0_passSunday_130 (by decide) ?_
            refine V.norm (ih (i + 1) _ _ (by omega) (by omega) ?_) rfl
            first | (rw [suL_v (is_t (by omega) h56), ← he]; simp only [bvS]; first | (rw [if_neg (Int32.not_lt.mpr h63)] <;> rfl) | (rw [if_pos (Int32.not_le.mp h63)] <;> rfl)) | (rw [suL_s (is_f (by omega) h56) (is_t (by omega) h89), ← he]; rfl) | (rw [suL_h (is_f (by omega) h56) (is_f (by omega) h89) (is_t (by omega) h110), ← he]; rfl) | (rw [suL_a (is_f (by omega) h56) (is_f (by omega) h89) (is_f (by omega) h110), ← he]; rfl)
          · refine v_aload C dX0_passSunday_113 rfl rfl ?_
            refine v_vV C dX0_passSunday_115 mi_X1_beHelped (c_X1_beHelped (hk.2.2.2.2.2 (i) (by omega))) rfl (hk.2.2.2.2.2 (i) (by omega)).1 (hk.2.2.2.2.2 (i) (by omega)).2 rfl ml_X0_99 (rk_of rfl) rfl (Nat.le_of_ble_eq_true rfl) rfl (pv_k ?_)
            refine v_goto C 127 dX0_passSunday_118 (by decide) ?_
            refine v_iincN C dX0_passSunday_127 rfl (by decide) rfl ?_
            refine v_goto C 29 dX0_passSunday_130 (by decide) ?_
            refine V.norm (ih (i + 1) _ _ (by omega) (by omega) ?_) rfl
            first | (rw [suL_v (is_t (by omega) h56), ← he]; simp only [bvS]; first | (rw [if_neg (Int32.not_lt.mpr h63)] <;> rfl) | (rw [if_pos (Int32.not_le.mp h63)] <;> rfl)) | (rw [suL_s (is_f (by omega) h56) (is_t (by omega) h89), ← he]; rfl) | (rw [suL_h (is_f (by omega) h56) (is_f (by omega) h89) (is_t (by omega) h110), ← he]; rfl) | (rw [suL_a (is_f (by omega) h56) (is_f (by omega) h89) (is_f (by omega) h110), ← he]; rfl)
        · refine v_aload C dX0_passSunday_92 rfl rfl ?_
          refine v_iload_n C dX0_passSunday_94 rfl rfl ?_
          refine v_vV C dX0_passSunday_95 mi_X1_beSharing (c_X1_beSharing (hk.2.2.2.2.2 (i) (by omega))) rfl (hk.2.2.2.2.2 (i) (by omega)).1 (hk.2.2.2.2.2 (i) (by omega)).2 rfl ml_X0_93 (rk_of rfl) rfl (Nat.le_of_ble_eq_true rfl) rfl (pv_k ?_)
          refine v_goto C 127 dX0_passSunday_98 (by decide) ?_
          refine v_iincN C dX0_passSunday_127 rfl (by decide) rfl ?_
          refine v_goto C 29 dX0_passSunday_130 (by decide) ?_
          refine V.norm (ih (i + 1) _ _ (by omega) (by omega) ?_) rfl
          first | (rw [suL_v (is_t (by omega) h56), ← he]; simp only [bvS]; first | (rw [if_neg (Int32.not_lt.mpr h63)] <;> rfl) | (rw [if_pos (Int32.not_le.mp h63)] <;> rfl)) | (rw [suL_s (is_f (by omega) h56) (is_t (by omega) h89), ← he]; rfl) | (rw [suL_h (is_f (by omega) h56) (is_f (by omega) h89) (is_t (by omega) h110), ← he]; rfl) | (rw [suL_a (is_f (by omega) h56) (is_f (by omega) h89) (is_f (by omega) h110), ← he]; rfl)
      · refine v_aload C dX0_passSunday_59 rfl rfl ?_
        refine v_iload_n C dX0_passSunday_61 rfl rfl ?_
        refine v_iload_n C dX0_passSunday_62 rfl rfl ?_
        refine v_if_le C 70 66 dX0_passSunday_63 (by decide) rfl (fun h63 => ?_) (fun h63 => ?_)
        · refine v_iconst C dX0_passSunday_70 ic_0 rfl ?_
          refine v_vV C dX0_passSunday_71 mi_X1_beVisited (c_X1_beVisited (hk.2.2.2.2.2 (i) (by omega))) rfl (hk.2.2.2.2.2 (i) (by omega)).1 (hk.2.2.2.2.2 (i) (by omega)).2 rfl ml_X0_86 (rk_of rfl) rfl (Nat.le_of_ble_eq_true rfl) rfl (pv_k ?_)
          refine v_iincM C dX0_passSunday_74 rfl (by decide) rfl ?_
          refine v_goto C 127 dX0_passSunday_77 (by decide) ?_
          refine v_iincN C dX0_passSunday_127 rfl (by decide) rfl ?_
          refine v_goto C 29 dX0_passSunday_130 (by decide) ?_
          refine V.norm (ih (i + 1) _ _ (by omega) (by omega) ?_) rfl
          first | (rw [suL_v (is_t (by omega) h56), ← he]; simp only [bvS]; first | (rw [if_neg (Int32.not_lt.mpr h63)] <;> rfl) | (rw [if_pos (Int32.not_le.mp h63)] <;> rfl)) | (rw [suL_s (is_f (by omega) h56) (is_t (by omega) h89), ← he]; rfl) | (rw [suL_h (is_f (by omega) h56) (is_f (by omega) h89) (is_t (by omega) h110), ← he]; rfl) | (rw [suL_a (is_f (by omega) h56) (is_f (by omega) h89) (is_f (by omega) h110), ← he]; rfl)
        · refine v_iconst C dX0_passSunday_66 ic_1 rfl ?_
          refine v_goto C 71 dX0_passSunday_67 (by decide) ?_
          refine v_vV C dX0_passSunday_71 mi_X1_beVisited (c_X1_beVisited (hk.2.2.2.2.2 (i) (by omega))) rfl (hk.2.2.2.2.2 (i) (by omega)).1 (hk.2.2.2.2.2 (i) (by omega)).2 rfl ml_X0_86 (rk_of rfl) rfl (Nat.le_of_ble_eq_true rfl) rfl (pv_k ?_)
          refine v_iincM C dX0_passSunday_74 rfl (by decide) rfl ?_
          refine v_goto C 127 dX0_passSunday_77 (by decide) ?_
          refine v_iincN C dX0_passSunday_127 rfl (by decide) rfl ?_
          refine v_goto C 29 dX0_passSunday_130 (by decide) ?_
          refine V.norm (ih (i + 1) _ _ (by omega) (by omega) ?_) rfl
          first | (rw [suL_v (is_t (by omega) h56), ← he]; simp only [bvS]; first | (rw [if_neg (Int32.not_lt.mpr h63)] <;> rfl) | (rw [if_pos (Int32.not_le.mp h63)] <;> rfl)) | (rw [suL_s (is_f (by omega) h56) (is_t (by omega) h89), ← he]; rfl) | (rw [suL_h (is_f (by omega) h56) (is_f (by omega) h89) (is_t (by omega) h110), ← he]; rfl) | (rw [suL_a (is_f (by omega) h56) (is_f (by omega) h89) (is_f (by omega) h110), ← he]; rfl)
set_option maxRecDepth 100000 in
set_option maxHeartbeats 4000000 in
theorem c_X0_passSunday {l : Launch} {w : WC} {μ : Me} {k : Nat} (hk : Hm w k) (hX : Nx w) {n j : Nat} (hI : IvH μ k n j) : CtV l w yX0_passSunday cX0_passSunday 6 (Rm 3 68) [.ref (w_ad w k)] μ (Pv (psS μ k n j)) := by
  refine Ct.mk (own := RX0) rfl (by decide) (Nat.le_of_ble_eq_true rfl) (fun x hxl C hQ => ?_)
  subst hxl
  refine v_aload_n C dX0_passSunday_0 rfl rfl ?_
  refine v_vV C dX0_passSunday_1 mi_X0_decide (c_X0_decide hk hX hI) rfl hk.1.1 hk.1.2 rfl ml_X0_70 (rk_of rfl) rfl (Nat.le_of_ble_eq_true rfl) rfl (pv_k ?_)
  refine v_aload_n C dX0_passSunday_4 rfl rfl ?_
  refine g_X0_settings C hk.1 dX0_passSunday_5 fl_X0_9 rfl ?_
  refine v_iconst C dX0_passSunday_8 ic_3 rfl ?_
  refine a_I C hk.2.1 (by decide) dX0_passSunday_9 (3) rfl (by decide) rfl ?_
  refine v_istore_n C dX0_passSunday_10 (by decide) rfl ?_
  refine v_aload_n C dX0_passSunday_11 rfl rfl ?_
  refine g_X0_settings C hk.1 dX0_passSunday_12 fl_X0_9 rfl ?_
  refine v_iconst C dX0_passSunday_15 ic_1 rfl ?_
  refine a_I C hk.2.1 (by decide) dX0_passSunday_16 (1) rfl (by decide) rfl ?_
  refine v_istore_n C dX0_passSunday_17 (by decide) rfl ?_
  refine v_aload_n C dX0_passSunday_18 rfl rfl ?_
  refine g_X0_visited C hk.1 dX0_passSunday_19 fl_X0_73 rfl ?_
  refine v_iS C dX0_passSunday_22 ms_J6_bitCount_0f7a4 c_J6_bitCount_0f7a4 rfl ml_X0_76 (rk_of rfl) rfl (Nat.le_of_ble_eq_true rfl) rfl (px_k ?_)
  refine v_istore_n C dX0_passSunday_25 (by decide) rfl ?_
  refine v_iconst C dX0_passSunday_26 ic_0 rfl ?_
  refine v_istore C dX0_passSunday_27 (by decide) rfl ?_
  have h1 := hI.2.1
  refine V.norm (lp_X0_passSunday_29 (m0 := deS μ k n j) hk hX hI hI.1 (by simp only [deS]; rw [up_i _ _ _ (by decide), up_i _ _ _ (by decide), up_i _ _ _ (by decide)]; exact h1) ?_ C hQ (n + 1) 0 _ _ (by omega) (by omega) rfl) rfl
  unfold psS
  simp only [deS, up_i _ _ _ (show (4 : Nat) ≠ 7 by decide), up_i _ _ _ (show (4 : Nat) ≠ 8 by decide), up_i _ _ _ (show (4 : Nat) ≠ 9 by decide)]

set_option maxRecDepth 100000 in
set_option maxHeartbeats 4000000 in
theorem lp_X0_pass_2 {w : WC} {x : Cy} {μ : Me} {k : Nat} (hk : Hm w k) (hX : Nx w) {n j : Nat} (hI : IvH μ k n j) {a : Int32} {t : Nat} (ht : t < 1000) (ha : a = nI t)  (C : Cx w x cX0_pass 3 RX0 none (Rm 4 93)) (hQ : y_Q x = MQ (y_b x) (QV w (Pv (pnS k n j t μ))) (y_a x) (y_s x) 0 0 (AA w)) : ∀ (m i : Nat), t + 1 ≤ i + m → i ≤ t → V w x 3 (pnS k n j i μ) 2 [(0, .ref (w_ad w k)), (1, .int a), (2, .int (nI i))] [] := by
  intro m
  induction m with
  | zero =>
    intro i  hm hi
    exact absurd hm (by omega)
  | succ m ih =>
    intro i  hm hi 
    subst ha
    refine v_iload_n C dX0_pass_2 rfl rfl ?_
    refine v_iload_n C dX0_pass_3 rfl rfl ?_
    refine v_icmp_ge C 17 7 dX0_pass_4 (by decide) rfl (fun h4 => ?_) (fun h4 => ?_)
    · have g : i = t := by have := (le_n (a := t) (b := i) (by omega) (by omega)).mp h4; omega
      exact v_vret C hQ dX0_pass_17 (by rw [g])
    · have g : i < t := by rcases Nat.lt_or_ge i (t) with q | q; exact q; exact absurd ((le_n (a := t) (b := i) (by omega) (by omega)).mpr q) h4
      refine v_aload_n C dX0_pass_7 rfl rfl ?_
      refine v_vV C dX0_pass_8 mi_X0_passSunday (c_X0_passSunday hk hX (IvH_pn hI i)) rfl hk.1.1 hk.1.2 rfl ml_X0_67 (rk_of rfl) rfl (Nat.le_of_ble_eq_true rfl) rfl (pv_k ?_)
      refine v_iincN C dX0_pass_11 rfl (by decide) rfl ?_
      refine v_goto C 2 dX0_pass_14 (by decide) ?_
      exact V.norm (ih (i + 1) (by omega) (by omega)) rfl
set_option maxRecDepth 100000 in
set_option maxHeartbeats 4000000 in
theorem c_X0_pass {l : Launch} {w : WC} {μ : Me} {k : Nat} (hk : Hm w k) (hX : Nx w) {n j : Nat} (hI : IvH μ k n j) {a : Int32} {t : Nat} (ht : t < 1000) (ha : a = nI t) : CtV l w yX0_pass cX0_pass 3 (Rm 4 93) [.ref (w_ad w k), .int a] μ (Pv (pnS k n j t μ)) := by
  refine Ct.mk (own := RX0) rfl (by decide) (Nat.le_of_ble_eq_true rfl) (fun x hxl C hQ => ?_)
  subst hxl
  refine v_iconst C dX0_pass_0 ic_0 rfl ?_
  refine v_istore_n C dX0_pass_1 (by decide) rfl ?_
  exact V.norm (lp_X0_pass_2 hk hX hI ht ha C hQ (t + 1) 0 (by omega) (by omega)) rfl

set_option maxRecDepth 100000 in
set_option maxHeartbeats 4000000 in
theorem lp_X0_takeAll_54 {w : WC} {x : Cy} {μ : Me} {k : Nat} (hk : Hm w k) (hX : Nx w) {k2 n : Nat} (hk2 : Hm w k2) (hA : Ap k k2) (hn : n ≤ 8) (h0 : μ.1 k2 3 = nI n)  (C : Cx w x cX0_takeAll 3 RX0 none (Rm 1 40)) (hQ : y_Q x = MQ (y_b x) (QV w (Pv (tkS μ k k2 n))) (y_a x) (y_s x) 0 0 (AA w)) : ∀ (m i : Nat), n + 1 ≤ i + m → i ≤ n → V w x 3 (tkL (tk0 μ k k2) k k2 i) 54 [(0, .ref (w_ad w k)), (1, .ref (w_ad w k2)), (2, .int (nI i))] [] := by
  intro m
  induction m with
  | zero =>
    intro i  hm hi
    exact absurd hm (by omega)
  | succ m ih =>
    intro i  hm hi 
    unfold Ap at hA
    have hz : (tkL (tk0 μ k k2) k k2 i).1 k 3 = nI n := by rw [tkL_o _ _ _ i (by omega)]; unfold tk0; rw [up_s]; exact h0
    refine v_iload_n C dX0_takeAll_54 rfl rfl ?_
    refine v_aload_n C dX0_takeAll_55 rfl rfl ?_
    refine g_X0_size C hk.1 dX0_takeAll_56 fl_X0_44 rfl ?_
    refine v_eqi (hz) ?_
    refine v_icmp_ge C 83 62 dX0_takeAll_59 (by decide) rfl (fun h59 => ?_) (fun h59 => ?_)
    · have g : i = n := by have := (le_n (a := n) (b := i) (by omega) (by omega)).mp h59; omega
      refine v_aload_n C dX0_takeAll_83 rfl rfl ?_
      refine v_aload_n C dX0_takeAll_84 rfl rfl ?_
      refine g_X0_sunday C hk2.1 dX0_takeAll_85 fl_X0_51 rfl ?_
      refine p_X0_sunday C hk.1 dX0_takeAll_88 fl_X0_51 rfl ?_
      refine v_aload_n C dX0_takeAll_91 rfl rfl ?_
      refine v_aload_n C dX0_takeAll_92 rfl rfl ?_
      refine g_X0_z C hk2.1 dX0_takeAll_93 fl_X0_25 rfl ?_
      refine p_X0_z C hk.1 dX0_takeAll_96 fl_X0_25 rfl ?_
      exact v_vret C hQ dX0_takeAll_99 (by subst g; simp only [Pv, tkS]; rw [tkL_o _ _ _ i (by omega), tk0_o (by omega) (by omega) (by omega) (by omega), up_n _ _ _ (by omega), tkL_o _ _ _ i (by omega), tk0_o (by omega) (by omega) (by omega) (by omega)])
    · have g : i < n := by rcases Nat.lt_or_ge i (n) with q | q; exact q; exact absurd ((le_n (a := n) (b := i) (by omega) (by omega)).mpr q) h59
      refine v_aload_n C dX0_takeAll_62 rfl rfl ?_
      refine g_X0_residents C hk.1 dX0_takeAll_63 fl_X0_20 rfl ?_
      refine v_iload_n C dX0_takeAll_66 rfl rfl ?_
      refine a_R C hk.2.2.2.1 dX0_takeAll_67 (i) rfl (by omega) rfl ?_
      refine v_aload_n C dX0_takeAll_68 rfl rfl ?_
      refine g_X0_residents C hk2.1 dX0_takeAll_69 fl_X0_20 rfl ?_
      refine v_iload_n C dX0_takeAll_72 rfl rfl ?_
      refine a_R C hk2.2.2.2.1 dX0_takeAll_73 (i) rfl (by omega) rfl ?_
      refine v_vV C dX0_takeAll_74 mi_X1_take (c_X1_take (hk.2.2.2.2.2 i (by omega)) (hk2.2.2.2.2.2 i (by omega)) (by omega)) rfl (hk.2.2.2.2.2 (i) (by omega)).1 (hk.2.2.2.2.2 (i) (by omega)).2 rfl ml_X0_47 (rk_of rfl) rfl (Nat.le_of_ble_eq_true rfl) rfl (pv_k ?_)
      refine v_iincN C dX0_takeAll_77 rfl (by decide) rfl ?_
      refine v_goto C 54 dX0_takeAll_80 (by decide) ?_
      exact V.norm (ih (i + 1) (by omega) (by omega)) rfl
set_option maxRecDepth 100000 in
set_option maxHeartbeats 4000000 in
theorem c_X0_takeAll {l : Launch} {w : WC} {μ : Me} {k : Nat} (hk : Hm w k) (hX : Nx w) {k2 n : Nat} (hk2 : Hm w k2) (hA : Ap k k2) (hn : n ≤ 8) (h0 : μ.1 k2 3 = nI n) : CtV l w yX0_takeAll cX0_takeAll 3 (Rm 1 40) [.ref (w_ad w k), .ref (w_ad w k2)] μ (Pv (tkS μ k k2 n)) := by
  refine Ct.mk (own := RX0) rfl (by decide) (Nat.le_of_ble_eq_true rfl) (fun x hxl C hQ => ?_)
  subst hxl
  refine v_aload_n C dX0_takeAll_0 rfl rfl ?_
  refine g_X0_settings C hk2.1 dX0_takeAll_1 fl_X0_9 rfl ?_
  refine v_iconst C dX0_takeAll_4 ic_0 rfl ?_
  refine v_aload_n C dX0_takeAll_5 rfl rfl ?_
  refine g_X0_settings C hk.1 dX0_takeAll_6 fl_X0_9 rfl ?_
  refine v_iconst C dX0_takeAll_9 ic_0 rfl ?_
  refine v_iconst C dX0_takeAll_10 ic_4 rfl ?_
  refine v_copy C (0) (0) (4) dX0_takeAll_11 ml_X0_38 na_arraycopy st_arraycopy in_J10 hk2.2.1.1 hk.2.1.1 hk2.2.1.2 hk.2.1.2 rfl rfl rfl (by decide) (by decide) (by decide) (by decide) (by decide) (Nat.le_of_ble_eq_true rfl) rfl ?_
  refine v_aload_n C dX0_takeAll_14 rfl rfl ?_
  refine g_X0_list C hk2.1 dX0_takeAll_15 fl_X0_15 rfl ?_
  refine v_iconst C dX0_takeAll_18 ic_0 rfl ?_
  refine v_aload_n C dX0_takeAll_19 rfl rfl ?_
  refine g_X0_list C hk.1 dX0_takeAll_20 fl_X0_15 rfl ?_
  refine v_iconst C dX0_takeAll_23 ic_0 rfl ?_
  refine v_bipush C dX0_takeAll_24 bp_6 rfl ?_
  refine v_copy C (0) (0) (6) dX0_takeAll_26 ml_X0_38 na_arraycopy st_arraycopy in_J10 hk2.2.2.1.1 hk.2.2.1.1 hk2.2.2.1.2 hk.2.2.1.2 rfl rfl rfl (by decide) (by decide) (by decide) (by decide) (by decide) (Nat.le_of_ble_eq_true rfl) rfl ?_
  refine v_aload_n C dX0_takeAll_29 rfl rfl ?_
  refine g_X0_spots C hk2.1 dX0_takeAll_30 fl_X0_29 rfl ?_
  refine v_iconst C dX0_takeAll_33 ic_0 rfl ?_
  refine v_aload_n C dX0_takeAll_34 rfl rfl ?_
  refine g_X0_spots C hk.1 dX0_takeAll_35 fl_X0_29 rfl ?_
  refine v_iconst C dX0_takeAll_38 ic_0 rfl ?_
  refine v_bipush C dX0_takeAll_39 bp_10 rfl ?_
  refine v_copy C (0) (0) (10) dX0_takeAll_41 ml_X0_38 na_arraycopy st_arraycopy in_J10 hk2.2.2.2.2.1.1 hk.2.2.2.2.1.1 hk2.2.2.2.2.1.2 hk.2.2.2.2.1.2 rfl rfl rfl (by decide) (by decide) (by decide) (by decide) (by decide) (Nat.le_of_ble_eq_true rfl) rfl ?_
  refine v_aload_n C dX0_takeAll_44 rfl rfl ?_
  refine v_aload_n C dX0_takeAll_45 rfl rfl ?_
  refine g_X0_size C hk2.1 dX0_takeAll_46 fl_X0_44 rfl ?_
  refine p_X0_size C hk.1 dX0_takeAll_49 fl_X0_44 rfl ?_
  refine v_iconst C dX0_takeAll_52 ic_0 rfl ?_
  refine v_istore_n C dX0_takeAll_53 (by decide) rfl ?_
  refine v_mem ?_ (V.norm (lp_X0_takeAll_54 (μ := μ) hk hX hk2 hA hn h0 C hQ (n + 1) 0 (by omega) (by omega)) rfl)
  unfold Ap at hA
  simp only [tkL, tk0]
  simp only [ua_n _ _ (show k + 2 ≠ k + 1 by omega), ua_n _ _ (show k + 4 ≠ k + 1 by omega), ua_n _ _ (show k + 4 ≠ k + 2 by omega), ua_n _ _ (show k2 + 2 ≠ k + 1 by omega), ua_n _ _ (show k2 + 4 ≠ k + 1 by omega), ua_n _ _ (show k2 + 4 ≠ k + 2 by omega), ua_n _ _ (show k2 ≠ k + 1 by omega), ua_n _ _ (show k2 ≠ k + 2 by omega), ua_n _ _ (show k2 ≠ k + 4 by omega)]
