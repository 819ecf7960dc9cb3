set_option maxRecDepth 100000 in
set_option maxHeartbeats 4000000 in
theorem c_X0_has {l : Launch} {w : WC} {μ : Me} {k : Nat} (hk : Hm w k) (hX : Nx w) {a : Int32} : CtI l w yX0_has cX0_has 2 (some .boolean) (Rm 1 22) [.ref (w_ad w k), .int a] μ (Px (wiS a 0 (μ.1 k 3 - 1)) μ) := by
  refine Ct.mk (own := RX0) rfl (by decide) (Nat.le_of_ble_eq_true rfl) (fun x hxl C hQ => ?_)
  subst hxl
  refine v_iload_n C dX0_has_0 rfl rfl ?_
  refine v_iconst C dX0_has_1 ic_0 rfl ?_
  refine v_aload_n C dX0_has_2 rfl rfl ?_
  refine g_X0_size C hk.1 dX0_has_3 fl_X0_44 rfl ?_
  refine v_iconst C dX0_has_6 ic_1 rfl ?_
  refine v_isub C dX0_has_7 rfl ?_
  refine v_iN C dX0_has_8 ms_X4_within c_X4_within rfl (fun U h => nw_X0_54 hX h) (rk_of rfl) rfl (Nat.le_of_ble_eq_true rfl) rfl (px_k ?_)
  exact v_zret C hQ dX0_has_11 (by unfold wiS; split <;> rfl) ⟨rfl, rfl⟩

set_option maxRecDepth 100000 in
set_option maxHeartbeats 4000000 in
theorem c_X0_draw {l : Launch} {w : WC} {μ : Me} {k : Nat} (hk : Hm w k) (hX : Nx w) : CtI l w yX0_draw cX0_draw 1 (some .int) (Rm 0 0) [.ref (w_ad w k)] μ (Px (drS (zS (μ.1 k 5))) (up μ k 5 (zS (μ.1 k 5)))) := by
  refine Ct.mk (own := RX0) rfl (by decide) (Nat.le_of_ble_eq_true rfl) (fun x hxl C hQ => ?_)
  subst hxl
  refine v_aload_n C dX0_draw_0 rfl rfl ?_
  refine v_aload_n C dX0_draw_1 rfl rfl ?_
  refine g_X0_z C hk.1 dX0_draw_2 fl_X0_25 rfl ?_
  refine v_ldc C dX0_draw_5 cn_X0_66 rfl ?_
  refine v_imul C dX0_draw_7 rfl ?_
  refine v_sipush C dX0_draw_8 sp_12345 rfl ?_
  refine v_iadd C dX0_draw_11 rfl ?_
  refine p_X0_z C hk.1 dX0_draw_12 fl_X0_25 rfl ?_
  refine v_aload_n C dX0_draw_15 rfl rfl ?_
  refine g_X0_z C hk.1 dX0_draw_16 fl_X0_25 rfl ?_
  refine v_bipush C dX0_draw_19 bp_8 rfl ?_
  refine v_iushr C dX0_draw_21 rfl ?_
  exact v_iret C hQ dX0_draw_22 ⟨by rw [up_s]; rfl, rfl⟩

set_option maxRecDepth 100000 in
set_option maxHeartbeats 4000000 in
theorem c_X0_factFits {l : Launch} {w : WC} {μ : Me} {k : Nat} (hk : Hm w k) (hX : Nx w) {r t v : Int32} : CtI l w yX0_factFits cX0_factFits 4 (some .boolean) (Rm 2 43) [.ref (w_ad w k), .int r, .int t, .int v] μ (Px (ffS (μ.1 k 3) r t v) μ) := by
  refine Ct.mk (own := RX0) rfl (by decide) (Nat.le_of_ble_eq_true rfl) (fun x hxl C hQ => ?_)
  subst hxl
  refine v_iload_n C dX0_factFits_0 rfl rfl ?_
  refine v_case (0) (fun e1_0 => ?_) (fun n1_0 => ?_)
  · refine v_tableIn C 36 dX0_factFits_1 e1_0 (by decide) (by decide) rfl (by decide) ?_
    refine v_iload_n C dX0_factFits_36 rfl rfl ?_
    refine v_iconst C dX0_factFits_37 ic_0 rfl ?_
    refine v_bipush C dX0_factFits_38 bp_6 rfl ?_
    refine v_iN C dX0_factFits_40 ms_X4_within c_X4_within rfl (fun U h => nw_X0_54 hX h) (rk_of rfl) rfl (Nat.le_of_ble_eq_true rfl) rfl (px_k ?_)
    exact v_zret C hQ dX0_factFits_43 (by first | rfl | (unfold wiS; split <;> rfl)) ⟨by first | (simp [ffS, *]; done) | (simp_all [ffS]; done), rfl⟩
  refine v_case (1) (fun e1_1 => ?_) (fun n1_1 => ?_)
  · refine v_tableIn C 44 dX0_factFits_1 e1_1 (by decide) (by decide) rfl (by decide) ?_
    refine v_iload_n C dX0_factFits_44 rfl rfl ?_
    refine v_iconst C dX0_factFits_45 ic_0 rfl ?_
    refine v_bipush C dX0_factFits_46 bp_99 rfl ?_
    refine v_iN C dX0_factFits_48 ms_X4_within c_X4_within rfl (fun U h => nw_X0_54 hX h) (rk_of rfl) rfl (Nat.le_of_ble_eq_true rfl) rfl (px_k ?_)
    exact v_zret C hQ dX0_factFits_51 (by first | rfl | (unfold wiS; split <;> rfl)) ⟨by first | (simp [ffS, *]; done) | (simp_all [ffS]; done), rfl⟩
  refine v_case (2) (fun e1_2 => ?_) (fun n1_2 => ?_)
  · refine v_tableIn C 52 dX0_factFits_1 e1_2 (by decide) (by decide) rfl (by decide) ?_
    refine v_iload_n C dX0_factFits_52 rfl rfl ?_
    refine v_iconst C dX0_factFits_53 ic_m1 rfl ?_
    refine v_icmp_eq C 70 57 dX0_factFits_54 (by decide) rfl (fun h54 => ?_) (fun h54 => ?_)
    · refine v_iconst C dX0_factFits_70 ic_1 rfl ?_
      refine v_goto C 75 dX0_factFits_71 (by decide) ?_
      exact v_zret C hQ dX0_factFits_75 (by first | rfl | (unfold wiS; split <;> rfl)) ⟨by first | (simp [ffS, *]; done) | (simp_all [ffS]; done), rfl⟩
    · refine v_aload_n C dX0_factFits_57 rfl rfl ?_
      refine v_iload_n C dX0_factFits_58 rfl rfl ?_
      refine v_iV C dX0_factFits_59 mi_X0_has (c_X0_has hk hX) rfl hk.1.1 hk.1.2 rfl ml_X0_62 (rk_of rfl) rfl (Nat.le_of_ble_eq_true rfl) rfl (px_k ?_)
      refine v_if_eq C 74 65 dX0_factFits_62 (by decide) rfl (fun h62 => ?_) (fun h62 => ?_)
      · refine v_iconst C dX0_factFits_74 ic_0 rfl ?_
        exact v_zret C hQ dX0_factFits_75 (by first | rfl | (unfold wiS; split <;> rfl)) ⟨by first | (simp [ffS, *]; done) | (simp_all [ffS]; done), rfl⟩
      · refine v_iload_n C dX0_factFits_65 rfl rfl ?_
        refine v_iload_n C dX0_factFits_66 rfl rfl ?_
        refine v_icmp_eq C 74 70 dX0_factFits_67 (by decide) rfl (fun h67 => ?_) (fun h67 => ?_)
        · refine v_iconst C dX0_factFits_74 ic_0 rfl ?_
          exact v_zret C hQ dX0_factFits_75 (by first | rfl | (unfold wiS; split <;> rfl)) ⟨by first | (simp [ffS, *]; done) | (simp_all [ffS]; done), rfl⟩
        · refine v_iconst C dX0_factFits_70 ic_1 rfl ?_
          refine v_goto C 75 dX0_factFits_71 (by decide) ?_
          exact v_zret C hQ dX0_factFits_75 (by first | rfl | (unfold wiS; split <;> rfl)) ⟨by first | (simp [ffS, *]; done) | (simp_all [ffS]; done), rfl⟩
  refine v_case (3) (fun e1_3 => ?_) (fun n1_3 => ?_)
  · refine v_tableIn C 76 dX0_factFits_1 e1_3 (by decide) (by decide) rfl (by decide) ?_
    refine v_iload_n C dX0_factFits_76 rfl rfl ?_
    refine v_iconst C dX0_factFits_77 ic_0 rfl ?_
    refine v_sipush C dX0_factFits_78 sp_9999 rfl ?_
    refine v_iN C dX0_factFits_81 ms_X4_within c_X4_within rfl (fun U h => nw_X0_54 hX h) (rk_of rfl) rfl (Nat.le_of_ble_eq_true rfl) rfl (px_k ?_)
    exact v_zret C hQ dX0_factFits_84 (by first | rfl | (unfold wiS; split <;> rfl)) ⟨by first | (simp [ffS, *]; done) | (simp_all [ffS]; done), rfl⟩
  refine v_case (4) (fun e1_4 => ?_) (fun n1_4 => ?_)
  · refine v_tableIn C 76 dX0_factFits_1 e1_4 (by decide) (by decide) rfl (by decide) ?_
    refine v_iload_n C dX0_factFits_76 rfl rfl ?_
    refine v_iconst C dX0_factFits_77 ic_0 rfl ?_
    refine v_sipush C dX0_factFits_78 sp_9999 rfl ?_
    refine v_iN C dX0_factFits_81 ms_X4_within c_X4_within rfl (fun U h => nw_X0_54 hX h) (rk_of rfl) rfl (Nat.le_of_ble_eq_true rfl) rfl (px_k ?_)
    exact v_zret C hQ dX0_factFits_84 (by first | rfl | (unfold wiS; split <;> rfl)) ⟨by first | (simp [ffS, *]; done) | (simp_all [ffS]; done), rfl⟩
  refine v_tableOut C 85 dX0_factFits_1 (by have z0 := lv_neT n1_0 (a := 0) (by decide); have z1 := lv_neT n1_1 (a := 1) (by decide); have z2 := lv_neT n1_2 (a := 2) (by decide); have z3 := lv_neT n1_3 (a := 3) (by decide); have z4 := lv_neT n1_4 (a := 4) (by decide); omega) (by decide) ?_
  refine v_iconst C dX0_factFits_85 ic_0 rfl ?_
  exact v_zret C hQ dX0_factFits_86 (by first | rfl | (unfold wiS; split <;> rfl)) ⟨by first | (simp [ffS, *]; done) | (simp_all [ffS]; done), rfl⟩

set_option maxRecDepth 100000 in
set_option maxHeartbeats 4000000 in
theorem c_X0_welcome {l : Launch} {w : WC} {μ : Me} {k : Nat} (hk : Hm w k) (hX : Nx w) {n : Nat} (hn : n ≤ 8) (h0 : μ.1 k 3 = nI n) {a : Int32} : CtI l w yX0_welcome cX0_welcome 3 (some .int) (Rm 1 21) [.ref (w_ad w k), .int a] μ (Px (if n < 8 then nI n else -1) (if n < 8 then up (bgS μ (k + 3 + 2 + n) a) k 3 (nI (n + 1)) else μ)) := by
  refine Ct.mk (own := RX0) rfl (by decide) (Nat.le_of_ble_eq_true rfl) (fun x hxl C hQ => ?_)
  subst hxl
  refine v_aload_n C dX0_welcome_0 rfl rfl ?_
  refine g_X0_size C hk.1 dX0_welcome_1 fl_X0_44 rfl ?_
  refine v_eqi (h0) ?_
  refine v_bipush C dX0_welcome_4 bp_8 rfl ?_
  refine v_icmp_lt C 11 9 dX0_welcome_6 (by decide) rfl (fun h6 => ?_) (fun h6 => ?_)
  · have g : n < 8 := (lt_n (a := n) (b := 8) (by omega) (by omega)).mp h6
    refine v_aload_n C dX0_welcome_11 rfl rfl ?_
    refine g_X0_size C hk.1 dX0_welcome_12 fl_X0_44 rfl ?_
    refine v_eqi (h0) ?_
    refine v_istore_n C dX0_welcome_15 (by decide) rfl ?_
    refine v_aload_n C dX0_welcome_16 rfl rfl ?_
    refine g_X0_residents C hk.1 dX0_welcome_17 fl_X0_20 rfl ?_
    refine v_iload_n C dX0_welcome_20 rfl rfl ?_
    refine a_R C hk.2.2.2.1 dX0_welcome_21 (n) rfl (by omega) rfl ?_
    refine v_iload_n C dX0_welcome_22 rfl rfl ?_
    refine v_vV C dX0_welcome_23 mi_X1_begin (c_X1_begin (hk.2.2.2.2.2 (n) (by omega))) rfl (hk.2.2.2.2.2 (n) (by omega)).1 (hk.2.2.2.2.2 (n) (by omega)).2 rfl ml_X0_58 (rk_of rfl) rfl (Nat.le_of_ble_eq_true rfl) rfl (pv_k ?_)
    refine v_aload_n C dX0_welcome_26 rfl rfl ?_
    refine v_dup C dX0_welcome_27 rfl rfl ?_
    refine g_X0_size C hk.1 dX0_welcome_28 fl_X0_44 rfl ?_
    refine v_iconst C dX0_welcome_31 ic_1 rfl ?_
    refine v_iadd C dX0_welcome_32 rfl ?_
    refine p_X0_size C hk.1 dX0_welcome_33 fl_X0_44 rfl ?_
    refine v_iload_n C dX0_welcome_36 rfl rfl ?_
    exact v_iret C hQ dX0_welcome_37 ⟨by simp [g], by first | (rw [if_neg g]; done) | (rw [if_pos g]; simp only [bgS]; have e : k ≠ k + 3 + 2 + n := (by omega); simp only [up_n _ _ _ e, h0, nI_succ])⟩
  · have g : ¬ n < 8 := fun q => h6 ((lt_n (a := n) (b := 8) (by omega) (by omega)).mpr q)
    refine v_iconst C dX0_welcome_9 ic_m1 rfl ?_
    exact v_iret C hQ dX0_welcome_10 ⟨by simp [g], by first | (rw [if_neg g]; done) | (rw [if_pos g]; simp only [bgS]; have e : k ≠ k + 3 + 2 + n := (by omega); simp only [up_n _ _ _ e, h0, nI_succ])⟩

set_option maxRecDepth 100000 in
set_option maxHeartbeats 4000000 in
theorem lp_X0_longestWaiting_7 {w : WC} {x : Cy} {μ : Me} {k : Nat} (hk : Hm w k) (hX : Nx w) {n : Nat} (hn : n ≤ 8) (h0 : μ.1 k 3 = nI n) {s : Int32}  (C : Cx w x cX0_longestWaiting 5 RX0 (some .int) (Rm 0 0)) (hQ : y_Q x = MQ (y_b x) (QI w (Px (lwL (fun r => μ.1 (k + 3 + 2 + r) 3) s n).1 μ)) (y_a x) (y_s x) 0 0 (AA w)) : ∀ (m i : Nat) (a : Int32) (b : Int32), n + 1 ≤ i + m → i ≤ n → (a = (lwL (fun r => μ.1 (k + 3 + 2 + r) 3) s i).1) → (b = (lwL (fun r => μ.1 (k + 3 + 2 + r) 3) s i).2) → V w x 5 μ 7 [(0, .ref (w_ad w k)), (1, .int s), (2, .int a), (3, .int b), (4, .int (nI i))] [] := by
  intro m
  induction m with
  | zero =>
    intro i a b hm hi
    exact absurd hm (by omega)
  | succ m ih =>
    intro i a b hm hi ha hb
    refine v_iload C dX0_longestWaiting_7 rfl rfl ?_
    refine v_aload_n C dX0_longestWaiting_9 rfl rfl ?_
    refine g_X0_size C hk.1 dX0_longestWaiting_10 fl_X0_44 rfl ?_
    refine v_eqi (h0) ?_
    refine v_icmp_ge C 59 16 dX0_longestWaiting_13 (by decide) rfl (fun h13 => ?_) (fun h13 => ?_)
    · have g : i = n := by have := (le_n (a := n) (b := i) (by omega) (by omega)).mp h13; omega
      refine v_iload_n C dX0_longestWaiting_59 rfl rfl ?_
      exact v_iret C hQ dX0_longestWaiting_60 ⟨by rw [ha, g], rfl⟩
    · have g : i < n := by rcases Nat.lt_or_ge i (n) with q | q; exact q; exact absurd ((le_n (a := n) (b := i) (by omega) (by omega)).mpr q) h13
      refine v_iload_n C dX0_longestWaiting_16 rfl rfl ?_
      refine v_iload C dX0_longestWaiting_17 rfl rfl ?_
      refine v_ishr C dX0_longestWaiting_19 rfl ?_
      refine v_iconst C dX0_longestWaiting_20 ic_1 rfl ?_
      refine v_iand C dX0_longestWaiting_21 rfl ?_
      refine v_if_ne C 53 25 dX0_longestWaiting_22 (by decide) rfl (fun h22 => ?_) (fun h22 => ?_)
      · refine v_iincN C dX0_longestWaiting_53 rfl (by decide) rfl ?_
        refine v_goto C 7 dX0_longestWaiting_56 (by decide) ?_
        exact V.norm (ih (i + 1) _ _ (by omega) (by omega) (by first | (rw [lwL_y h22 (by rw [← hb]; exact Int32.not_le.mp h36)]; done) | (rw [lwL_n1 h22]; assumption) | (rw [lwL_n2 (by rw [← hb]; exact Int32.not_lt.mpr h36)]; assumption)) (by first | (rw [lwL_y h22 (by rw [← hb]; exact Int32.not_le.mp h36)]; done) | (rw [lwL_n1 h22]; assumption) | (rw [lwL_n2 (by rw [← hb]; exact Int32.not_lt.mpr h36)]; assumption))) rfl
      · refine v_aload_n C dX0_longestWaiting_25 rfl rfl ?_
        refine g_X0_residents C hk.1 dX0_longestWaiting_26 fl_X0_20 rfl ?_
        refine v_iload C dX0_longestWaiting_29 rfl rfl ?_
        refine a_R C hk.2.2.2.1 dX0_longestWaiting_31 (i) rfl (by omega) rfl ?_
        refine g_X1_waits C (hk.2.2.2.2.2 (i) (by omega)) dX0_longestWaiting_32 fl_X0_135 rfl ?_
        refine v_iload_n C dX0_longestWaiting_35 rfl rfl ?_
        refine v_icmp_le C 53 39 dX0_longestWaiting_36 (by decide) rfl (fun h36 => ?_) (fun h36 => ?_)
        · refine v_iincN C dX0_longestWaiting_53 rfl (by decide) rfl ?_
          refine v_goto C 7 dX0_longestWaiting_56 (by decide) ?_
          exact V.norm (ih (i + 1) _ _ (by omega) (by omega) (by first | (rw [lwL_y h22 (by rw [← hb]; exact Int32.not_le.mp h36)]; done) | (rw [lwL_n1 h22]; assumption) | (rw [lwL_n2 (by rw [← hb]; exact Int32.not_lt.mpr h36)]; assumption)) (by first | (rw [lwL_y h22 (by rw [← hb]; exact Int32.not_le.mp h36)]; done) | (rw [lwL_n1 h22]; assumption) | (rw [lwL_n2 (by rw [← hb]; exact Int32.not_lt.mpr h36)]; assumption))) rfl
        · refine v_aload_n C dX0_longestWaiting_39 rfl rfl ?_
          refine g_X0_residents C hk.1 dX0_longestWaiting_40 fl_X0_20 rfl ?_
          refine v_iload C dX0_longestWaiting_43 rfl rfl ?_
          refine a_R C hk.2.2.2.1 dX0_longestWaiting_45 (i) rfl (by omega) rfl ?_
          refine g_X1_waits C (hk.2.2.2.2.2 (i) (by omega)) dX0_longestWaiting_46 fl_X0_135 rfl ?_
          refine v_istore_n C dX0_longestWaiting_49 (by decide) rfl ?_
          refine v_iload C dX0_longestWaiting_50 rfl rfl ?_
          refine v_istore_n C dX0_longestWaiting_52 (by decide) rfl ?_
          refine v_iincN C dX0_longestWaiting_53 rfl (by decide) rfl ?_
          refine v_goto C 7 dX0_longestWaiting_56 (by decide) ?_
          exact V.norm (ih (i + 1) _ _ (by omega) (by omega) (by first | (rw [lwL_y h22 (by rw [← hb]; exact Int32.not_le.mp h36)]; done) | (rw [lwL_n1 h22]; assumption) | (rw [lwL_n2 (by rw [← hb]; exact Int32.not_lt.mpr h36)]; assumption)) (by first | (rw [lwL_y h22 (by rw [← hb]; exact Int32.not_le.mp h36)]; done) | (rw [lwL_n1 h22]; assumption) | (rw [lwL_n2 (by rw [← hb]; exact Int32.not_lt.mpr h36)]; assumption))) rfl
set_option maxRecDepth 100000 in
set_option maxHeartbeats 4000000 in
theorem c_X0_longestWaiting {l : Launch} {w : WC} {μ : Me} {k : Nat} (hk : Hm w k) (hX : Nx w) {n : Nat} (hn : n ≤ 8) (h0 : μ.1 k 3 = nI n) {s : Int32} : CtI l w yX0_longestWaiting cX0_longestWaiting 5 (some .int) (Rm 0 0) [.ref (w_ad w k), .int s] μ (Px (lwL (fun r => μ.1 (k + 3 + 2 + r) 3) s n).1 μ) := by
  refine Ct.mk (own := RX0) rfl (by decide) (Nat.le_of_ble_eq_true rfl) (fun x hxl C hQ => ?_)
  subst hxl
  refine v_iconst C dX0_longestWaiting_0 ic_m1 rfl ?_
  refine v_istore_n C dX0_longestWaiting_1 (by decide) rfl ?_
  refine v_iconst C dX0_longestWaiting_2 ic_m1 rfl ?_
  refine v_istore_n C dX0_longestWaiting_3 (by decide) rfl ?_
  refine v_iconst C dX0_longestWaiting_4 ic_0 rfl ?_
  refine v_istore C dX0_longestWaiting_5 (by decide) rfl ?_
  exact V.norm (lp_X0_longestWaiting_7 hk hX hn h0 C hQ (n + 1) 0 _ _ (by omega) (by omega) rfl rfl) rfl

set_option maxRecDepth 100000 in
set_option maxHeartbeats 4000000 in
theorem lp_X0_moods_4 {w : WC} {x : Cy} {μ : Me} {k : Nat} (hk : Hm w k) (hX : Nx w) {n : Nat} (hn : n ≤ 8) (h0 : μ.1 k 3 = nI n)  (C : Cx w x cX0_moods 3 RX0 (some .int) (Rm 0 0)) (hQ : y_Q x = MQ (y_b x) (QI w (Px (smL (fun r => μ.1 (k + 3 + 2 + r) 1) n) μ)) (y_a x) (y_s x) 0 0 (AA w)) : ∀ (m i : Nat) (a : Int32), n + 1 ≤ i + m → i ≤ n → (a = smL (fun r => μ.1 (k + 3 + 2 + r) 1) i) → V w x 3 μ 4 [(0, .ref (w_ad w k)), (1, .int a), (2, .int (nI i))] [] := by
  intro m
  induction m with
  | zero =>
    intro i a hm hi
    exact absurd hm (by omega)
  | succ m ih =>
    intro i a hm hi ha
    refine v_iload_n C dX0_moods_4 rfl rfl ?_
    refine v_aload_n C dX0_moods_5 rfl rfl ?_
    refine g_X0_size C hk.1 dX0_moods_6 fl_X0_44 rfl ?_
    refine v_eqi (h0) ?_
    refine v_icmp_ge C 30 12 dX0_moods_9 (by decide) rfl (fun h9 => ?_) (fun h9 => ?_)
    · have g : i = n := by have := (le_n (a := n) (b := i) (by omega) (by omega)).mp h9; omega
      refine v_iload_n C dX0_moods_30 rfl rfl ?_
      exact v_iret C hQ dX0_moods_31 ⟨by rw [ha, g], rfl⟩
    · have g : i < n := by rcases Nat.lt_or_ge i (n) with q | q; exact q; exact absurd ((le_n (a := n) (b := i) (by omega) (by omega)).mpr q) h9
      refine v_iload_n C dX0_moods_12 rfl rfl ?_
      refine v_aload_n C dX0_moods_13 rfl rfl ?_
      refine g_X0_residents C hk.1 dX0_moods_14 fl_X0_20 rfl ?_
      refine v_iload_n C dX0_moods_17 rfl rfl ?_
      refine a_R C hk.2.2.2.1 dX0_moods_18 (i) rfl (by omega) rfl ?_
      refine g_X1_mood C (hk.2.2.2.2.2 (i) (by omega)) dX0_moods_19 fl_X0_138 rfl ?_
      refine v_iadd C dX0_moods_22 rfl ?_
      refine v_istore_n C dX0_moods_23 (by decide) rfl ?_
      refine v_iincN C dX0_moods_24 rfl (by decide) rfl ?_
      refine v_goto C 4 dX0_moods_27 (by decide) ?_
      exact V.norm (ih (i + 1) _ (by omega) (by omega) (by rw [ha]; rfl)) rfl
set_option maxRecDepth 100000 in
set_option maxHeartbeats 4000000 in
theorem c_X0_moods {l : Launch} {w : WC} {μ : Me} {k : Nat} (hk : Hm w k) (hX : Nx w) {n : Nat} (hn : n ≤ 8) (h0 : μ.1 k 3 = nI n) : CtI l w yX0_moods cX0_moods 3 (some .int) (Rm 0 0) [.ref (w_ad w k)] μ (Px (smL (fun r => μ.1 (k + 3 + 2 + r) 1) n) μ) := by
  refine Ct.mk (own := RX0) rfl (by decide) (Nat.le_of_ble_eq_true rfl) (fun x hxl C hQ => ?_)
  subst hxl
  refine v_iconst C dX0_moods_0 ic_0 rfl ?_
  refine v_istore_n C dX0_moods_1 (by decide) rfl ?_
  refine v_iconst C dX0_moods_2 ic_0 rfl ?_
  refine v_istore_n C dX0_moods_3 (by decide) rfl ?_
  exact V.norm (lp_X0_moods_4 hk hX hn h0 C hQ (n + 1) 0 _ (by omega) (by omega) rfl) rfl

set_option maxRecDepth 100000 in
set_option maxHeartbeats 4000000 in
theorem lp_X0_visitsHad_4 {w : WC} {x : Cy} {μ : Me} {k : Nat} (hk : Hm w k) (hX : Nx w) {n : Nat} (hn : n ≤ 8) (h0 : μ.1 k 3 = nI n)  (C : Cx w x cX0_visitsHad 3 RX0 (some .int) (Rm 0 0)) (hQ : y_Q x = MQ (y_b x) (QI w (Px (smL (fun r => μ.1 (k + 3 + 2 + r) 4) n) μ)) (y_a x) (y_s x) 0 0 (AA w)) : ∀ (m i : Nat) (a : Int32), n + 1 ≤ i + m → i ≤ n → (a = smL (fun r => μ.1 (k + 3 + 2 + r) 4) i) → V w x 3 μ 4 [(0, .ref (w_ad w k)), (1, .int a), (2, .int (nI i))] [] := by
  intro m
  induction m with
  | zero =>
    intro i a hm hi
    exact absurd hm (by omega)
  | succ m ih =>
    intro i a hm hi ha
    refine v_iload_n C dX0_visitsHad_4 rfl rfl ?_
    refine v_aload_n C dX0_visitsHad_5 rfl rfl ?_
    refine g_X0_size C hk.1 dX0_visitsHad_6 fl_X0_44 rfl ?_
    refine v_eqi (h0) ?_
    refine v_icmp_ge C 30 12 dX0_visitsHad_9 (by decide) rfl (fun h9 => ?_) (fun h9 => ?_)
    · have g : i = n := by have := (le_n (a := n) (b := i) (by omega) (by omega)).mp h9; omega
      refine v_iload_n C dX0_visitsHad_30 rfl rfl ?_
      exact v_iret C hQ dX0_visitsHad_31 ⟨by rw [ha, g], rfl⟩
    · have g : i < n := by rcases Nat.lt_or_ge i (n) with q | q; exact q; exact absurd ((le_n (a := n) (b := i) (by omega) (by omega)).mpr q) h9
      refine v_iload_n C dX0_visitsHad_12 rfl rfl ?_
      refine v_aload_n C dX0_visitsHad_13 rfl rfl ?_
      refine g_X0_residents C hk.1 dX0_visitsHad_14 fl_X0_20 rfl ?_
      refine v_iload_n C dX0_visitsHad_17 rfl rfl ?_
      refine a_R C hk.2.2.2.1 dX0_visitsHad_18 (i) rfl (by omega) rfl ?_
      refine g_X1_came C (hk.2.2.2.2.2 (i) (by omega)) dX0_visitsHad_19 fl_X0_141 rfl ?_
      refine v_iadd C dX0_visitsHad_22 rfl ?_
      refine v_istore_n C dX0_visitsHad_23 (by decide) rfl ?_
      refine v_iincN C dX0_visitsHad_24 rfl (by decide) rfl ?_
      refine v_goto C 4 dX0_visitsHad_27 (by decide) ?_
      exact V.norm (ih (i + 1) _ (by omega) (by omega) (by rw [ha]; rfl)) rfl
set_option maxRecDepth 100000 in
set_option maxHeartbeats 4000000 in
theorem c_X0_visitsHad {l : Launch} {w : WC} {μ : Me} {k : Nat} (hk : Hm w k) (hX : Nx w) {n : Nat} (hn : n ≤ 8) (h0 : μ.1 k 3 = nI n) : CtI l w yX0_visitsHad cX0_visitsHad 3 (some .int) (Rm 0 0) [.ref (w_ad w k)] μ (Px (smL (fun r => μ.1 (k + 3 + 2 + r) 4) n) μ) := by
  refine Ct.mk (own := RX0) rfl (by decide) (Nat.le_of_ble_eq_true rfl) (fun x hxl C hQ => ?_)
  subst hxl
  refine v_iconst C dX0_visitsHad_0 ic_0 rfl ?_
  refine v_istore_n C dX0_visitsHad_1 (by decide) rfl ?_
  refine v_iconst C dX0_visitsHad_2 ic_0 rfl ?_
  refine v_istore_n C dX0_visitsHad_3 (by decide) rfl ?_
  exact V.norm (lp_X0_visitsHad_4 hk hX hn h0 C hQ (n + 1) 0 _ (by omega) (by omega) rfl) rfl

set_option maxRecDepth 100000 in
set_option maxHeartbeats 4000000 in
theorem lp_X0_lowestMood_5 {w : WC} {x : Cy} {μ : Me} {k : Nat} (hk : Hm w k) (hX : Nx w) {n : Nat} (hn : n ≤ 8) (h0 : μ.1 k 3 = nI n)  (C : Cx w x cX0_lowestMood 3 RX0 (some .int) (Rm 1 21)) (hQ : y_Q x = MQ (y_b x) (QI w (Px (loL (fun r => μ.1 (k + 3 + 2 + r) 1) n) μ)) (y_a x) (y_s x) 0 0 (AA w)) : ∀ (m i : Nat) (a : Int32), n + 1 ≤ i + m → i ≤ n → (a = loL (fun r => μ.1 (k + 3 + 2 + r) 1) i) → V w x 3 μ 5 [(0, .ref (w_ad w k)), (1, .int a), (2, .int (nI i))] [] := by
  intro m
  induction m with
  | zero =>
    intro i a hm hi
    exact absurd hm (by omega)
  | succ m ih =>
    intro i a hm hi ha
    refine v_iload_n C dX0_lowestMood_5 rfl rfl ?_
    refine v_aload_n C dX0_lowestMood_6 rfl rfl ?_
    refine g_X0_size C hk.1 dX0_lowestMood_7 fl_X0_44 rfl ?_
    refine v_eqi (h0) ?_
    refine v_icmp_ge C 33 13 dX0_lowestMood_10 (by decide) rfl (fun h10 => ?_) (fun h10 => ?_)
    · have g : i = n := by have := (le_n (a := n) (b := i) (by omega) (by omega)).mp h10; omega
      refine v_iload_n C dX0_lowestMood_33 rfl rfl ?_
      exact v_iret C hQ dX0_lowestMood_34 ⟨by rw [ha, g], rfl⟩
    · have g : i < n := by rcases Nat.lt_or_ge i (n) with q | q; exact q; exact absurd ((le_n (a := n) (b := i) (by omega) (by omega)).mpr q) h10
      refine v_iload_n C dX0_lowestMood_13 rfl rfl ?_
      refine v_aload_n C dX0_lowestMood_14 rfl rfl ?_
      refine g_X0_residents C hk.1 dX0_lowestMood_15 fl_X0_20 rfl ?_
      refine v_iload_n C dX0_lowestMood_18 rfl rfl ?_
      refine a_R C hk.2.2.2.1 dX0_lowestMood_19 (i) rfl (by omega) rfl ?_
      refine g_X1_mood C (hk.2.2.2.2.2 (i) (by omega)) dX0_lowestMood_20 fl_X0_138 rfl ?_
      refine v_mmin C dX0_lowestMood_23 ml_X0_106 st_min in_J9 co_min (by decide) (Nat.le_of_ble_eq_true rfl) rfl ?_
      refine v_istore_n C dX0_lowestMood_26 (by decide) rfl ?_
      refine v_iincN C dX0_lowestMood_27 rfl (by decide) rfl ?_
      refine v_goto C 5 dX0_lowestMood_30 (by decide) ?_
      exact V.norm (ih (i + 1) _ (by omega) (by omega) (by rw [ha]; rfl)) rfl
set_option maxRecDepth 100000 in
set_option maxHeartbeats 4000000 in
theorem c_X0_lowestMood {l : Launch} {w : WC} {μ : Me} {k : Nat} (hk : Hm w k) (hX : Nx w) {n : Nat} (hn : n ≤ 8) (h0 : μ.1 k 3 = nI n) : CtI l w yX0_lowestMood cX0_lowestMood 3 (some .int) (Rm 1 21) [.ref (w_ad w k)] μ (Px (loL (fun r => μ.1 (k + 3 + 2 + r) 1) n) μ) := by
  refine Ct.mk (own := RX0) rfl (by decide) (Nat.le_of_ble_eq_true rfl) (fun x hxl C hQ => ?_)
  subst hxl
  refine v_bipush C dX0_lowestMood_0 bp_99 rfl ?_
  refine v_istore_n C dX0_lowestMood_2 (by decide) rfl ?_
  refine v_iconst C dX0_lowestMood_3 ic_0 rfl ?_
  refine v_istore_n C dX0_lowestMood_4 (by decide) rfl ?_
  exact V.norm (lp_X0_lowestMood_5 hk hX hn h0 C hQ (n + 1) 0 _ (by omega) (by omega) rfl) rfl

set_option maxRecDepth 100000 in
set_option maxHeartbeats 4000000 in
theorem lp_X0_wellOnes_4 {w : WC} {x : Cy} {μ : Me} {k : Nat} (hk : Hm w k) (hX : Nx w) {n : Nat} (hn : n ≤ 8) (h0 : μ.1 k 3 = nI n)  (C : Cx w x cX0_wellOnes 3 RX0 (some .int) (Rm 1 20)) (hQ : y_Q x = MQ (y_b x) (QI w (Px (weL (fun r => μ.1 (k + 3 + 2 + r) 1) n) μ)) (y_a x) (y_s x) 0 0 (AA w)) : ∀ (m i : Nat) (a : Int32), n + 1 ≤ i + m → i ≤ n → (a = weL (fun r => μ.1 (k + 3 + 2 + r) 1) i) → V w x 3 μ 4 [(0, .ref (w_ad w k)), (1, .int a), (2, .int (nI i))] [] := by
  intro m
  induction m with
  | zero =>
    intro i a hm hi
    exact absurd hm (by omega)
  | succ m ih =>
    intro i a hm hi ha
    refine v_iload_n C dX0_wellOnes_4 rfl rfl ?_
    refine v_aload_n C dX0_wellOnes_5 rfl rfl ?_
    refine g_X0_size C hk.1 dX0_wellOnes_6 fl_X0_44 rfl ?_
    refine v_eqi (h0) ?_
    refine v_icmp_ge C 36 12 dX0_wellOnes_9 (by decide) rfl (fun h9 => ?_) (fun h9 => ?_)
    · have g : i = n := by have := (le_n (a := n) (b := i) (by omega) (by omega)).mp h9; omega
      refine v_iload_n C dX0_wellOnes_36 rfl rfl ?_
      exact v_iret C hQ dX0_wellOnes_37 ⟨by rw [ha, g], rfl⟩
    · have g : i < n := by rcases Nat.lt_or_ge i (n) with q | q; exact q; exact absurd ((le_n (a := n) (b := i) (by omega) (by omega)).mpr q) h9
      refine v_aload_n C dX0_wellOnes_12 rfl rfl ?_
      refine g_X0_residents C hk.1 dX0_wellOnes_13 fl_X0_20 rfl ?_
      refine v_iload_n C dX0_wellOnes_16 rfl rfl ?_
      refine a_R C hk.2.2.2.1 dX0_wellOnes_17 (i) rfl (by omega) rfl ?_
      refine v_iV C dX0_wellOnes_18 mi_X1_isWell (c_X1_isWell (hk.2.2.2.2.2 (i) (by omega))) rfl (hk.2.2.2.2.2 (i) (by omega)).1 (hk.2.2.2.2.2 (i) (by omega)).2 rfl ml_X0_144 (rk_of rfl) rfl (Nat.le_of_ble_eq_true rfl) rfl (px_k ?_)
      refine v_if_eq C 30 24 dX0_wellOnes_21 (by decide) rfl (fun h21 => ?_) (fun h21 => ?_)
      · refine v_iincN C dX0_wellOnes_30 rfl (by decide) rfl ?_
        refine v_goto C 4 dX0_wellOnes_33 (by decide) ?_
        exact V.norm (ih (i + 1) _ (by omega) (by omega) (by subst ha; first | (refine (weL_y (i := i) ?_).symm; exact h21) | (refine (weL_n (i := i) ?_).symm; exact h21))) rfl
      · refine v_iload_n C dX0_wellOnes_24 rfl rfl ?_
        refine v_iconst C dX0_wellOnes_25 ic_1 rfl ?_
        refine v_iload_n C dX0_wellOnes_26 rfl rfl ?_
        refine v_ishl C dX0_wellOnes_27 rfl ?_
        refine v_ior C dX0_wellOnes_28 rfl ?_
        refine v_istore_n C dX0_wellOnes_29 (by decide) rfl ?_
        refine v_iincN C dX0_wellOnes_30 rfl (by decide) rfl ?_
        refine v_goto C 4 dX0_wellOnes_33 (by decide) ?_
        exact V.norm (ih (i + 1) _ (by omega) (by omega) (by subst ha; first | (refine (weL_y (i := i) ?_).symm; exact h21) | (refine (weL_n (i := i) ?_).symm; exact h21))) rfl
set_option maxRecDepth 100000 in
set_option maxHeartbeats 4000000 in
theorem c_X0_wellOnes {l : Launch} {w : WC} {μ : Me} {k : Nat} (hk : Hm w k) (hX : Nx w) {n : Nat} (hn : n ≤ 8) (h0 : μ.1 k 3 = nI n) : CtI l w yX0_wellOnes cX0_wellOnes 3 (some .int) (Rm 1 20) [.ref (w_ad w k)] μ (Px (weL (fun r => μ.1 (k + 3 + 2 + r) 1) n) μ) := by
  refine Ct.mk (own := RX0) rfl (by decide) (Nat.le_of_ble_eq_true rfl) (fun x hxl C hQ => ?_)
  subst hxl
  refine v_iconst C dX0_wellOnes_0 ic_0 rfl ?_
  refine v_istore_n C dX0_wellOnes_1 (by decide) rfl ?_
  refine v_iconst C dX0_wellOnes_2 ic_0 rfl ?_
  refine v_istore_n C dX0_wellOnes_3 (by decide) rfl ?_
  exact V.norm (lp_X0_wellOnes_4 hk hX hn h0 C hQ (n + 1) 0 _ (by omega) (by omega) rfl) rfl

set_option maxRecDepth 100000 in
set_option maxHeartbeats 4000000 in
theorem lp_X0_heldSpots_4 {w : WC} {x : Cy} {μ : Me} {k : Nat} (hk : Hm w k) (hX : Nx w)  (C : Cx w x cX0_heldSpots 3 RX0 (some .int) (Rm 0 0)) (hQ : y_Q x = MQ (y_b x) (QI w (Px (heL (fun r => μ.1 (k + 4) r) 10) μ)) (y_a x) (y_s x) 0 0 (AA w)) : ∀ (m i : Nat) (a : Int32), 10 + 1 ≤ i + m → i ≤ 10 → (a = heL (fun r => μ.1 (k + 4) r) i) → V w x 3 μ 4 [(0, .ref (w_ad w k)), (1, .int a), (2, .int (nI i))] [] := by
  intro m
  induction m with
  | zero =>
    intro i a hm hi
    exact absurd hm (by omega)
  | succ m ih =>
    intro i a hm hi ha
    refine v_iload_n C dX0_heldSpots_4 rfl rfl ?_
    refine v_bipush C dX0_heldSpots_5 bp_10 rfl ?_
    refine v_icmp_ge C 29 10 dX0_heldSpots_7 (by decide) rfl (fun h7 => ?_) (fun h7 => ?_)
    · have g : i = 10 := by have := (le_n (a := 10) (b := i) (by omega) (by omega)).mp h7; omega
      refine v_iload_n C dX0_heldSpots_29 rfl rfl ?_
      exact v_iret C hQ dX0_heldSpots_30 ⟨by rw [ha, g], rfl⟩
    · have g : i < 10 := by rcases Nat.lt_or_ge i (10) with q | q; exact q; exact absurd ((le_n (a := 10) (b := i) (by omega) (by omega)).mpr q) h7
      refine v_aload_n C dX0_heldSpots_10 rfl rfl ?_
      refine g_X0_spots C hk.1 dX0_heldSpots_11 fl_X0_29 rfl ?_
      refine v_iload_n C dX0_heldSpots_14 rfl rfl ?_
      refine a_I C hk.2.2.2.2.1 (by decide) dX0_heldSpots_15 (i) rfl (by omega) rfl ?_
      refine v_iconst C dX0_heldSpots_16 ic_m1 rfl ?_
      refine v_icmp_eq C 23 20 dX0_heldSpots_17 (by decide) rfl (fun h17 => ?_) (fun h17 => ?_)
      · refine v_iincN C dX0_heldSpots_23 rfl (by decide) rfl ?_
        refine v_goto C 4 dX0_heldSpots_26 (by decide) ?_
        exact V.norm (ih (i + 1) _ (by omega) (by omega) (by rw [ha, heL]; first | rw [if_pos h17] | rw [if_neg h17])) rfl
      · refine v_iincP C dX0_heldSpots_20 rfl (by decide) rfl ?_
        refine v_iincN C dX0_heldSpots_23 rfl (by decide) rfl ?_
        refine v_goto C 4 dX0_heldSpots_26 (by decide) ?_
        exact V.norm (ih (i + 1) _ (by omega) (by omega) (by rw [ha, heL]; first | rw [if_pos h17] | rw [if_neg h17])) rfl
set_option maxRecDepth 100000 in
set_option maxHeartbeats 4000000 in
theorem c_X0_heldSpots {l : Launch} {w : WC} {μ : Me} {k : Nat} (hk : Hm w k) (hX : Nx w) : CtI l w yX0_heldSpots cX0_heldSpots 3 (some .int) (Rm 0 0) [.ref (w_ad w k)] μ (Px (heL (fun r => μ.1 (k + 4) r) 10) μ) := by
  refine Ct.mk (own := RX0) rfl (by decide) (Nat.le_of_ble_eq_true rfl) (fun x hxl C hQ => ?_)
  subst hxl
  refine v_iconst C dX0_heldSpots_0 ic_0 rfl ?_
  refine v_istore_n C dX0_heldSpots_1 (by decide) rfl ?_
  refine v_iconst C dX0_heldSpots_2 ic_0 rfl ?_
  refine v_istore_n C dX0_heldSpots_3 (by decide) rfl ?_
  exact V.norm (lp_X0_heldSpots_4 hk hX C hQ 11 0 _ (by omega) (by omega) rfl) rfl

set_option maxRecDepth 100000 in
set_option maxHeartbeats 4000000 in
theorem lp_X0_keepAway_2 {w : WC} {x : Cy} {μ : Me} {k : Nat} (hk : Hm w k) (hX : Nx w) {a : Int32}  (C : Cx w x cX0_keepAway 3 RX0 none (Rm 0 0)) (hQ : y_Q x = MQ (y_b x) (QV w (Pv (ua μ (k + 2) (kaL (μ.1 (k + 2)) a 6)))) (y_a x) (y_s x) 0 0 (AA w)) : ∀ (m i : Nat), 6 + 1 ≤ i + m → i ≤ 6 → V w x 3 (ua μ (k + 2) (kaL (μ.1 (k + 2)) a i)) 2 [(0, .ref (w_ad w k)), (1, .int a), (2, .int (nI i))] [] := by
  intro m
  induction m with
  | zero =>
    intro i  hm hi
    exact absurd hm (by omega)
  | succ m ih =>
    intro i  hm hi 
    refine v_iload_n C dX0_keepAway_2 rfl rfl ?_
    refine v_bipush C dX0_keepAway_3 bp_6 rfl ?_
    refine v_icmp_ge C 26 8 dX0_keepAway_5 (by decide) rfl (fun h5 => ?_) (fun h5 => ?_)
    · have g : i = 6 := by have := (le_n (a := 6) (b := i) (by omega) (by omega)).mp h5; omega
      exact v_vret C hQ dX0_keepAway_26 (by rw [g])
    · have g : i < 6 := by rcases Nat.lt_or_ge i (6) with q | q; exact q; exact absurd ((le_n (a := 6) (b := i) (by omega) (by omega)).mpr q) h5
      refine v_aload_n C dX0_keepAway_8 rfl rfl ?_
      refine g_X0_list C hk.1 dX0_keepAway_9 fl_X0_15 rfl ?_
      refine v_iload_n C dX0_keepAway_12 rfl rfl ?_
      refine v_dup2 C dX0_keepAway_13 rfl rfl rfl ?_
      refine a_I C hk.2.2.1 (by decide) dX0_keepAway_14 (i) rfl (by omega) rfl ?_
      refine v_iload_n C dX0_keepAway_15 rfl rfl ?_
      refine v_iconst C dX0_keepAway_16 ic_m1 rfl ?_
      refine v_ixor C dX0_keepAway_17 rfl ?_
      refine v_iand C dX0_keepAway_18 rfl ?_
      refine s_I C hk.2.2.1 (by decide) dX0_keepAway_19 (i) rfl (by omega) rfl ?_
      refine v_iincN C dX0_keepAway_20 rfl (by decide) rfl ?_
      refine v_goto C 2 dX0_keepAway_23 (by decide) ?_
      refine v_mem ?_ (V.norm (ih (i + 1) (by omega) (by omega)) rfl)
      rw [up_ua, ua_s, kaL_s]
set_option maxRecDepth 100000 in
set_option maxHeartbeats 4000000 in
theorem c_X0_keepAway {l : Launch} {w : WC} {μ : Me} {k : Nat} (hk : Hm w k) (hX : Nx w) {a : Int32} : CtV l w yX0_keepAway cX0_keepAway 3 (Rm 0 0) [.ref (w_ad w k), .int a] μ (Pv (ua μ (k + 2) (kaL (μ.1 (k + 2)) a 6))) := by
  refine Ct.mk (own := RX0) rfl (by decide) (Nat.le_of_ble_eq_true rfl) (fun x hxl C hQ => ?_)
  subst hxl
  refine v_iconst C dX0_keepAway_0 ic_0 rfl ?_
  refine v_istore_n C dX0_keepAway_1 (by decide) rfl ?_
  refine v_mem ?_ (V.norm (lp_X0_keepAway_2 (μ := μ) hk hX C hQ 7 0 (by omega) (by omega)) rfl)
  rw [kaL_0, ua_self]

set_option maxRecDepth 100000 in
set_option maxHeartbeats 4000000 in
theorem lp_X0_seated_12 {w : WC} {x : Cy} {μ : Me} {k : Nat} (hk : Hm w k) (hX : Nx w) {n : Nat} (hn : n ≤ 8) (h0 : μ.1 k 3 = nI n) {v : Int32}  (C : Cx w x cX0_seated 6 RX0 (some .int) (Rm 1 21)) (hQ : y_Q x = MQ (y_b x) (QI w (Px (seL (fun r => μ.1 (k + 3 + 2 + r) 0) (μ.1 (k + 1) 0) v n).2 μ)) (y_a x) (y_s x) 0 0 (AA w)) : ∀ (m i : Nat) (a : Int32) (b : Int32), n + 1 ≤ i + m → i ≤ n → (a = (seL (fun r => μ.1 (k + 3 + 2 + r) 0) (μ.1 (k + 1) 0) v i).1) → (b = (seL (fun r => μ.1 (k + 3 + 2 + r) 0) (μ.1 (k + 1) 0) v i).2) → V w x 6 μ 12 [(0, .ref (w_ad w k)), (1, .int v), (2, .int a), (3, .int b), (4, .int (nI i))] [] := by
  intro m
  induction m with
  | zero =>
    intro i a b hm hi
    exact absurd hm (by omega)
  | succ m ih =>
    intro i a b hm hi ha hb
    refine v_iload C dX0_seated_12 rfl rfl ?_
    refine v_aload_n C dX0_seated_14 rfl rfl ?_
    refine g_X0_size C hk.1 dX0_seated_15 fl_X0_44 rfl ?_
    refine v_eqi (h0) ?_
    refine v_icmp_ge C 66 21 dX0_seated_18 (by decide) rfl (fun h18 => ?_) (fun h18 => ?_)
    · have g : i = n := by have := (le_n (a := n) (b := i) (by omega) (by omega)).mp h18; omega
      refine v_iload_n C dX0_seated_66 rfl rfl ?_
      exact v_iret C hQ dX0_seated_67 ⟨by rw [hb, g], rfl⟩
    · have g : i < n := by rcases Nat.lt_or_ge i (n) with q | q; exact q; exact absurd ((le_n (a := n) (b := i) (by omega) (by omega)).mpr q) h18
      refine v_aload_n C dX0_seated_21 rfl rfl ?_
      refine g_X0_residents C hk.1 dX0_seated_22 fl_X0_20 rfl ?_
      refine v_iload C dX0_seated_25 rfl rfl ?_
      refine a_R C hk.2.2.2.1 dX0_seated_27 (i) rfl (by omega) rfl ?_
      refine v_iV C dX0_seated_28 mi_X1_seats (c_X1_seats (hk.2.2.2.2.2 (i) (by omega))) rfl (hk.2.2.2.2.2 (i) (by omega)).1 (hk.2.2.2.2.2 (i) (by omega)).2 rfl ml_X0_122 (rk_of rfl) rfl (Nat.le_of_ble_eq_true rfl) rfl (px_k ?_)
      refine v_istore C dX0_seated_31 (by decide) rfl ?_
      refine v_iload_n C dX0_seated_33 rfl rfl ?_
      refine v_iload C dX0_seated_34 rfl rfl ?_
      refine v_iN C dX0_seated_36 ms_X4_isIn c_X4_isIn rfl (fun U h => nw_X0_82 hX h) (rk_of rfl) rfl (Nat.le_of_ble_eq_true rfl) rfl (px_k ?_)
      refine v_if_eq C 60 42 dX0_seated_39 (by decide) rfl (fun h39 => ?_) (fun h39 => ?_)
      · refine v_iincN C dX0_seated_60 rfl (by decide) rfl ?_
        refine v_goto C 12 dX0_seated_63 (by decide) ?_
        exact V.norm (ih (i + 1) _ _ (by omega) (by omega) (by subst ha; subst hb; first | rw [seL_y (is_t (by omega) h39) (Int32.not_lt.mp h45)] | rw [seL_n1 (is_f (by omega) h39)] | rw [seL_n2 (Int32.not_le.mpr h45)]) (by subst ha; subst hb; first | rw [seL_y (is_t (by omega) h39) (Int32.not_lt.mp h45)] | rw [seL_n1 (is_f (by omega) h39)] | rw [seL_n2 (Int32.not_le.mpr h45)])) rfl
      · refine v_iload C dX0_seated_42 rfl rfl ?_
        refine v_iload_n C dX0_seated_44 rfl rfl ?_
        refine v_icmp_gt C 60 48 dX0_seated_45 (by decide) rfl (fun h45 => ?_) (fun h45 => ?_)
        · refine v_iincN C dX0_seated_60 rfl (by decide) rfl ?_
          refine v_goto C 12 dX0_seated_63 (by decide) ?_
          exact V.norm (ih (i + 1) _ _ (by omega) (by omega) (by subst ha; subst hb; first | rw [seL_y (is_t (by omega) h39) (Int32.not_lt.mp h45)] | rw [seL_n1 (is_f (by omega) h39)] | rw [seL_n2 (Int32.not_le.mpr h45)]) (by subst ha; subst hb; first | rw [seL_y (is_t (by omega) h39) (Int32.not_lt.mp h45)] | rw [seL_n1 (is_f (by omega) h39)] | rw [seL_n2 (Int32.not_le.mpr h45)])) rfl
        · refine v_iload_n C dX0_seated_48 rfl rfl ?_
          refine v_iload C dX0_seated_49 rfl rfl ?_
          refine v_isub C dX0_seated_51 rfl ?_
          refine v_istore_n C dX0_seated_52 (by decide) rfl ?_
          refine v_iload_n C dX0_seated_53 rfl rfl ?_
          refine v_iconst C dX0_seated_54 ic_1 rfl ?_
          refine v_iload C dX0_seated_55 rfl rfl ?_
          refine v_ishl C dX0_seated_57 rfl ?_
          refine v_ior C dX0_seated_58 rfl ?_
          refine v_istore_n C dX0_seated_59 (by decide) rfl ?_
          refine v_iincN C dX0_seated_60 rfl (by decide) rfl ?_
          refine v_goto C 12 dX0_seated_63 (by decide) ?_
          exact V.norm (ih (i + 1) _ _ (by omega) (by omega) (by subst ha; subst hb; first | rw [seL_y (is_t (by omega) h39) (Int32.not_lt.mp h45)] | rw [seL_n1 (is_f (by omega) h39)] | rw [seL_n2 (Int32.not_le.mpr h45)]) (by subst ha; subst hb; first | rw [seL_y (is_t (by omega) h39) (Int32.not_lt.mp h45)] | rw [seL_n1 (is_f (by omega) h39)] | rw [seL_n2 (Int32.not_le.mpr h45)])) rfl
set_option maxRecDepth 100000 in
set_option maxHeartbeats 4000000 in
theorem c_X0_seated {l : Launch} {w : WC} {μ : Me} {k : Nat} (hk : Hm w k) (hX : Nx w) {n : Nat} (hn : n ≤ 8) (h0 : μ.1 k 3 = nI n) {v : Int32} : CtI l w yX0_seated cX0_seated 6 (some .int) (Rm 1 21) [.ref (w_ad w k), .int v] μ (Px (seL (fun r => μ.1 (k + 3 + 2 + r) 0) (μ.1 (k + 1) 0) v n).2 μ) := by
  refine Ct.mk (own := RX0) rfl (by decide) (Nat.le_of_ble_eq_true rfl) (fun x hxl C hQ => ?_)
  subst hxl
  refine v_aload_n C dX0_seated_0 rfl rfl ?_
  refine g_X0_settings C hk.1 dX0_seated_1 fl_X0_9 rfl ?_
  refine v_iconst C dX0_seated_4 ic_0 rfl ?_
  refine a_I C hk.2.1 (by decide) dX0_seated_5 (0) rfl (by decide) rfl ?_
  refine v_istore_n C dX0_seated_6 (by decide) rfl ?_
  refine v_iconst C dX0_seated_7 ic_0 rfl ?_
  refine v_istore_n C dX0_seated_8 (by decide) rfl ?_
  refine v_iconst C dX0_seated_9 ic_0 rfl ?_
  refine v_istore C dX0_seated_10 (by decide) rfl ?_
  exact V.norm (lp_X0_seated_12 hk hX hn h0 C hQ (n + 1) 0 _ _ (by omega) (by omega) rfl rfl) rfl

set_option maxRecDepth 100000 in
set_option maxHeartbeats 4000000 in
theorem lp_X0_sharers_4 {w : WC} {x : Cy} {μ : Me} {k : Nat} (hk : Hm w k) (hX : Nx w) {n : Nat} (hn : n ≤ 8) (h0 : μ.1 k 3 = nI n)  (C : Cx w x cX0_sharers 4 RX0 (some .int) (Rm 1 21)) (hQ : y_Q x = MQ (y_b x) (QI w (Px (shL (fun r => μ.1 (k + 3 + 2 + r) 0) (fun r => μ.1 (k + 3 + 2 + r) 1) (fun r => μ.1 (k + 3 + 2 + r) 2) (μ.1 k 7) n) μ)) (y_a x) (y_s x) 0 0 (AA w)) : ∀ (m i : Nat) (a : Int32), n + 1 ≤ i + m → i ≤ n → (a = shL (fun r => μ.1 (k + 3 + 2 + r) 0) (fun r => μ.1 (k + 3 + 2 + r) 1) (fun r => μ.1 (k + 3 + 2 + r) 2) (μ.1 k 7) i) → V w x 4 μ 4 [(0, .ref (w_ad w k)), (1, .int a), (2, .int (nI i))] [] := by
  intro m
  induction m with
  | zero =>
    intro i a hm hi
    exact absurd hm (by omega)
  | succ m ih =>
    intro i a hm hi ha
    refine v_iload_n C dX0_sharers_4 rfl rfl ?_
    refine v_aload_n C dX0_sharers_5 rfl rfl ?_
    refine g_X0_size C hk.1 dX0_sharers_6 fl_X0_44 rfl ?_
    refine v_eqi (h0) ?_
    refine v_icmp_ge C 63 12 dX0_sharers_9 (by decide) rfl (fun h9 => ?_) (fun h9 => ?_)
    · have g : i = n := by have := (le_n (a := n) (b := i) (by omega) (by omega)).mp h9; omega
      refine v_iload_n C dX0_sharers_63 rfl rfl ?_
      exact v_iret C hQ dX0_sharers_64 ⟨by rw [ha, g], rfl⟩
    · have g : i < n := by rcases Nat.lt_or_ge i (n) with q | q; exact q; exact absurd ((le_n (a := n) (b := i) (by omega) (by omega)).mpr q) h9
      refine v_aload_n C dX0_sharers_12 rfl rfl ?_
      refine g_X0_residents C hk.1 dX0_sharers_13 fl_X0_20 rfl ?_
      refine v_iload_n C dX0_sharers_16 rfl rfl ?_
      refine a_R C hk.2.2.2.1 dX0_sharers_17 (i) rfl (by omega) rfl ?_
      refine v_astore_n C dX0_sharers_18 (by decide) rfl ?_
      refine v_aload_n C dX0_sharers_19 rfl rfl ?_
      refine g_X0_visited C hk.1 dX0_sharers_20 fl_X0_73 rfl ?_
      refine v_iload_n C dX0_sharers_23 rfl rfl ?_
      refine v_iN C dX0_sharers_24 ms_X4_isIn c_X4_isIn rfl (fun U h => nw_X0_82 hX h) (rk_of rfl) rfl (Nat.le_of_ble_eq_true rfl) rfl (px_k ?_)
      refine v_if_ne C 57 30 dX0_sharers_27 (by decide) rfl (fun h27 => ?_) (fun h27 => ?_)
      · refine v_iincN C dX0_sharers_57 rfl (by decide) rfl ?_
        refine v_goto C 4 dX0_sharers_60 (by decide) ?_
        exact V.norm (ih (i + 1) _ (by omega) (by omega) (by subst ha; first | (refine (shL_y (i := i) (is_f (by omega) h27) ?_ ?_).symm; exact h41; exact h48) | (refine (shL_n1 (i := i) (is_t (by omega) h27)).symm; done) | (refine (shL_n2 (i := i) ?_).symm; exact h41) | (refine (shL_n3 (i := i) ?_).symm; exact h48))) rfl
      · refine v_aload_n C dX0_sharers_30 rfl rfl ?_
        refine g_X0_visited C hk.1 dX0_sharers_31 fl_X0_73 rfl ?_
        refine v_aload_n C dX0_sharers_34 rfl rfl ?_
        refine g_X1_friend C (hk.2.2.2.2.2 (i) (by omega)) dX0_sharers_35 fl_X0_125 rfl ?_
        refine v_iN C dX0_sharers_38 ms_X4_isIn c_X4_isIn rfl (fun U h => nw_X0_82 hX h) (rk_of rfl) rfl (Nat.le_of_ble_eq_true rfl) rfl (px_k ?_)
        refine v_if_eq C 57 44 dX0_sharers_41 (by decide) rfl (fun h41 => ?_) (fun h41 => ?_)
        · refine v_iincN C dX0_sharers_57 rfl (by decide) rfl ?_
          refine v_goto C 4 dX0_sharers_60 (by decide) ?_
          exact V.norm (ih (i + 1) _ (by omega) (by omega) (by subst ha; first | (refine (shL_y (i := i) (is_f (by omega) h27) ?_ ?_).symm; exact h41; exact h48) | (refine (shL_n1 (i := i) (is_t (by omega) h27)).symm; done) | (refine (shL_n2 (i := i) ?_).symm; exact h41) | (refine (shL_n3 (i := i) ?_).symm; exact h48))) rfl
        · refine v_aload_n C dX0_sharers_44 rfl rfl ?_
          refine v_iV C dX0_sharers_45 mi_X1_shares (c_X1_shares (hk.2.2.2.2.2 (i) (by omega))) rfl (hk.2.2.2.2.2 (i) (by omega)).1 (hk.2.2.2.2.2 (i) (by omega)).2 rfl ml_X0_128 (rk_of rfl) rfl (Nat.le_of_ble_eq_true rfl) rfl (px_k ?_)
          refine v_if_eq C 57 51 dX0_sharers_48 (by decide) rfl (fun h48 => ?_) (fun h48 => ?_)
          · refine v_iincN C dX0_sharers_57 rfl (by decide) rfl ?_
            refine v_goto C 4 dX0_sharers_60 (by decide) ?_
            exact V.norm (ih (i + 1) _ (by omega) (by omega) (by subst ha; first | (refine (shL_y (i := i) (is_f (by omega) h27) ?_ ?_).symm; exact h41; exact h48) | (refine (shL_n1 (i := i) (is_t (by omega) h27)).symm; done) | (refine (shL_n2 (i := i) ?_).symm; exact h41) | (refine (shL_n3 (i := i) ?_).symm; exact h48))) rfl
          · refine v_iload_n C dX0_sharers_51 rfl rfl ?_
            refine v_iconst C dX0_sharers_52 ic_1 rfl ?_
            refine v_iload_n C dX0_sharers_53 rfl rfl ?_
            refine v_ishl C dX0_sharers_54 rfl ?_
            refine v_ior C dX0_sharers_55 rfl ?_
            refine v_istore_n C dX0_sharers_56 (by decide) rfl ?_
            refine v_iincN C dX0_sharers_57 rfl (by decide) rfl ?_
            refine v_goto C 4 dX0_sharers_60 (by decide) ?_
            exact V.norm (ih (i + 1) _ (by omega) (by omega) (by subst ha; first | (refine (shL_y (i := i) (is_f (by omega) h27) ?_ ?_).symm; exact h41; exact h48) | (refine (shL_n1 (i := i) (is_t (by omega) h27)).symm; done) | (refine (shL_n2 (i := i) ?_).symm; exact h41) | (refine (shL_n3 (i := i) ?_).symm; exact h48))) rfl
set_option maxRecDepth 100000 in
set_option maxHeartbeats 4000000 in
theorem c_X0_sharers {l : Launch} {w : WC} {μ : Me} {k : Nat} (hk : Hm w k) (hX : Nx w) {n : Nat} (hn : n ≤ 8) (h0 : μ.1 k 3 = nI n) : CtI l w yX0_sharers cX0_sharers 4 (some .int) (Rm 1 21) [.ref (w_ad w k)] μ (Px (shL (fun r => μ.1 (k + 3 + 2 + r) 0) (fun r => μ.1 (k + 3 + 2 + r) 1) (fun r => μ.1 (k + 3 + 2 + r) 2) (μ.1 k 7) n) μ) := by
  refine Ct.mk (own := RX0) rfl (by decide) (Nat.le_of_ble_eq_true rfl) (fun x hxl C hQ => ?_)
  subst hxl
  refine v_iconst C dX0_sharers_0 ic_0 rfl ?_
  refine v_istore_n C dX0_sharers_1 (by decide) rfl ?_
  refine v_iconst C dX0_sharers_2 ic_0 rfl ?_
  refine v_istore_n C dX0_sharers_3 (by decide) rfl ?_
  exact V.norm (lp_X0_sharers_4 hk hX hn h0 C hQ (n + 1) 0 _ (by omega) (by omega) rfl) rfl

set_option maxRecDepth 100000 in
set_option maxHeartbeats 4000000 in
theorem lp_X0_volunteersTo_4 {w : WC} {x : Cy} {μ : Me} {k : Nat} (hk : Hm w k) (hX : Nx w) {n : Nat} (hn : n ≤ 8) (h0 : μ.1 k 3 = nI n) {s : Int32} {j : Nat} (hj : j ≤ 8) (hv : μ.1 (k + 1) 2 = nI j)  (C : Cx w x cX0_volunteersTo 5 RX0 (some .int) (Rm 1 24)) (hQ : y_Q x = MQ (y_b x) (QI w (Px (voL (fun r => μ.1 (k + 3 + 2 + r) 3) n s j) μ)) (y_a x) (y_s x) 0 0 (AA w)) : ∀ (m i : Nat) (a : Int32), j + 1 ≤ i + m → i ≤ j → (a = voL (fun r => μ.1 (k + 3 + 2 + r) 3) n s i) → V w x 5 μ 4 [(0, .ref (w_ad w k)), (1, .int s), (2, .int a), (3, .int (nI i))] [] := by
  intro m
  induction m with
  | zero =>
    intro i a hm hi
    exact absurd hm (by omega)
  | succ m ih =>
    intro i a hm hi ha
    refine v_iload_n C dX0_volunteersTo_4 rfl rfl ?_
    refine v_aload_n C dX0_volunteersTo_5 rfl rfl ?_
    refine g_X0_settings C hk.1 dX0_volunteersTo_6 fl_X0_9 rfl ?_
    refine v_iconst C dX0_volunteersTo_9 ic_2 rfl ?_
    refine a_I C hk.2.1 (by decide) dX0_volunteersTo_10 (2) rfl (by decide) rfl ?_
    refine v_eqi (hv) ?_
    refine v_icmp_ge C 45 14 dX0_volunteersTo_11 (by decide) rfl (fun h11 => ?_) (fun h11 => ?_)
    · have g : i = j := by have := (le_n (a := j) (b := i) (by omega) (by omega)).mp h11; omega
      refine v_iload_n C dX0_volunteersTo_45 rfl rfl ?_
      exact v_iret C hQ dX0_volunteersTo_46 ⟨by first | rw [ha, g] | (rw [ha]; have e := voL_stop (d := j - i) (by rw [← ha]; exact h26); rw [show i + (j - i) = j by omega] at e; exact e.symm), rfl⟩
    · have g : i < j := by rcases Nat.lt_or_ge i (j) with q | q; exact q; exact absurd ((le_n (a := j) (b := i) (by omega) (by omega)).mpr q) h11
      refine v_aload_n C dX0_volunteersTo_14 rfl rfl ?_
      refine v_iload_n C dX0_volunteersTo_15 rfl rfl ?_
      refine v_iload_n C dX0_volunteersTo_16 rfl rfl ?_
      refine v_ior C dX0_volunteersTo_17 rfl ?_
      refine v_iV C dX0_volunteersTo_18 mi_X0_longestWaiting (c_X0_longestWaiting hk hX hn h0) rfl hk.1.1 hk.1.2 rfl ml_X0_132 (rk_of rfl) rfl (Nat.le_of_ble_eq_true rfl) rfl (px_k ?_)
      refine v_istore C dX0_volunteersTo_21 (by decide) rfl ?_
      refine v_iload C dX0_volunteersTo_23 rfl rfl ?_
      refine v_iconst C dX0_volunteersTo_25 ic_m1 rfl ?_
      refine v_icmp_ne C 32 29 dX0_volunteersTo_26 (by decide) rfl (fun h26 => ?_) (fun h26 => ?_)
      · refine v_iload_n C dX0_volunteersTo_32 rfl rfl ?_
        refine v_iconst C dX0_volunteersTo_33 ic_1 rfl ?_
        refine v_iload C dX0_volunteersTo_34 rfl rfl ?_
        refine v_ishl C dX0_volunteersTo_36 rfl ?_
        refine v_ior C dX0_volunteersTo_37 rfl ?_
        refine v_istore_n C dX0_volunteersTo_38 (by decide) rfl ?_
        refine v_iincN C dX0_volunteersTo_39 rfl (by decide) rfl ?_
        refine v_goto C 4 dX0_volunteersTo_42 (by decide) ?_
        exact V.norm (ih (i + 1) _ (by omega) (by omega) (by rw [voL, ← ha, if_neg h26])) rfl
      · refine v_goto C 45 dX0_volunteersTo_29 (by decide) ?_
        refine v_iload_n C dX0_volunteersTo_45 rfl rfl ?_
        exact v_iret C hQ dX0_volunteersTo_46 ⟨by first | rw [ha, g] | (rw [ha]; have e := voL_stop (d := j - i) (by rw [← ha]; exact h26); rw [show i + (j - i) = j by omega] at e; exact e.symm), rfl⟩
set_option maxRecDepth 100000 in
set_option maxHeartbeats 4000000 in
theorem c_X0_volunteersTo {l : Launch} {w : WC} {μ : Me} {k : Nat} (hk : Hm w k) (hX : Nx w) {n : Nat} (hn : n ≤ 8) (h0 : μ.1 k 3 = nI n) {s : Int32} {j : Nat} (hj : j ≤ 8) (hv : μ.1 (k + 1) 2 = nI j) : CtI l w yX0_volunteersTo cX0_volunteersTo 5 (some .int) (Rm 1 24) [.ref (w_ad w k), .int s] μ (Px (voL (fun r => μ.1 (k + 3 + 2 + r) 3) n s j) μ) := by
  refine Ct.mk (own := RX0) rfl (by decide) (Nat.le_of_ble_eq_true rfl) (fun x hxl C hQ => ?_)
  subst hxl
  refine v_iconst C dX0_volunteersTo_0 ic_0 rfl ?_
  refine v_istore_n C dX0_volunteersTo_1 (by decide) rfl ?_
  refine v_iconst C dX0_volunteersTo_2 ic_0 rfl ?_
  refine v_istore_n C dX0_volunteersTo_3 (by decide) rfl ?_
  exact V.norm (lp_X0_volunteersTo_4 hk hX hn h0 hj hv C hQ (j + 1) 0 _ (by omega) (by omega) rfl) rfl
