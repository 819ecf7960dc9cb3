set_option maxRecDepth 100000 in
set_option maxHeartbeats 4000000 in
theorem c_X4_of {l : Launch} {w : WC} {μ : Me} (hS : Sv w) (hX : Nx w) {d : Nat → Int32} (hL : LH μ 1 d) (hI : IvD d) {r t : Int32} : CtI l w yX4_of cX4_of 4 (some .int) (Rm 2 44) [.ref (w_ad w 0), .int r, .int t] μ (Px (if wiS r 0 (d 0 - 1) = 0 ∨ wiS t 0 8 = 0 then -1000001 else ofS d (cl r) t) (if wiS r 0 (d 0 - 1) = 0 ∨ wiS t 0 8 = 0 then tlS μ 0 else μ)) := by
  refine Ct.mk (own := RX4) rfl (by decide) (Nat.le_of_ble_eq_true rfl) (fun x hxl C hQ => ?_)
  subst hxl
  have hn := hI.n.1
  have h0 : μ.1 1 3 = nI (dn d) := hL.1.trans hI.n.2
  refine v_aload_n C dX4_of_0 rfl rfl ?_
  refine g_X4_live C hS.1 dX4_of_1 fl_X4_12 rfl ?_
  refine v_iload_n C dX4_of_4 rfl rfl ?_
  refine v_iV C dX4_of_5 mi_X0_has (c_X0_has hS.2.1 hX) rfl hS.2.1.1.1 hS.2.1.1.2 rfl ml_X4_67 (rk_of rfl) rfl (Nat.le_of_ble_eq_true rfl) rfl (px_k ?_)
  refine v_if_ne C 18 11 dX4_of_8 (by decide) rfl (fun h8 => ?_) (fun h8 => ?_)
  · have q := has_i hn h0 h8
    have q7 := hL.2.2.2.2.2.2 (cl r) q.2
    refine v_aload_n C dX4_of_18 rfl rfl ?_
    refine g_X4_live C hS.1 dX4_of_19 fl_X4_12 rfl ?_
    refine g_X0_residents C hS.2.1.1 dX4_of_22 fl_X4_71 rfl ?_
    refine v_iload_n C dX4_of_25 rfl rfl ?_
    refine a_R C hS.2.1.2.2.2.1 dX4_of_26 (cl r) q.1 (by omega) rfl ?_
    refine v_astore_n C dX4_of_27 (by decide) rfl ?_
    refine v_iload_n C dX4_of_28 rfl rfl ?_
    refine v_case (0) (fun e29_0 => ?_) (fun n29_0 => ?_)
    · refine v_tableIn C 80 dX4_of_29 e29_0 (by decide) (by decide) rfl (by decide) ?_
      subst e29_0
      refine v_aload_n C dX4_of_80 rfl rfl ?_
      refine v_iload_n C dX4_of_81 rfl rfl ?_
      refine v_iV C dX4_of_82 mi_X1_fact (c_X1_fact (hS.2.1.2.2.2.2.2 (cl r) (by omega)) (i := 0) (by decide) rfl) rfl (hS.2.1.2.2.2.2.2 (cl r) (by omega)).1 (hS.2.1.2.2.2.2.2 (cl r) (by omega)).2 rfl ml_X4_75 (rk_of rfl) rfl (Nat.le_of_ble_eq_true rfl) rfl (px_k ?_)
      exact v_iret C hQ dX4_of_85 ⟨by rw [if_neg (fun h => h.elim (by rw [← hL.1]; exact h8) (by decide))]; exact (q7.f (f := 0) (by decide)).trans (ofS_0 d _).symm, (if_neg (fun h => h.elim (by rw [← hL.1]; exact h8) (by decide))).symm⟩
    refine v_case (1) (fun e29_1 => ?_) (fun n29_1 => ?_)
    · refine v_tableIn C 80 dX4_of_29 e29_1 (by decide) (by decide) rfl (by decide) ?_
      subst e29_1
      refine v_aload_n C dX4_of_80 rfl rfl ?_
      refine v_iload_n C dX4_of_81 rfl rfl ?_
      refine v_iV C dX4_of_82 mi_X1_fact (c_X1_fact (hS.2.1.2.2.2.2.2 (cl r) (by omega)) (i := 1) (by decide) rfl) rfl (hS.2.1.2.2.2.2.2 (cl r) (by omega)).1 (hS.2.1.2.2.2.2.2 (cl r) (by omega)).2 rfl ml_X4_75 (rk_of rfl) rfl (Nat.le_of_ble_eq_true rfl) rfl (px_k ?_)
      exact v_iret C hQ dX4_of_85 ⟨by rw [if_neg (fun h => h.elim (by rw [← hL.1]; exact h8) (by decide))]; exact (q7.f (f := 1) (by decide)).trans (ofS_1 d _).symm, (if_neg (fun h => h.elim (by rw [← hL.1]; exact h8) (by decide))).symm⟩
    refine v_case (2) (fun e29_2 => ?_) (fun n29_2 => ?_)
    · refine v_tableIn C 80 dX4_of_29 e29_2 (by decide) (by decide) rfl (by decide) ?_
      subst e29_2
      refine v_aload_n C dX4_of_80 rfl rfl ?_
      refine v_iload_n C dX4_of_81 rfl rfl ?_
      refine v_iV C dX4_of_82 mi_X1_fact (c_X1_fact (hS.2.1.2.2.2.2.2 (cl r) (by omega)) (i := 2) (by decide) rfl) rfl (hS.2.1.2.2.2.2.2 (cl r) (by omega)).1 (hS.2.1.2.2.2.2.2 (cl r) (by omega)).2 rfl ml_X4_75 (rk_of rfl) rfl (Nat.le_of_ble_eq_true rfl) rfl (px_k ?_)
      exact v_iret C hQ dX4_of_85 ⟨by rw [if_neg (fun h => h.elim (by rw [← hL.1]; exact h8) (by decide))]; exact (q7.f (f := 2) (by decide)).trans (ofS_2 d _).symm, (if_neg (fun h => h.elim (by rw [← hL.1]; exact h8) (by decide))).symm⟩
    refine v_case (3) (fun e29_3 => ?_) (fun n29_3 => ?_)
    · refine v_tableIn C 80 dX4_of_29 e29_3 (by decide) (by decide) rfl (by decide) ?_
      subst e29_3
      refine v_aload_n C dX4_of_80 rfl rfl ?_
      refine v_iload_n C dX4_of_81 rfl rfl ?_
      refine v_iV C dX4_of_82 mi_X1_fact (c_X1_fact (hS.2.1.2.2.2.2.2 (cl r) (by omega)) (i := 3) (by decide) rfl) rfl (hS.2.1.2.2.2.2.2 (cl r) (by omega)).1 (hS.2.1.2.2.2.2.2 (cl r) (by omega)).2 rfl ml_X4_75 (rk_of rfl) rfl (Nat.le_of_ble_eq_true rfl) rfl (px_k ?_)
      exact v_iret C hQ dX4_of_85 ⟨by rw [if_neg (fun h => h.elim (by rw [← hL.1]; exact h8) (by decide))]; exact (q7.f (f := 3) (by decide)).trans (ofS_3 d _).symm, (if_neg (fun h => h.elim (by rw [← hL.1]; exact h8) (by decide))).symm⟩
    refine v_case (4) (fun e29_4 => ?_) (fun n29_4 => ?_)
    · refine v_tableIn C 80 dX4_of_29 e29_4 (by decide) (by decide) rfl (by decide) ?_
      subst e29_4
      refine v_aload_n C dX4_of_80 rfl rfl ?_
      refine v_iload_n C dX4_of_81 rfl rfl ?_
      refine v_iV C dX4_of_82 mi_X1_fact (c_X1_fact (hS.2.1.2.2.2.2.2 (cl r) (by omega)) (i := 4) (by decide) rfl) rfl (hS.2.1.2.2.2.2.2 (cl r) (by omega)).1 (hS.2.1.2.2.2.2.2 (cl r) (by omega)).2 rfl ml_X4_75 (rk_of rfl) rfl (Nat.le_of_ble_eq_true rfl) rfl (px_k ?_)
      exact v_iret C hQ dX4_of_85 ⟨by rw [if_neg (fun h => h.elim (by rw [← hL.1]; exact h8) (by decide))]; exact (q7.f (f := 4) (by decide)).trans (ofS_4 d _).symm, (if_neg (fun h => h.elim (by rw [← hL.1]; exact h8) (by decide))).symm⟩
    refine v_case (5) (fun e29_5 => ?_) (fun n29_5 => ?_)
    · refine v_tableIn C 86 dX4_of_29 e29_5 (by decide) (by decide) rfl (by decide) ?_
      subst e29_5
      refine v_aload_n C dX4_of_86 rfl rfl ?_
      refine v_iV C dX4_of_87 mi_X1_seats (c_X1_seats (hS.2.1.2.2.2.2.2 (cl r) (by omega))) rfl (hS.2.1.2.2.2.2.2 (cl r) (by omega)).1 (hS.2.1.2.2.2.2.2 (cl r) (by omega)).2 rfl ml_X4_80 (rk_of rfl) rfl (Nat.le_of_ble_eq_true rfl) rfl (px_k ?_)
      exact v_iret C hQ dX4_of_90 ⟨by rw [if_neg (fun h => h.elim (by rw [← hL.1]; exact h8) (by decide))]; rw [ofS_5, ← q7.1], (if_neg (fun h => h.elim (by rw [← hL.1]; exact h8) (by decide))).symm⟩
    refine v_case (6) (fun e29_6 => ?_) (fun n29_6 => ?_)
    · refine v_tableIn C 91 dX4_of_29 e29_6 (by decide) (by decide) rfl (by decide) ?_
      subst e29_6
      refine v_aload_n C dX4_of_91 rfl rfl ?_
      refine v_aload_n C dX4_of_92 rfl rfl ?_
      refine g_X4_live C hS.1 dX4_of_93 fl_X4_12 rfl ?_
      refine g_X0_settings C hS.2.1.1 dX4_of_96 fl_X4_53 rfl ?_
      refine v_iconst C dX4_of_99 ic_3 rfl ?_
      refine a_I C hS.2.1.2.1 (by decide) dX4_of_100 (3) rfl (by decide) rfl ?_
      refine v_iV C dX4_of_101 mi_X1_gains (c_X1_gains (hS.2.1.2.2.2.2.2 (cl r) (by omega))) rfl (hS.2.1.2.2.2.2.2 (cl r) (by omega)).1 (hS.2.1.2.2.2.2.2 (cl r) (by omega)).2 rfl ml_X4_84 (rk_of rfl) rfl (Nat.le_of_ble_eq_true rfl) rfl (px_k ?_)
      exact v_iret C hQ dX4_of_104 ⟨by rw [if_neg (fun h => h.elim (by rw [← hL.1]; exact h8) (by decide))]; rw [ofS_6, ← q7.1, ← hL.2.2.2.1 3 (by omega)], (if_neg (fun h => h.elim (by rw [← hL.1]; exact h8) (by decide))).symm⟩
    refine v_case (7) (fun e29_7 => ?_) (fun n29_7 => ?_)
    · refine v_tableIn C 105 dX4_of_29 e29_7 (by decide) (by decide) rfl (by decide) ?_
      subst e29_7
      refine v_aload_n C dX4_of_105 rfl rfl ?_
      refine v_iconst C dX4_of_106 ic_0 rfl ?_
      refine v_iV C dX4_of_107 mi_X1_loses (c_X1_loses (hS.2.1.2.2.2.2.2 (cl r) (by omega))) rfl (hS.2.1.2.2.2.2.2 (cl r) (by omega)).1 (hS.2.1.2.2.2.2.2 (cl r) (by omega)).2 rfl ml_X4_87 (rk_of rfl) rfl (Nat.le_of_ble_eq_true rfl) rfl (px_k ?_)
      exact v_iret C hQ dX4_of_110 ⟨by rw [if_neg (fun h => h.elim (by rw [← hL.1]; exact h8) (by decide))]; rw [ofS_7, ← q7.1, ← q7.2.2.2.1], (if_neg (fun h => h.elim (by rw [← hL.1]; exact h8) (by decide))).symm⟩
    refine v_case (8) (fun e29_8 => ?_) (fun n29_8 => ?_)
    · refine v_tableIn C 111 dX4_of_29 e29_8 (by decide) (by decide) rfl (by decide) ?_
      subst e29_8
      refine v_aload_n C dX4_of_111 rfl rfl ?_
      refine v_iV C dX4_of_112 mi_X1_shares (c_X1_shares (hS.2.1.2.2.2.2.2 (cl r) (by omega))) rfl (hS.2.1.2.2.2.2.2 (cl r) (by omega)).1 (hS.2.1.2.2.2.2.2 (cl r) (by omega)).2 rfl ml_X4_90 (rk_of rfl) rfl (Nat.le_of_ble_eq_true rfl) rfl (px_k ?_)
      refine v_if_eq C 122 118 dX4_of_115 (by decide) rfl (fun h115 => ?_) (fun h115 => ?_)
      · refine v_iconst C dX4_of_122 ic_0 rfl ?_
        exact v_iret C hQ dX4_of_123 ⟨by rw [if_neg (fun h => h.elim (by rw [← hL.1]; exact h8) (by decide))]; rw [ofS_8, ← q7.1, ← q7.2.1]; first | exact h115.symm | exact (sh_01.mp h115).symm, (if_neg (fun h => h.elim (by rw [← hL.1]; exact h8) (by decide))).symm⟩
      · refine v_iconst C dX4_of_118 ic_1 rfl ?_
        refine v_goto C 123 dX4_of_119 (by decide) ?_
        exact v_iret C hQ dX4_of_123 ⟨by rw [if_neg (fun h => h.elim (by rw [← hL.1]; exact h8) (by decide))]; rw [ofS_8, ← q7.1, ← q7.2.1]; first | exact h115.symm | exact (sh_01.mp h115).symm, (if_neg (fun h => h.elim (by rw [← hL.1]; exact h8) (by decide))).symm⟩
    refine v_tableOut C 124 dX4_of_29 (by have z0 := lv_neT n29_0 (a := 0) (by decide); have z1 := lv_neT n29_1 (a := 1) (by decide); have z2 := lv_neT n29_2 (a := 2) (by decide); have z3 := lv_neT n29_3 (a := 3) (by decide); have z4 := lv_neT n29_4 (a := 4) (by decide); have z5 := lv_neT n29_5 (a := 5) (by decide); have z6 := lv_neT n29_6 (a := 6) (by decide); have z7 := lv_neT n29_7 (a := 7) (by decide); have z8 := lv_neT n29_8 (a := 8) (by decide); omega) (by decide) ?_
    refine v_aload_n C dX4_of_124 rfl rfl ?_
    refine v_ldc C dX4_of_125 cn_X4_48 rfl ?_
    refine v_iV C dX4_of_127 mi_X4_tell (c_X4_tell hS hX (p := 0) (by decide) (by decide)) rfl hS.1.1 hS.1.2 rfl ml_X4_49 (rk_of rfl) rfl (Nat.le_of_ble_eq_true rfl) rfl (px_k ?_)
    exact v_iret C hQ dX4_of_130 ⟨(if_pos (Or.inr (tab_out8 n29_0 n29_1 n29_2 n29_3 n29_4 n29_5 n29_6 n29_7 n29_8))).symm, (if_pos (Or.inr (tab_out8 n29_0 n29_1 n29_2 n29_3 n29_4 n29_5 n29_6 n29_7 n29_8))).symm⟩
  · refine v_aload_n C dX4_of_11 rfl rfl ?_
    refine v_ldc C dX4_of_12 cn_X4_48 rfl ?_
    refine v_iV C dX4_of_14 mi_X4_tell (c_X4_tell hS hX (p := 0) (by decide) (by decide)) rfl hS.1.1 hS.1.2 rfl ml_X4_49 (rk_of rfl) rfl (Nat.le_of_ble_eq_true rfl) rfl (px_k ?_)
    exact v_iret C hQ dX4_of_17 ⟨(if_pos (Or.inl (by rw [← hL.1]; exact h8))).symm, (if_pos (Or.inl (by rw [← hL.1]; exact h8))).symm⟩

set_option maxRecDepth 100000 in
set_option maxHeartbeats 4000000 in
theorem c_X4_change {l : Launch} {w : WC} {μ : Me} (hS : Sv w) (hX : Nx w) {d : Nat → Int32} (hL : LH μ 1 d) (hI : IvD d) {r t v : Int32} : CtI l w yX4_change cX4_change 6 (some .int) (Rm 3 66) [.ref (w_ad w 0), .int r, .int t, .int v] μ (Px (if wiS r 0 (d 0 - 1) = 0 ∨ ffS (d 0) r t v = 0 then -1000001 else d (13 + 8 * cl t + cl r)) (if wiS r 0 (d 0 - 1) = 0 ∨ ffS (d 0) r t v = 0 then tlS μ 0 else up μ (1 + 3 + 2 + cl r) (cl t) v)) := by
  refine Ct.mk (own := RX4) rfl (by decide) (Nat.le_of_ble_eq_true rfl) (fun x hxl C hQ => ?_)
  subst hxl
  have hn := hI.n.1
  have h0 : μ.1 1 3 = nI (dn d) := hL.1.trans hI.n.2
  refine v_aload_n C dX4_change_0 rfl rfl ?_
  refine g_X4_live C hS.1 dX4_change_1 fl_X4_12 rfl ?_
  refine v_iload_n C dX4_change_4 rfl rfl ?_
  refine v_iV C dX4_change_5 mi_X0_has (c_X0_has hS.2.1 hX) rfl hS.2.1.1.1 hS.2.1.1.2 rfl ml_X4_67 (rk_of rfl) rfl (Nat.le_of_ble_eq_true rfl) rfl (px_k ?_)
  refine v_if_eq C 24 11 dX4_change_8 (by decide) rfl (fun h8 => ?_) (fun h8 => ?_)
  · refine v_aload_n C dX4_change_24 rfl rfl ?_
    refine v_ldc C dX4_change_25 cn_X4_48 rfl ?_
    refine v_iV C dX4_change_27 mi_X4_tell (c_X4_tell hS hX (p := 0) (by decide) (by decide)) rfl hS.1.1 hS.1.2 rfl ml_X4_49 (rk_of rfl) rfl (Nat.le_of_ble_eq_true rfl) rfl (px_k ?_)
    exact v_iret C hQ dX4_change_30 ⟨(if_pos (by rw [← hL.1]; first | exact Or.inl h8 | exact Or.inr h21)).symm, (if_pos (by rw [← hL.1]; first | exact Or.inl h8 | exact Or.inr h21)).symm⟩
  · refine v_aload_n C dX4_change_11 rfl rfl ?_
    refine g_X4_live C hS.1 dX4_change_12 fl_X4_12 rfl ?_
    refine v_iload_n C dX4_change_15 rfl rfl ?_
    refine v_iload_n C dX4_change_16 rfl rfl ?_
    refine v_iload_n C dX4_change_17 rfl rfl ?_
    refine v_iV C dX4_change_18 mi_X0_factFits (c_X0_factFits hS.2.1 hX) rfl hS.2.1.1.1 hS.2.1.1.2 rfl ml_X4_94 (rk_of rfl) rfl (Nat.le_of_ble_eq_true rfl) rfl (px_k ?_)
    refine v_if_ne C 31 24 dX4_change_21 (by decide) rfl (fun h21 => ?_) (fun h21 => ?_)
    · have q := has_i hn h0 h8
      have q2 := ff_i h21
      have q7 := hL.2.2.2.2.2.2 (cl r) q.2
      refine v_aload_n C dX4_change_31 rfl rfl ?_
      refine g_X4_live C hS.1 dX4_change_32 fl_X4_12 rfl ?_
      refine g_X0_residents C hS.2.1.1 dX4_change_35 fl_X4_71 rfl ?_
      refine v_iload_n C dX4_change_38 rfl rfl ?_
      refine a_R C hS.2.1.2.2.2.1 dX4_change_39 (cl r) q.1 (by omega) rfl ?_
      refine v_astore C dX4_change_40 (by decide) rfl ?_
      refine v_aload C dX4_change_42 rfl rfl ?_
      refine v_iload_n C dX4_change_44 rfl rfl ?_
      refine v_iV C dX4_change_45 mi_X1_fact (c_X1_fact (hS.2.1.2.2.2.2.2 (cl r) (by omega)) (i := cl t) (by omega) q2.1) rfl (hS.2.1.2.2.2.2.2 (cl r) (by omega)).1 (hS.2.1.2.2.2.2.2 (cl r) (by omega)).2 rfl ml_X4_75 (rk_of rfl) rfl (Nat.le_of_ble_eq_true rfl) rfl (px_k ?_)
      refine v_istore C dX4_change_48 (by decide) rfl ?_
      refine v_aload C dX4_change_50 rfl rfl ?_
      refine v_iload_n C dX4_change_52 rfl rfl ?_
      refine v_iload_n C dX4_change_53 rfl rfl ?_
      refine v_vV C dX4_change_54 mi_X1_become (c_X1_become (hS.2.1.2.2.2.2.2 (cl r) (by omega)) (i := cl t) (by omega) q2.1) rfl (hS.2.1.2.2.2.2.2 (cl r) (by omega)).1 (hS.2.1.2.2.2.2.2 (cl r) (by omega)).2 rfl ml_X4_97 (rk_of rfl) rfl (Nat.le_of_ble_eq_true rfl) rfl (pv_k ?_)
      refine v_iload C dX4_change_57 rfl rfl ?_
      exact v_iret C hQ dX4_change_59 ⟨by rw [if_neg (by rw [← hL.1]; exact fun h => h.elim h8 h21)]; exact q7.f (by omega), (if_neg (by rw [← hL.1]; exact fun h => h.elim h8 h21)).symm⟩
    · refine v_aload_n C dX4_change_24 rfl rfl ?_
      refine v_ldc C dX4_change_25 cn_X4_48 rfl ?_
      refine v_iV C dX4_change_27 mi_X4_tell (c_X4_tell hS hX (p := 0) (by decide) (by decide)) rfl hS.1.1 hS.1.2 rfl ml_X4_49 (rk_of rfl) rfl (Nat.le_of_ble_eq_true rfl) rfl (px_k ?_)
      exact v_iret C hQ dX4_change_30 ⟨(if_pos (by rw [← hL.1]; first | exact Or.inl h8 | exact Or.inr h21)).symm, (if_pos (by rw [← hL.1]; first | exact Or.inl h8 | exact Or.inr h21)).symm⟩

set_option maxRecDepth 100000 in
set_option maxHeartbeats 4000000 in
theorem c_X4_go {l : Launch} {w : WC} {μ : Me} (hS : Sv w) (hX : Nx w) {d : Nat → Int32} (hL : LH μ 1 d) (hI : IvD d) {n : Int32} : CtI l w yX4_go cX4_go 2 (some .int) (Rm 5 115) [.ref (w_ad w 0), .int n] μ (Px (if wiS n 1 60 = 0 then -1000001 else if d 1 + n ≤ 99999 then smL (fun r => suN (cl n) d (21 + r)) (dn d) else -1000005) (if wiS n 1 60 = 0 then tlS μ 0 else if d 1 + n ≤ 99999 then pnS 1 (dn d) (cl (d 5)) (cl n) μ else tlS μ 4)) := by
  refine Ct.mk (own := RX4) rfl (by decide) (Nat.le_of_ble_eq_true rfl) (fun x hxl C hQ => ?_)
  subst hxl
  have hn := hI.n.1
  have h0 : μ.1 1 3 = nI (dn d) := hL.1.trans hI.n.2
  refine v_iload_n C dX4_go_0 rfl rfl ?_
  refine v_iconst C dX4_go_1 ic_1 rfl ?_
  refine v_bipush C dX4_go_2 bp_60 rfl ?_
  refine v_iS C dX4_go_4 ms_X4_within c_X4_within rfl ml_X4_56 (rk_of rfl) rfl (Nat.le_of_ble_eq_true rfl) rfl (px_k ?_)
  refine v_if_ne C 17 10 dX4_go_7 (by decide) rfl (fun h7 => ?_) (fun h7 => ?_)
  · refine v_aload_n C dX4_go_17 rfl rfl ?_
    refine g_X4_live C hS.1 dX4_go_18 fl_X4_12 rfl ?_
    refine g_X0_sunday C hS.2.1.1 dX4_go_21 fl_X4_101 rfl ?_
    refine v_iload_n C dX4_go_24 rfl rfl ?_
    refine v_iadd C dX4_go_25 rfl ?_
    refine v_ldc C dX4_go_26 cn_X4_105 rfl ?_
    refine v_icmp_le C 38 31 dX4_go_28 (by decide) rfl (fun h28 => ?_) (fun h28 => ?_)
    · have q := wi_j (m := 60) (by omega) h7
      have hP := LH_pn hL hI (cl n)
      have hd := suN_dn hI (cl n)
      refine v_aload_n C dX4_go_38 rfl rfl ?_
      refine g_X4_live C hS.1 dX4_go_39 fl_X4_12 rfl ?_
      refine v_iload_n C dX4_go_42 rfl rfl ?_
      refine v_vV C dX4_go_43 mi_X0_pass (c_X0_pass hS.2.1 hX (hL.iv hI) (t := cl n) (by omega) q.1) rfl hS.2.1.1.1 hS.2.1.1.2 rfl ml_X4_107 (rk_of rfl) rfl (Nat.le_of_ble_eq_true rfl) rfl (pv_k ?_)
      refine v_aload_n C dX4_go_46 rfl rfl ?_
      refine g_X4_live C hS.1 dX4_go_47 fl_X4_12 rfl ?_
      refine v_iV C dX4_go_50 mi_X0_moods (c_X0_moods hS.2.1 hX hn (hP.1.trans ((IvD_n hI _).n.2.trans (by rw [hd])))) rfl hS.2.1.1.1 hS.2.1.1.2 rfl ml_X4_111 (rk_of rfl) rfl (Nat.le_of_ble_eq_true rfl) rfl (px_k ?_)
      exact v_iret C hQ dX4_go_53 ⟨by rw [if_neg h7, if_pos (by rw [← hL.2.1]; exact h28)]; exact smL_congr (fun r hr => (hP.2.2.2.2.2.2 r (by rw [hd]; exact hr)).2.1), by rw [if_neg h7, if_pos (by rw [← hL.2.1]; exact h28)]⟩
    · refine v_aload_n C dX4_go_31 rfl rfl ?_
      refine v_ldc C dX4_go_32 cn_X4_106 rfl ?_
      refine v_iV C dX4_go_34 mi_X4_tell (c_X4_tell hS hX (p := 4) (by decide) (by decide)) rfl hS.1.1 hS.1.2 rfl ml_X4_49 (rk_of rfl) rfl (Nat.le_of_ble_eq_true rfl) rfl (px_k ?_)
      exact v_iret C hQ dX4_go_37 ⟨by rw [if_neg h7, if_neg (by rw [← hL.2.1]; exact h28)], by rw [if_neg h7, if_neg (by rw [← hL.2.1]; exact h28)]⟩
  · refine v_aload_n C dX4_go_10 rfl rfl ?_
    refine v_ldc C dX4_go_11 cn_X4_48 rfl ?_
    refine v_iV C dX4_go_13 mi_X4_tell (c_X4_tell hS hX (p := 0) (by decide) (by decide)) rfl hS.1.1 hS.1.2 rfl ml_X4_49 (rk_of rfl) rfl (Nat.le_of_ble_eq_true rfl) rfl (px_k ?_)
    exact v_iret C hQ dX4_go_16 ⟨(if_pos h7).symm, (if_pos h7).symm⟩

set_option maxRecDepth 100000 in
set_option maxHeartbeats 4000000 in
theorem c_X4_now {l : Launch} {w : WC} {μ : Me} (hS : Sv w) (hX : Nx w) {d : Nat → Int32} (hL : LH μ 1 d) (hI : IvD d) {t : Int32} : CtI l w yX4_now cX4_now 2 (some .int) (Rm 3 68) [.ref (w_ad w 0), .int t] μ (Px (nowS d t) (if t = 3 ∨ t = 4 ∨ t = 5 then deS μ 1 (dn d) (cl (d 5)) else if wiS t 0 7 = 0 then tlS μ 0 else μ)) := by
  refine Ct.mk (own := RX4) rfl (by decide) (Nat.le_of_ble_eq_true rfl) (fun x hxl C hQ => ?_)
  subst hxl
  have hn := hI.n.1
  have h0 : μ.1 1 3 = nI (dn d) := hL.1.trans hI.n.2
  refine v_iload_n C dX4_now_0 rfl rfl ?_
  refine v_case (0) (fun e1_0 => ?_) (fun n1_0 => ?_)
  · refine v_tableIn C 48 dX4_now_1 e1_0 (by decide) (by decide) rfl (by decide) ?_
    subst e1_0
    refine v_aload_n C dX4_now_48 rfl rfl ?_
    refine g_X4_live C hS.1 dX4_now_49 fl_X4_12 rfl ?_
    refine g_X0_sunday C hS.2.1.1 dX4_now_52 fl_X4_101 rfl ?_
    exact v_iret C hQ dX4_now_55 ⟨hL.2.1.trans (nowS_0 d).symm, by rw [if_neg (by decide), if_neg (by decide)]⟩
  refine v_case (1) (fun e1_1 => ?_) (fun n1_1 => ?_)
  · refine v_tableIn C 56 dX4_now_1 e1_1 (by decide) (by decide) rfl (by decide) ?_
    subst e1_1
    refine v_aload_n C dX4_now_56 rfl rfl ?_
    refine g_X4_live C hS.1 dX4_now_57 fl_X4_12 rfl ?_
    refine v_iV C dX4_now_60 mi_X0_moods (c_X0_moods hS.2.1 hX hn h0) rfl hS.2.1.1.1 hS.2.1.1.2 rfl ml_X4_111 (rk_of rfl) rfl (Nat.le_of_ble_eq_true rfl) rfl (px_k ?_)
    exact v_iret C hQ dX4_now_63 ⟨(smL_congr (fun r hr => (hL.2.2.2.2.2.2 r hr).2.1)).trans (nowS_1 d).symm, by rw [if_neg (by decide), if_neg (by decide)]⟩
  refine v_case (2) (fun e1_2 => ?_) (fun n1_2 => ?_)
  · refine v_tableIn C 64 dX4_now_1 e1_2 (by decide) (by decide) rfl (by decide) ?_
    subst e1_2
    refine v_aload_n C dX4_now_64 rfl rfl ?_
    refine g_X4_live C hS.1 dX4_now_65 fl_X4_12 rfl ?_
    refine v_iV C dX4_now_68 mi_X0_wellOnes (c_X0_wellOnes hS.2.1 hX hn h0) rfl hS.2.1.1.1 hS.2.1.1.2 rfl ml_X4_114 (rk_of rfl) rfl (Nat.le_of_ble_eq_true rfl) rfl (px_k ?_)
    exact v_iret C hQ dX4_now_71 ⟨(weL_congr (fun r hr => (hL.2.2.2.2.2.2 r hr).2.1)).trans (nowS_2 d).symm, by rw [if_neg (by decide), if_neg (by decide)]⟩
  refine v_case (3) (fun e1_3 => ?_) (fun n1_3 => ?_)
  · refine v_tableIn C 72 dX4_now_1 e1_3 (by decide) (by decide) rfl (by decide) ?_
    subst e1_3
    refine v_aload_n C dX4_now_72 rfl rfl ?_
    refine g_X4_live C hS.1 dX4_now_73 fl_X4_12 rfl ?_
    refine v_vV C dX4_now_76 mi_X0_decide (c_X0_decide hS.2.1 hX (hL.iv hI)) rfl hS.2.1.1.1 hS.2.1.1.2 rfl ml_X4_117 (rk_of rfl) rfl (Nat.le_of_ble_eq_true rfl) rfl (pv_k ?_)
    refine v_aload_n C dX4_now_79 rfl rfl ?_
    refine g_X4_live C hS.1 dX4_now_80 fl_X4_12 rfl ?_
    refine g_X0_visited C hS.2.1.1 dX4_now_83 fl_X4_120 rfl ?_
    exact v_iret C hQ dX4_now_86 ⟨(by rw [nowS_3]; simp only [deS, up_if]; simp [hL.v hI]), by rw [if_pos (by decide)]⟩
  refine v_case (4) (fun e1_4 => ?_) (fun n1_4 => ?_)
  · refine v_tableIn C 87 dX4_now_1 e1_4 (by decide) (by decide) rfl (by decide) ?_
    subst e1_4
    refine v_aload_n C dX4_now_87 rfl rfl ?_
    refine g_X4_live C hS.1 dX4_now_88 fl_X4_12 rfl ?_
    refine v_vV C dX4_now_91 mi_X0_decide (c_X0_decide hS.2.1 hX (hL.iv hI)) rfl hS.2.1.1.1 hS.2.1.1.2 rfl ml_X4_117 (rk_of rfl) rfl (Nat.le_of_ble_eq_true rfl) rfl (pv_k ?_)
    refine v_aload_n C dX4_now_94 rfl rfl ?_
    refine g_X4_live C hS.1 dX4_now_95 fl_X4_12 rfl ?_
    refine g_X0_sharing C hS.2.1.1 dX4_now_98 fl_X4_123 rfl ?_
    exact v_iret C hQ dX4_now_101 ⟨(by rw [nowS_4]; simp only [deS, up_if]; simp [hL.s hI]), by rw [if_pos (by decide)]⟩
  refine v_case (5) (fun e1_5 => ?_) (fun n1_5 => ?_)
  · refine v_tableIn C 102 dX4_now_1 e1_5 (by decide) (by decide) rfl (by decide) ?_
    subst e1_5
    refine v_aload_n C dX4_now_102 rfl rfl ?_
    refine g_X4_live C hS.1 dX4_now_103 fl_X4_12 rfl ?_
    refine v_vV C dX4_now_106 mi_X0_decide (c_X0_decide hS.2.1 hX (hL.iv hI)) rfl hS.2.1.1.1 hS.2.1.1.2 rfl ml_X4_117 (rk_of rfl) rfl (Nat.le_of_ble_eq_true rfl) rfl (pv_k ?_)
    refine v_aload_n C dX4_now_109 rfl rfl ?_
    refine g_X4_live C hS.1 dX4_now_110 fl_X4_12 rfl ?_
    refine g_X0_helped C hS.2.1.1 dX4_now_113 fl_X4_126 rfl ?_
    exact v_iret C hQ dX4_now_116 ⟨(by rw [nowS_5]; simp only [deS, up_if]; simp [hL.p hI]), by rw [if_pos (by decide)]⟩
  refine v_case (6) (fun e1_6 => ?_) (fun n1_6 => ?_)
  · refine v_tableIn C 117 dX4_now_1 e1_6 (by decide) (by decide) rfl (by decide) ?_
    subst e1_6
    refine v_aload_n C dX4_now_117 rfl rfl ?_
    refine g_X4_live C hS.1 dX4_now_118 fl_X4_12 rfl ?_
    refine v_iconst C dX4_now_121 ic_0 rfl ?_
    refine v_iV C dX4_now_122 mi_X0_longestWaiting (c_X0_longestWaiting hS.2.1 hX hn h0) rfl hS.2.1.1.1 hS.2.1.1.2 rfl ml_X4_129 (rk_of rfl) rfl (Nat.le_of_ble_eq_true rfl) rfl (px_k ?_)
    exact v_iret C hQ dX4_now_125 ⟨(congrArg Prod.fst (lwL_congr (fun r hr => (hL.2.2.2.2.2.2 r hr).2.2.2.1))).trans (nowS_6 d).symm, by rw [if_neg (by decide), if_neg (by decide)]⟩
  refine v_case (7) (fun e1_7 => ?_) (fun n1_7 => ?_)
  · refine v_tableIn C 126 dX4_now_1 e1_7 (by decide) (by decide) rfl (by decide) ?_
    subst e1_7
    refine v_aload_n C dX4_now_126 rfl rfl ?_
    refine g_X4_live C hS.1 dX4_now_127 fl_X4_12 rfl ?_
    refine v_iV C dX4_now_130 mi_X0_visitsHad (c_X0_visitsHad hS.2.1 hX hn h0) rfl hS.2.1.1.1 hS.2.1.1.2 rfl ml_X4_132 (rk_of rfl) rfl (Nat.le_of_ble_eq_true rfl) rfl (px_k ?_)
    exact v_iret C hQ dX4_now_133 ⟨(smL_congr (fun r hr => (hL.2.2.2.2.2.2 r hr).2.2.2.2)).trans (nowS_7 d).symm, by rw [if_neg (by decide), if_neg (by decide)]⟩
  refine v_tableOut C 134 dX4_now_1 (by have z0 := lv_neT n1_0 (a := 0) (by decide); have z1 := lv_neT n1_1 (a := 1) (by decide); have z2 := lv_neT n1_2 (a := 2) (by decide); have z3 := lv_neT n1_3 (a := 3) (by decide); have z4 := lv_neT n1_4 (a := 4) (by decide); have z5 := lv_neT n1_5 (a := 5) (by decide); have z6 := lv_neT n1_6 (a := 6) (by decide); have z7 := lv_neT n1_7 (a := 7) (by decide); omega) (by decide) ?_
  refine v_aload_n C dX4_now_134 rfl rfl ?_
  refine v_ldc C dX4_now_135 cn_X4_48 rfl ?_
  refine v_iV C dX4_now_137 mi_X4_tell (c_X4_tell hS hX (p := 0) (by decide) (by decide)) rfl hS.1.1 hS.1.2 rfl ml_X4_49 (rk_of rfl) rfl (Nat.le_of_ble_eq_true rfl) rfl (px_k ?_)
  exact v_iret C hQ dX4_now_140 ⟨by unfold nowS; rw [if_neg n1_0, if_neg n1_1, if_neg n1_2, if_neg n1_3, if_neg n1_4, if_neg n1_5, if_neg n1_6, if_neg n1_7], by rw [if_neg (fun h => h.elim n1_3 (fun h => h.elim n1_4 n1_5)), if_pos (tab_out7 n1_0 n1_1 n1_2 n1_3 n1_4 n1_5 n1_6 n1_7)]⟩

set_option maxRecDepth 100000 in
set_option maxHeartbeats 4000000 in
theorem c_X4_count {l : Launch} {w : WC} {μ : Me} (hS : Sv w) (hX : Nx w) {d : Nat → Int32} (hL : LH μ 1 d) (hI : IvD d) {t : Int32} : CtI l w yX4_count cX4_count 2 (some .int) (Rm 2 44) [.ref (w_ad w 0), .int t] μ (Px (ctS d (μ.1 40 1) t) (if wiS t 0 7 = 0 then tlS μ 0 else μ)) := by
  refine Ct.mk (own := RX4) rfl (by decide) (Nat.le_of_ble_eq_true rfl) (fun x hxl C hQ => ?_)
  subst hxl
  have hn := hI.n.1
  have h0 : μ.1 1 3 = nI (dn d) := hL.1.trans hI.n.2
  refine v_iload_n C dX4_count_0 rfl rfl ?_
  refine v_case (0) (fun e1_0 => ?_) (fun n1_0 => ?_)
  · refine v_tableIn C 48 dX4_count_1 e1_0 (by decide) (by decide) rfl (by decide) ?_
    subst e1_0
    refine v_aload_n C dX4_count_48 rfl rfl ?_
    refine g_X4_live C hS.1 dX4_count_49 fl_X4_12 rfl ?_
    refine g_X0_sunday C hS.2.1.1 dX4_count_52 fl_X4_101 rfl ?_
    exact v_iret C hQ dX4_count_55 ⟨hL.2.1.trans (ctS_0 d _).symm, by rw [if_neg (by decide)]⟩
  refine v_case (1) (fun e1_1 => ?_) (fun n1_1 => ?_)
  · refine v_tableIn C 56 dX4_count_1 e1_1 (by decide) (by decide) rfl (by decide) ?_
    subst e1_1
    refine v_aload_n C dX4_count_56 rfl rfl ?_
    refine g_X4_live C hS.1 dX4_count_57 fl_X4_12 rfl ?_
    refine g_X0_size C hS.2.1.1 dX4_count_60 fl_X4_147 rfl ?_
    exact v_iret C hQ dX4_count_63 ⟨hL.1.trans (ctS_1 d _).symm, by rw [if_neg (by decide)]⟩
  refine v_case (2) (fun e1_2 => ?_) (fun n1_2 => ?_)
  · refine v_tableIn C 64 dX4_count_1 e1_2 (by decide) (by decide) rfl (by decide) ?_
    subst e1_2
    refine v_aload_n C dX4_count_64 rfl rfl ?_
    refine g_X4_live C hS.1 dX4_count_65 fl_X4_12 rfl ?_
    refine v_iV C dX4_count_68 mi_X0_moods (c_X0_moods hS.2.1 hX hn h0) rfl hS.2.1.1.1 hS.2.1.1.2 rfl ml_X4_111 (rk_of rfl) rfl (Nat.le_of_ble_eq_true rfl) rfl (px_k ?_)
    exact v_iret C hQ dX4_count_71 ⟨(smL_congr (fun r hr => (hL.2.2.2.2.2.2 r hr).2.1)).trans (ctS_2 d _).symm, by rw [if_neg (by decide)]⟩
  refine v_case (3) (fun e1_3 => ?_) (fun n1_3 => ?_)
  · refine v_tableIn C 72 dX4_count_1 e1_3 (by decide) (by decide) rfl (by decide) ?_
    subst e1_3
    refine v_aload_n C dX4_count_72 rfl rfl ?_
    refine g_X4_live C hS.1 dX4_count_73 fl_X4_12 rfl ?_
    refine v_iV C dX4_count_76 mi_X0_visitsHad (c_X0_visitsHad hS.2.1 hX hn h0) rfl hS.2.1.1.1 hS.2.1.1.2 rfl ml_X4_132 (rk_of rfl) rfl (Nat.le_of_ble_eq_true rfl) rfl (px_k ?_)
    exact v_iret C hQ dX4_count_79 ⟨(smL_congr (fun r hr => (hL.2.2.2.2.2.2 r hr).2.2.2.2)).trans (ctS_3 d _).symm, by rw [if_neg (by decide)]⟩
  refine v_case (4) (fun e1_4 => ?_) (fun n1_4 => ?_)
  · refine v_tableIn C 80 dX4_count_1 e1_4 (by decide) (by decide) rfl (by decide) ?_
    subst e1_4
    refine v_aload_n C dX4_count_80 rfl rfl ?_
    refine g_X4_live C hS.1 dX4_count_81 fl_X4_12 rfl ?_
    refine v_iV C dX4_count_84 mi_X0_wellOnes (c_X0_wellOnes hS.2.1 hX hn h0) rfl hS.2.1.1.1 hS.2.1.1.2 rfl ml_X4_114 (rk_of rfl) rfl (Nat.le_of_ble_eq_true rfl) rfl (px_k ?_)
    refine v_iS C dX4_count_87 ms_J6_bitCount_0f7a4 c_J6_bitCount_0f7a4 rfl ml_X4_142 (rk_of rfl) rfl (Nat.le_of_ble_eq_true rfl) rfl (px_k ?_)
    exact v_iret C hQ dX4_count_90 ⟨by rw [ctS_4, we_bc hn, weL_congr (fun r hr => (hL.2.2.2.2.2.2 r hr).2.1)], by rw [if_neg (by decide)]⟩
  refine v_case (5) (fun e1_5 => ?_) (fun n1_5 => ?_)
  · refine v_tableIn C 91 dX4_count_1 e1_5 (by decide) (by decide) rfl (by decide) ?_
    subst e1_5
    refine v_aload_n C dX4_count_91 rfl rfl ?_
    refine g_X4_tape C hS.1 dX4_count_92 fl_X4_29 rfl ?_
    refine g_X3_length C hS.2.2.2.2.1.1 dX4_count_95 fl_X4_207 rfl ?_
    exact v_iret C hQ dX4_count_98 ⟨(ctS_5 d _).symm, by rw [if_neg (by decide)]⟩
  refine v_case (6) (fun e1_6 => ?_) (fun n1_6 => ?_)
  · refine v_tableIn C 99 dX4_count_1 e1_6 (by decide) (by decide) rfl (by decide) ?_
    subst e1_6
    refine v_aload_n C dX4_count_99 rfl rfl ?_
    refine g_X4_live C hS.1 dX4_count_100 fl_X4_12 rfl ?_
    refine g_X0_z C hS.2.1.1 dX4_count_103 fl_X4_204 rfl ?_
    exact v_iret C hQ dX4_count_106 ⟨hL.2.2.1.trans (ctS_6 d _).symm, by rw [if_neg (by decide)]⟩
  refine v_case (7) (fun e1_7 => ?_) (fun n1_7 => ?_)
  · refine v_tableIn C 107 dX4_count_1 e1_7 (by decide) (by decide) rfl (by decide) ?_
    subst e1_7
    refine v_aload_n C dX4_count_107 rfl rfl ?_
    refine g_X4_live C hS.1 dX4_count_108 fl_X4_12 rfl ?_
    refine v_iV C dX4_count_111 mi_X0_heldSpots (c_X0_heldSpots hS.2.1 hX) rfl hS.2.1.1.1 hS.2.1.1.2 rfl ml_X4_264 (rk_of rfl) rfl (Nat.le_of_ble_eq_true rfl) rfl (px_k ?_)
    exact v_iret C hQ dX4_count_114 ⟨(he_ho (fun i hi => ⟨hL.2.2.2.2.2.1 i hi, by have z := hI.2.2.2.2.2.2.2.2 i hi; obtain ⟨y, hy, e⟩ := z; exact ⟨y, by omega, e⟩⟩)).trans (ctS_7 d _).symm, by rw [if_neg (by decide)]⟩
  refine v_tableOut C 115 dX4_count_1 (by have z0 := lv_neT n1_0 (a := 0) (by decide); have z1 := lv_neT n1_1 (a := 1) (by decide); have z2 := lv_neT n1_2 (a := 2) (by decide); have z3 := lv_neT n1_3 (a := 3) (by decide); have z4 := lv_neT n1_4 (a := 4) (by decide); have z5 := lv_neT n1_5 (a := 5) (by decide); have z6 := lv_neT n1_6 (a := 6) (by decide); have z7 := lv_neT n1_7 (a := 7) (by decide); omega) (by decide) ?_
  refine v_aload_n C dX4_count_115 rfl rfl ?_
  refine v_ldc C dX4_count_116 cn_X4_48 rfl ?_
  refine v_iV C dX4_count_118 mi_X4_tell (c_X4_tell hS hX (p := 0) (by decide) (by decide)) rfl hS.1.1 hS.1.2 rfl ml_X4_49 (rk_of rfl) rfl (Nat.le_of_ble_eq_true rfl) rfl (px_k ?_)
  exact v_iret C hQ dX4_count_121 ⟨by unfold ctS; rw [if_neg n1_0, if_neg n1_1, if_neg n1_2, if_neg n1_3, if_neg n1_4, if_neg n1_5, if_neg n1_6, if_neg n1_7], by rw [if_pos (tab_out7 n1_0 n1_1 n1_2 n1_3 n1_4 n1_5 n1_6 n1_7)]⟩
