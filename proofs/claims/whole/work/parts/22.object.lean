set_option maxRecDepth 100000 in
set_option maxHeartbeats 4000000 in
theorem lp_X4_status_32 {w : WC} {x : Cy} {μ : Me} (hS : Sv w) (hX : Nx w) {t : Int32} (h7 : ¬ wiS t (-1) 6 = 0) (h18 : t < 0) (C : Cx w x cX4_status 4 RX4 (some .int) (Rm 2 44)) (hQ : y_Q x = MQ (y_b x) (QI w (Px (if wiS t (-1) 6 = 0 then -1000001 else if t < 0 then smL (fun i => μ.1 51 i) 7 else μ.1 51 (cl t)) (if wiS t (-1) 6 = 0 then tlS μ 0 else μ))) (y_a x) (y_s x) 0 0 (AA w)) : ∀ (m i : Nat) (a : Int32), 7 + 1 ≤ i + m → i ≤ 7 → (a = smL (fun i => μ.1 51 i) i) → V w x 4 μ 32 [(0, .ref (w_ad w 0)), (1, .int t), (2, .int a), (3, .int (nI i))] [] := by
  intro m
  induction m with
  | zero =>
    intro i a hm hi
    exact absurd hm (by omega)
  | succ m ih =>
    intro i a hm hi ha
    refine v_iload_n C dX4_status_32 rfl rfl ?_
    refine v_bipush C dX4_status_33 bp_7 rfl ?_
    refine v_icmp_ge C 53 38 dX4_status_35 (by decide) rfl (fun h35 => ?_) (fun h35 => ?_)
    · have g : i = 7 := by have := (le_n (a := 7) (b := i) (by omega) (by omega)).mp h35; omega
      refine v_iload_n C dX4_status_53 rfl rfl ?_
      exact v_iret C hQ dX4_status_54 ⟨by rw [if_neg h7, if_pos h18, ha, g], by rw [if_neg h7]⟩
    · have g : i < 7 := by rcases Nat.lt_or_ge i (7) with q | q; exact q; exact absurd ((le_n (a := 7) (b := i) (by omega) (by omega)).mpr q) h35
      refine v_iload_n C dX4_status_38 rfl rfl ?_
      refine v_aload_n C dX4_status_39 rfl rfl ?_
      refine g_X4_found C hS.1 dX4_status_40 fl_X4_40 rfl ?_
      refine v_iload_n C dX4_status_43 rfl rfl ?_
      refine a_I C hS.2.2.2.2.2.2.2.1 (by decide) dX4_status_44 (i) rfl (by omega) rfl ?_
      refine v_iadd C dX4_status_45 rfl ?_
      refine v_istore_n C dX4_status_46 (by decide) rfl ?_
      refine v_iincN C dX4_status_47 rfl (by decide) rfl ?_
      refine v_goto C 32 dX4_status_50 (by decide) ?_
      exact V.norm (ih (i + 1) _ (by omega) (by omega) (by rw [ha]; rfl)) rfl
set_option maxRecDepth 100000 in
set_option maxHeartbeats 4000000 in
theorem c_X4_status {l : Launch} {w : WC} {μ : Me} (hS : Sv w) (hX : Nx w) {t : Int32} : CtI l w yX4_status cX4_status 4 (some .int) (Rm 2 44) [.ref (w_ad w 0), .int t] μ (Px (if wiS t (-1) 6 = 0 then -1000001 else if t < 0 then smL (fun i => μ.1 51 i) 7 else μ.1 51 (cl t)) (if wiS t (-1) 6 = 0 then tlS μ 0 else μ)) := by
  refine Ct.mk (own := RX4) rfl (by decide) (Nat.le_of_ble_eq_true rfl) (fun x hxl C hQ => ?_)
  subst hxl
  refine v_iload_n C dX4_status_0 rfl rfl ?_
  refine v_iconst C dX4_status_1 ic_m1 rfl ?_
  refine v_bipush C dX4_status_2 bp_6 rfl ?_
  refine v_iS C dX4_status_4 ms_X4_within c_X4_within rfl ml_X4_56 (rk_of rfl) rfl (Nat.le_of_ble_eq_true rfl) rfl (px_k ?_)
  refine v_if_ne C 17 10 dX4_status_7 (by decide) rfl (fun h7 => ?_) (fun h7 => ?_)
  · refine v_iload_n C dX4_status_17 rfl rfl ?_
    refine v_if_lt C 28 21 dX4_status_18 (by decide) rfl (fun h18 => ?_) (fun h18 => ?_)
    · refine v_iconst C dX4_status_28 ic_0 rfl ?_
      refine v_istore_n C dX4_status_29 (by decide) rfl ?_
      refine v_iconst C dX4_status_30 ic_0 rfl ?_
      refine v_istore_n C dX4_status_31 (by decide) rfl ?_
      exact V.norm (lp_X4_status_32 hS hX h7 h18 C hQ 8 0 _ (by omega) (by omega) rfl) rfl
    · have q := wi_neg h7 h18
      refine v_aload_n C dX4_status_21 rfl rfl ?_
      refine g_X4_found C hS.1 dX4_status_22 fl_X4_40 rfl ?_
      refine v_iload_n C dX4_status_25 rfl rfl ?_
      refine a_I C hS.2.2.2.2.2.2.2.1 (by decide) dX4_status_26 (cl t) q.1 (by omega) rfl ?_
      exact v_iret C hQ dX4_status_27 ⟨by rw [if_neg h7, if_neg h18], by rw [if_neg h7]⟩
  · refine v_aload_n C dX4_status_10 rfl rfl ?_
    refine v_ldc C dX4_status_11 cn_X4_48 rfl ?_
    refine v_iV C dX4_status_13 mi_X4_tell (c_X4_tell hS hX (p := 0) (by decide) (by decide)) rfl hS.1.1 hS.1.2 rfl ml_X4_49 (rk_of rfl) rfl (Nat.le_of_ble_eq_true rfl) rfl (px_k ?_)
    exact v_iret C hQ dX4_status_16 ⟨(if_pos h7).symm, (if_pos h7).symm⟩

set_option maxRecDepth 100000 in
set_option maxHeartbeats 4000000 in
theorem c_X4_hold {l : Launch} {w : WC} {μ : Me} (hS : Sv w) (hX : Nx w) {d : Nat → Int32} (hL : LH μ 1 d) (hI : IvD d) {s r : Int32} : CtI l w yX4_hold cX4_hold 3 (some .int) (Rm 2 44) [.ref (w_ad w 0), .int s, .int r] μ (Px (if wiS s 0 9 = 0 ∨ (¬ r = -1 ∧ wiS r 0 (d 0 - 1) = 0) then -1000001 else 1) (if wiS s 0 9 = 0 ∨ (¬ r = -1 ∧ wiS r 0 (d 0 - 1) = 0) then tlS μ 0 else up μ 5 (cl s) r)) := by
  refine Ct.mk (own := RX4) rfl (by decide) (Nat.le_of_ble_eq_true rfl) (fun x hxl C hQ => ?_)
  subst hxl
  have hn := hI.n.1
  have h0 : μ.1 1 3 = nI (dn d) := hL.1.trans hI.n.2
  refine v_iload_n C dX4_hold_0 rfl rfl ?_
  refine v_iconst C dX4_hold_1 ic_0 rfl ?_
  refine v_bipush C dX4_hold_2 bp_9 rfl ?_
  refine v_iS C dX4_hold_4 ms_X4_within c_X4_within rfl ml_X4_56 (rk_of rfl) rfl (Nat.le_of_ble_eq_true rfl) rfl (px_k ?_)
  refine v_if_eq C 26 10 dX4_hold_7 (by decide) rfl (fun h7 => ?_) (fun h7 => ?_)
  · refine v_aload_n C dX4_hold_26 rfl rfl ?_
    refine v_ldc C dX4_hold_27 cn_X4_48 rfl ?_
    refine v_iV C dX4_hold_29 mi_X4_tell (c_X4_tell hS hX (p := 0) (by decide) (by decide)) rfl hS.1.1 hS.1.2 rfl ml_X4_49 (rk_of rfl) rfl (Nat.le_of_ble_eq_true rfl) rfl (px_k ?_)
    exact v_iret C hQ dX4_hold_32 ⟨(if_pos (by rw [← hL.1]; first | exact Or.inl h7 | exact Or.inr ⟨h12, h23⟩)).symm, (if_pos (by rw [← hL.1]; first | exact Or.inl h7 | exact Or.inr ⟨h12, h23⟩)).symm⟩
  · refine v_iload_n C dX4_hold_10 rfl rfl ?_
    refine v_iconst C dX4_hold_11 ic_m1 rfl ?_
    refine v_icmp_eq C 33 15 dX4_hold_12 (by decide) rfl (fun h12 => ?_) (fun h12 => ?_)
    · have q := wi_i (m := 9) (by omega) h7
      refine v_aload_n C dX4_hold_33 rfl rfl ?_
      refine g_X4_live C hS.1 dX4_hold_34 fl_X4_12 rfl ?_
      refine g_X0_spots C hS.2.1.1 dX4_hold_37 fl_X4_221 rfl ?_
      refine v_iload_n C dX4_hold_40 rfl rfl ?_
      refine v_iload_n C dX4_hold_41 rfl rfl ?_
      refine s_I C hS.2.1.2.2.2.2.1 (by decide) dX4_hold_42 (cl s) q.1 (by omega) rfl ?_
      refine v_iconst C dX4_hold_43 ic_1 rfl ?_
      exact v_iret C hQ dX4_hold_44 ⟨(if_neg (by rw [← hL.1]; exact fun h => h.elim h7 (fun h => by first | exact h.1 h12 | exact h23 h.2))).symm, (if_neg (by rw [← hL.1]; exact fun h => h.elim h7 (fun h => by first | exact h.1 h12 | exact h23 h.2))).symm⟩
    · refine v_aload_n C dX4_hold_15 rfl rfl ?_
      refine g_X4_live C hS.1 dX4_hold_16 fl_X4_12 rfl ?_
      refine v_iload_n C dX4_hold_19 rfl rfl ?_
      refine v_iV C dX4_hold_20 mi_X0_has (c_X0_has hS.2.1 hX) rfl hS.2.1.1.1 hS.2.1.1.2 rfl ml_X4_67 (rk_of rfl) rfl (Nat.le_of_ble_eq_true rfl) rfl (px_k ?_)
      refine v_if_ne C 33 26 dX4_hold_23 (by decide) rfl (fun h23 => ?_) (fun h23 => ?_)
      · have q := wi_i (m := 9) (by omega) h7
        refine v_aload_n C dX4_hold_33 rfl rfl ?_
        refine g_X4_live C hS.1 dX4_hold_34 fl_X4_12 rfl ?_
        refine g_X0_spots C hS.2.1.1 dX4_hold_37 fl_X4_221 rfl ?_
        refine v_iload_n C dX4_hold_40 rfl rfl ?_
        refine v_iload_n C dX4_hold_41 rfl rfl ?_
        refine s_I C hS.2.1.2.2.2.2.1 (by decide) dX4_hold_42 (cl s) q.1 (by omega) rfl ?_
        refine v_iconst C dX4_hold_43 ic_1 rfl ?_
        exact v_iret C hQ dX4_hold_44 ⟨(if_neg (by rw [← hL.1]; exact fun h => h.elim h7 (fun h => by first | exact h.1 h12 | exact h23 h.2))).symm, (if_neg (by rw [← hL.1]; exact fun h => h.elim h7 (fun h => by first | exact h.1 h12 | exact h23 h.2))).symm⟩
      · refine v_aload_n C dX4_hold_26 rfl rfl ?_
        refine v_ldc C dX4_hold_27 cn_X4_48 rfl ?_
        refine v_iV C dX4_hold_29 mi_X4_tell (c_X4_tell hS hX (p := 0) (by decide) (by decide)) rfl hS.1.1 hS.1.2 rfl ml_X4_49 (rk_of rfl) rfl (Nat.le_of_ble_eq_true rfl) rfl (px_k ?_)
        exact v_iret C hQ dX4_hold_32 ⟨(if_pos (by rw [← hL.1]; first | exact Or.inl h7 | exact Or.inr ⟨h12, h23⟩)).symm, (if_pos (by rw [← hL.1]; first | exact Or.inl h7 | exact Or.inr ⟨h12, h23⟩)).symm⟩

set_option maxRecDepth 100000 in
set_option maxHeartbeats 4000000 in
theorem c_X4_as {l : Launch} {w : WC} {μ : Me} (hS : Sv w) (hX : Nx w) {d : Nat → Int32} (hL : LH μ 1 d) (hI : IvD d) {s k : Int32} : CtI l w yX4_as cX4_as 4 (some .int) (Rm 2 44) [.ref (w_ad w 0), .int s, .int k] μ (Px (if wiS s 0 9 = 0 ∨ wiS k 0 6 = 0 then -1000001 else asS d (cl s) k) (if wiS s 0 9 = 0 ∨ wiS k 0 6 = 0 then tlS μ 0 else if d (53 + cl s) = 0 then tlS μ 5 else if undL 7 (d (13 + (cl (d (53 + cl s)) - 1))) k = 0 then tlS μ 2 else μ)) := by
  refine Ct.mk (own := RX4) rfl (by decide) (Nat.le_of_ble_eq_true rfl) (fun x hxl C hQ => ?_)
  subst hxl
  have hn := hI.n.1
  have h0 : μ.1 1 3 = nI (dn d) := hL.1.trans hI.n.2
  refine v_iload_n C dX4_as_0 rfl rfl ?_
  refine v_iconst C dX4_as_1 ic_0 rfl ?_
  refine v_bipush C dX4_as_2 bp_9 rfl ?_
  refine v_iS C dX4_as_4 ms_X4_within c_X4_within rfl ml_X4_56 (rk_of rfl) rfl (Nat.le_of_ble_eq_true rfl) rfl (px_k ?_)
  refine v_if_eq C 20 10 dX4_as_7 (by decide) rfl (fun h7 => ?_) (fun h7 => ?_)
  · refine v_aload_n C dX4_as_20 rfl rfl ?_
    refine v_ldc C dX4_as_21 cn_X4_48 rfl ?_
    refine v_iV C dX4_as_23 mi_X4_tell (c_X4_tell hS hX (p := 0) (by decide) (by decide)) rfl hS.1.1 hS.1.2 rfl ml_X4_49 (rk_of rfl) rfl (Nat.le_of_ble_eq_true rfl) rfl (px_k ?_)
    exact v_iret C hQ dX4_as_26 ⟨(if_pos (by first | exact Or.inl h7 | exact Or.inr h17)).symm, (if_pos (by first | exact Or.inl h7 | exact Or.inr h17)).symm⟩
  · refine v_iload_n C dX4_as_10 rfl rfl ?_
    refine v_iconst C dX4_as_11 ic_0 rfl ?_
    refine v_bipush C dX4_as_12 bp_6 rfl ?_
    refine v_iS C dX4_as_14 ms_X4_within c_X4_within rfl ml_X4_56 (rk_of rfl) rfl (Nat.le_of_ble_eq_true rfl) rfl (px_k ?_)
    refine v_if_ne C 27 20 dX4_as_17 (by decide) rfl (fun h17 => ?_) (fun h17 => ?_)
    · have q := wi_i (m := 9) (by omega) h7
      have z := sp_has hI (s := cl s) (by omega) (hL.2.2.2.2.2.1 (cl s) (by omega))
      refine v_aload_n C dX4_as_27 rfl rfl ?_
      refine g_X4_live C hS.1 dX4_as_28 fl_X4_12 rfl ?_
      refine g_X0_spots C hS.2.1.1 dX4_as_31 fl_X4_221 rfl ?_
      refine v_iload_n C dX4_as_34 rfl rfl ?_
      refine a_I C hS.2.1.2.2.2.2.1 (by decide) dX4_as_35 (cl s) q.1 (by omega) rfl ?_
      refine v_istore_n C dX4_as_36 (by decide) rfl ?_
      refine v_aload_n C dX4_as_37 rfl rfl ?_
      refine g_X4_live C hS.1 dX4_as_38 fl_X4_12 rfl ?_
      refine v_iload_n C dX4_as_41 rfl rfl ?_
      refine v_iV C dX4_as_42 mi_X0_has (c_X0_has hS.2.1 hX) rfl hS.2.1.1.1 hS.2.1.1.2 rfl ml_X4_67 (rk_of rfl) rfl (Nat.le_of_ble_eq_true rfl) rfl (px_k ?_)
      refine v_if_ne C 55 48 dX4_as_45 (by decide) rfl (fun h45 => ?_) (fun h45 => ?_)
      · have h45 := mt z.1.mpr (by rw [← hL.1]; exact h45)
        have z2 := z.2 h45
        have q7 := hL.2.2.2.2.2.2 _ z2.2.1
        refine v_aload_n C dX4_as_55 rfl rfl ?_
        refine g_X4_live C hS.1 dX4_as_56 fl_X4_12 rfl ?_
        refine g_X0_residents C hS.2.1.1 dX4_as_59 fl_X4_71 rfl ?_
        refine v_iload_n C dX4_as_62 rfl rfl ?_
        refine a_R C hS.2.1.2.2.2.1 dX4_as_63 (cl (μ.1 (1 + 4) (cl s))) z2.1 (by omega) rfl ?_
        refine g_X1_kind C (hS.2.1.2.2.2.2.2 (cl (μ.1 (1 + 4) (cl s))) (by omega)) dX4_as_64 fl_X4_225 rfl ?_
        refine v_iload_n C dX4_as_67 rfl rfl ?_
        refine v_iS C dX4_as_68 ms_X4_isUnder c_X4_isUnder rfl ml_X4_228 (rk_of rfl) rfl (Nat.le_of_ble_eq_true rfl) rfl (px_k ?_)
        refine v_if_ne C 81 74 dX4_as_71 (by decide) rfl (fun h71 => ?_) (fun h71 => ?_)
        · refine v_iload_n C dX4_as_81 rfl rfl ?_
          exact v_iret C hQ dX4_as_82 ⟨by rw [if_neg (fun h => h.elim h7 h17)]; unfold asS; rw [if_neg h45, ← z2.2.2.1, ← q7.1, if_neg h71]; exact z2.2.2.2, by rw [if_neg (fun h => h.elim h7 h17), if_neg h45, ← z2.2.2.1, ← q7.1, if_neg h71]⟩
        · refine v_aload_n C dX4_as_74 rfl rfl ?_
          refine v_ldc C dX4_as_75 cn_X4_231 rfl ?_
          refine v_iV C dX4_as_77 mi_X4_tell (c_X4_tell hS hX (p := 2) (by decide) (by decide)) rfl hS.1.1 hS.1.2 rfl ml_X4_49 (rk_of rfl) rfl (Nat.le_of_ble_eq_true rfl) rfl (px_k ?_)
          exact v_iret C hQ dX4_as_80 ⟨by rw [if_neg (fun h => h.elim h7 h17)]; unfold asS; rw [if_neg h45, ← z2.2.2.1, ← q7.1, if_pos h71], by rw [if_neg (fun h => h.elim h7 h17), if_neg h45, ← z2.2.2.1, ← q7.1, if_pos h71]⟩
      · have h45 := z.1.mp (by rw [← hL.1]; exact h45)
        refine v_aload_n C dX4_as_48 rfl rfl ?_
        refine v_ldc C dX4_as_49 cn_X4_224 rfl ?_
        refine v_iV C dX4_as_51 mi_X4_tell (c_X4_tell hS hX (p := 5) (by decide) (by decide)) rfl hS.1.1 hS.1.2 rfl ml_X4_49 (rk_of rfl) rfl (Nat.le_of_ble_eq_true rfl) rfl (px_k ?_)
        exact v_iret C hQ dX4_as_54 ⟨by rw [if_neg (fun h => h.elim h7 h17)]; exact (if_pos h45).symm, by rw [if_neg (fun h => h.elim h7 h17), if_pos h45]⟩
    · refine v_aload_n C dX4_as_20 rfl rfl ?_
      refine v_ldc C dX4_as_21 cn_X4_48 rfl ?_
      refine v_iV C dX4_as_23 mi_X4_tell (c_X4_tell hS hX (p := 0) (by decide) (by decide)) rfl hS.1.1 hS.1.2 rfl ml_X4_49 (rk_of rfl) rfl (Nat.le_of_ble_eq_true rfl) rfl (px_k ?_)
      exact v_iret C hQ dX4_as_26 ⟨(if_pos (by first | exact Or.inl h7 | exact Or.inr h17)).symm, (if_pos (by first | exact Or.inl h7 | exact Or.inr h17)).symm⟩

set_option maxRecDepth 100000 in
set_option maxHeartbeats 4000000 in
theorem c_X4_sheet {l : Launch} {w : WC} {μ : Me} (hS : Sv w) (hX : Nx w) {s b n : Int32} : CtI l w yX4_sheet cX4_sheet 5 (some .int) (Rm 2 45) [.ref (w_ad w 0), .int s, .int b, .int n] μ (Px (if wiS s 0 3 = 0 ∨ ¬ okB b then -1000001 else if n < 0 then -1000007 else if n ≤ 40 then (if b = 0 then 0 else n) else -1000001) (if wiS s 0 3 = 0 ∨ ¬ okB b then tlS μ 0 else if n < 0 then tlS μ 6 else if n ≤ 40 then rnS μ (43 + cl s) b n else tlS μ 0)) := by
  refine Ct.mk (own := RX4) rfl (by decide) (Nat.le_of_ble_eq_true rfl) (fun x hxl C hQ => ?_)
  subst hxl
  refine v_iload_n C dX4_sheet_0 rfl rfl ?_
  refine v_if_eq C 22 4 dX4_sheet_1 (by decide) rfl (fun h1 => ?_) (fun h1 => ?_)
  · refine v_iconst C dX4_sheet_22 ic_1 rfl ?_
    refine v_goto C 27 dX4_sheet_23 (by decide) ?_
    refine v_istore C dX4_sheet_27 (by decide) rfl ?_
    refine v_iload_n C dX4_sheet_29 rfl rfl ?_
    refine v_iconst C dX4_sheet_30 ic_0 rfl ?_
    refine v_iconst C dX4_sheet_31 ic_3 rfl ?_
    refine v_iS C dX4_sheet_32 ms_X4_within c_X4_within rfl ml_X4_56 (rk_of rfl) rfl (Nat.le_of_ble_eq_true rfl) rfl (px_k ?_)
    refine v_if_eq C 43 38 dX4_sheet_35 (by decide) rfl (fun h35 => ?_) (fun h35 => ?_)
    · refine v_aload_n C dX4_sheet_43 rfl rfl ?_
      refine v_ldc C dX4_sheet_44 cn_X4_48 rfl ?_
      refine v_iV C dX4_sheet_46 mi_X4_tell (c_X4_tell hS hX (p := 0) (by decide) (by decide)) rfl hS.1.1 hS.1.2 rfl ml_X4_49 (rk_of rfl) rfl (Nat.le_of_ble_eq_true rfl) rfl (px_k ?_)
      exact v_iret C hQ dX4_sheet_49 ⟨(if_pos (by first | exact Or.inl h35 | exact Or.inr (fun h => h.elim h1 (fun h => h.elim h7 (fun h => h.elim h13 h19))) | exact absurd h40 (by decide))).symm, (if_pos (by first | exact Or.inl h35 | exact Or.inr (fun h => h.elim h1 (fun h => h.elim h7 (fun h => h.elim h13 h19))) | exact absurd h40 (by decide))).symm⟩
    · refine v_iload C dX4_sheet_38 rfl rfl ?_
      refine v_if_ne C 50 43 dX4_sheet_40 (by decide) rfl (fun h40 => ?_) (fun h40 => ?_)
      · refine v_iload_n C dX4_sheet_50 rfl rfl ?_
        refine v_if_ge C 61 54 dX4_sheet_51 (by decide) rfl (fun h51 => ?_) (fun h51 => ?_)
        · refine v_iload_n C dX4_sheet_61 rfl rfl ?_
          refine v_bipush C dX4_sheet_62 bp_40 rfl ?_
          refine v_icmp_le C 74 67 dX4_sheet_64 (by decide) rfl (fun h64 => ?_) (fun h64 => ?_)
          · have q := wi_i (m := 3) (by omega) h35
            refine v_aload_n C dX4_sheet_74 rfl rfl ?_
            refine g_X4_sheets C hS.1 dX4_sheet_75 fl_X4_35 rfl ?_
            refine v_iload_n C dX4_sheet_78 rfl rfl ?_
            refine a_S C hS.2.2.2.2.2.1 dX4_sheet_79 (cl s) q.1 (by omega) rfl ?_
            refine v_iload_n C dX4_sheet_80 rfl rfl ?_
            refine v_iload_n C dX4_sheet_81 rfl rfl ?_
            refine v_vV C dX4_sheet_82 mi_X2_renew (c_X2_renew (hS.2.2.2.2.2.2.1 (cl s) (by omega))) rfl (hS.2.2.2.2.2.2.1 (cl s) (by omega)).1.1 (hS.2.2.2.2.2.2.1 (cl s) (by omega)).1.2 rfl ml_X4_233 (rk_of rfl) rfl (Nat.le_of_ble_eq_true rfl) rfl (pv_k ?_)
            refine v_aload_n C dX4_sheet_85 rfl rfl ?_
            refine g_X4_sheets C hS.1 dX4_sheet_86 fl_X4_35 rfl ?_
            refine v_iload_n C dX4_sheet_89 rfl rfl ?_
            refine a_S C hS.2.2.2.2.2.1 dX4_sheet_90 (cl s) q.1 (by omega) rfl ?_
            refine g_X2_size C (hS.2.2.2.2.2.2.1 (cl s) (by omega)).1 dX4_sheet_91 fl_X4_236 rfl ?_
            exact v_iret C hQ dX4_sheet_94 (by first | exact absurd rfl h40 | exact ⟨by rw [if_neg (fun h => h.elim h35 (fun h => h (by first | exact Or.inl h1 | exact Or.inr (Or.inl h7) | exact Or.inr (Or.inr (Or.inl h13)) | exact Or.inr (Or.inr (Or.inr h19))))), if_neg (Int32.not_lt.mpr h51), if_pos h64]; simp only [rnS]; rw [ua_n _ _ (by omega), up_s], by rw [if_neg (fun h => h.elim h35 (fun h => h (by first | exact Or.inl h1 | exact Or.inr (Or.inl h7) | exact Or.inr (Or.inr (Or.inl h13)) | exact Or.inr (Or.inr (Or.inr h19))))), if_neg (Int32.not_lt.mpr h51), if_pos h64]⟩)
          · refine v_aload_n C dX4_sheet_67 rfl rfl ?_
            refine v_ldc C dX4_sheet_68 cn_X4_48 rfl ?_
            refine v_iV C dX4_sheet_70 mi_X4_tell (c_X4_tell hS hX (p := 0) (by decide) (by decide)) rfl hS.1.1 hS.1.2 rfl ml_X4_49 (rk_of rfl) rfl (Nat.le_of_ble_eq_true rfl) rfl (px_k ?_)
            exact v_iret C hQ dX4_sheet_73 (by first | exact absurd rfl h40 | exact ⟨by rw [if_neg (fun h => h.elim h35 (fun h => h (by first | exact Or.inl h1 | exact Or.inr (Or.inl h7) | exact Or.inr (Or.inr (Or.inl h13)) | exact Or.inr (Or.inr (Or.inr h19))))), if_neg (Int32.not_lt.mpr h51), if_neg h64], by rw [if_neg (fun h => h.elim h35 (fun h => h (by first | exact Or.inl h1 | exact Or.inr (Or.inl h7) | exact Or.inr (Or.inr (Or.inl h13)) | exact Or.inr (Or.inr (Or.inr h19))))), if_neg (Int32.not_lt.mpr h51), if_neg h64]⟩)
        · refine v_aload_n C dX4_sheet_54 rfl rfl ?_
          refine v_ldc C dX4_sheet_55 cn_X4_232 rfl ?_
          refine v_iV C dX4_sheet_57 mi_X4_tell (c_X4_tell hS hX (p := 6) (by decide) (by decide)) rfl hS.1.1 hS.1.2 rfl ml_X4_49 (rk_of rfl) rfl (Nat.le_of_ble_eq_true rfl) rfl (px_k ?_)
          exact v_iret C hQ dX4_sheet_60 (by first | exact absurd rfl h40 | exact ⟨by rw [if_neg (fun h => h.elim h35 (fun h => h (by first | exact Or.inl h1 | exact Or.inr (Or.inl h7) | exact Or.inr (Or.inr (Or.inl h13)) | exact Or.inr (Or.inr (Or.inr h19))))), if_pos (Int32.not_le.mp h51)], by rw [if_neg (fun h => h.elim h35 (fun h => h (by first | exact Or.inl h1 | exact Or.inr (Or.inl h7) | exact Or.inr (Or.inr (Or.inl h13)) | exact Or.inr (Or.inr (Or.inr h19))))), if_pos (Int32.not_le.mp h51)]⟩)
      · refine v_aload_n C dX4_sheet_43 rfl rfl ?_
        refine v_ldc C dX4_sheet_44 cn_X4_48 rfl ?_
        refine v_iV C dX4_sheet_46 mi_X4_tell (c_X4_tell hS hX (p := 0) (by decide) (by decide)) rfl hS.1.1 hS.1.2 rfl ml_X4_49 (rk_of rfl) rfl (Nat.le_of_ble_eq_true rfl) rfl (px_k ?_)
        exact v_iret C hQ dX4_sheet_49 ⟨(if_pos (by first | exact Or.inl h35 | exact Or.inr (fun h => h.elim h1 (fun h => h.elim h7 (fun h => h.elim h13 h19))) | exact absurd h40 (by decide))).symm, (if_pos (by first | exact Or.inl h35 | exact Or.inr (fun h => h.elim h1 (fun h => h.elim h7 (fun h => h.elim h13 h19))) | exact absurd h40 (by decide))).symm⟩
  · refine v_iload_n C dX4_sheet_4 rfl rfl ?_
    refine v_bipush C dX4_sheet_5 bp_8 rfl ?_
    refine v_icmp_eq C 22 10 dX4_sheet_7 (by decide) rfl (fun h7 => ?_) (fun h7 => ?_)
    · refine v_iconst C dX4_sheet_22 ic_1 rfl ?_
      refine v_goto C 27 dX4_sheet_23 (by decide) ?_
      refine v_istore C dX4_sheet_27 (by decide) rfl ?_
      refine v_iload_n C dX4_sheet_29 rfl rfl ?_
      refine v_iconst C dX4_sheet_30 ic_0 rfl ?_
      refine v_iconst C dX4_sheet_31 ic_3 rfl ?_
      refine v_iS C dX4_sheet_32 ms_X4_within c_X4_within rfl ml_X4_56 (rk_of rfl) rfl (Nat.le_of_ble_eq_true rfl) rfl (px_k ?_)
      refine v_if_eq C 43 38 dX4_sheet_35 (by decide) rfl (fun h35 => ?_) (fun h35 => ?_)
      · refine v_aload_n C dX4_sheet_43 rfl rfl ?_
        refine v_ldc C dX4_sheet_44 cn_X4_48 rfl ?_
        refine v_iV C dX4_sheet_46 mi_X4_tell (c_X4_tell hS hX (p := 0) (by decide) (by decide)) rfl hS.1.1 hS.1.2 rfl ml_X4_49 (rk_of rfl) rfl (Nat.le_of_ble_eq_true rfl) rfl (px_k ?_)
        exact v_iret C hQ dX4_sheet_49 ⟨(if_pos (by first | exact Or.inl h35 | exact Or.inr (fun h => h.elim h1 (fun h => h.elim h7 (fun h => h.elim h13 h19))) | exact absurd h40 (by decide))).symm, (if_pos (by first | exact Or.inl h35 | exact Or.inr (fun h => h.elim h1 (fun h => h.elim h7 (fun h => h.elim h13 h19))) | exact absurd h40 (by decide))).symm⟩
      · refine v_iload C dX4_sheet_38 rfl rfl ?_
        refine v_if_ne C 50 43 dX4_sheet_40 (by decide) rfl (fun h40 => ?_) (fun h40 => ?_)
        · refine v_iload_n C dX4_sheet_50 rfl rfl ?_
          refine v_if_ge C 61 54 dX4_sheet_51 (by decide) rfl (fun h51 => ?_) (fun h51 => ?_)
          · refine v_iload_n C dX4_sheet_61 rfl rfl ?_
            refine v_bipush C dX4_sheet_62 bp_40 rfl ?_
            refine v_icmp_le C 74 67 dX4_sheet_64 (by decide) rfl (fun h64 => ?_) (fun h64 => ?_)
            · have q := wi_i (m := 3) (by omega) h35
              refine v_aload_n C dX4_sheet_74 rfl rfl ?_
              refine g_X4_sheets C hS.1 dX4_sheet_75 fl_X4_35 rfl ?_
              refine v_iload_n C dX4_sheet_78 rfl rfl ?_
              refine a_S C hS.2.2.2.2.2.1 dX4_sheet_79 (cl s) q.1 (by omega) rfl ?_
              refine v_iload_n C dX4_sheet_80 rfl rfl ?_
              refine v_iload_n C dX4_sheet_81 rfl rfl ?_
              refine v_vV C dX4_sheet_82 mi_X2_renew (c_X2_renew (hS.2.2.2.2.2.2.1 (cl s) (by omega))) rfl (hS.2.2.2.2.2.2.1 (cl s) (by omega)).1.1 (hS.2.2.2.2.2.2.1 (cl s) (by omega)).1.2 rfl ml_X4_233 (rk_of rfl) rfl (Nat.le_of_ble_eq_true rfl) rfl (pv_k ?_)
              refine v_aload_n C dX4_sheet_85 rfl rfl ?_
              refine g_X4_sheets C hS.1 dX4_sheet_86 fl_X4_35 rfl ?_
              refine v_iload_n C dX4_sheet_89 rfl rfl ?_
              refine a_S C hS.2.2.2.2.2.1 dX4_sheet_90 (cl s) q.1 (by omega) rfl ?_
              refine g_X2_size C (hS.2.2.2.2.2.2.1 (cl s) (by omega)).1 dX4_sheet_91 fl_X4_236 rfl ?_
              exact v_iret C hQ dX4_sheet_94 (by first | exact absurd rfl h40 | exact ⟨by rw [if_neg (fun h => h.elim h35 (fun h => h (by first | exact Or.inl h1 | exact Or.inr (Or.inl h7) | exact Or.inr (Or.inr (Or.inl h13)) | exact Or.inr (Or.inr (Or.inr h19))))), if_neg (Int32.not_lt.mpr h51), if_pos h64]; simp only [rnS]; rw [ua_n _ _ (by omega), up_s], by rw [if_neg (fun h => h.elim h35 (fun h => h (by first | exact Or.inl h1 | exact Or.inr (Or.inl h7) | exact Or.inr (Or.inr (Or.inl h13)) | exact Or.inr (Or.inr (Or.inr h19))))), if_neg (Int32.not_lt.mpr h51), if_pos h64]⟩)
            · refine v_aload_n C dX4_sheet_67 rfl rfl ?_
              refine v_ldc C dX4_sheet_68 cn_X4_48 rfl ?_
              refine v_iV C dX4_sheet_70 mi_X4_tell (c_X4_tell hS hX (p := 0) (by decide) (by decide)) rfl hS.1.1 hS.1.2 rfl ml_X4_49 (rk_of rfl) rfl (Nat.le_of_ble_eq_true rfl) rfl (px_k ?_)
              exact v_iret C hQ dX4_sheet_73 (by first | exact absurd rfl h40 | exact ⟨by rw [if_neg (fun h => h.elim h35 (fun h => h (by first | exact Or.inl h1 | exact Or.inr (Or.inl h7) | exact Or.inr (Or.inr (Or.inl h13)) | exact Or.inr (Or.inr (Or.inr h19))))), if_neg (Int32.not_lt.mpr h51), if_neg h64], by rw [if_neg (fun h => h.elim h35 (fun h => h (by first | exact Or.inl h1 | exact Or.inr (Or.inl h7) | exact Or.inr (Or.inr (Or.inl h13)) | exact Or.inr (Or.inr (Or.inr h19))))), if_neg (Int32.not_lt.mpr h51), if_neg h64]⟩)
          · refine v_aload_n C dX4_sheet_54 rfl rfl ?_
            refine v_ldc C dX4_sheet_55 cn_X4_232 rfl ?_
            refine v_iV C dX4_sheet_57 mi_X4_tell (c_X4_tell hS hX (p := 6) (by decide) (by decide)) rfl hS.1.1 hS.1.2 rfl ml_X4_49 (rk_of rfl) rfl (Nat.le_of_ble_eq_true rfl) rfl (px_k ?_)
            exact v_iret C hQ dX4_sheet_60 (by first | exact absurd rfl h40 | exact ⟨by rw [if_neg (fun h => h.elim h35 (fun h => h (by first | exact Or.inl h1 | exact Or.inr (Or.inl h7) | exact Or.inr (Or.inr (Or.inl h13)) | exact Or.inr (Or.inr (Or.inr h19))))), if_pos (Int32.not_le.mp h51)], by rw [if_neg (fun h => h.elim h35 (fun h => h (by first | exact Or.inl h1 | exact Or.inr (Or.inl h7) | exact Or.inr (Or.inr (Or.inl h13)) | exact Or.inr (Or.inr (Or.inr h19))))), if_pos (Int32.not_le.mp h51)]⟩)
        · refine v_aload_n C dX4_sheet_43 rfl rfl ?_
          refine v_ldc C dX4_sheet_44 cn_X4_48 rfl ?_
          refine v_iV C dX4_sheet_46 mi_X4_tell (c_X4_tell hS hX (p := 0) (by decide) (by decide)) rfl hS.1.1 hS.1.2 rfl ml_X4_49 (rk_of rfl) rfl (Nat.le_of_ble_eq_true rfl) rfl (px_k ?_)
          exact v_iret C hQ dX4_sheet_49 ⟨(if_pos (by first | exact Or.inl h35 | exact Or.inr (fun h => h.elim h1 (fun h => h.elim h7 (fun h => h.elim h13 h19))) | exact absurd h40 (by decide))).symm, (if_pos (by first | exact Or.inl h35 | exact Or.inr (fun h => h.elim h1 (fun h => h.elim h7 (fun h => h.elim h13 h19))) | exact absurd h40 (by decide))).symm⟩
    · refine v_iload_n C dX4_sheet_10 rfl rfl ?_
      refine v_bipush C dX4_sheet_11 bp_16 rfl ?_
      refine v_icmp_eq C 22 16 dX4_sheet_13 (by decide) rfl (fun h13 => ?_) (fun h13 => ?_)
      · refine v_iconst C dX4_sheet_22 ic_1 rfl ?_
        refine v_goto C 27 dX4_sheet_23 (by decide) ?_
        refine v_istore C dX4_sheet_27 (by decide) rfl ?_
        refine v_iload_n C dX4_sheet_29 rfl rfl ?_
        refine v_iconst C dX4_sheet_30 ic_0 rfl ?_
        refine v_iconst C dX4_sheet_31 ic_3 rfl ?_
        refine v_iS C dX4_sheet_32 ms_X4_within c_X4_within rfl ml_X4_56 (rk_of rfl) rfl (Nat.le_of_ble_eq_true rfl) rfl (px_k ?_)
        refine v_if_eq C 43 38 dX4_sheet_35 (by decide) rfl (fun h35 => ?_) (fun h35 => ?_)
        · refine v_aload_n C dX4_sheet_43 rfl rfl ?_
          refine v_ldc C dX4_sheet_44 cn_X4_48 rfl ?_
          refine v_iV C dX4_sheet_46 mi_X4_tell (c_X4_tell hS hX (p := 0) (by decide) (by decide)) rfl hS.1.1 hS.1.2 rfl ml_X4_49 (rk_of rfl) rfl (Nat.le_of_ble_eq_true rfl) rfl (px_k ?_)
          exact v_iret C hQ dX4_sheet_49 ⟨(if_pos (by first | exact Or.inl h35 | exact Or.inr (fun h => h.elim h1 (fun h => h.elim h7 (fun h => h.elim h13 h19))) | exact absurd h40 (by decide))).symm, (if_pos (by first | exact Or.inl h35 | exact Or.inr (fun h => h.elim h1 (fun h => h.elim h7 (fun h => h.elim h13 h19))) | exact absurd h40 (by decide))).symm⟩
        · refine v_iload C dX4_sheet_38 rfl rfl ?_
          refine v_if_ne C 50 43 dX4_sheet_40 (by decide) rfl (fun h40 => ?_) (fun h40 => ?_)
          · refine v_iload_n C dX4_sheet_50 rfl rfl ?_
            refine v_if_ge C 61 54 dX4_sheet_51 (by decide) rfl (fun h51 => ?_) (fun h51 => ?_)
            · refine v_iload_n C dX4_sheet_61 rfl rfl ?_
              refine v_bipush C dX4_sheet_62 bp_40 rfl ?_
              refine v_icmp_le C 74 67 dX4_sheet_64 (by decide) rfl (fun h64 => ?_) (fun h64 => ?_)
              · have q := wi_i (m := 3) (by omega) h35
                refine v_aload_n C dX4_sheet_74 rfl rfl ?_
                refine g_X4_sheets C hS.1 dX4_sheet_75 fl_X4_35 rfl ?_
                refine v_iload_n C dX4_sheet_78 rfl rfl ?_
                refine a_S C hS.2.2.2.2.2.1 dX4_sheet_79 (cl s) q.1 (by omega) rfl ?_
                refine v_iload_n C dX4_sheet_80 rfl rfl ?_
                refine v_iload_n C dX4_sheet_81 rfl rfl ?_
                refine v_vV C dX4_sheet_82 mi_X2_renew (c_X2_renew (hS.2.2.2.2.2.2.1 (cl s) (by omega))) rfl (hS.2.2.2.2.2.2.1 (cl s) (by omega)).1.1 (hS.2.2.2.2.2.2.1 (cl s) (by omega)).1.2 rfl ml_X4_233 (rk_of rfl) rfl (Nat.le_of_ble_eq_true rfl) rfl (pv_k ?_)
                refine v_aload_n C dX4_sheet_85 rfl rfl ?_
                refine g_X4_sheets C hS.1 dX4_sheet_86 fl_X4_35 rfl ?_
                refine v_iload_n C dX4_sheet_89 rfl rfl ?_
                refine a_S C hS.2.2.2.2.2.1 dX4_sheet_90 (cl s) q.1 (by omega) rfl ?_
                refine g_X2_size C (hS.2.2.2.2.2.2.1 (cl s) (by omega)).1 dX4_sheet_91 fl_X4_236 rfl ?_
                exact v_iret C hQ dX4_sheet_94 (by first | exact absurd rfl h40 | exact ⟨by rw [if_neg (fun h => h.elim h35 (fun h => h (by first | exact Or.inl h1 | exact Or.inr (Or.inl h7) | exact Or.inr (Or.inr (Or.inl h13)) | exact Or.inr (Or.inr (Or.inr h19))))), if_neg (Int32.not_lt.mpr h51), if_pos h64]; simp only [rnS]; rw [ua_n _ _ (by omega), up_s], by rw [if_neg (fun h => h.elim h35 (fun h => h (by first | exact Or.inl h1 | exact Or.inr (Or.inl h7) | exact Or.inr (Or.inr (Or.inl h13)) | exact Or.inr (Or.inr (Or.inr h19))))), if_neg (Int32.not_lt.mpr h51), if_pos h64]⟩)
              · refine v_aload_n C dX4_sheet_67 rfl rfl ?_
                refine v_ldc C dX4_sheet_68 cn_X4_48 rfl ?_
                refine v_iV C dX4_sheet_70 mi_X4_tell (c_X4_tell hS hX (p := 0) (by decide) (by decide)) rfl hS.1.1 hS.1.2 rfl ml_X4_49 (rk_of rfl) rfl (Nat.le_of_ble_eq_true rfl) rfl (px_k ?_)
                exact v_iret C hQ dX4_sheet_73 (by first | exact absurd rfl h40 | exact ⟨by rw [if_neg (fun h => h.elim h35 (fun h => h (by first | exact Or.inl h1 | exact Or.inr (Or.inl h7) | exact Or.inr (Or.inr (Or.inl h13)) | exact Or.inr (Or.inr (Or.inr h19))))), if_neg (Int32.not_lt.mpr h51), if_neg h64], by rw [if_neg (fun h => h.elim h35 (fun h => h (by first | exact Or.inl h1 | exact Or.inr (Or.inl h7) | exact Or.inr (Or.inr (Or.inl h13)) | exact Or.inr (Or.inr (Or.inr h19))))), if_neg (Int32.not_lt.mpr h51), if_neg h64]⟩)
            · refine v_aload_n C dX4_sheet_54 rfl rfl ?_
              refine v_ldc C dX4_sheet_55 cn_X4_232 rfl ?_
              refine v_iV C dX4_sheet_57 mi_X4_tell (c_X4_tell hS hX (p := 6) (by decide) (by decide)) rfl hS.1.1 hS.1.2 rfl ml_X4_49 (rk_of rfl) rfl (Nat.le_of_ble_eq_true rfl) rfl (px_k ?_)
              exact v_iret C hQ dX4_sheet_60 (by first | exact absurd rfl h40 | exact ⟨by rw [if_neg (fun h => h.elim h35 (fun h => h (by first | exact Or.inl h1 | exact Or.inr (Or.inl h7) | exact Or.inr (Or.inr (Or.inl h13)) | exact Or.inr (Or.inr (Or.inr h19))))), if_pos (Int32.not_le.mp h51)], by rw [if_neg (fun h => h.elim h35 (fun h => h (by first | exact Or.inl h1 | exact Or.inr (Or.inl h7) | exact Or.inr (Or.inr (Or.inl h13)) | exact Or.inr (Or.inr (Or.inr h19))))), if_pos (Int32.not_le.mp h51)]⟩)
          · refine v_aload_n C dX4_sheet_43 rfl rfl ?_
            refine v_ldc C dX4_sheet_44 cn_X4_48 rfl ?_
            refine v_iV C dX4_sheet_46 mi_X4_tell (c_X4_tell hS hX (p := 0) (by decide) (by decide)) rfl hS.1.1 hS.1.2 rfl ml_X4_49 (rk_of rfl) rfl (Nat.le_of_ble_eq_true rfl) rfl (px_k ?_)
            exact v_iret C hQ dX4_sheet_49 ⟨(if_pos (by first | exact Or.inl h35 | exact Or.inr (fun h => h.elim h1 (fun h => h.elim h7 (fun h => h.elim h13 h19))) | exact absurd h40 (by decide))).symm, (if_pos (by first | exact Or.inl h35 | exact Or.inr (fun h => h.elim h1 (fun h => h.elim h7 (fun h => h.elim h13 h19))) | exact absurd h40 (by decide))).symm⟩
      · refine v_iload_n C dX4_sheet_16 rfl rfl ?_
        refine v_bipush C dX4_sheet_17 bp_32 rfl ?_
        refine v_icmp_ne C 26 22 dX4_sheet_19 (by decide) rfl (fun h19 => ?_) (fun h19 => ?_)
        · refine v_iconst C dX4_sheet_26 ic_0 rfl ?_
          refine v_istore C dX4_sheet_27 (by decide) rfl ?_
          refine v_iload_n C dX4_sheet_29 rfl rfl ?_
          refine v_iconst C dX4_sheet_30 ic_0 rfl ?_
          refine v_iconst C dX4_sheet_31 ic_3 rfl ?_
          refine v_iS C dX4_sheet_32 ms_X4_within c_X4_within rfl ml_X4_56 (rk_of rfl) rfl (Nat.le_of_ble_eq_true rfl) rfl (px_k ?_)
          refine v_if_eq C 43 38 dX4_sheet_35 (by decide) rfl (fun h35 => ?_) (fun h35 => ?_)
          · refine v_aload_n C dX4_sheet_43 rfl rfl ?_
            refine v_ldc C dX4_sheet_44 cn_X4_48 rfl ?_
            refine v_iV C dX4_sheet_46 mi_X4_tell (c_X4_tell hS hX (p := 0) (by decide) (by decide)) rfl hS.1.1 hS.1.2 rfl ml_X4_49 (rk_of rfl) rfl (Nat.le_of_ble_eq_true rfl) rfl (px_k ?_)
            exact v_iret C hQ dX4_sheet_49 ⟨(if_pos (by first | exact Or.inl h35 | exact Or.inr (fun h => h.elim h1 (fun h => h.elim h7 (fun h => h.elim h13 h19))) | exact absurd h40 (by decide))).symm, (if_pos (by first | exact Or.inl h35 | exact Or.inr (fun h => h.elim h1 (fun h => h.elim h7 (fun h => h.elim h13 h19))) | exact absurd h40 (by decide))).symm⟩
          · refine v_iload C dX4_sheet_38 rfl rfl ?_
            refine v_if_ne C 50 43 dX4_sheet_40 (by decide) rfl (fun h40 => ?_) (fun h40 => ?_)
            · refine v_iload_n C dX4_sheet_50 rfl rfl ?_
              refine v_if_ge C 61 54 dX4_sheet_51 (by decide) rfl (fun h51 => ?_) (fun h51 => ?_)
              · refine v_iload_n C dX4_sheet_61 rfl rfl ?_
                refine v_bipush C dX4_sheet_62 bp_40 rfl ?_
                refine v_icmp_le C 74 67 dX4_sheet_64 (by decide) rfl (fun h64 => ?_) (fun h64 => ?_)
                · have q := wi_i (m := 3) (by omega) h35
                  refine v_aload_n C dX4_sheet_74 rfl rfl ?_
                  refine g_X4_sheets C hS.1 dX4_sheet_75 fl_X4_35 rfl ?_
                  refine v_iload_n C dX4_sheet_78 rfl rfl ?_
                  refine a_S C hS.2.2.2.2.2.1 dX4_sheet_79 (cl s) q.1 (by omega) rfl ?_
                  refine v_iload_n C dX4_sheet_80 rfl rfl ?_
                  refine v_iload_n C dX4_sheet_81 rfl rfl ?_
                  refine v_vV C dX4_sheet_82 mi_X2_renew (c_X2_renew (hS.2.2.2.2.2.2.1 (cl s) (by omega))) rfl (hS.2.2.2.2.2.2.1 (cl s) (by omega)).1.1 (hS.2.2.2.2.2.2.1 (cl s) (by omega)).1.2 rfl ml_X4_233 (rk_of rfl) rfl (Nat.le_of_ble_eq_true rfl) rfl (pv_k ?_)
                  refine v_aload_n C dX4_sheet_85 rfl rfl ?_
                  refine g_X4_sheets C hS.1 dX4_sheet_86 fl_X4_35 rfl ?_
                  refine v_iload_n C dX4_sheet_89 rfl rfl ?_
                  refine a_S C hS.2.2.2.2.2.1 dX4_sheet_90 (cl s) q.1 (by omega) rfl ?_
                  refine g_X2_size C (hS.2.2.2.2.2.2.1 (cl s) (by omega)).1 dX4_sheet_91 fl_X4_236 rfl ?_
                  exact v_iret C hQ dX4_sheet_94 (by first | exact absurd rfl h40 | exact ⟨by rw [if_neg (fun h => h.elim h35 (fun h => h (by first | exact Or.inl h1 | exact Or.inr (Or.inl h7) | exact Or.inr (Or.inr (Or.inl h13)) | exact Or.inr (Or.inr (Or.inr h19))))), if_neg (Int32.not_lt.mpr h51), if_pos h64]; simp only [rnS]; rw [ua_n _ _ (by omega), up_s], by rw [if_neg (fun h => h.elim h35 (fun h => h (by first | exact Or.inl h1 | exact Or.inr (Or.inl h7) | exact Or.inr (Or.inr (Or.inl h13)) | exact Or.inr (Or.inr (Or.inr h19))))), if_neg (Int32.not_lt.mpr h51), if_pos h64]⟩)
                · refine v_aload_n C dX4_sheet_67 rfl rfl ?_
                  refine v_ldc C dX4_sheet_68 cn_X4_48 rfl ?_
                  refine v_iV C dX4_sheet_70 mi_X4_tell (c_X4_tell hS hX (p := 0) (by decide) (by decide)) rfl hS.1.1 hS.1.2 rfl ml_X4_49 (rk_of rfl) rfl (Nat.le_of_ble_eq_true rfl) rfl (px_k ?_)
                  exact v_iret C hQ dX4_sheet_73 (by first | exact absurd rfl h40 | exact ⟨by rw [if_neg (fun h => h.elim h35 (fun h => h (by first | exact Or.inl h1 | exact Or.inr (Or.inl h7) | exact Or.inr (Or.inr (Or.inl h13)) | exact Or.inr (Or.inr (Or.inr h19))))), if_neg (Int32.not_lt.mpr h51), if_neg h64], by rw [if_neg (fun h => h.elim h35 (fun h => h (by first | exact Or.inl h1 | exact Or.inr (Or.inl h7) | exact Or.inr (Or.inr (Or.inl h13)) | exact Or.inr (Or.inr (Or.inr h19))))), if_neg (Int32.not_lt.mpr h51), if_neg h64]⟩)
              · refine v_aload_n C dX4_sheet_54 rfl rfl ?_
                refine v_ldc C dX4_sheet_55 cn_X4_232 rfl ?_
                refine v_iV C dX4_sheet_57 mi_X4_tell (c_X4_tell hS hX (p := 6) (by decide) (by decide)) rfl hS.1.1 hS.1.2 rfl ml_X4_49 (rk_of rfl) rfl (Nat.le_of_ble_eq_true rfl) rfl (px_k ?_)
                exact v_iret C hQ dX4_sheet_60 (by first | exact absurd rfl h40 | exact ⟨by rw [if_neg (fun h => h.elim h35 (fun h => h (by first | exact Or.inl h1 | exact Or.inr (Or.inl h7) | exact Or.inr (Or.inr (Or.inl h13)) | exact Or.inr (Or.inr (Or.inr h19))))), if_pos (Int32.not_le.mp h51)], by rw [if_neg (fun h => h.elim h35 (fun h => h (by first | exact Or.inl h1 | exact Or.inr (Or.inl h7) | exact Or.inr (Or.inr (Or.inl h13)) | exact Or.inr (Or.inr (Or.inr h19))))), if_pos (Int32.not_le.mp h51)]⟩)
            · refine v_aload_n C dX4_sheet_43 rfl rfl ?_
              refine v_ldc C dX4_sheet_44 cn_X4_48 rfl ?_
              refine v_iV C dX4_sheet_46 mi_X4_tell (c_X4_tell hS hX (p := 0) (by decide) (by decide)) rfl hS.1.1 hS.1.2 rfl ml_X4_49 (rk_of rfl) rfl (Nat.le_of_ble_eq_true rfl) rfl (px_k ?_)
              exact v_iret C hQ dX4_sheet_49 ⟨(if_pos (by first | exact Or.inl h35 | exact Or.inr (fun h => h.elim h1 (fun h => h.elim h7 (fun h => h.elim h13 h19))) | exact absurd h40 (by decide))).symm, (if_pos (by first | exact Or.inl h35 | exact Or.inr (fun h => h.elim h1 (fun h => h.elim h7 (fun h => h.elim h13 h19))) | exact absurd h40 (by decide))).symm⟩
        · refine v_iconst C dX4_sheet_22 ic_1 rfl ?_
          refine v_goto C 27 dX4_sheet_23 (by decide) ?_
          refine v_istore C dX4_sheet_27 (by decide) rfl ?_
          refine v_iload_n C dX4_sheet_29 rfl rfl ?_
          refine v_iconst C dX4_sheet_30 ic_0 rfl ?_
          refine v_iconst C dX4_sheet_31 ic_3 rfl ?_
          refine v_iS C dX4_sheet_32 ms_X4_within c_X4_within rfl ml_X4_56 (rk_of rfl) rfl (Nat.le_of_ble_eq_true rfl) rfl (px_k ?_)
          refine v_if_eq C 43 38 dX4_sheet_35 (by decide) rfl (fun h35 => ?_) (fun h35 => ?_)
          · refine v_aload_n C dX4_sheet_43 rfl rfl ?_
            refine v_ldc C dX4_sheet_44 cn_X4_48 rfl ?_
            refine v_iV C dX4_sheet_46 mi_X4_tell (c_X4_tell hS hX (p := 0) (by decide) (by decide)) rfl hS.1.1 hS.1.2 rfl ml_X4_49 (rk_of rfl) rfl (Nat.le_of_ble_eq_true rfl) rfl (px_k ?_)
            exact v_iret C hQ dX4_sheet_49 ⟨(if_pos (by first | exact Or.inl h35 | exact Or.inr (fun h => h.elim h1 (fun h => h.elim h7 (fun h => h.elim h13 h19))) | exact absurd h40 (by decide))).symm, (if_pos (by first | exact Or.inl h35 | exact Or.inr (fun h => h.elim h1 (fun h => h.elim h7 (fun h => h.elim h13 h19))) | exact absurd h40 (by decide))).symm⟩
          · refine v_iload C dX4_sheet_38 rfl rfl ?_
            refine v_if_ne C 50 43 dX4_sheet_40 (by decide) rfl (fun h40 => ?_) (fun h40 => ?_)
            · refine v_iload_n C dX4_sheet_50 rfl rfl ?_
              refine v_if_ge C 61 54 dX4_sheet_51 (by decide) rfl (fun h51 => ?_) (fun h51 => ?_)
              · refine v_iload_n C dX4_sheet_61 rfl rfl ?_
                refine v_bipush C dX4_sheet_62 bp_40 rfl ?_
                refine v_icmp_le C 74 67 dX4_sheet_64 (by decide) rfl (fun h64 => ?_) (fun h64 => ?_)
                · have q := wi_i (m := 3) (by omega) h35
                  refine v_aload_n C dX4_sheet_74 rfl rfl ?_
                  refine g_X4_sheets C hS.1 dX4_sheet_75 fl_X4_35 rfl ?_
                  refine v_iload_n C dX4_sheet_78 rfl rfl ?_
                  refine a_S C hS.2.2.2.2.2.1 dX4_sheet_79 (cl s) q.1 (by omega) rfl ?_
                  refine v_iload_n C dX4_sheet_80 rfl rfl ?_
                  refine v_iload_n C dX4_sheet_81 rfl rfl ?_
                  refine v_vV C dX4_sheet_82 mi_X2_renew (c_X2_renew (hS.2.2.2.2.2.2.1 (cl s) (by omega))) rfl (hS.2.2.2.2.2.2.1 (cl s) (by omega)).1.1 (hS.2.2.2.2.2.2.1 (cl s) (by omega)).1.2 rfl ml_X4_233 (rk_of rfl) rfl (Nat.le_of_ble_eq_true rfl) rfl (pv_k ?_)
                  refine v_aload_n C dX4_sheet_85 rfl rfl ?_
                  refine g_X4_sheets C hS.1 dX4_sheet_86 fl_X4_35 rfl ?_
                  refine v_iload_n C dX4_sheet_89 rfl rfl ?_
                  refine a_S C hS.2.2.2.2.2.1 dX4_sheet_90 (cl s) q.1 (by omega) rfl ?_
                  refine g_X2_size C (hS.2.2.2.2.2.2.1 (cl s) (by omega)).1 dX4_sheet_91 fl_X4_236 rfl ?_
                  exact v_iret C hQ dX4_sheet_94 (by first | exact absurd rfl h40 | exact ⟨by rw [if_neg (fun h => h.elim h35 (fun h => h (by first | exact Or.inl h1 | exact Or.inr (Or.inl h7) | exact Or.inr (Or.inr (Or.inl h13)) | exact Or.inr (Or.inr (Or.inr h19))))), if_neg (Int32.not_lt.mpr h51), if_pos h64]; simp only [rnS]; rw [ua_n _ _ (by omega), up_s], by rw [if_neg (fun h => h.elim h35 (fun h => h (by first | exact Or.inl h1 | exact Or.inr (Or.inl h7) | exact Or.inr (Or.inr (Or.inl h13)) | exact Or.inr (Or.inr (Or.inr h19))))), if_neg (Int32.not_lt.mpr h51), if_pos h64]⟩)
                · refine v_aload_n C dX4_sheet_67 rfl rfl ?_
                  refine v_ldc C dX4_sheet_68 cn_X4_48 rfl ?_
                  refine v_iV C dX4_sheet_70 mi_X4_tell (c_X4_tell hS hX (p := 0) (by decide) (by decide)) rfl hS.1.1 hS.1.2 rfl ml_X4_49 (rk_of rfl) rfl (Nat.le_of_ble_eq_true rfl) rfl (px_k ?_)
                  exact v_iret C hQ dX4_sheet_73 (by first | exact absurd rfl h40 | exact ⟨by rw [if_neg (fun h => h.elim h35 (fun h => h (by first | exact Or.inl h1 | exact Or.inr (Or.inl h7) | exact Or.inr (Or.inr (Or.inl h13)) | exact Or.inr (Or.inr (Or.inr h19))))), if_neg (Int32.not_lt.mpr h51), if_neg h64], by rw [if_neg (fun h => h.elim h35 (fun h => h (by first | exact Or.inl h1 | exact Or.inr (Or.inl h7) | exact Or.inr (Or.inr (Or.inl h13)) | exact Or.inr (Or.inr (Or.inr h19))))), if_neg (Int32.not_lt.mpr h51), if_neg h64]⟩)
              · refine v_aload_n C dX4_sheet_54 rfl rfl ?_
                refine v_ldc C dX4_sheet_55 cn_X4_232 rfl ?_
                refine v_iV C dX4_sheet_57 mi_X4_tell (c_X4_tell hS hX (p := 6) (by decide) (by decide)) rfl hS.1.1 hS.1.2 rfl ml_X4_49 (rk_of rfl) rfl (Nat.le_of_ble_eq_true rfl) rfl (px_k ?_)
                exact v_iret C hQ dX4_sheet_60 (by first | exact absurd rfl h40 | exact ⟨by rw [if_neg (fun h => h.elim h35 (fun h => h (by first | exact Or.inl h1 | exact Or.inr (Or.inl h7) | exact Or.inr (Or.inr (Or.inl h13)) | exact Or.inr (Or.inr (Or.inr h19))))), if_pos (Int32.not_le.mp h51)], by rw [if_neg (fun h => h.elim h35 (fun h => h (by first | exact Or.inl h1 | exact Or.inr (Or.inl h7) | exact Or.inr (Or.inr (Or.inl h13)) | exact Or.inr (Or.inr (Or.inr h19))))), if_pos (Int32.not_le.mp h51)]⟩)
            · refine v_aload_n C dX4_sheet_43 rfl rfl ?_
              refine v_ldc C dX4_sheet_44 cn_X4_48 rfl ?_
              refine v_iV C dX4_sheet_46 mi_X4_tell (c_X4_tell hS hX (p := 0) (by decide) (by decide)) rfl hS.1.1 hS.1.2 rfl ml_X4_49 (rk_of rfl) rfl (Nat.le_of_ble_eq_true rfl) rfl (px_k ?_)
              exact v_iret C hQ dX4_sheet_49 ⟨(if_pos (by first | exact Or.inl h35 | exact Or.inr (fun h => h.elim h1 (fun h => h.elim h7 (fun h => h.elim h13 h19))) | exact absurd h40 (by decide))).symm, (if_pos (by first | exact Or.inl h35 | exact Or.inr (fun h => h.elim h1 (fun h => h.elim h7 (fun h => h.elim h13 h19))) | exact absurd h40 (by decide))).symm⟩

set_option maxRecDepth 100000 in
set_option maxHeartbeats 4000000 in
theorem c_X4_write {l : Launch} {w : WC} {μ : Me} (hS : Sv w) (hX : Nx w) (hV : IvS μ) {s i v : Int32} : CtI l w yX4_write cX4_write 5 (some .int) (Rm 2 44) [.ref (w_ad w 0), .int s, .int i, .int v] μ (Px (if lkS μ s = 0 then (if wiS i 0 (μ.1 (43 + cl s) 1 - 1) = 0 then -1000001 else 1) else lkS μ s) (if lkS μ s = 0 then (if wiS i 0 (μ.1 (43 + cl s) 1 - 1) = 0 then tlS μ 0 else up μ (47 + cl s) (cl i) (cutS (μ.1 (43 + cl s) 0) v)) else tlS μ (lkP s))) := by
  refine Ct.mk (own := RX4) rfl (by decide) (Nat.le_of_ble_eq_true rfl) (fun x hxl C hQ => ?_)
  subst hxl
  refine v_aload_n C dX4_write_0 rfl rfl ?_
  refine v_iload_n C dX4_write_1 rfl rfl ?_
  refine v_iV C dX4_write_2 mi_X4_lackOf (c_X4_lackOf hS hX) rfl hS.1.1 hS.1.2 rfl ml_X4_237 (rk_of rfl) rfl (Nat.le_of_ble_eq_true rfl) rfl (px_k ?_)
  refine v_istore C dX4_write_5 (by decide) rfl ?_
  refine v_iload C dX4_write_7 rfl rfl ?_
  refine v_if_eq C 19 12 dX4_write_9 (by decide) rfl (fun h9 => ?_) (fun h9 => ?_)
  · have q := lk_i h9
    have z := ((hV (cl s) (by omega)).2).cl (by omega)
    refine v_iload_n C dX4_write_19 rfl rfl ?_
    refine v_iconst C dX4_write_20 ic_0 rfl ?_
    refine v_aload_n C dX4_write_21 rfl rfl ?_
    refine g_X4_sheets C hS.1 dX4_write_22 fl_X4_35 rfl ?_
    refine v_iload_n C dX4_write_25 rfl rfl ?_
    refine a_S C hS.2.2.2.2.2.1 dX4_write_26 (cl s) q.1 (by omega) rfl ?_
    refine g_X2_size C (hS.2.2.2.2.2.2.1 (cl s) (by omega)).1 dX4_write_27 fl_X4_236 rfl ?_
    refine v_iconst C dX4_write_30 ic_1 rfl ?_
    refine v_isub C dX4_write_31 rfl ?_
    refine v_iS C dX4_write_32 ms_X4_within c_X4_within rfl ml_X4_56 (rk_of rfl) rfl (Nat.le_of_ble_eq_true rfl) rfl (px_k ?_)
    refine v_if_ne C 45 38 dX4_write_35 (by decide) rfl (fun h35 => ?_) (fun h35 => ?_)
    · have q2 := has_j z.1 z.2 h35
      refine v_aload_n C dX4_write_45 rfl rfl ?_
      refine g_X4_sheets C hS.1 dX4_write_46 fl_X4_35 rfl ?_
      refine v_iload_n C dX4_write_49 rfl rfl ?_
      refine a_S C hS.2.2.2.2.2.1 dX4_write_50 (cl s) q.1 (by omega) rfl ?_
      refine g_X2_numbers C (hS.2.2.2.2.2.2.1 (cl s) (by omega)).1 dX4_write_51 fl_X4_240 rfl ?_
      refine v_iload_n C dX4_write_54 rfl rfl ?_
      refine v_aload_n C dX4_write_55 rfl rfl ?_
      refine g_X4_sheets C hS.1 dX4_write_56 fl_X4_35 rfl ?_
      refine v_iload_n C dX4_write_59 rfl rfl ?_
      refine a_S C hS.2.2.2.2.2.1 dX4_write_60 (cl s) q.1 (by omega) rfl ?_
      refine v_iload_n C dX4_write_61 rfl rfl ?_
      refine v_iV C dX4_write_62 mi_X2_cut (c_X2_cut (hS.2.2.2.2.2.2.1 (cl s) (by omega))) rfl (hS.2.2.2.2.2.2.1 (cl s) (by omega)).1.1 (hS.2.2.2.2.2.2.1 (cl s) (by omega)).1.2 rfl ml_X4_243 (rk_of rfl) rfl (Nat.le_of_ble_eq_true rfl) rfl (px_k ?_)
      refine s_I C (hS.2.2.2.2.2.2.1 (cl s) (by omega)).2 (by decide) dX4_write_65 (cl i) q2.1 (by omega) rfl ?_
      refine v_iconst C dX4_write_66 ic_1 rfl ?_
      exact v_iret C hQ dX4_write_67 ⟨by rw [if_pos h9]; exact (if_neg h35).symm, by rw [if_pos h9]; refine Eq.trans ?_ (if_neg h35).symm; show up μ (43 + cl s + 4) (cl i) (cutS (μ.1 (43 + cl s) 0) v) = _; rw [show 43 + cl s + 4 = 47 + cl s by omega]⟩
    · refine v_aload_n C dX4_write_38 rfl rfl ?_
      refine v_ldc C dX4_write_39 cn_X4_48 rfl ?_
      refine v_iV C dX4_write_41 mi_X4_tell (c_X4_tell hS hX (p := 0) (by decide) (by decide)) rfl hS.1.1 hS.1.2 rfl ml_X4_49 (rk_of rfl) rfl (Nat.le_of_ble_eq_true rfl) rfl (px_k ?_)
      exact v_iret C hQ dX4_write_44 ⟨by rw [if_pos h9]; exact (if_pos h35).symm, by rw [if_pos h9]; exact (if_pos h35).symm⟩
  · refine v_aload_n C dX4_write_12 rfl rfl ?_
    refine v_iload C dX4_write_13 rfl rfl ?_
    refine v_iV C dX4_write_15 mi_X4_tell (c_X4_tell hS hX (lkP_lt s) (lk_p h9)) rfl hS.1.1 hS.1.2 rfl ml_X4_49 (rk_of rfl) rfl (Nat.le_of_ble_eq_true rfl) rfl (px_k ?_)
    exact v_iret C hQ dX4_write_18 ⟨(if_neg h9).symm, (if_neg h9).symm⟩

set_option maxRecDepth 100000 in
set_option maxHeartbeats 4000000 in
theorem c_X4_copy {l : Launch} {w : WC} {μ : Me} (hS : Sv w) (hX : Nx w) (hV : IvS μ) {s f t g n : Int32} : CtI l w yX4_copy cX4_copy 8 (some .int) (Rm 2 44) [.ref (w_ad w 0), .int s, .int f, .int t, .int g, .int n] μ (Px (if wiS s 0 3 = 0 ∨ wiS t 0 3 = 0 then -1000001 else if μ.1 (43 + cl s) 0 = 0 ∨ μ.1 (43 + cl t) 0 = 0 then -1000006 else if μ.1 (43 + cl s) 0 = μ.1 (43 + cl t) 0 then (if hrS (μ.1 (43 + cl s) 1) f n = 0 ∨ hrS (μ.1 (43 + cl t) 1) g n = 0 then -1000001 else n) else -1000003) (if wiS s 0 3 = 0 ∨ wiS t 0 3 = 0 then tlS μ 0 else if μ.1 (43 + cl s) 0 = 0 ∨ μ.1 (43 + cl t) 0 = 0 then tlS μ 5 else if μ.1 (43 + cl s) 0 = μ.1 (43 + cl t) 0 then (if hrS (μ.1 (43 + cl s) 1) f n = 0 ∨ hrS (μ.1 (43 + cl t) 1) g n = 0 then tlS μ 0 else ua μ (47 + cl t) (va_cpy (μ.1 (47 + cl s)) (μ.1 (47 + cl t)) (cl f) (cl g) (cl n))) else tlS μ 2)) := by
  refine Ct.mk (own := RX4) rfl (by decide) (Nat.le_of_ble_eq_true rfl) (fun x hxl C hQ => ?_)
  subst hxl
  refine v_iload_n C dX4_copy_0 rfl rfl ?_
  refine v_iconst C dX4_copy_1 ic_0 rfl ?_
  refine v_iconst C dX4_copy_2 ic_3 rfl ?_
  refine v_iS C dX4_copy_3 ms_X4_within c_X4_within rfl ml_X4_56 (rk_of rfl) rfl (Nat.le_of_ble_eq_true rfl) rfl (px_k ?_)
  refine v_if_eq C 18 9 dX4_copy_6 (by decide) rfl (fun h6 => ?_) (fun h6 => ?_)
  · refine v_aload_n C dX4_copy_18 rfl rfl ?_
    refine v_ldc C dX4_copy_19 cn_X4_48 rfl ?_
    refine v_iV C dX4_copy_21 mi_X4_tell (c_X4_tell hS hX (p := 0) (by decide) (by decide)) rfl hS.1.1 hS.1.2 rfl ml_X4_49 (rk_of rfl) rfl (Nat.le_of_ble_eq_true rfl) rfl (px_k ?_)
    exact v_iret C hQ dX4_copy_24 ⟨(if_pos (by first | exact Or.inl h6 | exact Or.inr h15)).symm, (if_pos (by first | exact Or.inl h6 | exact Or.inr h15)).symm⟩
  · refine v_iload_n C dX4_copy_9 rfl rfl ?_
    refine v_iconst C dX4_copy_10 ic_0 rfl ?_
    refine v_iconst C dX4_copy_11 ic_3 rfl ?_
    refine v_iS C dX4_copy_12 ms_X4_within c_X4_within rfl ml_X4_56 (rk_of rfl) rfl (Nat.le_of_ble_eq_true rfl) rfl (px_k ?_)
    refine v_if_ne C 25 18 dX4_copy_15 (by decide) rfl (fun h15 => ?_) (fun h15 => ?_)
    · have q := wi_i (m := 3) (by omega) h6
      have q2 := wi_i (m := 3) (by omega) h15
      have ea : 42 + 1 + cl s = 43 + cl s := by omega
      have eb : 42 + 1 + cl t = 43 + cl t := by omega
      refine v_aload_n C dX4_copy_25 rfl rfl ?_
      refine g_X4_sheets C hS.1 dX4_copy_26 fl_X4_35 rfl ?_
      refine v_iload_n C dX4_copy_29 rfl rfl ?_
      refine a_S C hS.2.2.2.2.2.1 dX4_copy_30 (cl s) q.1 (by omega) rfl ?_
      refine v_astore C dX4_copy_31 (by decide) rfl ?_
      refine v_aload_n C dX4_copy_33 rfl rfl ?_
      refine g_X4_sheets C hS.1 dX4_copy_34 fl_X4_35 rfl ?_
      refine v_iload_n C dX4_copy_37 rfl rfl ?_
      refine a_S C hS.2.2.2.2.2.1 dX4_copy_38 (cl t) q2.1 (by omega) rfl ?_
      refine v_astore C dX4_copy_39 (by decide) rfl ?_
      refine v_aload C dX4_copy_41 rfl rfl ?_
      refine v_iV C dX4_copy_43 mi_X2_isMissing (c_X2_isMissing (hS.2.2.2.2.2.2.1 (cl s) (by omega))) rfl (hS.2.2.2.2.2.2.1 (cl s) (by omega)).1.1 (hS.2.2.2.2.2.2.1 (cl s) (by omega)).1.2 rfl ml_X4_246 (rk_of rfl) rfl (Nat.le_of_ble_eq_true rfl) rfl (px_k ?_)
      refine v_if_ne C 57 49 dX4_copy_46 (by decide) rfl (fun h46 => ?_) (fun h46 => ?_)
      · have m1 : μ.1 (43 + cl s) 0 = 0 := by
          rw [ea] at h46
          by_cases e : μ.1 (43 + cl s) 0 = 0
          · exact e
          · rw [if_neg e] at h46; exact absurd rfl h46
        refine v_aload_n C dX4_copy_57 rfl rfl ?_
        refine v_ldc C dX4_copy_58 cn_X4_224 rfl ?_
        refine v_iV C dX4_copy_60 mi_X4_tell (c_X4_tell hS hX (p := 5) (by decide) (by decide)) rfl hS.1.1 hS.1.2 rfl ml_X4_49 (rk_of rfl) rfl (Nat.le_of_ble_eq_true rfl) rfl (px_k ?_)
        exact v_iret C hQ dX4_copy_63 ⟨by rw [if_neg (fun h => h.elim h6 h15), if_pos (by first | exact Or.inl m1 | exact Or.inr m2)], by rw [if_neg (fun h => h.elim h6 h15), if_pos (by first | exact Or.inl m1 | exact Or.inr m2)]⟩
      · have m1 : ¬ μ.1 (43 + cl s) 0 = 0 := fun e => by rw [← ea] at e; rw [if_pos e] at h46; exact absurd h46 (by decide)
        refine v_aload C dX4_copy_49 rfl rfl ?_
        refine v_iV C dX4_copy_51 mi_X2_isMissing (c_X2_isMissing (hS.2.2.2.2.2.2.1 (cl t) (by omega))) rfl (hS.2.2.2.2.2.2.1 (cl t) (by omega)).1.1 (hS.2.2.2.2.2.2.1 (cl t) (by omega)).1.2 rfl ml_X4_246 (rk_of rfl) rfl (Nat.le_of_ble_eq_true rfl) rfl (px_k ?_)
        refine v_if_eq C 64 57 dX4_copy_54 (by decide) rfl (fun h54 => ?_) (fun h54 => ?_)
        · have m2 : ¬ μ.1 (43 + cl t) 0 = 0 := fun e => by rw [← eb] at e; rw [if_pos e] at h54; exact absurd h54 (by decide)
          refine v_aload C dX4_copy_64 rfl rfl ?_
          refine g_X2_bits C (hS.2.2.2.2.2.2.1 (cl s) (by omega)).1 dX4_copy_66 fl_X4_249 rfl ?_
          refine v_aload C dX4_copy_69 rfl rfl ?_
          refine g_X2_bits C (hS.2.2.2.2.2.2.1 (cl t) (by omega)).1 dX4_copy_71 fl_X4_249 rfl ?_
          refine v_icmp_eq C 84 77 dX4_copy_74 (by decide) rfl (fun h74 => ?_) (fun h74 => ?_)
          · refine v_aload C dX4_copy_84 rfl rfl ?_
            refine v_iload_n C dX4_copy_86 rfl rfl ?_
            refine v_iload C dX4_copy_87 rfl rfl ?_
            refine v_iV C dX4_copy_89 mi_X2_hasRun (c_X2_hasRun (hS.2.2.2.2.2.2.1 (cl s) (by omega))) rfl (hS.2.2.2.2.2.2.1 (cl s) (by omega)).1.1 (hS.2.2.2.2.2.2.1 (cl s) (by omega)).1.2 rfl ml_X4_252 (rk_of rfl) rfl (Nat.le_of_ble_eq_true rfl) rfl (px_k ?_)
            refine v_if_eq C 107 95 dX4_copy_92 (by decide) rfl (fun h92 => ?_) (fun h92 => ?_)
            · refine v_aload_n C dX4_copy_107 rfl rfl ?_
              refine v_ldc C dX4_copy_108 cn_X4_48 rfl ?_
              refine v_iV C dX4_copy_110 mi_X4_tell (c_X4_tell hS hX (p := 0) (by decide) (by decide)) rfl hS.1.1 hS.1.2 rfl ml_X4_49 (rk_of rfl) rfl (Nat.le_of_ble_eq_true rfl) rfl (px_k ?_)
              exact v_iret C hQ dX4_copy_113 ⟨by rw [if_neg (fun h => h.elim h6 h15), if_neg (fun h => h.elim m1 m2), if_pos (by rw [ea, eb] at h74; exact h74), if_pos (by first | exact Or.inl (by rw [ea] at h92; exact h92) | exact Or.inr (by rw [eb] at h104; exact h104))], by rw [if_neg (fun h => h.elim h6 h15), if_neg (fun h => h.elim m1 m2), if_pos (by rw [ea, eb] at h74; exact h74), if_pos (by first | exact Or.inl (by rw [ea] at h92; exact h92) | exact Or.inr (by rw [eb] at h104; exact h104))]⟩
            · refine v_aload C dX4_copy_95 rfl rfl ?_
              refine v_iload C dX4_copy_97 rfl rfl ?_
              refine v_iload C dX4_copy_99 rfl rfl ?_
              refine v_iV C dX4_copy_101 mi_X2_hasRun (c_X2_hasRun (hS.2.2.2.2.2.2.1 (cl t) (by omega))) rfl (hS.2.2.2.2.2.2.1 (cl t) (by omega)).1.1 (hS.2.2.2.2.2.2.1 (cl t) (by omega)).1.2 rfl ml_X4_252 (rk_of rfl) rfl (Nat.le_of_ble_eq_true rfl) rfl (px_k ?_)
              refine v_if_ne C 114 107 dX4_copy_104 (by decide) rfl (fun h104 => ?_) (fun h104 => ?_)
              · have z1 := hr_i (((hV (cl s) (by omega)).2).cl (by omega)).1 (((hV (cl s) (by omega)).2).cl (by omega)).2 (by rw [ea] at h92; exact h92)
                have z2 := hr_i (((hV (cl t) (by omega)).2).cl (by omega)).1 (((hV (cl t) (by omega)).2).cl (by omega)).2 (by rw [eb] at h104; exact h104)
                have zs := (((hV (cl s) (by omega)).2).cl (by omega)).1
                have zt := (((hV (cl t) (by omega)).2).cl (by omega)).1
                refine v_aload C dX4_copy_114 rfl rfl ?_
                refine g_X2_numbers C (hS.2.2.2.2.2.2.1 (cl s) (by omega)).1 dX4_copy_116 fl_X4_240 rfl ?_
                refine v_iload_n C dX4_copy_119 rfl rfl ?_
                refine v_aload C dX4_copy_120 rfl rfl ?_
                refine g_X2_numbers C (hS.2.2.2.2.2.2.1 (cl t) (by omega)).1 dX4_copy_122 fl_X4_240 rfl ?_
                refine v_iload C dX4_copy_125 rfl rfl ?_
                refine v_iload C dX4_copy_127 rfl rfl ?_
                refine v_copy C (cl f) (cl g) (cl n) dX4_copy_129 ml_X4_255 na_arraycopy st_arraycopy in_J10 (hS.2.2.2.2.2.2.1 (cl s) (by omega)).2.1 (hS.2.2.2.2.2.2.1 (cl t) (by omega)).2.1 (hS.2.2.2.2.2.2.1 (cl s) (by omega)).2.2 (hS.2.2.2.2.2.2.1 (cl t) (by omega)).2.2 z1.1 z2.1 z1.2.1 (by omega) (by omega) (by decide) (by decide) (by decide) (Nat.le_of_ble_eq_true rfl) rfl ?_
                refine v_iload C dX4_copy_132 rfl rfl ?_
                exact v_iret C hQ dX4_copy_134 ⟨by rw [if_neg (fun h => h.elim h6 h15), if_neg (fun h => h.elim m1 m2), if_pos (by rw [ea, eb] at h74; exact h74), if_neg (by rw [ea] at h92; rw [eb] at h104; exact fun h => h.elim h92 h104)], by rw [if_neg (fun h => h.elim h6 h15), if_neg (fun h => h.elim m1 m2), if_pos (by rw [ea, eb] at h74; exact h74), if_neg (by rw [ea] at h92; rw [eb] at h104; exact fun h => h.elim h92 h104)]; rw [show 42 + 1 + cl t + 4 = 47 + cl t by omega, show 42 + 1 + cl s + 4 = 47 + cl s by omega]⟩
              · refine v_aload_n C dX4_copy_107 rfl rfl ?_
                refine v_ldc C dX4_copy_108 cn_X4_48 rfl ?_
                refine v_iV C dX4_copy_110 mi_X4_tell (c_X4_tell hS hX (p := 0) (by decide) (by decide)) rfl hS.1.1 hS.1.2 rfl ml_X4_49 (rk_of rfl) rfl (Nat.le_of_ble_eq_true rfl) rfl (px_k ?_)
                exact v_iret C hQ dX4_copy_113 ⟨by rw [if_neg (fun h => h.elim h6 h15), if_neg (fun h => h.elim m1 m2), if_pos (by rw [ea, eb] at h74; exact h74), if_pos (by first | exact Or.inl (by rw [ea] at h92; exact h92) | exact Or.inr (by rw [eb] at h104; exact h104))], by rw [if_neg (fun h => h.elim h6 h15), if_neg (fun h => h.elim m1 m2), if_pos (by rw [ea, eb] at h74; exact h74), if_pos (by first | exact Or.inl (by rw [ea] at h92; exact h92) | exact Or.inr (by rw [eb] at h104; exact h104))]⟩
          · refine v_aload_n C dX4_copy_77 rfl rfl ?_
            refine v_ldc C dX4_copy_78 cn_X4_231 rfl ?_
            refine v_iV C dX4_copy_80 mi_X4_tell (c_X4_tell hS hX (p := 2) (by decide) (by decide)) rfl hS.1.1 hS.1.2 rfl ml_X4_49 (rk_of rfl) rfl (Nat.le_of_ble_eq_true rfl) rfl (px_k ?_)
            exact v_iret C hQ dX4_copy_83 ⟨by rw [if_neg (fun h => h.elim h6 h15), if_neg (fun h => h.elim m1 m2), if_neg (by rw [ea, eb] at h74; exact h74)], by rw [if_neg (fun h => h.elim h6 h15), if_neg (fun h => h.elim m1 m2), if_neg (by rw [ea, eb] at h74; exact h74)]⟩
        · have m2 : μ.1 (43 + cl t) 0 = 0 := by
            rw [eb] at h54
            by_cases e : μ.1 (43 + cl t) 0 = 0
            · exact e
            · rw [if_neg e] at h54; exact absurd rfl h54
          refine v_aload_n C dX4_copy_57 rfl rfl ?_
          refine v_ldc C dX4_copy_58 cn_X4_224 rfl ?_
          refine v_iV C dX4_copy_60 mi_X4_tell (c_X4_tell hS hX (p := 5) (by decide) (by decide)) rfl hS.1.1 hS.1.2 rfl ml_X4_49 (rk_of rfl) rfl (Nat.le_of_ble_eq_true rfl) rfl (px_k ?_)
          exact v_iret C hQ dX4_copy_63 ⟨by rw [if_neg (fun h => h.elim h6 h15), if_pos (by first | exact Or.inl m1 | exact Or.inr m2)], by rw [if_neg (fun h => h.elim h6 h15), if_pos (by first | exact Or.inl m1 | exact Or.inr m2)]⟩
    · refine v_aload_n C dX4_copy_18 rfl rfl ?_
      refine v_ldc C dX4_copy_19 cn_X4_48 rfl ?_
      refine v_iV C dX4_copy_21 mi_X4_tell (c_X4_tell hS hX (p := 0) (by decide) (by decide)) rfl hS.1.1 hS.1.2 rfl ml_X4_49 (rk_of rfl) rfl (Nat.le_of_ble_eq_true rfl) rfl (px_k ?_)
      exact v_iret C hQ dX4_copy_24 ⟨(if_pos (by first | exact Or.inl h6 | exact Or.inr h15)).symm, (if_pos (by first | exact Or.inl h6 | exact Or.inr h15)).symm⟩
