set_option maxRecDepth 100000 in
set_option maxHeartbeats 4000000 in
theorem lp_X4_chairsFor_33 {w : WC} {x : Cy} {μ : Me} (hS : Sv w) (hX : Nx w) {d : Nat → Int32} (hL : LH μ 1 d) (hI : IvD d) {v n : Int32} (nc : ¬ (wiS v 0 9999 = 0 ∨ wiS n 0 40 = 0)) (hq : n = nI (cl n) ∧ cl n ≤ 40) (C : Cx w x cX4_chairsFor 4 RX4 (some .int) (Rm 6 138)) (hQ : y_Q x = MQ (y_b x) (QI w (Pt (if wiS v 0 9999 = 0 ∨ wiS n 0 40 = 0 then -1000001 else (if fsN (fun i => if v ≤ smL (fun r => suN (cl n) (upd d 3 (nI i)) (45 + r)) (dn d) then (1 : Int32) else 0) 21 0 ≤ 20 then nI (fsN (fun i => if v ≤ smL (fun r => suN (cl n) (upd d 3 (nI i)) (45 + r)) (dn d) then (1 : Int32) else 0) 21 0) else -1000004)) (if wiS v 0 9999 = 0 ∨ wiS n 0 40 = 0 then tlS μ 0 else (if fsN (fun i => if v ≤ smL (fun r => suN (cl n) (upd d 3 (nI i)) (45 + r)) (dn d) then (1 : Int32) else 0) 21 0 ≤ 20 then μ else tlS μ 3)))) (y_a x) (y_s x) 0 0 (AA w)) : ∀ (m i : Nat) (uu : Me), 21 + 1 ≤ i + m → i ≤ 21 → (Tr μ uu) → (fsN (fun i => if v ≤ smL (fun r => suN (cl n) (upd d 3 (nI i)) (45 + r)) (dn d) then (1 : Int32) else 0) 21 0 = fsN (fun i => if v ≤ smL (fun r => suN (cl n) (upd d 3 (nI i)) (45 + r)) (dn d) then (1 : Int32) else 0) (21 - i) i) → V w x 4 uu 33 [(0, .ref (w_ad w 0)), (1, .int v), (2, .int n), (3, .int (nI i))] [] := by
  intro m
  induction m with
  | zero =>
    intro i uu hm hi
    exact absurd hm (by omega)
  | succ m ih =>
    intro i uu hm hi ht hE
    have hn := hI.n.1
    have hl := hL.tr ht hI
    refine v_iload_n C dX4_chairsFor_33 rfl rfl ?_
    refine v_iconst C dX4_chairsFor_34 ic_0 rfl ?_
    refine v_iS C dX4_chairsFor_35 ms_X4_mostSetting c_X4_mostSetting rfl ml_X4_157 (rk_of rfl) rfl (Nat.le_of_ble_eq_true rfl) rfl (px_k ?_)
    refine v_eqi (show mostS 0 = 20 by decide) ?_
    refine v_icmp_gt C 67 41 dX4_chairsFor_38 (by decide) rfl (fun h38 => ?_) (fun h38 => ?_)
    · have g : i = 21 := by have := (lt_n (a := 20) (b := i) (by omega) (by omega)).mp h38; omega
      subst g
      refine v_aload_n C dX4_chairsFor_67 rfl rfl ?_
      refine v_ldc C dX4_chairsFor_68 cn_X4_153 rfl ?_
      refine v_iV C dX4_chairsFor_70 mi_X4_tell (c_X4_tell hS hX (p := 3) (by decide) (by decide)) rfl hS.1.1 hS.1.2 rfl ml_X4_49 (rk_of rfl) rfl (Nat.le_of_ble_eq_true rfl) rfl (px_k ?_)
      exact v_iret C hQ dX4_chairsFor_73 ⟨by rw [if_neg nc, if_neg (show ¬ fsN (fun i => if v ≤ smL (fun r => suN (cl n) (upd d 3 (nI i)) (45 + r)) (dn d) then (1 : Int32) else 0) 21 0 ≤ 20 by rw [hE]; show ¬ 21 ≤ 20; omega)], by rw [if_neg nc, if_neg (show ¬ fsN (fun i => if v ≤ smL (fun r => suN (cl n) (upd d 3 (nI i)) (45 + r)) (dn d) then (1 : Int32) else 0) 21 0 ≤ 20 by rw [hE]; show ¬ 21 ≤ 20; omega)]; exact ht.tl 3⟩
    · have g : i ≤ 20 := by rcases Nat.lt_or_ge 20 i with q | q; exact absurd ((lt_n (a := 20) (b := i) (by omega) (by omega)).mpr q) h38; exact q
      rw [show 21 - i = (20 - i) + 1 by omega] at hE
      have hI2 : IvD (upd d (3 + 0) (nI i)) := IvD_upd hI (by omega) (by omega) (fun _ => ⟨i, by omega, rfl⟩) (by omega) (by omega) (by omega) (by omega) (by omega) (by omega) (by omega) (by omega) (by omega)
      have hfit : ¬ fitS 0 (nI i) = 0 := fit_y (s := 0) (by omega) (show wiS (nI i) 0 20 = 1 from wiS_1.mpr ⟨nI_pos' (by omega), nI_le (b := 20) (by omega) (by omega)⟩)
      refine v_aload_n C dX4_chairsFor_41 rfl rfl ?_
      refine v_iconst C dX4_chairsFor_42 ic_0 rfl ?_
      refine v_iload_n C dX4_chairsFor_43 rfl rfl ?_
      refine v_iload_n C dX4_chairsFor_44 rfl rfl ?_
      refine v_vV C dX4_chairsFor_45 mi_X4_tryWith (c_X4_tryWith hS hX hl hI (s := 0) (by omega) rfl hfit hI2 (t := cl n) (by omega) hq.1) rfl hS.1.1 hS.1.2 rfl ml_X4_160 (rk_of rfl) rfl (Nat.le_of_ble_eq_true rfl) rfl (fun u45 hu45 => ?_)
      obtain ⟨hu1, hu2⟩ := hu45
      have ed := dn_upd (d := d) (a := 3) (v := nI i) (by decide)
      have hz := LH.n0 hI2 hu2
      rw [ed] at hz
      have hw : smL (fun r => u45.1 (14 + 3 + 2 + r) 4) (dn d) = smL (fun r => suN (cl n) (upd d 3 (nI i)) (45 + r)) (dn d) := smL_congr (fun r hr => (LH.r hI2 hu2 (by rw [ed]; exact hr)).2.2.2.2)
      refine v_aload_n C dX4_chairsFor_48 rfl rfl ?_
      refine g_X4_trial C hS.1 dX4_chairsFor_49 fl_X4_16 rfl ?_
      refine v_iV C dX4_chairsFor_52 mi_X0_visitsHad (c_X0_visitsHad hS.2.2.1 hX hn hz) rfl hS.2.2.1.1.1 hS.2.2.1.1.2 rfl ml_X4_132 (rk_of rfl) rfl (Nat.le_of_ble_eq_true rfl) rfl (px_k ?_)
      rw [hw]
      refine v_iload_n C dX4_chairsFor_55 rfl rfl ?_
      refine v_icmp_lt C 61 59 dX4_chairsFor_56 (by decide) rfl (fun h56 => ?_) (fun h56 => ?_)
      · refine v_iincN C dX4_chairsFor_61 rfl (by decide) rfl ?_
        refine v_goto C 33 dX4_chairsFor_64 (by decide) ?_
        exact V.norm (ih (i + 1) _ (by omega) (by omega) (ht.trans hu1) (by rw [hE, fsN_n (show (fun i => if v ≤ smL (fun r => suN (cl n) (upd d 3 (nI i)) (45 + r)) (dn d) then (1 : Int32) else 0) i = 0 by exact if_neg (Int32.not_le.mpr h56)), show 21 - (i + 1) = 20 - i by omega])) rfl
      · refine v_iload_n C dX4_chairsFor_59 rfl rfl ?_
        exact v_iret C hQ dX4_chairsFor_60 ⟨by rw [if_neg nc, hE, fsN_y (show ¬ (fun i => if v ≤ smL (fun r => suN (cl n) (upd d 3 (nI i)) (45 + r)) (dn d) then (1 : Int32) else 0) i = 0 by show ¬ (if _ then _ else _) = _; rw [if_pos (Int32.not_lt.mp h56)]; decide), if_pos g], by rw [if_neg nc, hE, fsN_y (show ¬ (fun i => if v ≤ smL (fun r => suN (cl n) (upd d 3 (nI i)) (45 + r)) (dn d) then (1 : Int32) else 0) i = 0 by show ¬ (if _ then _ else _) = _; rw [if_pos (Int32.not_lt.mp h56)]; decide), if_pos g]; exact ht.trans hu1⟩
set_option maxRecDepth 100000 in
set_option maxHeartbeats 4000000 in
theorem c_X4_chairsFor {l : Launch} {w : WC} {μ : Me} (hS : Sv w) (hX : Nx w) {d : Nat → Int32} (hL : LH μ 1 d) (hI : IvD d) {v n : Int32} : CtI l w yX4_chairsFor cX4_chairsFor 4 (some .int) (Rm 6 138) [.ref (w_ad w 0), .int v, .int n] μ (Pt (if wiS v 0 9999 = 0 ∨ wiS n 0 40 = 0 then -1000001 else (if fsN (fun i => if v ≤ smL (fun r => suN (cl n) (upd d 3 (nI i)) (45 + r)) (dn d) then (1 : Int32) else 0) 21 0 ≤ 20 then nI (fsN (fun i => if v ≤ smL (fun r => suN (cl n) (upd d 3 (nI i)) (45 + r)) (dn d) then (1 : Int32) else 0) 21 0) else -1000004)) (if wiS v 0 9999 = 0 ∨ wiS n 0 40 = 0 then tlS μ 0 else (if fsN (fun i => if v ≤ smL (fun r => suN (cl n) (upd d 3 (nI i)) (45 + r)) (dn d) then (1 : Int32) else 0) 21 0 ≤ 20 then μ else tlS μ 3))) := by
  refine Ct.mk (own := RX4) rfl (by decide) (Nat.le_of_ble_eq_true rfl) (fun x hxl C hQ => ?_)
  subst hxl
  refine v_iload_n C dX4_chairsFor_0 rfl rfl ?_
  refine v_iconst C dX4_chairsFor_1 ic_0 rfl ?_
  refine v_sipush C dX4_chairsFor_2 sp_9999 rfl ?_
  refine v_iS C dX4_chairsFor_5 ms_X4_within c_X4_within rfl ml_X4_56 (rk_of rfl) rfl (Nat.le_of_ble_eq_true rfl) rfl (px_k ?_)
  refine v_if_eq C 21 11 dX4_chairsFor_8 (by decide) rfl (fun h8 => ?_) (fun h8 => ?_)
  · refine v_aload_n C dX4_chairsFor_21 rfl rfl ?_
    refine v_ldc C dX4_chairsFor_22 cn_X4_48 rfl ?_
    refine v_iV C dX4_chairsFor_24 mi_X4_tell (c_X4_tell hS hX (p := 0) (by decide) (by decide)) rfl hS.1.1 hS.1.2 rfl ml_X4_49 (rk_of rfl) rfl (Nat.le_of_ble_eq_true rfl) rfl (px_k ?_)
    exact v_iret C hQ dX4_chairsFor_27 ⟨(if_pos (by first | exact Or.inl h8 | exact Or.inr h18)).symm, by rw [if_pos (by first | exact Or.inl h8 | exact Or.inr h18)]; exact Tr.rf _⟩
  · refine v_iload_n C dX4_chairsFor_11 rfl rfl ?_
    refine v_iconst C dX4_chairsFor_12 ic_0 rfl ?_
    refine v_bipush C dX4_chairsFor_13 bp_40 rfl ?_
    refine v_iS C dX4_chairsFor_15 ms_X4_within c_X4_within rfl ml_X4_56 (rk_of rfl) rfl (Nat.le_of_ble_eq_true rfl) rfl (px_k ?_)
    refine v_if_ne C 28 21 dX4_chairsFor_18 (by decide) rfl (fun h18 => ?_) (fun h18 => ?_)
    · have q := wi_i (m := 40) (by omega) h18
      refine v_iconst C dX4_chairsFor_28 ic_0 rfl ?_
      refine v_iS C dX4_chairsFor_29 ms_X4_leastSetting c_X4_leastSetting rfl ml_X4_154 (rk_of rfl) rfl (Nat.le_of_ble_eq_true rfl) rfl (px_k ?_)
      refine v_eqi (show leastS 0 = 0 by decide) ?_
      refine v_istore_n C dX4_chairsFor_32 (by decide) rfl ?_
      exact V.norm (lp_X4_chairsFor_33 hS hX hL hI (fun h => h.elim h8 h18) q C hQ 22 0 _ (by omega) (by omega) (Tr.rf μ) rfl) rfl
    · refine v_aload_n C dX4_chairsFor_21 rfl rfl ?_
      refine v_ldc C dX4_chairsFor_22 cn_X4_48 rfl ?_
      refine v_iV C dX4_chairsFor_24 mi_X4_tell (c_X4_tell hS hX (p := 0) (by decide) (by decide)) rfl hS.1.1 hS.1.2 rfl ml_X4_49 (rk_of rfl) rfl (Nat.le_of_ble_eq_true rfl) rfl (px_k ?_)
      exact v_iret C hQ dX4_chairsFor_27 ⟨(if_pos (by first | exact Or.inl h8 | exact Or.inr h18)).symm, by rw [if_pos (by first | exact Or.inl h8 | exact Or.inr h18)]; exact Tr.rf _⟩

set_option maxRecDepth 100000 in
set_option maxHeartbeats 4000000 in
theorem lp_X4_volunteersFor_32 {w : WC} {x : Cy} {μ : Me} (hS : Sv w) (hX : Nx w) {d : Nat → Int32} (hL : LH μ 1 d) (hI : IvD d) {v n : Int32} (nc : ¬ (wiS v 0 99 = 0 ∨ wiS n 0 40 = 0)) (hq : n = nI (cl n) ∧ cl n ≤ 40) (C : Cx w x cX4_volunteersFor 4 RX4 (some .int) (Rm 6 138)) (hQ : y_Q x = MQ (y_b x) (QI w (Pt (if wiS v 0 99 = 0 ∨ wiS n 0 40 = 0 then -1000001 else (if fsN (fun i => if v ≤ loL (fun r => suN (cl n) (upd d 5 (nI i)) (21 + r)) (dn d) then (1 : Int32) else 0) 9 0 ≤ 8 then nI (fsN (fun i => if v ≤ loL (fun r => suN (cl n) (upd d 5 (nI i)) (21 + r)) (dn d) then (1 : Int32) else 0) 9 0) else -1000004)) (if wiS v 0 99 = 0 ∨ wiS n 0 40 = 0 then tlS μ 0 else (if fsN (fun i => if v ≤ loL (fun r => suN (cl n) (upd d 5 (nI i)) (21 + r)) (dn d) then (1 : Int32) else 0) 9 0 ≤ 8 then μ else tlS μ 3)))) (y_a x) (y_s x) 0 0 (AA w)) : ∀ (m i : Nat) (uu : Me), 9 + 1 ≤ i + m → i ≤ 9 → (Tr μ uu) → (fsN (fun i => if v ≤ loL (fun r => suN (cl n) (upd d 5 (nI i)) (21 + r)) (dn d) then (1 : Int32) else 0) 9 0 = fsN (fun i => if v ≤ loL (fun r => suN (cl n) (upd d 5 (nI i)) (21 + r)) (dn d) then (1 : Int32) else 0) (9 - i) i) → V w x 4 uu 32 [(0, .ref (w_ad w 0)), (1, .int v), (2, .int n), (3, .int (nI i))] [] := by
  intro m
  induction m with
  | zero =>
    intro i uu hm hi
    exact absurd hm (by omega)
  | succ m ih =>
    intro i uu hm hi ht hE
    have hn := hI.n.1
    have hl := hL.tr ht hI
    refine v_iload_n C dX4_volunteersFor_32 rfl rfl ?_
    refine v_iconst C dX4_volunteersFor_33 ic_2 rfl ?_
    refine v_iS C dX4_volunteersFor_34 ms_X4_mostSetting c_X4_mostSetting rfl ml_X4_157 (rk_of rfl) rfl (Nat.le_of_ble_eq_true rfl) rfl (px_k ?_)
    refine v_eqi (show mostS 2 = 8 by decide) ?_
    refine v_icmp_gt C 66 40 dX4_volunteersFor_37 (by decide) rfl (fun h37 => ?_) (fun h37 => ?_)
    · have g : i = 9 := by have := (lt_n (a := 8) (b := i) (by omega) (by omega)).mp h37; omega
      subst g
      refine v_aload_n C dX4_volunteersFor_66 rfl rfl ?_
      refine v_ldc C dX4_volunteersFor_67 cn_X4_153 rfl ?_
      refine v_iV C dX4_volunteersFor_69 mi_X4_tell (c_X4_tell hS hX (p := 3) (by decide) (by decide)) rfl hS.1.1 hS.1.2 rfl ml_X4_49 (rk_of rfl) rfl (Nat.le_of_ble_eq_true rfl) rfl (px_k ?_)
      exact v_iret C hQ dX4_volunteersFor_72 ⟨by rw [if_neg nc, if_neg (show ¬ fsN (fun i => if v ≤ loL (fun r => suN (cl n) (upd d 5 (nI i)) (21 + r)) (dn d) then (1 : Int32) else 0) 9 0 ≤ 8 by rw [hE]; show ¬ 9 ≤ 8; omega)], by rw [if_neg nc, if_neg (show ¬ fsN (fun i => if v ≤ loL (fun r => suN (cl n) (upd d 5 (nI i)) (21 + r)) (dn d) then (1 : Int32) else 0) 9 0 ≤ 8 by rw [hE]; show ¬ 9 ≤ 8; omega)]; exact ht.tl 3⟩
    · have g : i ≤ 8 := by rcases Nat.lt_or_ge 8 i with q | q; exact absurd ((lt_n (a := 8) (b := i) (by omega) (by omega)).mpr q) h37; exact q
      rw [show 9 - i = (8 - i) + 1 by omega] at hE
      have hI2 : IvD (upd d (3 + 2) (nI i)) := IvD_upd hI (by omega) (by omega) (by omega) (by omega) (fun _ => ⟨i, by omega, rfl⟩) (by omega) (by omega) (by omega) (by omega) (by omega) (by omega) (by omega)
      have hfit : ¬ fitS 2 (nI i) = 0 := fit_y (s := 2) (by omega) (show wiS (nI i) 0 8 = 1 from wiS_1.mpr ⟨nI_pos' (by omega), nI_le (b := 8) (by omega) (by omega)⟩)
      refine v_aload_n C dX4_volunteersFor_40 rfl rfl ?_
      refine v_iconst C dX4_volunteersFor_41 ic_2 rfl ?_
      refine v_iload_n C dX4_volunteersFor_42 rfl rfl ?_
      refine v_iload_n C dX4_volunteersFor_43 rfl rfl ?_
      refine v_vV C dX4_volunteersFor_44 mi_X4_tryWith (c_X4_tryWith hS hX hl hI (s := 2) (by omega) rfl hfit hI2 (t := cl n) (by omega) hq.1) rfl hS.1.1 hS.1.2 rfl ml_X4_160 (rk_of rfl) rfl (Nat.le_of_ble_eq_true rfl) rfl (fun u44 hu44 => ?_)
      obtain ⟨hu1, hu2⟩ := hu44
      have ed := dn_upd (d := d) (a := 5) (v := nI i) (by decide)
      have hz := LH.n0 hI2 hu2
      rw [ed] at hz
      have hw : loL (fun r => u44.1 (14 + 3 + 2 + r) 1) (dn d) = loL (fun r => suN (cl n) (upd d 5 (nI i)) (21 + r)) (dn d) := loL_congr (fun r hr => (LH.r hI2 hu2 (by rw [ed]; exact hr)).2.1)
      refine v_aload_n C dX4_volunteersFor_47 rfl rfl ?_
      refine g_X4_trial C hS.1 dX4_volunteersFor_48 fl_X4_16 rfl ?_
      refine v_iV C dX4_volunteersFor_51 mi_X0_lowestMood (c_X0_lowestMood hS.2.2.1 hX hn hz) rfl hS.2.2.1.1.1 hS.2.2.1.1.2 rfl ml_X4_164 (rk_of rfl) rfl (Nat.le_of_ble_eq_true rfl) rfl (px_k ?_)
      rw [hw]
      refine v_iload_n C dX4_volunteersFor_54 rfl rfl ?_
      refine v_icmp_lt C 60 58 dX4_volunteersFor_55 (by decide) rfl (fun h55 => ?_) (fun h55 => ?_)
      · refine v_iincN C dX4_volunteersFor_60 rfl (by decide) rfl ?_
        refine v_goto C 32 dX4_volunteersFor_63 (by decide) ?_
        exact V.norm (ih (i + 1) _ (by omega) (by omega) (ht.trans hu1) (by rw [hE, fsN_n (show (fun i => if v ≤ loL (fun r => suN (cl n) (upd d 5 (nI i)) (21 + r)) (dn d) then (1 : Int32) else 0) i = 0 by exact if_neg (Int32.not_le.mpr h55)), show 9 - (i + 1) = 8 - i by omega])) rfl
      · refine v_iload_n C dX4_volunteersFor_58 rfl rfl ?_
        exact v_iret C hQ dX4_volunteersFor_59 ⟨by rw [if_neg nc, hE, fsN_y (show ¬ (fun i => if v ≤ loL (fun r => suN (cl n) (upd d 5 (nI i)) (21 + r)) (dn d) then (1 : Int32) else 0) i = 0 by show ¬ (if _ then _ else _) = _; rw [if_pos (Int32.not_lt.mp h55)]; decide), if_pos g], by rw [if_neg nc, hE, fsN_y (show ¬ (fun i => if v ≤ loL (fun r => suN (cl n) (upd d 5 (nI i)) (21 + r)) (dn d) then (1 : Int32) else 0) i = 0 by show ¬ (if _ then _ else _) = _; rw [if_pos (Int32.not_lt.mp h55)]; decide), if_pos g]; exact ht.trans hu1⟩
set_option maxRecDepth 100000 in
set_option maxHeartbeats 4000000 in
theorem c_X4_volunteersFor {l : Launch} {w : WC} {μ : Me} (hS : Sv w) (hX : Nx w) {d : Nat → Int32} (hL : LH μ 1 d) (hI : IvD d) {v n : Int32} : CtI l w yX4_volunteersFor cX4_volunteersFor 4 (some .int) (Rm 6 138) [.ref (w_ad w 0), .int v, .int n] μ (Pt (if wiS v 0 99 = 0 ∨ wiS n 0 40 = 0 then -1000001 else (if fsN (fun i => if v ≤ loL (fun r => suN (cl n) (upd d 5 (nI i)) (21 + r)) (dn d) then (1 : Int32) else 0) 9 0 ≤ 8 then nI (fsN (fun i => if v ≤ loL (fun r => suN (cl n) (upd d 5 (nI i)) (21 + r)) (dn d) then (1 : Int32) else 0) 9 0) else -1000004)) (if wiS v 0 99 = 0 ∨ wiS n 0 40 = 0 then tlS μ 0 else (if fsN (fun i => if v ≤ loL (fun r => suN (cl n) (upd d 5 (nI i)) (21 + r)) (dn d) then (1 : Int32) else 0) 9 0 ≤ 8 then μ else tlS μ 3))) := by
  refine Ct.mk (own := RX4) rfl (by decide) (Nat.le_of_ble_eq_true rfl) (fun x hxl C hQ => ?_)
  subst hxl
  refine v_iload_n C dX4_volunteersFor_0 rfl rfl ?_
  refine v_iconst C dX4_volunteersFor_1 ic_0 rfl ?_
  refine v_bipush C dX4_volunteersFor_2 bp_99 rfl ?_
  refine v_iS C dX4_volunteersFor_4 ms_X4_within c_X4_within rfl ml_X4_56 (rk_of rfl) rfl (Nat.le_of_ble_eq_true rfl) rfl (px_k ?_)
  refine v_if_eq C 20 10 dX4_volunteersFor_7 (by decide) rfl (fun h7 => ?_) (fun h7 => ?_)
  · refine v_aload_n C dX4_volunteersFor_20 rfl rfl ?_
    refine v_ldc C dX4_volunteersFor_21 cn_X4_48 rfl ?_
    refine v_iV C dX4_volunteersFor_23 mi_X4_tell (c_X4_tell hS hX (p := 0) (by decide) (by decide)) rfl hS.1.1 hS.1.2 rfl ml_X4_49 (rk_of rfl) rfl (Nat.le_of_ble_eq_true rfl) rfl (px_k ?_)
    exact v_iret C hQ dX4_volunteersFor_26 ⟨(if_pos (by first | exact Or.inl h7 | exact Or.inr h17)).symm, by rw [if_pos (by first | exact Or.inl h7 | exact Or.inr h17)]; exact Tr.rf _⟩
  · refine v_iload_n C dX4_volunteersFor_10 rfl rfl ?_
    refine v_iconst C dX4_volunteersFor_11 ic_0 rfl ?_
    refine v_bipush C dX4_volunteersFor_12 bp_40 rfl ?_
    refine v_iS C dX4_volunteersFor_14 ms_X4_within c_X4_within rfl ml_X4_56 (rk_of rfl) rfl (Nat.le_of_ble_eq_true rfl) rfl (px_k ?_)
    refine v_if_ne C 27 20 dX4_volunteersFor_17 (by decide) rfl (fun h17 => ?_) (fun h17 => ?_)
    · have q := wi_i (m := 40) (by omega) h17
      refine v_iconst C dX4_volunteersFor_27 ic_2 rfl ?_
      refine v_iS C dX4_volunteersFor_28 ms_X4_leastSetting c_X4_leastSetting rfl ml_X4_154 (rk_of rfl) rfl (Nat.le_of_ble_eq_true rfl) rfl (px_k ?_)
      refine v_eqi (show leastS 2 = 0 by decide) ?_
      refine v_istore_n C dX4_volunteersFor_31 (by decide) rfl ?_
      exact V.norm (lp_X4_volunteersFor_32 hS hX hL hI (fun h => h.elim h7 h17) q C hQ 10 0 _ (by omega) (by omega) (Tr.rf μ) rfl) rfl
    · refine v_aload_n C dX4_volunteersFor_20 rfl rfl ?_
      refine v_ldc C dX4_volunteersFor_21 cn_X4_48 rfl ?_
      refine v_iV C dX4_volunteersFor_23 mi_X4_tell (c_X4_tell hS hX (p := 0) (by decide) (by decide)) rfl hS.1.1 hS.1.2 rfl ml_X4_49 (rk_of rfl) rfl (Nat.le_of_ble_eq_true rfl) rfl (px_k ?_)
      exact v_iret C hQ dX4_volunteersFor_26 ⟨(if_pos (by first | exact Or.inl h7 | exact Or.inr h17)).symm, by rw [if_pos (by first | exact Or.inl h7 | exact Or.inr h17)]; exact Tr.rf _⟩

set_option maxRecDepth 100000 in
set_option maxHeartbeats 4000000 in
theorem c_X4_friendOfChoice {l : Launch} {w : WC} {μ : Me} (hS : Sv w) (hX : Nx w) {c r : Int32} : CtI l w yX4_friendOfChoice cX4_friendOfChoice 4 (some .int) (Rm 0 0) [.ref (w_ad w 0), .int c, .int r] μ (Px (foS (μ.1 1 3) c r) μ) := by
  refine Ct.mk (own := RX4) rfl (by decide) (Nat.le_of_ble_eq_true rfl) (fun x hxl C hQ => ?_)
  subst hxl
  refine v_iload_n C dX4_friendOfChoice_0 rfl rfl ?_
  refine v_iload_n C dX4_friendOfChoice_1 rfl rfl ?_
  refine v_icmp_ge C 9 5 dX4_friendOfChoice_2 (by decide) rfl (fun h2 => ?_) (fun h2 => ?_)
  · refine v_iload_n C dX4_friendOfChoice_9 rfl rfl ?_
    refine v_iconst C dX4_friendOfChoice_10 ic_1 rfl ?_
    refine v_iadd C dX4_friendOfChoice_11 rfl ?_
    refine v_istore_n C dX4_friendOfChoice_12 (by decide) rfl ?_
    refine v_iload_n C dX4_friendOfChoice_13 rfl rfl ?_
    refine v_aload_n C dX4_friendOfChoice_14 rfl rfl ?_
    refine g_X4_live C hS.1 dX4_friendOfChoice_15 fl_X4_12 rfl ?_
    refine g_X0_size C hS.2.1.1 dX4_friendOfChoice_18 fl_X4_147 rfl ?_
    refine v_icmp_ge C 28 24 dX4_friendOfChoice_21 (by decide) rfl (fun h21 => ?_) (fun h21 => ?_)
    · refine v_iconst C dX4_friendOfChoice_28 ic_m1 rfl ?_
      exact v_iret C hQ dX4_friendOfChoice_29 ⟨by unfold foS; first | (rw [if_pos h2, if_pos (Int32.not_le.mp h21)]; done) | (rw [if_pos h2, if_neg (Int32.not_lt.mpr h21)]; done) | (rw [if_neg h2, if_pos (Int32.not_le.mp h21)]; done) | (rw [if_neg h2, if_neg (Int32.not_lt.mpr h21)]; done), rfl⟩
    · refine v_iload_n C dX4_friendOfChoice_24 rfl rfl ?_
      refine v_goto C 29 dX4_friendOfChoice_25 (by decide) ?_
      exact v_iret C hQ dX4_friendOfChoice_29 ⟨by unfold foS; first | (rw [if_pos h2, if_pos (Int32.not_le.mp h21)]; done) | (rw [if_pos h2, if_neg (Int32.not_lt.mpr h21)]; done) | (rw [if_neg h2, if_pos (Int32.not_le.mp h21)]; done) | (rw [if_neg h2, if_neg (Int32.not_lt.mpr h21)]; done), rfl⟩
  · refine v_iload_n C dX4_friendOfChoice_5 rfl rfl ?_
    refine v_goto C 12 dX4_friendOfChoice_6 (by decide) ?_
    refine v_istore_n C dX4_friendOfChoice_12 (by decide) rfl ?_
    refine v_iload_n C dX4_friendOfChoice_13 rfl rfl ?_
    refine v_aload_n C dX4_friendOfChoice_14 rfl rfl ?_
    refine g_X4_live C hS.1 dX4_friendOfChoice_15 fl_X4_12 rfl ?_
    refine g_X0_size C hS.2.1.1 dX4_friendOfChoice_18 fl_X4_147 rfl ?_
    refine v_icmp_ge C 28 24 dX4_friendOfChoice_21 (by decide) rfl (fun h21 => ?_) (fun h21 => ?_)
    · refine v_iconst C dX4_friendOfChoice_28 ic_m1 rfl ?_
      exact v_iret C hQ dX4_friendOfChoice_29 ⟨by unfold foS; first | (rw [if_pos h2, if_pos (Int32.not_le.mp h21)]; done) | (rw [if_pos h2, if_neg (Int32.not_lt.mpr h21)]; done) | (rw [if_neg h2, if_pos (Int32.not_le.mp h21)]; done) | (rw [if_neg h2, if_neg (Int32.not_lt.mpr h21)]; done), rfl⟩
    · refine v_iload_n C dX4_friendOfChoice_24 rfl rfl ?_
      refine v_goto C 29 dX4_friendOfChoice_25 (by decide) ?_
      exact v_iret C hQ dX4_friendOfChoice_29 ⟨by unfold foS; first | (rw [if_pos h2, if_pos (Int32.not_le.mp h21)]; done) | (rw [if_pos h2, if_neg (Int32.not_lt.mpr h21)]; done) | (rw [if_neg h2, if_pos (Int32.not_le.mp h21)]; done) | (rw [if_neg h2, if_neg (Int32.not_lt.mpr h21)]; done), rfl⟩

set_option maxRecDepth 100000 in
set_option maxHeartbeats 4000000 in
theorem c_X4_suppose {l : Launch} {w : WC} {μ : Me} (hS : Sv w) (hX : Nx w) {q c r : Int32} {Q i j : Nat} (hq : q = nI Q) (hQ3 : Q < 3) (hc : c = nI i) (hi : Q = 0 → i < 6) (hr : r = nI j) (hj : j < 8) : CtV l w yX4_suppose cX4_suppose 4 (Rm 1 23) [.ref (w_ad w 0), .int q, .int c, .int r] μ (Pv (spM μ Q i j)) := by
  refine Ct.mk (own := RX4) rfl (by decide) (Nat.le_of_ble_eq_true rfl) (fun x hxl C hQ => ?_)
  subst hxl
  refine v_iload_n C dX4_suppose_0 rfl rfl ?_
  refine v_case (0) (fun e1_0 => ?_) (fun n1_0 => ?_)
  · refine v_lookup C 28 dX4_suppose_1 (by decide) (off := 27) (by rw [e1_0]; first | done | decide) (by decide) ?_
    have hz : Q = 0 := (nI_eq (a := Q) (b := 0) (by omega) (by omega)).mp (hq.symm.trans e1_0)
    subst hz
    refine v_aload_n C dX4_suppose_28 rfl rfl ?_
    refine g_X4_trial C hS.1 dX4_suppose_29 fl_X4_16 rfl ?_
    refine g_X0_list C hS.2.2.1.1 dX4_suppose_32 fl_X4_60 rfl ?_
    refine v_iload_n C dX4_suppose_35 rfl rfl ?_
    refine v_dup2 C dX4_suppose_36 rfl rfl rfl ?_
    refine a_I C hS.2.2.1.2.2.1 (by decide) dX4_suppose_37 (i) hc (hi rfl) rfl ?_
    refine v_iconst C dX4_suppose_38 ic_1 rfl ?_
    refine v_iload_n C dX4_suppose_39 rfl rfl ?_
    refine v_ishl C dX4_suppose_40 rfl ?_
    refine v_ior C dX4_suppose_41 rfl ?_
    refine s_I C hS.2.2.1.2.2.1 (by decide) dX4_suppose_42 (i) hc (hi rfl) rfl ?_
    refine v_goto C 80 dX4_suppose_43 (by decide) ?_
    exact v_vret C hQ dX4_suppose_80 (by subst hc; subst hr; rfl)
  refine v_case (1) (fun e1_1 => ?_) (fun n1_1 => ?_)
  · refine v_lookup C 46 dX4_suppose_1 (by decide) (off := 45) (by rw [e1_1]; first | done | decide) (by decide) ?_
    have hz : Q = 1 := (nI_eq (a := Q) (b := 1) (by omega) (by omega)).mp (hq.symm.trans e1_1)
    subst hz
    refine v_aload_n C dX4_suppose_46 rfl rfl ?_
    refine g_X4_trial C hS.1 dX4_suppose_47 fl_X4_16 rfl ?_
    refine g_X0_residents C hS.2.2.1.1 dX4_suppose_50 fl_X4_71 rfl ?_
    refine v_iload_n C dX4_suppose_53 rfl rfl ?_
    refine a_R C hS.2.2.1.2.2.2.1 dX4_suppose_54 (j) hr (by omega) rfl ?_
    refine v_iload_n C dX4_suppose_55 rfl rfl ?_
    refine p_X1_kind C (hS.2.2.1.2.2.2.2.2 (j) (by omega)) dX4_suppose_56 fl_X4_225 rfl ?_
    refine v_goto C 80 dX4_suppose_59 (by decide) ?_
    exact v_vret C hQ dX4_suppose_80 (by subst hc; subst hr; rfl)
  refine v_lookup C 62 dX4_suppose_1 (by decide) (off := 61) (by show Op.lookupswitch.offset [(0, 27), (1, 45)] _ _ = _; rw [lv_osw n1_0 (by decide), lv_osw n1_1 (by decide)]; first | done | rfl) (by decide) ?_
  have hz : Q = 2 := by
    have y0 : ¬ Q = 0 := fun e => n1_0 (by rw [hq, e]; rfl)
    have y1 : ¬ Q = 1 := fun e => n1_1 (by rw [hq, e]; rfl)
    omega
  subst hz
  refine v_aload_n C dX4_suppose_62 rfl rfl ?_
  refine g_X4_trial C hS.1 dX4_suppose_63 fl_X4_16 rfl ?_
  refine g_X0_residents C hS.2.2.1.1 dX4_suppose_66 fl_X4_71 rfl ?_
  refine v_iload_n C dX4_suppose_69 rfl rfl ?_
  refine a_R C hS.2.2.1.2.2.2.1 dX4_suppose_70 (j) hr (by omega) rfl ?_
  refine v_aload_n C dX4_suppose_71 rfl rfl ?_
  refine v_iload_n C dX4_suppose_72 rfl rfl ?_
  refine v_iload_n C dX4_suppose_73 rfl rfl ?_
  refine v_iV C dX4_suppose_74 mi_X4_friendOfChoice (c_X4_friendOfChoice hS hX) rfl hS.1.1 hS.1.2 rfl ml_X4_171 (rk_of rfl) rfl (Nat.le_of_ble_eq_true rfl) rfl (px_k ?_)
  refine p_X1_friend C (hS.2.2.1.2.2.2.2.2 (j) (by omega)) dX4_suppose_77 fl_X4_270 rfl ?_
  exact v_vret C hQ dX4_suppose_80 (by subst hc; subst hr; rfl)

set_option maxRecDepth 100000 in
set_option maxHeartbeats 4000000 in
theorem lp_X4_bestChoice_38 {w : WC} {x : Cy} {μ : Me} (hS : Sv w) (hX : Nx w) {d : Nat → Int32} (hL : LH μ 1 d) (hI : IvD d) {q c r n : Int32} {Q N : Nat} (hq : q = nI Q) (hc : c = nI N) (hok : okQ d Q N) (nc : ¬ (wiS r 0 (d 0 - 1) = 0 ∨ wiS n 0 40 = 0)) (q1 : r = nI (cl r) ∧ cl r < dn d) (q2 : n = nI (cl n) ∧ cl n ≤ 40) (hN : N ≤ 8) (C : Cx w x cX4_bestChoice 9 RX4 (some .int) (Rm 5 115)) (hQ : y_Q x = MQ (y_b x) (QI w (Pt (if wiS r 0 (d 0 - 1) = 0 ∨ wiS n 0 40 = 0 then -1000001 else (bsL (fun i => suN (cl n) (spD d Q i (cl r)) (21 + cl r)) nI 0 N).1) (if wiS r 0 (d 0 - 1) = 0 ∨ wiS n 0 40 = 0 then tlS μ 0 else μ))) (y_a x) (y_s x) 0 0 (AA w)) : ∀ (m i : Nat) (uu : Me) (a : Int32) (b : Int32), N + 1 ≤ i + m → i ≤ N → (Tr μ uu) → (a = (bsL (fun i => suN (cl n) (spD d Q i (cl r)) (21 + cl r)) nI 0 i).1) → (b = (bsL (fun i => suN (cl n) (spD d Q i (cl r)) (21 + cl r)) nI 0 i).2) → V w x 9 uu 38 [(0, .ref (w_ad w 0)), (1, .int q), (2, .int c), (3, .int r), (4, .int n), (5, .int a), (6, .int b), (7, .int (nI i))] [] := by
  intro m
  induction m with
  | zero =>
    intro i uu a b hm hi
    exact absurd hm (by omega)
  | succ m ih =>
    intro i uu a b hm hi ht ha hb
    have hn := hI.n.1
    have hl := hL.tr ht hI
    subst hc
    refine v_iload C dX4_bestChoice_38 rfl rfl ?_
    refine v_iload_n C dX4_bestChoice_40 rfl rfl ?_
    refine v_icmp_ge C 100 44 dX4_bestChoice_41 (by decide) rfl (fun h41 => ?_) (fun h41 => ?_)
    · have g : i = N := by have := (le_n (a := N) (b := i) (by omega) (by omega)).mp h41; omega
      refine v_iload C dX4_bestChoice_100 rfl rfl ?_
      exact v_iret C hQ dX4_bestChoice_102 ⟨by rw [if_neg nc, ha, g], by rw [if_neg nc]; exact ht⟩
    · have g : i < N := by rcases Nat.lt_or_ge i (N) with q | q; exact q; exact absurd ((le_n (a := N) (b := i) (by omega) (by omega)).mpr q) h41
      refine v_aload_n C dX4_bestChoice_44 rfl rfl ?_
      refine v_vV C dX4_bestChoice_45 mi_X4_beginTrial (c_X4_beginTrial hS hX hl hI) rfl hS.1.1 hS.1.2 rfl ml_X4_135 (rk_of rfl) rfl (Nat.le_of_ble_eq_true rfl) rfl (pv_k ?_)
      have hT := tk14 hl hI
      have h1t : (tkS uu 14 1 (dn d)).1 1 3 = d 0 := by rw [tkS_o hn (by omega)]; exact hl.1
      have hsp := LH_sp hT h1t hI hok g (r := cl r) (by omega)
      have hisp := IvD_sp hI hok g (r := cl r) (by omega)
      have hP := LH_pn hsp hisp (cl n)
      have hrow := (LH.r hisp hP (r := cl r) (by rw [dn_sp]; exact q1.2)).2.1
      have hTr : Tr μ (pnS 14 (dn (spD d Q i (cl r))) (cl (spD d Q i (cl r) 5)) (cl n) (spM (tkS uu 14 1 (dn d)) Q i (cl r))) := (Tr_sp (ht.tk hn) (by omega)).pn (by rw [dn_sp]; exact hn) _
      refine v_aload_n C dX4_bestChoice_48 rfl rfl ?_
      refine v_iload_n C dX4_bestChoice_49 rfl rfl ?_
      refine v_iload C dX4_bestChoice_50 rfl rfl ?_
      refine v_iload_n C dX4_bestChoice_52 rfl rfl ?_
      refine v_vV C dX4_bestChoice_53 mi_X4_suppose (c_X4_suppose hS hX hq (by unfold okQ at hok; omega) rfl (by unfold okQ at hok; omega) q1.1 (by omega)) rfl hS.1.1 hS.1.2 rfl ml_X4_267 (rk_of rfl) rfl (Nat.le_of_ble_eq_true rfl) rfl (pv_k ?_)
      refine v_aload_n C dX4_bestChoice_56 rfl rfl ?_
      refine g_X4_trial C hS.1 dX4_bestChoice_57 fl_X4_16 rfl ?_
      refine v_iload C dX4_bestChoice_60 rfl rfl ?_
      refine v_vV C dX4_bestChoice_62 mi_X0_pass (c_X0_pass hS.2.2.1 hX (hsp.iv hisp) (t := cl n) (by omega) q2.1) rfl hS.2.2.1.1.1 hS.2.2.1.1.2 rfl ml_X4_107 (rk_of rfl) rfl (Nat.le_of_ble_eq_true rfl) rfl (pv_k ?_)
      refine v_aload_n C dX4_bestChoice_65 rfl rfl ?_
      refine g_X4_trial C hS.1 dX4_bestChoice_66 fl_X4_16 rfl ?_
      refine g_X0_residents C hS.2.2.1.1 dX4_bestChoice_69 fl_X4_71 rfl ?_
      refine v_iload_n C dX4_bestChoice_72 rfl rfl ?_
      refine a_R C hS.2.2.1.2.2.2.1 dX4_bestChoice_73 (cl r) q1.1 (by omega) rfl ?_
      refine g_X1_mood C (hS.2.2.1.2.2.2.2.2 (cl r) (by omega)) dX4_bestChoice_74 fl_X4_261 rfl ?_
      refine v_eqi (hrow) ?_
      refine v_istore C dX4_bestChoice_77 (by decide) rfl ?_
      refine v_iload C dX4_bestChoice_79 rfl rfl ?_
      refine v_iload C dX4_bestChoice_81 rfl rfl ?_
      refine v_icmp_le C 94 86 dX4_bestChoice_83 (by decide) rfl (fun h83 => ?_) (fun h83 => ?_)
      · refine v_iincN C dX4_bestChoice_94 rfl (by decide) rfl ?_
        refine v_goto C 38 dX4_bestChoice_97 (by decide) ?_
        exact V.norm (ih (i + 1) _ _ _ (by omega) (by omega) hTr (by first | (rw [bsL_y (by rw [← hb]; exact Int32.not_le.mp h83)]; done) | (rw [bsL_n (by rw [← hb]; exact Int32.not_lt.mpr h83)]; assumption)) (by first | (rw [bsL_y (by rw [← hb]; exact Int32.not_le.mp h83)]; done) | (rw [bsL_n (by rw [← hb]; exact Int32.not_lt.mpr h83)]; assumption))) rfl
      · refine v_iload C dX4_bestChoice_86 rfl rfl ?_
        refine v_istore C dX4_bestChoice_88 (by decide) rfl ?_
        refine v_iload C dX4_bestChoice_90 rfl rfl ?_
        refine v_istore C dX4_bestChoice_92 (by decide) rfl ?_
        refine v_iincN C dX4_bestChoice_94 rfl (by decide) rfl ?_
        refine v_goto C 38 dX4_bestChoice_97 (by decide) ?_
        exact V.norm (ih (i + 1) _ _ _ (by omega) (by omega) hTr (by first | (rw [bsL_y (by rw [← hb]; exact Int32.not_le.mp h83)]; done) | (rw [bsL_n (by rw [← hb]; exact Int32.not_lt.mpr h83)]; assumption)) (by first | (rw [bsL_y (by rw [← hb]; exact Int32.not_le.mp h83)]; done) | (rw [bsL_n (by rw [← hb]; exact Int32.not_lt.mpr h83)]; assumption))) rfl
set_option maxRecDepth 100000 in
set_option maxHeartbeats 4000000 in
theorem c_X4_bestChoice {l : Launch} {w : WC} {μ : Me} (hS : Sv w) (hX : Nx w) {d : Nat → Int32} (hL : LH μ 1 d) (hI : IvD d) {q c r n : Int32} {Q N : Nat} (hq : q = nI Q) (hc : c = nI N) (hok : okQ d Q N) : CtI l w yX4_bestChoice cX4_bestChoice 9 (some .int) (Rm 5 115) [.ref (w_ad w 0), .int q, .int c, .int r, .int n] μ (Pt (if wiS r 0 (d 0 - 1) = 0 ∨ wiS n 0 40 = 0 then -1000001 else (bsL (fun i => suN (cl n) (spD d Q i (cl r)) (21 + cl r)) nI 0 N).1) (if wiS r 0 (d 0 - 1) = 0 ∨ wiS n 0 40 = 0 then tlS μ 0 else μ)) := by
  refine Ct.mk (own := RX4) rfl (by decide) (Nat.le_of_ble_eq_true rfl) (fun x hxl C hQ => ?_)
  subst hxl
  have hn := hI.n.1
  have h0 : μ.1 1 3 = nI (dn d) := hL.1.trans hI.n.2
  refine v_aload_n C dX4_bestChoice_0 rfl rfl ?_
  refine g_X4_live C hS.1 dX4_bestChoice_1 fl_X4_12 rfl ?_
  refine v_iload_n C dX4_bestChoice_4 rfl rfl ?_
  refine v_iV C dX4_bestChoice_5 mi_X0_has (c_X0_has hS.2.1 hX) rfl hS.2.1.1.1 hS.2.1.1.2 rfl ml_X4_67 (rk_of rfl) rfl (Nat.le_of_ble_eq_true rfl) rfl (px_k ?_)
  refine v_if_eq C 22 11 dX4_bestChoice_8 (by decide) rfl (fun h8 => ?_) (fun h8 => ?_)
  · refine v_aload_n C dX4_bestChoice_22 rfl rfl ?_
    refine v_ldc C dX4_bestChoice_23 cn_X4_48 rfl ?_
    refine v_iV C dX4_bestChoice_25 mi_X4_tell (c_X4_tell hS hX (p := 0) (by decide) (by decide)) rfl hS.1.1 hS.1.2 rfl ml_X4_49 (rk_of rfl) rfl (Nat.le_of_ble_eq_true rfl) rfl (px_k ?_)
    exact v_iret C hQ dX4_bestChoice_28 ⟨(if_pos (by rw [← hL.1]; first | exact Or.inl h8 | exact Or.inr h19)).symm, by rw [if_pos (by rw [← hL.1]; first | exact Or.inl h8 | exact Or.inr h19)]; exact Tr.rf _⟩
  · refine v_iload C dX4_bestChoice_11 rfl rfl ?_
    refine v_iconst C dX4_bestChoice_13 ic_0 rfl ?_
    refine v_bipush C dX4_bestChoice_14 bp_40 rfl ?_
    refine v_iS C dX4_bestChoice_16 ms_X4_within c_X4_within rfl ml_X4_56 (rk_of rfl) rfl (Nat.le_of_ble_eq_true rfl) rfl (px_k ?_)
    refine v_if_ne C 29 22 dX4_bestChoice_19 (by decide) rfl (fun h19 => ?_) (fun h19 => ?_)
    · have q1 := has_i hn h0 h8
      have q2 := wi_i (m := 40) (by omega) h19
      have hN : N ≤ 8 := by
        unfold okQ at hok
        omega
      refine v_iconst C dX4_bestChoice_29 ic_0 rfl ?_
      refine v_istore C dX4_bestChoice_30 (by decide) rfl ?_
      refine v_iconst C dX4_bestChoice_32 ic_m1 rfl ?_
      refine v_istore C dX4_bestChoice_33 (by decide) rfl ?_
      refine v_iconst C dX4_bestChoice_35 ic_0 rfl ?_
      refine v_istore C dX4_bestChoice_36 (by decide) rfl ?_
      exact V.norm (lp_X4_bestChoice_38 hS hX hL hI hq hc hok (by rw [← hL.1]; exact fun h => h.elim h8 h19) q1 q2 hN C hQ (N + 1) 0 _ _ _ (by omega) (by omega) (Tr.rf μ) rfl rfl) rfl
    · refine v_aload_n C dX4_bestChoice_22 rfl rfl ?_
      refine v_ldc C dX4_bestChoice_23 cn_X4_48 rfl ?_
      refine v_iV C dX4_bestChoice_25 mi_X4_tell (c_X4_tell hS hX (p := 0) (by decide) (by decide)) rfl hS.1.1 hS.1.2 rfl ml_X4_49 (rk_of rfl) rfl (Nat.le_of_ble_eq_true rfl) rfl (px_k ?_)
      exact v_iret C hQ dX4_bestChoice_28 ⟨(if_pos (by rw [← hL.1]; first | exact Or.inl h8 | exact Or.inr h19)).symm, by rw [if_pos (by rw [← hL.1]; first | exact Or.inl h8 | exact Or.inr h19)]; exact Tr.rf _⟩

set_option maxRecDepth 100000 in
set_option maxHeartbeats 4000000 in
theorem c_X4_comeOn {l : Launch} {w : WC} {μ : Me} (hS : Sv w) (hX : Nx w) {d : Nat → Int32} (hL : LH μ 1 d) (hI : IvD d) {r n : Int32} : CtI l w yX4_comeOn cX4_comeOn 3 (some .int) (Rm 6 143) [.ref (w_ad w 0), .int r, .int n] μ (Pt (if wiS r 0 (d 0 - 1) = 0 ∨ wiS n 0 40 = 0 then -1000001 else (bsL (fun i => suN (cl n) (spD d 0 i (cl r)) (21 + cl r)) nI 0 6).1) (if wiS r 0 (d 0 - 1) = 0 ∨ wiS n 0 40 = 0 then tlS μ 0 else μ)) := by
  refine Ct.mk (own := RX4) rfl (by decide) (Nat.le_of_ble_eq_true rfl) (fun x hxl C hQ => ?_)
  subst hxl
  refine v_aload_n C dX4_comeOn_0 rfl rfl ?_
  refine v_iconst C dX4_comeOn_1 ic_0 rfl ?_
  refine v_bipush C dX4_comeOn_2 bp_6 rfl ?_
  refine v_iload_n C dX4_comeOn_4 rfl rfl ?_
  refine v_iload_n C dX4_comeOn_5 rfl rfl ?_
  refine v_iV C dX4_comeOn_6 mi_X4_bestChoice (c_X4_bestChoice hS hX hL hI (Q := 0) (N := 6) rfl rfl (by unfold okQ; omega)) rfl hS.1.1 hS.1.2 rfl ml_X4_167 (rk_of rfl) rfl (Nat.le_of_ble_eq_true rfl) rfl (fun r6 u6 hu6 => ?_)
  exact v_iret C hQ dX4_comeOn_9 hu6

set_option maxRecDepth 100000 in
set_option maxHeartbeats 4000000 in
theorem c_X4_kindFor {l : Launch} {w : WC} {μ : Me} (hS : Sv w) (hX : Nx w) {d : Nat → Int32} (hL : LH μ 1 d) (hI : IvD d) {r n : Int32} : CtI l w yX4_kindFor cX4_kindFor 3 (some .int) (Rm 6 143) [.ref (w_ad w 0), .int r, .int n] μ (Pt (if wiS r 0 (d 0 - 1) = 0 ∨ wiS n 0 40 = 0 then -1000001 else (bsL (fun i => suN (cl n) (spD d 1 i (cl r)) (21 + cl r)) nI 0 7).1) (if wiS r 0 (d 0 - 1) = 0 ∨ wiS n 0 40 = 0 then tlS μ 0 else μ)) := by
  refine Ct.mk (own := RX4) rfl (by decide) (Nat.le_of_ble_eq_true rfl) (fun x hxl C hQ => ?_)
  subst hxl
  refine v_aload_n C dX4_kindFor_0 rfl rfl ?_
  refine v_iconst C dX4_kindFor_1 ic_1 rfl ?_
  refine v_bipush C dX4_kindFor_2 bp_7 rfl ?_
  refine v_iload_n C dX4_kindFor_4 rfl rfl ?_
  refine v_iload_n C dX4_kindFor_5 rfl rfl ?_
  refine v_iV C dX4_kindFor_6 mi_X4_bestChoice (c_X4_bestChoice hS hX hL hI (Q := 1) (N := 7) rfl rfl (by unfold okQ; omega)) rfl hS.1.1 hS.1.2 rfl ml_X4_167 (rk_of rfl) rfl (Nat.le_of_ble_eq_true rfl) rfl (fun r6 u6 hu6 => ?_)
  exact v_iret C hQ dX4_kindFor_9 hu6

set_option maxRecDepth 100000 in
set_option maxHeartbeats 4000000 in
theorem c_X4_friendFor {l : Launch} {w : WC} {μ : Me} (hS : Sv w) (hX : Nx w) {d : Nat → Int32} (hL : LH μ 1 d) (hI : IvD d) {r n : Int32} : CtI l w yX4_friendFor cX4_friendFor 4 (some .int) (Rm 6 143) [.ref (w_ad w 0), .int r, .int n] μ (Pt (if wiS r 0 (d 0 - 1) = 0 ∨ wiS n 0 40 = 0 then -1000001 else foS (d 0) (bsL (fun i => suN (cl n) (spD d 2 i (cl r)) (21 + cl r)) nI 0 (dn d)).1 r) (if wiS r 0 (d 0 - 1) = 0 ∨ wiS n 0 40 = 0 then tlS μ 0 else μ)) := by
  refine Ct.mk (own := RX4) rfl (by decide) (Nat.le_of_ble_eq_true rfl) (fun x hxl C hQ => ?_)
  subst hxl
  have hn := hI.n.1
  have h0 : μ.1 1 3 = nI (dn d) := hL.1.trans hI.n.2
  refine v_aload_n C dX4_friendFor_0 rfl rfl ?_
  refine v_iconst C dX4_friendFor_1 ic_2 rfl ?_
  refine v_aload_n C dX4_friendFor_2 rfl rfl ?_
  refine g_X4_live C hS.1 dX4_friendFor_3 fl_X4_12 rfl ?_
  refine g_X0_size C hS.2.1.1 dX4_friendFor_6 fl_X4_147 rfl ?_
  refine v_eqi (h0) ?_
  refine v_iload_n C dX4_friendFor_9 rfl rfl ?_
  refine v_iload_n C dX4_friendFor_10 rfl rfl ?_
  refine v_iV C dX4_friendFor_11 mi_X4_bestChoice (c_X4_bestChoice hS hX hL hI (Q := 2) (N := dn d) rfl rfl (by unfold okQ; omega)) rfl hS.1.1 hS.1.2 rfl ml_X4_167 (rk_of rfl) rfl (Nat.le_of_ble_eq_true rfl) rfl (fun r11 u11 hu11 => ?_)
  obtain ⟨hu1, hu2⟩ := hu11
  subst hu1
  obtain ⟨kk, hkk, ek⟩ := bsL_nat (f := (fun i => suN (cl n) (spD d 2 i (cl r)) (21 + cl r))) (n := dn d)
  refine v_istore_n C dX4_friendFor_14 (by decide) rfl ?_
  refine v_iload_n C dX4_friendFor_15 rfl rfl ?_
  refine v_if_ge C 23 19 dX4_friendFor_16 (by decide) rfl (fun h16 => ?_) (fun h16 => ?_)
  · have nc : ¬ (wiS r 0 (d 0 - 1) = 0 ∨ wiS n 0 40 = 0) := fun h => by rw [if_pos h] at h16; exact absurd h16 (by decide)
    rw [if_neg nc] at hu2
    refine v_aload_n C dX4_friendFor_23 rfl rfl ?_
    refine v_iload_n C dX4_friendFor_24 rfl rfl ?_
    refine v_iload_n C dX4_friendFor_25 rfl rfl ?_
    refine v_iV C dX4_friendFor_26 mi_X4_friendOfChoice (c_X4_friendOfChoice hS hX) rfl hS.1.1 hS.1.2 rfl ml_X4_171 (rk_of rfl) rfl (Nat.le_of_ble_eq_true rfl) rfl (px_k ?_)
    exact v_iret C hQ dX4_friendFor_29 (by first | exact ⟨by rw [if_pos nc, if_pos nc], hu2⟩ | exact ⟨by rw [if_neg nc, if_neg nc, ← hL.1, ← hu2 1 (by omega)], by rw [if_neg nc]; exact hu2⟩)
  · have nc : wiS r 0 (d 0 - 1) = 0 ∨ wiS n 0 40 = 0 := by
      apply Decidable.byContradiction
      intro h
      rw [if_neg h, ek] at h16
      exact h16 (nI_pos' (by omega))
    refine v_iload_n C dX4_friendFor_19 rfl rfl ?_
    refine v_goto C 29 dX4_friendFor_20 (by decide) ?_
    exact v_iret C hQ dX4_friendFor_29 (by first | exact ⟨by rw [if_pos nc, if_pos nc], hu2⟩ | exact ⟨by rw [if_neg nc, if_neg nc, ← hL.1, ← hu2 1 (by omega)], by rw [if_neg nc]; exact hu2⟩)

set_option maxRecDepth 100000 in
set_option maxHeartbeats 4000000 in
theorem lp_X4_away_38 {w : WC} {x : Cy} {μ : Me} (hS : Sv w) (hX : Nx w) {d : Nat → Int32} (hL : LH μ 1 d) (hI : IvD d) {r n : Int32} (nc : ¬ (wiS r 0 (d 0 - 1) = 0 ∨ wiS n 0 20 = 0)) (q1 : r = nI (cl r) ∧ cl r < dn d) (q2 : n = nI (cl n) ∧ cl n ≤ 20) (C : Cx w x cX4_away 6 RX4 (some .int) (Rm 5 115)) (hQ : y_Q x = MQ (y_b x) (QI w (Pt (if wiS r 0 (d 0 - 1) = 0 ∨ wiS n 0 20 = 0 then -1000001 else if (awL (fun i => suN (cl n) (kaD d (nI i)) (21 + cl r)) r (2 ^ dn d)).1 = -1000004 then -1000004 else (awL (fun i => suN (cl n) (kaD d (nI i)) (21 + cl r)) r (2 ^ dn d)).1) (if wiS r 0 (d 0 - 1) = 0 ∨ wiS n 0 20 = 0 then tlS μ 0 else if (awL (fun i => suN (cl n) (kaD d (nI i)) (21 + cl r)) r (2 ^ dn d)).1 = -1000004 then tlS μ 3 else μ))) (y_a x) (y_s x) 0 0 (AA w)) : ∀ (m i : Nat) (uu : Me) (a : Int32) (b : Int32), (2 ^ dn d) + 1 ≤ i + m → i ≤ (2 ^ dn d) → (Tr μ uu) → (a = (awL (fun i => suN (cl n) (kaD d (nI i)) (21 + cl r)) r i).1) → (b = (awL (fun i => suN (cl n) (kaD d (nI i)) (21 + cl r)) r i).2) → V w x 6 uu 38 [(0, .ref (w_ad w 0)), (1, .int r), (2, .int n), (3, .int a), (4, .int b), (5, .int (nI i))] [] := by
  intro m
  induction m with
  | zero =>
    intro i uu a b hm hi
    exact absurd hm (by omega)
  | succ m ih =>
    intro i uu a b hm hi ht ha hb
    have hn := hI.n.1
    have hl := hL.tr ht hI
    have hz : uu.1 1 3 = nI (dn d) := hl.1.trans hI.n.2
    have hpw : 2 ^ dn d ≤ 2 ^ 8 := Nat.pow_le_pow_right (by decide) hn
    refine v_iload C dX4_away_38 rfl rfl ?_
    refine v_iconst C dX4_away_40 ic_1 rfl ?_
    refine v_aload_n C dX4_away_41 rfl rfl ?_
    refine g_X4_live C hS.1 dX4_away_42 fl_X4_12 rfl ?_
    refine g_X0_size C hS.2.1.1 dX4_away_45 fl_X4_147 rfl ?_
    refine v_eqi (hz) ?_
    refine v_ishl C dX4_away_48 rfl ?_
    refine v_eqi (p2_n (dn d) hn) ?_
    refine v_icmp_ge C 126 52 dX4_away_49 (by decide) rfl (fun h49 => ?_) (fun h49 => ?_)
    · have g : i = 2 ^ dn d := by have := (le_n (a := 2 ^ dn d) (b := i) (by omega) (by omega)).mp h49; omega
      refine v_iload_n C dX4_away_126 rfl rfl ?_
      refine v_ldc C dX4_away_127 cn_X4_153 rfl ?_
      refine v_icmp_ne C 141 132 dX4_away_129 (by decide) rfl (fun h129 => ?_) (fun h129 => ?_)
      · refine v_iload_n C dX4_away_141 rfl rfl ?_
        exact v_iret C hQ dX4_away_142 (by first | exact ⟨by rw [if_neg nc, ← g, ← ha, if_neg h129], by rw [if_neg nc, ← g, ← ha, if_neg h129]; exact ht⟩ | exact ⟨by rw [if_neg nc, ← g, ← ha, if_pos h129], by rw [if_neg nc, ← g, ← ha, if_pos h129]; exact ht.tl 3⟩)
      · refine v_aload_n C dX4_away_132 rfl rfl ?_
        refine v_ldc C dX4_away_133 cn_X4_153 rfl ?_
        refine v_iV C dX4_away_135 mi_X4_tell (c_X4_tell hS hX (p := 3) (by decide) (by decide)) rfl hS.1.1 hS.1.2 rfl ml_X4_49 (rk_of rfl) rfl (Nat.le_of_ble_eq_true rfl) rfl (px_k ?_)
        refine v_goto C 142 dX4_away_138 (by decide) ?_
        exact v_iret C hQ dX4_away_142 (by first | exact ⟨by rw [if_neg nc, ← g, ← ha, if_neg h129], by rw [if_neg nc, ← g, ← ha, if_neg h129]; exact ht⟩ | exact ⟨by rw [if_neg nc, ← g, ← ha, if_pos h129], by rw [if_neg nc, ← g, ← ha, if_pos h129]; exact ht.tl 3⟩)
    · have g : i < 2 ^ dn d := by rcases Nat.lt_or_ge i (2 ^ dn d) with q | q; exact q; exact absurd ((le_n (a := 2 ^ dn d) (b := i) (by omega) (by omega)).mpr q) h49
      refine v_iload C dX4_away_52 rfl rfl ?_
      refine v_iload_n C dX4_away_54 rfl rfl ?_
      refine v_iS C dX4_away_55 ms_X4_isIn c_X4_isIn rfl ml_X4_175 (rk_of rfl) rfl (Nat.le_of_ble_eq_true rfl) rfl (px_k ?_)
      refine v_if_ne C 120 61 dX4_away_58 (by decide) rfl (fun h58 => ?_) (fun h58 => ?_)
      · refine v_iincN C dX4_away_120 rfl (by decide) rfl ?_
        refine v_goto C 38 dX4_away_123 (by decide) ?_
        have hw := awL_n (f := (fun i => suN (cl n) (kaD d (nI i)) (21 + cl r))) (r := r) (i := i) (Or.inl h58)
        exact V.norm (ih (i + 1) _ _ _ (by omega) (by omega) ht (by rw [hw]; first | done | assumption) (by rw [hw]; first | done | assumption)) rfl
      · refine v_iload C dX4_away_61 rfl rfl ?_
        refine v_iS C dX4_away_63 ms_J6_bitCount_0f7a4 c_J6_bitCount_0f7a4 rfl ml_X4_142 (rk_of rfl) rfl (Nat.le_of_ble_eq_true rfl) rfl (px_k ?_)
        refine v_iload C dX4_away_66 rfl rfl ?_
        refine v_icmp_lt C 74 71 dX4_away_68 (by decide) rfl (fun h68 => ?_) (fun h68 => ?_)
        · refine v_aload_n C dX4_away_74 rfl rfl ?_
          refine v_vV C dX4_away_75 mi_X4_beginTrial (c_X4_beginTrial hS hX hl hI) rfl hS.1.1 hS.1.2 rfl ml_X4_135 (rk_of rfl) rfl (Nat.le_of_ble_eq_true rfl) rfl (pv_k ?_)
          have hT := tk14 hl hI
          have hka := LH_ka hT hn (nI i)
          have hika := IvD_ka hI (nI i)
          have hP := LH_pn hka hika (cl n)
          have hrow := (LH.r hika hP (r := cl r) (by rw [dn_ka]; exact q1.2)).2.1
          have hTr : Tr μ (pnS 14 (dn (kaD d (nI i))) (cl (kaD d (nI i) 5)) (cl n) (ua (tkS uu 14 1 (dn d)) (14 + 2) (kaL ((tkS uu 14 1 (dn d)).1 (14 + 2)) (nI i) 6))) := ((ht.tk hn).ua (by omega)).pn (by rw [dn_ka]; exact hn) _
          refine v_aload_n C dX4_away_78 rfl rfl ?_
          refine g_X4_trial C hS.1 dX4_away_79 fl_X4_16 rfl ?_
          refine v_iload C dX4_away_82 rfl rfl ?_
          refine v_vV C dX4_away_84 mi_X0_keepAway (c_X0_keepAway hS.2.2.1 hX) rfl hS.2.2.1.1.1 hS.2.2.1.1.2 rfl ml_X4_178 (rk_of rfl) rfl (Nat.le_of_ble_eq_true rfl) rfl (pv_k ?_)
          refine v_aload_n C dX4_away_87 rfl rfl ?_
          refine g_X4_trial C hS.1 dX4_away_88 fl_X4_16 rfl ?_
          refine v_iload_n C dX4_away_91 rfl rfl ?_
          refine v_vV C dX4_away_92 mi_X0_pass (c_X0_pass hS.2.2.1 hX (hka.iv hika) (t := cl n) (by omega) q2.1) rfl hS.2.2.1.1.1 hS.2.2.1.1.2 rfl ml_X4_107 (rk_of rfl) rfl (Nat.le_of_ble_eq_true rfl) rfl (pv_k ?_)
          refine v_aload_n C dX4_away_95 rfl rfl ?_
          refine g_X4_trial C hS.1 dX4_away_96 fl_X4_16 rfl ?_
          refine g_X0_residents C hS.2.2.1.1 dX4_away_99 fl_X4_71 rfl ?_
          refine v_iload_n C dX4_away_102 rfl rfl ?_
          refine a_R C hS.2.2.1.2.2.2.1 dX4_away_103 (cl r) q1.1 (by omega) rfl ?_
          refine v_iV C dX4_away_104 mi_X1_isWell (c_X1_isWell (hS.2.2.1.2.2.2.2.2 (cl r) (by omega))) rfl (hS.2.2.1.2.2.2.2.2 (cl r) (by omega)).1 (hS.2.2.1.2.2.2.2.2 (cl r) (by omega)).2 rfl ml_X4_181 (rk_of rfl) rfl (Nat.le_of_ble_eq_true rfl) rfl (px_k ?_)
          rw [hrow]
          refine v_if_eq C 120 110 dX4_away_107 (by decide) rfl (fun h107 => ?_) (fun h107 => ?_)
          · refine v_iincN C dX4_away_120 rfl (by decide) rfl ?_
            refine v_goto C 38 dX4_away_123 (by decide) ?_
            have hw := awL_n (f := (fun i => suN (cl n) (kaD d (nI i)) (21 + cl r))) (r := r) (i := i) (Or.inr (Or.inr h107))
            exact V.norm (ih (i + 1) _ _ _ (by omega) (by omega) hTr (by rw [hw]; first | done | assumption) (by rw [hw]; first | done | assumption)) rfl
          · refine v_iload C dX4_away_110 rfl rfl ?_
            refine v_istore_n C dX4_away_112 (by decide) rfl ?_
            refine v_iload C dX4_away_113 rfl rfl ?_
            refine v_iS C dX4_away_115 ms_J6_bitCount_0f7a4 c_J6_bitCount_0f7a4 rfl ml_X4_142 (rk_of rfl) rfl (Nat.le_of_ble_eq_true rfl) rfl (px_k ?_)
            refine v_istore C dX4_away_118 (by decide) rfl ?_
            refine v_iincN C dX4_away_120 rfl (by decide) rfl ?_
            refine v_goto C 38 dX4_away_123 (by decide) ?_
            have hw := awL_y (f := (fun i => suN (cl n) (kaD d (nI i)) (21 + cl r))) (r := r) (i := i) (fun h => h.elim (fun h => h h58) (fun h => h.elim (fun h => h (by rw [← hb]; exact h68)) h107))
            exact V.norm (ih (i + 1) _ _ _ (by omega) (by omega) hTr (by rw [hw]; first | done | assumption) (by rw [hw]; first | done | assumption)) rfl
        · refine v_goto C 120 dX4_away_71 (by decide) ?_
          refine v_iincN C dX4_away_120 rfl (by decide) rfl ?_
          refine v_goto C 38 dX4_away_123 (by decide) ?_
          have hw := awL_n (f := (fun i => suN (cl n) (kaD d (nI i)) (21 + cl r))) (r := r) (i := i) (Or.inr (Or.inl (by rw [← hb]; exact h68)))
          exact V.norm (ih (i + 1) _ _ _ (by omega) (by omega) ht (by rw [hw]; first | done | assumption) (by rw [hw]; first | done | assumption)) rfl
set_option maxRecDepth 100000 in
set_option maxHeartbeats 4000000 in
theorem c_X4_away {l : Launch} {w : WC} {μ : Me} (hS : Sv w) (hX : Nx w) {d : Nat → Int32} (hL : LH μ 1 d) (hI : IvD d) {r n : Int32} : CtI l w yX4_away cX4_away 6 (some .int) (Rm 5 115) [.ref (w_ad w 0), .int r, .int n] μ (Pt (if wiS r 0 (d 0 - 1) = 0 ∨ wiS n 0 20 = 0 then -1000001 else if (awL (fun i => suN (cl n) (kaD d (nI i)) (21 + cl r)) r (2 ^ dn d)).1 = -1000004 then -1000004 else (awL (fun i => suN (cl n) (kaD d (nI i)) (21 + cl r)) r (2 ^ dn d)).1) (if wiS r 0 (d 0 - 1) = 0 ∨ wiS n 0 20 = 0 then tlS μ 0 else if (awL (fun i => suN (cl n) (kaD d (nI i)) (21 + cl r)) r (2 ^ dn d)).1 = -1000004 then tlS μ 3 else μ)) := by
  refine Ct.mk (own := RX4) rfl (by decide) (Nat.le_of_ble_eq_true rfl) (fun x hxl C hQ => ?_)
  subst hxl
  have hn := hI.n.1
  have h0 : μ.1 1 3 = nI (dn d) := hL.1.trans hI.n.2
  refine v_aload_n C dX4_away_0 rfl rfl ?_
  refine g_X4_live C hS.1 dX4_away_1 fl_X4_12 rfl ?_
  refine v_iload_n C dX4_away_4 rfl rfl ?_
  refine v_iV C dX4_away_5 mi_X0_has (c_X0_has hS.2.1 hX) rfl hS.2.1.1.1 hS.2.1.1.2 rfl ml_X4_67 (rk_of rfl) rfl (Nat.le_of_ble_eq_true rfl) rfl (px_k ?_)
  refine v_if_eq C 21 11 dX4_away_8 (by decide) rfl (fun h8 => ?_) (fun h8 => ?_)
  · refine v_aload_n C dX4_away_21 rfl rfl ?_
    refine v_ldc C dX4_away_22 cn_X4_48 rfl ?_
    refine v_iV C dX4_away_24 mi_X4_tell (c_X4_tell hS hX (p := 0) (by decide) (by decide)) rfl hS.1.1 hS.1.2 rfl ml_X4_49 (rk_of rfl) rfl (Nat.le_of_ble_eq_true rfl) rfl (px_k ?_)
    exact v_iret C hQ dX4_away_27 ⟨(if_pos (by rw [← hL.1]; first | exact Or.inl h8 | exact Or.inr h18)).symm, by rw [if_pos (by rw [← hL.1]; first | exact Or.inl h8 | exact Or.inr h18)]; exact Tr.rf _⟩
  · refine v_iload_n C dX4_away_11 rfl rfl ?_
    refine v_iconst C dX4_away_12 ic_0 rfl ?_
    refine v_bipush C dX4_away_13 bp_20 rfl ?_
    refine v_iS C dX4_away_15 ms_X4_within c_X4_within rfl ml_X4_56 (rk_of rfl) rfl (Nat.le_of_ble_eq_true rfl) rfl (px_k ?_)
    refine v_if_ne C 28 21 dX4_away_18 (by decide) rfl (fun h18 => ?_) (fun h18 => ?_)
    · have q1 := has_i hn h0 h8
      have q2 := wi_i (m := 20) (by omega) h18
      refine v_ldc C dX4_away_28 cn_X4_153 rfl ?_
      refine v_istore_n C dX4_away_30 (by decide) rfl ?_
      refine v_bipush C dX4_away_31 bp_8 rfl ?_
      refine v_istore C dX4_away_33 (by decide) rfl ?_
      refine v_iconst C dX4_away_35 ic_0 rfl ?_
      refine v_istore C dX4_away_36 (by decide) rfl ?_
      exact V.norm (lp_X4_away_38 hS hX hL hI (by rw [← hL.1]; exact fun h => h.elim h8 h18) q1 q2 C hQ (2 ^ dn d + 1) 0 _ _ _ (by omega) (Nat.zero_le _) (Tr.rf μ) rfl rfl) rfl
    · refine v_aload_n C dX4_away_21 rfl rfl ?_
      refine v_ldc C dX4_away_22 cn_X4_48 rfl ?_
      refine v_iV C dX4_away_24 mi_X4_tell (c_X4_tell hS hX (p := 0) (by decide) (by decide)) rfl hS.1.1 hS.1.2 rfl ml_X4_49 (rk_of rfl) rfl (Nat.le_of_ble_eq_true rfl) rfl (px_k ?_)
      exact v_iret C hQ dX4_away_27 ⟨(if_pos (by rw [← hL.1]; first | exact Or.inl h8 | exact Or.inr h18)).symm, by rw [if_pos (by rw [← hL.1]; first | exact Or.inl h8 | exact Or.inr h18)]; exact Tr.rf _⟩
