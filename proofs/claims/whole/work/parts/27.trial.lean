set_option maxRecDepth 100000 in
set_option maxHeartbeats 4000000 in
theorem c_X4_ahead {l : Launch} {w : WC} {μ : Me} (hS : Sv w) (hX : Nx w) {d : Nat → Int32} (hL : LH μ 1 d) (hI : IvD d) {r t n : Int32} : CtI l w yX4_ahead cX4_ahead 5 (some .int) (Rm 5 115) [.ref (w_ad w 0), .int r, .int t, .int n] μ (Pt (if wiS r 0 (d 0 - 1) = 0 ∨ ¬ (t = 1 ∨ t = 3 ∨ t = 4) ∨ wiS n 0 100 = 0 then -1000001 else suN (cl n) d (13 + 8 * cl t + cl r)) (if wiS r 0 (d 0 - 1) = 0 ∨ ¬ (t = 1 ∨ t = 3 ∨ t = 4) ∨ wiS n 0 100 = 0 then tlS μ 0 else μ)) := by
  refine Ct.mk (own := RX4) rfl (by decide) (Nat.le_of_ble_eq_true rfl) (fun x hxl C hQ => ?_)
  subst hxl
  have hn := hI.n.1
  have h0 : μ.1 1 3 = nI (dn d) := hL.1.trans hI.n.2
  refine v_iload_n C dX4_ahead_0 rfl rfl ?_
  refine v_iconst C dX4_ahead_1 ic_1 rfl ?_
  refine v_icmp_eq C 15 5 dX4_ahead_2 (by decide) rfl (fun h2 => ?_) (fun h2 => ?_)
  · refine v_iconst C dX4_ahead_15 ic_1 rfl ?_
    refine v_goto C 20 dX4_ahead_16 (by decide) ?_
    refine v_istore C dX4_ahead_20 (by decide) rfl ?_
    refine v_aload_n C dX4_ahead_22 rfl rfl ?_
    refine g_X4_live C hS.1 dX4_ahead_23 fl_X4_12 rfl ?_
    refine v_iload_n C dX4_ahead_26 rfl rfl ?_
    refine v_iV C dX4_ahead_27 mi_X0_has (c_X0_has hS.2.1 hX) rfl hS.2.1.1.1 hS.2.1.1.2 rfl ml_X4_67 (rk_of rfl) rfl (Nat.le_of_ble_eq_true rfl) rfl (px_k ?_)
    refine v_if_eq C 48 33 dX4_ahead_30 (by decide) rfl (fun h30 => ?_) (fun h30 => ?_)
    · refine v_aload_n C dX4_ahead_48 rfl rfl ?_
      refine v_ldc C dX4_ahead_49 cn_X4_48 rfl ?_
      refine v_iV C dX4_ahead_51 mi_X4_tell (c_X4_tell hS hX (p := 0) (by decide) (by decide)) rfl hS.1.1 hS.1.2 rfl ml_X4_49 (rk_of rfl) rfl (Nat.le_of_ble_eq_true rfl) rfl (px_k ?_)
      exact v_iret C hQ dX4_ahead_54 ⟨(if_pos (by rw [← hL.1]; first | exact Or.inl h30 | exact Or.inr (Or.inl (fun h => h.elim h2 (fun h => h.elim h7 h12))) | exact Or.inr (Or.inr h45) | exact absurd h35 (by decide))).symm, by rw [if_pos (by rw [← hL.1]; first | exact Or.inl h30 | exact Or.inr (Or.inl (fun h => h.elim h2 (fun h => h.elim h7 h12))) | exact Or.inr (Or.inr h45) | exact absurd h35 (by decide))]; exact Tr.rf _⟩
    · refine v_iload C dX4_ahead_33 rfl rfl ?_
      refine v_if_eq C 48 38 dX4_ahead_35 (by decide) rfl (fun h35 => ?_) (fun h35 => ?_)
      · refine v_aload_n C dX4_ahead_48 rfl rfl ?_
        refine v_ldc C dX4_ahead_49 cn_X4_48 rfl ?_
        refine v_iV C dX4_ahead_51 mi_X4_tell (c_X4_tell hS hX (p := 0) (by decide) (by decide)) rfl hS.1.1 hS.1.2 rfl ml_X4_49 (rk_of rfl) rfl (Nat.le_of_ble_eq_true rfl) rfl (px_k ?_)
        exact v_iret C hQ dX4_ahead_54 ⟨(if_pos (by rw [← hL.1]; first | exact Or.inl h30 | exact Or.inr (Or.inl (fun h => h.elim h2 (fun h => h.elim h7 h12))) | exact Or.inr (Or.inr h45) | exact absurd h35 (by decide))).symm, by rw [if_pos (by rw [← hL.1]; first | exact Or.inl h30 | exact Or.inr (Or.inl (fun h => h.elim h2 (fun h => h.elim h7 h12))) | exact Or.inr (Or.inr h45) | exact absurd h35 (by decide))]; exact Tr.rf _⟩
      · refine v_iload_n C dX4_ahead_38 rfl rfl ?_
        refine v_iconst C dX4_ahead_39 ic_0 rfl ?_
        refine v_bipush C dX4_ahead_40 bp_100 rfl ?_
        refine v_iS C dX4_ahead_42 ms_X4_within c_X4_within rfl ml_X4_56 (rk_of rfl) rfl (Nat.le_of_ble_eq_true rfl) rfl (px_k ?_)
        refine v_if_ne C 55 48 dX4_ahead_45 (by decide) rfl (fun h45 => ?_) (fun h45 => ?_)
        · have ht : t = nI (cl t) ∧ cl t < 5 := by first | (subst h2; exact ⟨rfl, by decide⟩) | (subst h7; exact ⟨rfl, by decide⟩) | (subst h12; exact ⟨rfl, by decide⟩) | exact absurd rfl h35
          have q := has_i hn h0 h30
          have q2 := wi_i (m := 100) (by omega) h45
          have hT := tk14 hL hI
          have hP := LH_pn hT hI (cl n)
          refine v_aload_n C dX4_ahead_55 rfl rfl ?_
          refine v_vV C dX4_ahead_56 mi_X4_beginTrial (c_X4_beginTrial hS hX hL hI) rfl hS.1.1 hS.1.2 rfl ml_X4_135 (rk_of rfl) rfl (Nat.le_of_ble_eq_true rfl) rfl (pv_k ?_)
          refine v_aload_n C dX4_ahead_59 rfl rfl ?_
          refine g_X4_trial C hS.1 dX4_ahead_60 fl_X4_16 rfl ?_
          refine v_iload_n C dX4_ahead_63 rfl rfl ?_
          refine v_vV C dX4_ahead_64 mi_X0_pass (c_X0_pass hS.2.2.1 hX (hT.iv hI) (t := cl n) (by omega) q2.1) rfl hS.2.2.1.1.1 hS.2.2.1.1.2 rfl ml_X4_107 (rk_of rfl) rfl (Nat.le_of_ble_eq_true rfl) rfl (pv_k ?_)
          refine v_aload_n C dX4_ahead_67 rfl rfl ?_
          refine g_X4_trial C hS.1 dX4_ahead_68 fl_X4_16 rfl ?_
          refine g_X0_residents C hS.2.2.1.1 dX4_ahead_71 fl_X4_71 rfl ?_
          refine v_iload_n C dX4_ahead_74 rfl rfl ?_
          refine a_R C hS.2.2.1.2.2.2.1 dX4_ahead_75 (cl r) q.1 (by omega) rfl ?_
          refine v_iload_n C dX4_ahead_76 rfl rfl ?_
          refine v_iV C dX4_ahead_77 mi_X1_fact (c_X1_fact (hS.2.2.1.2.2.2.2.2 (cl r) (by omega)) (i := cl t) ht.2 ht.1) rfl (hS.2.2.1.2.2.2.2.2 (cl r) (by omega)).1 (hS.2.2.1.2.2.2.2.2 (cl r) (by omega)).2 rfl ml_X4_75 (rk_of rfl) rfl (Nat.le_of_ble_eq_true rfl) rfl (px_k ?_)
          exact v_iret C hQ dX4_ahead_80 (by first | exact absurd rfl h35 | exact ⟨by rw [if_neg (by rw [← hL.1]; exact fun h => h.elim h30 (fun h => h.elim (fun h => h (by first | exact Or.inl h2 | exact Or.inr (Or.inl h7) | exact Or.inr (Or.inr h12))) h45))]; exact (LH.r hI hP q.2).f ht.2, by rw [if_neg (by rw [← hL.1]; exact fun h => h.elim h30 (fun h => h.elim (fun h => h (by first | exact Or.inl h2 | exact Or.inr (Or.inl h7) | exact Or.inr (Or.inr h12))) h45))]; exact ((Tr.rf μ).tk hn).pn hn _⟩)
        · refine v_aload_n C dX4_ahead_48 rfl rfl ?_
          refine v_ldc C dX4_ahead_49 cn_X4_48 rfl ?_
          refine v_iV C dX4_ahead_51 mi_X4_tell (c_X4_tell hS hX (p := 0) (by decide) (by decide)) rfl hS.1.1 hS.1.2 rfl ml_X4_49 (rk_of rfl) rfl (Nat.le_of_ble_eq_true rfl) rfl (px_k ?_)
          exact v_iret C hQ dX4_ahead_54 ⟨(if_pos (by rw [← hL.1]; first | exact Or.inl h30 | exact Or.inr (Or.inl (fun h => h.elim h2 (fun h => h.elim h7 h12))) | exact Or.inr (Or.inr h45) | exact absurd h35 (by decide))).symm, by rw [if_pos (by rw [← hL.1]; first | exact Or.inl h30 | exact Or.inr (Or.inl (fun h => h.elim h2 (fun h => h.elim h7 h12))) | exact Or.inr (Or.inr h45) | exact absurd h35 (by decide))]; exact Tr.rf _⟩
  · refine v_iload_n C dX4_ahead_5 rfl rfl ?_
    refine v_iconst C dX4_ahead_6 ic_3 rfl ?_
    refine v_icmp_eq C 15 10 dX4_ahead_7 (by decide) rfl (fun h7 => ?_) (fun h7 => ?_)
    · refine v_iconst C dX4_ahead_15 ic_1 rfl ?_
      refine v_goto C 20 dX4_ahead_16 (by decide) ?_
      refine v_istore C dX4_ahead_20 (by decide) rfl ?_
      refine v_aload_n C dX4_ahead_22 rfl rfl ?_
      refine g_X4_live C hS.1 dX4_ahead_23 fl_X4_12 rfl ?_
      refine v_iload_n C dX4_ahead_26 rfl rfl ?_
      refine v_iV C dX4_ahead_27 mi_X0_has (c_X0_has hS.2.1 hX) rfl hS.2.1.1.1 hS.2.1.1.2 rfl ml_X4_67 (rk_of rfl) rfl (Nat.le_of_ble_eq_true rfl) rfl (px_k ?_)
      refine v_if_eq C 48 33 dX4_ahead_30 (by decide) rfl (fun h30 => ?_) (fun h30 => ?_)
      · refine v_aload_n C dX4_ahead_48 rfl rfl ?_
        refine v_ldc C dX4_ahead_49 cn_X4_48 rfl ?_
        refine v_iV C dX4_ahead_51 mi_X4_tell (c_X4_tell hS hX (p := 0) (by decide) (by decide)) rfl hS.1.1 hS.1.2 rfl ml_X4_49 (rk_of rfl) rfl (Nat.le_of_ble_eq_true rfl) rfl (px_k ?_)
        exact v_iret C hQ dX4_ahead_54 ⟨(if_pos (by rw [← hL.1]; first | exact Or.inl h30 | exact Or.inr (Or.inl (fun h => h.elim h2 (fun h => h.elim h7 h12))) | exact Or.inr (Or.inr h45) | exact absurd h35 (by decide))).symm, by rw [if_pos (by rw [← hL.1]; first | exact Or.inl h30 | exact Or.inr (Or.inl (fun h => h.elim h2 (fun h => h.elim h7 h12))) | exact Or.inr (Or.inr h45) | exact absurd h35 (by decide))]; exact Tr.rf _⟩
      · refine v_iload C dX4_ahead_33 rfl rfl ?_
        refine v_if_eq C 48 38 dX4_ahead_35 (by decide) rfl (fun h35 => ?_) (fun h35 => ?_)
        · refine v_aload_n C dX4_ahead_48 rfl rfl ?_
          refine v_ldc C dX4_ahead_49 cn_X4_48 rfl ?_
          refine v_iV C dX4_ahead_51 mi_X4_tell (c_X4_tell hS hX (p := 0) (by decide) (by decide)) rfl hS.1.1 hS.1.2 rfl ml_X4_49 (rk_of rfl) rfl (Nat.le_of_ble_eq_true rfl) rfl (px_k ?_)
          exact v_iret C hQ dX4_ahead_54 ⟨(if_pos (by rw [← hL.1]; first | exact Or.inl h30 | exact Or.inr (Or.inl (fun h => h.elim h2 (fun h => h.elim h7 h12))) | exact Or.inr (Or.inr h45) | exact absurd h35 (by decide))).symm, by rw [if_pos (by rw [← hL.1]; first | exact Or.inl h30 | exact Or.inr (Or.inl (fun h => h.elim h2 (fun h => h.elim h7 h12))) | exact Or.inr (Or.inr h45) | exact absurd h35 (by decide))]; exact Tr.rf _⟩
        · refine v_iload_n C dX4_ahead_38 rfl rfl ?_
          refine v_iconst C dX4_ahead_39 ic_0 rfl ?_
          refine v_bipush C dX4_ahead_40 bp_100 rfl ?_
          refine v_iS C dX4_ahead_42 ms_X4_within c_X4_within rfl ml_X4_56 (rk_of rfl) rfl (Nat.le_of_ble_eq_true rfl) rfl (px_k ?_)
          refine v_if_ne C 55 48 dX4_ahead_45 (by decide) rfl (fun h45 => ?_) (fun h45 => ?_)
          · have ht : t = nI (cl t) ∧ cl t < 5 := by first | (subst h2; exact ⟨rfl, by decide⟩) | (subst h7; exact ⟨rfl, by decide⟩) | (subst h12; exact ⟨rfl, by decide⟩) | exact absurd rfl h35
            have q := has_i hn h0 h30
            have q2 := wi_i (m := 100) (by omega) h45
            have hT := tk14 hL hI
            have hP := LH_pn hT hI (cl n)
            refine v_aload_n C dX4_ahead_55 rfl rfl ?_
            refine v_vV C dX4_ahead_56 mi_X4_beginTrial (c_X4_beginTrial hS hX hL hI) rfl hS.1.1 hS.1.2 rfl ml_X4_135 (rk_of rfl) rfl (Nat.le_of_ble_eq_true rfl) rfl (pv_k ?_)
            refine v_aload_n C dX4_ahead_59 rfl rfl ?_
            refine g_X4_trial C hS.1 dX4_ahead_60 fl_X4_16 rfl ?_
            refine v_iload_n C dX4_ahead_63 rfl rfl ?_
            refine v_vV C dX4_ahead_64 mi_X0_pass (c_X0_pass hS.2.2.1 hX (hT.iv hI) (t := cl n) (by omega) q2.1) rfl hS.2.2.1.1.1 hS.2.2.1.1.2 rfl ml_X4_107 (rk_of rfl) rfl (Nat.le_of_ble_eq_true rfl) rfl (pv_k ?_)
            refine v_aload_n C dX4_ahead_67 rfl rfl ?_
            refine g_X4_trial C hS.1 dX4_ahead_68 fl_X4_16 rfl ?_
            refine g_X0_residents C hS.2.2.1.1 dX4_ahead_71 fl_X4_71 rfl ?_
            refine v_iload_n C dX4_ahead_74 rfl rfl ?_
            refine a_R C hS.2.2.1.2.2.2.1 dX4_ahead_75 (cl r) q.1 (by omega) rfl ?_
            refine v_iload_n C dX4_ahead_76 rfl rfl ?_
            refine v_iV C dX4_ahead_77 mi_X1_fact (c_X1_fact (hS.2.2.1.2.2.2.2.2 (cl r) (by omega)) (i := cl t) ht.2 ht.1) rfl (hS.2.2.1.2.2.2.2.2 (cl r) (by omega)).1 (hS.2.2.1.2.2.2.2.2 (cl r) (by omega)).2 rfl ml_X4_75 (rk_of rfl) rfl (Nat.le_of_ble_eq_true rfl) rfl (px_k ?_)
            exact v_iret C hQ dX4_ahead_80 (by first | exact absurd rfl h35 | exact ⟨by rw [if_neg (by rw [← hL.1]; exact fun h => h.elim h30 (fun h => h.elim (fun h => h (by first | exact Or.inl h2 | exact Or.inr (Or.inl h7) | exact Or.inr (Or.inr h12))) h45))]; exact (LH.r hI hP q.2).f ht.2, by rw [if_neg (by rw [← hL.1]; exact fun h => h.elim h30 (fun h => h.elim (fun h => h (by first | exact Or.inl h2 | exact Or.inr (Or.inl h7) | exact Or.inr (Or.inr h12))) h45))]; exact ((Tr.rf μ).tk hn).pn hn _⟩)
          · refine v_aload_n C dX4_ahead_48 rfl rfl ?_
            refine v_ldc C dX4_ahead_49 cn_X4_48 rfl ?_
            refine v_iV C dX4_ahead_51 mi_X4_tell (c_X4_tell hS hX (p := 0) (by decide) (by decide)) rfl hS.1.1 hS.1.2 rfl ml_X4_49 (rk_of rfl) rfl (Nat.le_of_ble_eq_true rfl) rfl (px_k ?_)
            exact v_iret C hQ dX4_ahead_54 ⟨(if_pos (by rw [← hL.1]; first | exact Or.inl h30 | exact Or.inr (Or.inl (fun h => h.elim h2 (fun h => h.elim h7 h12))) | exact Or.inr (Or.inr h45) | exact absurd h35 (by decide))).symm, by rw [if_pos (by rw [← hL.1]; first | exact Or.inl h30 | exact Or.inr (Or.inl (fun h => h.elim h2 (fun h => h.elim h7 h12))) | exact Or.inr (Or.inr h45) | exact absurd h35 (by decide))]; exact Tr.rf _⟩
    · refine v_iload_n C dX4_ahead_10 rfl rfl ?_
      refine v_iconst C dX4_ahead_11 ic_4 rfl ?_
      refine v_icmp_ne C 19 15 dX4_ahead_12 (by decide) rfl (fun h12 => ?_) (fun h12 => ?_)
      · refine v_iconst C dX4_ahead_19 ic_0 rfl ?_
        refine v_istore C dX4_ahead_20 (by decide) rfl ?_
        refine v_aload_n C dX4_ahead_22 rfl rfl ?_
        refine g_X4_live C hS.1 dX4_ahead_23 fl_X4_12 rfl ?_
        refine v_iload_n C dX4_ahead_26 rfl rfl ?_
        refine v_iV C dX4_ahead_27 mi_X0_has (c_X0_has hS.2.1 hX) rfl hS.2.1.1.1 hS.2.1.1.2 rfl ml_X4_67 (rk_of rfl) rfl (Nat.le_of_ble_eq_true rfl) rfl (px_k ?_)
        refine v_if_eq C 48 33 dX4_ahead_30 (by decide) rfl (fun h30 => ?_) (fun h30 => ?_)
        · refine v_aload_n C dX4_ahead_48 rfl rfl ?_
          refine v_ldc C dX4_ahead_49 cn_X4_48 rfl ?_
          refine v_iV C dX4_ahead_51 mi_X4_tell (c_X4_tell hS hX (p := 0) (by decide) (by decide)) rfl hS.1.1 hS.1.2 rfl ml_X4_49 (rk_of rfl) rfl (Nat.le_of_ble_eq_true rfl) rfl (px_k ?_)
          exact v_iret C hQ dX4_ahead_54 ⟨(if_pos (by rw [← hL.1]; first | exact Or.inl h30 | exact Or.inr (Or.inl (fun h => h.elim h2 (fun h => h.elim h7 h12))) | exact Or.inr (Or.inr h45) | exact absurd h35 (by decide))).symm, by rw [if_pos (by rw [← hL.1]; first | exact Or.inl h30 | exact Or.inr (Or.inl (fun h => h.elim h2 (fun h => h.elim h7 h12))) | exact Or.inr (Or.inr h45) | exact absurd h35 (by decide))]; exact Tr.rf _⟩
        · refine v_iload C dX4_ahead_33 rfl rfl ?_
          refine v_if_eq C 48 38 dX4_ahead_35 (by decide) rfl (fun h35 => ?_) (fun h35 => ?_)
          · refine v_aload_n C dX4_ahead_48 rfl rfl ?_
            refine v_ldc C dX4_ahead_49 cn_X4_48 rfl ?_
            refine v_iV C dX4_ahead_51 mi_X4_tell (c_X4_tell hS hX (p := 0) (by decide) (by decide)) rfl hS.1.1 hS.1.2 rfl ml_X4_49 (rk_of rfl) rfl (Nat.le_of_ble_eq_true rfl) rfl (px_k ?_)
            exact v_iret C hQ dX4_ahead_54 ⟨(if_pos (by rw [← hL.1]; first | exact Or.inl h30 | exact Or.inr (Or.inl (fun h => h.elim h2 (fun h => h.elim h7 h12))) | exact Or.inr (Or.inr h45) | exact absurd h35 (by decide))).symm, by rw [if_pos (by rw [← hL.1]; first | exact Or.inl h30 | exact Or.inr (Or.inl (fun h => h.elim h2 (fun h => h.elim h7 h12))) | exact Or.inr (Or.inr h45) | exact absurd h35 (by decide))]; exact Tr.rf _⟩
          · refine v_iload_n C dX4_ahead_38 rfl rfl ?_
            refine v_iconst C dX4_ahead_39 ic_0 rfl ?_
            refine v_bipush C dX4_ahead_40 bp_100 rfl ?_
            refine v_iS C dX4_ahead_42 ms_X4_within c_X4_within rfl ml_X4_56 (rk_of rfl) rfl (Nat.le_of_ble_eq_true rfl) rfl (px_k ?_)
            refine v_if_ne C 55 48 dX4_ahead_45 (by decide) rfl (fun h45 => ?_) (fun h45 => ?_)
            · have ht : t = nI (cl t) ∧ cl t < 5 := by first | (subst h2; exact ⟨rfl, by decide⟩) | (subst h7; exact ⟨rfl, by decide⟩) | (subst h12; exact ⟨rfl, by decide⟩) | exact absurd rfl h35
              have q := has_i hn h0 h30
              have q2 := wi_i (m := 100) (by omega) h45
              have hT := tk14 hL hI
              have hP := LH_pn hT hI (cl n)
              refine v_aload_n C dX4_ahead_55 rfl rfl ?_
              refine v_vV C dX4_ahead_56 mi_X4_beginTrial (c_X4_beginTrial hS hX hL hI) rfl hS.1.1 hS.1.2 rfl ml_X4_135 (rk_of rfl) rfl (Nat.le_of_ble_eq_true rfl) rfl (pv_k ?_)
              refine v_aload_n C dX4_ahead_59 rfl rfl ?_
              refine g_X4_trial C hS.1 dX4_ahead_60 fl_X4_16 rfl ?_
              refine v_iload_n C dX4_ahead_63 rfl rfl ?_
              refine v_vV C dX4_ahead_64 mi_X0_pass (c_X0_pass hS.2.2.1 hX (hT.iv hI) (t := cl n) (by omega) q2.1) rfl hS.2.2.1.1.1 hS.2.2.1.1.2 rfl ml_X4_107 (rk_of rfl) rfl (Nat.le_of_ble_eq_true rfl) rfl (pv_k ?_)
              refine v_aload_n C dX4_ahead_67 rfl rfl ?_
              refine g_X4_trial C hS.1 dX4_ahead_68 fl_X4_16 rfl ?_
              refine g_X0_residents C hS.2.2.1.1 dX4_ahead_71 fl_X4_71 rfl ?_
              refine v_iload_n C dX4_ahead_74 rfl rfl ?_
              refine a_R C hS.2.2.1.2.2.2.1 dX4_ahead_75 (cl r) q.1 (by omega) rfl ?_
              refine v_iload_n C dX4_ahead_76 rfl rfl ?_
              refine v_iV C dX4_ahead_77 mi_X1_fact (c_X1_fact (hS.2.2.1.2.2.2.2.2 (cl r) (by omega)) (i := cl t) ht.2 ht.1) rfl (hS.2.2.1.2.2.2.2.2 (cl r) (by omega)).1 (hS.2.2.1.2.2.2.2.2 (cl r) (by omega)).2 rfl ml_X4_75 (rk_of rfl) rfl (Nat.le_of_ble_eq_true rfl) rfl (px_k ?_)
              exact v_iret C hQ dX4_ahead_80 (by first | exact absurd rfl h35 | exact ⟨by rw [if_neg (by rw [← hL.1]; exact fun h => h.elim h30 (fun h => h.elim (fun h => h (by first | exact Or.inl h2 | exact Or.inr (Or.inl h7) | exact Or.inr (Or.inr h12))) h45))]; exact (LH.r hI hP q.2).f ht.2, by rw [if_neg (by rw [← hL.1]; exact fun h => h.elim h30 (fun h => h.elim (fun h => h (by first | exact Or.inl h2 | exact Or.inr (Or.inl h7) | exact Or.inr (Or.inr h12))) h45))]; exact ((Tr.rf μ).tk hn).pn hn _⟩)
            · refine v_aload_n C dX4_ahead_48 rfl rfl ?_
              refine v_ldc C dX4_ahead_49 cn_X4_48 rfl ?_
              refine v_iV C dX4_ahead_51 mi_X4_tell (c_X4_tell hS hX (p := 0) (by decide) (by decide)) rfl hS.1.1 hS.1.2 rfl ml_X4_49 (rk_of rfl) rfl (Nat.le_of_ble_eq_true rfl) rfl (px_k ?_)
              exact v_iret C hQ dX4_ahead_54 ⟨(if_pos (by rw [← hL.1]; first | exact Or.inl h30 | exact Or.inr (Or.inl (fun h => h.elim h2 (fun h => h.elim h7 h12))) | exact Or.inr (Or.inr h45) | exact absurd h35 (by decide))).symm, by rw [if_pos (by rw [← hL.1]; first | exact Or.inl h30 | exact Or.inr (Or.inl (fun h => h.elim h2 (fun h => h.elim h7 h12))) | exact Or.inr (Or.inr h45) | exact absurd h35 (by decide))]; exact Tr.rf _⟩
      · refine v_iconst C dX4_ahead_15 ic_1 rfl ?_
        refine v_goto C 20 dX4_ahead_16 (by decide) ?_
        refine v_istore C dX4_ahead_20 (by decide) rfl ?_
        refine v_aload_n C dX4_ahead_22 rfl rfl ?_
        refine g_X4_live C hS.1 dX4_ahead_23 fl_X4_12 rfl ?_
        refine v_iload_n C dX4_ahead_26 rfl rfl ?_
        refine v_iV C dX4_ahead_27 mi_X0_has (c_X0_has hS.2.1 hX) rfl hS.2.1.1.1 hS.2.1.1.2 rfl ml_X4_67 (rk_of rfl) rfl (Nat.le_of_ble_eq_true rfl) rfl (px_k ?_)
        refine v_if_eq C 48 33 dX4_ahead_30 (by decide) rfl (fun h30 => ?_) (fun h30 => ?_)
        · refine v_aload_n C dX4_ahead_48 rfl rfl ?_
          refine v_ldc C dX4_ahead_49 cn_X4_48 rfl ?_
          refine v_iV C dX4_ahead_51 mi_X4_tell (c_X4_tell hS hX (p := 0) (by decide) (by decide)) rfl hS.1.1 hS.1.2 rfl ml_X4_49 (rk_of rfl) rfl (Nat.le_of_ble_eq_true rfl) rfl (px_k ?_)
          exact v_iret C hQ dX4_ahead_54 ⟨(if_pos (by rw [← hL.1]; first | exact Or.inl h30 | exact Or.inr (Or.inl (fun h => h.elim h2 (fun h => h.elim h7 h12))) | exact Or.inr (Or.inr h45) | exact absurd h35 (by decide))).symm, by rw [if_pos (by rw [← hL.1]; first | exact Or.inl h30 | exact Or.inr (Or.inl (fun h => h.elim h2 (fun h => h.elim h7 h12))) | exact Or.inr (Or.inr h45) | exact absurd h35 (by decide))]; exact Tr.rf _⟩
        · refine v_iload C dX4_ahead_33 rfl rfl ?_
          refine v_if_eq C 48 38 dX4_ahead_35 (by decide) rfl (fun h35 => ?_) (fun h35 => ?_)
          · refine v_aload_n C dX4_ahead_48 rfl rfl ?_
            refine v_ldc C dX4_ahead_49 cn_X4_48 rfl ?_
            refine v_iV C dX4_ahead_51 mi_X4_tell (c_X4_tell hS hX (p := 0) (by decide) (by decide)) rfl hS.1.1 hS.1.2 rfl ml_X4_49 (rk_of rfl) rfl (Nat.le_of_ble_eq_true rfl) rfl (px_k ?_)
            exact v_iret C hQ dX4_ahead_54 ⟨(if_pos (by rw [← hL.1]; first | exact Or.inl h30 | exact Or.inr (Or.inl (fun h => h.elim h2 (fun h => h.elim h7 h12))) | exact Or.inr (Or.inr h45) | exact absurd h35 (by decide))).symm, by rw [if_pos (by rw [← hL.1]; first | exact Or.inl h30 | exact Or.inr (Or.inl (fun h => h.elim h2 (fun h => h.elim h7 h12))) | exact Or.inr (Or.inr h45) | exact absurd h35 (by decide))]; exact Tr.rf _⟩
          · refine v_iload_n C dX4_ahead_38 rfl rfl ?_
            refine v_iconst C dX4_ahead_39 ic_0 rfl ?_
            refine v_bipush C dX4_ahead_40 bp_100 rfl ?_
            refine v_iS C dX4_ahead_42 ms_X4_within c_X4_within rfl ml_X4_56 (rk_of rfl) rfl (Nat.le_of_ble_eq_true rfl) rfl (px_k ?_)
            refine v_if_ne C 55 48 dX4_ahead_45 (by decide) rfl (fun h45 => ?_) (fun h45 => ?_)
            · have ht : t = nI (cl t) ∧ cl t < 5 := by first | (subst h2; exact ⟨rfl, by decide⟩) | (subst h7; exact ⟨rfl, by decide⟩) | (subst h12; exact ⟨rfl, by decide⟩) | exact absurd rfl h35
              have q := has_i hn h0 h30
              have q2 := wi_i (m := 100) (by omega) h45
              have hT := tk14 hL hI
              have hP := LH_pn hT hI (cl n)
              refine v_aload_n C dX4_ahead_55 rfl rfl ?_
              refine v_vV C dX4_ahead_56 mi_X4_beginTrial (c_X4_beginTrial hS hX hL hI) rfl hS.1.1 hS.1.2 rfl ml_X4_135 (rk_of rfl) rfl (Nat.le_of_ble_eq_true rfl) rfl (pv_k ?_)
              refine v_aload_n C dX4_ahead_59 rfl rfl ?_
              refine g_X4_trial C hS.1 dX4_ahead_60 fl_X4_16 rfl ?_
              refine v_iload_n C dX4_ahead_63 rfl rfl ?_
              refine v_vV C dX4_ahead_64 mi_X0_pass (c_X0_pass hS.2.2.1 hX (hT.iv hI) (t := cl n) (by omega) q2.1) rfl hS.2.2.1.1.1 hS.2.2.1.1.2 rfl ml_X4_107 (rk_of rfl) rfl (Nat.le_of_ble_eq_true rfl) rfl (pv_k ?_)
              refine v_aload_n C dX4_ahead_67 rfl rfl ?_
              refine g_X4_trial C hS.1 dX4_ahead_68 fl_X4_16 rfl ?_
              refine g_X0_residents C hS.2.2.1.1 dX4_ahead_71 fl_X4_71 rfl ?_
              refine v_iload_n C dX4_ahead_74 rfl rfl ?_
              refine a_R C hS.2.2.1.2.2.2.1 dX4_ahead_75 (cl r) q.1 (by omega) rfl ?_
              refine v_iload_n C dX4_ahead_76 rfl rfl ?_
              refine v_iV C dX4_ahead_77 mi_X1_fact (c_X1_fact (hS.2.2.1.2.2.2.2.2 (cl r) (by omega)) (i := cl t) ht.2 ht.1) rfl (hS.2.2.1.2.2.2.2.2 (cl r) (by omega)).1 (hS.2.2.1.2.2.2.2.2 (cl r) (by omega)).2 rfl ml_X4_75 (rk_of rfl) rfl (Nat.le_of_ble_eq_true rfl) rfl (px_k ?_)
              exact v_iret C hQ dX4_ahead_80 (by first | exact absurd rfl h35 | exact ⟨by rw [if_neg (by rw [← hL.1]; exact fun h => h.elim h30 (fun h => h.elim (fun h => h (by first | exact Or.inl h2 | exact Or.inr (Or.inl h7) | exact Or.inr (Or.inr h12))) h45))]; exact (LH.r hI hP q.2).f ht.2, by rw [if_neg (by rw [← hL.1]; exact fun h => h.elim h30 (fun h => h.elim (fun h => h (by first | exact Or.inl h2 | exact Or.inr (Or.inl h7) | exact Or.inr (Or.inr h12))) h45))]; exact ((Tr.rf μ).tk hn).pn hn _⟩)
            · refine v_aload_n C dX4_ahead_48 rfl rfl ?_
              refine v_ldc C dX4_ahead_49 cn_X4_48 rfl ?_
              refine v_iV C dX4_ahead_51 mi_X4_tell (c_X4_tell hS hX (p := 0) (by decide) (by decide)) rfl hS.1.1 hS.1.2 rfl ml_X4_49 (rk_of rfl) rfl (Nat.le_of_ble_eq_true rfl) rfl (px_k ?_)
              exact v_iret C hQ dX4_ahead_54 ⟨(if_pos (by rw [← hL.1]; first | exact Or.inl h30 | exact Or.inr (Or.inl (fun h => h.elim h2 (fun h => h.elim h7 h12))) | exact Or.inr (Or.inr h45) | exact absurd h35 (by decide))).symm, by rw [if_pos (by rw [← hL.1]; first | exact Or.inl h30 | exact Or.inr (Or.inl (fun h => h.elim h2 (fun h => h.elim h7 h12))) | exact Or.inr (Or.inr h45) | exact absurd h35 (by decide))]; exact Tr.rf _⟩

set_option maxRecDepth 100000 in
set_option maxHeartbeats 4000000 in
theorem lp_X4_firstSunday_7 {w : WC} {x : Cy} {μ : Me} (hS : Sv w) (hX : Nx w) {d : Nat → Int32} (hL : LH μ 1 d) (hI : IvD d) {r gl v : Int32} {i0 : Nat} (hr : r = nI i0) (hi0 : i0 < dn d)  (C : Cx w x cX4_firstSunday 5 RX4 (some .int) (Rm 4 93)) (hQ : y_Q x = MQ (y_b x) (QI w (Pt (if fsN (fun k => rcS gl v (suN k d (21 + i0)) (suN k d (45 + i0))) 201 0 ≤ 200 then nI (fsN (fun k => rcS gl v (suN k d (21 + i0)) (suN k d (45 + i0))) 201 0) else -1000004) (if fsN (fun k => rcS gl v (suN k d (21 + i0)) (suN k d (45 + i0))) 201 0 ≤ 200 then μ else tlS μ 3))) (y_a x) (y_s x) 0 0 (AA w)) : ∀ (m i : Nat) (uu : Me), 201 + 1 ≤ i + m → i ≤ 201 → (Tr μ uu) → (LH uu 14 (suN i d)) → (fsN (fun k => rcS gl v (suN k d (21 + i0)) (suN k d (45 + i0))) 201 0 = fsN (fun k => rcS gl v (suN k d (21 + i0)) (suN k d (45 + i0))) (201 - i) i) → V w x 5 uu 7 [(0, .ref (w_ad w 0)), (1, .int r), (2, .int gl), (3, .int v), (4, .int (nI i))] [] := by
  intro m
  induction m with
  | zero =>
    intro i uu hm hi
    exact absurd hm (by omega)
  | succ m ih =>
    intro i uu hm hi ht hu hE
    have hn := hI.n.1
    have q7 := LH.r hI hu hi0
    refine v_iload C dX4_firstSunday_7 rfl rfl ?_
    refine v_sipush C dX4_firstSunday_9 sp_200 rfl ?_
    refine v_icmp_gt C 48 15 dX4_firstSunday_12 (by decide) rfl (fun h12 => ?_) (fun h12 => ?_)
    · have g : i = 201 := by have := (lt_n (a := 200) (b := i) (by omega) (by omega)).mp h12; omega
      subst g
      refine v_aload_n C dX4_firstSunday_48 rfl rfl ?_
      refine v_ldc C dX4_firstSunday_49 cn_X4_153 rfl ?_
      refine v_iV C dX4_firstSunday_51 mi_X4_tell (c_X4_tell hS hX (p := 3) (by decide) (by decide)) rfl hS.1.1 hS.1.2 rfl ml_X4_49 (rk_of rfl) rfl (Nat.le_of_ble_eq_true rfl) rfl (px_k ?_)
      exact v_iret C hQ dX4_firstSunday_54 ⟨by rw [if_neg (show ¬ fsN (fun k => rcS gl v (suN k d (21 + i0)) (suN k d (45 + i0))) 201 0 ≤ 200 by rw [hE]; show ¬ 201 ≤ 200; omega)], by rw [if_neg (show ¬ fsN (fun k => rcS gl v (suN k d (21 + i0)) (suN k d (45 + i0))) 201 0 ≤ 200 by rw [hE]; show ¬ 201 ≤ 200; omega)]; exact ht.tl 3⟩
    · have g : i ≤ 200 := by rcases Nat.lt_or_ge 200 i with q | q; exact absurd ((lt_n (a := 200) (b := i) (by omega) (by omega)).mpr q) h12; exact q
      rw [show 201 - i = (200 - i) + 1 by omega] at hE
      refine v_aload_n C dX4_firstSunday_15 rfl rfl ?_
      refine g_X4_trial C hS.1 dX4_firstSunday_16 fl_X4_16 rfl ?_
      refine g_X0_residents C hS.2.2.1.1 dX4_firstSunday_19 fl_X4_71 rfl ?_
      refine v_iload_n C dX4_firstSunday_22 rfl rfl ?_
      refine a_R C hS.2.2.1.2.2.2.1 dX4_firstSunday_23 (i0) hr (by omega) rfl ?_
      refine v_iload_n C dX4_firstSunday_24 rfl rfl ?_
      refine v_iload_n C dX4_firstSunday_25 rfl rfl ?_
      refine v_iV C dX4_firstSunday_26 mi_X1_reaches (c_X1_reaches (hS.2.2.1.2.2.2.2.2 (i0) (by omega))) rfl (hS.2.2.1.2.2.2.2.2 (i0) (by omega)).1 (hS.2.2.1.2.2.2.2.2 (i0) (by omega)).2 rfl ml_X4_273 (rk_of rfl) rfl (Nat.le_of_ble_eq_true rfl) rfl (px_k ?_)
      refine v_eqi (b := rcS gl v (suN i d (21 + i0)) (suN i d (45 + i0))) (by rw [← q7.2.1, ← q7.2.2.2.2]; rfl) ?_
      refine v_if_eq C 35 32 dX4_firstSunday_29 (by decide) rfl (fun h29 => ?_) (fun h29 => ?_)
      · refine v_aload_n C dX4_firstSunday_35 rfl rfl ?_
        refine g_X4_trial C hS.1 dX4_firstSunday_36 fl_X4_16 rfl ?_
        refine v_vV C dX4_firstSunday_39 mi_X0_passSunday (c_X0_passSunday hS.2.2.1 hX (hu.iv (IvD_n hI i))) rfl hS.2.2.1.1.1 hS.2.2.1.1.2 rfl ml_X4_150 (rk_of rfl) rfl (Nat.le_of_ble_eq_true rfl) rfl (pv_k ?_)
        refine v_iincN C dX4_firstSunday_42 rfl (by decide) rfl ?_
        refine v_goto C 7 dX4_firstSunday_45 (by decide) ?_
        exact V.norm (ih (i + 1) _ (by omega) (by omega) (ht.ps (by rw [suN_dn hI]; omega)) (LH_ps hu (IvD_n hI i)) (by rw [hE, fsN_n h29, show 201 - (i + 1) = 200 - i by omega])) rfl
      · refine v_iload C dX4_firstSunday_32 rfl rfl ?_
        exact v_iret C hQ dX4_firstSunday_34 ⟨by rw [hE, fsN_y h29, if_pos g], by rw [hE, fsN_y h29, if_pos g]; exact ht⟩
set_option maxRecDepth 100000 in
set_option maxHeartbeats 4000000 in
theorem c_X4_firstSunday {l : Launch} {w : WC} {μ : Me} (hS : Sv w) (hX : Nx w) {d : Nat → Int32} (hL : LH μ 1 d) (hI : IvD d) {r gl v : Int32} {i0 : Nat} (hr : r = nI i0) (hi0 : i0 < dn d) : CtI l w yX4_firstSunday cX4_firstSunday 5 (some .int) (Rm 4 93) [.ref (w_ad w 0), .int r, .int gl, .int v] μ (Pt (if fsN (fun k => rcS gl v (suN k d (21 + i0)) (suN k d (45 + i0))) 201 0 ≤ 200 then nI (fsN (fun k => rcS gl v (suN k d (21 + i0)) (suN k d (45 + i0))) 201 0) else -1000004) (if fsN (fun k => rcS gl v (suN k d (21 + i0)) (suN k d (45 + i0))) 201 0 ≤ 200 then μ else tlS μ 3)) := by
  refine Ct.mk (own := RX4) rfl (by decide) (Nat.le_of_ble_eq_true rfl) (fun x hxl C hQ => ?_)
  subst hxl
  refine v_aload_n C dX4_firstSunday_0 rfl rfl ?_
  refine v_vV C dX4_firstSunday_1 mi_X4_beginTrial (c_X4_beginTrial hS hX hL hI) rfl hS.1.1 hS.1.2 rfl ml_X4_135 (rk_of rfl) rfl (Nat.le_of_ble_eq_true rfl) rfl (pv_k ?_)
  refine v_iconst C dX4_firstSunday_4 ic_0 rfl ?_
  refine v_istore C dX4_firstSunday_5 (by decide) rfl ?_
  exact V.norm (lp_X4_firstSunday_7 hS hX hL hI hr hi0 C hQ 202 0 _ (by omega) (by omega) ((Tr.rf μ).tk hI.n.1) (tk14 hL hI) rfl) rfl

set_option maxRecDepth 100000 in
set_option maxHeartbeats 4000000 in
theorem c_X4_glad {l : Launch} {w : WC} {μ : Me} (hS : Sv w) (hX : Nx w) {d : Nat → Int32} (hL : LH μ 1 d) (hI : IvD d) {r v : Int32} : CtI l w yX4_glad cX4_glad 3 (some .int) (Rm 5 117) [.ref (w_ad w 0), .int r, .int v] μ (Pt (if wiS r 0 (d 0 - 1) = 0 ∨ wiS v 0 99 = 0 then -1000001 else (if fsN (fun k => rcS 0 v (suN k d (21 + cl r)) (suN k d (45 + cl r))) 201 0 ≤ 200 then nI (fsN (fun k => rcS 0 v (suN k d (21 + cl r)) (suN k d (45 + cl r))) 201 0) else -1000004)) (if wiS r 0 (d 0 - 1) = 0 ∨ wiS v 0 99 = 0 then tlS μ 0 else (if fsN (fun k => rcS 0 v (suN k d (21 + cl r)) (suN k d (45 + cl r))) 201 0 ≤ 200 then μ else tlS μ 3))) := by
  refine Ct.mk (own := RX4) rfl (by decide) (Nat.le_of_ble_eq_true rfl) (fun x hxl C hQ => ?_)
  subst hxl
  have hn := hI.n.1
  have h0 : μ.1 1 3 = nI (dn d) := hL.1.trans hI.n.2
  refine v_aload_n C dX4_glad_0 rfl rfl ?_
  refine g_X4_live C hS.1 dX4_glad_1 fl_X4_12 rfl ?_
  refine v_iload_n C dX4_glad_4 rfl rfl ?_
  refine v_iV C dX4_glad_5 mi_X0_has (c_X0_has hS.2.1 hX) rfl hS.2.1.1.1 hS.2.1.1.2 rfl ml_X4_67 (rk_of rfl) rfl (Nat.le_of_ble_eq_true rfl) rfl (px_k ?_)
  refine v_if_eq C 21 11 dX4_glad_8 (by decide) rfl (fun h8 => ?_) (fun h8 => ?_)
  · refine v_aload_n C dX4_glad_21 rfl rfl ?_
    refine v_ldc C dX4_glad_22 cn_X4_48 rfl ?_
    refine v_iV C dX4_glad_24 mi_X4_tell (c_X4_tell hS hX (p := 0) (by decide) (by decide)) rfl hS.1.1 hS.1.2 rfl ml_X4_49 (rk_of rfl) rfl (Nat.le_of_ble_eq_true rfl) rfl (px_k ?_)
    exact v_iret C hQ dX4_glad_27 ⟨(if_pos (by rw [← hL.1]; first | exact Or.inl h8 | exact Or.inr h18)).symm, by rw [if_pos (by rw [← hL.1]; first | exact Or.inl h8 | exact Or.inr h18)]; exact Tr.rf _⟩
  · refine v_iload_n C dX4_glad_11 rfl rfl ?_
    refine v_iconst C dX4_glad_12 ic_0 rfl ?_
    refine v_bipush C dX4_glad_13 bp_99 rfl ?_
    refine v_iS C dX4_glad_15 ms_X4_within c_X4_within rfl ml_X4_56 (rk_of rfl) rfl (Nat.le_of_ble_eq_true rfl) rfl (px_k ?_)
    refine v_if_ne C 28 21 dX4_glad_18 (by decide) rfl (fun h18 => ?_) (fun h18 => ?_)
    · have q := has_i hn h0 h8
      have nc : ¬ (wiS r 0 (d 0 - 1) = 0 ∨ wiS v 0 99 = 0) := by rw [← hL.1]; exact fun h => h.elim h8 h18
      refine v_aload_n C dX4_glad_28 rfl rfl ?_
      refine v_iload_n C dX4_glad_29 rfl rfl ?_
      refine v_iconst C dX4_glad_30 ic_0 rfl ?_
      refine v_iload_n C dX4_glad_31 rfl rfl ?_
      refine v_iV C dX4_glad_32 mi_X4_firstSunday (c_X4_firstSunday hS hX hL hI q.1 q.2) rfl hS.1.1 hS.1.2 rfl ml_X4_138 (rk_of rfl) rfl (Nat.le_of_ble_eq_true rfl) rfl (fun r32 u32 hu32 => ?_)
      obtain ⟨hu1, hu2⟩ := hu32
      subst hu1
      exact v_iret C hQ dX4_glad_35 ⟨(if_neg nc).symm, by rw [if_neg nc]; exact hu2⟩
    · refine v_aload_n C dX4_glad_21 rfl rfl ?_
      refine v_ldc C dX4_glad_22 cn_X4_48 rfl ?_
      refine v_iV C dX4_glad_24 mi_X4_tell (c_X4_tell hS hX (p := 0) (by decide) (by decide)) rfl hS.1.1 hS.1.2 rfl ml_X4_49 (rk_of rfl) rfl (Nat.le_of_ble_eq_true rfl) rfl (px_k ?_)
      exact v_iret C hQ dX4_glad_27 ⟨(if_pos (by rw [← hL.1]; first | exact Or.inl h8 | exact Or.inr h18)).symm, by rw [if_pos (by rw [← hL.1]; first | exact Or.inl h8 | exact Or.inr h18)]; exact Tr.rf _⟩

set_option maxRecDepth 100000 in
set_option maxHeartbeats 4000000 in
theorem c_X4_sad {l : Launch} {w : WC} {μ : Me} (hS : Sv w) (hX : Nx w) {d : Nat → Int32} (hL : LH μ 1 d) (hI : IvD d) {r v : Int32} : CtI l w yX4_sad cX4_sad 3 (some .int) (Rm 5 117) [.ref (w_ad w 0), .int r, .int v] μ (Pt (if wiS r 0 (d 0 - 1) = 0 ∨ wiS v 0 99 = 0 then -1000001 else (if fsN (fun k => rcS 1 v (suN k d (21 + cl r)) (suN k d (45 + cl r))) 201 0 ≤ 200 then nI (fsN (fun k => rcS 1 v (suN k d (21 + cl r)) (suN k d (45 + cl r))) 201 0) else -1000004)) (if wiS r 0 (d 0 - 1) = 0 ∨ wiS v 0 99 = 0 then tlS μ 0 else (if fsN (fun k => rcS 1 v (suN k d (21 + cl r)) (suN k d (45 + cl r))) 201 0 ≤ 200 then μ else tlS μ 3))) := by
  refine Ct.mk (own := RX4) rfl (by decide) (Nat.le_of_ble_eq_true rfl) (fun x hxl C hQ => ?_)
  subst hxl
  have hn := hI.n.1
  have h0 : μ.1 1 3 = nI (dn d) := hL.1.trans hI.n.2
  refine v_aload_n C dX4_sad_0 rfl rfl ?_
  refine g_X4_live C hS.1 dX4_sad_1 fl_X4_12 rfl ?_
  refine v_iload_n C dX4_sad_4 rfl rfl ?_
  refine v_iV C dX4_sad_5 mi_X0_has (c_X0_has hS.2.1 hX) rfl hS.2.1.1.1 hS.2.1.1.2 rfl ml_X4_67 (rk_of rfl) rfl (Nat.le_of_ble_eq_true rfl) rfl (px_k ?_)
  refine v_if_eq C 21 11 dX4_sad_8 (by decide) rfl (fun h8 => ?_) (fun h8 => ?_)
  · refine v_aload_n C dX4_sad_21 rfl rfl ?_
    refine v_ldc C dX4_sad_22 cn_X4_48 rfl ?_
    refine v_iV C dX4_sad_24 mi_X4_tell (c_X4_tell hS hX (p := 0) (by decide) (by decide)) rfl hS.1.1 hS.1.2 rfl ml_X4_49 (rk_of rfl) rfl (Nat.le_of_ble_eq_true rfl) rfl (px_k ?_)
    exact v_iret C hQ dX4_sad_27 ⟨(if_pos (by rw [← hL.1]; first | exact Or.inl h8 | exact Or.inr h18)).symm, by rw [if_pos (by rw [← hL.1]; first | exact Or.inl h8 | exact Or.inr h18)]; exact Tr.rf _⟩
  · refine v_iload_n C dX4_sad_11 rfl rfl ?_
    refine v_iconst C dX4_sad_12 ic_0 rfl ?_
    refine v_bipush C dX4_sad_13 bp_99 rfl ?_
    refine v_iS C dX4_sad_15 ms_X4_within c_X4_within rfl ml_X4_56 (rk_of rfl) rfl (Nat.le_of_ble_eq_true rfl) rfl (px_k ?_)
    refine v_if_ne C 28 21 dX4_sad_18 (by decide) rfl (fun h18 => ?_) (fun h18 => ?_)
    · have q := has_i hn h0 h8
      have nc : ¬ (wiS r 0 (d 0 - 1) = 0 ∨ wiS v 0 99 = 0) := by rw [← hL.1]; exact fun h => h.elim h8 h18
      refine v_aload_n C dX4_sad_28 rfl rfl ?_
      refine v_iload_n C dX4_sad_29 rfl rfl ?_
      refine v_iconst C dX4_sad_30 ic_1 rfl ?_
      refine v_iload_n C dX4_sad_31 rfl rfl ?_
      refine v_iV C dX4_sad_32 mi_X4_firstSunday (c_X4_firstSunday hS hX hL hI q.1 q.2) rfl hS.1.1 hS.1.2 rfl ml_X4_138 (rk_of rfl) rfl (Nat.le_of_ble_eq_true rfl) rfl (fun r32 u32 hu32 => ?_)
      obtain ⟨hu1, hu2⟩ := hu32
      subst hu1
      exact v_iret C hQ dX4_sad_35 ⟨(if_neg nc).symm, by rw [if_neg nc]; exact hu2⟩
    · refine v_aload_n C dX4_sad_21 rfl rfl ?_
      refine v_ldc C dX4_sad_22 cn_X4_48 rfl ?_
      refine v_iV C dX4_sad_24 mi_X4_tell (c_X4_tell hS hX (p := 0) (by decide) (by decide)) rfl hS.1.1 hS.1.2 rfl ml_X4_49 (rk_of rfl) rfl (Nat.le_of_ble_eq_true rfl) rfl (px_k ?_)
      exact v_iret C hQ dX4_sad_27 ⟨(if_pos (by rw [← hL.1]; first | exact Or.inl h8 | exact Or.inr h18)).symm, by rw [if_pos (by rw [← hL.1]; first | exact Or.inl h8 | exact Or.inr h18)]; exact Tr.rf _⟩

set_option maxRecDepth 100000 in
set_option maxHeartbeats 4000000 in
theorem c_X4_when {l : Launch} {w : WC} {μ : Me} (hS : Sv w) (hX : Nx w) {d : Nat → Int32} (hL : LH μ 1 d) (hI : IvD d) {r v : Int32} : CtI l w yX4_when cX4_when 3 (some .int) (Rm 5 117) [.ref (w_ad w 0), .int r, .int v] μ (Pt (if wiS r 0 (d 0 - 1) = 0 ∨ wiS v 0 9999 = 0 then -1000001 else (if fsN (fun k => rcS 2 v (suN k d (21 + cl r)) (suN k d (45 + cl r))) 201 0 ≤ 200 then nI (fsN (fun k => rcS 2 v (suN k d (21 + cl r)) (suN k d (45 + cl r))) 201 0) else -1000004)) (if wiS r 0 (d 0 - 1) = 0 ∨ wiS v 0 9999 = 0 then tlS μ 0 else (if fsN (fun k => rcS 2 v (suN k d (21 + cl r)) (suN k d (45 + cl r))) 201 0 ≤ 200 then μ else tlS μ 3))) := by
  refine Ct.mk (own := RX4) rfl (by decide) (Nat.le_of_ble_eq_true rfl) (fun x hxl C hQ => ?_)
  subst hxl
  have hn := hI.n.1
  have h0 : μ.1 1 3 = nI (dn d) := hL.1.trans hI.n.2
  refine v_aload_n C dX4_when_0 rfl rfl ?_
  refine g_X4_live C hS.1 dX4_when_1 fl_X4_12 rfl ?_
  refine v_iload_n C dX4_when_4 rfl rfl ?_
  refine v_iV C dX4_when_5 mi_X0_has (c_X0_has hS.2.1 hX) rfl hS.2.1.1.1 hS.2.1.1.2 rfl ml_X4_67 (rk_of rfl) rfl (Nat.le_of_ble_eq_true rfl) rfl (px_k ?_)
  refine v_if_eq C 22 11 dX4_when_8 (by decide) rfl (fun h8 => ?_) (fun h8 => ?_)
  · refine v_aload_n C dX4_when_22 rfl rfl ?_
    refine v_ldc C dX4_when_23 cn_X4_48 rfl ?_
    refine v_iV C dX4_when_25 mi_X4_tell (c_X4_tell hS hX (p := 0) (by decide) (by decide)) rfl hS.1.1 hS.1.2 rfl ml_X4_49 (rk_of rfl) rfl (Nat.le_of_ble_eq_true rfl) rfl (px_k ?_)
    exact v_iret C hQ dX4_when_28 ⟨(if_pos (by rw [← hL.1]; first | exact Or.inl h8 | exact Or.inr h19)).symm, by rw [if_pos (by rw [← hL.1]; first | exact Or.inl h8 | exact Or.inr h19)]; exact Tr.rf _⟩
  · refine v_iload_n C dX4_when_11 rfl rfl ?_
    refine v_iconst C dX4_when_12 ic_0 rfl ?_
    refine v_sipush C dX4_when_13 sp_9999 rfl ?_
    refine v_iS C dX4_when_16 ms_X4_within c_X4_within rfl ml_X4_56 (rk_of rfl) rfl (Nat.le_of_ble_eq_true rfl) rfl (px_k ?_)
    refine v_if_ne C 29 22 dX4_when_19 (by decide) rfl (fun h19 => ?_) (fun h19 => ?_)
    · have q := has_i hn h0 h8
      have nc : ¬ (wiS r 0 (d 0 - 1) = 0 ∨ wiS v 0 9999 = 0) := by rw [← hL.1]; exact fun h => h.elim h8 h19
      refine v_aload_n C dX4_when_29 rfl rfl ?_
      refine v_iload_n C dX4_when_30 rfl rfl ?_
      refine v_iconst C dX4_when_31 ic_2 rfl ?_
      refine v_iload_n C dX4_when_32 rfl rfl ?_
      refine v_iV C dX4_when_33 mi_X4_firstSunday (c_X4_firstSunday hS hX hL hI q.1 q.2) rfl hS.1.1 hS.1.2 rfl ml_X4_138 (rk_of rfl) rfl (Nat.le_of_ble_eq_true rfl) rfl (fun r33 u33 hu33 => ?_)
      obtain ⟨hu1, hu2⟩ := hu33
      subst hu1
      exact v_iret C hQ dX4_when_36 ⟨(if_neg nc).symm, by rw [if_neg nc]; exact hu2⟩
    · refine v_aload_n C dX4_when_22 rfl rfl ?_
      refine v_ldc C dX4_when_23 cn_X4_48 rfl ?_
      refine v_iV C dX4_when_25 mi_X4_tell (c_X4_tell hS hX (p := 0) (by decide) (by decide)) rfl hS.1.1 hS.1.2 rfl ml_X4_49 (rk_of rfl) rfl (Nat.le_of_ble_eq_true rfl) rfl (px_k ?_)
      exact v_iret C hQ dX4_when_28 ⟨(if_pos (by rw [← hL.1]; first | exact Or.inl h8 | exact Or.inr h19)).symm, by rw [if_pos (by rw [← hL.1]; first | exact Or.inl h8 | exact Or.inr h19)]; exact Tr.rf _⟩

set_option maxRecDepth 100000 in
set_option maxHeartbeats 4000000 in
theorem lp_X4_well_6 {w : WC} {x : Cy} {μ : Me} (hS : Sv w) (hX : Nx w) {d : Nat → Int32} (hL : LH μ 1 d) (hI : IvD d)  (C : Cx w x cX4_well 2 RX4 (some .int) (Rm 4 93)) (hQ : y_Q x = MQ (y_b x) (QI w (Pt (if fsN (fun k => if onL (weL (fun r => suN k d (21 + r)) (dn d)) 8 = d 0 then (1 : Int32) else 0) 201 0 ≤ 200 then nI (fsN (fun k => if onL (weL (fun r => suN k d (21 + r)) (dn d)) 8 = d 0 then (1 : Int32) else 0) 201 0) else -1000004) (if fsN (fun k => if onL (weL (fun r => suN k d (21 + r)) (dn d)) 8 = d 0 then (1 : Int32) else 0) 201 0 ≤ 200 then μ else tlS μ 3))) (y_a x) (y_s x) 0 0 (AA w)) : ∀ (m i : Nat) (uu : Me), 201 + 1 ≤ i + m → i ≤ 201 → (Tr μ uu) → (LH uu 14 (suN i d)) → (fsN (fun k => if onL (weL (fun r => suN k d (21 + r)) (dn d)) 8 = d 0 then (1 : Int32) else 0) 201 0 = fsN (fun k => if onL (weL (fun r => suN k d (21 + r)) (dn d)) 8 = d 0 then (1 : Int32) else 0) (201 - i) i) → V w x 2 uu 6 [(0, .ref (w_ad w 0)), (1, .int (nI i))] [] := by
  intro m
  induction m with
  | zero =>
    intro i uu hm hi
    exact absurd hm (by omega)
  | succ m ih =>
    intro i uu hm hi ht hu hE
    have hn := hI.n.1
    have hz := LH.n0 hI hu
    have hw : weL (fun r => uu.1 (14 + 3 + 2 + r) 1) (dn d) = weL (fun r => suN i d (21 + r)) (dn d) := weL_congr (fun r hr => (LH.r hI hu hr).2.1)
    have hz2 : uu.1 14 3 = d 0 := hz.trans hI.n.2.symm
    refine v_iload_n C dX4_well_6 rfl rfl ?_
    refine v_sipush C dX4_well_7 sp_200 rfl ?_
    refine v_icmp_gt C 48 13 dX4_well_10 (by decide) rfl (fun h10 => ?_) (fun h10 => ?_)
    · have g : i = 201 := by have := (lt_n (a := 200) (b := i) (by omega) (by omega)).mp h10; omega
      subst g
      refine v_aload_n C dX4_well_48 rfl rfl ?_
      refine v_ldc C dX4_well_49 cn_X4_153 rfl ?_
      refine v_iV C dX4_well_51 mi_X4_tell (c_X4_tell hS hX (p := 3) (by decide) (by decide)) rfl hS.1.1 hS.1.2 rfl ml_X4_49 (rk_of rfl) rfl (Nat.le_of_ble_eq_true rfl) rfl (px_k ?_)
      exact v_iret C hQ dX4_well_54 ⟨by rw [if_neg (show ¬ fsN (fun k => if onL (weL (fun r => suN k d (21 + r)) (dn d)) 8 = d 0 then (1 : Int32) else 0) 201 0 ≤ 200 by rw [hE]; show ¬ 201 ≤ 200; omega)], by rw [if_neg (show ¬ fsN (fun k => if onL (weL (fun r => suN k d (21 + r)) (dn d)) 8 = d 0 then (1 : Int32) else 0) 201 0 ≤ 200 by rw [hE]; show ¬ 201 ≤ 200; omega)]; exact ht.tl 3⟩
    · have g : i ≤ 200 := by rcases Nat.lt_or_ge 200 i with q | q; exact absurd ((lt_n (a := 200) (b := i) (by omega) (by omega)).mpr q) h10; exact q
      rw [show 201 - i = (200 - i) + 1 by omega] at hE
      refine v_aload_n C dX4_well_13 rfl rfl ?_
      refine g_X4_trial C hS.1 dX4_well_14 fl_X4_16 rfl ?_
      refine v_iV C dX4_well_17 mi_X0_wellOnes (c_X0_wellOnes hS.2.2.1 hX hn hz) rfl hS.2.2.1.1.1 hS.2.2.1.1.2 rfl ml_X4_114 (rk_of rfl) rfl (Nat.le_of_ble_eq_true rfl) rfl (px_k ?_)
      rw [hw]
      refine v_iS C dX4_well_20 ms_J6_bitCount_0f7a4 c_J6_bitCount_0f7a4 rfl ml_X4_142 (rk_of rfl) rfl (Nat.le_of_ble_eq_true rfl) rfl (px_k ?_)
      rw [we_bc hn]
      refine v_aload_n C dX4_well_23 rfl rfl ?_
      refine g_X4_trial C hS.1 dX4_well_24 fl_X4_16 rfl ?_
      refine g_X0_size C hS.2.2.1.1 dX4_well_27 fl_X4_147 rfl ?_
      refine v_eqi (hz2) ?_
      refine v_icmp_ne C 35 33 dX4_well_30 (by decide) rfl (fun h30 => ?_) (fun h30 => ?_)
      · refine v_aload_n C dX4_well_35 rfl rfl ?_
        refine g_X4_trial C hS.1 dX4_well_36 fl_X4_16 rfl ?_
        refine v_vV C dX4_well_39 mi_X0_passSunday (c_X0_passSunday hS.2.2.1 hX (hu.iv (IvD_n hI i))) rfl hS.2.2.1.1.1 hS.2.2.1.1.2 rfl ml_X4_150 (rk_of rfl) rfl (Nat.le_of_ble_eq_true rfl) rfl (pv_k ?_)
        refine v_iincN C dX4_well_42 rfl (by decide) rfl ?_
        refine v_goto C 6 dX4_well_45 (by decide) ?_
        exact V.norm (ih (i + 1) _ (by omega) (by omega) (ht.ps (by rw [suN_dn hI]; omega)) (LH_ps hu (IvD_n hI i)) (by rw [hE, fsN_n (show (fun k => if onL (weL (fun r => suN k d (21 + r)) (dn d)) 8 = d 0 then (1 : Int32) else 0) i = 0 by exact if_neg h30), show 201 - (i + 1) = 200 - i by omega])) rfl
      · refine v_iload_n C dX4_well_33 rfl rfl ?_
        exact v_iret C hQ dX4_well_34 ⟨by rw [hE, fsN_y (show ¬ (fun k => if onL (weL (fun r => suN k d (21 + r)) (dn d)) 8 = d 0 then (1 : Int32) else 0) i = 0 by show ¬ (if _ then _ else _) = _; rw [if_pos h30]; decide), if_pos g], by rw [hE, fsN_y (show ¬ (fun k => if onL (weL (fun r => suN k d (21 + r)) (dn d)) 8 = d 0 then (1 : Int32) else 0) i = 0 by show ¬ (if _ then _ else _) = _; rw [if_pos h30]; decide), if_pos g]; exact ht⟩
set_option maxRecDepth 100000 in
set_option maxHeartbeats 4000000 in
theorem c_X4_well {l : Launch} {w : WC} {μ : Me} (hS : Sv w) (hX : Nx w) {d : Nat → Int32} (hL : LH μ 1 d) (hI : IvD d) : CtI l w yX4_well cX4_well 2 (some .int) (Rm 4 93) [.ref (w_ad w 0)] μ (Pt (if fsN (fun k => if onL (weL (fun r => suN k d (21 + r)) (dn d)) 8 = d 0 then (1 : Int32) else 0) 201 0 ≤ 200 then nI (fsN (fun k => if onL (weL (fun r => suN k d (21 + r)) (dn d)) 8 = d 0 then (1 : Int32) else 0) 201 0) else -1000004) (if fsN (fun k => if onL (weL (fun r => suN k d (21 + r)) (dn d)) 8 = d 0 then (1 : Int32) else 0) 201 0 ≤ 200 then μ else tlS μ 3)) := by
  refine Ct.mk (own := RX4) rfl (by decide) (Nat.le_of_ble_eq_true rfl) (fun x hxl C hQ => ?_)
  subst hxl
  refine v_aload_n C dX4_well_0 rfl rfl ?_
  refine v_vV C dX4_well_1 mi_X4_beginTrial (c_X4_beginTrial hS hX hL hI) rfl hS.1.1 hS.1.2 rfl ml_X4_135 (rk_of rfl) rfl (Nat.le_of_ble_eq_true rfl) rfl (pv_k ?_)
  refine v_iconst C dX4_well_4 ic_0 rfl ?_
  refine v_istore_n C dX4_well_5 (by decide) rfl ?_
  exact V.norm (lp_X4_well_6 hS hX hL hI C hQ 202 0 _ (by omega) (by omega) ((Tr.rf μ).tk hI.n.1) (tk14 hL hI) rfl) rfl

set_option maxRecDepth 100000 in
set_option maxHeartbeats 4000000 in
theorem c_X4_tryWith {l : Launch} {w : WC} {μ : Me} (hS : Sv w) (hX : Nx w) {d : Nat → Int32} (hL : LH μ 1 d) (hI : IvD d) {a v c : Int32} {s t : Nat} (hs : s < 4) (ha : a = nI s) (hf : ¬ fitS a v = 0) (hI2 : IvD (upd d (3 + s) v)) (ht : t ≤ 100) (hc : c = nI t) : CtV l w yX4_tryWith cX4_tryWith 4 (Rm 5 115) [.ref (w_ad w 0), .int a, .int v, .int c] μ (fun u => Tr μ u ∧ LH u 14 (suN t (upd d (3 + s) v))) := by
  refine Ct.mk (own := RX4) rfl (by decide) (Nat.le_of_ble_eq_true rfl) (fun x hxl C hQ => ?_)
  subst hxl
  have hn := hI.n.1
  have h0 : μ.1 1 3 = nI (dn d) := hL.1.trans hI.n.2
  have hT := tk14 hL hI
  have hU := LH_upS hT hn hs v
  refine v_aload_n C dX4_tryWith_0 rfl rfl ?_
  refine v_vV C dX4_tryWith_1 mi_X4_beginTrial (c_X4_beginTrial hS hX hL hI) rfl hS.1.1 hS.1.2 rfl ml_X4_135 (rk_of rfl) rfl (Nat.le_of_ble_eq_true rfl) rfl (pv_k ?_)
  refine v_iload_n C dX4_tryWith_4 rfl rfl ?_
  refine v_iload_n C dX4_tryWith_5 rfl rfl ?_
  refine v_iS C dX4_tryWith_6 ms_X4_settingFits c_X4_settingFits rfl ml_X4_44 (rk_of rfl) rfl (Nat.le_of_ble_eq_true rfl) rfl (px_k ?_)
  refine v_if_eq C 22 12 dX4_tryWith_9 (by decide) rfl (fun h9 => ?_) (fun h9 => ?_)
  · exact absurd h9 hf
  · refine v_aload_n C dX4_tryWith_12 rfl rfl ?_
    refine g_X4_trial C hS.1 dX4_tryWith_13 fl_X4_16 rfl ?_
    refine g_X0_settings C hS.2.2.1.1 dX4_tryWith_16 fl_X4_53 rfl ?_
    refine v_iload_n C dX4_tryWith_19 rfl rfl ?_
    refine v_iload_n C dX4_tryWith_20 rfl rfl ?_
    refine s_I C hS.2.2.1.2.1 (by decide) dX4_tryWith_21 (s) ha hs rfl ?_
    refine v_aload_n C dX4_tryWith_22 rfl rfl ?_
    refine g_X4_trial C hS.1 dX4_tryWith_23 fl_X4_16 rfl ?_
    refine v_iload_n C dX4_tryWith_26 rfl rfl ?_
    refine v_vV C dX4_tryWith_27 mi_X0_pass (c_X0_pass hS.2.2.1 hX (hU.iv hI2) (t := t) (by omega) hc) rfl hS.2.2.1.1.1 hS.2.2.1.1.2 rfl ml_X4_107 (rk_of rfl) rfl (Nat.le_of_ble_eq_true rfl) rfl (pv_k ?_)
    exact v_vret C hQ dX4_tryWith_30 ⟨(((Tr.rf μ).tk hn).up (by omega)).pn (by rw [dn_upd (by omega)]; exact hn) _, LH_pn hU hI2 _⟩

set_option maxRecDepth 100000 in
set_option maxHeartbeats 4000000 in
theorem lp_X4_longFor_30 {w : WC} {x : Cy} {μ : Me} (hS : Sv w) (hX : Nx w) {d : Nat → Int32} (hL : LH μ 1 d) (hI : IvD d) {n : Int32} (h7 : ¬ wiS n 0 40 = 0) (C : Cx w x cX4_longFor 6 RX4 (some .int) (Rm 6 138)) (hQ : y_Q x = MQ (y_b x) (QI w (Pt (if wiS n 0 40 = 0 then -1000001 else (bsL (fun i => smL (fun r => suN (cl n) (upd d 6 (nI (i + 1))) (21 + r)) (dn d)) (fun i => nI (i + 1)) 1 12).1) (if wiS n 0 40 = 0 then tlS μ 0 else μ))) (y_a x) (y_s x) 0 0 (AA w)) : ∀ (m i : Nat) (uu : Me) (a : Int32) (b : Int32), 12 + 1 ≤ i + m → i ≤ 12 → (Tr μ uu) → (a = (bsL (fun i => smL (fun r => suN (cl n) (upd d 6 (nI (i + 1))) (21 + r)) (dn d)) (fun i => nI (i + 1)) 1 i).1) → (b = (bsL (fun i => smL (fun r => suN (cl n) (upd d 6 (nI (i + 1))) (21 + r)) (dn d)) (fun i => nI (i + 1)) 1 i).2) → V w x 6 uu 30 [(0, .ref (w_ad w 0)), (1, .int n), (2, .int a), (3, .int b), (4, .int (nI (i + 1)))] [] := by
  intro m
  induction m with
  | zero =>
    intro i uu a b hm hi
    exact absurd hm (by omega)
  | succ m ih =>
    intro i uu a b hm hi ht ha hb
    have hn := hI.n.1
    have q := wi_i (m := 40) (by omega) h7
    have hl := hL.tr ht hI
    refine v_iload C dX4_longFor_30 rfl rfl ?_
    refine v_iconst C dX4_longFor_32 ic_3 rfl ?_
    refine v_iS C dX4_longFor_33 ms_X4_mostSetting c_X4_mostSetting rfl ml_X4_157 (rk_of rfl) rfl (Nat.le_of_ble_eq_true rfl) rfl (px_k ?_)
    refine v_eqi (show mostS 3 = 12 by decide) ?_
    refine v_icmp_gt C 74 39 dX4_longFor_36 (by decide) rfl (fun h36 => ?_) (fun h36 => ?_)
    · have g : i = 12 := by have := (lt_n (a := 12) (b := i + 1) (by omega) (by omega)).mp h36; omega
      refine v_iload_n C dX4_longFor_74 rfl rfl ?_
      exact v_iret C hQ dX4_longFor_75 ⟨by rw [if_neg h7, ha, g], by rw [if_neg h7]; exact ht⟩
    · have g : i < 12 := by rcases Nat.lt_or_ge 12 (i + 1) with q | q; exact absurd ((lt_n (a := 12) (b := i + 1) (by omega) (by omega)).mpr q) h36; omega
      have hI2 : IvD (upd d (3 + 3) (nI (i + 1))) := IvD_upd hI (by omega) (by omega) (by omega) (by omega) (by omega) (fun _ => ⟨i + 1, by omega, by omega, rfl⟩) (by omega) (by omega) (by omega) (by omega) (by omega) (by omega)
      have hfit : ¬ fitS 3 (nI (i + 1)) = 0 := fit_y (s := 3) (by omega) (show wiS (nI (i + 1)) 1 12 = 1 from wiS_1.mpr ⟨nI_le (a := 1) (by omega) (by omega), nI_le (b := 12) (by omega) (by omega)⟩)
      refine v_aload_n C dX4_longFor_39 rfl rfl ?_
      refine v_iconst C dX4_longFor_40 ic_3 rfl ?_
      refine v_iload C dX4_longFor_41 rfl rfl ?_
      refine v_iload_n C dX4_longFor_43 rfl rfl ?_
      refine v_vV C dX4_longFor_44 mi_X4_tryWith (c_X4_tryWith hS hX hl hI (s := 3) (by omega) rfl hfit hI2 (t := cl n) (by omega) q.1) rfl hS.1.1 hS.1.2 rfl ml_X4_160 (rk_of rfl) rfl (Nat.le_of_ble_eq_true rfl) rfl (fun u44 hu44 => ?_)
      obtain ⟨hu1, hu2⟩ := hu44
      have ed := dn_upd (d := d) (a := 6) (v := nI (i + 1)) (by decide)
      have hz := LH.n0 hI2 hu2
      rw [ed] at hz
      have hw : smL (fun r => u44.1 (14 + 3 + 2 + r) 1) (dn d) = smL (fun r => suN (cl n) (upd d 6 (nI (i + 1))) (21 + r)) (dn d) := smL_congr (fun r hr => (LH.r hI2 hu2 (by rw [ed]; exact hr)).2.1)
      refine v_aload_n C dX4_longFor_47 rfl rfl ?_
      refine g_X4_trial C hS.1 dX4_longFor_48 fl_X4_16 rfl ?_
      refine v_iV C dX4_longFor_51 mi_X0_moods (c_X0_moods hS.2.2.1 hX hn hz) rfl hS.2.2.1.1.1 hS.2.2.1.1.2 rfl ml_X4_111 (rk_of rfl) rfl (Nat.le_of_ble_eq_true rfl) rfl (px_k ?_)
      rw [hw]
      refine v_istore C dX4_longFor_54 (by decide) rfl ?_
      refine v_iload C dX4_longFor_56 rfl rfl ?_
      refine v_iload_n C dX4_longFor_58 rfl rfl ?_
      refine v_icmp_le C 68 62 dX4_longFor_59 (by decide) rfl (fun h59 => ?_) (fun h59 => ?_)
      · refine v_iincN C dX4_longFor_68 rfl (by decide) rfl ?_
        refine v_goto C 30 dX4_longFor_71 (by decide) ?_
        exact V.norm (ih (i + 1) _ _ _ (by omega) (by omega) (ht.trans hu1) (by first | (rw [bsL_y (by rw [← hb]; exact Int32.not_le.mp h59)]; done) | (rw [bsL_n (by rw [← hb]; exact Int32.not_lt.mpr h59)]; assumption)) (by first | (rw [bsL_y (by rw [← hb]; exact Int32.not_le.mp h59)]; done) | (rw [bsL_n (by rw [← hb]; exact Int32.not_lt.mpr h59)]; assumption))) rfl
      · refine v_iload C dX4_longFor_62 rfl rfl ?_
        refine v_istore_n C dX4_longFor_64 (by decide) rfl ?_
        refine v_iload C dX4_longFor_65 rfl rfl ?_
        refine v_istore_n C dX4_longFor_67 (by decide) rfl ?_
        refine v_iincN C dX4_longFor_68 rfl (by decide) rfl ?_
        refine v_goto C 30 dX4_longFor_71 (by decide) ?_
        exact V.norm (ih (i + 1) _ _ _ (by omega) (by omega) (ht.trans hu1) (by first | (rw [bsL_y (by rw [← hb]; exact Int32.not_le.mp h59)]; done) | (rw [bsL_n (by rw [← hb]; exact Int32.not_lt.mpr h59)]; assumption)) (by first | (rw [bsL_y (by rw [← hb]; exact Int32.not_le.mp h59)]; done) | (rw [bsL_n (by rw [← hb]; exact Int32.not_lt.mpr h59)]; assumption))) rfl
set_option maxRecDepth 100000 in
set_option maxHeartbeats 4000000 in
theorem c_X4_longFor {l : Launch} {w : WC} {μ : Me} (hS : Sv w) (hX : Nx w) {d : Nat → Int32} (hL : LH μ 1 d) (hI : IvD d) {n : Int32} : CtI l w yX4_longFor cX4_longFor 6 (some .int) (Rm 6 138) [.ref (w_ad w 0), .int n] μ (Pt (if wiS n 0 40 = 0 then -1000001 else (bsL (fun i => smL (fun r => suN (cl n) (upd d 6 (nI (i + 1))) (21 + r)) (dn d)) (fun i => nI (i + 1)) 1 12).1) (if wiS n 0 40 = 0 then tlS μ 0 else μ)) := by
  refine Ct.mk (own := RX4) rfl (by decide) (Nat.le_of_ble_eq_true rfl) (fun x hxl C hQ => ?_)
  subst hxl
  refine v_iload_n C dX4_longFor_0 rfl rfl ?_
  refine v_iconst C dX4_longFor_1 ic_0 rfl ?_
  refine v_bipush C dX4_longFor_2 bp_40 rfl ?_
  refine v_iS C dX4_longFor_4 ms_X4_within c_X4_within rfl ml_X4_56 (rk_of rfl) rfl (Nat.le_of_ble_eq_true rfl) rfl (px_k ?_)
  refine v_if_ne C 17 10 dX4_longFor_7 (by decide) rfl (fun h7 => ?_) (fun h7 => ?_)
  · have q := wi_i (m := 40) (by omega) h7
    refine v_iconst C dX4_longFor_17 ic_3 rfl ?_
    refine v_iS C dX4_longFor_18 ms_X4_leastSetting c_X4_leastSetting rfl ml_X4_154 (rk_of rfl) rfl (Nat.le_of_ble_eq_true rfl) rfl (px_k ?_)
    refine v_eqi (show leastS 3 = 1 by decide) ?_
    refine v_istore_n C dX4_longFor_21 (by decide) rfl ?_
    refine v_iconst C dX4_longFor_22 ic_m1 rfl ?_
    refine v_istore_n C dX4_longFor_23 (by decide) rfl ?_
    refine v_iconst C dX4_longFor_24 ic_3 rfl ?_
    refine v_iS C dX4_longFor_25 ms_X4_leastSetting c_X4_leastSetting rfl ml_X4_154 (rk_of rfl) rfl (Nat.le_of_ble_eq_true rfl) rfl (px_k ?_)
    refine v_eqi (show leastS 3 = 1 by decide) ?_
    refine v_istore C dX4_longFor_28 (by decide) rfl ?_
    exact V.norm (lp_X4_longFor_30 hS hX hL hI h7 C hQ 13 0 _ _ _ (by omega) (by omega) (Tr.rf μ) rfl rfl) rfl
  · refine v_aload_n C dX4_longFor_10 rfl rfl ?_
    refine v_ldc C dX4_longFor_11 cn_X4_48 rfl ?_
    refine v_iV C dX4_longFor_13 mi_X4_tell (c_X4_tell hS hX (p := 0) (by decide) (by decide)) rfl hS.1.1 hS.1.2 rfl ml_X4_49 (rk_of rfl) rfl (Nat.le_of_ble_eq_true rfl) rfl (px_k ?_)
    exact v_iret C hQ dX4_longFor_16 ⟨(if_pos h7).symm, by rw [if_pos h7]; exact Tr.rf _⟩
