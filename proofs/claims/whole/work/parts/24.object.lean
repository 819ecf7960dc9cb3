set_option maxRecDepth 100000 in
set_option maxHeartbeats 4000000 in
theorem lp_X4_load_26 {w : WC} {x : Cy} {μ : Me} (hS : Sv w) (hX : Nx w) (hV : IvS μ) {s : Int32} (hl : lkS μ s = 0) (hs : cl s < 4) {z : Nat} (hz4 : z ≤ 40) (hz : μ.1 (43 + cl s) 1 = nI z) (C : Cx w x cX4_load 5 RX4 (some .int) (Rm 2 44)) (hQ : y_Q x = MQ (y_b x) (QI w (Px (if lkS μ s = 0 then nI (ldN (μ.1 (43 + cl s + 4)) (cl (μ.1 (43 + cl s) 1)) 7 0) else lkS μ s) (if lkS μ s = 0 then ua μ 3 (ldF (μ.1 (43 + cl s + 4)) (μ.1 3) (ldN (μ.1 (43 + cl s + 4)) (cl (μ.1 (43 + cl s) 1)) 7 0)) else tlS μ (lkP s)))) (y_a x) (y_s x) 0 0 (AA w)) : ∀ (m i : Nat), 6 + 1 ≤ i + m → i ≤ 6 → (ldN (μ.1 (43 + cl s + 4)) (cl (μ.1 (43 + cl s) 1)) 7 0 = ldN (μ.1 (43 + cl s + 4)) z (7 - i) i) → V w x 5 (ua μ 3 (ldF (μ.1 (43 + cl s + 4)) (μ.1 3) i)) 26 [(0, .ref (w_ad w 0)), (1, .int s), (2, .int (lkS μ s)), (3, .ref (w_ad w (42 + 1 + cl s))), (4, .int (nI i))] [] := by
  intro m
  induction m with
  | zero =>
    intro i  hm hi
    exact absurd hm (by omega)
  | succ m ih =>
    intro i  hm hi hE
    have r1 : (ua μ 3 (ldF (μ.1 (43 + cl s + 4)) (μ.1 3) i)).1 (43 + cl s) = μ.1 (43 + cl s) := ua_n _ _ (by omega)
    have r2 : (ua μ 3 (ldF (μ.1 (43 + cl s + 4)) (μ.1 3) i)).1 (43 + cl s + 4) = μ.1 (43 + cl s + 4) := ua_n _ _ (by omega)
    refine v_iload C dX4_load_26 rfl rfl ?_
    refine v_bipush C dX4_load_28 bp_6 rfl ?_
    refine v_icmp_ge C 82 33 dX4_load_30 (by decide) rfl (fun h30 => ?_) (fun h30 => ?_)
    · have g : i = 6 := by have := (le_n (a := 6) (b := i) (by omega) (by omega)).mp h30; omega
      have gg : ¬ (i < 6 ∧ i < z ∧ ¬ wiS ((μ.1 (43 + cl s + 4)) i) 0 255 = 0) := fun h => by omega
      refine v_iload C dX4_load_82 rfl rfl ?_
      exact v_iret C hQ dX4_load_84 ⟨by rw [if_pos hl, hE, show 7 - i = (6 - i) + 1 by omega, ldN_0 gg], by rw [if_pos hl, hE, show 7 - i = (6 - i) + 1 by omega, ldN_0 gg]⟩
    · have g : i < 6 := by rcases Nat.lt_or_ge i (6) with q | q; exact q; exact absurd ((le_n (a := 6) (b := i) (by omega) (by omega)).mpr q) h30
      refine v_iload C dX4_load_33 rfl rfl ?_
      refine v_aload_n C dX4_load_35 rfl rfl ?_
      refine g_X2_size C (hS.2.2.2.2.2.2.1 (cl s) (by omega)).1 dX4_load_36 fl_X4_236 rfl ?_
      refine v_eqi ((congrFun r1 1).trans hz) ?_
      refine v_icmp_ge C 82 42 dX4_load_39 (by decide) rfl (fun h39 => ?_) (fun h39 => ?_)
      · have g2 : z ≤ i := (le_n (a := z) (b := i) (by omega) (by omega)).mp h39
        have gg : ¬ (i < 6 ∧ i < z ∧ ¬ wiS ((μ.1 (43 + cl s + 4)) i) 0 255 = 0) := fun h => by omega
        refine v_iload C dX4_load_82 rfl rfl ?_
        exact v_iret C hQ dX4_load_84 ⟨by rw [if_pos hl, hE, show 7 - i = (6 - i) + 1 by omega, ldN_0 gg], by rw [if_pos hl, hE, show 7 - i = (6 - i) + 1 by omega, ldN_0 gg]⟩
      · have g2 : i < z := by rcases Nat.lt_or_ge i z with q | q; exact q; exact absurd ((le_n (a := z) (b := i) (by omega) (by omega)).mpr q) h39
        refine v_aload_n C dX4_load_42 rfl rfl ?_
        refine g_X2_numbers C (hS.2.2.2.2.2.2.1 (cl s) (by omega)).1 dX4_load_43 fl_X4_240 rfl ?_
        refine v_iload C dX4_load_46 rfl rfl ?_
        refine a_I C (hS.2.2.2.2.2.2.1 (cl s) (by omega)).2 (by decide) dX4_load_48 (i) rfl (by omega) rfl ?_
        refine v_eqi (congrFun r2 i) ?_
        refine v_iconst C dX4_load_49 ic_0 rfl ?_
        refine v_sipush C dX4_load_50 sp_255 rfl ?_
        refine v_iS C dX4_load_53 ms_X4_within c_X4_within rfl ml_X4_56 (rk_of rfl) rfl (Nat.le_of_ble_eq_true rfl) rfl (px_k ?_)
        refine v_if_eq C 82 59 dX4_load_56 (by decide) rfl (fun h56 => ?_) (fun h56 => ?_)
        · have gg : ¬ (i < 6 ∧ i < z ∧ ¬ wiS ((μ.1 (43 + cl s + 4)) i) 0 255 = 0) := fun h => h.2.2 h56
          refine v_iload C dX4_load_82 rfl rfl ?_
          exact v_iret C hQ dX4_load_84 ⟨by rw [if_pos hl, hE, show 7 - i = (6 - i) + 1 by omega, ldN_0 gg], by rw [if_pos hl, hE, show 7 - i = (6 - i) + 1 by omega, ldN_0 gg]⟩
        · have gg : i < 6 ∧ i < z ∧ ¬ wiS ((μ.1 (43 + cl s + 4)) i) 0 255 = 0 := ⟨g, g2, h56⟩
          refine v_aload_n C dX4_load_59 rfl rfl ?_
          refine g_X4_live C hS.1 dX4_load_60 fl_X4_12 rfl ?_
          refine g_X0_list C hS.2.1.1 dX4_load_63 fl_X4_60 rfl ?_
          refine v_iload C dX4_load_66 rfl rfl ?_
          refine v_aload_n C dX4_load_68 rfl rfl ?_
          refine g_X2_numbers C (hS.2.2.2.2.2.2.1 (cl s) (by omega)).1 dX4_load_69 fl_X4_240 rfl ?_
          refine v_iload C dX4_load_72 rfl rfl ?_
          refine a_I C (hS.2.2.2.2.2.2.1 (cl s) (by omega)).2 (by decide) dX4_load_74 (i) rfl (by omega) rfl ?_
          refine v_eqi (congrFun r2 i) ?_
          refine s_I C hS.2.1.2.2.1 (by decide) dX4_load_75 (i) rfl (by omega) rfl ?_
          refine v_iincN C dX4_load_76 rfl (by decide) rfl ?_
          refine v_goto C 26 dX4_load_79 (by decide) ?_
          refine v_mem ?_ (V.norm (ih (i + 1) (by omega) (by omega) (by rw [hE, show 7 - i = (7 - (i + 1)) + 1 by omega, ldN_1 gg])) rfl)
          rw [show (1 + 2 : Nat) = 3 from rfl, up_ua, ldF_s]
set_option maxRecDepth 100000 in
set_option maxHeartbeats 4000000 in
theorem c_X4_load {l : Launch} {w : WC} {μ : Me} (hS : Sv w) (hX : Nx w) (hV : IvS μ) {s : Int32} : CtI l w yX4_load cX4_load 5 (some .int) (Rm 2 44) [.ref (w_ad w 0), .int s] μ (Px (if lkS μ s = 0 then nI (ldN (μ.1 (43 + cl s + 4)) (cl (μ.1 (43 + cl s) 1)) 7 0) else lkS μ s) (if lkS μ s = 0 then ua μ 3 (ldF (μ.1 (43 + cl s + 4)) (μ.1 3) (ldN (μ.1 (43 + cl s + 4)) (cl (μ.1 (43 + cl s) 1)) 7 0)) else tlS μ (lkP s))) := by
  refine Ct.mk (own := RX4) rfl (by decide) (Nat.le_of_ble_eq_true rfl) (fun x hxl C hQ => ?_)
  subst hxl
  refine v_aload_n C dX4_load_0 rfl rfl ?_
  refine v_iload_n C dX4_load_1 rfl rfl ?_
  refine v_iV C dX4_load_2 mi_X4_lackOf (c_X4_lackOf hS hX) rfl hS.1.1 hS.1.2 rfl ml_X4_237 (rk_of rfl) rfl (Nat.le_of_ble_eq_true rfl) rfl (px_k ?_)
  refine v_istore_n C dX4_load_5 (by decide) rfl ?_
  refine v_iload_n C dX4_load_6 rfl rfl ?_
  refine v_if_eq C 16 10 dX4_load_7 (by decide) rfl (fun h7 => ?_) (fun h7 => ?_)
  · have q := lk_i h7
    have z := ((hV (cl s) (by omega)).2).cl (by omega)
    refine v_aload_n C dX4_load_16 rfl rfl ?_
    refine g_X4_sheets C hS.1 dX4_load_17 fl_X4_35 rfl ?_
    refine v_iload_n C dX4_load_20 rfl rfl ?_
    refine a_S C hS.2.2.2.2.2.1 dX4_load_21 (cl s) q.1 (by omega) rfl ?_
    refine v_astore_n C dX4_load_22 (by decide) rfl ?_
    refine v_iconst C dX4_load_23 ic_0 rfl ?_
    refine v_istore C dX4_load_24 (by decide) rfl ?_
    refine v_mem ?_ (V.norm (lp_X4_load_26 (μ := μ) hS hX hV h7 (by omega) z.1 z.2 C hQ 7 0 (by omega) (by omega) rfl) rfl)
    rw [ldF_0, ua_self]
  · refine v_aload_n C dX4_load_10 rfl rfl ?_
    refine v_iload_n C dX4_load_11 rfl rfl ?_
    refine v_iV C dX4_load_12 mi_X4_tell (c_X4_tell hS hX (lkP_lt s) (lk_p h7)) rfl hS.1.1 hS.1.2 rfl ml_X4_49 (rk_of rfl) rfl (Nat.le_of_ble_eq_true rfl) rfl (px_k ?_)
    exact v_iret C hQ dX4_load_15 ⟨(if_neg h7).symm, (if_neg h7).symm⟩

set_option maxRecDepth 100000 in
set_option maxHeartbeats 4000000 in
theorem lp_X4_judge_26 {w : WC} {x : Cy} {μ : Me} (hS : Sv w) (hX : Nx w) (hV : IvS μ) {d : Nat → Int32} (hL : LH μ 1 d) (hI : IvD d) {s : Int32} (hl : lkS μ s = 0) (hs : cl s < 4) {z : Nat} (hz4 : z ≤ 40) (hz : μ.1 (43 + cl s) 1 = nI z) (C : Cx w x cX4_judge 5 RX4 (some .int) (Rm 2 44)) (hQ : y_Q x = MQ (y_b x) (QI w (Px (if lkS μ s = 0 then jdN (μ.1 (43 + cl s + 4)) d (cl (μ.1 (43 + cl s) 1)) ((cl (μ.1 (43 + cl s) 1)) + 1) 0 else lkS μ s) (if lkS μ s = 0 then μ else tlS μ (lkP s)))) (y_a x) (y_s x) 0 0 (AA w)) : ∀ (m i : Nat), z + 1 ≤ i + m → i ≤ z → (jdN (μ.1 (43 + cl s + 4)) d (cl (μ.1 (43 + cl s) 1)) ((cl (μ.1 (43 + cl s) 1)) + 1) 0 = jdN (μ.1 (43 + cl s + 4)) d z (z + 1 - i) i) → V w x 5 μ 26 [(0, .ref (w_ad w 0)), (1, .int s), (2, .int (lkS μ s)), (3, .ref (w_ad w (42 + 1 + cl s))), (4, .int (nI i))] [] := by
  intro m
  induction m with
  | zero =>
    intro i  hm hi
    exact absurd hm (by omega)
  | succ m ih =>
    intro i  hm hi hE
    have hn := hI.n.1
    have h0 : μ.1 1 3 = nI (dn d) := hL.1.trans hI.n.2
    refine v_iload C dX4_judge_26 rfl rfl ?_
    refine v_aload_n C dX4_judge_28 rfl rfl ?_
    refine g_X2_size C (hS.2.2.2.2.2.2.1 (cl s) (by omega)).1 dX4_judge_29 fl_X4_236 rfl ?_
    refine v_eqi (hz) ?_
    refine v_icmp_ge C 81 35 dX4_judge_32 (by decide) rfl (fun h32 => ?_) (fun h32 => ?_)
    · have g : i = z := by have := (le_n (a := z) (b := i) (by omega) (by omega)).mp h32; omega
      refine v_iconst C dX4_judge_81 ic_0 rfl ?_
      exact v_iret C hQ dX4_judge_82 ⟨by rw [if_pos hl, hE, show z + 1 - i = 0 + 1 by omega, jdN_e (by omega)], by rw [if_pos hl]⟩
    · have g : i < z := by rcases Nat.lt_or_ge i (z) with q | q; exact q; exact absurd ((le_n (a := z) (b := i) (by omega) (by omega)).mpr q) h32
      rw [show z + 1 - i = (z - i) + 1 by omega] at hE
      refine v_aload_n C dX4_judge_35 rfl rfl ?_
      refine g_X4_live C hS.1 dX4_judge_36 fl_X4_12 rfl ?_
      refine v_iload C dX4_judge_39 rfl rfl ?_
      refine v_iV C dX4_judge_41 mi_X0_has (c_X0_has hS.2.1 hX) rfl hS.2.1.1.1 hS.2.1.1.2 rfl ml_X4_67 (rk_of rfl) rfl (Nat.le_of_ble_eq_true rfl) rfl (px_k ?_)
      refine v_if_eq C 70 47 dX4_judge_44 (by decide) rfl (fun h44 => ?_) (fun h44 => ?_)
      · have q : ¬ i < dn d := fun e => has_y hn h0 e h44
        refine v_iconst C dX4_judge_70 ic_1 rfl ?_
        refine v_iload C dX4_judge_71 rfl rfl ?_
        refine v_iadd C dX4_judge_73 rfl ?_
        exact v_iret C hQ dX4_judge_74 ⟨by rw [if_pos hl, hE]; first | rw [jdN_n g (fun h => q h.1)] | rw [jdN_n g (fun h => h67 (by rw [← h.2]; exact q7.2.1))], by rw [if_pos hl]⟩
      · have q := has_i hn h0 h44
        rw [cl_n (by omega)] at q
        have q7 := hL.2.2.2.2.2.2 i q.2
        refine v_aload_n C dX4_judge_47 rfl rfl ?_
        refine g_X4_live C hS.1 dX4_judge_48 fl_X4_12 rfl ?_
        refine g_X0_residents C hS.2.1.1 dX4_judge_51 fl_X4_71 rfl ?_
        refine v_iload C dX4_judge_54 rfl rfl ?_
        refine a_R C hS.2.1.2.2.2.1 dX4_judge_56 (i) rfl (by omega) rfl ?_
        refine g_X1_mood C (hS.2.1.2.2.2.2.2 (i) (by omega)) dX4_judge_57 fl_X4_261 rfl ?_
        refine v_aload_n C dX4_judge_60 rfl rfl ?_
        refine g_X2_numbers C (hS.2.2.2.2.2.2.1 (cl s) (by omega)).1 dX4_judge_61 fl_X4_240 rfl ?_
        refine v_iload C dX4_judge_64 rfl rfl ?_
        refine a_I C (hS.2.2.2.2.2.2.1 (cl s) (by omega)).2 (by decide) dX4_judge_66 (i) rfl (by omega) rfl ?_
        refine v_icmp_eq C 75 70 dX4_judge_67 (by decide) rfl (fun h67 => ?_) (fun h67 => ?_)
        · refine v_iincN C dX4_judge_75 rfl (by decide) rfl ?_
          refine v_goto C 26 dX4_judge_78 (by decide) ?_
          exact V.norm (ih (i + 1) (by omega) (by omega) (by rw [hE, jdN_y g ⟨q.2, by rw [← q7.2.1]; exact h67⟩, show z + 1 - (i + 1) = z - i by omega])) rfl
        · refine v_iconst C dX4_judge_70 ic_1 rfl ?_
          refine v_iload C dX4_judge_71 rfl rfl ?_
          refine v_iadd C dX4_judge_73 rfl ?_
          exact v_iret C hQ dX4_judge_74 ⟨by rw [if_pos hl, hE]; first | rw [jdN_n g (fun h => q h.1)] | rw [jdN_n g (fun h => h67 (by rw [← h.2]; exact q7.2.1))], by rw [if_pos hl]⟩
set_option maxRecDepth 100000 in
set_option maxHeartbeats 4000000 in
theorem c_X4_judge {l : Launch} {w : WC} {μ : Me} (hS : Sv w) (hX : Nx w) (hV : IvS μ) {d : Nat → Int32} (hL : LH μ 1 d) (hI : IvD d) {s : Int32} : CtI l w yX4_judge cX4_judge 5 (some .int) (Rm 2 44) [.ref (w_ad w 0), .int s] μ (Px (if lkS μ s = 0 then jdN (μ.1 (43 + cl s + 4)) d (cl (μ.1 (43 + cl s) 1)) ((cl (μ.1 (43 + cl s) 1)) + 1) 0 else lkS μ s) (if lkS μ s = 0 then μ else tlS μ (lkP s))) := by
  refine Ct.mk (own := RX4) rfl (by decide) (Nat.le_of_ble_eq_true rfl) (fun x hxl C hQ => ?_)
  subst hxl
  have hn := hI.n.1
  have h0 : μ.1 1 3 = nI (dn d) := hL.1.trans hI.n.2
  refine v_aload_n C dX4_judge_0 rfl rfl ?_
  refine v_iload_n C dX4_judge_1 rfl rfl ?_
  refine v_iV C dX4_judge_2 mi_X4_lackOf (c_X4_lackOf hS hX) rfl hS.1.1 hS.1.2 rfl ml_X4_237 (rk_of rfl) rfl (Nat.le_of_ble_eq_true rfl) rfl (px_k ?_)
  refine v_istore_n C dX4_judge_5 (by decide) rfl ?_
  refine v_iload_n C dX4_judge_6 rfl rfl ?_
  refine v_if_eq C 16 10 dX4_judge_7 (by decide) rfl (fun h7 => ?_) (fun h7 => ?_)
  · have q := lk_i h7
    have z := ((hV (cl s) (by omega)).2).cl (by omega)
    refine v_aload_n C dX4_judge_16 rfl rfl ?_
    refine g_X4_sheets C hS.1 dX4_judge_17 fl_X4_35 rfl ?_
    refine v_iload_n C dX4_judge_20 rfl rfl ?_
    refine a_S C hS.2.2.2.2.2.1 dX4_judge_21 (cl s) q.1 (by omega) rfl ?_
    refine v_astore_n C dX4_judge_22 (by decide) rfl ?_
    refine v_iconst C dX4_judge_23 ic_0 rfl ?_
    refine v_istore C dX4_judge_24 (by decide) rfl ?_
    exact V.norm (lp_X4_judge_26 hS hX hV hL hI h7 (by omega) z.1 z.2 C hQ (cl (μ.1 (43 + cl s) 1) + 1) 0 (by omega) (by omega) rfl) rfl
  · refine v_aload_n C dX4_judge_10 rfl rfl ?_
    refine v_iload_n C dX4_judge_11 rfl rfl ?_
    refine v_iV C dX4_judge_12 mi_X4_tell (c_X4_tell hS hX (lkP_lt s) (lk_p h7)) rfl hS.1.1 hS.1.2 rfl ml_X4_49 (rk_of rfl) rfl (Nat.le_of_ble_eq_true rfl) rfl (px_k ?_)
    exact v_iret C hQ dX4_judge_15 ⟨(if_neg h7).symm, (if_neg h7).symm⟩

set_option maxRecDepth 100000 in
set_option maxHeartbeats 4000000 in
theorem c_X3_append {l : Launch} {w : WC} {μ : Me} (hS : Sv w) (hX : Nx w) {t : Nat} (ht : t < 120) (h1 : μ.1 40 1 = nI t) {a : Int32} : CtV l w yX3_append cX3_append 2 (Rm 0 0) [.ref (w_ad w 40), .int a] μ (Pv (up (up μ 41 t a) 40 1 (nI (t + 1)))) := by
  refine Ct.mk (own := RX3) rfl (by decide) (Nat.le_of_ble_eq_true rfl) (fun x hxl C hQ => ?_)
  subst hxl
  refine v_aload_n C dX3_append_0 rfl rfl ?_
  refine g_X3_length C hS.2.2.2.2.1.1 dX3_append_1 fl_X3_15 rfl ?_
  refine v_eqi (h1) ?_
  refine v_bipush C dX3_append_4 bp_120 rfl ?_
  refine v_icmp_ge C 29 9 dX3_append_6 (by decide) rfl (fun h6 => ?_) (fun h6 => ?_)
  · exact absurd ((le_n (a := 120) (b := t) (by omega) (by omega)).mp h6) (by omega)
  · refine v_aload_n C dX3_append_9 rfl rfl ?_
    refine g_X3_bytes C hS.2.2.2.2.1.1 dX3_append_10 fl_X3_9 rfl ?_
    refine v_aload_n C dX3_append_13 rfl rfl ?_
    refine g_X3_length C hS.2.2.2.2.1.1 dX3_append_14 fl_X3_15 rfl ?_
    refine v_eqi (h1) ?_
    refine v_iload_n C dX3_append_17 rfl rfl ?_
    refine s_I C hS.2.2.2.2.1.2 (by decide) dX3_append_18 (t) rfl (by omega) rfl ?_
    refine v_aload_n C dX3_append_19 rfl rfl ?_
    refine v_dup C dX3_append_20 rfl rfl ?_
    refine g_X3_length C hS.2.2.2.2.1.1 dX3_append_21 fl_X3_15 rfl ?_
    refine v_iconst C dX3_append_24 ic_1 rfl ?_
    refine v_iadd C dX3_append_25 rfl ?_
    refine p_X3_length C hS.2.2.2.2.1.1 dX3_append_26 fl_X3_15 rfl ?_
    exact v_vret C hQ dX3_append_29 (by simp only [Pv]; rw [up_n _ _ _ (by decide), h1, nI_succ])

set_option maxRecDepth 100000 in
set_option maxHeartbeats 4000000 in
theorem lp_X4_feed_41 {w : WC} {x : Cy} {μ : Me} (hS : Sv w) (hX : Nx w) {t : Nat} (ht : t ≤ 120) (h1 : μ.1 40 1 = nI t) {b n : Int32} (h6 : ¬ wiS n 1 4 = 0) (h27 : nI t + n ≤ 120) {c : Nat} (hc4 : c ≤ 4) (hc : n = nI c) (htc : t + c ≤ 120) (C : Cx w x cX4_feed 4 RX4 (some .int) (Rm 2 44)) (hQ : y_Q x = MQ (y_b x) (QI w (Px (if wiS n 1 4 = 0 then -1000001 else if nI t + n ≤ 120 then nI (t + cl n) else -1000002) (if wiS n 1 4 = 0 then tlS μ 0 else if nI t + n ≤ 120 then fdM μ t b (cl n) (cl n) else tlS μ 1))) (y_a x) (y_s x) 0 0 (AA w)) : ∀ (m i : Nat), c + 1 ≤ i + m → i ≤ c → V w x 4 (fdM μ t b c i) 41 [(0, .ref (w_ad w 0)), (1, .int b), (2, .int n), (3, .int (nI c - nI (i + 1)))] [] := by
  intro m
  induction m with
  | zero =>
    intro i  hm hi
    exact absurd hm (by omega)
  | succ m ih =>
    intro i  hm hi 
    have hf := fdM_len (b := b) (c := c) h1 i
    refine v_iload_n C dX4_feed_41 rfl rfl ?_
    refine v_if_lt C 68 45 dX4_feed_42 (by decide) rfl (fun h42 => ?_) (fun h42 => ?_)
    · have g : i = c := by
        rcases Nat.lt_or_ge i c with q | q
        · rw [pk_sub (by omega)] at h42; exact absurd h42 (nI_pos (by omega))
        · omega
      refine v_aload_n C dX4_feed_68 rfl rfl ?_
      refine g_X4_tape C hS.1 dX4_feed_69 fl_X4_29 rfl ?_
      refine g_X3_length C hS.2.2.2.2.1.1 dX4_feed_72 fl_X4_207 rfl ?_
      exact v_iret C hQ dX4_feed_75 ⟨by rw [if_neg h6, if_pos h27, hf, g, hc, cl_n (by omega)], by rw [if_neg h6, if_pos h27, g, hc, cl_n (by omega)]⟩
    · have g : i < c := by
        rcases Nat.lt_or_ge i c with q | q
        · exact q
        · exact absurd (pk_sneg (a := c) (b := i + 1) (by omega) (by omega)) h42
      refine v_aload_n C dX4_feed_45 rfl rfl ?_
      refine g_X4_tape C hS.1 dX4_feed_46 fl_X4_29 rfl ?_
      refine v_iload_n C dX4_feed_49 rfl rfl ?_
      refine v_bipush C dX4_feed_50 bp_8 rfl ?_
      refine v_iload_n C dX4_feed_52 rfl rfl ?_
      refine v_imul C dX4_feed_53 rfl ?_
      refine v_iushr C dX4_feed_54 rfl ?_
      refine v_sipush C dX4_feed_55 sp_255 rfl ?_
      refine v_iand C dX4_feed_58 rfl ?_
      refine v_vV C dX4_feed_59 mi_X3_append (c_X3_append hS hX (t := t + i) (by omega) hf) rfl hS.2.2.2.2.1.1.1 hS.2.2.2.2.1.1.2 rfl ml_X4_210 (rk_of rfl) rfl (Nat.le_of_ble_eq_true rfl) rfl (pv_k ?_)
      refine v_iincM C dX4_feed_62 rfl (by decide) rfl ?_
      refine v_goto C 41 dX4_feed_65 (by decide) ?_
      refine V.norm (lv' := [(0, .ref (w_ad w 0)), (1, .int b), (2, .int n), (3, .int (nI c - nI (i + 1) + (-1)))]) ?_ rfl
      rw [sub_m1]
      exact ih (i + 1) (by omega) (by omega)
set_option maxRecDepth 100000 in
set_option maxHeartbeats 4000000 in
theorem c_X4_feed {l : Launch} {w : WC} {μ : Me} (hS : Sv w) (hX : Nx w) {t : Nat} (ht : t ≤ 120) (h1 : μ.1 40 1 = nI t) {b n : Int32} : CtI l w yX4_feed cX4_feed 4 (some .int) (Rm 2 44) [.ref (w_ad w 0), .int b, .int n] μ (Px (if wiS n 1 4 = 0 then -1000001 else if nI t + n ≤ 120 then nI (t + cl n) else -1000002) (if wiS n 1 4 = 0 then tlS μ 0 else if nI t + n ≤ 120 then fdM μ t b (cl n) (cl n) else tlS μ 1)) := by
  refine Ct.mk (own := RX4) rfl (by decide) (Nat.le_of_ble_eq_true rfl) (fun x hxl C hQ => ?_)
  subst hxl
  refine v_iload_n C dX4_feed_0 rfl rfl ?_
  refine v_iconst C dX4_feed_1 ic_1 rfl ?_
  refine v_iconst C dX4_feed_2 ic_4 rfl ?_
  refine v_iS C dX4_feed_3 ms_X4_within c_X4_within rfl ml_X4_56 (rk_of rfl) rfl (Nat.le_of_ble_eq_true rfl) rfl (px_k ?_)
  refine v_if_ne C 16 9 dX4_feed_6 (by decide) rfl (fun h6 => ?_) (fun h6 => ?_)
  · refine v_aload_n C dX4_feed_16 rfl rfl ?_
    refine g_X4_tape C hS.1 dX4_feed_17 fl_X4_29 rfl ?_
    refine g_X3_length C hS.2.2.2.2.1.1 dX4_feed_20 fl_X4_207 rfl ?_
    refine v_eqi (h1) ?_
    refine v_iload_n C dX4_feed_23 rfl rfl ?_
    refine v_iadd C dX4_feed_24 rfl ?_
    refine v_bipush C dX4_feed_25 bp_120 rfl ?_
    refine v_icmp_le C 37 30 dX4_feed_27 (by decide) rfl (fun h27 => ?_) (fun h27 => ?_)
    · have q := wi_j (m := 4) (by omega) h6
      have q2 : t + cl n ≤ 120 := by
        have h9 := h27
        rw [q.1, nI_add] at h9
        exact (le_n (a := t + cl n) (b := 120) (by omega) (by omega)).mp h9
      refine v_iload_n C dX4_feed_37 rfl rfl ?_
      refine v_iconst C dX4_feed_38 ic_1 rfl ?_
      refine v_isub C dX4_feed_39 rfl ?_
      refine v_istore_n C dX4_feed_40 (by decide) rfl ?_
      refine V.norm (lv' := [(0, .ref (w_ad w 0)), (1, .int b), (2, .int n), (3, .int (n - 1))]) ?_ rfl
      have e : n - 1 = nI (cl n) - nI (0 + 1) := by rw [← q.1]; rfl
      rw [e]
      exact lp_X4_feed_41 hS hX ht h1 h6 h27 (c := cl n) (by omega) q.1 q2 C hQ (cl n + 1) 0 (by omega) (by omega)
    · refine v_aload_n C dX4_feed_30 rfl rfl ?_
      refine v_ldc C dX4_feed_31 cn_X4_66 rfl ?_
      refine v_iV C dX4_feed_33 mi_X4_tell (c_X4_tell hS hX (p := 1) (by decide) (by decide)) rfl hS.1.1 hS.1.2 rfl ml_X4_49 (rk_of rfl) rfl (Nat.le_of_ble_eq_true rfl) rfl (px_k ?_)
      exact v_iret C hQ dX4_feed_36 ⟨by rw [if_neg h6, if_neg h27], by rw [if_neg h6, if_neg h27]⟩
  · refine v_aload_n C dX4_feed_9 rfl rfl ?_
    refine v_ldc C dX4_feed_10 cn_X4_48 rfl ?_
    refine v_iV C dX4_feed_12 mi_X4_tell (c_X4_tell hS hX (p := 0) (by decide) (by decide)) rfl hS.1.1 hS.1.2 rfl ml_X4_49 (rk_of rfl) rfl (Nat.le_of_ble_eq_true rfl) rfl (px_k ?_)
    exact v_iret C hQ dX4_feed_15 ⟨(if_pos h6).symm, (if_pos h6).symm⟩

set_option maxRecDepth 100000 in
set_option maxHeartbeats 4000000 in
theorem lp_X4_come_40 {w : WC} {x : Cy} {μ : Me} (hS : Sv w) (hX : Nx w) {d : Nat → Int32} (hL : LH μ 1 d) (hI : IvD d) {n : Int32} (h7 : ¬ wiS n 1 20 = 0) (h28 : d 1 + n ≤ 99999) {t : Nat} (ht : t ≤ 20) (hc : n = nI t) (C : Cx w x cX4_come 3 RX4 (some .int) (Rm 4 93)) (hQ : y_Q x = MQ (y_b x) (QI w (Px (if wiS n 1 20 = 0 then -1000001 else if d 1 + n ≤ 99999 then smL (fun r => cmD (cl n) d (21 + r)) (dn d) else -1000005) (if wiS n 1 20 = 0 then tlS μ 0 else if d 1 + n ≤ 99999 then cmI (dn d) (cl (d 5)) (cl n) μ else tlS μ 4))) (y_a x) (y_s x) 0 0 (AA w)) : ∀ (m i : Nat), t + 1 ≤ i + m → i ≤ t → V w x 3 (cmI (dn d) (cl (d 5)) i μ) 40 [(0, .ref (w_ad w 0)), (1, .int n), (2, .int (nI i))] [] := by
  intro m
  induction m with
  | zero =>
    intro i  hm hi
    exact absurd hm (by omega)
  | succ m ih =>
    intro i  hm hi 
    have hn := hI.n.1
    obtain ⟨a1, a2, a3, a4⟩ := cm_all hL hI i
    have b1 := IvD_cd a1
    have b2 := LH_cd a4 a1
    have b3 : dn (cdD (cmD i d)) = dn d := (cd_dn a1).trans a2
    have b4 : cdD (cmD i d) 5 = d 5 := (cd_5 a1).trans a3
    have b5 := b2.iv b1
    rw [b3, b4] at b5
    have a5 := a4.iv a1
    rw [a2, a3] at a5
    obtain ⟨-, c0, ⟨s, hs1, hs⟩, -, -⟩ := a5
    obtain rfl : t = cl n := by rw [hc, cl_n (by omega)]
    refine v_iload_n C dX4_come_40 rfl rfl ?_
    refine v_iload_n C dX4_come_41 rfl rfl ?_
    refine v_icmp_ge C 108 45 dX4_come_42 (by decide) rfl (fun h42 => ?_) (fun h42 => ?_)
    · rw [hc] at h42
      have g : i = cl n := by have := (le_n (a := cl n) (b := i) (by omega) (by omega)).mp h42; omega
      refine v_aload_n C dX4_come_108 rfl rfl ?_
      refine g_X4_live C hS.1 dX4_come_109 fl_X4_12 rfl ?_
      refine v_iV C dX4_come_112 mi_X0_moods (c_X0_moods hS.2.1 hX hn c0) rfl hS.2.1.1.1 hS.2.1.1.2 rfl ml_X4_111 (rk_of rfl) rfl (Nat.le_of_ble_eq_true rfl) rfl (px_k ?_)
      exact v_iret C hQ dX4_come_115 ⟨by rw [if_neg h7, if_pos h28, ← g]; exact smL_congr (fun r hr => (a4.2.2.2.2.2.2 r (by rw [a2]; exact hr)).2.1), by rw [if_neg h7, if_pos h28, g]⟩
    · rw [hc] at h42
      have g : i < cl n := by rcases Nat.lt_or_ge i (cl n) with q | q; exact q; exact absurd ((le_n (a := cl n) (b := i) (by omega) (by omega)).mpr q) h42
      refine v_aload_n C dX4_come_45 rfl rfl ?_
      refine g_X4_live C hS.1 dX4_come_46 fl_X4_12 rfl ?_
      refine g_X0_list C hS.2.1.1 dX4_come_49 fl_X4_60 rfl ?_
      refine v_aload_n C dX4_come_52 rfl rfl ?_
      refine g_X4_live C hS.1 dX4_come_53 fl_X4_12 rfl ?_
      refine g_X0_sunday C hS.2.1.1 dX4_come_56 fl_X4_101 rfl ?_
      refine v_bipush C dX4_come_59 bp_6 rfl ?_
      refine v_irem C dX4_come_61 (by decide) rfl ?_
      refine v_aload_n C dX4_come_62 rfl rfl ?_
      refine g_X4_live C hS.1 dX4_come_63 fl_X4_12 rfl ?_
      refine v_iV C dX4_come_66 mi_X0_draw (c_X0_draw hS.2.1 hX) rfl hS.2.1.1.1 hS.2.1.1.2 rfl ml_X4_194 (rk_of rfl) rfl (Nat.le_of_ble_eq_true rfl) rfl (px_k ?_)
      refine v_sipush C dX4_come_69 sp_256 rfl ?_
      refine v_irem C dX4_come_72 (by decide) rfl ?_
      refine s_I C hS.2.1.2.2.1 (by decide) dX4_come_73 (s6 ((cmI (dn d) (cl (d 5)) i μ).1 1 4)) (by rw [hs, s6_e (by omega)]; exact s6_n (by omega)) (by rw [hs, s6_e (by omega)]; omega) rfl ?_
      refine v_aload_n C dX4_come_74 rfl rfl ?_
      refine g_X4_live C hS.1 dX4_come_75 fl_X4_12 rfl ?_
      refine g_X0_settings C hS.2.1.1 dX4_come_78 fl_X4_53 rfl ?_
      refine v_iconst C dX4_come_81 ic_3 rfl ?_
      refine v_iconst C dX4_come_82 ic_1 rfl ?_
      refine v_aload_n C dX4_come_83 rfl rfl ?_
      refine g_X4_live C hS.1 dX4_come_84 fl_X4_12 rfl ?_
      refine v_iV C dX4_come_87 mi_X0_draw (c_X0_draw hS.2.1 hX) rfl hS.2.1.1.1 hS.2.1.1.2 rfl ml_X4_194 (rk_of rfl) rfl (Nat.le_of_ble_eq_true rfl) rfl (px_k ?_)
      refine v_bipush C dX4_come_90 bp_12 rfl ?_
      refine v_irem C dX4_come_92 (by decide) rfl ?_
      refine v_iadd C dX4_come_93 rfl ?_
      refine s_I C hS.2.1.2.1 (by decide) dX4_come_94 (3) rfl (by decide) rfl ?_
      refine v_mem (μ' := cm4 (cmI (dn d) (cl (d 5)) i μ)) ?_ ?_
      · simp only [cm4, rmS, up_n _ _ _ (show (1 : Nat) ≠ 1 + 2 by decide), up_s]
      refine v_aload_n C dX4_come_95 rfl rfl ?_
      refine g_X4_live C hS.1 dX4_come_96 fl_X4_12 rfl ?_
      refine v_vV C dX4_come_99 mi_X0_passSunday (c_X0_passSunday hS.2.1 hX b5) rfl hS.2.1.1.1 hS.2.1.1.2 rfl ml_X4_150 (rk_of rfl) rfl (Nat.le_of_ble_eq_true rfl) rfl (pv_k ?_)
      refine v_iincN C dX4_come_102 rfl (by decide) rfl ?_
      refine v_goto C 40 dX4_come_105 (by decide) ?_
      exact V.norm (ih (i + 1) (by omega) (by omega)) rfl
set_option maxRecDepth 100000 in
set_option maxHeartbeats 4000000 in
theorem c_X4_come {l : Launch} {w : WC} {μ : Me} (hS : Sv w) (hX : Nx w) {d : Nat → Int32} (hL : LH μ 1 d) (hI : IvD d) {n : Int32} : CtI l w yX4_come cX4_come 3 (some .int) (Rm 4 93) [.ref (w_ad w 0), .int n] μ (Px (if wiS n 1 20 = 0 then -1000001 else if d 1 + n ≤ 99999 then smL (fun r => cmD (cl n) d (21 + r)) (dn d) else -1000005) (if wiS n 1 20 = 0 then tlS μ 0 else if d 1 + n ≤ 99999 then cmI (dn d) (cl (d 5)) (cl n) μ else tlS μ 4)) := by
  refine Ct.mk (own := RX4) rfl (by decide) (Nat.le_of_ble_eq_true rfl) (fun x hxl C hQ => ?_)
  subst hxl
  have hn := hI.n.1
  have h0 : μ.1 1 3 = nI (dn d) := hL.1.trans hI.n.2
  refine v_iload_n C dX4_come_0 rfl rfl ?_
  refine v_iconst C dX4_come_1 ic_1 rfl ?_
  refine v_bipush C dX4_come_2 bp_20 rfl ?_
  refine v_iS C dX4_come_4 ms_X4_within c_X4_within rfl ml_X4_56 (rk_of rfl) rfl (Nat.le_of_ble_eq_true rfl) rfl (px_k ?_)
  refine v_if_ne C 17 10 dX4_come_7 (by decide) rfl (fun h7 => ?_) (fun h7 => ?_)
  · refine v_aload_n C dX4_come_17 rfl rfl ?_
    refine g_X4_live C hS.1 dX4_come_18 fl_X4_12 rfl ?_
    refine g_X0_sunday C hS.2.1.1 dX4_come_21 fl_X4_101 rfl ?_
    refine v_iload_n C dX4_come_24 rfl rfl ?_
    refine v_iadd C dX4_come_25 rfl ?_
    refine v_ldc C dX4_come_26 cn_X4_105 rfl ?_
    refine v_icmp_le C 38 31 dX4_come_28 (by decide) rfl (fun h28 => ?_) (fun h28 => ?_)
    · have q := wi_j (m := 20) (by omega) h7
      refine v_iconst C dX4_come_38 ic_0 rfl ?_
      refine v_istore_n C dX4_come_39 (by decide) rfl ?_
      exact V.norm (lp_X4_come_40 hS hX hL hI h7 (by rw [← hL.2.1]; exact h28) q.2.1 q.1 C hQ (cl n + 1) 0 (by omega) (by omega)) rfl
    · refine v_aload_n C dX4_come_31 rfl rfl ?_
      refine v_ldc C dX4_come_32 cn_X4_106 rfl ?_
      refine v_iV C dX4_come_34 mi_X4_tell (c_X4_tell hS hX (p := 4) (by decide) (by decide)) rfl hS.1.1 hS.1.2 rfl ml_X4_49 (rk_of rfl) rfl (Nat.le_of_ble_eq_true rfl) rfl (px_k ?_)
      exact v_iret C hQ dX4_come_37 ⟨by rw [if_neg h7, if_neg (by rw [← hL.2.1]; exact h28)], by rw [if_neg h7, if_neg (by rw [← hL.2.1]; exact h28)]⟩
  · refine v_aload_n C dX4_come_10 rfl rfl ?_
    refine v_ldc C dX4_come_11 cn_X4_48 rfl ?_
    refine v_iV C dX4_come_13 mi_X4_tell (c_X4_tell hS hX (p := 0) (by decide) (by decide)) rfl hS.1.1 hS.1.2 rfl ml_X4_49 (rk_of rfl) rfl (Nat.le_of_ble_eq_true rfl) rfl (px_k ?_)
    exact v_iret C hQ dX4_come_16 ⟨(if_pos h7).symm, (if_pos h7).symm⟩

set_option maxRecDepth 100000 in
set_option maxHeartbeats 4000000 in
theorem lp_X4_odds_82 {w : WC} {x : Cy} {μ : Me} (hS : Sv w) (hX : Nx w) {d : Nat → Int32} (hL : LH μ 1 d) (hI : IvD d) {r n t : Int32} (h8 : ¬ wiS r 0 (d 0 - 1) = 0) (h18 : ¬ wiS n 0 7 = 0) (h27 : ¬ wiS t 0 1 = 0) (C : Cx w x cX4_odds 6 RX4 (some .long) (Rm 2 46)) (hQ : y_Q x = MQ (y_b x) (QL w (Pl (if wiS r 0 (d 0 - 1) = 0 ∨ wiS n 0 7 = 0 ∨ wiS t 0 1 = 0 then (-1000001 : Int32).toInt64 else powL (odS d r t) (cl n)) (if wiS r 0 (d 0 - 1) = 0 ∨ wiS n 0 7 = 0 ∨ wiS t 0 1 = 0 then tlS μ 0 else μ))) (y_a x) (y_s x) 0 0 (AA w)) : ∀ (m i : Nat) (a : Int32), 8 + 1 ≤ i + m → i ≤ 8 → (hvL 8 (ocL (fun i => d (13 + i)) (d 3) (dn d) r 256) = hvL (8 - i) a) → V w x 6 μ 82 [(0, .ref (w_ad w 0)), (1, .int r), (2, .int n), (3, .int t), (4, .int a), (5, .int (nI (2 ^ (8 - i))))] [] := by
  intro m
  induction m with
  | zero =>
    intro i a hm hi
    exact absurd hm (by omega)
  | succ m ih =>
    intro i a hm hi hE
    have q := wi_i (m := 7) (by omega) h18
    refine v_iload C dX4_odds_82 rfl rfl ?_
    refine v_iconst C dX4_odds_84 ic_1 rfl ?_
    refine v_icmp_le C 110 88 dX4_odds_85 (by decide) rfl (fun h85 => ?_) (fun h85 => ?_)
    · have g : 8 - i = 0 := (p2_1 (by omega)).mp h85
      have hF : (a, nI (2 ^ (8 - i))) = hvL (8 - i) a := by rw [g]; rfl
      refine v_iload_n C dX4_odds_110 rfl rfl ?_
      refine v_if_ne C 119 114 dX4_odds_111 (by decide) rfl (fun h111 => ?_) (fun h111 => ?_)
      · refine v_iload C dX4_odds_119 rfl rfl ?_
        refine v_iload_n C dX4_odds_121 rfl rfl ?_
        refine v_lS C dX4_odds_122 ms_X4_power (c_X4_power (n := cl n) (by omega) q.1) rfl ml_X4_200 (rk_of rfl) rfl (Nat.le_of_ble_eq_true rfl) rfl (pl_k ?_)
        exact v_lret C hQ dX4_odds_125 ⟨by rw [if_neg (fun h => h.elim h8 (fun h => h.elim h18 h27))]; unfold odS; first | rw [if_pos h111, hE, ← hF] | rw [if_neg h111, hE, ← hF], by rw [if_neg (fun h => h.elim h8 (fun h => h.elim h18 h27))]⟩
      · refine v_iload C dX4_odds_114 rfl rfl ?_
        refine v_goto C 121 dX4_odds_116 (by decide) ?_
        refine v_iload_n C dX4_odds_121 rfl rfl ?_
        refine v_lS C dX4_odds_122 ms_X4_power (c_X4_power (n := cl n) (by omega) q.1) rfl ml_X4_200 (rk_of rfl) rfl (Nat.le_of_ble_eq_true rfl) rfl (pl_k ?_)
        exact v_lret C hQ dX4_odds_125 ⟨by rw [if_neg (fun h => h.elim h8 (fun h => h.elim h18 h27))]; unfold odS; first | rw [if_pos h111, hE, ← hF] | rw [if_neg h111, hE, ← hF], by rw [if_neg (fun h => h.elim h8 (fun h => h.elim h18 h27))]⟩
    · have g : ¬ 8 - i = 0 := fun e => h85 ((p2_1 (by omega)).mpr e)
      have g8 : 8 - i = (7 - i) + 1 := by omega
      refine v_iload C dX4_odds_88 rfl rfl ?_
      refine v_iconst C dX4_odds_90 ic_2 rfl ?_
      refine v_irem C dX4_odds_91 (by decide) rfl ?_
      refine v_if_ne C 110 95 dX4_odds_92 (by decide) rfl (fun h92 => ?_) (fun h92 => ?_)
      · have hF : (a, nI (2 ^ (8 - i))) = hvL (8 - i) a := by rw [g8]; exact (if_neg h92).symm
        refine v_iload_n C dX4_odds_110 rfl rfl ?_
        refine v_if_ne C 119 114 dX4_odds_111 (by decide) rfl (fun h111 => ?_) (fun h111 => ?_)
        · refine v_iload C dX4_odds_119 rfl rfl ?_
          refine v_iload_n C dX4_odds_121 rfl rfl ?_
          refine v_lS C dX4_odds_122 ms_X4_power (c_X4_power (n := cl n) (by omega) q.1) rfl ml_X4_200 (rk_of rfl) rfl (Nat.le_of_ble_eq_true rfl) rfl (pl_k ?_)
          exact v_lret C hQ dX4_odds_125 ⟨by rw [if_neg (fun h => h.elim h8 (fun h => h.elim h18 h27))]; unfold odS; first | rw [if_pos h111, hE, ← hF] | rw [if_neg h111, hE, ← hF], by rw [if_neg (fun h => h.elim h8 (fun h => h.elim h18 h27))]⟩
        · refine v_iload C dX4_odds_114 rfl rfl ?_
          refine v_goto C 121 dX4_odds_116 (by decide) ?_
          refine v_iload_n C dX4_odds_121 rfl rfl ?_
          refine v_lS C dX4_odds_122 ms_X4_power (c_X4_power (n := cl n) (by omega) q.1) rfl ml_X4_200 (rk_of rfl) rfl (Nat.le_of_ble_eq_true rfl) rfl (pl_k ?_)
          exact v_lret C hQ dX4_odds_125 ⟨by rw [if_neg (fun h => h.elim h8 (fun h => h.elim h18 h27))]; unfold odS; first | rw [if_pos h111, hE, ← hF] | rw [if_neg h111, hE, ← hF], by rw [if_neg (fun h => h.elim h8 (fun h => h.elim h18 h27))]⟩
      · refine v_iload C dX4_odds_95 rfl rfl ?_
        refine v_iconst C dX4_odds_97 ic_2 rfl ?_
        refine v_idiv C dX4_odds_98 (by decide) rfl ?_
        refine v_istore C dX4_odds_99 (by decide) rfl ?_
        refine v_iload C dX4_odds_101 rfl rfl ?_
        refine v_iconst C dX4_odds_103 ic_2 rfl ?_
        refine v_idiv C dX4_odds_104 (by decide) rfl ?_
        refine v_istore C dX4_odds_105 (by decide) rfl ?_
        refine v_goto C 82 dX4_odds_107 (by decide) ?_
        refine V.norm (lv' := [(0, .ref (w_ad w 0)), (1, .int r), (2, .int n), (3, .int t), (4, .int (a / 2)), (5, .int (nI (2 ^ (8 - i)) / 2))]) ?_ rfl
        rw [g8, p2_h (by omega), show 7 - i = 8 - (i + 1) by omega]
        exact ih (i + 1) _ (by omega) (by omega) (by rw [hE, g8, show 8 - (i + 1) = 7 - i by omega]; exact if_pos h92)
set_option maxRecDepth 100000 in
set_option maxHeartbeats 4000000 in
theorem lp_X4_odds_44 {w : WC} {x : Cy} {μ : Me} (hS : Sv w) (hX : Nx w) {d : Nat → Int32} (hL : LH μ 1 d) (hI : IvD d) {r n t : Int32} (h8 : ¬ wiS r 0 (d 0 - 1) = 0) (h18 : ¬ wiS n 0 7 = 0) (h27 : ¬ wiS t 0 1 = 0) (C : Cx w x cX4_odds 6 RX4 (some .long) (Rm 2 46)) (hQ : y_Q x = MQ (y_b x) (QL w (Pl (if wiS r 0 (d 0 - 1) = 0 ∨ wiS n 0 7 = 0 ∨ wiS t 0 1 = 0 then (-1000001 : Int32).toInt64 else powL (odS d r t) (cl n)) (if wiS r 0 (d 0 - 1) = 0 ∨ wiS n 0 7 = 0 ∨ wiS t 0 1 = 0 then tlS μ 0 else μ))) (y_a x) (y_s x) 0 0 (AA w)) : ∀ (m i : Nat) (a : Int32), 256 + 1 ≤ i + m → i ≤ 256 → (a = ocL (fun i => d (13 + i)) (d 3) (dn d) r i) → V w x 6 μ 44 [(0, .ref (w_ad w 0)), (1, .int r), (2, .int n), (3, .int t), (4, .int a), (5, .int (nI i))] [] := by
  intro m
  induction m with
  | zero =>
    intro i a hm hi
    exact absurd hm (by omega)
  | succ m ih =>
    intro i a hm hi ha
    have hn := hI.n.1
    have h0 : μ.1 1 3 = nI (dn d) := hL.1.trans hI.n.2
    refine v_iload C dX4_odds_44 rfl rfl ?_
    refine v_sipush C dX4_odds_46 sp_256 rfl ?_
    refine v_icmp_ge C 77 52 dX4_odds_49 (by decide) rfl (fun h49 => ?_) (fun h49 => ?_)
    · have g : i = 256 := by have := (le_n (a := 256) (b := i) (by omega) (by omega)).mp h49; omega
      refine v_sipush C dX4_odds_77 sp_256 rfl ?_
      refine v_istore C dX4_odds_80 (by decide) rfl ?_
      exact V.norm (lp_X4_odds_82 hS hX hL hI h8 h18 h27 C hQ 9 0 _ (by omega) (by omega) (by rw [ha, g])) rfl
    · have g : i < 256 := by rcases Nat.lt_or_ge i (256) with q | q; exact q; exact absurd ((le_n (a := 256) (b := i) (by omega) (by omega)).mpr q) h49
      refine v_aload_n C dX4_odds_52 rfl rfl ?_
      refine g_X4_live C hS.1 dX4_odds_53 fl_X4_12 rfl ?_
      refine v_iload C dX4_odds_56 rfl rfl ?_
      refine v_iV C dX4_odds_58 mi_X0_seated (c_X0_seated hS.2.1 hX hn h0) rfl hS.2.1.1.1 hS.2.1.1.2 rfl ml_X4_197 (rk_of rfl) rfl (Nat.le_of_ble_eq_true rfl) rfl (px_k ?_)
      rw [seL_congr (fun r hr => (hL.2.2.2.2.2.2 r hr).1), show μ.1 (1 + 1) 0 = d 3 from hL.2.2.2.1 0 (by omega)]
      refine v_iload_n C dX4_odds_61 rfl rfl ?_
      refine v_iS C dX4_odds_62 ms_X4_isIn c_X4_isIn rfl ml_X4_175 (rk_of rfl) rfl (Nat.le_of_ble_eq_true rfl) rfl (px_k ?_)
      refine v_if_eq C 71 68 dX4_odds_65 (by decide) rfl (fun h65 => ?_) (fun h65 => ?_)
      · refine v_iincN C dX4_odds_71 rfl (by decide) rfl ?_
        refine v_goto C 44 dX4_odds_74 (by decide) ?_
        exact V.norm (ih (i + 1) _ (by omega) (by omega) (by rw [ocL]; first | rw [if_pos h65, ← ha] | rw [if_neg h65, ← ha])) rfl
      · refine v_iincP C dX4_odds_68 rfl (by decide) rfl ?_
        refine v_iincN C dX4_odds_71 rfl (by decide) rfl ?_
        refine v_goto C 44 dX4_odds_74 (by decide) ?_
        exact V.norm (ih (i + 1) _ (by omega) (by omega) (by rw [ocL]; first | rw [if_pos h65, ← ha] | rw [if_neg h65, ← ha])) rfl
set_option maxRecDepth 100000 in
set_option maxHeartbeats 4000000 in
theorem c_X4_odds {l : Launch} {w : WC} {μ : Me} (hS : Sv w) (hX : Nx w) {d : Nat → Int32} (hL : LH μ 1 d) (hI : IvD d) {r n t : Int32} : CtL l w yX4_odds cX4_odds 6 (Rm 2 46) [.ref (w_ad w 0), .int r, .int n, .int t] μ (Pl (if wiS r 0 (d 0 - 1) = 0 ∨ wiS n 0 7 = 0 ∨ wiS t 0 1 = 0 then (-1000001 : Int32).toInt64 else powL (odS d r t) (cl n)) (if wiS r 0 (d 0 - 1) = 0 ∨ wiS n 0 7 = 0 ∨ wiS t 0 1 = 0 then tlS μ 0 else μ)) := by
  refine Ct.mk (own := RX4) rfl (by decide) (Nat.le_of_ble_eq_true rfl) (fun x hxl C hQ => ?_)
  subst hxl
  have hn := hI.n.1
  have h0 : μ.1 1 3 = nI (dn d) := hL.1.trans hI.n.2
  refine v_aload_n C dX4_odds_0 rfl rfl ?_
  refine g_X4_live C hS.1 dX4_odds_1 fl_X4_12 rfl ?_
  refine v_iload_n C dX4_odds_4 rfl rfl ?_
  refine v_iV C dX4_odds_5 mi_X0_has (c_X0_has hS.2.1 hX) rfl hS.2.1.1.1 hS.2.1.1.2 rfl ml_X4_67 (rk_of rfl) rfl (Nat.le_of_ble_eq_true rfl) rfl (px_k ?_)
  refine v_if_eq C 30 11 dX4_odds_8 (by decide) rfl (fun h8 => ?_) (fun h8 => ?_)
  · refine v_aload_n C dX4_odds_30 rfl rfl ?_
    refine v_ldc C dX4_odds_31 cn_X4_48 rfl ?_
    refine v_iV C dX4_odds_33 mi_X4_tell (c_X4_tell hS hX (p := 0) (by decide) (by decide)) rfl hS.1.1 hS.1.2 rfl ml_X4_49 (rk_of rfl) rfl (Nat.le_of_ble_eq_true rfl) rfl (px_k ?_)
    refine v_i2l C dX4_odds_36 rfl ?_
    exact v_lret C hQ dX4_odds_37 ⟨(if_pos (by rw [← hL.1]; first | exact Or.inl h8 | exact Or.inr (Or.inl h18) | exact Or.inr (Or.inr h27))).symm, (if_pos (by rw [← hL.1]; first | exact Or.inl h8 | exact Or.inr (Or.inl h18) | exact Or.inr (Or.inr h27))).symm⟩
  · refine v_iload_n C dX4_odds_11 rfl rfl ?_
    refine v_iconst C dX4_odds_12 ic_0 rfl ?_
    refine v_bipush C dX4_odds_13 bp_7 rfl ?_
    refine v_iS C dX4_odds_15 ms_X4_within c_X4_within rfl ml_X4_56 (rk_of rfl) rfl (Nat.le_of_ble_eq_true rfl) rfl (px_k ?_)
    refine v_if_eq C 30 21 dX4_odds_18 (by decide) rfl (fun h18 => ?_) (fun h18 => ?_)
    · refine v_aload_n C dX4_odds_30 rfl rfl ?_
      refine v_ldc C dX4_odds_31 cn_X4_48 rfl ?_
      refine v_iV C dX4_odds_33 mi_X4_tell (c_X4_tell hS hX (p := 0) (by decide) (by decide)) rfl hS.1.1 hS.1.2 rfl ml_X4_49 (rk_of rfl) rfl (Nat.le_of_ble_eq_true rfl) rfl (px_k ?_)
      refine v_i2l C dX4_odds_36 rfl ?_
      exact v_lret C hQ dX4_odds_37 ⟨(if_pos (by rw [← hL.1]; first | exact Or.inl h8 | exact Or.inr (Or.inl h18) | exact Or.inr (Or.inr h27))).symm, (if_pos (by rw [← hL.1]; first | exact Or.inl h8 | exact Or.inr (Or.inl h18) | exact Or.inr (Or.inr h27))).symm⟩
    · refine v_iload_n C dX4_odds_21 rfl rfl ?_
      refine v_iconst C dX4_odds_22 ic_0 rfl ?_
      refine v_iconst C dX4_odds_23 ic_1 rfl ?_
      refine v_iS C dX4_odds_24 ms_X4_within c_X4_within rfl ml_X4_56 (rk_of rfl) rfl (Nat.le_of_ble_eq_true rfl) rfl (px_k ?_)
      refine v_if_ne C 38 30 dX4_odds_27 (by decide) rfl (fun h27 => ?_) (fun h27 => ?_)
      · refine v_iconst C dX4_odds_38 ic_0 rfl ?_
        refine v_istore C dX4_odds_39 (by decide) rfl ?_
        refine v_iconst C dX4_odds_41 ic_0 rfl ?_
        refine v_istore C dX4_odds_42 (by decide) rfl ?_
        exact V.norm (lp_X4_odds_44 hS hX hL hI (by rw [← hL.1]; exact h8) h18 h27 C hQ 257 0 _ (by omega) (by omega) rfl) rfl
      · refine v_aload_n C dX4_odds_30 rfl rfl ?_
        refine v_ldc C dX4_odds_31 cn_X4_48 rfl ?_
        refine v_iV C dX4_odds_33 mi_X4_tell (c_X4_tell hS hX (p := 0) (by decide) (by decide)) rfl hS.1.1 hS.1.2 rfl ml_X4_49 (rk_of rfl) rfl (Nat.le_of_ble_eq_true rfl) rfl (px_k ?_)
        refine v_i2l C dX4_odds_36 rfl ?_
        exact v_lret C hQ dX4_odds_37 ⟨(if_pos (by rw [← hL.1]; first | exact Or.inl h8 | exact Or.inr (Or.inl h18) | exact Or.inr (Or.inr h27))).symm, (if_pos (by rw [← hL.1]; first | exact Or.inl h8 | exact Or.inr (Or.inl h18) | exact Or.inr (Or.inr h27))).symm⟩
