set_option maxRecDepth 100000 in
set_option maxHeartbeats 4000000 in
theorem lp_X5_come_39 {w : WC} {x : Cy} {μ : Me} (hM : Md w) (hI : IvD (μ.1 1)) {n : Int32} (h9 : ¬ wiS n 1 20 = 0) (h28 : (μ.1 1) 1 + n ≤ 99999) (hc : n = nI (cl n)) (hc2 : cl n ≤ 20) (C : Cx w x cX5_come 3 RX5 (some .int) (Rm 4 97)) (hQ : y_Q x = MQ (y_b x) (QI w (Px (if wiS n 1 20 = 0 then -1000001 else if (μ.1 1) 1 + n ≤ 99999 then smL (fun r => cmD (cl n) (μ.1 1) (21 + r)) (dn (μ.1 1)) else -1000005) (if wiS n 1 20 = 0 then fnS μ 0 else if (μ.1 1) 1 + n ≤ 99999 then ua μ 1 (cmD (cl n) (μ.1 1)) else fnS μ 4))) (y_a x) (y_s x) 0 0 (AA w)) : ∀ (m i : Nat), (cl n) + 1 ≤ i + m → i ≤ (cl n) → V w x 3 (ua μ 1 (cmD i (μ.1 1))) 39 [(0, .ref (w_ad w 0)), (1, .int n), (2, .int (nI i))] [] := by
  intro m
  induction m with
  | zero =>
    intro i  hm hi
    exact absurd hm (by omega)
  | succ m ih =>
    intro i  hm hi 
    have hn := hI.n.1
    obtain ⟨a1, a2, a3⟩ := cm_iv hI i
    have hs : (ua μ 1 (cmD i (μ.1 1))).1 1 = cmD i (μ.1 1) := ua_s _ _ _
    obtain ⟨s, hs1, hs2⟩ := a1.2.1
    have hz0 : (ua μ 1 (cmD i (μ.1 1))).1 1 0 = nI (dn (μ.1 1)) := by rw [hs, a1.n.2, a2]
    refine v_iload_n C dX5_come_39 rfl rfl ?_
    refine v_iload_n C dX5_come_40 rfl rfl ?_
    refine v_icmp_ge C 95 44 dX5_come_41 (by decide) rfl (fun h41 => ?_) (fun h41 => ?_)
    · rw [hc] at h41
      have g : i = cl n := by have := (le_n (a := cl n) (b := i) (by omega) (by omega)).mp h41; omega
      refine v_aload_n C dX5_come_95 rfl rfl ?_
      refine v_iconst C dX5_come_96 ic_1 rfl ?_
      refine v_iV C dX5_come_97 mi_X5_sumOf (c_X5_sumOf hM hn hz0 (f := 1) (by decide) rfl) rfl hM.1.1 hM.1.2 rfl ml_X5_146 (rk_of rfl) rfl (Nat.le_of_ble_eq_true rfl) rfl (px_k ?_)
      rw [hs]
      exact v_iret C hQ dX5_come_100 ⟨by rw [if_neg h9, if_pos h28, ← g], by rw [if_neg h9, if_pos h28, g]⟩
    · rw [hc] at h41
      have g : i < cl n := by rcases Nat.lt_or_ge i (cl n) with q | q; exact q; exact absurd ((le_n (a := cl n) (b := i) (by omega) (by omega)).mpr q) h41
      refine v_aload_n C dX5_come_44 rfl rfl ?_
      refine g_X5_d C hM.1 dX5_come_45 fl_X5_7 rfl ?_
      refine v_bipush C dX5_come_48 bp_7 rfl ?_
      refine v_aload_n C dX5_come_50 rfl rfl ?_
      refine g_X5_d C hM.1 dX5_come_51 fl_X5_7 rfl ?_
      refine v_iconst C dX5_come_54 ic_1 rfl ?_
      refine a_I C hM.2.1 (by decide) dX5_come_55 (1) rfl (by decide) rfl ?_
      refine v_bipush C dX5_come_56 bp_6 rfl ?_
      refine v_irem C dX5_come_58 (by decide) rfl ?_
      refine v_iadd C dX5_come_59 rfl ?_
      refine v_aload_n C dX5_come_60 rfl rfl ?_
      refine v_iV C dX5_come_61 mi_X5_draw (c_X5_draw hM) rfl hM.1.1 hM.1.2 rfl ml_X5_184 (rk_of rfl) rfl (Nat.le_of_ble_eq_true rfl) rfl (px_k ?_)
      refine v_sipush C dX5_come_64 sp_256 rfl ?_
      refine v_irem C dX5_come_67 (by decide) rfl ?_
      refine s_I C hM.2.1 (by decide) dX5_come_68 (7 + s6 (cmD i (μ.1 1) 1)) (by rw [hs, hs2, s6_e (by omega)]; show nI 7 + (nI s - nI s / 6 * 6) = _; rw [s6_n (by omega), nI_add]) (by rw [hs2, s6_e (by omega)]; omega) rfl ?_
      refine v_aload_n C dX5_come_69 rfl rfl ?_
      refine g_X5_d C hM.1 dX5_come_70 fl_X5_7 rfl ?_
      refine v_bipush C dX5_come_73 bp_6 rfl ?_
      refine v_iconst C dX5_come_75 ic_1 rfl ?_
      refine v_aload_n C dX5_come_76 rfl rfl ?_
      refine v_iV C dX5_come_77 mi_X5_draw (c_X5_draw hM) rfl hM.1.1 hM.1.2 rfl ml_X5_184 (rk_of rfl) rfl (Nat.le_of_ble_eq_true rfl) rfl (px_k ?_)
      refine v_bipush C dX5_come_80 bp_12 rfl ?_
      refine v_irem C dX5_come_82 (by decide) rfl ?_
      refine v_iadd C dX5_come_83 rfl ?_
      refine s_I C hM.2.1 (by decide) dX5_come_84 (6) rfl (by decide) rfl ?_
      refine v_mem (μ' := ua μ 1 (cdD (cmD i (μ.1 1)))) ?_ ?_
      · have e2 : (2 : Nat) ≠ 7 + s6 (cmD i (μ.1 1) 1) := by omega
        simp only [hs, up_r, upd_n _ _ e2, upd_s]
        exact md_cd
      refine v_aload_n C dX5_come_85 rfl rfl ?_
      refine v_vV C dX5_come_86 mi_X5_sundayGoes (c_X5_sundayGoes hM (by rw [ua_s]; exact IvD_cd a1)) rfl hM.1.1 hM.1.2 rfl ml_X5_92 (rk_of rfl) rfl (Nat.le_of_ble_eq_true rfl) rfl (pv_k ?_)
      refine v_iincN C dX5_come_89 rfl (by decide) rfl ?_
      refine v_goto C 39 dX5_come_92 (by decide) ?_
      refine v_mem ?_ (V.norm (ih (i + 1) (by omega) (by omega)) rfl)
      rw [ua_s, ua_ua]
      rfl
set_option maxRecDepth 100000 in
set_option maxHeartbeats 4000000 in
theorem c_X5_come {l : Launch} {w : WC} {μ : Me} (hM : Md w) (hI : IvD (μ.1 1)) {n : Int32} : CtI l w yX5_come cX5_come 3 (some .int) (Rm 4 97) [.ref (w_ad w 0), .int n] μ (Px (if wiS n 1 20 = 0 then -1000001 else if (μ.1 1) 1 + n ≤ 99999 then smL (fun r => cmD (cl n) (μ.1 1) (21 + r)) (dn (μ.1 1)) else -1000005) (if wiS n 1 20 = 0 then fnS μ 0 else if (μ.1 1) 1 + n ≤ 99999 then ua μ 1 (cmD (cl n) (μ.1 1)) else fnS μ 4)) := by
  refine Ct.mk (own := RX5) rfl (by decide) (Nat.le_of_ble_eq_true rfl) (fun x hxl C hQ => ?_)
  subst hxl
  have hn := hI.n.1
  have h0 := hI.n.2
  refine v_iload_n C dX5_come_0 rfl rfl ?_
  refine v_i2l C dX5_come_1 rfl ?_
  refine v_lconst (v := 1) C dX5_come_2 rfl rfl ?_
  refine v_ldc2 C dX5_come_3 cn_X5_95 rfl ?_
  refine v_iS C dX5_come_6 ms_X5_in c_X5_in rfl ml_X5_42 (rk_of rfl) rfl (Nat.le_of_ble_eq_true rfl) rfl (px_k ?_)
  refine v_eqi (in_w (a := (1)) (b := (20)) (by decide) (by decide)) ?_
  refine v_if_ne C 18 12 dX5_come_9 (by decide) rfl (fun h9 => ?_) (fun h9 => ?_)
  · refine v_aload_n C dX5_come_18 rfl rfl ?_
    refine g_X5_d C hM.1 dX5_come_19 fl_X5_7 rfl ?_
    refine v_iconst C dX5_come_22 ic_1 rfl ?_
    refine a_I C hM.2.1 (by decide) dX5_come_23 (1) rfl (by decide) rfl ?_
    refine v_iload_n C dX5_come_24 rfl rfl ?_
    refine v_iadd C dX5_come_25 rfl ?_
    refine v_ldc C dX5_come_26 cn_X5_91 rfl ?_
    refine v_icmp_le C 37 31 dX5_come_28 (by decide) rfl (fun h28 => ?_) (fun h28 => ?_)
    · have q := wi_j (m := 20) (by omega) h9
      refine v_iconst C dX5_come_37 ic_0 rfl ?_
      refine v_istore_n C dX5_come_38 (by decide) rfl ?_
      refine v_mem (ua_self μ 1).symm (V.norm (lp_X5_come_39 hM hI h9 h28 q.1 q.2.1 C hQ (cl n + 1) 0 (by omega) (Nat.zero_le _)) rfl)
    · refine v_aload_n C dX5_come_31 rfl rfl ?_
      refine v_iconst C dX5_come_32 ic_4 rfl ?_
      refine v_iV C dX5_come_33 mi_X5_finds (c_X5_finds hM (p := 4) (e := -1000005) (by decide) rfl (by decide)) rfl hM.1.1 hM.1.2 rfl ml_X5_108 (rk_of rfl) rfl (Nat.le_of_ble_eq_true rfl) rfl (px_k ?_)
      exact v_iret C hQ dX5_come_36 ⟨by rw [if_neg h9, if_neg h28], by rw [if_neg h9, if_neg h28]⟩
  · refine v_aload_n C dX5_come_12 rfl rfl ?_
    refine v_iconst C dX5_come_13 ic_0 rfl ?_
    refine v_iV C dX5_come_14 mi_X5_finds (c_X5_finds hM (p := 0) (e := -1000001) (by decide) rfl (by decide)) rfl hM.1.1 hM.1.2 rfl ml_X5_108 (rk_of rfl) rfl (Nat.le_of_ble_eq_true rfl) rfl (px_k ?_)
    exact v_iret C hQ dX5_come_17 ⟨(if_pos h9).symm, (if_pos h9).symm⟩

set_option maxRecDepth 100000 in
set_option maxHeartbeats 4000000 in
theorem lp_X5_odds_111 {w : WC} {x : Cy} {μ : Me} (hM : Md w) (hI : IvD (μ.1 1)) {r n t : Int32} (nc : ¬ (wiS r 0 ((μ.1 1) 0 - 1) = 0 ∨ wiS n 0 7 = 0 ∨ wiS t 0 1 = 0)) (q1 : r = nI (cl r) ∧ cl r < dn (μ.1 1)) (q2 : n = nI (cl n) ∧ cl n ≤ 7) (C : Cx w x cX5_odds 9 RX5 (some .long) (Rm 3 67)) (hQ : y_Q x = MQ (y_b x) (QL w (Pl (if wiS r 0 ((μ.1 1) 0 - 1) = 0 ∨ wiS n 0 7 = 0 ∨ wiS t 0 1 = 0 then (-1000001 : Int32).toInt64 else powL (odS (μ.1 1) r t) (cl n)) (if wiS r 0 ((μ.1 1) 0 - 1) = 0 ∨ wiS n 0 7 = 0 ∨ wiS t 0 1 = 0 then fnS μ 0 else μ))) (y_a x) (y_s x) 0 0 (AA w)) : ∀ (m i : Nat) (a : Int32) (b : Int32) (v : Int64), (cl n) + 1 ≤ i + m → i ≤ (cl n) → ((a, b) = hvL 8 (ocL (fun i => (μ.1 1) (13 + i)) ((μ.1 1) 3) (dn (μ.1 1)) r 256)) → (v = powL (odS (μ.1 1) r t) i) → V w x 9 μ 111 [(0, .ref (w_ad w 0)), (1, .int r), (2, .int n), (3, .int t), (4, .int a), (5, .int b), (6, .long v), (8, .int (nI i))] [] := by
  intro m
  induction m with
  | zero =>
    intro i a b v hm hi
    exact absurd hm (by omega)
  | succ m ih =>
    intro i a b v hm hi hab hv
    refine v_iload C dX5_odds_111 rfl rfl ?_
    refine v_iload_n C dX5_odds_113 rfl rfl ?_
    refine v_icmp_ge C 141 117 dX5_odds_114 (by decide) rfl (fun h114 => ?_) (fun h114 => ?_)
    · rw [q2.1] at h114
      have g : i = cl n := by have := (le_n (a := cl n) (b := i) (by omega) (by omega)).mp h114; omega
      refine v_lload C dX5_odds_141 rfl rfl ?_
      exact v_lret C hQ dX5_odds_143 ⟨by rw [if_neg nc, hv, g], by rw [if_neg nc]⟩
    · rw [q2.1] at h114
      have g : i < cl n := by rcases Nat.lt_or_ge i (cl n) with q | q; exact q; exact absurd ((le_n (a := cl n) (b := i) (by omega) (by omega)).mpr q) h114
      refine v_lload C dX5_odds_117 rfl rfl ?_
      refine v_iload_n C dX5_odds_119 rfl rfl ?_
      refine v_if_ne C 129 123 dX5_odds_120 (by decide) rfl (fun h120 => ?_) (fun h120 => ?_)
      · refine v_iload C dX5_odds_129 rfl rfl ?_
        refine v_i2l C dX5_odds_131 rfl ?_
        refine v_lmul C dX5_odds_132 rfl ?_
        refine v_lstore C dX5_odds_133 (by decide) rfl ?_
        refine v_iincN C dX5_odds_135 rfl (by decide) rfl ?_
        refine v_goto C 111 dX5_odds_138 (by decide) ?_
        exact V.norm (ih (i + 1) _ _ _ (by omega) (by omega) hab (by rw [powL, hv]; unfold odS; rw [← hab, if_neg h120])) rfl
      · refine v_iload C dX5_odds_123 rfl rfl ?_
        refine v_i2l C dX5_odds_125 rfl ?_
        refine v_goto C 132 dX5_odds_126 (by decide) ?_
        refine v_lmul C dX5_odds_132 rfl ?_
        refine v_lstore C dX5_odds_133 (by decide) rfl ?_
        refine v_iincN C dX5_odds_135 rfl (by decide) rfl ?_
        refine v_goto C 111 dX5_odds_138 (by decide) ?_
        exact V.norm (ih (i + 1) _ _ _ (by omega) (by omega) hab (by rw [powL, hv]; unfold odS; rw [← hab, if_pos h120])) rfl
set_option maxRecDepth 100000 in
set_option maxHeartbeats 4000000 in
theorem lp_X5_odds_77 {w : WC} {x : Cy} {μ : Me} (hM : Md w) (hI : IvD (μ.1 1)) {r n t : Int32} (nc : ¬ (wiS r 0 ((μ.1 1) 0 - 1) = 0 ∨ wiS n 0 7 = 0 ∨ wiS t 0 1 = 0)) (q1 : r = nI (cl r) ∧ cl r < dn (μ.1 1)) (q2 : n = nI (cl n) ∧ cl n ≤ 7) (C : Cx w x cX5_odds 9 RX5 (some .long) (Rm 3 67)) (hQ : y_Q x = MQ (y_b x) (QL w (Pl (if wiS r 0 ((μ.1 1) 0 - 1) = 0 ∨ wiS n 0 7 = 0 ∨ wiS t 0 1 = 0 then (-1000001 : Int32).toInt64 else powL (odS (μ.1 1) r t) (cl n)) (if wiS r 0 ((μ.1 1) 0 - 1) = 0 ∨ wiS n 0 7 = 0 ∨ wiS t 0 1 = 0 then fnS μ 0 else μ))) (y_a x) (y_s x) 0 0 (AA w)) : ∀ (m i : Nat) (a : Int32), 8 + 1 ≤ i + m → i ≤ 8 → (hvL 8 (ocL (fun i => (μ.1 1) (13 + i)) ((μ.1 1) 3) (dn (μ.1 1)) r 256) = hvL (8 - i) a) → V w x 9 μ 77 [(0, .ref (w_ad w 0)), (1, .int r), (2, .int n), (3, .int t), (4, .int a), (5, .int (nI (2 ^ (8 - i))))] [] := by
  intro m
  induction m with
  | zero =>
    intro i a hm hi
    exact absurd hm (by omega)
  | succ m ih =>
    intro i a hm hi hE
    refine v_iload C dX5_odds_77 rfl rfl ?_
    refine v_iconst C dX5_odds_79 ic_2 rfl ?_
    refine v_irem C dX5_odds_80 (by decide) rfl ?_
    refine v_if_ne C 105 84 dX5_odds_81 (by decide) rfl (fun h81 => ?_) (fun h81 => ?_)
    · have hF : (a, nI (2 ^ (8 - i))) = hvL (8 - i) a := by
        rcases Nat.eq_zero_or_pos (8 - i) with z | z
        · rw [z]; rfl
        · obtain ⟨k, hk⟩ : ∃ k, 8 - i = k + 1 := ⟨8 - i - 1, by omega⟩
          rw [hk]; exact (if_neg h81).symm
      refine v_lconst (v := 1) C dX5_odds_105 rfl rfl ?_
      refine v_lstore C dX5_odds_106 (by decide) rfl ?_
      refine v_iconst C dX5_odds_108 ic_0 rfl ?_
      refine v_istore C dX5_odds_109 (by decide) rfl ?_
      exact V.norm (lp_X5_odds_111 hM hI nc q1 q2 C hQ (cl n + 1) 0 _ _ _ (by omega) (Nat.zero_le _) (hF.trans hE.symm) rfl) rfl
    · refine v_iload C dX5_odds_84 rfl rfl ?_
      refine v_iconst C dX5_odds_86 ic_1 rfl ?_
      refine v_icmp_le C 105 90 dX5_odds_87 (by decide) rfl (fun h87 => ?_) (fun h87 => ?_)
      · have g : 8 - i = 0 := (p2_1 (by omega)).mp h87
        have hF : (a, nI (2 ^ (8 - i))) = hvL (8 - i) a := by rw [g]; rfl
        refine v_lconst (v := 1) C dX5_odds_105 rfl rfl ?_
        refine v_lstore C dX5_odds_106 (by decide) rfl ?_
        refine v_iconst C dX5_odds_108 ic_0 rfl ?_
        refine v_istore C dX5_odds_109 (by decide) rfl ?_
        exact V.norm (lp_X5_odds_111 hM hI nc q1 q2 C hQ (cl n + 1) 0 _ _ _ (by omega) (Nat.zero_le _) (hF.trans hE.symm) rfl) rfl
      · have g : ¬ 8 - i = 0 := fun e => h87 ((p2_1 (by omega)).mpr e)
        have g8 : 8 - i = (7 - i) + 1 := by omega
        refine v_iload C dX5_odds_90 rfl rfl ?_
        refine v_iconst C dX5_odds_92 ic_2 rfl ?_
        refine v_idiv C dX5_odds_93 (by decide) rfl ?_
        refine v_istore C dX5_odds_94 (by decide) rfl ?_
        refine v_iload C dX5_odds_96 rfl rfl ?_
        refine v_iconst C dX5_odds_98 ic_2 rfl ?_
        refine v_idiv C dX5_odds_99 (by decide) rfl ?_
        refine v_istore C dX5_odds_100 (by decide) rfl ?_
        refine v_goto C 77 dX5_odds_102 (by decide) ?_
        refine V.norm (lv' := [(0, .ref (w_ad w 0)), (1, .int r), (2, .int n), (3, .int t), (4, .int (a / 2)), (5, .int (nI (2 ^ (8 - i)) / 2))]) ?_ rfl
        rw [g8, p2_h (by omega), show 7 - i = 8 - (i + 1) by omega]
        exact ih (i + 1) _ (by omega) (by omega) (by rw [hE, g8, show 8 - (i + 1) = 7 - i by omega]; exact if_pos h81)
set_option maxRecDepth 100000 in
set_option maxHeartbeats 4000000 in
theorem lp_X5_odds_43 {w : WC} {x : Cy} {μ : Me} (hM : Md w) (hI : IvD (μ.1 1)) {r n t : Int32} (nc : ¬ (wiS r 0 ((μ.1 1) 0 - 1) = 0 ∨ wiS n 0 7 = 0 ∨ wiS t 0 1 = 0)) (q1 : r = nI (cl r) ∧ cl r < dn (μ.1 1)) (q2 : n = nI (cl n) ∧ cl n ≤ 7) (C : Cx w x cX5_odds 9 RX5 (some .long) (Rm 3 67)) (hQ : y_Q x = MQ (y_b x) (QL w (Pl (if wiS r 0 ((μ.1 1) 0 - 1) = 0 ∨ wiS n 0 7 = 0 ∨ wiS t 0 1 = 0 then (-1000001 : Int32).toInt64 else powL (odS (μ.1 1) r t) (cl n)) (if wiS r 0 ((μ.1 1) 0 - 1) = 0 ∨ wiS n 0 7 = 0 ∨ wiS t 0 1 = 0 then fnS μ 0 else μ))) (y_a x) (y_s x) 0 0 (AA w)) : ∀ (m i : Nat) (a : Int32), 256 + 1 ≤ i + m → i ≤ 256 → (a = ocL (fun i => (μ.1 1) (13 + i)) ((μ.1 1) 3) (dn (μ.1 1)) r i) → V w x 9 μ 43 [(0, .ref (w_ad w 0)), (1, .int r), (2, .int n), (3, .int t), (4, .int a), (5, .int (nI i))] [] := by
  intro m
  induction m with
  | zero =>
    intro i a hm hi
    exact absurd hm (by omega)
  | succ m ih =>
    intro i a hm hi ha
    have hn := hI.n.1
    have h0 := hI.n.2
    refine v_iload C dX5_odds_43 rfl rfl ?_
    refine v_sipush C dX5_odds_45 sp_256 rfl ?_
    refine v_icmp_ge C 72 51 dX5_odds_48 (by decide) rfl (fun h48 => ?_) (fun h48 => ?_)
    · have g : i = 256 := by have := (le_n (a := 256) (b := i) (by omega) (by omega)).mp h48; omega
      refine v_sipush C dX5_odds_72 sp_256 rfl ?_
      refine v_istore C dX5_odds_75 (by decide) rfl ?_
      exact V.norm (lp_X5_odds_77 hM hI nc q1 q2 C hQ 9 0 _ (by omega) (by omega) (by rw [ha, g])) rfl
    · have g : i < 256 := by rcases Nat.lt_or_ge i (256) with q | q; exact q; exact absurd ((le_n (a := 256) (b := i) (by omega) (by omega)).mpr q) h48
      refine v_iload C dX5_odds_51 rfl rfl ?_
      refine v_aload_n C dX5_odds_53 rfl rfl ?_
      refine v_iload C dX5_odds_54 rfl rfl ?_
      refine v_iV C dX5_odds_56 mi_X5_visitedOf (c_X5_visitedOf hM hn h0) rfl hM.1.1 hM.1.2 rfl ml_X5_69 (rk_of rfl) rfl (Nat.le_of_ble_eq_true rfl) rfl (px_k ?_)
      refine v_iload_n C dX5_odds_59 rfl rfl ?_
      refine v_ishr C dX5_odds_60 rfl ?_
      refine v_iconst C dX5_odds_61 ic_1 rfl ?_
      refine v_iand C dX5_odds_62 rfl ?_
      refine v_iadd C dX5_odds_63 rfl ?_
      refine v_istore C dX5_odds_64 (by decide) rfl ?_
      refine v_iincN C dX5_odds_66 rfl (by decide) rfl ?_
      refine v_goto C 43 dX5_odds_69 (by decide) ?_
      exact V.norm (ih (i + 1) _ (by omega) (by omega) (by rw [ha]; have z := oc_s (f := fun i => μ.1 1 (13 + i)) (c := μ.1 1 3) (n := dn (μ.1 1)) (k := cl r) (i := i) (by omega); rw [← q1.1] at z; exact z)) rfl
set_option maxRecDepth 100000 in
set_option maxHeartbeats 4000000 in
theorem c_X5_odds {l : Launch} {w : WC} {μ : Me} (hM : Md w) (hI : IvD (μ.1 1)) {r n t : Int32} : CtL l w yX5_odds cX5_odds 9 (Rm 3 67) [.ref (w_ad w 0), .int r, .int n, .int t] μ (Pl (if wiS r 0 ((μ.1 1) 0 - 1) = 0 ∨ wiS n 0 7 = 0 ∨ wiS t 0 1 = 0 then (-1000001 : Int32).toInt64 else powL (odS (μ.1 1) r t) (cl n)) (if wiS r 0 ((μ.1 1) 0 - 1) = 0 ∨ wiS n 0 7 = 0 ∨ wiS t 0 1 = 0 then fnS μ 0 else μ)) := by
  refine Ct.mk (own := RX5) rfl (by decide) (Nat.le_of_ble_eq_true rfl) (fun x hxl C hQ => ?_)
  subst hxl
  have hn := hI.n.1
  have h0 := hI.n.2
  refine v_aload_n C dX5_odds_0 rfl rfl ?_
  refine v_iload_n C dX5_odds_1 rfl rfl ?_
  refine v_iV C dX5_odds_2 mi_X5_isResident (c_X5_isResident hM) rfl hM.1.1 hM.1.2 rfl ml_X5_125 (rk_of rfl) rfl (Nat.le_of_ble_eq_true rfl) rfl (px_k ?_)
  refine v_if_eq C 30 8 dX5_odds_5 (by decide) rfl (fun h5 => ?_) (fun h5 => ?_)
  · refine v_aload_n C dX5_odds_30 rfl rfl ?_
    refine v_iconst C dX5_odds_31 ic_0 rfl ?_
    refine v_iV C dX5_odds_32 mi_X5_finds (c_X5_finds hM (p := 0) (e := -1000001) (by decide) rfl (by decide)) rfl hM.1.1 hM.1.2 rfl ml_X5_108 (rk_of rfl) rfl (Nat.le_of_ble_eq_true rfl) rfl (px_k ?_)
    refine v_i2l C dX5_odds_35 rfl ?_
    exact v_lret C hQ dX5_odds_36 ⟨(if_pos (by first | exact Or.inl h5 | exact Or.inr (Or.inl h17) | exact Or.inr (Or.inr h27))).symm, (if_pos (by first | exact Or.inl h5 | exact Or.inr (Or.inl h17) | exact Or.inr (Or.inr h27))).symm⟩
  · refine v_iload_n C dX5_odds_8 rfl rfl ?_
    refine v_i2l C dX5_odds_9 rfl ?_
    refine v_lconst (v := 0) C dX5_odds_10 rfl rfl ?_
    refine v_ldc2 C dX5_odds_11 cn_X5_187 rfl ?_
    refine v_iS C dX5_odds_14 ms_X5_in c_X5_in rfl ml_X5_42 (rk_of rfl) rfl (Nat.le_of_ble_eq_true rfl) rfl (px_k ?_)
    refine v_eqi (in_w (a := (0)) (b := (7)) (by decide) (by decide)) ?_
    refine v_if_eq C 30 20 dX5_odds_17 (by decide) rfl (fun h17 => ?_) (fun h17 => ?_)
    · refine v_aload_n C dX5_odds_30 rfl rfl ?_
      refine v_iconst C dX5_odds_31 ic_0 rfl ?_
      refine v_iV C dX5_odds_32 mi_X5_finds (c_X5_finds hM (p := 0) (e := -1000001) (by decide) rfl (by decide)) rfl hM.1.1 hM.1.2 rfl ml_X5_108 (rk_of rfl) rfl (Nat.le_of_ble_eq_true rfl) rfl (px_k ?_)
      refine v_i2l C dX5_odds_35 rfl ?_
      exact v_lret C hQ dX5_odds_36 ⟨(if_pos (by first | exact Or.inl h5 | exact Or.inr (Or.inl h17) | exact Or.inr (Or.inr h27))).symm, (if_pos (by first | exact Or.inl h5 | exact Or.inr (Or.inl h17) | exact Or.inr (Or.inr h27))).symm⟩
    · refine v_iload_n C dX5_odds_20 rfl rfl ?_
      refine v_i2l C dX5_odds_21 rfl ?_
      refine v_lconst (v := 0) C dX5_odds_22 rfl rfl ?_
      refine v_lconst (v := 1) C dX5_odds_23 rfl rfl ?_
      refine v_iS C dX5_odds_24 ms_X5_in c_X5_in rfl ml_X5_42 (rk_of rfl) rfl (Nat.le_of_ble_eq_true rfl) rfl (px_k ?_)
      refine v_eqi (in_w (a := (0)) (b := (1)) (by decide) (by decide)) ?_
      refine v_if_ne C 37 30 dX5_odds_27 (by decide) rfl (fun h27 => ?_) (fun h27 => ?_)
      · refine v_iconst C dX5_odds_37 ic_0 rfl ?_
        refine v_istore C dX5_odds_38 (by decide) rfl ?_
        refine v_iconst C dX5_odds_40 ic_0 rfl ?_
        refine v_istore C dX5_odds_41 (by decide) rfl ?_
        exact V.norm (lp_X5_odds_43 hM hI (fun h => h.elim h5 (fun h => h.elim h17 h27)) (has_i hn h0 h5) (wi_i (m := 7) (by omega) h17) C hQ 257 0 _ (by omega) (by omega) rfl) rfl
      · refine v_aload_n C dX5_odds_30 rfl rfl ?_
        refine v_iconst C dX5_odds_31 ic_0 rfl ?_
        refine v_iV C dX5_odds_32 mi_X5_finds (c_X5_finds hM (p := 0) (e := -1000001) (by decide) rfl (by decide)) rfl hM.1.1 hM.1.2 rfl ml_X5_108 (rk_of rfl) rfl (Nat.le_of_ble_eq_true rfl) rfl (px_k ?_)
        refine v_i2l C dX5_odds_35 rfl ?_
        exact v_lret C hQ dX5_odds_36 ⟨(if_pos (by first | exact Or.inl h5 | exact Or.inr (Or.inl h17) | exact Or.inr (Or.inr h27))).symm, (if_pos (by first | exact Or.inl h5 | exact Or.inr (Or.inl h17) | exact Or.inr (Or.inr h27))).symm⟩

set_option maxRecDepth 100000 in
set_option maxHeartbeats 4000000 in
theorem lp_X5_feed_39 {w : WC} {x : Cy} {μ : Me} (hM : Md w) {t : Nat} (ht : t ≤ 120) (h1 : μ.1 0 7 = nI t) {b n : Int32} (h9 : ¬ wiS n 1 4 = 0) (h26 : nI t + n ≤ 120) {c : Nat} (hc4 : c ≤ 4) (hc : n = nI c) (htc : t + c ≤ 120) (C : Cx w x cX5_feed 4 RX5 (some .int) (Rm 1 25)) (hQ : y_Q x = MQ (y_b x) (QI w (Px (if wiS n 1 4 = 0 then -1000001 else if nI t + n ≤ 120 then nI (t + cl n) else -1000002) (if wiS n 1 4 = 0 then fnS μ 0 else if nI t + n ≤ 120 then fdB μ t b (cl n) (cl n) else fnS μ 1))) (y_a x) (y_s x) 0 0 (AA w)) : ∀ (m i : Nat), c + 1 ≤ i + m → i ≤ c → V w x 4 (fdB μ t b c i) 39 [(0, .ref (w_ad w 0)), (1, .int b), (2, .int n), (3, .int (nI c - nI (i + 1)))] [] := by
  intro m
  induction m with
  | zero =>
    intro i  hm hi
    exact absurd hm (by omega)
  | succ m ih =>
    intro i  hm hi 
    have hf := fdB_len (b := b) (c := c) h1 i
    refine v_iload_n C dX5_feed_39 rfl rfl ?_
    refine v_if_lt C 75 43 dX5_feed_40 (by decide) rfl (fun h40 => ?_) (fun h40 => ?_)
    · have g : i = c := by
        rcases Nat.lt_or_ge i c with q | q
        · rw [pk_sub (by omega)] at h40; exact absurd h40 (nI_pos (by omega))
        · omega
      refine v_aload_n C dX5_feed_75 rfl rfl ?_
      refine g_X5_taped C hM.1 dX5_feed_76 fl_X5_189 rfl ?_
      exact v_iret C hQ dX5_feed_79 ⟨by rw [if_neg h9, if_pos h26, hf, g, hc, cl_n (by omega)], by rw [if_neg h9, if_pos h26, g, hc, cl_n (by omega)]⟩
    · have g : i < c := by
        rcases Nat.lt_or_ge i c with q | q
        · exact q
        · exact absurd (pk_sneg (a := c) (b := i + 1) (by omega) (by omega)) h40
      refine v_aload_n C dX5_feed_43 rfl rfl ?_
      refine g_X5_tape C hM.1 dX5_feed_44 fl_X5_25 rfl ?_
      refine v_aload_n C dX5_feed_47 rfl rfl ?_
      refine g_X5_taped C hM.1 dX5_feed_48 fl_X5_189 rfl ?_
      refine v_iload_n C dX5_feed_51 rfl rfl ?_
      refine v_bipush C dX5_feed_52 bp_8 rfl ?_
      refine v_iload_n C dX5_feed_54 rfl rfl ?_
      refine v_imul C dX5_feed_55 rfl ?_
      refine v_ishr C dX5_feed_56 rfl ?_
      refine v_i2b C dX5_feed_57 rfl ?_
      refine s_B C hM.2.2.2.2.2.2.1 (by decide) dX5_feed_58 (t + i) hf (by omega) rfl ?_
      rw [pk_vb]
      refine v_aload_n C dX5_feed_59 rfl rfl ?_
      refine v_dup C dX5_feed_60 rfl rfl ?_
      refine g_X5_taped C hM.1 dX5_feed_61 fl_X5_189 rfl ?_
      refine v_iconst C dX5_feed_64 ic_1 rfl ?_
      refine v_iadd C dX5_feed_65 rfl ?_
      refine p_X5_taped C hM.1 dX5_feed_66 fl_X5_189 rfl ?_
      refine v_iincM C dX5_feed_69 rfl (by decide) rfl ?_
      refine v_goto C 39 dX5_feed_72 (by decide) ?_
      refine V.norm (lv' := [(0, .ref (w_ad w 0)), (1, .int b), (2, .int n), (3, .int (nI c - nI (i + 1) + (-1)))]) ?_ rfl
      rw [sub_m1]
      refine v_mem ?_ (ih (i + 1) (by omega) (by omega))
      rw [up_n _ _ _ (by decide), hf, nI_1]
      rfl
set_option maxRecDepth 100000 in
set_option maxHeartbeats 4000000 in
theorem c_X5_feed {l : Launch} {w : WC} {μ : Me} (hM : Md w) {t : Nat} (ht : t ≤ 120) (h1 : μ.1 0 7 = nI t) {b n : Int32} : CtI l w yX5_feed cX5_feed 4 (some .int) (Rm 1 25) [.ref (w_ad w 0), .int b, .int n] μ (Px (if wiS n 1 4 = 0 then -1000001 else if nI t + n ≤ 120 then nI (t + cl n) else -1000002) (if wiS n 1 4 = 0 then fnS μ 0 else if nI t + n ≤ 120 then fdB μ t b (cl n) (cl n) else fnS μ 1)) := by
  refine Ct.mk (own := RX5) rfl (by decide) (Nat.le_of_ble_eq_true rfl) (fun x hxl C hQ => ?_)
  subst hxl
  refine v_iload_n C dX5_feed_0 rfl rfl ?_
  refine v_i2l C dX5_feed_1 rfl ?_
  refine v_lconst (v := 1) C dX5_feed_2 rfl rfl ?_
  refine v_ldc2 C dX5_feed_3 cn_X5_134 rfl ?_
  refine v_iS C dX5_feed_6 ms_X5_in c_X5_in rfl ml_X5_42 (rk_of rfl) rfl (Nat.le_of_ble_eq_true rfl) rfl (px_k ?_)
  refine v_eqi (in_w (a := (1)) (b := (4)) (by decide) (by decide)) ?_
  refine v_if_ne C 18 12 dX5_feed_9 (by decide) rfl (fun h9 => ?_) (fun h9 => ?_)
  · refine v_aload_n C dX5_feed_18 rfl rfl ?_
    refine g_X5_taped C hM.1 dX5_feed_19 fl_X5_189 rfl ?_
    refine v_eqi (h1) ?_
    refine v_iload_n C dX5_feed_22 rfl rfl ?_
    refine v_iadd C dX5_feed_23 rfl ?_
    refine v_bipush C dX5_feed_24 bp_120 rfl ?_
    refine v_icmp_le C 35 29 dX5_feed_26 (by decide) rfl (fun h26 => ?_) (fun h26 => ?_)
    · have q := wi_j (m := 4) (by omega) h9
      have q2 : t + cl n ≤ 120 := by
        have h8 := h26
        rw [q.1, nI_add] at h8
        exact (le_n (a := t + cl n) (b := 120) (by omega) (by omega)).mp h8
      refine v_iload_n C dX5_feed_35 rfl rfl ?_
      refine v_iconst C dX5_feed_36 ic_1 rfl ?_
      refine v_isub C dX5_feed_37 rfl ?_
      refine v_istore_n C dX5_feed_38 (by decide) rfl ?_
      refine V.norm (lv' := [(0, .ref (w_ad w 0)), (1, .int b), (2, .int n), (3, .int (n - 1))]) ?_ rfl
      have e : n - 1 = nI (cl n) - nI (0 + 1) := by rw [← q.1]; rfl
      rw [e]
      exact lp_X5_feed_39 hM ht h1 h9 h26 (c := cl n) (by omega) q.1 q2 C hQ (cl n + 1) 0 (by omega) (by omega)
    · refine v_aload_n C dX5_feed_29 rfl rfl ?_
      refine v_iconst C dX5_feed_30 ic_1 rfl ?_
      refine v_iV C dX5_feed_31 mi_X5_finds (c_X5_finds hM (p := 1) (e := -1000002) (by decide) rfl (by decide)) rfl hM.1.1 hM.1.2 rfl ml_X5_108 (rk_of rfl) rfl (Nat.le_of_ble_eq_true rfl) rfl (px_k ?_)
      exact v_iret C hQ dX5_feed_34 ⟨by rw [if_neg h9, if_neg h26], by rw [if_neg h9, if_neg h26]⟩
  · refine v_aload_n C dX5_feed_12 rfl rfl ?_
    refine v_iconst C dX5_feed_13 ic_0 rfl ?_
    refine v_iV C dX5_feed_14 mi_X5_finds (c_X5_finds hM (p := 0) (e := -1000001) (by decide) rfl (by decide)) rfl hM.1.1 hM.1.2 rfl ml_X5_108 (rk_of rfl) rfl (Nat.le_of_ble_eq_true rfl) rfl (px_k ?_)
    exact v_iret C hQ dX5_feed_17 ⟨(if_pos h9).symm, (if_pos h9).symm⟩

set_option maxRecDepth 100000 in
set_option maxHeartbeats 4000000 in
theorem c_X5_hold {l : Launch} {w : WC} {μ : Me} (hM : Md w) (hI : IvD (μ.1 1)) {s r : Int32} : CtI l w yX5_hold cX5_hold 3 (some .int) (Rm 1 25) [.ref (w_ad w 0), .int s, .int r] μ (Px (if wiS s 0 9 = 0 ∨ (¬ r = -1 ∧ wiS r 0 ((μ.1 1) 0 - 1) = 0) then -1000001 else 1) (if wiS s 0 9 = 0 ∨ (¬ r = -1 ∧ wiS r 0 ((μ.1 1) 0 - 1) = 0) then fnS μ 0 else up μ 1 (53 + cl s) (r + 1))) := by
  refine Ct.mk (own := RX5) rfl (by decide) (Nat.le_of_ble_eq_true rfl) (fun x hxl C hQ => ?_)
  subst hxl
  have hn := hI.n.1
  have h0 := hI.n.2
  refine v_iload_n C dX5_hold_0 rfl rfl ?_
  refine v_i2l C dX5_hold_1 rfl ?_
  refine v_lconst (v := 0) C dX5_hold_2 rfl rfl ?_
  refine v_ldc2 C dX5_hold_3 cn_X5_291 rfl ?_
  refine v_iS C dX5_hold_6 ms_X5_in c_X5_in rfl ml_X5_42 (rk_of rfl) rfl (Nat.le_of_ble_eq_true rfl) rfl (px_k ?_)
  refine v_eqi (in_w (a := (0)) (b := (9)) (by decide) (by decide)) ?_
  refine v_if_eq C 32 12 dX5_hold_9 (by decide) rfl (fun h9 => ?_) (fun h9 => ?_)
  · refine v_aload_n C dX5_hold_32 rfl rfl ?_
    refine v_iconst C dX5_hold_33 ic_0 rfl ?_
    refine v_iV C dX5_hold_34 mi_X5_finds (c_X5_finds hM (p := 0) (e := -1000001) (by decide) rfl (by decide)) rfl hM.1.1 hM.1.2 rfl ml_X5_108 (rk_of rfl) rfl (Nat.le_of_ble_eq_true rfl) rfl (px_k ?_)
    exact v_iret C hQ dX5_hold_37 ⟨(if_pos (by first | exact Or.inl h9 | exact Or.inr ((wi_m1 hn h0).mp h29))).symm, (if_pos (by first | exact Or.inl h9 | exact Or.inr ((wi_m1 hn h0).mp h29))).symm⟩
  · refine v_iload_n C dX5_hold_12 rfl rfl ?_
    refine v_i2l C dX5_hold_13 rfl ?_
    refine v_ldc2 C dX5_hold_14 cn_X5_130 rfl ?_
    refine v_aload_n C dX5_hold_17 rfl rfl ?_
    refine g_X5_d C hM.1 dX5_hold_18 fl_X5_7 rfl ?_
    refine v_iconst C dX5_hold_21 ic_0 rfl ?_
    refine a_I C hM.2.1 (by decide) dX5_hold_22 (0) rfl (by decide) rfl ?_
    refine v_iconst C dX5_hold_23 ic_1 rfl ?_
    refine v_isub C dX5_hold_24 rfl ?_
    refine v_i2l C dX5_hold_25 rfl ?_
    refine v_iS C dX5_hold_26 ms_X5_in c_X5_in rfl ml_X5_42 (rk_of rfl) rfl (Nat.le_of_ble_eq_true rfl) rfl (px_k ?_)
    refine v_eqi (in_w (a := (-1)) (b := _) (by decide) rfl) ?_
    refine v_if_ne C 38 32 dX5_hold_29 (by decide) rfl (fun h29 => ?_) (fun h29 => ?_)
    · have q := wi_i (m := 9) (by omega) h9
      refine v_aload_n C dX5_hold_38 rfl rfl ?_
      refine g_X5_d C hM.1 dX5_hold_39 fl_X5_7 rfl ?_
      refine v_bipush C dX5_hold_42 bp_53 rfl ?_
      refine v_iload_n C dX5_hold_44 rfl rfl ?_
      refine v_iadd C dX5_hold_45 rfl ?_
      refine v_iload_n C dX5_hold_46 rfl rfl ?_
      refine v_iconst C dX5_hold_47 ic_1 rfl ?_
      refine v_iadd C dX5_hold_48 rfl ?_
      refine s_I C hM.2.1 (by decide) dX5_hold_49 (53 + cl s) (by rw [q.1, cl_n (by omega)]; exact nI_add 53 (cl s)) (by omega) rfl ?_
      refine v_iconst C dX5_hold_50 ic_1 rfl ?_
      exact v_iret C hQ dX5_hold_51 ⟨(if_neg (fun h => h.elim h9 (fun h => h29 ((wi_m1 hn h0).mpr h)))).symm, (if_neg (fun h => h.elim h9 (fun h => h29 ((wi_m1 hn h0).mpr h)))).symm⟩
    · refine v_aload_n C dX5_hold_32 rfl rfl ?_
      refine v_iconst C dX5_hold_33 ic_0 rfl ?_
      refine v_iV C dX5_hold_34 mi_X5_finds (c_X5_finds hM (p := 0) (e := -1000001) (by decide) rfl (by decide)) rfl hM.1.1 hM.1.2 rfl ml_X5_108 (rk_of rfl) rfl (Nat.le_of_ble_eq_true rfl) rfl (px_k ?_)
      exact v_iret C hQ dX5_hold_37 ⟨(if_pos (by first | exact Or.inl h9 | exact Or.inr ((wi_m1 hn h0).mp h29))).symm, (if_pos (by first | exact Or.inl h9 | exact Or.inr ((wi_m1 hn h0).mp h29))).symm⟩

set_option maxRecDepth 100000 in
set_option maxHeartbeats 4000000 in
theorem c_X5_as {l : Launch} {w : WC} {μ : Me} (hM : Md w) (hI : IvD (μ.1 1)) {s k : Int32} : CtI l w yX5_as cX5_as 5 (some .int) (Rm 1 25) [.ref (w_ad w 0), .int s, .int k] μ (Px (if wiS s 0 9 = 0 ∨ wiS k 0 6 = 0 then -1000001 else asS (μ.1 1) (cl s) k) (if wiS s 0 9 = 0 ∨ wiS k 0 6 = 0 then fnS μ 0 else if (μ.1 1) (53 + cl s) = 0 then fnS μ 5 else if undL 7 ((μ.1 1) (13 + (cl ((μ.1 1) (53 + cl s)) - 1))) k = 0 then fnS μ 2 else μ)) := by
  refine Ct.mk (own := RX5) rfl (by decide) (Nat.le_of_ble_eq_true rfl) (fun x hxl C hQ => ?_)
  subst hxl
  have hn := hI.n.1
  have h0 := hI.n.2
  refine v_iload_n C dX5_as_0 rfl rfl ?_
  refine v_i2l C dX5_as_1 rfl ?_
  refine v_lconst (v := 0) C dX5_as_2 rfl rfl ?_
  refine v_ldc2 C dX5_as_3 cn_X5_291 rfl ?_
  refine v_iS C dX5_as_6 ms_X5_in c_X5_in rfl ml_X5_42 (rk_of rfl) rfl (Nat.le_of_ble_eq_true rfl) rfl (px_k ?_)
  refine v_eqi (in_w (a := (0)) (b := (9)) (by decide) (by decide)) ?_
  refine v_if_eq C 24 12 dX5_as_9 (by decide) rfl (fun h9 => ?_) (fun h9 => ?_)
  · refine v_aload_n C dX5_as_24 rfl rfl ?_
    refine v_iconst C dX5_as_25 ic_0 rfl ?_
    refine v_iV C dX5_as_26 mi_X5_finds (c_X5_finds hM (p := 0) (e := -1000001) (by decide) rfl (by decide)) rfl hM.1.1 hM.1.2 rfl ml_X5_108 (rk_of rfl) rfl (Nat.le_of_ble_eq_true rfl) rfl (px_k ?_)
    exact v_iret C hQ dX5_as_29 ⟨(if_pos (by first | exact Or.inl h9 | exact Or.inr h21)).symm, (if_pos (by first | exact Or.inl h9 | exact Or.inr h21)).symm⟩
  · refine v_iload_n C dX5_as_12 rfl rfl ?_
    refine v_i2l C dX5_as_13 rfl ?_
    refine v_lconst (v := 0) C dX5_as_14 rfl rfl ?_
    refine v_ldc2 C dX5_as_15 cn_X5_120 rfl ?_
    refine v_iS C dX5_as_18 ms_X5_in c_X5_in rfl ml_X5_42 (rk_of rfl) rfl (Nat.le_of_ble_eq_true rfl) rfl (px_k ?_)
    refine v_eqi (in_w (a := (0)) (b := (6)) (by decide) (by decide)) ?_
    refine v_if_ne C 30 24 dX5_as_21 (by decide) rfl (fun h21 => ?_) (fun h21 => ?_)
    · have q := wi_i (m := 9) (by omega) h9
      have qk := wi_i (m := 6) (by omega) h21
      refine v_aload_n C dX5_as_30 rfl rfl ?_
      refine g_X5_d C hM.1 dX5_as_31 fl_X5_7 rfl ?_
      refine v_bipush C dX5_as_34 bp_53 rfl ?_
      refine v_iload_n C dX5_as_36 rfl rfl ?_
      refine v_iadd C dX5_as_37 rfl ?_
      refine a_I C hM.2.1 (by decide) dX5_as_38 (53 + cl s) (by rw [q.1, cl_n (by omega)]; exact nI_add 53 (cl s)) (by omega) rfl ?_
      refine v_if_ne C 48 42 dX5_as_39 (by decide) rfl (fun h39 => ?_) (fun h39 => ?_)
      · have z := (hI.2.2.2.2.2.2.2.2 (cl s) (by omega)).cl (by omega)
        have z1 : 1 ≤ cl ((μ.1 1) (53 + cl s)) := by rcases Nat.eq_zero_or_pos (cl ((μ.1 1) (53 + cl s))) with y | y; (rw [y] at z; exact absurd z.2 h39); exact y
        have zz : (μ.1 1) (53 + cl s) - 1 = nI (cl ((μ.1 1) (53 + cl s)) - 1) := by rw [z.2, cl_n (by omega)]; exact pk_sub (b := 1) z1
        have hu := as_u (hI.2.2.2.2.2.2.2.1 (cl ((μ.1 1) (53 + cl s)) - 1) (by omega)).1 (a := k) ⟨cl k, qk.2, qk.1⟩
        refine v_aload_n C dX5_as_48 rfl rfl ?_
        refine g_X5_d C hM.1 dX5_as_49 fl_X5_7 rfl ?_
        refine v_bipush C dX5_as_52 bp_53 rfl ?_
        refine v_iload_n C dX5_as_54 rfl rfl ?_
        refine v_iadd C dX5_as_55 rfl ?_
        refine a_I C hM.2.1 (by decide) dX5_as_56 (53 + cl s) (by rw [q.1, cl_n (by omega)]; exact nI_add 53 (cl s)) (by omega) rfl ?_
        refine v_iconst C dX5_as_57 ic_1 rfl ?_
        refine v_isub C dX5_as_58 rfl ?_
        refine v_istore_n C dX5_as_59 (by decide) rfl ?_
        refine v_aload_n C dX5_as_60 rfl rfl ?_
        refine v_iload_n C dX5_as_61 rfl rfl ?_
        refine v_iconst C dX5_as_62 ic_0 rfl ?_
        refine v_iV C dX5_as_63 mi_X5_its (c_X5_its hM (i := cl ((μ.1 1) (53 + cl s)) - 1) (f := 0) (j := 13 + (cl ((μ.1 1) (53 + cl s)) - 1)) (by omega) (by decide) zz rfl rfl) rfl hM.1.1 hM.1.2 rfl ml_X5_46 (rk_of rfl) rfl (Nat.le_of_ble_eq_true rfl) rfl (px_k ?_)
        refine v_istore C dX5_as_66 (by decide) rfl ?_
        refine v_iload_n C dX5_as_68 rfl rfl ?_
        refine v_if_eq C 99 72 dX5_as_69 (by decide) rfl (fun h69 => ?_) (fun h69 => ?_)
        · refine v_iload_n C dX5_as_99 rfl rfl ?_
          refine v_goto C 108 dX5_as_100 (by decide) ?_
          exact v_iret C hQ dX5_as_108 (by first | exact ⟨by rw [if_neg (fun h => h.elim h9 h21)]; unfold asS; rw [if_neg h39, if_pos (hu.mpr (fun h => h.elim h69 (fun h => h.elim h75 (fun h => h.elim h84 h96))))], by rw [if_neg (fun h => h.elim h9 h21), if_neg h39, if_pos (hu.mpr (fun h => h.elim h69 (fun h => h.elim h75 (fun h => h.elim h84 h96))))]⟩ | exact ⟨by rw [if_neg (fun h => h.elim h9 h21)]; unfold asS; rw [if_neg h39, if_neg (fun e => hu.mp e (by first | exact Or.inl h69 | exact Or.inr (Or.inl h75) | exact Or.inr (Or.inr (Or.inl h84)) | exact Or.inr (Or.inr (Or.inr h96))))], by rw [if_neg (fun h => h.elim h9 h21), if_neg h39, if_neg (fun e => hu.mp e (by first | exact Or.inl h69 | exact Or.inr (Or.inl h75) | exact Or.inr (Or.inr (Or.inl h84)) | exact Or.inr (Or.inr (Or.inr h96))))]⟩)
        · refine v_iload_n C dX5_as_72 rfl rfl ?_
          refine v_iload C dX5_as_73 rfl rfl ?_
          refine v_icmp_eq C 99 78 dX5_as_75 (by decide) rfl (fun h75 => ?_) (fun h75 => ?_)
          · refine v_iload_n C dX5_as_99 rfl rfl ?_
            refine v_goto C 108 dX5_as_100 (by decide) ?_
            exact v_iret C hQ dX5_as_108 (by first | exact ⟨by rw [if_neg (fun h => h.elim h9 h21)]; unfold asS; rw [if_neg h39, if_pos (hu.mpr (fun h => h.elim h69 (fun h => h.elim h75 (fun h => h.elim h84 h96))))], by rw [if_neg (fun h => h.elim h9 h21), if_neg h39, if_pos (hu.mpr (fun h => h.elim h69 (fun h => h.elim h75 (fun h => h.elim h84 h96))))]⟩ | exact ⟨by rw [if_neg (fun h => h.elim h9 h21)]; unfold asS; rw [if_neg h39, if_neg (fun e => hu.mp e (by first | exact Or.inl h69 | exact Or.inr (Or.inl h75) | exact Or.inr (Or.inr (Or.inl h84)) | exact Or.inr (Or.inr (Or.inr h96))))], by rw [if_neg (fun h => h.elim h9 h21), if_neg h39, if_neg (fun e => hu.mp e (by first | exact Or.inl h69 | exact Or.inr (Or.inl h75) | exact Or.inr (Or.inr (Or.inl h84)) | exact Or.inr (Or.inr (Or.inr h96))))]⟩)
          · refine v_iload_n C dX5_as_78 rfl rfl ?_
            refine v_iload C dX5_as_79 rfl rfl ?_
            refine v_iS C dX5_as_81 ms_X5_above c_X5_above rfl ml_X5_293 (rk_of rfl) rfl (Nat.le_of_ble_eq_true rfl) rfl (px_k ?_)
            refine v_icmp_eq C 99 87 dX5_as_84 (by decide) rfl (fun h84 => ?_) (fun h84 => ?_)
            · refine v_iload_n C dX5_as_99 rfl rfl ?_
              refine v_goto C 108 dX5_as_100 (by decide) ?_
              exact v_iret C hQ dX5_as_108 (by first | exact ⟨by rw [if_neg (fun h => h.elim h9 h21)]; unfold asS; rw [if_neg h39, if_pos (hu.mpr (fun h => h.elim h69 (fun h => h.elim h75 (fun h => h.elim h84 h96))))], by rw [if_neg (fun h => h.elim h9 h21), if_neg h39, if_pos (hu.mpr (fun h => h.elim h69 (fun h => h.elim h75 (fun h => h.elim h84 h96))))]⟩ | exact ⟨by rw [if_neg (fun h => h.elim h9 h21)]; unfold asS; rw [if_neg h39, if_neg (fun e => hu.mp e (by first | exact Or.inl h69 | exact Or.inr (Or.inl h75) | exact Or.inr (Or.inr (Or.inl h84)) | exact Or.inr (Or.inr (Or.inr h96))))], by rw [if_neg (fun h => h.elim h9 h21), if_neg h39, if_neg (fun e => hu.mp e (by first | exact Or.inl h69 | exact Or.inr (Or.inl h75) | exact Or.inr (Or.inr (Or.inl h84)) | exact Or.inr (Or.inr (Or.inr h96))))]⟩)
            · refine v_iload_n C dX5_as_87 rfl rfl ?_
              refine v_iload C dX5_as_88 rfl rfl ?_
              refine v_iS C dX5_as_90 ms_X5_above c_X5_above rfl ml_X5_293 (rk_of rfl) rfl (Nat.le_of_ble_eq_true rfl) rfl (px_k ?_)
              refine v_iS C dX5_as_93 ms_X5_above c_X5_above rfl ml_X5_293 (rk_of rfl) rfl (Nat.le_of_ble_eq_true rfl) rfl (px_k ?_)
              refine v_icmp_ne C 103 99 dX5_as_96 (by decide) rfl (fun h96 => ?_) (fun h96 => ?_)
              · refine v_aload_n C dX5_as_103 rfl rfl ?_
                refine v_iconst C dX5_as_104 ic_2 rfl ?_
                refine v_iV C dX5_as_105 mi_X5_finds (c_X5_finds hM (p := 2) (e := -1000003) (by decide) rfl (by decide)) rfl hM.1.1 hM.1.2 rfl ml_X5_108 (rk_of rfl) rfl (Nat.le_of_ble_eq_true rfl) rfl (px_k ?_)
                exact v_iret C hQ dX5_as_108 (by first | exact ⟨by rw [if_neg (fun h => h.elim h9 h21)]; unfold asS; rw [if_neg h39, if_pos (hu.mpr (fun h => h.elim h69 (fun h => h.elim h75 (fun h => h.elim h84 h96))))], by rw [if_neg (fun h => h.elim h9 h21), if_neg h39, if_pos (hu.mpr (fun h => h.elim h69 (fun h => h.elim h75 (fun h => h.elim h84 h96))))]⟩ | exact ⟨by rw [if_neg (fun h => h.elim h9 h21)]; unfold asS; rw [if_neg h39, if_neg (fun e => hu.mp e (by first | exact Or.inl h69 | exact Or.inr (Or.inl h75) | exact Or.inr (Or.inr (Or.inl h84)) | exact Or.inr (Or.inr (Or.inr h96))))], by rw [if_neg (fun h => h.elim h9 h21), if_neg h39, if_neg (fun e => hu.mp e (by first | exact Or.inl h69 | exact Or.inr (Or.inl h75) | exact Or.inr (Or.inr (Or.inl h84)) | exact Or.inr (Or.inr (Or.inr h96))))]⟩)
              · refine v_iload_n C dX5_as_99 rfl rfl ?_
                refine v_goto C 108 dX5_as_100 (by decide) ?_
                exact v_iret C hQ dX5_as_108 (by first | exact ⟨by rw [if_neg (fun h => h.elim h9 h21)]; unfold asS; rw [if_neg h39, if_pos (hu.mpr (fun h => h.elim h69 (fun h => h.elim h75 (fun h => h.elim h84 h96))))], by rw [if_neg (fun h => h.elim h9 h21), if_neg h39, if_pos (hu.mpr (fun h => h.elim h69 (fun h => h.elim h75 (fun h => h.elim h84 h96))))]⟩ | exact ⟨by rw [if_neg (fun h => h.elim h9 h21)]; unfold asS; rw [if_neg h39, if_neg (fun e => hu.mp e (by first | exact Or.inl h69 | exact Or.inr (Or.inl h75) | exact Or.inr (Or.inr (Or.inl h84)) | exact Or.inr (Or.inr (Or.inr h96))))], by rw [if_neg (fun h => h.elim h9 h21), if_neg h39, if_neg (fun e => hu.mp e (by first | exact Or.inl h69 | exact Or.inr (Or.inl h75) | exact Or.inr (Or.inr (Or.inl h84)) | exact Or.inr (Or.inr (Or.inr h96))))]⟩)
      · refine v_aload_n C dX5_as_42 rfl rfl ?_
        refine v_iconst C dX5_as_43 ic_5 rfl ?_
        refine v_iV C dX5_as_44 mi_X5_finds (c_X5_finds hM (p := 5) (e := -1000006) (by decide) rfl (by decide)) rfl hM.1.1 hM.1.2 rfl ml_X5_108 (rk_of rfl) rfl (Nat.le_of_ble_eq_true rfl) rfl (px_k ?_)
        exact v_iret C hQ dX5_as_47 ⟨by rw [if_neg (fun h => h.elim h9 h21)]; exact (if_pos h39).symm, by rw [if_neg (fun h => h.elim h9 h21), if_pos h39]⟩
    · refine v_aload_n C dX5_as_24 rfl rfl ?_
      refine v_iconst C dX5_as_25 ic_0 rfl ?_
      refine v_iV C dX5_as_26 mi_X5_finds (c_X5_finds hM (p := 0) (e := -1000001) (by decide) rfl (by decide)) rfl hM.1.1 hM.1.2 rfl ml_X5_108 (rk_of rfl) rfl (Nat.le_of_ble_eq_true rfl) rfl (px_k ?_)
      exact v_iret C hQ dX5_as_29 ⟨(if_pos (by first | exact Or.inl h9 | exact Or.inr h21)).symm, (if_pos (by first | exact Or.inl h9 | exact Or.inr h21)).symm⟩

set_option maxRecDepth 100000 in
set_option maxHeartbeats 4000000 in
theorem lp_X5_status_24 {w : WC} {x : Cy} {μ : Me} (hM : Md w) {t : Int32} (h11 : ¬ wiS t (-1) 6 = 0) (C : Cx w x cX5_status 4 RX5 (some .int) (Rm 1 25)) (hQ : y_Q x = MQ (y_b x) (QI w (Px (if wiS t (-1) 6 = 0 then -1000001 else if t < 0 then smL (fun i => μ.1 5 i) 7 else μ.1 5 (cl t)) (if wiS t (-1) 6 = 0 then fnS μ 0 else μ))) (y_a x) (y_s x) 0 0 (AA w)) : ∀ (m i : Nat) (a : Int32), 7 + 1 ≤ i + m → i ≤ 7 → (a = smL (fun i => μ.1 5 i) i) → V w x 4 μ 24 [(0, .ref (w_ad w 0)), (1, .int t), (2, .int a), (3, .int (nI i))] [] := by
  intro m
  induction m with
  | zero =>
    intro i a hm hi
    exact absurd hm (by omega)
  | succ m ih =>
    intro i a hm hi ha
    refine v_iload_n C dX5_status_24 rfl rfl ?_
    refine v_bipush C dX5_status_25 bp_7 rfl ?_
    refine v_icmp_ge C 45 30 dX5_status_27 (by decide) rfl (fun h27 => ?_) (fun h27 => ?_)
    · have g : i = 7 := by have := (le_n (a := 7) (b := i) (by omega) (by omega)).mp h27; omega
      refine v_iload_n C dX5_status_45 rfl rfl ?_
      refine v_if_ge C 53 49 dX5_status_46 (by decide) rfl (fun h46 => ?_) (fun h46 => ?_)
      · have q := wi_neg h11 (Int32.not_lt.mpr h46)
        refine v_aload_n C dX5_status_53 rfl rfl ?_
        refine g_X5_found C hM.1 dX5_status_54 fl_X5_22 rfl ?_
        refine v_iload_n C dX5_status_57 rfl rfl ?_
        refine a_I C hM.2.2.2.2.2.1 (by decide) dX5_status_58 (cl t) q.1 (by omega) rfl ?_
        exact v_iret C hQ dX5_status_59 (by first | exact ⟨by rw [if_neg h11, if_neg (Int32.not_lt.mpr h46)], by rw [if_neg h11]⟩ | exact ⟨by rw [if_neg h11, if_pos (Int32.not_le.mp h46), ha, g], by rw [if_neg h11]⟩)
      · refine v_iload_n C dX5_status_49 rfl rfl ?_
        refine v_goto C 59 dX5_status_50 (by decide) ?_
        exact v_iret C hQ dX5_status_59 (by first | exact ⟨by rw [if_neg h11, if_neg (Int32.not_lt.mpr h46)], by rw [if_neg h11]⟩ | exact ⟨by rw [if_neg h11, if_pos (Int32.not_le.mp h46), ha, g], by rw [if_neg h11]⟩)
    · have g : i < 7 := by rcases Nat.lt_or_ge i (7) with q | q; exact q; exact absurd ((le_n (a := 7) (b := i) (by omega) (by omega)).mpr q) h27
      refine v_iload_n C dX5_status_30 rfl rfl ?_
      refine v_aload_n C dX5_status_31 rfl rfl ?_
      refine g_X5_found C hM.1 dX5_status_32 fl_X5_22 rfl ?_
      refine v_iload_n C dX5_status_35 rfl rfl ?_
      refine a_I C hM.2.2.2.2.2.1 (by decide) dX5_status_36 (i) rfl (by omega) rfl ?_
      refine v_iadd C dX5_status_37 rfl ?_
      refine v_istore_n C dX5_status_38 (by decide) rfl ?_
      refine v_iincN C dX5_status_39 rfl (by decide) rfl ?_
      refine v_goto C 24 dX5_status_42 (by decide) ?_
      exact V.norm (ih (i + 1) _ (by omega) (by omega) (by rw [ha]; rfl)) rfl
set_option maxRecDepth 100000 in
set_option maxHeartbeats 4000000 in
theorem c_X5_status {l : Launch} {w : WC} {μ : Me} (hM : Md w) {t : Int32} : CtI l w yX5_status cX5_status 4 (some .int) (Rm 1 25) [.ref (w_ad w 0), .int t] μ (Px (if wiS t (-1) 6 = 0 then -1000001 else if t < 0 then smL (fun i => μ.1 5 i) 7 else μ.1 5 (cl t)) (if wiS t (-1) 6 = 0 then fnS μ 0 else μ)) := by
  refine Ct.mk (own := RX5) rfl (by decide) (Nat.le_of_ble_eq_true rfl) (fun x hxl C hQ => ?_)
  subst hxl
  refine v_iload_n C dX5_status_0 rfl rfl ?_
  refine v_i2l C dX5_status_1 rfl ?_
  refine v_ldc2 C dX5_status_2 cn_X5_130 rfl ?_
  refine v_ldc2 C dX5_status_5 cn_X5_120 rfl ?_
  refine v_iS C dX5_status_8 ms_X5_in c_X5_in rfl ml_X5_42 (rk_of rfl) rfl (Nat.le_of_ble_eq_true rfl) rfl (px_k ?_)
  refine v_eqi (in_w (a := (-1)) (b := (6)) (by decide) (by decide)) ?_
  refine v_if_ne C 20 14 dX5_status_11 (by decide) rfl (fun h11 => ?_) (fun h11 => ?_)
  · refine v_iconst C dX5_status_20 ic_0 rfl ?_
    refine v_istore_n C dX5_status_21 (by decide) rfl ?_
    refine v_iconst C dX5_status_22 ic_0 rfl ?_
    refine v_istore_n C dX5_status_23 (by decide) rfl ?_
    exact V.norm (lp_X5_status_24 hM h11 C hQ 8 0 _ (by omega) (by omega) rfl) rfl
  · refine v_aload_n C dX5_status_14 rfl rfl ?_
    refine v_iconst C dX5_status_15 ic_0 rfl ?_
    refine v_iV C dX5_status_16 mi_X5_finds (c_X5_finds hM (p := 0) (e := -1000001) (by decide) rfl (by decide)) rfl hM.1.1 hM.1.2 rfl ml_X5_108 (rk_of rfl) rfl (Nat.le_of_ble_eq_true rfl) rfl (px_k ?_)
    exact v_iret C hQ dX5_status_19 ⟨(if_pos h11).symm, (if_pos h11).symm⟩
