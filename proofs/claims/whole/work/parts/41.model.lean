set_option maxRecDepth 100000 in
set_option maxHeartbeats 4000000 in
theorem lp_X5_volunteersFor_62 {w : WC} {x : Cy} {μ : Me} (hM : Md w) (hI : IvD (μ.1 1)) {v n : Int32} {kk : Nat} (hI2 : IvD (upd (μ.1 1) 5 (nI kk))) (K : V w x 6 (ua (asM μ) 1 (suN (cl n) (upd (μ.1 1) 5 (nI kk)))) 102 [(0, .ref (w_ad w 0)), (1, .int v), (2, .int n), (3, .int (nI kk)), (4, .int (alL (fun r => (suN (cl n) (upd (μ.1 1) 5 (nI kk))) (21 + r)) v (dn (μ.1 1))))] []) (C : Cx w x cX5_volunteersFor 6 RX5 (some .int) (Rm 5 119)) (hQ : y_Q x = MQ (y_b x) (QI w (Px (if wiS v 0 99 = 0 ∨ wiS n 0 40 = 0 then -1000001 else (if fsN (fun i => alL (fun r => suN (cl n) (upd (μ.1 1) 5 (nI i)) (21 + r)) v (dn (μ.1 1))) 9 0 ≤ 8 then nI (fsN (fun i => alL (fun r => suN (cl n) (upd (μ.1 1) 5 (nI i)) (21 + r)) v (dn (μ.1 1))) 9 0) else -1000004)) (if wiS v 0 99 = 0 ∨ wiS n 0 40 = 0 then fnS μ 0 else (if fsN (fun i => alL (fun r => suN (cl n) (upd (μ.1 1) 5 (nI i)) (21 + r)) v (dn (μ.1 1))) 9 0 ≤ 8 then asM μ else fnS (asM μ) 3)))) (y_a x) (y_s x) 0 0 (AA w)) : ∀ (m i : Nat) (a : Int32), (dn (μ.1 1)) + 1 ≤ i + m → i ≤ (dn (μ.1 1)) → (a = alL (fun r => (suN (cl n) (upd (μ.1 1) 5 (nI kk))) (21 + r)) v i) → V w x 6 (ua (asM μ) 1 (suN (cl n) (upd (μ.1 1) 5 (nI kk)))) 62 [(0, .ref (w_ad w 0)), (1, .int v), (2, .int n), (3, .int (nI kk)), (4, .int a), (5, .int (nI i))] [] := by
  intro m
  induction m with
  | zero =>
    intro i a hm hi
    exact absurd hm (by omega)
  | succ m ih =>
    intro i a hm hi ha
    have hn := hI.n.1
    have hs : (ua (asM μ) 1 (suN (cl n) (upd (μ.1 1) 5 (nI kk)))).1 1 = (suN (cl n) (upd (μ.1 1) 5 (nI kk))) := ua_s _ _ _
    have hz : (ua (asM μ) 1 (suN (cl n) (upd (μ.1 1) 5 (nI kk)))).1 1 0 = nI (dn (μ.1 1)) := by rw [hs, suN_o hI2 (by decide) (Or.inl (by decide)), upd_n _ _ (by decide)]; exact hI.n.2
    refine v_iload C dX5_volunteersFor_62 rfl rfl ?_
    refine v_aload_n C dX5_volunteersFor_64 rfl rfl ?_
    refine g_X5_d C hM.1 dX5_volunteersFor_65 fl_X5_7 rfl ?_
    refine v_iconst C dX5_volunteersFor_68 ic_0 rfl ?_
    refine a_I C hM.2.1 (by decide) dX5_volunteersFor_69 (0) rfl (by decide) rfl ?_
    refine v_eqi (hz) ?_
    refine v_icmp_ge C 102 73 dX5_volunteersFor_70 (by decide) rfl (fun h70 => ?_) (fun h70 => ?_)
    · have g : i = dn (μ.1 1) := by have := (le_n (a := dn (μ.1 1)) (b := i) (by omega) (by omega)).mp h70; omega
      subst ha
      rw [g]
      exact V.norm K rfl
    · have g : i < dn (μ.1 1) := by rcases Nat.lt_or_ge i (dn (μ.1 1)) with q | q; exact q; exact absurd ((le_n (a := dn (μ.1 1)) (b := i) (by omega) (by omega)).mpr q) h70
      refine v_iload C dX5_volunteersFor_73 rfl rfl ?_
      refine v_if_eq C 93 78 dX5_volunteersFor_75 (by decide) rfl (fun h75 => ?_) (fun h75 => ?_)
      · refine v_iconst C dX5_volunteersFor_93 ic_0 rfl ?_
        refine v_istore C dX5_volunteersFor_94 (by decide) rfl ?_
        refine v_iincN C dX5_volunteersFor_96 rfl (by decide) rfl ?_
        refine v_goto C 62 dX5_volunteersFor_99 (by decide) ?_
        exact V.norm (ih (i + 1) _ (by omega) (by omega) (by rw [alL, if_pos (by rw [← ha]; exact h75)])) rfl
      · refine v_aload_n C dX5_volunteersFor_78 rfl rfl ?_
        refine v_iload C dX5_volunteersFor_79 rfl rfl ?_
        refine v_iconst C dX5_volunteersFor_81 ic_1 rfl ?_
        refine v_iV C dX5_volunteersFor_82 mi_X5_its (c_X5_its hM (i := i) (f := 1) (j := 21 + i) (by omega) (by decide) rfl rfl rfl) rfl hM.1.1 hM.1.2 rfl ml_X5_46 (rk_of rfl) rfl (Nat.le_of_ble_eq_true rfl) rfl (px_k ?_)
        rw [hs]
        refine v_iload_n C dX5_volunteersFor_85 rfl rfl ?_
        refine v_icmp_lt C 93 89 dX5_volunteersFor_86 (by decide) rfl (fun h86 => ?_) (fun h86 => ?_)
        · refine v_iconst C dX5_volunteersFor_93 ic_0 rfl ?_
          refine v_istore C dX5_volunteersFor_94 (by decide) rfl ?_
          refine v_iincN C dX5_volunteersFor_96 rfl (by decide) rfl ?_
          refine v_goto C 62 dX5_volunteersFor_99 (by decide) ?_
          exact V.norm (ih (i + 1) _ (by omega) (by omega) (by rw [alL, if_neg (by rw [← ha]; exact h75), if_neg (Int32.not_le.mpr h86)])) rfl
        · refine v_iconst C dX5_volunteersFor_89 ic_1 rfl ?_
          refine v_goto C 94 dX5_volunteersFor_90 (by decide) ?_
          refine v_istore C dX5_volunteersFor_94 (by decide) rfl ?_
          refine v_iincN C dX5_volunteersFor_96 rfl (by decide) rfl ?_
          refine v_goto C 62 dX5_volunteersFor_99 (by decide) ?_
          exact V.norm (ih (i + 1) _ (by omega) (by omega) (by rw [alL, if_neg (by rw [← ha]; exact h75), if_pos (Int32.not_lt.mp h86)])) rfl
set_option maxRecDepth 100000 in
set_option maxHeartbeats 4000000 in
theorem lp_X5_volunteersFor_38 {w : WC} {x : Cy} {μ : Me} (hM : Md w) (hI : IvD (μ.1 1)) {v n : Int32} (nc : ¬ (wiS v 0 99 = 0 ∨ wiS n 0 40 = 0)) (q : n = nI (cl n) ∧ cl n ≤ 40) (C : Cx w x cX5_volunteersFor 6 RX5 (some .int) (Rm 5 119)) (hQ : y_Q x = MQ (y_b x) (QI w (Px (if wiS v 0 99 = 0 ∨ wiS n 0 40 = 0 then -1000001 else (if fsN (fun i => alL (fun r => suN (cl n) (upd (μ.1 1) 5 (nI i)) (21 + r)) v (dn (μ.1 1))) 9 0 ≤ 8 then nI (fsN (fun i => alL (fun r => suN (cl n) (upd (μ.1 1) 5 (nI i)) (21 + r)) v (dn (μ.1 1))) 9 0) else -1000004)) (if wiS v 0 99 = 0 ∨ wiS n 0 40 = 0 then fnS μ 0 else (if fsN (fun i => alL (fun r => suN (cl n) (upd (μ.1 1) 5 (nI i)) (21 + r)) v (dn (μ.1 1))) 9 0 ≤ 8 then asM μ else fnS (asM μ) 3)))) (y_a x) (y_s x) 0 0 (AA w)) : ∀ (m i : Nat), 9 + 1 ≤ i + m → i ≤ 9 → (fsN (fun i => alL (fun r => suN (cl n) (upd (μ.1 1) 5 (nI i)) (21 + r)) v (dn (μ.1 1))) 9 0 = fsN (fun i => alL (fun r => suN (cl n) (upd (μ.1 1) 5 (nI i)) (21 + r)) v (dn (μ.1 1))) (9 - i) i) → V w x 6 (asM μ) 38 [(0, .ref (w_ad w 0)), (1, .int v), (2, .int n), (3, .int (nI i))] [] := by
  intro m
  induction m with
  | zero =>
    intro i  hm hi
    exact absurd hm (by omega)
  | succ m ih =>
    intro i  hm hi hE
    have hn := hI.n.1
    refine v_iload_n C dX5_volunteersFor_38 rfl rfl ?_
    refine v_bipush C dX5_volunteersFor_39 bp_9 rfl ?_
    refine v_icmp_ge C 126 44 dX5_volunteersFor_41 (by decide) rfl (fun h41 => ?_) (fun h41 => ?_)
    · have g : i = 9 := by have := (le_n (a := 9) (b := i) (by omega) (by omega)).mp h41; omega
      subst g
      refine v_aload_n C dX5_volunteersFor_126 rfl rfl ?_
      refine v_iconst C dX5_volunteersFor_127 ic_3 rfl ?_
      refine v_iV C dX5_volunteersFor_128 mi_X5_finds (c_X5_finds hM (p := 3) (e := -1000004) (by decide) rfl (by decide)) rfl hM.1.1 hM.1.2 rfl ml_X5_108 (rk_of rfl) rfl (Nat.le_of_ble_eq_true rfl) rfl (px_k ?_)
      exact v_iret C hQ dX5_volunteersFor_131 ⟨by rw [if_neg nc, if_neg (show ¬ fsN (fun i => alL (fun r => suN (cl n) (upd (μ.1 1) 5 (nI i)) (21 + r)) v (dn (μ.1 1))) 9 0 ≤ 8 by rw [hE]; show ¬ 9 ≤ 8; omega)], by rw [if_neg nc, if_neg (show ¬ fsN (fun i => alL (fun r => suN (cl n) (upd (μ.1 1) 5 (nI i)) (21 + r)) v (dn (μ.1 1))) 9 0 ≤ 8 by rw [hE]; show ¬ 9 ≤ 8; omega)]⟩
    · have g : i < 9 := by rcases Nat.lt_or_ge i (9) with q | q; exact q; exact absurd ((le_n (a := 9) (b := i) (by omega) (by omega)).mpr q) h41
      rw [show 9 - i = (8 - i) + 1 by omega] at hE
      have hI2 : IvD (upd (μ.1 1) 5 (nI i)) := IvD_upd hI (by omega) (by omega) (by omega) (by omega) (fun _ => ⟨i, by omega, rfl⟩) (by omega) (by omega) (by omega) (by omega) (by omega) (by omega) (by omega)
      refine v_aload_n C dX5_volunteersFor_44 rfl rfl ?_
      refine g_X5_d C hM.1 dX5_volunteersFor_45 fl_X5_7 rfl ?_
      refine v_iconst C dX5_volunteersFor_48 ic_5 rfl ?_
      refine v_iload_n C dX5_volunteersFor_49 rfl rfl ?_
      refine s_I C hM.2.1 (by decide) dX5_volunteersFor_50 (5) rfl (by decide) rfl ?_
      refine v_mem (μ' := ua (asM μ) 1 (upd (μ.1 1) 5 (nI i))) (by rw [asM_self μ, up_ua, ua_ua]) ?_
      refine v_aload_n C dX5_volunteersFor_51 rfl rfl ?_
      refine v_iload_n C dX5_volunteersFor_52 rfl rfl ?_
      refine v_vV C dX5_volunteersFor_53 mi_X5_sundaysGo (c_X5_sundaysGo hM (by rw [ua_s]; exact hI2) (t := cl n) (by omega) q.1) rfl hM.1.1 hM.1.2 rfl ml_X5_142 (rk_of rfl) rfl (Nat.le_of_ble_eq_true rfl) rfl (pv_k ?_)
      rw [ua_s, ua_ua]
      refine v_iconst C dX5_volunteersFor_56 ic_1 rfl ?_
      refine v_istore C dX5_volunteersFor_57 (by decide) rfl ?_
      refine v_iconst C dX5_volunteersFor_59 ic_0 rfl ?_
      refine v_istore C dX5_volunteersFor_60 (by decide) rfl ?_
      refine V.norm (lp_X5_volunteersFor_62 (kk := i) hM hI hI2 ?_ C hQ (dn (μ.1 1) + 1) 0 _ (by omega) (Nat.zero_le _) rfl) rfl
      refine v_aload_n C dX5_volunteersFor_102 rfl rfl ?_
      refine g_X5_aside C hM.1 dX5_volunteersFor_103 fl_X5_16 rfl ?_
      refine v_aload_n C dX5_volunteersFor_106 rfl rfl ?_
      refine g_X5_d C hM.1 dX5_volunteersFor_107 fl_X5_7 rfl ?_
      refine v_vS C dX5_volunteersFor_110 ms_X5_copies (c_X5_copies hM.2.2.2.1 hM.2.1 (by decide)) rfl ml_X5_152 (rk_of rfl) rfl (Nat.le_of_ble_eq_true rfl) rfl (pv_k ?_)
      rw [rst (fun j hj => (suN_63 hI2 (cl n) hj).trans (upd_63 (by omega) j hj))]
      refine v_iload C dX5_volunteersFor_113 rfl rfl ?_
      refine v_if_eq C 120 118 dX5_volunteersFor_115 (by decide) rfl (fun h115 => ?_) (fun h115 => ?_)
      · refine v_iincN C dX5_volunteersFor_120 rfl (by decide) rfl ?_
        refine v_goto C 38 dX5_volunteersFor_123 (by decide) ?_
        exact V.norm (ih (i + 1) (by omega) (by omega) (by rw [hE, fsN_n (p := (fun i => alL (fun r => suN (cl n) (upd (μ.1 1) 5 (nI i)) (21 + r)) v (dn (μ.1 1)))) (i := i) h115, show 9 - (i + 1) = 8 - i by omega])) rfl
      · refine v_iload_n C dX5_volunteersFor_118 rfl rfl ?_
        exact v_iret C hQ dX5_volunteersFor_119 ⟨by rw [if_neg nc, hE, fsN_y (p := (fun i => alL (fun r => suN (cl n) (upd (μ.1 1) 5 (nI i)) (21 + r)) v (dn (μ.1 1)))) (i := i) h115, if_pos (by omega)], by rw [if_neg nc, hE, fsN_y (p := (fun i => alL (fun r => suN (cl n) (upd (μ.1 1) 5 (nI i)) (21 + r)) v (dn (μ.1 1)))) (i := i) h115, if_pos (by omega)]⟩
set_option maxRecDepth 100000 in
set_option maxHeartbeats 4000000 in
theorem c_X5_volunteersFor {l : Launch} {w : WC} {μ : Me} (hM : Md w) (hI : IvD (μ.1 1)) {v n : Int32} : CtI l w yX5_volunteersFor cX5_volunteersFor 6 (some .int) (Rm 5 119) [.ref (w_ad w 0), .int v, .int n] μ (Px (if wiS v 0 99 = 0 ∨ wiS n 0 40 = 0 then -1000001 else (if fsN (fun i => alL (fun r => suN (cl n) (upd (μ.1 1) 5 (nI i)) (21 + r)) v (dn (μ.1 1))) 9 0 ≤ 8 then nI (fsN (fun i => alL (fun r => suN (cl n) (upd (μ.1 1) 5 (nI i)) (21 + r)) v (dn (μ.1 1))) 9 0) else -1000004)) (if wiS v 0 99 = 0 ∨ wiS n 0 40 = 0 then fnS μ 0 else (if fsN (fun i => alL (fun r => suN (cl n) (upd (μ.1 1) 5 (nI i)) (21 + r)) v (dn (μ.1 1))) 9 0 ≤ 8 then asM μ else fnS (asM μ) 3))) := by
  refine Ct.mk (own := RX5) rfl (by decide) (Nat.le_of_ble_eq_true rfl) (fun x hxl C hQ => ?_)
  subst hxl
  refine v_iload_n C dX5_volunteersFor_0 rfl rfl ?_
  refine v_i2l C dX5_volunteersFor_1 rfl ?_
  refine v_lconst (v := 0) C dX5_volunteersFor_2 rfl rfl ?_
  refine v_ldc2 C dX5_volunteersFor_3 cn_X5_128 rfl ?_
  refine v_iS C dX5_volunteersFor_6 ms_X5_in c_X5_in rfl ml_X5_42 (rk_of rfl) rfl (Nat.le_of_ble_eq_true rfl) rfl (px_k ?_)
  refine v_eqi (in_w (a := (0)) (b := (99)) (by decide) (by decide)) ?_
  refine v_if_eq C 19 12 dX5_volunteersFor_9 (by decide) rfl (fun h9 => ?_) (fun h9 => ?_)
  · refine v_aload_n C dX5_volunteersFor_19 rfl rfl ?_
    refine v_iconst C dX5_volunteersFor_20 ic_0 rfl ?_
    refine v_iV C dX5_volunteersFor_21 mi_X5_finds (c_X5_finds hM (p := 0) (e := -1000001) (by decide) rfl (by decide)) rfl hM.1.1 hM.1.2 rfl ml_X5_108 (rk_of rfl) rfl (Nat.le_of_ble_eq_true rfl) rfl (px_k ?_)
    exact v_iret C hQ dX5_volunteersFor_24 ⟨(if_pos (by first | exact Or.inl h9 | exact Or.inr h16)).symm, (if_pos (by first | exact Or.inl h9 | exact Or.inr h16)).symm⟩
  · refine v_iload_n C dX5_volunteersFor_12 rfl rfl ?_
    refine v_iS C dX5_volunteersFor_13 ms_X5_isShort c_X5_isShort rfl ml_X5_170 (rk_of rfl) rfl (Nat.le_of_ble_eq_true rfl) rfl (px_k ?_)
    refine v_if_ne C 25 19 dX5_volunteersFor_16 (by decide) rfl (fun h16 => ?_) (fun h16 => ?_)
    · refine v_aload_n C dX5_volunteersFor_25 rfl rfl ?_
      refine g_X5_d C hM.1 dX5_volunteersFor_26 fl_X5_7 rfl ?_
      refine v_aload_n C dX5_volunteersFor_29 rfl rfl ?_
      refine g_X5_aside C hM.1 dX5_volunteersFor_30 fl_X5_16 rfl ?_
      refine v_vS C dX5_volunteersFor_33 ms_X5_copies (c_X5_copies hM.2.1 hM.2.2.2.1 (by decide)) rfl ml_X5_152 (rk_of rfl) rfl (Nat.le_of_ble_eq_true rfl) rfl (pv_k ?_)
      refine v_iconst C dX5_volunteersFor_36 ic_0 rfl ?_
      refine v_istore_n C dX5_volunteersFor_37 (by decide) rfl ?_
      exact V.norm (lp_X5_volunteersFor_38 hM hI (fun h => h.elim h9 h16) (wi_i (m := 40) (by omega) h16) C hQ 10 0 (by omega) (by omega) rfl) rfl
    · refine v_aload_n C dX5_volunteersFor_19 rfl rfl ?_
      refine v_iconst C dX5_volunteersFor_20 ic_0 rfl ?_
      refine v_iV C dX5_volunteersFor_21 mi_X5_finds (c_X5_finds hM (p := 0) (e := -1000001) (by decide) rfl (by decide)) rfl hM.1.1 hM.1.2 rfl ml_X5_108 (rk_of rfl) rfl (Nat.le_of_ble_eq_true rfl) rfl (px_k ?_)
      exact v_iret C hQ dX5_volunteersFor_24 ⟨(if_pos (by first | exact Or.inl h9 | exact Or.inr h16)).symm, (if_pos (by first | exact Or.inl h9 | exact Or.inr h16)).symm⟩

set_option maxRecDepth 100000 in
set_option maxHeartbeats 4000000 in
theorem lp_X5_comeOn_40 {w : WC} {x : Cy} {μ : Me} (hM : Md w) (hI : IvD (μ.1 1)) {r n : Int32} (nc : ¬ (wiS r 0 ((μ.1 1) 0 - 1) = 0 ∨ wiS n 0 40 = 0)) (q1 : r = nI (cl r) ∧ cl r < dn (μ.1 1)) (q2 : n = nI (cl n) ∧ cl n ≤ 40) (C : Cx w x cX5_comeOn 7 RX5 (some .int) (Rm 6 142)) (hQ : y_Q x = MQ (y_b x) (QI w (Px (if wiS r 0 ((μ.1 1) 0 - 1) = 0 ∨ wiS n 0 40 = 0 then -1000001 else (bsL (fun i => suN (cl n) (spD (μ.1 1) 0 i (cl r)) (21 + cl r)) nI 0 6).1) (if wiS r 0 ((μ.1 1) 0 - 1) = 0 ∨ wiS n 0 40 = 0 then fnS μ 0 else asM μ))) (y_a x) (y_s x) 0 0 (AA w)) : ∀ (m i : Nat) (a : Int32) (b : Int32), 6 + 1 ≤ i + m → i ≤ 6 → (a = (bsL (fun i => suN (cl n) (spD (μ.1 1) 0 i (cl r)) (21 + cl r)) nI 0 i).1) → (b = (bsL (fun i => suN (cl n) (spD (μ.1 1) 0 i (cl r)) (21 + cl r)) nI 0 i).2) → V w x 7 (asM μ) 40 [(0, .ref (w_ad w 0)), (1, .int r), (2, .int n), (3, .int a), (4, .int b), (5, .int (nI i))] [] := by
  intro m
  induction m with
  | zero =>
    intro i a b hm hi
    exact absurd hm (by omega)
  | succ m ih =>
    intro i a b hm hi ha hb
    have hn := hI.n.1
    refine v_iload C dX5_comeOn_40 rfl rfl ?_
    refine v_bipush C dX5_comeOn_42 bp_6 rfl ?_
    refine v_icmp_ge C 94 47 dX5_comeOn_44 (by decide) rfl (fun h44 => ?_) (fun h44 => ?_)
    · have g : i = 6 := by have := (le_n (a := 6) (b := i) (by omega) (by omega)).mp h44; omega
      refine v_iload_n C dX5_comeOn_94 rfl rfl ?_
      exact v_iret C hQ dX5_comeOn_95 ⟨by rw [if_neg nc, ha, g], by rw [if_neg nc]⟩
    · have g : i < 6 := by rcases Nat.lt_or_ge i (6) with q | q; exact q; exact absurd ((le_n (a := 6) (b := i) (by omega) (by omega)).mpr q) h44
      have hI2 := IvD_sp hI (q := 0) (n := 6) (i := i) (r := cl r) (by unfold okQ; omega) g (by omega)
      refine v_aload_n C dX5_comeOn_47 rfl rfl ?_
      refine g_X5_d C hM.1 dX5_comeOn_48 fl_X5_7 rfl ?_
      refine v_bipush C dX5_comeOn_51 bp_7 rfl ?_
      refine v_iload C dX5_comeOn_53 rfl rfl ?_
      refine v_iadd C dX5_comeOn_55 rfl ?_
      refine v_dup2 C dX5_comeOn_56 rfl rfl rfl ?_
      refine a_I C hM.2.1 (by decide) dX5_comeOn_57 (7 + i) (nI_add 7 i) (by omega) rfl ?_
      refine v_iconst C dX5_comeOn_58 ic_1 rfl ?_
      refine v_iload_n C dX5_comeOn_59 rfl rfl ?_
      refine v_ishl C dX5_comeOn_60 rfl ?_
      refine v_ior C dX5_comeOn_61 rfl ?_
      refine s_I C hM.2.1 (by decide) dX5_comeOn_62 (7 + i) (nI_add 7 i) (by omega) rfl ?_
      refine v_mem (μ' := ua (asM μ) 1 (spD (μ.1 1) 0 i (cl r))) (by rw [asM_1]; unfold spD; rw [if_pos rfl, ← q1.1]; exact (asM_upd μ _ _)) ?_
      refine v_aload_n C dX5_comeOn_63 rfl rfl ?_
      refine v_iload_n C dX5_comeOn_64 rfl rfl ?_
      refine v_bipush C dX5_comeOn_65 bp_21 rfl ?_
      refine v_iload_n C dX5_comeOn_67 rfl rfl ?_
      refine v_iadd C dX5_comeOn_68 rfl ?_
      refine v_iV C dX5_comeOn_69 mi_X5_behind (c_X5_behind hM rfl hI2 (sp_63 (by omega) (by omega)) (t := cl n) (by omega) q2.1 (j := 21 + cl r) (by omega) (by rw [q1.1, cl_n (by omega)]; exact nI_add 21 (cl r))) rfl hM.1.1 hM.1.2 rfl ml_X5_158 (rk_of rfl) rfl (Nat.le_of_ble_eq_true rfl) rfl (px_k ?_)
      refine v_istore C dX5_comeOn_72 (by decide) rfl ?_
      refine v_iload C dX5_comeOn_74 rfl rfl ?_
      refine v_iload C dX5_comeOn_76 rfl rfl ?_
      refine v_icmp_le C 88 81 dX5_comeOn_78 (by decide) rfl (fun h78 => ?_) (fun h78 => ?_)
      · refine v_iincN C dX5_comeOn_88 rfl (by decide) rfl ?_
        refine v_goto C 40 dX5_comeOn_91 (by decide) ?_
        exact V.norm (ih (i + 1) _ _ (by omega) (by omega) (by rw [bsL_n (f := (fun i => suN (cl n) (spD (μ.1 1) 0 i (cl r)) (21 + cl r))) (nm := nI) (i := i) (by rw [← hb]; exact Int32.not_lt.mpr h78)]; assumption) (by rw [bsL_n (f := (fun i => suN (cl n) (spD (μ.1 1) 0 i (cl r)) (21 + cl r))) (nm := nI) (i := i) (by rw [← hb]; exact Int32.not_lt.mpr h78)]; assumption)) rfl
      · refine v_iload C dX5_comeOn_81 rfl rfl ?_
        refine v_istore_n C dX5_comeOn_83 (by decide) rfl ?_
        refine v_iload C dX5_comeOn_84 rfl rfl ?_
        refine v_istore C dX5_comeOn_86 (by decide) rfl ?_
        refine v_iincN C dX5_comeOn_88 rfl (by decide) rfl ?_
        refine v_goto C 40 dX5_comeOn_91 (by decide) ?_
        exact V.norm (ih (i + 1) _ _ (by omega) (by omega) (by rw [bsL_y (f := (fun i => suN (cl n) (spD (μ.1 1) 0 i (cl r)) (21 + cl r))) (nm := nI) (i := i) (by rw [← hb]; exact Int32.not_le.mp h78)]) (by rw [bsL_y (f := (fun i => suN (cl n) (spD (μ.1 1) 0 i (cl r)) (21 + cl r))) (nm := nI) (i := i) (by rw [← hb]; exact Int32.not_le.mp h78)])) rfl
set_option maxRecDepth 100000 in
set_option maxHeartbeats 4000000 in
theorem c_X5_comeOn {l : Launch} {w : WC} {μ : Me} (hM : Md w) (hI : IvD (μ.1 1)) {r n : Int32} : CtI l w yX5_comeOn cX5_comeOn 7 (some .int) (Rm 6 142) [.ref (w_ad w 0), .int r, .int n] μ (Px (if wiS r 0 ((μ.1 1) 0 - 1) = 0 ∨ wiS n 0 40 = 0 then -1000001 else (bsL (fun i => suN (cl n) (spD (μ.1 1) 0 i (cl r)) (21 + cl r)) nI 0 6).1) (if wiS r 0 ((μ.1 1) 0 - 1) = 0 ∨ wiS n 0 40 = 0 then fnS μ 0 else asM μ)) := by
  refine Ct.mk (own := RX5) rfl (by decide) (Nat.le_of_ble_eq_true rfl) (fun x hxl C hQ => ?_)
  subst hxl
  have hn := hI.n.1
  have h0 := hI.n.2
  refine v_aload_n C dX5_comeOn_0 rfl rfl ?_
  refine v_iload_n C dX5_comeOn_1 rfl rfl ?_
  refine v_iV C dX5_comeOn_2 mi_X5_isResident (c_X5_isResident hM) rfl hM.1.1 hM.1.2 rfl ml_X5_125 (rk_of rfl) rfl (Nat.le_of_ble_eq_true rfl) rfl (px_k ?_)
  refine v_if_eq C 15 8 dX5_comeOn_5 (by decide) rfl (fun h5 => ?_) (fun h5 => ?_)
  · refine v_aload_n C dX5_comeOn_15 rfl rfl ?_
    refine v_iconst C dX5_comeOn_16 ic_0 rfl ?_
    refine v_iV C dX5_comeOn_17 mi_X5_finds (c_X5_finds hM (p := 0) (e := -1000001) (by decide) rfl (by decide)) rfl hM.1.1 hM.1.2 rfl ml_X5_108 (rk_of rfl) rfl (Nat.le_of_ble_eq_true rfl) rfl (px_k ?_)
    exact v_iret C hQ dX5_comeOn_20 ⟨(if_pos (by first | exact Or.inl h5 | exact Or.inr h12)).symm, (if_pos (by first | exact Or.inl h5 | exact Or.inr h12)).symm⟩
  · refine v_iload_n C dX5_comeOn_8 rfl rfl ?_
    refine v_iS C dX5_comeOn_9 ms_X5_isShort c_X5_isShort rfl ml_X5_170 (rk_of rfl) rfl (Nat.le_of_ble_eq_true rfl) rfl (px_k ?_)
    refine v_if_ne C 21 15 dX5_comeOn_12 (by decide) rfl (fun h12 => ?_) (fun h12 => ?_)
    · refine v_aload_n C dX5_comeOn_21 rfl rfl ?_
      refine g_X5_d C hM.1 dX5_comeOn_22 fl_X5_7 rfl ?_
      refine v_aload_n C dX5_comeOn_25 rfl rfl ?_
      refine g_X5_aside C hM.1 dX5_comeOn_26 fl_X5_16 rfl ?_
      refine v_vS C dX5_comeOn_29 ms_X5_copies (c_X5_copies hM.2.1 hM.2.2.2.1 (by decide)) rfl ml_X5_152 (rk_of rfl) rfl (Nat.le_of_ble_eq_true rfl) rfl (pv_k ?_)
      refine v_iconst C dX5_comeOn_32 ic_0 rfl ?_
      refine v_istore_n C dX5_comeOn_33 (by decide) rfl ?_
      refine v_iconst C dX5_comeOn_34 ic_m1 rfl ?_
      refine v_istore C dX5_comeOn_35 (by decide) rfl ?_
      refine v_iconst C dX5_comeOn_37 ic_0 rfl ?_
      refine v_istore C dX5_comeOn_38 (by decide) rfl ?_
      exact V.norm (lp_X5_comeOn_40 hM hI (fun h => h.elim h5 h12) (has_i hn h0 h5) (wi_i (m := 40) (by omega) h12) C hQ 7 0 _ _ (by omega) (by omega) rfl rfl) rfl
    · refine v_aload_n C dX5_comeOn_15 rfl rfl ?_
      refine v_iconst C dX5_comeOn_16 ic_0 rfl ?_
      refine v_iV C dX5_comeOn_17 mi_X5_finds (c_X5_finds hM (p := 0) (e := -1000001) (by decide) rfl (by decide)) rfl hM.1.1 hM.1.2 rfl ml_X5_108 (rk_of rfl) rfl (Nat.le_of_ble_eq_true rfl) rfl (px_k ?_)
      exact v_iret C hQ dX5_comeOn_20 ⟨(if_pos (by first | exact Or.inl h5 | exact Or.inr h12)).symm, (if_pos (by first | exact Or.inl h5 | exact Or.inr h12)).symm⟩

set_option maxRecDepth 100000 in
set_option maxHeartbeats 4000000 in
theorem lp_X5_kindFor_40 {w : WC} {x : Cy} {μ : Me} (hM : Md w) (hI : IvD (μ.1 1)) {r n : Int32} (nc : ¬ (wiS r 0 ((μ.1 1) 0 - 1) = 0 ∨ wiS n 0 40 = 0)) (q1 : r = nI (cl r) ∧ cl r < dn (μ.1 1)) (q2 : n = nI (cl n) ∧ cl n ≤ 40) (C : Cx w x cX5_kindFor 7 RX5 (some .int) (Rm 6 142)) (hQ : y_Q x = MQ (y_b x) (QI w (Px (if wiS r 0 ((μ.1 1) 0 - 1) = 0 ∨ wiS n 0 40 = 0 then -1000001 else (bsL (fun i => suN (cl n) (spD (μ.1 1) 1 i (cl r)) (21 + cl r)) nI 0 7).1) (if wiS r 0 ((μ.1 1) 0 - 1) = 0 ∨ wiS n 0 40 = 0 then fnS μ 0 else asM μ))) (y_a x) (y_s x) 0 0 (AA w)) : ∀ (m i : Nat) (a : Int32) (b : Int32), 7 + 1 ≤ i + m → i ≤ 7 → (a = (bsL (fun i => suN (cl n) (spD (μ.1 1) 1 i (cl r)) (21 + cl r)) nI 0 i).1) → (b = (bsL (fun i => suN (cl n) (spD (μ.1 1) 1 i (cl r)) (21 + cl r)) nI 0 i).2) → V w x 7 (asM μ) 40 [(0, .ref (w_ad w 0)), (1, .int r), (2, .int n), (3, .int a), (4, .int b), (5, .int (nI i))] [] := by
  intro m
  induction m with
  | zero =>
    intro i a b hm hi
    exact absurd hm (by omega)
  | succ m ih =>
    intro i a b hm hi ha hb
    have hn := hI.n.1
    refine v_iload C dX5_kindFor_40 rfl rfl ?_
    refine v_bipush C dX5_kindFor_42 bp_7 rfl ?_
    refine v_icmp_ge C 86 47 dX5_kindFor_44 (by decide) rfl (fun h44 => ?_) (fun h44 => ?_)
    · have g : i = 7 := by have := (le_n (a := 7) (b := i) (by omega) (by omega)).mp h44; omega
      refine v_iload_n C dX5_kindFor_86 rfl rfl ?_
      exact v_iret C hQ dX5_kindFor_87 ⟨by rw [if_neg nc, ha, g], by rw [if_neg nc]⟩
    · have g : i < 7 := by rcases Nat.lt_or_ge i (7) with q | q; exact q; exact absurd ((le_n (a := 7) (b := i) (by omega) (by omega)).mpr q) h44
      have hI2 := IvD_sp hI (q := 1) (n := 7) (i := i) (r := cl r) (by unfold okQ; omega) g (by omega)
      refine v_aload_n C dX5_kindFor_47 rfl rfl ?_
      refine v_iload_n C dX5_kindFor_48 rfl rfl ?_
      refine v_iconst C dX5_kindFor_49 ic_0 rfl ?_
      refine v_iload C dX5_kindFor_50 rfl rfl ?_
      refine v_vV C dX5_kindFor_52 mi_X5_sets (c_X5_sets hM (i := cl r) (f := 0) (j := 13 + cl r) (by omega) (by decide) q1.1 rfl rfl) rfl hM.1.1 hM.1.2 rfl ml_X5_87 (rk_of rfl) rfl (Nat.le_of_ble_eq_true rfl) rfl (pv_k ?_)
      refine v_mem (μ' := ua (asM μ) 1 (spD (μ.1 1) 1 i (cl r))) (by unfold spD; rw [if_neg (by decide), if_pos rfl]; exact (asM_upd μ _ _)) ?_
      refine v_aload_n C dX5_kindFor_55 rfl rfl ?_
      refine v_iload_n C dX5_kindFor_56 rfl rfl ?_
      refine v_bipush C dX5_kindFor_57 bp_21 rfl ?_
      refine v_iload_n C dX5_kindFor_59 rfl rfl ?_
      refine v_iadd C dX5_kindFor_60 rfl ?_
      refine v_iV C dX5_kindFor_61 mi_X5_behind (c_X5_behind hM rfl hI2 (sp_63 (by omega) (by omega)) (t := cl n) (by omega) q2.1 (j := 21 + cl r) (by omega) (by rw [q1.1, cl_n (by omega)]; exact nI_add 21 (cl r))) rfl hM.1.1 hM.1.2 rfl ml_X5_158 (rk_of rfl) rfl (Nat.le_of_ble_eq_true rfl) rfl (px_k ?_)
      refine v_istore C dX5_kindFor_64 (by decide) rfl ?_
      refine v_iload C dX5_kindFor_66 rfl rfl ?_
      refine v_iload C dX5_kindFor_68 rfl rfl ?_
      refine v_icmp_le C 80 73 dX5_kindFor_70 (by decide) rfl (fun h70 => ?_) (fun h70 => ?_)
      · refine v_iincN C dX5_kindFor_80 rfl (by decide) rfl ?_
        refine v_goto C 40 dX5_kindFor_83 (by decide) ?_
        exact V.norm (ih (i + 1) _ _ (by omega) (by omega) (by rw [bsL_n (f := (fun i => suN (cl n) (spD (μ.1 1) 1 i (cl r)) (21 + cl r))) (nm := nI) (i := i) (by rw [← hb]; exact Int32.not_lt.mpr h70)]; assumption) (by rw [bsL_n (f := (fun i => suN (cl n) (spD (μ.1 1) 1 i (cl r)) (21 + cl r))) (nm := nI) (i := i) (by rw [← hb]; exact Int32.not_lt.mpr h70)]; assumption)) rfl
      · refine v_iload C dX5_kindFor_73 rfl rfl ?_
        refine v_istore_n C dX5_kindFor_75 (by decide) rfl ?_
        refine v_iload C dX5_kindFor_76 rfl rfl ?_
        refine v_istore C dX5_kindFor_78 (by decide) rfl ?_
        refine v_iincN C dX5_kindFor_80 rfl (by decide) rfl ?_
        refine v_goto C 40 dX5_kindFor_83 (by decide) ?_
        exact V.norm (ih (i + 1) _ _ (by omega) (by omega) (by rw [bsL_y (f := (fun i => suN (cl n) (spD (μ.1 1) 1 i (cl r)) (21 + cl r))) (nm := nI) (i := i) (by rw [← hb]; exact Int32.not_le.mp h70)]) (by rw [bsL_y (f := (fun i => suN (cl n) (spD (μ.1 1) 1 i (cl r)) (21 + cl r))) (nm := nI) (i := i) (by rw [← hb]; exact Int32.not_le.mp h70)])) rfl
set_option maxRecDepth 100000 in
set_option maxHeartbeats 4000000 in
theorem c_X5_kindFor {l : Launch} {w : WC} {μ : Me} (hM : Md w) (hI : IvD (μ.1 1)) {r n : Int32} : CtI l w yX5_kindFor cX5_kindFor 7 (some .int) (Rm 6 142) [.ref (w_ad w 0), .int r, .int n] μ (Px (if wiS r 0 ((μ.1 1) 0 - 1) = 0 ∨ wiS n 0 40 = 0 then -1000001 else (bsL (fun i => suN (cl n) (spD (μ.1 1) 1 i (cl r)) (21 + cl r)) nI 0 7).1) (if wiS r 0 ((μ.1 1) 0 - 1) = 0 ∨ wiS n 0 40 = 0 then fnS μ 0 else asM μ)) := by
  refine Ct.mk (own := RX5) rfl (by decide) (Nat.le_of_ble_eq_true rfl) (fun x hxl C hQ => ?_)
  subst hxl
  have hn := hI.n.1
  have h0 := hI.n.2
  refine v_aload_n C dX5_kindFor_0 rfl rfl ?_
  refine v_iload_n C dX5_kindFor_1 rfl rfl ?_
  refine v_iV C dX5_kindFor_2 mi_X5_isResident (c_X5_isResident hM) rfl hM.1.1 hM.1.2 rfl ml_X5_125 (rk_of rfl) rfl (Nat.le_of_ble_eq_true rfl) rfl (px_k ?_)
  refine v_if_eq C 15 8 dX5_kindFor_5 (by decide) rfl (fun h5 => ?_) (fun h5 => ?_)
  · refine v_aload_n C dX5_kindFor_15 rfl rfl ?_
    refine v_iconst C dX5_kindFor_16 ic_0 rfl ?_
    refine v_iV C dX5_kindFor_17 mi_X5_finds (c_X5_finds hM (p := 0) (e := -1000001) (by decide) rfl (by decide)) rfl hM.1.1 hM.1.2 rfl ml_X5_108 (rk_of rfl) rfl (Nat.le_of_ble_eq_true rfl) rfl (px_k ?_)
    exact v_iret C hQ dX5_kindFor_20 ⟨(if_pos (by first | exact Or.inl h5 | exact Or.inr h12)).symm, (if_pos (by first | exact Or.inl h5 | exact Or.inr h12)).symm⟩
  · refine v_iload_n C dX5_kindFor_8 rfl rfl ?_
    refine v_iS C dX5_kindFor_9 ms_X5_isShort c_X5_isShort rfl ml_X5_170 (rk_of rfl) rfl (Nat.le_of_ble_eq_true rfl) rfl (px_k ?_)
    refine v_if_ne C 21 15 dX5_kindFor_12 (by decide) rfl (fun h12 => ?_) (fun h12 => ?_)
    · refine v_aload_n C dX5_kindFor_21 rfl rfl ?_
      refine g_X5_d C hM.1 dX5_kindFor_22 fl_X5_7 rfl ?_
      refine v_aload_n C dX5_kindFor_25 rfl rfl ?_
      refine g_X5_aside C hM.1 dX5_kindFor_26 fl_X5_16 rfl ?_
      refine v_vS C dX5_kindFor_29 ms_X5_copies (c_X5_copies hM.2.1 hM.2.2.2.1 (by decide)) rfl ml_X5_152 (rk_of rfl) rfl (Nat.le_of_ble_eq_true rfl) rfl (pv_k ?_)
      refine v_iconst C dX5_kindFor_32 ic_0 rfl ?_
      refine v_istore_n C dX5_kindFor_33 (by decide) rfl ?_
      refine v_iconst C dX5_kindFor_34 ic_m1 rfl ?_
      refine v_istore C dX5_kindFor_35 (by decide) rfl ?_
      refine v_iconst C dX5_kindFor_37 ic_0 rfl ?_
      refine v_istore C dX5_kindFor_38 (by decide) rfl ?_
      exact V.norm (lp_X5_kindFor_40 hM hI (fun h => h.elim h5 h12) (has_i hn h0 h5) (wi_i (m := 40) (by omega) h12) C hQ 8 0 _ _ (by omega) (by omega) rfl rfl) rfl
    · refine v_aload_n C dX5_kindFor_15 rfl rfl ?_
      refine v_iconst C dX5_kindFor_16 ic_0 rfl ?_
      refine v_iV C dX5_kindFor_17 mi_X5_finds (c_X5_finds hM (p := 0) (e := -1000001) (by decide) rfl (by decide)) rfl hM.1.1 hM.1.2 rfl ml_X5_108 (rk_of rfl) rfl (Nat.le_of_ble_eq_true rfl) rfl (px_k ?_)
      exact v_iret C hQ dX5_kindFor_20 ⟨(if_pos (by first | exact Or.inl h5 | exact Or.inr h12)).symm, (if_pos (by first | exact Or.inl h5 | exact Or.inr h12)).symm⟩

set_option maxRecDepth 100000 in
set_option maxHeartbeats 4000000 in
theorem lp_X5_friendFor_40 {w : WC} {x : Cy} {μ : Me} (hM : Md w) (hI : IvD (μ.1 1)) {r n : Int32} (nc : ¬ (wiS r 0 ((μ.1 1) 0 - 1) = 0 ∨ wiS n 0 40 = 0)) (q1 : r = nI (cl r) ∧ cl r < dn (μ.1 1)) (q2 : n = nI (cl n) ∧ cl n ≤ 40) (C : Cx w x cX5_friendFor 8 RX5 (some .int) (Rm 6 142)) (hQ : y_Q x = MQ (y_b x) (QI w (Px (if wiS r 0 ((μ.1 1) 0 - 1) = 0 ∨ wiS n 0 40 = 0 then -1000001 else (frL (fun k => suN (cl n) (upd (μ.1 1) (29 + cl r) (frF (dn (μ.1 1)) k)) (21 + cl r)) (dn (μ.1 1)) (cl r) (dn (μ.1 1) + 1)).1) (if wiS r 0 ((μ.1 1) 0 - 1) = 0 ∨ wiS n 0 40 = 0 then fnS μ 0 else asM μ))) (y_a x) (y_s x) 0 0 (AA w)) : ∀ (m i : Nat) (a : Int32) (b : Int32), (dn (μ.1 1) + 1) + 1 ≤ i + m → i ≤ (dn (μ.1 1) + 1) → (a = (frL (fun k => suN (cl n) (upd (μ.1 1) (29 + cl r) (frF (dn (μ.1 1)) k)) (21 + cl r)) (dn (μ.1 1)) (cl r) i).1) → (b = (frL (fun k => suN (cl n) (upd (μ.1 1) (29 + cl r) (frF (dn (μ.1 1)) k)) (21 + cl r)) (dn (μ.1 1)) (cl r) i).2) → V w x 8 (asM μ) 40 [(0, .ref (w_ad w 0)), (1, .int r), (2, .int n), (3, .int a), (4, .int b), (5, .int (nI i))] [] := by
  intro m
  induction m with
  | zero =>
    intro i a b hm hi
    exact absurd hm (by omega)
  | succ m ih =>
    intro i a b hm hi ha hb
    have hn := hI.n.1
    have hz : (asM μ).1 1 0 = nI (dn (μ.1 1)) := by rw [asM_1]; exact hI.n.2
    refine v_iload C dX5_friendFor_40 rfl rfl ?_
    refine v_aload_n C dX5_friendFor_42 rfl rfl ?_
    refine g_X5_d C hM.1 dX5_friendFor_43 fl_X5_7 rfl ?_
    refine v_iconst C dX5_friendFor_46 ic_0 rfl ?_
    refine a_I C hM.2.1 (by decide) dX5_friendFor_47 (0) rfl (by decide) rfl ?_
    refine v_eqi (hz) ?_
    refine v_icmp_gt C 115 51 dX5_friendFor_48 (by decide) rfl (fun h48 => ?_) (fun h48 => ?_)
    · have g : i = dn (μ.1 1) + 1 := by have := (lt_n (a := dn (μ.1 1)) (b := i) (by omega) (by omega)).mp h48; omega
      refine v_iload_n C dX5_friendFor_115 rfl rfl ?_
      exact v_iret C hQ dX5_friendFor_116 ⟨by rw [if_neg nc, ha, g], by rw [if_neg nc]⟩
    · have g : i ≤ dn (μ.1 1) := by rcases Nat.lt_or_ge (dn (μ.1 1)) i with y | y; exact absurd ((lt_n (a := dn (μ.1 1)) (b := i) (by omega) (by omega)).mpr y) h48; exact y
      refine v_iload C dX5_friendFor_51 rfl rfl ?_
      refine v_iload_n C dX5_friendFor_53 rfl rfl ?_
      refine v_icmp_eq C 109 57 dX5_friendFor_54 (by decide) rfl (fun h54 => ?_) (fun h54 => ?_)
      · have e54 : i = cl r := (nI_eq (a := i) (b := cl r) (by omega) (by omega)).mp (h54.trans q1.1)
        refine v_iincN C dX5_friendFor_109 rfl (by decide) rfl ?_
        refine v_goto C 40 dX5_friendFor_112 (by decide) ?_
        have hw := frL_r (g := (fun k => suN (cl n) (upd (μ.1 1) (29 + cl r) (frF (dn (μ.1 1)) k)) (21 + cl r))) (n := dn (μ.1 1)) (r := cl r) (k := i) e54
        exact V.norm (ih (i + 1) _ _ (by omega) (by omega) (by rw [hw]; assumption) (by rw [hw]; assumption)) rfl
      · have e54 : ¬ i = cl r := fun e => h54 (by rw [e]; exact q1.1.symm)
        refine v_iload C dX5_friendFor_57 rfl rfl ?_
        refine v_aload_n C dX5_friendFor_59 rfl rfl ?_
        refine g_X5_d C hM.1 dX5_friendFor_60 fl_X5_7 rfl ?_
        refine v_iconst C dX5_friendFor_63 ic_0 rfl ?_
        refine a_I C hM.2.1 (by decide) dX5_friendFor_64 (0) rfl (by decide) rfl ?_
        refine v_eqi (hz) ?_
        refine v_icmp_ne C 72 68 dX5_friendFor_65 (by decide) rfl (fun h65 => ?_) (fun h65 => ?_)
        · have e65 : ¬ i = dn (μ.1 1) := fun e => h65 (by rw [e])
          refine v_iload C dX5_friendFor_72 rfl rfl ?_
          refine v_eqi (b := frF (dn (μ.1 1)) i) (by unfold frF; first | (rw [if_pos e65]; done) | (rw [if_neg e65]; done)) ?_
          refine v_istore C dX5_friendFor_74 (by decide) rfl ?_
          refine v_aload_n C dX5_friendFor_76 rfl rfl ?_
          refine v_iload_n C dX5_friendFor_77 rfl rfl ?_
          refine v_iconst C dX5_friendFor_78 ic_2 rfl ?_
          refine v_iload C dX5_friendFor_79 rfl rfl ?_
          refine v_vV C dX5_friendFor_81 mi_X5_sets (c_X5_sets hM (i := cl r) (f := 2) (j := 29 + cl r) (by omega) (by decide) q1.1 rfl rfl) rfl hM.1.1 hM.1.2 rfl ml_X5_87 (rk_of rfl) rfl (Nat.le_of_ble_eq_true rfl) rfl (pv_k ?_)
          have hI2 : IvD (upd (μ.1 1) (29 + cl r) (frF (dn (μ.1 1)) i)) := IvD_upd hI (by omega) (by omega) (by omega) (by omega) (by omega) (by omega) (by omega) (by omega) (by omega) (fun _ _ => by unfold frF; by_cases y : i = dn (μ.1 1); (rw [if_pos y]; exact Or.inl rfl); (rw [if_neg y]; exact Or.inr ⟨i, by omega, rfl⟩)) (by omega) (by omega)
          refine v_mem (asM_upd μ _ _) ?_
          refine v_aload_n C dX5_friendFor_84 rfl rfl ?_
          refine v_iload_n C dX5_friendFor_85 rfl rfl ?_
          refine v_bipush C dX5_friendFor_86 bp_21 rfl ?_
          refine v_iload_n C dX5_friendFor_88 rfl rfl ?_
          refine v_iadd C dX5_friendFor_89 rfl ?_
          refine v_iV C dX5_friendFor_90 mi_X5_behind (c_X5_behind hM rfl hI2 (upd_63 (by omega)) (t := cl n) (by omega) q2.1 (j := 21 + cl r) (by omega) (by rw [q1.1, cl_n (by omega)]; exact nI_add 21 (cl r))) rfl hM.1.1 hM.1.2 rfl ml_X5_158 (rk_of rfl) rfl (Nat.le_of_ble_eq_true rfl) rfl (px_k ?_)
          refine v_istore C dX5_friendFor_93 (by decide) rfl ?_
          refine v_iload C dX5_friendFor_95 rfl rfl ?_
          refine v_iload C dX5_friendFor_97 rfl rfl ?_
          refine v_icmp_le C 109 102 dX5_friendFor_99 (by decide) rfl (fun h99 => ?_) (fun h99 => ?_)
          · refine v_iincN C dX5_friendFor_109 rfl (by decide) rfl ?_
            refine v_goto C 40 dX5_friendFor_112 (by decide) ?_
            have hw := frL_n (g := (fun k => suN (cl n) (upd (μ.1 1) (29 + cl r) (frF (dn (μ.1 1)) k)) (21 + cl r))) (n := dn (μ.1 1)) (r := cl r) (k := i) e54 (by rw [← hb]; exact Int32.not_lt.mpr h99)
            exact V.norm (ih (i + 1) _ _ (by omega) (by omega) (by rw [hw]; assumption) (by rw [hw]; assumption)) rfl
          · refine v_iload C dX5_friendFor_102 rfl rfl ?_
            refine v_istore_n C dX5_friendFor_104 (by decide) rfl ?_
            refine v_iload C dX5_friendFor_105 rfl rfl ?_
            refine v_istore C dX5_friendFor_107 (by decide) rfl ?_
            refine v_iincN C dX5_friendFor_109 rfl (by decide) rfl ?_
            refine v_goto C 40 dX5_friendFor_112 (by decide) ?_
            have hw := frL_y (g := (fun k => suN (cl n) (upd (μ.1 1) (29 + cl r) (frF (dn (μ.1 1)) k)) (21 + cl r))) (n := dn (μ.1 1)) (r := cl r) (k := i) e54 (by rw [← hb]; exact Int32.not_le.mp h99)
            exact V.norm (ih (i + 1) _ _ (by omega) (by omega) (by rw [hw]) (by rw [hw])) rfl
        · have e65 : i = dn (μ.1 1) := (nI_eq (a := i) (b := dn (μ.1 1)) (by omega) (by omega)).mp h65
          refine v_iconst C dX5_friendFor_68 ic_m1 rfl ?_
          refine v_goto C 74 dX5_friendFor_69 (by decide) ?_
          refine v_eqi (b := frF (dn (μ.1 1)) i) (by unfold frF; first | (rw [if_pos e65]; done) | (rw [if_neg e65]; done)) ?_
          refine v_istore C dX5_friendFor_74 (by decide) rfl ?_
          refine v_aload_n C dX5_friendFor_76 rfl rfl ?_
          refine v_iload_n C dX5_friendFor_77 rfl rfl ?_
          refine v_iconst C dX5_friendFor_78 ic_2 rfl ?_
          refine v_iload C dX5_friendFor_79 rfl rfl ?_
          refine v_vV C dX5_friendFor_81 mi_X5_sets (c_X5_sets hM (i := cl r) (f := 2) (j := 29 + cl r) (by omega) (by decide) q1.1 rfl rfl) rfl hM.1.1 hM.1.2 rfl ml_X5_87 (rk_of rfl) rfl (Nat.le_of_ble_eq_true rfl) rfl (pv_k ?_)
          have hI2 : IvD (upd (μ.1 1) (29 + cl r) (frF (dn (μ.1 1)) i)) := IvD_upd hI (by omega) (by omega) (by omega) (by omega) (by omega) (by omega) (by omega) (by omega) (by omega) (fun _ _ => by unfold frF; by_cases y : i = dn (μ.1 1); (rw [if_pos y]; exact Or.inl rfl); (rw [if_neg y]; exact Or.inr ⟨i, by omega, rfl⟩)) (by omega) (by omega)
          refine v_mem (asM_upd μ _ _) ?_
          refine v_aload_n C dX5_friendFor_84 rfl rfl ?_
          refine v_iload_n C dX5_friendFor_85 rfl rfl ?_
          refine v_bipush C dX5_friendFor_86 bp_21 rfl ?_
          refine v_iload_n C dX5_friendFor_88 rfl rfl ?_
          refine v_iadd C dX5_friendFor_89 rfl ?_
          refine v_iV C dX5_friendFor_90 mi_X5_behind (c_X5_behind hM rfl hI2 (upd_63 (by omega)) (t := cl n) (by omega) q2.1 (j := 21 + cl r) (by omega) (by rw [q1.1, cl_n (by omega)]; exact nI_add 21 (cl r))) rfl hM.1.1 hM.1.2 rfl ml_X5_158 (rk_of rfl) rfl (Nat.le_of_ble_eq_true rfl) rfl (px_k ?_)
          refine v_istore C dX5_friendFor_93 (by decide) rfl ?_
          refine v_iload C dX5_friendFor_95 rfl rfl ?_
          refine v_iload C dX5_friendFor_97 rfl rfl ?_
          refine v_icmp_le C 109 102 dX5_friendFor_99 (by decide) rfl (fun h99 => ?_) (fun h99 => ?_)
          · refine v_iincN C dX5_friendFor_109 rfl (by decide) rfl ?_
            refine v_goto C 40 dX5_friendFor_112 (by decide) ?_
            have hw := frL_n (g := (fun k => suN (cl n) (upd (μ.1 1) (29 + cl r) (frF (dn (μ.1 1)) k)) (21 + cl r))) (n := dn (μ.1 1)) (r := cl r) (k := i) e54 (by rw [← hb]; exact Int32.not_lt.mpr h99)
            exact V.norm (ih (i + 1) _ _ (by omega) (by omega) (by rw [hw]; assumption) (by rw [hw]; assumption)) rfl
          · refine v_iload C dX5_friendFor_102 rfl rfl ?_
            refine v_istore_n C dX5_friendFor_104 (by decide) rfl ?_
            refine v_iload C dX5_friendFor_105 rfl rfl ?_
            refine v_istore C dX5_friendFor_107 (by decide) rfl ?_
            refine v_iincN C dX5_friendFor_109 rfl (by decide) rfl ?_
            refine v_goto C 40 dX5_friendFor_112 (by decide) ?_
            have hw := frL_y (g := (fun k => suN (cl n) (upd (μ.1 1) (29 + cl r) (frF (dn (μ.1 1)) k)) (21 + cl r))) (n := dn (μ.1 1)) (r := cl r) (k := i) e54 (by rw [← hb]; exact Int32.not_le.mp h99)
            exact V.norm (ih (i + 1) _ _ (by omega) (by omega) (by rw [hw]) (by rw [hw])) rfl
set_option maxRecDepth 100000 in
set_option maxHeartbeats 4000000 in
theorem c_X5_friendFor {l : Launch} {w : WC} {μ : Me} (hM : Md w) (hI : IvD (μ.1 1)) {r n : Int32} : CtI l w yX5_friendFor cX5_friendFor 8 (some .int) (Rm 6 142) [.ref (w_ad w 0), .int r, .int n] μ (Px (if wiS r 0 ((μ.1 1) 0 - 1) = 0 ∨ wiS n 0 40 = 0 then -1000001 else (frL (fun k => suN (cl n) (upd (μ.1 1) (29 + cl r) (frF (dn (μ.1 1)) k)) (21 + cl r)) (dn (μ.1 1)) (cl r) (dn (μ.1 1) + 1)).1) (if wiS r 0 ((μ.1 1) 0 - 1) = 0 ∨ wiS n 0 40 = 0 then fnS μ 0 else asM μ)) := by
  refine Ct.mk (own := RX5) rfl (by decide) (Nat.le_of_ble_eq_true rfl) (fun x hxl C hQ => ?_)
  subst hxl
  have hn := hI.n.1
  have h0 := hI.n.2
  refine v_aload_n C dX5_friendFor_0 rfl rfl ?_
  refine v_iload_n C dX5_friendFor_1 rfl rfl ?_
  refine v_iV C dX5_friendFor_2 mi_X5_isResident (c_X5_isResident hM) rfl hM.1.1 hM.1.2 rfl ml_X5_125 (rk_of rfl) rfl (Nat.le_of_ble_eq_true rfl) rfl (px_k ?_)
  refine v_if_eq C 15 8 dX5_friendFor_5 (by decide) rfl (fun h5 => ?_) (fun h5 => ?_)
  · refine v_aload_n C dX5_friendFor_15 rfl rfl ?_
    refine v_iconst C dX5_friendFor_16 ic_0 rfl ?_
    refine v_iV C dX5_friendFor_17 mi_X5_finds (c_X5_finds hM (p := 0) (e := -1000001) (by decide) rfl (by decide)) rfl hM.1.1 hM.1.2 rfl ml_X5_108 (rk_of rfl) rfl (Nat.le_of_ble_eq_true rfl) rfl (px_k ?_)
    exact v_iret C hQ dX5_friendFor_20 ⟨(if_pos (by first | exact Or.inl h5 | exact Or.inr h12)).symm, (if_pos (by first | exact Or.inl h5 | exact Or.inr h12)).symm⟩
  · refine v_iload_n C dX5_friendFor_8 rfl rfl ?_
    refine v_iS C dX5_friendFor_9 ms_X5_isShort c_X5_isShort rfl ml_X5_170 (rk_of rfl) rfl (Nat.le_of_ble_eq_true rfl) rfl (px_k ?_)
    refine v_if_ne C 21 15 dX5_friendFor_12 (by decide) rfl (fun h12 => ?_) (fun h12 => ?_)
    · refine v_aload_n C dX5_friendFor_21 rfl rfl ?_
      refine g_X5_d C hM.1 dX5_friendFor_22 fl_X5_7 rfl ?_
      refine v_aload_n C dX5_friendFor_25 rfl rfl ?_
      refine g_X5_aside C hM.1 dX5_friendFor_26 fl_X5_16 rfl ?_
      refine v_vS C dX5_friendFor_29 ms_X5_copies (c_X5_copies hM.2.1 hM.2.2.2.1 (by decide)) rfl ml_X5_152 (rk_of rfl) rfl (Nat.le_of_ble_eq_true rfl) rfl (pv_k ?_)
      refine v_iconst C dX5_friendFor_32 ic_m1 rfl ?_
      refine v_istore_n C dX5_friendFor_33 (by decide) rfl ?_
      refine v_iconst C dX5_friendFor_34 ic_m1 rfl ?_
      refine v_istore C dX5_friendFor_35 (by decide) rfl ?_
      refine v_iconst C dX5_friendFor_37 ic_0 rfl ?_
      refine v_istore C dX5_friendFor_38 (by decide) rfl ?_
      exact V.norm (lp_X5_friendFor_40 hM hI (fun h => h.elim h5 h12) (has_i hn h0 h5) (wi_i (m := 40) (by omega) h12) C hQ (dn (μ.1 1) + 2) 0 _ _ (by omega) (Nat.zero_le _) rfl rfl) rfl
    · refine v_aload_n C dX5_friendFor_15 rfl rfl ?_
      refine v_iconst C dX5_friendFor_16 ic_0 rfl ?_
      refine v_iV C dX5_friendFor_17 mi_X5_finds (c_X5_finds hM (p := 0) (e := -1000001) (by decide) rfl (by decide)) rfl hM.1.1 hM.1.2 rfl ml_X5_108 (rk_of rfl) rfl (Nat.le_of_ble_eq_true rfl) rfl (px_k ?_)
      exact v_iret C hQ dX5_friendFor_20 ⟨(if_pos (by first | exact Or.inl h5 | exact Or.inr h12)).symm, (if_pos (by first | exact Or.inl h5 | exact Or.inr h12)).symm⟩

set_option maxRecDepth 100000 in
set_option maxHeartbeats 4000000 in
theorem lp_X5_away_87 {w : WC} {x : Cy} {μ : Me} (hM : Md w) (hI : IvD (μ.1 1)) {r n : Int32} {kk : Nat} {a : Int32} (K : V w x 6 (ua (asM μ) 1 (kaD (μ.1 1) (nI kk))) 117 [(0, .ref (w_ad w 0)), (1, .int r), (2, .int n), (3, .int a), (4, .int (nI kk))] []) (C : Cx w x cX5_away 6 RX5 (some .int) (Rm 6 142)) (hQ : y_Q x = MQ (y_b x) (QI w (Px (if wiS r 0 ((μ.1 1) 0 - 1) = 0 ∨ wiS n 0 20 = 0 then -1000001 else if awM (fun i => suN (cl n) (kaD (μ.1 1) (nI i)) (21 + cl r)) r (2 ^ dn (μ.1 1)) < 0 then -1000004 else awM (fun i => suN (cl n) (kaD (μ.1 1) (nI i)) (21 + cl r)) r (2 ^ dn (μ.1 1))) (if wiS r 0 ((μ.1 1) 0 - 1) = 0 ∨ wiS n 0 20 = 0 then fnS μ 0 else if awM (fun i => suN (cl n) (kaD (μ.1 1) (nI i)) (21 + cl r)) r (2 ^ dn (μ.1 1)) < 0 then fnS (asM μ) 3 else asM μ))) (y_a x) (y_s x) 0 0 (AA w)) : ∀ (m i : Nat), 6 + 1 ≤ i + m → i ≤ 6 → V w x 6 (ua (asM μ) 1 (kdI (μ.1 1) (nI kk) i)) 87 [(0, .ref (w_ad w 0)), (1, .int r), (2, .int n), (3, .int a), (4, .int (nI kk)), (5, .int (nI i))] [] := by
  intro m
  induction m with
  | zero =>
    intro i  hm hi
    exact absurd hm (by omega)
  | succ m ih =>
    intro i  hm hi 
    refine v_iload C dX5_away_87 rfl rfl ?_
    refine v_bipush C dX5_away_89 bp_6 rfl ?_
    refine v_icmp_ge C 117 94 dX5_away_91 (by decide) rfl (fun h91 => ?_) (fun h91 => ?_)
    · have g : i = 6 := by have := (le_n (a := 6) (b := i) (by omega) (by omega)).mp h91; omega
      rw [g]
      exact V.norm K rfl
    · have g : i < 6 := by rcases Nat.lt_or_ge i (6) with q | q; exact q; exact absurd ((le_n (a := 6) (b := i) (by omega) (by omega)).mpr q) h91
      refine v_aload_n C dX5_away_94 rfl rfl ?_
      refine g_X5_d C hM.1 dX5_away_95 fl_X5_7 rfl ?_
      refine v_bipush C dX5_away_98 bp_7 rfl ?_
      refine v_iload C dX5_away_100 rfl rfl ?_
      refine v_iadd C dX5_away_102 rfl ?_
      refine v_dup2 C dX5_away_103 rfl rfl rfl ?_
      refine a_I C hM.2.1 (by decide) dX5_away_104 (7 + i) (nI_add 7 i) (by omega) rfl ?_
      refine v_iload C dX5_away_105 rfl rfl ?_
      refine v_iconst C dX5_away_107 ic_m1 rfl ?_
      refine v_ixor C dX5_away_108 rfl ?_
      refine v_iand C dX5_away_109 rfl ?_
      refine s_I C hM.2.1 (by decide) dX5_away_110 (7 + i) (nI_add 7 i) (by omega) rfl ?_
      refine v_iincN C dX5_away_111 rfl (by decide) rfl ?_
      refine v_goto C 87 dX5_away_114 (by decide) ?_
      refine v_mem ?_ (V.norm (ih (i + 1) (by omega) (by omega)) rfl)
      rw [ua_s, up_ua, kdI_s]
set_option maxRecDepth 100000 in
set_option maxHeartbeats 4000000 in
theorem lp_X5_away_42 {w : WC} {x : Cy} {μ : Me} (hM : Md w) (hI : IvD (μ.1 1)) {r n : Int32} (nc : ¬ (wiS r 0 ((μ.1 1) 0 - 1) = 0 ∨ wiS n 0 20 = 0)) (q1 : r = nI (cl r) ∧ cl r < dn (μ.1 1)) (q2 : n = nI (cl n) ∧ cl n ≤ 20) (C : Cx w x cX5_away 6 RX5 (some .int) (Rm 6 142)) (hQ : y_Q x = MQ (y_b x) (QI w (Px (if wiS r 0 ((μ.1 1) 0 - 1) = 0 ∨ wiS n 0 20 = 0 then -1000001 else if awM (fun i => suN (cl n) (kaD (μ.1 1) (nI i)) (21 + cl r)) r (2 ^ dn (μ.1 1)) < 0 then -1000004 else awM (fun i => suN (cl n) (kaD (μ.1 1) (nI i)) (21 + cl r)) r (2 ^ dn (μ.1 1))) (if wiS r 0 ((μ.1 1) 0 - 1) = 0 ∨ wiS n 0 20 = 0 then fnS μ 0 else if awM (fun i => suN (cl n) (kaD (μ.1 1) (nI i)) (21 + cl r)) r (2 ^ dn (μ.1 1)) < 0 then fnS (asM μ) 3 else asM μ))) (y_a x) (y_s x) 0 0 (AA w)) : ∀ (m i : Nat) (a : Int32), (2 ^ dn (μ.1 1)) + 1 ≤ i + m → i ≤ (2 ^ dn (μ.1 1)) → (a = awM (fun i => suN (cl n) (kaD (μ.1 1) (nI i)) (21 + cl r)) r i) → V w x 6 (asM μ) 42 [(0, .ref (w_ad w 0)), (1, .int r), (2, .int n), (3, .int a), (4, .int (nI i))] [] := by
  intro m
  induction m with
  | zero =>
    intro i a hm hi
    exact absurd hm (by omega)
  | succ m ih =>
    intro i a hm hi ha
    have hn := hI.n.1
    have hz : (asM μ).1 1 0 = nI (dn (μ.1 1)) := by rw [asM_1]; exact hI.n.2
    have hpw : 2 ^ dn (μ.1 1) ≤ 2 ^ 8 := Nat.pow_le_pow_right (by decide) hn
    refine v_iload C dX5_away_42 rfl rfl ?_
    refine v_iconst C dX5_away_44 ic_1 rfl ?_
    refine v_aload_n C dX5_away_45 rfl rfl ?_
    refine g_X5_d C hM.1 dX5_away_46 fl_X5_7 rfl ?_
    refine v_iconst C dX5_away_49 ic_0 rfl ?_
    refine a_I C hM.2.1 (by decide) dX5_away_50 (0) rfl (by decide) rfl ?_
    refine v_eqi (hz) ?_
    refine v_ishl C dX5_away_51 rfl ?_
    refine v_eqi (p2_n (dn (μ.1 1)) hn) ?_
    refine v_icmp_ge C 144 55 dX5_away_52 (by decide) rfl (fun h52 => ?_) (fun h52 => ?_)
    · have g : i = 2 ^ dn (μ.1 1) := by have := (le_n (a := 2 ^ dn (μ.1 1)) (b := i) (by omega) (by omega)).mp h52; omega
      refine v_iload_n C dX5_away_144 rfl rfl ?_
      refine v_if_ge C 156 148 dX5_away_145 (by decide) rfl (fun h145 => ?_) (fun h145 => ?_)
      · refine v_iload_n C dX5_away_156 rfl rfl ?_
        exact v_iret C hQ dX5_away_157 (by first | exact ⟨by rw [if_neg nc, ← g, ← ha, if_pos (Int32.not_le.mp h145)], by rw [if_neg nc, ← g, ← ha, if_pos (Int32.not_le.mp h145)]⟩ | exact ⟨by rw [if_neg nc, ← g, ← ha, if_neg (Int32.not_lt.mpr h145)], by rw [if_neg nc, ← g, ← ha, if_neg (Int32.not_lt.mpr h145)]⟩)
      · refine v_aload_n C dX5_away_148 rfl rfl ?_
        refine v_iconst C dX5_away_149 ic_3 rfl ?_
        refine v_iV C dX5_away_150 mi_X5_finds (c_X5_finds hM (p := 3) (e := -1000004) (by decide) rfl (by decide)) rfl hM.1.1 hM.1.2 rfl ml_X5_108 (rk_of rfl) rfl (Nat.le_of_ble_eq_true rfl) rfl (px_k ?_)
        refine v_goto C 157 dX5_away_153 (by decide) ?_
        exact v_iret C hQ dX5_away_157 (by first | exact ⟨by rw [if_neg nc, ← g, ← ha, if_pos (Int32.not_le.mp h145)], by rw [if_neg nc, ← g, ← ha, if_pos (Int32.not_le.mp h145)]⟩ | exact ⟨by rw [if_neg nc, ← g, ← ha, if_neg (Int32.not_lt.mpr h145)], by rw [if_neg nc, ← g, ← ha, if_neg (Int32.not_lt.mpr h145)]⟩)
    · have g : i < 2 ^ dn (μ.1 1) := by rcases Nat.lt_or_ge i (2 ^ dn (μ.1 1)) with q | q; exact q; exact absurd ((le_n (a := 2 ^ dn (μ.1 1)) (b := i) (by omega) (by omega)).mpr q) h52
      refine v_iload C dX5_away_55 rfl rfl ?_
      refine v_iload_n C dX5_away_57 rfl rfl ?_
      refine v_ishr C dX5_away_58 rfl ?_
      refine v_iconst C dX5_away_59 ic_1 rfl ?_
      refine v_iand C dX5_away_60 rfl ?_
      refine v_iconst C dX5_away_61 ic_1 rfl ?_
      refine v_icmp_eq C 138 65 dX5_away_62 (by decide) rfl (fun h62 => ?_) (fun h62 => ?_)
      · refine v_iincN C dX5_away_138 rfl (by decide) rfl ?_
        refine v_goto C 42 dX5_away_141 (by decide) ?_
        exact V.norm (ih (i + 1) _ (by omega) (by omega) (by rw [awM_n (f := (fun i => suN (cl n) (kaD (μ.1 1) (nI i)) (21 + cl r))) (r := r) (i := i) (Or.inl h62)]; first | done | assumption)) rfl
      · refine v_iload_n C dX5_away_65 rfl rfl ?_
        refine v_if_lt C 84 69 dX5_away_66 (by decide) rfl (fun h66 => ?_) (fun h66 => ?_)
        · refine v_iconst C dX5_away_84 ic_0 rfl ?_
          refine v_istore C dX5_away_85 (by decide) rfl ?_
          refine v_mem (μ' := ua (asM μ) 1 (kdI (μ.1 1) (nI i) 0)) (by rw [kdI_0]; exact asM_self μ) (V.norm (lp_X5_away_87 (kk := i) (a := a) hM hI ?_ C hQ 7 0 (by omega) (by omega)) rfl)
          refine v_aload_n C dX5_away_117 rfl rfl ?_
          refine v_iload_n C dX5_away_118 rfl rfl ?_
          refine v_bipush C dX5_away_119 bp_21 rfl ?_
          refine v_iload_n C dX5_away_121 rfl rfl ?_
          refine v_iadd C dX5_away_122 rfl ?_
          refine v_iV C dX5_away_123 mi_X5_behind (c_X5_behind hM rfl (IvD_ka hI (nI i)) ka_63 (t := cl n) (by omega) q2.1 (j := 21 + cl r) (by omega) (by rw [q1.1, cl_n (by omega)]; exact nI_add 21 (cl r))) rfl hM.1.1 hM.1.2 rfl ml_X5_158 (rk_of rfl) rfl (Nat.le_of_ble_eq_true rfl) rfl (px_k ?_)
          refine v_bipush C dX5_away_126 bp_60 rfl ?_
          refine v_icmp_lt C 136 131 dX5_away_128 (by decide) rfl (fun h128 => ?_) (fun h128 => ?_)
          · refine v_iload_n C dX5_away_136 rfl rfl ?_
            refine v_istore_n C dX5_away_137 (by decide) rfl ?_
            refine v_iincN C dX5_away_138 rfl (by decide) rfl ?_
            refine v_goto C 42 dX5_away_141 (by decide) ?_
            exact V.norm (ih (i + 1) _ (by omega) (by omega) (by rw [awM_n (f := (fun i => suN (cl n) (kaD (μ.1 1) (nI i)) (21 + cl r))) (r := r) (i := i) (Or.inr (Or.inr h128))]; first | done | assumption)) rfl
          · refine v_iload C dX5_away_131 rfl rfl ?_
            refine v_goto C 137 dX5_away_133 (by decide) ?_
            refine v_istore_n C dX5_away_137 (by decide) rfl ?_
            refine v_iincN C dX5_away_138 rfl (by decide) rfl ?_
            refine v_goto C 42 dX5_away_141 (by decide) ?_
            exact V.norm (ih (i + 1) _ (by omega) (by omega) (by rw [awM_y (f := (fun i => suN (cl n) (kaD (μ.1 1) (nI i)) (21 + cl r))) (r := r) (i := i) (fun h => h.elim h62 (fun h => h.elim (fun h => h.1 (by rw [← ha]; exact h66)) h128))]; first | done | assumption)) rfl
        · refine v_iload C dX5_away_69 rfl rfl ?_
          refine v_iS C dX5_away_71 ms_X5_ones c_X5_ones rfl ml_X5_78 (rk_of rfl) rfl (Nat.le_of_ble_eq_true rfl) rfl (px_k ?_)
          refine v_iload_n C dX5_away_74 rfl rfl ?_
          refine v_iS C dX5_away_75 ms_X5_ones c_X5_ones rfl ml_X5_78 (rk_of rfl) rfl (Nat.le_of_ble_eq_true rfl) rfl (px_k ?_)
          refine v_icmp_lt C 84 81 dX5_away_78 (by decide) rfl (fun h78 => ?_) (fun h78 => ?_)
          · refine v_iconst C dX5_away_84 ic_0 rfl ?_
            refine v_istore C dX5_away_85 (by decide) rfl ?_
            refine v_mem (μ' := ua (asM μ) 1 (kdI (μ.1 1) (nI i) 0)) (by rw [kdI_0]; exact asM_self μ) (V.norm (lp_X5_away_87 (kk := i) (a := a) hM hI ?_ C hQ 7 0 (by omega) (by omega)) rfl)
            refine v_aload_n C dX5_away_117 rfl rfl ?_
            refine v_iload_n C dX5_away_118 rfl rfl ?_
            refine v_bipush C dX5_away_119 bp_21 rfl ?_
            refine v_iload_n C dX5_away_121 rfl rfl ?_
            refine v_iadd C dX5_away_122 rfl ?_
            refine v_iV C dX5_away_123 mi_X5_behind (c_X5_behind hM rfl (IvD_ka hI (nI i)) ka_63 (t := cl n) (by omega) q2.1 (j := 21 + cl r) (by omega) (by rw [q1.1, cl_n (by omega)]; exact nI_add 21 (cl r))) rfl hM.1.1 hM.1.2 rfl ml_X5_158 (rk_of rfl) rfl (Nat.le_of_ble_eq_true rfl) rfl (px_k ?_)
            refine v_bipush C dX5_away_126 bp_60 rfl ?_
            refine v_icmp_lt C 136 131 dX5_away_128 (by decide) rfl (fun h128 => ?_) (fun h128 => ?_)
            · refine v_iload_n C dX5_away_136 rfl rfl ?_
              refine v_istore_n C dX5_away_137 (by decide) rfl ?_
              refine v_iincN C dX5_away_138 rfl (by decide) rfl ?_
              refine v_goto C 42 dX5_away_141 (by decide) ?_
              exact V.norm (ih (i + 1) _ (by omega) (by omega) (by rw [awM_n (f := (fun i => suN (cl n) (kaD (μ.1 1) (nI i)) (21 + cl r))) (r := r) (i := i) (Or.inr (Or.inr h128))]; first | done | assumption)) rfl
            · refine v_iload C dX5_away_131 rfl rfl ?_
              refine v_goto C 137 dX5_away_133 (by decide) ?_
              refine v_istore_n C dX5_away_137 (by decide) rfl ?_
              refine v_iincN C dX5_away_138 rfl (by decide) rfl ?_
              refine v_goto C 42 dX5_away_141 (by decide) ?_
              exact V.norm (ih (i + 1) _ (by omega) (by omega) (by rw [awM_y (f := (fun i => suN (cl n) (kaD (μ.1 1) (nI i)) (21 + cl r))) (r := r) (i := i) (fun h => h.elim h62 (fun h => h.elim (fun h => h.2 (by rw [← ha]; exact h78)) h128))]; first | done | assumption)) rfl
          · refine v_goto C 138 dX5_away_81 (by decide) ?_
            refine v_iincN C dX5_away_138 rfl (by decide) rfl ?_
            refine v_goto C 42 dX5_away_141 (by decide) ?_
            exact V.norm (ih (i + 1) _ (by omega) (by omega) (by rw [awM_n (f := (fun i => suN (cl n) (kaD (μ.1 1) (nI i)) (21 + cl r))) (r := r) (i := i) (Or.inr (Or.inl ⟨by rw [← ha]; exact h66, by rw [← ha]; exact h78⟩))]; first | done | assumption)) rfl
set_option maxRecDepth 100000 in
set_option maxHeartbeats 4000000 in
theorem c_X5_away {l : Launch} {w : WC} {μ : Me} (hM : Md w) (hI : IvD (μ.1 1)) {r n : Int32} : CtI l w yX5_away cX5_away 6 (some .int) (Rm 6 142) [.ref (w_ad w 0), .int r, .int n] μ (Px (if wiS r 0 ((μ.1 1) 0 - 1) = 0 ∨ wiS n 0 20 = 0 then -1000001 else if awM (fun i => suN (cl n) (kaD (μ.1 1) (nI i)) (21 + cl r)) r (2 ^ dn (μ.1 1)) < 0 then -1000004 else awM (fun i => suN (cl n) (kaD (μ.1 1) (nI i)) (21 + cl r)) r (2 ^ dn (μ.1 1))) (if wiS r 0 ((μ.1 1) 0 - 1) = 0 ∨ wiS n 0 20 = 0 then fnS μ 0 else if awM (fun i => suN (cl n) (kaD (μ.1 1) (nI i)) (21 + cl r)) r (2 ^ dn (μ.1 1)) < 0 then fnS (asM μ) 3 else asM μ)) := by
  refine Ct.mk (own := RX5) rfl (by decide) (Nat.le_of_ble_eq_true rfl) (fun x hxl C hQ => ?_)
  subst hxl
  have hn := hI.n.1
  have h0 := hI.n.2
  refine v_aload_n C dX5_away_0 rfl rfl ?_
  refine v_iload_n C dX5_away_1 rfl rfl ?_
  refine v_iV C dX5_away_2 mi_X5_isResident (c_X5_isResident hM) rfl hM.1.1 hM.1.2 rfl ml_X5_125 (rk_of rfl) rfl (Nat.le_of_ble_eq_true rfl) rfl (px_k ?_)
  refine v_if_eq C 20 8 dX5_away_5 (by decide) rfl (fun h5 => ?_) (fun h5 => ?_)
  · refine v_aload_n C dX5_away_20 rfl rfl ?_
    refine v_iconst C dX5_away_21 ic_0 rfl ?_
    refine v_iV C dX5_away_22 mi_X5_finds (c_X5_finds hM (p := 0) (e := -1000001) (by decide) rfl (by decide)) rfl hM.1.1 hM.1.2 rfl ml_X5_108 (rk_of rfl) rfl (Nat.le_of_ble_eq_true rfl) rfl (px_k ?_)
    exact v_iret C hQ dX5_away_25 ⟨(if_pos (by first | exact Or.inl h5 | exact Or.inr h17)).symm, (if_pos (by first | exact Or.inl h5 | exact Or.inr h17)).symm⟩
  · refine v_iload_n C dX5_away_8 rfl rfl ?_
    refine v_i2l C dX5_away_9 rfl ?_
    refine v_lconst (v := 0) C dX5_away_10 rfl rfl ?_
    refine v_ldc2 C dX5_away_11 cn_X5_95 rfl ?_
    refine v_iS C dX5_away_14 ms_X5_in c_X5_in rfl ml_X5_42 (rk_of rfl) rfl (Nat.le_of_ble_eq_true rfl) rfl (px_k ?_)
    refine v_eqi (in_w (a := (0)) (b := (20)) (by decide) (by decide)) ?_
    refine v_if_ne C 26 20 dX5_away_17 (by decide) rfl (fun h17 => ?_) (fun h17 => ?_)
    · refine v_aload_n C dX5_away_26 rfl rfl ?_
      refine g_X5_d C hM.1 dX5_away_27 fl_X5_7 rfl ?_
      refine v_aload_n C dX5_away_30 rfl rfl ?_
      refine g_X5_aside C hM.1 dX5_away_31 fl_X5_16 rfl ?_
      refine v_vS C dX5_away_34 ms_X5_copies (c_X5_copies hM.2.1 hM.2.2.2.1 (by decide)) rfl ml_X5_152 (rk_of rfl) rfl (Nat.le_of_ble_eq_true rfl) rfl (pv_k ?_)
      refine v_iconst C dX5_away_37 ic_m1 rfl ?_
      refine v_istore_n C dX5_away_38 (by decide) rfl ?_
      refine v_iconst C dX5_away_39 ic_0 rfl ?_
      refine v_istore C dX5_away_40 (by decide) rfl ?_
      exact V.norm (lp_X5_away_42 hM hI (fun h => h.elim h5 h17) (has_i hn h0 h5) (wi_i (m := 20) (by omega) h17) C hQ (2 ^ dn (μ.1 1) + 1) 0 _ (by omega) (Nat.zero_le _) rfl) rfl
    · refine v_aload_n C dX5_away_20 rfl rfl ?_
      refine v_iconst C dX5_away_21 ic_0 rfl ?_
      refine v_iV C dX5_away_22 mi_X5_finds (c_X5_finds hM (p := 0) (e := -1000001) (by decide) rfl (by decide)) rfl hM.1.1 hM.1.2 rfl ml_X5_108 (rk_of rfl) rfl (Nat.le_of_ble_eq_true rfl) rfl (px_k ?_)
      exact v_iret C hQ dX5_away_25 ⟨(if_pos (by first | exact Or.inl h5 | exact Or.inr h17)).symm, (if_pos (by first | exact Or.inl h5 | exact Or.inr h17)).symm⟩
