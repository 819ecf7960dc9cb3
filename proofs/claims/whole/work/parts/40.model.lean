set_option maxRecDepth 100000 in
set_option maxHeartbeats 4000000 in
theorem c_X5_behind {l : Launch} {w : WC} {μ : Me} (hM : Md w) {μ0 : Me} {X : Nat → Int32} (hμ : μ = ua (asM μ0) 1 X) (hI : IvD X) (hX : ∀ j, 63 ≤ j → X j = μ0.1 1 j) {n a : Int32} {t j : Nat} (ht : t < 1000) (hn : n = nI t) (hj : j < 63) (ha : a = nI j) : CtI l w yX5_behind cX5_behind 4 (some .int) (Rm 5 119) [.ref (w_ad w 0), .int n, .int a] μ (Px (suN t X j) (asM μ0)) := by
  refine Ct.mk (own := RX5) rfl (by decide) (Nat.le_of_ble_eq_true rfl) (fun x hxl C hQ => ?_)
  subst hxl
  subst hμ
  refine v_aload_n C dX5_behind_0 rfl rfl ?_
  refine v_iload_n C dX5_behind_1 rfl rfl ?_
  refine v_vV C dX5_behind_2 mi_X5_sundaysGo (c_X5_sundaysGo hM (by rw [ua_s]; exact hI) (t := t) ht hn) rfl hM.1.1 hM.1.2 rfl ml_X5_142 (rk_of rfl) rfl (Nat.le_of_ble_eq_true rfl) rfl (pv_k ?_)
  rw [ua_s, ua_ua]
  refine v_aload_n C dX5_behind_5 rfl rfl ?_
  refine g_X5_d C hM.1 dX5_behind_6 fl_X5_7 rfl ?_
  refine v_iload_n C dX5_behind_9 rfl rfl ?_
  refine a_I C hM.2.1 (by decide) dX5_behind_10 (j) ha hj rfl ?_
  refine v_istore_n C dX5_behind_11 (by decide) rfl ?_
  refine v_aload_n C dX5_behind_12 rfl rfl ?_
  refine g_X5_aside C hM.1 dX5_behind_13 fl_X5_16 rfl ?_
  refine v_aload_n C dX5_behind_16 rfl rfl ?_
  refine g_X5_d C hM.1 dX5_behind_17 fl_X5_7 rfl ?_
  refine v_vS C dX5_behind_20 ms_X5_copies (c_X5_copies hM.2.2.2.1 hM.2.1 (by decide)) rfl ml_X5_152 (rk_of rfl) rfl (Nat.le_of_ble_eq_true rfl) rfl (pv_k ?_)
  refine v_iload_n C dX5_behind_23 rfl rfl ?_
  exact v_iret C hQ dX5_behind_24 ⟨by rw [ua_s], by rw [rst (fun j hj => (suN_63 hI t hj).trans (hX j hj))]⟩

set_option maxRecDepth 100000 in
set_option maxHeartbeats 4000000 in
theorem c_X5_ahead {l : Launch} {w : WC} {μ : Me} (hM : Md w) (hI : IvD (μ.1 1)) {r t n : Int32} : CtI l w yX5_ahead cX5_ahead 4 (some .int) (Rm 6 142) [.ref (w_ad w 0), .int r, .int t, .int n] μ (Px (if wiS r 0 ((μ.1 1) 0 - 1) = 0 ∨ ¬ (t = 1 ∨ t = 3 ∨ t = 4) ∨ wiS n 0 100 = 0 then -1000001 else suN (cl n) (μ.1 1) (13 + 8 * cl t + cl r)) (if wiS r 0 ((μ.1 1) 0 - 1) = 0 ∨ ¬ (t = 1 ∨ t = 3 ∨ t = 4) ∨ wiS n 0 100 = 0 then fnS μ 0 else asM μ)) := by
  refine Ct.mk (own := RX5) rfl (by decide) (Nat.le_of_ble_eq_true rfl) (fun x hxl C hQ => ?_)
  subst hxl
  have hn := hI.n.1
  have h0 := hI.n.2
  refine v_aload_n C dX5_ahead_0 rfl rfl ?_
  refine v_iload_n C dX5_ahead_1 rfl rfl ?_
  refine v_iV C dX5_ahead_2 mi_X5_isResident (c_X5_isResident hM) rfl hM.1.1 hM.1.2 rfl ml_X5_125 (rk_of rfl) rfl (Nat.le_of_ble_eq_true rfl) rfl (px_k ?_)
  refine v_if_eq C 35 8 dX5_ahead_5 (by decide) rfl (fun h5 => ?_) (fun h5 => ?_)
  · refine v_aload_n C dX5_ahead_35 rfl rfl ?_
    refine v_iconst C dX5_ahead_36 ic_0 rfl ?_
    refine v_iV C dX5_ahead_37 mi_X5_finds (c_X5_finds hM (p := 0) (e := -1000001) (by decide) rfl (by decide)) rfl hM.1.1 hM.1.2 rfl ml_X5_108 (rk_of rfl) rfl (Nat.le_of_ble_eq_true rfl) rfl (px_k ?_)
    exact v_iret C hQ dX5_ahead_40 ⟨(if_pos (by first | exact Or.inl h5 | exact Or.inr (Or.inl (fun h => h.elim h10 (fun h => h.elim h15 h20))) | exact Or.inr (Or.inr h32))).symm, (if_pos (by first | exact Or.inl h5 | exact Or.inr (Or.inl (fun h => h.elim h10 (fun h => h.elim h15 h20))) | exact Or.inr (Or.inr h32))).symm⟩
  · refine v_iload_n C dX5_ahead_8 rfl rfl ?_
    refine v_iconst C dX5_ahead_9 ic_1 rfl ?_
    refine v_icmp_eq C 23 13 dX5_ahead_10 (by decide) rfl (fun h10 => ?_) (fun h10 => ?_)
    · refine v_iload_n C dX5_ahead_23 rfl rfl ?_
      refine v_i2l C dX5_ahead_24 rfl ?_
      refine v_lconst (v := 0) C dX5_ahead_25 rfl rfl ?_
      refine v_ldc2 C dX5_ahead_26 cn_X5_156 rfl ?_
      refine v_iS C dX5_ahead_29 ms_X5_in c_X5_in rfl ml_X5_42 (rk_of rfl) rfl (Nat.le_of_ble_eq_true rfl) rfl (px_k ?_)
      refine v_eqi (in_w (a := (0)) (b := (100)) (by decide) (by decide)) ?_
      refine v_if_ne C 41 35 dX5_ahead_32 (by decide) rfl (fun h32 => ?_) (fun h32 => ?_)
      · have ht : t = nI (cl t) ∧ cl t < 5 := by first | (subst h10; exact ⟨rfl, by decide⟩) | (subst h15; exact ⟨rfl, by decide⟩) | (subst h20; exact ⟨rfl, by decide⟩)
        have nc : ¬ (wiS r 0 ((μ.1 1) 0 - 1) = 0 ∨ ¬ (t = 1 ∨ t = 3 ∨ t = 4) ∨ wiS n 0 100 = 0) := fun h => h.elim h5 (fun h => h.elim (fun h => h (by first | exact Or.inl h10 | exact Or.inr (Or.inl h15) | exact Or.inr (Or.inr h20))) h32)
        have q := has_i hn h0 h5
        have q2 := wi_i (m := 100) (by omega) h32
        refine v_aload_n C dX5_ahead_41 rfl rfl ?_
        refine g_X5_d C hM.1 dX5_ahead_42 fl_X5_7 rfl ?_
        refine v_aload_n C dX5_ahead_45 rfl rfl ?_
        refine g_X5_aside C hM.1 dX5_ahead_46 fl_X5_16 rfl ?_
        refine v_vS C dX5_ahead_49 ms_X5_copies (c_X5_copies hM.2.1 hM.2.2.2.1 (by decide)) rfl ml_X5_152 (rk_of rfl) rfl (Nat.le_of_ble_eq_true rfl) rfl (pv_k ?_)
        refine v_mem (asM_self μ) ?_
        refine v_aload_n C dX5_ahead_52 rfl rfl ?_
        refine v_iload_n C dX5_ahead_53 rfl rfl ?_
        refine v_bipush C dX5_ahead_54 bp_13 rfl ?_
        refine v_bipush C dX5_ahead_56 bp_8 rfl ?_
        refine v_iload_n C dX5_ahead_58 rfl rfl ?_
        refine v_imul C dX5_ahead_59 rfl ?_
        refine v_iadd C dX5_ahead_60 rfl ?_
        refine v_iload_n C dX5_ahead_61 rfl rfl ?_
        refine v_iadd C dX5_ahead_62 rfl ?_
        refine v_iV C dX5_ahead_63 mi_X5_behind (c_X5_behind hM rfl hI (fun _ _ => rfl) (t := cl n) (by omega) q2.1 (j := 13 + 8 * cl t + cl r) (by omega) (by rw [ht.1, q.1, ix_n, cl_n (by omega), cl_n (by omega)])) rfl hM.1.1 hM.1.2 rfl ml_X5_158 (rk_of rfl) rfl (Nat.le_of_ble_eq_true rfl) rfl (px_k ?_)
        exact v_iret C hQ dX5_ahead_66 ⟨(if_neg nc).symm, (if_neg nc).symm⟩
      · refine v_aload_n C dX5_ahead_35 rfl rfl ?_
        refine v_iconst C dX5_ahead_36 ic_0 rfl ?_
        refine v_iV C dX5_ahead_37 mi_X5_finds (c_X5_finds hM (p := 0) (e := -1000001) (by decide) rfl (by decide)) rfl hM.1.1 hM.1.2 rfl ml_X5_108 (rk_of rfl) rfl (Nat.le_of_ble_eq_true rfl) rfl (px_k ?_)
        exact v_iret C hQ dX5_ahead_40 ⟨(if_pos (by first | exact Or.inl h5 | exact Or.inr (Or.inl (fun h => h.elim h10 (fun h => h.elim h15 h20))) | exact Or.inr (Or.inr h32))).symm, (if_pos (by first | exact Or.inl h5 | exact Or.inr (Or.inl (fun h => h.elim h10 (fun h => h.elim h15 h20))) | exact Or.inr (Or.inr h32))).symm⟩
    · refine v_iload_n C dX5_ahead_13 rfl rfl ?_
      refine v_iconst C dX5_ahead_14 ic_3 rfl ?_
      refine v_icmp_eq C 23 18 dX5_ahead_15 (by decide) rfl (fun h15 => ?_) (fun h15 => ?_)
      · refine v_iload_n C dX5_ahead_23 rfl rfl ?_
        refine v_i2l C dX5_ahead_24 rfl ?_
        refine v_lconst (v := 0) C dX5_ahead_25 rfl rfl ?_
        refine v_ldc2 C dX5_ahead_26 cn_X5_156 rfl ?_
        refine v_iS C dX5_ahead_29 ms_X5_in c_X5_in rfl ml_X5_42 (rk_of rfl) rfl (Nat.le_of_ble_eq_true rfl) rfl (px_k ?_)
        refine v_eqi (in_w (a := (0)) (b := (100)) (by decide) (by decide)) ?_
        refine v_if_ne C 41 35 dX5_ahead_32 (by decide) rfl (fun h32 => ?_) (fun h32 => ?_)
        · have ht : t = nI (cl t) ∧ cl t < 5 := by first | (subst h10; exact ⟨rfl, by decide⟩) | (subst h15; exact ⟨rfl, by decide⟩) | (subst h20; exact ⟨rfl, by decide⟩)
          have nc : ¬ (wiS r 0 ((μ.1 1) 0 - 1) = 0 ∨ ¬ (t = 1 ∨ t = 3 ∨ t = 4) ∨ wiS n 0 100 = 0) := fun h => h.elim h5 (fun h => h.elim (fun h => h (by first | exact Or.inl h10 | exact Or.inr (Or.inl h15) | exact Or.inr (Or.inr h20))) h32)
          have q := has_i hn h0 h5
          have q2 := wi_i (m := 100) (by omega) h32
          refine v_aload_n C dX5_ahead_41 rfl rfl ?_
          refine g_X5_d C hM.1 dX5_ahead_42 fl_X5_7 rfl ?_
          refine v_aload_n C dX5_ahead_45 rfl rfl ?_
          refine g_X5_aside C hM.1 dX5_ahead_46 fl_X5_16 rfl ?_
          refine v_vS C dX5_ahead_49 ms_X5_copies (c_X5_copies hM.2.1 hM.2.2.2.1 (by decide)) rfl ml_X5_152 (rk_of rfl) rfl (Nat.le_of_ble_eq_true rfl) rfl (pv_k ?_)
          refine v_mem (asM_self μ) ?_
          refine v_aload_n C dX5_ahead_52 rfl rfl ?_
          refine v_iload_n C dX5_ahead_53 rfl rfl ?_
          refine v_bipush C dX5_ahead_54 bp_13 rfl ?_
          refine v_bipush C dX5_ahead_56 bp_8 rfl ?_
          refine v_iload_n C dX5_ahead_58 rfl rfl ?_
          refine v_imul C dX5_ahead_59 rfl ?_
          refine v_iadd C dX5_ahead_60 rfl ?_
          refine v_iload_n C dX5_ahead_61 rfl rfl ?_
          refine v_iadd C dX5_ahead_62 rfl ?_
          refine v_iV C dX5_ahead_63 mi_X5_behind (c_X5_behind hM rfl hI (fun _ _ => rfl) (t := cl n) (by omega) q2.1 (j := 13 + 8 * cl t + cl r) (by omega) (by rw [ht.1, q.1, ix_n, cl_n (by omega), cl_n (by omega)])) rfl hM.1.1 hM.1.2 rfl ml_X5_158 (rk_of rfl) rfl (Nat.le_of_ble_eq_true rfl) rfl (px_k ?_)
          exact v_iret C hQ dX5_ahead_66 ⟨(if_neg nc).symm, (if_neg nc).symm⟩
        · refine v_aload_n C dX5_ahead_35 rfl rfl ?_
          refine v_iconst C dX5_ahead_36 ic_0 rfl ?_
          refine v_iV C dX5_ahead_37 mi_X5_finds (c_X5_finds hM (p := 0) (e := -1000001) (by decide) rfl (by decide)) rfl hM.1.1 hM.1.2 rfl ml_X5_108 (rk_of rfl) rfl (Nat.le_of_ble_eq_true rfl) rfl (px_k ?_)
          exact v_iret C hQ dX5_ahead_40 ⟨(if_pos (by first | exact Or.inl h5 | exact Or.inr (Or.inl (fun h => h.elim h10 (fun h => h.elim h15 h20))) | exact Or.inr (Or.inr h32))).symm, (if_pos (by first | exact Or.inl h5 | exact Or.inr (Or.inl (fun h => h.elim h10 (fun h => h.elim h15 h20))) | exact Or.inr (Or.inr h32))).symm⟩
      · refine v_iload_n C dX5_ahead_18 rfl rfl ?_
        refine v_iconst C dX5_ahead_19 ic_4 rfl ?_
        refine v_icmp_ne C 35 23 dX5_ahead_20 (by decide) rfl (fun h20 => ?_) (fun h20 => ?_)
        · refine v_aload_n C dX5_ahead_35 rfl rfl ?_
          refine v_iconst C dX5_ahead_36 ic_0 rfl ?_
          refine v_iV C dX5_ahead_37 mi_X5_finds (c_X5_finds hM (p := 0) (e := -1000001) (by decide) rfl (by decide)) rfl hM.1.1 hM.1.2 rfl ml_X5_108 (rk_of rfl) rfl (Nat.le_of_ble_eq_true rfl) rfl (px_k ?_)
          exact v_iret C hQ dX5_ahead_40 ⟨(if_pos (by first | exact Or.inl h5 | exact Or.inr (Or.inl (fun h => h.elim h10 (fun h => h.elim h15 h20))) | exact Or.inr (Or.inr h32))).symm, (if_pos (by first | exact Or.inl h5 | exact Or.inr (Or.inl (fun h => h.elim h10 (fun h => h.elim h15 h20))) | exact Or.inr (Or.inr h32))).symm⟩
        · refine v_iload_n C dX5_ahead_23 rfl rfl ?_
          refine v_i2l C dX5_ahead_24 rfl ?_
          refine v_lconst (v := 0) C dX5_ahead_25 rfl rfl ?_
          refine v_ldc2 C dX5_ahead_26 cn_X5_156 rfl ?_
          refine v_iS C dX5_ahead_29 ms_X5_in c_X5_in rfl ml_X5_42 (rk_of rfl) rfl (Nat.le_of_ble_eq_true rfl) rfl (px_k ?_)
          refine v_eqi (in_w (a := (0)) (b := (100)) (by decide) (by decide)) ?_
          refine v_if_ne C 41 35 dX5_ahead_32 (by decide) rfl (fun h32 => ?_) (fun h32 => ?_)
          · have ht : t = nI (cl t) ∧ cl t < 5 := by first | (subst h10; exact ⟨rfl, by decide⟩) | (subst h15; exact ⟨rfl, by decide⟩) | (subst h20; exact ⟨rfl, by decide⟩)
            have nc : ¬ (wiS r 0 ((μ.1 1) 0 - 1) = 0 ∨ ¬ (t = 1 ∨ t = 3 ∨ t = 4) ∨ wiS n 0 100 = 0) := fun h => h.elim h5 (fun h => h.elim (fun h => h (by first | exact Or.inl h10 | exact Or.inr (Or.inl h15) | exact Or.inr (Or.inr h20))) h32)
            have q := has_i hn h0 h5
            have q2 := wi_i (m := 100) (by omega) h32
            refine v_aload_n C dX5_ahead_41 rfl rfl ?_
            refine g_X5_d C hM.1 dX5_ahead_42 fl_X5_7 rfl ?_
            refine v_aload_n C dX5_ahead_45 rfl rfl ?_
            refine g_X5_aside C hM.1 dX5_ahead_46 fl_X5_16 rfl ?_
            refine v_vS C dX5_ahead_49 ms_X5_copies (c_X5_copies hM.2.1 hM.2.2.2.1 (by decide)) rfl ml_X5_152 (rk_of rfl) rfl (Nat.le_of_ble_eq_true rfl) rfl (pv_k ?_)
            refine v_mem (asM_self μ) ?_
            refine v_aload_n C dX5_ahead_52 rfl rfl ?_
            refine v_iload_n C dX5_ahead_53 rfl rfl ?_
            refine v_bipush C dX5_ahead_54 bp_13 rfl ?_
            refine v_bipush C dX5_ahead_56 bp_8 rfl ?_
            refine v_iload_n C dX5_ahead_58 rfl rfl ?_
            refine v_imul C dX5_ahead_59 rfl ?_
            refine v_iadd C dX5_ahead_60 rfl ?_
            refine v_iload_n C dX5_ahead_61 rfl rfl ?_
            refine v_iadd C dX5_ahead_62 rfl ?_
            refine v_iV C dX5_ahead_63 mi_X5_behind (c_X5_behind hM rfl hI (fun _ _ => rfl) (t := cl n) (by omega) q2.1 (j := 13 + 8 * cl t + cl r) (by omega) (by rw [ht.1, q.1, ix_n, cl_n (by omega), cl_n (by omega)])) rfl hM.1.1 hM.1.2 rfl ml_X5_158 (rk_of rfl) rfl (Nat.le_of_ble_eq_true rfl) rfl (px_k ?_)
            exact v_iret C hQ dX5_ahead_66 ⟨(if_neg nc).symm, (if_neg nc).symm⟩
          · refine v_aload_n C dX5_ahead_35 rfl rfl ?_
            refine v_iconst C dX5_ahead_36 ic_0 rfl ?_
            refine v_iV C dX5_ahead_37 mi_X5_finds (c_X5_finds hM (p := 0) (e := -1000001) (by decide) rfl (by decide)) rfl hM.1.1 hM.1.2 rfl ml_X5_108 (rk_of rfl) rfl (Nat.le_of_ble_eq_true rfl) rfl (px_k ?_)
            exact v_iret C hQ dX5_ahead_40 ⟨(if_pos (by first | exact Or.inl h5 | exact Or.inr (Or.inl (fun h => h.elim h10 (fun h => h.elim h15 h20))) | exact Or.inr (Or.inr h32))).symm, (if_pos (by first | exact Or.inl h5 | exact Or.inr (Or.inl (fun h => h.elim h10 (fun h => h.elim h15 h20))) | exact Or.inr (Or.inr h32))).symm⟩

set_option maxRecDepth 100000 in
set_option maxHeartbeats 4000000 in
theorem lp_X5_firstOf_14 {w : WC} {x : Cy} {μ : Me} (hM : Md w) (hI : IvD (μ.1 1)) {a lo hg : Int32} {j : Nat} (hj : j < 63) (ha : a = nI j)  (C : Cx w x cX5_firstOf 6 RX5 (some .int) (Rm 4 97)) (hQ : y_Q x = MQ (y_b x) (QI w (Px (if (fun k => wiS (suN k (μ.1 1) j) lo hg) (fsN (fun k => wiS (suN k (μ.1 1) j) lo hg) 200 0) = 0 then -1000004 else nI (fsN (fun k => wiS (suN k (μ.1 1) j) lo hg) 200 0)) (if (fun k => wiS (suN k (μ.1 1) j) lo hg) (fsN (fun k => wiS (suN k (μ.1 1) j) lo hg) 200 0) = 0 then fnS (asM μ) 3 else asM μ))) (y_a x) (y_s x) 0 0 (AA w)) : ∀ (m i : Nat), 200 + 1 ≤ i + m → i ≤ 200 → (fsN (fun k => wiS (suN k (μ.1 1) j) lo hg) 200 0 = fsN (fun k => wiS (suN k (μ.1 1) j) lo hg) (200 - i) i) → V w x 6 (ua (asM μ) 1 (suN i (μ.1 1))) 14 [(0, .ref (w_ad w 0)), (1, .int a), (2, .int lo), (3, .int hg), (4, .int (nI i))] [] := by
  intro m
  induction m with
  | zero =>
    intro i  hm hi
    exact absurd hm (by omega)
  | succ m ih =>
    intro i  hm hi hE
    have hs : (ua (asM μ) 1 (suN i (μ.1 1))).1 1 = suN i (μ.1 1) := ua_s _ _ _
    refine v_iload C dX5_firstOf_14 rfl rfl ?_
    refine v_sipush C dX5_firstOf_16 sp_200 rfl ?_
    refine v_icmp_ge C 49 22 dX5_firstOf_19 (by decide) rfl (fun h19 => ?_) (fun h19 => ?_)
    · have g : i = 200 := by have := (le_n (a := 200) (b := i) (by omega) (by omega)).mp h19; omega
      have hF : fsN (fun k => wiS (suN k (μ.1 1) j) lo hg) 200 0 = i := by rw [hE, g]; rfl
      refine v_aload_n C dX5_firstOf_49 rfl rfl ?_
      refine g_X5_d C hM.1 dX5_firstOf_50 fl_X5_7 rfl ?_
      refine v_iload_n C dX5_firstOf_53 rfl rfl ?_
      refine a_I C hM.2.1 (by decide) dX5_firstOf_54 (j) ha hj rfl ?_
      refine v_eqi (congrFun hs j) ?_
      refine v_i2l C dX5_firstOf_55 rfl ?_
      refine v_iload_n C dX5_firstOf_56 rfl rfl ?_
      refine v_i2l C dX5_firstOf_57 rfl ?_
      refine v_iload_n C dX5_firstOf_58 rfl rfl ?_
      refine v_i2l C dX5_firstOf_59 rfl ?_
      refine v_iS C dX5_firstOf_60 ms_X5_in c_X5_in rfl ml_X5_42 (rk_of rfl) rfl (Nat.le_of_ble_eq_true rfl) rfl (px_k ?_)
      refine v_eqi (in_w (a := _) (b := _) rfl rfl) ?_
      refine v_istore C dX5_firstOf_63 (by decide) rfl ?_
      refine v_aload_n C dX5_firstOf_65 rfl rfl ?_
      refine g_X5_aside C hM.1 dX5_firstOf_66 fl_X5_16 rfl ?_
      refine v_aload_n C dX5_firstOf_69 rfl rfl ?_
      refine g_X5_d C hM.1 dX5_firstOf_70 fl_X5_7 rfl ?_
      refine v_vS C dX5_firstOf_73 ms_X5_copies (c_X5_copies hM.2.2.2.1 hM.2.1 (by decide)) rfl ml_X5_152 (rk_of rfl) rfl (Nat.le_of_ble_eq_true rfl) rfl (pv_k ?_)
      rw [rst (fun j hj => suN_63 hI i hj)]
      refine v_iload C dX5_firstOf_76 rfl rfl ?_
      refine v_if_eq C 86 81 dX5_firstOf_78 (by decide) rfl (fun h78 => ?_) (fun h78 => ?_)
      · refine v_aload_n C dX5_firstOf_86 rfl rfl ?_
        refine v_iconst C dX5_firstOf_87 ic_3 rfl ?_
        refine v_iV C dX5_firstOf_88 mi_X5_finds (c_X5_finds hM (p := 3) (e := -1000004) (by decide) rfl (by decide)) rfl hM.1.1 hM.1.2 rfl ml_X5_108 (rk_of rfl) rfl (Nat.le_of_ble_eq_true rfl) rfl (px_k ?_)
        exact v_iret C hQ dX5_firstOf_91 (by first | exact ⟨by rw [hF, if_pos (show (fun k => wiS (suN k (μ.1 1) j) lo hg) i = 0 from h78)], by rw [hF, if_pos (show (fun k => wiS (suN k (μ.1 1) j) lo hg) i = 0 from h78)]⟩ | exact ⟨by rw [hF, if_neg (show ¬ (fun k => wiS (suN k (μ.1 1) j) lo hg) i = 0 from h78)], by rw [hF, if_neg (show ¬ (fun k => wiS (suN k (μ.1 1) j) lo hg) i = 0 from h78)]⟩)
      · refine v_iload C dX5_firstOf_81 rfl rfl ?_
        refine v_goto C 91 dX5_firstOf_83 (by decide) ?_
        exact v_iret C hQ dX5_firstOf_91 (by first | exact ⟨by rw [hF, if_pos (show (fun k => wiS (suN k (μ.1 1) j) lo hg) i = 0 from h78)], by rw [hF, if_pos (show (fun k => wiS (suN k (μ.1 1) j) lo hg) i = 0 from h78)]⟩ | exact ⟨by rw [hF, if_neg (show ¬ (fun k => wiS (suN k (μ.1 1) j) lo hg) i = 0 from h78)], by rw [hF, if_neg (show ¬ (fun k => wiS (suN k (μ.1 1) j) lo hg) i = 0 from h78)]⟩)
    · have g : i < 200 := by rcases Nat.lt_or_ge i (200) with q | q; exact q; exact absurd ((le_n (a := 200) (b := i) (by omega) (by omega)).mpr q) h19
      rw [show 200 - i = (199 - i) + 1 by omega] at hE
      refine v_aload_n C dX5_firstOf_22 rfl rfl ?_
      refine g_X5_d C hM.1 dX5_firstOf_23 fl_X5_7 rfl ?_
      refine v_iload_n C dX5_firstOf_26 rfl rfl ?_
      refine a_I C hM.2.1 (by decide) dX5_firstOf_27 (j) ha hj rfl ?_
      refine v_eqi (congrFun hs j) ?_
      refine v_i2l C dX5_firstOf_28 rfl ?_
      refine v_iload_n C dX5_firstOf_29 rfl rfl ?_
      refine v_i2l C dX5_firstOf_30 rfl ?_
      refine v_iload_n C dX5_firstOf_31 rfl rfl ?_
      refine v_i2l C dX5_firstOf_32 rfl ?_
      refine v_iS C dX5_firstOf_33 ms_X5_in c_X5_in rfl ml_X5_42 (rk_of rfl) rfl (Nat.le_of_ble_eq_true rfl) rfl (px_k ?_)
      refine v_eqi (in_w (a := _) (b := _) rfl rfl) ?_
      refine v_if_ne C 49 39 dX5_firstOf_36 (by decide) rfl (fun h36 => ?_) (fun h36 => ?_)
      · have hF : fsN (fun k => wiS (suN k (μ.1 1) j) lo hg) 200 0 = i := by rw [hE]; exact fsN_y (p := (fun k => wiS (suN k (μ.1 1) j) lo hg)) (i := i) h36
        refine v_aload_n C dX5_firstOf_49 rfl rfl ?_
        refine g_X5_d C hM.1 dX5_firstOf_50 fl_X5_7 rfl ?_
        refine v_iload_n C dX5_firstOf_53 rfl rfl ?_
        refine a_I C hM.2.1 (by decide) dX5_firstOf_54 (j) ha hj rfl ?_
        refine v_eqi (congrFun hs j) ?_
        refine v_i2l C dX5_firstOf_55 rfl ?_
        refine v_iload_n C dX5_firstOf_56 rfl rfl ?_
        refine v_i2l C dX5_firstOf_57 rfl ?_
        refine v_iload_n C dX5_firstOf_58 rfl rfl ?_
        refine v_i2l C dX5_firstOf_59 rfl ?_
        refine v_iS C dX5_firstOf_60 ms_X5_in c_X5_in rfl ml_X5_42 (rk_of rfl) rfl (Nat.le_of_ble_eq_true rfl) rfl (px_k ?_)
        refine v_eqi (in_w (a := _) (b := _) rfl rfl) ?_
        refine v_istore C dX5_firstOf_63 (by decide) rfl ?_
        refine v_aload_n C dX5_firstOf_65 rfl rfl ?_
        refine g_X5_aside C hM.1 dX5_firstOf_66 fl_X5_16 rfl ?_
        refine v_aload_n C dX5_firstOf_69 rfl rfl ?_
        refine g_X5_d C hM.1 dX5_firstOf_70 fl_X5_7 rfl ?_
        refine v_vS C dX5_firstOf_73 ms_X5_copies (c_X5_copies hM.2.2.2.1 hM.2.1 (by decide)) rfl ml_X5_152 (rk_of rfl) rfl (Nat.le_of_ble_eq_true rfl) rfl (pv_k ?_)
        rw [rst (fun j hj => suN_63 hI i hj)]
        refine v_iload C dX5_firstOf_76 rfl rfl ?_
        refine v_if_eq C 86 81 dX5_firstOf_78 (by decide) rfl (fun h78 => ?_) (fun h78 => ?_)
        · refine v_aload_n C dX5_firstOf_86 rfl rfl ?_
          refine v_iconst C dX5_firstOf_87 ic_3 rfl ?_
          refine v_iV C dX5_firstOf_88 mi_X5_finds (c_X5_finds hM (p := 3) (e := -1000004) (by decide) rfl (by decide)) rfl hM.1.1 hM.1.2 rfl ml_X5_108 (rk_of rfl) rfl (Nat.le_of_ble_eq_true rfl) rfl (px_k ?_)
          exact v_iret C hQ dX5_firstOf_91 (by first | exact ⟨by rw [hF, if_pos (show (fun k => wiS (suN k (μ.1 1) j) lo hg) i = 0 from h78)], by rw [hF, if_pos (show (fun k => wiS (suN k (μ.1 1) j) lo hg) i = 0 from h78)]⟩ | exact ⟨by rw [hF, if_neg (show ¬ (fun k => wiS (suN k (μ.1 1) j) lo hg) i = 0 from h78)], by rw [hF, if_neg (show ¬ (fun k => wiS (suN k (μ.1 1) j) lo hg) i = 0 from h78)]⟩)
        · refine v_iload C dX5_firstOf_81 rfl rfl ?_
          refine v_goto C 91 dX5_firstOf_83 (by decide) ?_
          exact v_iret C hQ dX5_firstOf_91 (by first | exact ⟨by rw [hF, if_pos (show (fun k => wiS (suN k (μ.1 1) j) lo hg) i = 0 from h78)], by rw [hF, if_pos (show (fun k => wiS (suN k (μ.1 1) j) lo hg) i = 0 from h78)]⟩ | exact ⟨by rw [hF, if_neg (show ¬ (fun k => wiS (suN k (μ.1 1) j) lo hg) i = 0 from h78)], by rw [hF, if_neg (show ¬ (fun k => wiS (suN k (μ.1 1) j) lo hg) i = 0 from h78)]⟩)
      · refine v_aload_n C dX5_firstOf_39 rfl rfl ?_
        refine v_vV C dX5_firstOf_40 mi_X5_sundayGoes (c_X5_sundayGoes hM (by rw [hs]; exact IvD_n hI i)) rfl hM.1.1 hM.1.2 rfl ml_X5_92 (rk_of rfl) rfl (Nat.le_of_ble_eq_true rfl) rfl (pv_k ?_)
        refine v_iincN C dX5_firstOf_43 rfl (by decide) rfl ?_
        refine v_goto C 14 dX5_firstOf_46 (by decide) ?_
        refine v_mem ?_ (V.norm (ih (i + 1) (by omega) (by omega) (by rw [hE, fsN_n (p := (fun k => wiS (suN k (μ.1 1) j) lo hg)) (i := i) h36, show 200 - (i + 1) = 199 - i by omega])) rfl)
        rw [hs, ua_ua]
        rfl
set_option maxRecDepth 100000 in
set_option maxHeartbeats 4000000 in
theorem c_X5_firstOf {l : Launch} {w : WC} {μ : Me} (hM : Md w) (hI : IvD (μ.1 1)) {a lo hg : Int32} {j : Nat} (hj : j < 63) (ha : a = nI j) : CtI l w yX5_firstOf cX5_firstOf 6 (some .int) (Rm 4 97) [.ref (w_ad w 0), .int a, .int lo, .int hg] μ (Px (if (fun k => wiS (suN k (μ.1 1) j) lo hg) (fsN (fun k => wiS (suN k (μ.1 1) j) lo hg) 200 0) = 0 then -1000004 else nI (fsN (fun k => wiS (suN k (μ.1 1) j) lo hg) 200 0)) (if (fun k => wiS (suN k (μ.1 1) j) lo hg) (fsN (fun k => wiS (suN k (μ.1 1) j) lo hg) 200 0) = 0 then fnS (asM μ) 3 else asM μ)) := by
  refine Ct.mk (own := RX5) rfl (by decide) (Nat.le_of_ble_eq_true rfl) (fun x hxl C hQ => ?_)
  subst hxl
  refine v_aload_n C dX5_firstOf_0 rfl rfl ?_
  refine g_X5_d C hM.1 dX5_firstOf_1 fl_X5_7 rfl ?_
  refine v_aload_n C dX5_firstOf_4 rfl rfl ?_
  refine g_X5_aside C hM.1 dX5_firstOf_5 fl_X5_16 rfl ?_
  refine v_vS C dX5_firstOf_8 ms_X5_copies (c_X5_copies hM.2.1 hM.2.2.2.1 (by decide)) rfl ml_X5_152 (rk_of rfl) rfl (Nat.le_of_ble_eq_true rfl) rfl (pv_k ?_)
  refine v_iconst C dX5_firstOf_11 ic_0 rfl ?_
  refine v_istore C dX5_firstOf_12 (by decide) rfl ?_
  refine v_mem (asM_self μ) (V.norm (lp_X5_firstOf_14 hM hI hj ha C hQ 201 0 (by omega) (by omega) rfl) rfl)

set_option maxRecDepth 100000 in
set_option maxHeartbeats 4000000 in
theorem c_X5_glad {l : Launch} {w : WC} {μ : Me} (hM : Md w) (hI : IvD (μ.1 1)) {r v : Int32} : CtI l w yX5_glad cX5_glad 3 (some .int) (Rm 5 122) [.ref (w_ad w 0), .int r, .int v] μ (Px (if wiS r 0 ((μ.1 1) 0 - 1) = 0 ∨ wiS v 0 99 = 0 then -1000001 else (if (fun k => wiS (suN k (μ.1 1) (21 + cl r)) v 99) (fsN (fun k => wiS (suN k (μ.1 1) (21 + cl r)) v 99) 200 0) = 0 then -1000004 else nI (fsN (fun k => wiS (suN k (μ.1 1) (21 + cl r)) v 99) 200 0))) (if wiS r 0 ((μ.1 1) 0 - 1) = 0 ∨ wiS v 0 99 = 0 then fnS μ 0 else (if (fun k => wiS (suN k (μ.1 1) (21 + cl r)) v 99) (fsN (fun k => wiS (suN k (μ.1 1) (21 + cl r)) v 99) 200 0) = 0 then fnS (asM μ) 3 else asM μ))) := by
  refine Ct.mk (own := RX5) rfl (by decide) (Nat.le_of_ble_eq_true rfl) (fun x hxl C hQ => ?_)
  subst hxl
  have hn := hI.n.1
  have h0 := hI.n.2
  refine v_aload_n C dX5_glad_0 rfl rfl ?_
  refine v_iload_n C dX5_glad_1 rfl rfl ?_
  refine v_iV C dX5_glad_2 mi_X5_isResident (c_X5_isResident hM) rfl hM.1.1 hM.1.2 rfl ml_X5_125 (rk_of rfl) rfl (Nat.le_of_ble_eq_true rfl) rfl (px_k ?_)
  refine v_if_eq C 34 8 dX5_glad_5 (by decide) rfl (fun h5 => ?_) (fun h5 => ?_)
  · refine v_aload_n C dX5_glad_34 rfl rfl ?_
    refine v_iconst C dX5_glad_35 ic_0 rfl ?_
    refine v_iV C dX5_glad_36 mi_X5_finds (c_X5_finds hM (p := 0) (e := -1000001) (by decide) rfl (by decide)) rfl hM.1.1 hM.1.2 rfl ml_X5_108 (rk_of rfl) rfl (Nat.le_of_ble_eq_true rfl) rfl (px_k ?_)
    exact v_iret C hQ dX5_glad_39 (by first | exact ⟨(if_pos (Or.inl h5)).symm, (if_pos (Or.inl h5)).symm⟩ | exact ⟨(if_pos (Or.inr h17)).symm, (if_pos (Or.inr h17)).symm⟩ | exact ⟨(if_neg (fun h => h.elim h5 h17)).symm, (if_neg (fun h => h.elim h5 h17)).symm⟩)
  · have q := has_i hn h0 h5
    refine v_iload_n C dX5_glad_8 rfl rfl ?_
    refine v_i2l C dX5_glad_9 rfl ?_
    refine v_lconst (v := 0) C dX5_glad_10 rfl rfl ?_
    refine v_ldc2 C dX5_glad_11 cn_X5_128 rfl ?_
    refine v_iS C dX5_glad_14 ms_X5_in c_X5_in rfl ml_X5_42 (rk_of rfl) rfl (Nat.le_of_ble_eq_true rfl) rfl (px_k ?_)
    refine v_eqi (in_w (a := (0)) (b := (99)) (by decide) (by decide)) ?_
    refine v_if_eq C 34 20 dX5_glad_17 (by decide) rfl (fun h17 => ?_) (fun h17 => ?_)
    · refine v_aload_n C dX5_glad_34 rfl rfl ?_
      refine v_iconst C dX5_glad_35 ic_0 rfl ?_
      refine v_iV C dX5_glad_36 mi_X5_finds (c_X5_finds hM (p := 0) (e := -1000001) (by decide) rfl (by decide)) rfl hM.1.1 hM.1.2 rfl ml_X5_108 (rk_of rfl) rfl (Nat.le_of_ble_eq_true rfl) rfl (px_k ?_)
      exact v_iret C hQ dX5_glad_39 (by first | exact ⟨(if_pos (Or.inl h5)).symm, (if_pos (Or.inl h5)).symm⟩ | exact ⟨(if_pos (Or.inr h17)).symm, (if_pos (Or.inr h17)).symm⟩ | exact ⟨(if_neg (fun h => h.elim h5 h17)).symm, (if_neg (fun h => h.elim h5 h17)).symm⟩)
    · refine v_aload_n C dX5_glad_20 rfl rfl ?_
      refine v_bipush C dX5_glad_21 bp_21 rfl ?_
      refine v_iload_n C dX5_glad_23 rfl rfl ?_
      refine v_iadd C dX5_glad_24 rfl ?_
      refine v_iload_n C dX5_glad_25 rfl rfl ?_
      refine v_bipush C dX5_glad_26 bp_99 rfl ?_
      refine v_iV C dX5_glad_28 mi_X5_firstOf (c_X5_firstOf hM hI (j := 21 + cl r) (by omega) (by rw [q.1, cl_n (by omega)]; exact nI_add 21 (cl r))) rfl hM.1.1 hM.1.2 rfl ml_X5_161 (rk_of rfl) rfl (Nat.le_of_ble_eq_true rfl) rfl (px_k ?_)
      refine v_goto C 39 dX5_glad_31 (by decide) ?_
      exact v_iret C hQ dX5_glad_39 (by first | exact ⟨(if_pos (Or.inl h5)).symm, (if_pos (Or.inl h5)).symm⟩ | exact ⟨(if_pos (Or.inr h17)).symm, (if_pos (Or.inr h17)).symm⟩ | exact ⟨(if_neg (fun h => h.elim h5 h17)).symm, (if_neg (fun h => h.elim h5 h17)).symm⟩)

set_option maxRecDepth 100000 in
set_option maxHeartbeats 4000000 in
theorem c_X5_sad {l : Launch} {w : WC} {μ : Me} (hM : Md w) (hI : IvD (μ.1 1)) {r v : Int32} : CtI l w yX5_sad cX5_sad 3 (some .int) (Rm 5 122) [.ref (w_ad w 0), .int r, .int v] μ (Px (if wiS r 0 ((μ.1 1) 0 - 1) = 0 ∨ wiS v 0 99 = 0 then -1000001 else (if (fun k => wiS (suN k (μ.1 1) (21 + cl r)) 0 v) (fsN (fun k => wiS (suN k (μ.1 1) (21 + cl r)) 0 v) 200 0) = 0 then -1000004 else nI (fsN (fun k => wiS (suN k (μ.1 1) (21 + cl r)) 0 v) 200 0))) (if wiS r 0 ((μ.1 1) 0 - 1) = 0 ∨ wiS v 0 99 = 0 then fnS μ 0 else (if (fun k => wiS (suN k (μ.1 1) (21 + cl r)) 0 v) (fsN (fun k => wiS (suN k (μ.1 1) (21 + cl r)) 0 v) 200 0) = 0 then fnS (asM μ) 3 else asM μ))) := by
  refine Ct.mk (own := RX5) rfl (by decide) (Nat.le_of_ble_eq_true rfl) (fun x hxl C hQ => ?_)
  subst hxl
  have hn := hI.n.1
  have h0 := hI.n.2
  refine v_aload_n C dX5_sad_0 rfl rfl ?_
  refine v_iload_n C dX5_sad_1 rfl rfl ?_
  refine v_iV C dX5_sad_2 mi_X5_isResident (c_X5_isResident hM) rfl hM.1.1 hM.1.2 rfl ml_X5_125 (rk_of rfl) rfl (Nat.le_of_ble_eq_true rfl) rfl (px_k ?_)
  refine v_if_eq C 33 8 dX5_sad_5 (by decide) rfl (fun h5 => ?_) (fun h5 => ?_)
  · refine v_aload_n C dX5_sad_33 rfl rfl ?_
    refine v_iconst C dX5_sad_34 ic_0 rfl ?_
    refine v_iV C dX5_sad_35 mi_X5_finds (c_X5_finds hM (p := 0) (e := -1000001) (by decide) rfl (by decide)) rfl hM.1.1 hM.1.2 rfl ml_X5_108 (rk_of rfl) rfl (Nat.le_of_ble_eq_true rfl) rfl (px_k ?_)
    exact v_iret C hQ dX5_sad_38 (by first | exact ⟨(if_pos (Or.inl h5)).symm, (if_pos (Or.inl h5)).symm⟩ | exact ⟨(if_pos (Or.inr h17)).symm, (if_pos (Or.inr h17)).symm⟩ | exact ⟨(if_neg (fun h => h.elim h5 h17)).symm, (if_neg (fun h => h.elim h5 h17)).symm⟩)
  · have q := has_i hn h0 h5
    refine v_iload_n C dX5_sad_8 rfl rfl ?_
    refine v_i2l C dX5_sad_9 rfl ?_
    refine v_lconst (v := 0) C dX5_sad_10 rfl rfl ?_
    refine v_ldc2 C dX5_sad_11 cn_X5_128 rfl ?_
    refine v_iS C dX5_sad_14 ms_X5_in c_X5_in rfl ml_X5_42 (rk_of rfl) rfl (Nat.le_of_ble_eq_true rfl) rfl (px_k ?_)
    refine v_eqi (in_w (a := (0)) (b := (99)) (by decide) (by decide)) ?_
    refine v_if_eq C 33 20 dX5_sad_17 (by decide) rfl (fun h17 => ?_) (fun h17 => ?_)
    · refine v_aload_n C dX5_sad_33 rfl rfl ?_
      refine v_iconst C dX5_sad_34 ic_0 rfl ?_
      refine v_iV C dX5_sad_35 mi_X5_finds (c_X5_finds hM (p := 0) (e := -1000001) (by decide) rfl (by decide)) rfl hM.1.1 hM.1.2 rfl ml_X5_108 (rk_of rfl) rfl (Nat.le_of_ble_eq_true rfl) rfl (px_k ?_)
      exact v_iret C hQ dX5_sad_38 (by first | exact ⟨(if_pos (Or.inl h5)).symm, (if_pos (Or.inl h5)).symm⟩ | exact ⟨(if_pos (Or.inr h17)).symm, (if_pos (Or.inr h17)).symm⟩ | exact ⟨(if_neg (fun h => h.elim h5 h17)).symm, (if_neg (fun h => h.elim h5 h17)).symm⟩)
    · refine v_aload_n C dX5_sad_20 rfl rfl ?_
      refine v_bipush C dX5_sad_21 bp_21 rfl ?_
      refine v_iload_n C dX5_sad_23 rfl rfl ?_
      refine v_iadd C dX5_sad_24 rfl ?_
      refine v_iconst C dX5_sad_25 ic_0 rfl ?_
      refine v_iload_n C dX5_sad_26 rfl rfl ?_
      refine v_iV C dX5_sad_27 mi_X5_firstOf (c_X5_firstOf hM hI (j := 21 + cl r) (by omega) (by rw [q.1, cl_n (by omega)]; exact nI_add 21 (cl r))) rfl hM.1.1 hM.1.2 rfl ml_X5_161 (rk_of rfl) rfl (Nat.le_of_ble_eq_true rfl) rfl (px_k ?_)
      refine v_goto C 38 dX5_sad_30 (by decide) ?_
      exact v_iret C hQ dX5_sad_38 (by first | exact ⟨(if_pos (Or.inl h5)).symm, (if_pos (Or.inl h5)).symm⟩ | exact ⟨(if_pos (Or.inr h17)).symm, (if_pos (Or.inr h17)).symm⟩ | exact ⟨(if_neg (fun h => h.elim h5 h17)).symm, (if_neg (fun h => h.elim h5 h17)).symm⟩)

set_option maxRecDepth 100000 in
set_option maxHeartbeats 4000000 in
theorem c_X5_when {l : Launch} {w : WC} {μ : Me} (hM : Md w) (hI : IvD (μ.1 1)) {r v : Int32} : CtI l w yX5_when cX5_when 3 (some .int) (Rm 5 122) [.ref (w_ad w 0), .int r, .int v] μ (Px (if wiS r 0 ((μ.1 1) 0 - 1) = 0 ∨ wiS v 0 9999 = 0 then -1000001 else (if (fun k => wiS (suN k (μ.1 1) (45 + cl r)) v 9999) (fsN (fun k => wiS (suN k (μ.1 1) (45 + cl r)) v 9999) 200 0) = 0 then -1000004 else nI (fsN (fun k => wiS (suN k (μ.1 1) (45 + cl r)) v 9999) 200 0))) (if wiS r 0 ((μ.1 1) 0 - 1) = 0 ∨ wiS v 0 9999 = 0 then fnS μ 0 else (if (fun k => wiS (suN k (μ.1 1) (45 + cl r)) v 9999) (fsN (fun k => wiS (suN k (μ.1 1) (45 + cl r)) v 9999) 200 0) = 0 then fnS (asM μ) 3 else asM μ))) := by
  refine Ct.mk (own := RX5) rfl (by decide) (Nat.le_of_ble_eq_true rfl) (fun x hxl C hQ => ?_)
  subst hxl
  have hn := hI.n.1
  have h0 := hI.n.2
  refine v_aload_n C dX5_when_0 rfl rfl ?_
  refine v_iload_n C dX5_when_1 rfl rfl ?_
  refine v_iV C dX5_when_2 mi_X5_isResident (c_X5_isResident hM) rfl hM.1.1 hM.1.2 rfl ml_X5_125 (rk_of rfl) rfl (Nat.le_of_ble_eq_true rfl) rfl (px_k ?_)
  refine v_if_eq C 35 8 dX5_when_5 (by decide) rfl (fun h5 => ?_) (fun h5 => ?_)
  · refine v_aload_n C dX5_when_35 rfl rfl ?_
    refine v_iconst C dX5_when_36 ic_0 rfl ?_
    refine v_iV C dX5_when_37 mi_X5_finds (c_X5_finds hM (p := 0) (e := -1000001) (by decide) rfl (by decide)) rfl hM.1.1 hM.1.2 rfl ml_X5_108 (rk_of rfl) rfl (Nat.le_of_ble_eq_true rfl) rfl (px_k ?_)
    exact v_iret C hQ dX5_when_40 (by first | exact ⟨(if_pos (Or.inl h5)).symm, (if_pos (Or.inl h5)).symm⟩ | exact ⟨(if_pos (Or.inr h17)).symm, (if_pos (Or.inr h17)).symm⟩ | exact ⟨(if_neg (fun h => h.elim h5 h17)).symm, (if_neg (fun h => h.elim h5 h17)).symm⟩)
  · have q := has_i hn h0 h5
    refine v_iload_n C dX5_when_8 rfl rfl ?_
    refine v_i2l C dX5_when_9 rfl ?_
    refine v_lconst (v := 0) C dX5_when_10 rfl rfl ?_
    refine v_ldc2 C dX5_when_11 cn_X5_132 rfl ?_
    refine v_iS C dX5_when_14 ms_X5_in c_X5_in rfl ml_X5_42 (rk_of rfl) rfl (Nat.le_of_ble_eq_true rfl) rfl (px_k ?_)
    refine v_eqi (in_w (a := (0)) (b := (9999)) (by decide) (by decide)) ?_
    refine v_if_eq C 35 20 dX5_when_17 (by decide) rfl (fun h17 => ?_) (fun h17 => ?_)
    · refine v_aload_n C dX5_when_35 rfl rfl ?_
      refine v_iconst C dX5_when_36 ic_0 rfl ?_
      refine v_iV C dX5_when_37 mi_X5_finds (c_X5_finds hM (p := 0) (e := -1000001) (by decide) rfl (by decide)) rfl hM.1.1 hM.1.2 rfl ml_X5_108 (rk_of rfl) rfl (Nat.le_of_ble_eq_true rfl) rfl (px_k ?_)
      exact v_iret C hQ dX5_when_40 (by first | exact ⟨(if_pos (Or.inl h5)).symm, (if_pos (Or.inl h5)).symm⟩ | exact ⟨(if_pos (Or.inr h17)).symm, (if_pos (Or.inr h17)).symm⟩ | exact ⟨(if_neg (fun h => h.elim h5 h17)).symm, (if_neg (fun h => h.elim h5 h17)).symm⟩)
    · refine v_aload_n C dX5_when_20 rfl rfl ?_
      refine v_bipush C dX5_when_21 bp_45 rfl ?_
      refine v_iload_n C dX5_when_23 rfl rfl ?_
      refine v_iadd C dX5_when_24 rfl ?_
      refine v_iload_n C dX5_when_25 rfl rfl ?_
      refine v_sipush C dX5_when_26 sp_9999 rfl ?_
      refine v_iV C dX5_when_29 mi_X5_firstOf (c_X5_firstOf hM hI (j := 45 + cl r) (by omega) (by rw [q.1, cl_n (by omega)]; exact nI_add 45 (cl r))) rfl hM.1.1 hM.1.2 rfl ml_X5_161 (rk_of rfl) rfl (Nat.le_of_ble_eq_true rfl) rfl (px_k ?_)
      refine v_goto C 40 dX5_when_32 (by decide) ?_
      exact v_iret C hQ dX5_when_40 (by first | exact ⟨(if_pos (Or.inl h5)).symm, (if_pos (Or.inl h5)).symm⟩ | exact ⟨(if_pos (Or.inr h17)).symm, (if_pos (Or.inr h17)).symm⟩ | exact ⟨(if_neg (fun h => h.elim h5 h17)).symm, (if_neg (fun h => h.elim h5 h17)).symm⟩)

set_option maxRecDepth 100000 in
set_option maxHeartbeats 4000000 in
theorem c_X5_areAll {l : Launch} {w : WC} {μ : Me} (hM : Md w) {n : Nat} (hn : n ≤ 8) (h0 : μ.1 1 0 = nI n) : CtI l w yX5_areAll cX5_areAll 1 (some .boolean) (Rm 2 44) [.ref (w_ad w 0)] μ (Px (if weL (fun r => (μ.1 1) (21 + r)) n = 1 <<< ((μ.1 1) 0 &&& 31) - 1 then 1 else 0) μ) := by
  refine Ct.mk (own := RX5) rfl (by decide) (Nat.le_of_ble_eq_true rfl) (fun x hxl C hQ => ?_)
  subst hxl
  refine v_aload_n C dX5_areAll_0 rfl rfl ?_
  refine v_iV C dX5_areAll_1 mi_X5_wells (c_X5_wells hM hn h0) rfl hM.1.1 hM.1.2 rfl ml_X5_149 (rk_of rfl) rfl (Nat.le_of_ble_eq_true rfl) rfl (px_k ?_)
  refine v_iconst C dX5_areAll_4 ic_1 rfl ?_
  refine v_aload_n C dX5_areAll_5 rfl rfl ?_
  refine g_X5_d C hM.1 dX5_areAll_6 fl_X5_7 rfl ?_
  refine v_iconst C dX5_areAll_9 ic_0 rfl ?_
  refine a_I C hM.2.1 (by decide) dX5_areAll_10 (0) rfl (by decide) rfl ?_
  refine v_ishl C dX5_areAll_11 rfl ?_
  refine v_iconst C dX5_areAll_12 ic_1 rfl ?_
  refine v_isub C dX5_areAll_13 rfl ?_
  refine v_icmp_ne C 21 17 dX5_areAll_14 (by decide) rfl (fun h14 => ?_) (fun h14 => ?_)
  · refine v_iconst C dX5_areAll_21 ic_0 rfl ?_
    exact v_zret C hQ dX5_areAll_22 rfl ⟨by first | (rw [if_pos h14]; done) | (rw [if_neg h14]; done), rfl⟩
  · refine v_iconst C dX5_areAll_17 ic_1 rfl ?_
    refine v_goto C 22 dX5_areAll_18 (by decide) ?_
    exact v_zret C hQ dX5_areAll_22 rfl ⟨by first | (rw [if_pos h14]; done) | (rw [if_neg h14]; done), rfl⟩

set_option maxRecDepth 100000 in
set_option maxHeartbeats 4000000 in
theorem lp_X5_well_13 {w : WC} {x : Cy} {μ : Me} (hM : Md w) (hI : IvD (μ.1 1))  (C : Cx w x cX5_well 3 RX5 (some .int) (Rm 4 97)) (hQ : y_Q x = MQ (y_b x) (QI w (Px (if (fun k => if weL (fun r => suN k (μ.1 1) (21 + r)) (dn (μ.1 1)) = 1 <<< ((μ.1 1) 0 &&& 31) - 1 then (1 : Int32) else 0) (fsN (fun k => if weL (fun r => suN k (μ.1 1) (21 + r)) (dn (μ.1 1)) = 1 <<< ((μ.1 1) 0 &&& 31) - 1 then (1 : Int32) else 0) 200 0) = 0 then -1000004 else nI (fsN (fun k => if weL (fun r => suN k (μ.1 1) (21 + r)) (dn (μ.1 1)) = 1 <<< ((μ.1 1) 0 &&& 31) - 1 then (1 : Int32) else 0) 200 0)) (if (fun k => if weL (fun r => suN k (μ.1 1) (21 + r)) (dn (μ.1 1)) = 1 <<< ((μ.1 1) 0 &&& 31) - 1 then (1 : Int32) else 0) (fsN (fun k => if weL (fun r => suN k (μ.1 1) (21 + r)) (dn (μ.1 1)) = 1 <<< ((μ.1 1) 0 &&& 31) - 1 then (1 : Int32) else 0) 200 0) = 0 then fnS (asM μ) 3 else asM μ))) (y_a x) (y_s x) 0 0 (AA w)) : ∀ (m i : Nat), 200 + 1 ≤ i + m → i ≤ 200 → (fsN (fun k => if weL (fun r => suN k (μ.1 1) (21 + r)) (dn (μ.1 1)) = 1 <<< ((μ.1 1) 0 &&& 31) - 1 then (1 : Int32) else 0) 200 0 = fsN (fun k => if weL (fun r => suN k (μ.1 1) (21 + r)) (dn (μ.1 1)) = 1 <<< ((μ.1 1) 0 &&& 31) - 1 then (1 : Int32) else 0) (200 - i) i) → V w x 3 (ua (asM μ) 1 (suN i (μ.1 1))) 13 [(0, .ref (w_ad w 0)), (1, .int (nI i))] [] := by
  intro m
  induction m with
  | zero =>
    intro i  hm hi
    exact absurd hm (by omega)
  | succ m ih =>
    intro i  hm hi hE
    have hn := hI.n.1
    have hs : (ua (asM μ) 1 (suN i (μ.1 1))).1 1 = suN i (μ.1 1) := ua_s _ _ _
    have hz : (ua (asM μ) 1 (suN i (μ.1 1))).1 1 0 = nI (dn (μ.1 1)) := by rw [hs, suN_o hI (by decide) (Or.inl (by decide))]; exact hI.n.2
    have hz2 : suN i (μ.1 1) 0 = (μ.1 1) 0 := suN_o hI (by decide) (Or.inl (by decide)) i
    refine v_iload_n C dX5_well_13 rfl rfl ?_
    refine v_sipush C dX5_well_14 sp_200 rfl ?_
    refine v_icmp_ge C 37 20 dX5_well_17 (by decide) rfl (fun h17 => ?_) (fun h17 => ?_)
    · have g : i = 200 := by have := (le_n (a := 200) (b := i) (by omega) (by omega)).mp h17; omega
      have hF : fsN (fun k => if weL (fun r => suN k (μ.1 1) (21 + r)) (dn (μ.1 1)) = 1 <<< ((μ.1 1) 0 &&& 31) - 1 then (1 : Int32) else 0) 200 0 = i := by rw [hE, g]; rfl
      refine v_aload_n C dX5_well_37 rfl rfl ?_
      refine v_iV C dX5_well_38 mi_X5_areAll (c_X5_areAll hM hn hz) rfl hM.1.1 hM.1.2 rfl ml_X5_164 (rk_of rfl) rfl (Nat.le_of_ble_eq_true rfl) rfl (px_k ?_)
      rw [hs, hz2]
      refine v_istore_n C dX5_well_41 (by decide) rfl ?_
      refine v_aload_n C dX5_well_42 rfl rfl ?_
      refine g_X5_aside C hM.1 dX5_well_43 fl_X5_16 rfl ?_
      refine v_aload_n C dX5_well_46 rfl rfl ?_
      refine g_X5_d C hM.1 dX5_well_47 fl_X5_7 rfl ?_
      refine v_vS C dX5_well_50 ms_X5_copies (c_X5_copies hM.2.2.2.1 hM.2.1 (by decide)) rfl ml_X5_152 (rk_of rfl) rfl (Nat.le_of_ble_eq_true rfl) rfl (pv_k ?_)
      rw [rst (fun j hj => suN_63 hI i hj)]
      refine v_iload_n C dX5_well_53 rfl rfl ?_
      refine v_if_eq C 61 57 dX5_well_54 (by decide) rfl (fun h54 => ?_) (fun h54 => ?_)
      · refine v_aload_n C dX5_well_61 rfl rfl ?_
        refine v_iconst C dX5_well_62 ic_3 rfl ?_
        refine v_iV C dX5_well_63 mi_X5_finds (c_X5_finds hM (p := 3) (e := -1000004) (by decide) rfl (by decide)) rfl hM.1.1 hM.1.2 rfl ml_X5_108 (rk_of rfl) rfl (Nat.le_of_ble_eq_true rfl) rfl (px_k ?_)
        exact v_iret C hQ dX5_well_66 (by first | exact ⟨by rw [hF, if_pos (show (fun k => if weL (fun r => suN k (μ.1 1) (21 + r)) (dn (μ.1 1)) = 1 <<< ((μ.1 1) 0 &&& 31) - 1 then (1 : Int32) else 0) i = 0 from h54)], by rw [hF, if_pos (show (fun k => if weL (fun r => suN k (μ.1 1) (21 + r)) (dn (μ.1 1)) = 1 <<< ((μ.1 1) 0 &&& 31) - 1 then (1 : Int32) else 0) i = 0 from h54)]⟩ | exact ⟨by rw [hF, if_neg (show ¬ (fun k => if weL (fun r => suN k (μ.1 1) (21 + r)) (dn (μ.1 1)) = 1 <<< ((μ.1 1) 0 &&& 31) - 1 then (1 : Int32) else 0) i = 0 from h54)], by rw [hF, if_neg (show ¬ (fun k => if weL (fun r => suN k (μ.1 1) (21 + r)) (dn (μ.1 1)) = 1 <<< ((μ.1 1) 0 &&& 31) - 1 then (1 : Int32) else 0) i = 0 from h54)]⟩)
      · refine v_iload_n C dX5_well_57 rfl rfl ?_
        refine v_goto C 66 dX5_well_58 (by decide) ?_
        exact v_iret C hQ dX5_well_66 (by first | exact ⟨by rw [hF, if_pos (show (fun k => if weL (fun r => suN k (μ.1 1) (21 + r)) (dn (μ.1 1)) = 1 <<< ((μ.1 1) 0 &&& 31) - 1 then (1 : Int32) else 0) i = 0 from h54)], by rw [hF, if_pos (show (fun k => if weL (fun r => suN k (μ.1 1) (21 + r)) (dn (μ.1 1)) = 1 <<< ((μ.1 1) 0 &&& 31) - 1 then (1 : Int32) else 0) i = 0 from h54)]⟩ | exact ⟨by rw [hF, if_neg (show ¬ (fun k => if weL (fun r => suN k (μ.1 1) (21 + r)) (dn (μ.1 1)) = 1 <<< ((μ.1 1) 0 &&& 31) - 1 then (1 : Int32) else 0) i = 0 from h54)], by rw [hF, if_neg (show ¬ (fun k => if weL (fun r => suN k (μ.1 1) (21 + r)) (dn (μ.1 1)) = 1 <<< ((μ.1 1) 0 &&& 31) - 1 then (1 : Int32) else 0) i = 0 from h54)]⟩)
    · have g : i < 200 := by rcases Nat.lt_or_ge i (200) with q | q; exact q; exact absurd ((le_n (a := 200) (b := i) (by omega) (by omega)).mpr q) h17
      rw [show 200 - i = (199 - i) + 1 by omega] at hE
      refine v_aload_n C dX5_well_20 rfl rfl ?_
      refine v_iV C dX5_well_21 mi_X5_areAll (c_X5_areAll hM hn hz) rfl hM.1.1 hM.1.2 rfl ml_X5_164 (rk_of rfl) rfl (Nat.le_of_ble_eq_true rfl) rfl (px_k ?_)
      rw [hs, hz2]
      refine v_if_ne C 37 27 dX5_well_24 (by decide) rfl (fun h24 => ?_) (fun h24 => ?_)
      · have hF : fsN (fun k => if weL (fun r => suN k (μ.1 1) (21 + r)) (dn (μ.1 1)) = 1 <<< ((μ.1 1) 0 &&& 31) - 1 then (1 : Int32) else 0) 200 0 = i := by rw [hE]; exact fsN_y (p := (fun k => if weL (fun r => suN k (μ.1 1) (21 + r)) (dn (μ.1 1)) = 1 <<< ((μ.1 1) 0 &&& 31) - 1 then (1 : Int32) else 0)) (i := i) h24
        refine v_aload_n C dX5_well_37 rfl rfl ?_
        refine v_iV C dX5_well_38 mi_X5_areAll (c_X5_areAll hM hn hz) rfl hM.1.1 hM.1.2 rfl ml_X5_164 (rk_of rfl) rfl (Nat.le_of_ble_eq_true rfl) rfl (px_k ?_)
        rw [hs, hz2]
        refine v_istore_n C dX5_well_41 (by decide) rfl ?_
        refine v_aload_n C dX5_well_42 rfl rfl ?_
        refine g_X5_aside C hM.1 dX5_well_43 fl_X5_16 rfl ?_
        refine v_aload_n C dX5_well_46 rfl rfl ?_
        refine g_X5_d C hM.1 dX5_well_47 fl_X5_7 rfl ?_
        refine v_vS C dX5_well_50 ms_X5_copies (c_X5_copies hM.2.2.2.1 hM.2.1 (by decide)) rfl ml_X5_152 (rk_of rfl) rfl (Nat.le_of_ble_eq_true rfl) rfl (pv_k ?_)
        rw [rst (fun j hj => suN_63 hI i hj)]
        refine v_iload_n C dX5_well_53 rfl rfl ?_
        refine v_if_eq C 61 57 dX5_well_54 (by decide) rfl (fun h54 => ?_) (fun h54 => ?_)
        · refine v_aload_n C dX5_well_61 rfl rfl ?_
          refine v_iconst C dX5_well_62 ic_3 rfl ?_
          refine v_iV C dX5_well_63 mi_X5_finds (c_X5_finds hM (p := 3) (e := -1000004) (by decide) rfl (by decide)) rfl hM.1.1 hM.1.2 rfl ml_X5_108 (rk_of rfl) rfl (Nat.le_of_ble_eq_true rfl) rfl (px_k ?_)
          exact v_iret C hQ dX5_well_66 (by first | exact ⟨by rw [hF, if_pos (show (fun k => if weL (fun r => suN k (μ.1 1) (21 + r)) (dn (μ.1 1)) = 1 <<< ((μ.1 1) 0 &&& 31) - 1 then (1 : Int32) else 0) i = 0 from h54)], by rw [hF, if_pos (show (fun k => if weL (fun r => suN k (μ.1 1) (21 + r)) (dn (μ.1 1)) = 1 <<< ((μ.1 1) 0 &&& 31) - 1 then (1 : Int32) else 0) i = 0 from h54)]⟩ | exact ⟨by rw [hF, if_neg (show ¬ (fun k => if weL (fun r => suN k (μ.1 1) (21 + r)) (dn (μ.1 1)) = 1 <<< ((μ.1 1) 0 &&& 31) - 1 then (1 : Int32) else 0) i = 0 from h54)], by rw [hF, if_neg (show ¬ (fun k => if weL (fun r => suN k (μ.1 1) (21 + r)) (dn (μ.1 1)) = 1 <<< ((μ.1 1) 0 &&& 31) - 1 then (1 : Int32) else 0) i = 0 from h54)]⟩)
        · refine v_iload_n C dX5_well_57 rfl rfl ?_
          refine v_goto C 66 dX5_well_58 (by decide) ?_
          exact v_iret C hQ dX5_well_66 (by first | exact ⟨by rw [hF, if_pos (show (fun k => if weL (fun r => suN k (μ.1 1) (21 + r)) (dn (μ.1 1)) = 1 <<< ((μ.1 1) 0 &&& 31) - 1 then (1 : Int32) else 0) i = 0 from h54)], by rw [hF, if_pos (show (fun k => if weL (fun r => suN k (μ.1 1) (21 + r)) (dn (μ.1 1)) = 1 <<< ((μ.1 1) 0 &&& 31) - 1 then (1 : Int32) else 0) i = 0 from h54)]⟩ | exact ⟨by rw [hF, if_neg (show ¬ (fun k => if weL (fun r => suN k (μ.1 1) (21 + r)) (dn (μ.1 1)) = 1 <<< ((μ.1 1) 0 &&& 31) - 1 then (1 : Int32) else 0) i = 0 from h54)], by rw [hF, if_neg (show ¬ (fun k => if weL (fun r => suN k (μ.1 1) (21 + r)) (dn (μ.1 1)) = 1 <<< ((μ.1 1) 0 &&& 31) - 1 then (1 : Int32) else 0) i = 0 from h54)]⟩)
      · refine v_aload_n C dX5_well_27 rfl rfl ?_
        refine v_vV C dX5_well_28 mi_X5_sundayGoes (c_X5_sundayGoes hM (by rw [hs]; exact IvD_n hI i)) rfl hM.1.1 hM.1.2 rfl ml_X5_92 (rk_of rfl) rfl (Nat.le_of_ble_eq_true rfl) rfl (pv_k ?_)
        refine v_iincN C dX5_well_31 rfl (by decide) rfl ?_
        refine v_goto C 13 dX5_well_34 (by decide) ?_
        refine v_mem ?_ (V.norm (ih (i + 1) (by omega) (by omega) (by rw [hE, fsN_n (p := (fun k => if weL (fun r => suN k (μ.1 1) (21 + r)) (dn (μ.1 1)) = 1 <<< ((μ.1 1) 0 &&& 31) - 1 then (1 : Int32) else 0)) (i := i) h24, show 200 - (i + 1) = 199 - i by omega])) rfl)
        rw [hs, ua_ua]
        rfl
set_option maxRecDepth 100000 in
set_option maxHeartbeats 4000000 in
theorem c_X5_well {l : Launch} {w : WC} {μ : Me} (hM : Md w) (hI : IvD (μ.1 1)) : CtI l w yX5_well cX5_well 3 (some .int) (Rm 4 97) [.ref (w_ad w 0)] μ (Px (if (fun k => if weL (fun r => suN k (μ.1 1) (21 + r)) (dn (μ.1 1)) = 1 <<< ((μ.1 1) 0 &&& 31) - 1 then (1 : Int32) else 0) (fsN (fun k => if weL (fun r => suN k (μ.1 1) (21 + r)) (dn (μ.1 1)) = 1 <<< ((μ.1 1) 0 &&& 31) - 1 then (1 : Int32) else 0) 200 0) = 0 then -1000004 else nI (fsN (fun k => if weL (fun r => suN k (μ.1 1) (21 + r)) (dn (μ.1 1)) = 1 <<< ((μ.1 1) 0 &&& 31) - 1 then (1 : Int32) else 0) 200 0)) (if (fun k => if weL (fun r => suN k (μ.1 1) (21 + r)) (dn (μ.1 1)) = 1 <<< ((μ.1 1) 0 &&& 31) - 1 then (1 : Int32) else 0) (fsN (fun k => if weL (fun r => suN k (μ.1 1) (21 + r)) (dn (μ.1 1)) = 1 <<< ((μ.1 1) 0 &&& 31) - 1 then (1 : Int32) else 0) 200 0) = 0 then fnS (asM μ) 3 else asM μ)) := by
  refine Ct.mk (own := RX5) rfl (by decide) (Nat.le_of_ble_eq_true rfl) (fun x hxl C hQ => ?_)
  subst hxl
  refine v_aload_n C dX5_well_0 rfl rfl ?_
  refine g_X5_d C hM.1 dX5_well_1 fl_X5_7 rfl ?_
  refine v_aload_n C dX5_well_4 rfl rfl ?_
  refine g_X5_aside C hM.1 dX5_well_5 fl_X5_16 rfl ?_
  refine v_vS C dX5_well_8 ms_X5_copies (c_X5_copies hM.2.1 hM.2.2.2.1 (by decide)) rfl ml_X5_152 (rk_of rfl) rfl (Nat.le_of_ble_eq_true rfl) rfl (pv_k ?_)
  refine v_iconst C dX5_well_11 ic_0 rfl ?_
  refine v_istore_n C dX5_well_12 (by decide) rfl ?_
  refine v_mem (asM_self μ) (V.norm (lp_X5_well_13 hM hI C hQ 201 0 (by omega) (by omega) rfl) rfl)

set_option maxRecDepth 100000 in
set_option maxHeartbeats 4000000 in
theorem lp_X5_longFor_31 {w : WC} {x : Cy} {μ : Me} (hM : Md w) (hI : IvD (μ.1 1)) {n : Int32} (h4 : ¬ wiS n 0 40 = 0) (C : Cx w x cX5_longFor 6 RX5 (some .int) (Rm 5 119)) (hQ : y_Q x = MQ (y_b x) (QI w (Px (if wiS n 0 40 = 0 then -1000001 else (bsL (fun i => smL (fun r => suN (cl n) (upd (μ.1 1) 6 (nI (i + 1))) (21 + r)) (dn (μ.1 1))) (fun i => nI (i + 1)) 0 12).1) (if wiS n 0 40 = 0 then fnS μ 0 else asM μ))) (y_a x) (y_s x) 0 0 (AA w)) : ∀ (m i : Nat) (a : Int32) (b : Int32), 12 + 1 ≤ i + m → i ≤ 12 → (a = (bsL (fun i => smL (fun r => suN (cl n) (upd (μ.1 1) 6 (nI (i + 1))) (21 + r)) (dn (μ.1 1))) (fun i => nI (i + 1)) 0 i).1) → (b = (bsL (fun i => smL (fun r => suN (cl n) (upd (μ.1 1) 6 (nI (i + 1))) (21 + r)) (dn (μ.1 1))) (fun i => nI (i + 1)) 0 i).2) → V w x 6 (asM μ) 31 [(0, .ref (w_ad w 0)), (1, .int n), (2, .int a), (3, .int b), (4, .int (nI (i + 1)))] [] := by
  intro m
  induction m with
  | zero =>
    intro i a b hm hi
    exact absurd hm (by omega)
  | succ m ih =>
    intro i a b hm hi ha hb
    have hn := hI.n.1
    have q := wi_i (m := 40) (by omega) h4
    refine v_iload C dX5_longFor_31 rfl rfl ?_
    refine v_bipush C dX5_longFor_33 bp_13 rfl ?_
    refine v_icmp_ge C 88 38 dX5_longFor_35 (by decide) rfl (fun h35 => ?_) (fun h35 => ?_)
    · have g : i = 12 := by have := (le_n (a := 13) (b := i + 1) (by omega) (by omega)).mp h35; omega
      refine v_iload_n C dX5_longFor_88 rfl rfl ?_
      exact v_iret C hQ dX5_longFor_89 ⟨by rw [if_neg h4, ha, g], by rw [if_neg h4]⟩
    · have g : i < 12 := by rcases Nat.lt_or_ge i 12 with y | y; exact y; exact absurd ((le_n (a := 13) (b := i + 1) (by omega) (by omega)).mpr (by omega)) h35
      have hI2 : IvD (upd (μ.1 1) 6 (nI (i + 1))) := IvD_upd hI (by omega) (by omega) (by omega) (by omega) (by omega) (fun _ => ⟨i + 1, by omega, by omega, rfl⟩) (by omega) (by omega) (by omega) (by omega) (by omega) (by omega)
      have ed := dn_upd (d := (μ.1 1)) (a := 6) (v := nI (i + 1)) (by decide)
      refine v_aload_n C dX5_longFor_38 rfl rfl ?_
      refine g_X5_d C hM.1 dX5_longFor_39 fl_X5_7 rfl ?_
      refine v_bipush C dX5_longFor_42 bp_6 rfl ?_
      refine v_iload C dX5_longFor_44 rfl rfl ?_
      refine s_I C hM.2.1 (by decide) dX5_longFor_46 (6) rfl (by decide) rfl ?_
      refine v_mem (μ' := ua (asM μ) 1 (upd (μ.1 1) 6 (nI (i + 1)))) (by rw [asM_self μ, up_ua, ua_ua]) ?_
      refine v_aload_n C dX5_longFor_47 rfl rfl ?_
      refine v_iload_n C dX5_longFor_48 rfl rfl ?_
      refine v_vV C dX5_longFor_49 mi_X5_sundaysGo (c_X5_sundaysGo hM (by rw [ua_s]; exact hI2) (t := cl n) (by omega) q.1) rfl hM.1.1 hM.1.2 rfl ml_X5_142 (rk_of rfl) rfl (Nat.le_of_ble_eq_true rfl) rfl (pv_k ?_)
      rw [ua_s, ua_ua]
      refine v_aload_n C dX5_longFor_52 rfl rfl ?_
      refine v_iconst C dX5_longFor_53 ic_1 rfl ?_
      refine v_iV C dX5_longFor_54 mi_X5_sumOf (c_X5_sumOf hM (n := dn (μ.1 1)) hn (by rw [ua_s, suN_o hI2 (by decide) (Or.inl (by decide)), upd_n _ _ (by decide)]; exact hI.n.2) (f := 1) (by decide) rfl) rfl hM.1.1 hM.1.2 rfl ml_X5_146 (rk_of rfl) rfl (Nat.le_of_ble_eq_true rfl) rfl (px_k ?_)
      rw [ua_s]
      refine v_istore C dX5_longFor_57 (by decide) rfl ?_
      refine v_aload_n C dX5_longFor_59 rfl rfl ?_
      refine g_X5_aside C hM.1 dX5_longFor_60 fl_X5_16 rfl ?_
      refine v_aload_n C dX5_longFor_63 rfl rfl ?_
      refine g_X5_d C hM.1 dX5_longFor_64 fl_X5_7 rfl ?_
      refine v_vS C dX5_longFor_67 ms_X5_copies (c_X5_copies hM.2.2.2.1 hM.2.1 (by decide)) rfl ml_X5_152 (rk_of rfl) rfl (Nat.le_of_ble_eq_true rfl) rfl (pv_k ?_)
      rw [rst (fun j hj => (suN_63 hI2 (cl n) hj).trans (upd_63 (by omega) j hj))]
      refine v_iload C dX5_longFor_70 rfl rfl ?_
      refine v_iload_n C dX5_longFor_72 rfl rfl ?_
      refine v_icmp_le C 82 76 dX5_longFor_73 (by decide) rfl (fun h73 => ?_) (fun h73 => ?_)
      · refine v_iincN C dX5_longFor_82 rfl (by decide) rfl ?_
        refine v_goto C 31 dX5_longFor_85 (by decide) ?_
        exact V.norm (ih (i + 1) _ _ (by omega) (by omega) (by rw [bsL_n (f := (fun i => smL (fun r => suN (cl n) (upd (μ.1 1) 6 (nI (i + 1))) (21 + r)) (dn (μ.1 1)))) (nm := fun i => nI (i + 1)) (i := i) (by rw [← hb]; exact Int32.not_lt.mpr h73)]; assumption) (by rw [bsL_n (f := (fun i => smL (fun r => suN (cl n) (upd (μ.1 1) 6 (nI (i + 1))) (21 + r)) (dn (μ.1 1)))) (nm := fun i => nI (i + 1)) (i := i) (by rw [← hb]; exact Int32.not_lt.mpr h73)]; assumption)) rfl
      · refine v_iload C dX5_longFor_76 rfl rfl ?_
        refine v_istore_n C dX5_longFor_78 (by decide) rfl ?_
        refine v_iload C dX5_longFor_79 rfl rfl ?_
        refine v_istore_n C dX5_longFor_81 (by decide) rfl ?_
        refine v_iincN C dX5_longFor_82 rfl (by decide) rfl ?_
        refine v_goto C 31 dX5_longFor_85 (by decide) ?_
        exact V.norm (ih (i + 1) _ _ (by omega) (by omega) (by rw [bsL_y (f := (fun i => smL (fun r => suN (cl n) (upd (μ.1 1) 6 (nI (i + 1))) (21 + r)) (dn (μ.1 1)))) (nm := fun i => nI (i + 1)) (i := i) (by rw [← hb]; exact Int32.not_le.mp h73)]) (by rw [bsL_y (f := (fun i => smL (fun r => suN (cl n) (upd (μ.1 1) 6 (nI (i + 1))) (21 + r)) (dn (μ.1 1)))) (nm := fun i => nI (i + 1)) (i := i) (by rw [← hb]; exact Int32.not_le.mp h73)])) rfl
set_option maxRecDepth 100000 in
set_option maxHeartbeats 4000000 in
theorem c_X5_longFor {l : Launch} {w : WC} {μ : Me} (hM : Md w) (hI : IvD (μ.1 1)) {n : Int32} : CtI l w yX5_longFor cX5_longFor 6 (some .int) (Rm 5 119) [.ref (w_ad w 0), .int n] μ (Px (if wiS n 0 40 = 0 then -1000001 else (bsL (fun i => smL (fun r => suN (cl n) (upd (μ.1 1) 6 (nI (i + 1))) (21 + r)) (dn (μ.1 1))) (fun i => nI (i + 1)) 0 12).1) (if wiS n 0 40 = 0 then fnS μ 0 else asM μ)) := by
  refine Ct.mk (own := RX5) rfl (by decide) (Nat.le_of_ble_eq_true rfl) (fun x hxl C hQ => ?_)
  subst hxl
  refine v_iload_n C dX5_longFor_0 rfl rfl ?_
  refine v_iS C dX5_longFor_1 ms_X5_isShort c_X5_isShort rfl ml_X5_170 (rk_of rfl) rfl (Nat.le_of_ble_eq_true rfl) rfl (px_k ?_)
  refine v_if_ne C 13 7 dX5_longFor_4 (by decide) rfl (fun h4 => ?_) (fun h4 => ?_)
  · refine v_aload_n C dX5_longFor_13 rfl rfl ?_
    refine g_X5_d C hM.1 dX5_longFor_14 fl_X5_7 rfl ?_
    refine v_aload_n C dX5_longFor_17 rfl rfl ?_
    refine g_X5_aside C hM.1 dX5_longFor_18 fl_X5_16 rfl ?_
    refine v_vS C dX5_longFor_21 ms_X5_copies (c_X5_copies hM.2.1 hM.2.2.2.1 (by decide)) rfl ml_X5_152 (rk_of rfl) rfl (Nat.le_of_ble_eq_true rfl) rfl (pv_k ?_)
    refine v_iconst C dX5_longFor_24 ic_0 rfl ?_
    refine v_istore_n C dX5_longFor_25 (by decide) rfl ?_
    refine v_iconst C dX5_longFor_26 ic_m1 rfl ?_
    refine v_istore_n C dX5_longFor_27 (by decide) rfl ?_
    refine v_iconst C dX5_longFor_28 ic_1 rfl ?_
    refine v_istore C dX5_longFor_29 (by decide) rfl ?_
    exact V.norm (lp_X5_longFor_31 hM hI h4 C hQ 13 0 _ _ (by omega) (by omega) rfl rfl) rfl
  · refine v_aload_n C dX5_longFor_7 rfl rfl ?_
    refine v_iconst C dX5_longFor_8 ic_0 rfl ?_
    refine v_iV C dX5_longFor_9 mi_X5_finds (c_X5_finds hM (p := 0) (e := -1000001) (by decide) rfl (by decide)) rfl hM.1.1 hM.1.2 rfl ml_X5_108 (rk_of rfl) rfl (Nat.le_of_ble_eq_true rfl) rfl (px_k ?_)
    exact v_iret C hQ dX5_longFor_12 ⟨(if_pos h4).symm, (if_pos h4).symm⟩

set_option maxRecDepth 100000 in
set_option maxHeartbeats 4000000 in
theorem lp_X5_chairsFor_38 {w : WC} {x : Cy} {μ : Me} (hM : Md w) (hI : IvD (μ.1 1)) {v n : Int32} (nc : ¬ (wiS v 0 9999 = 0 ∨ wiS n 0 40 = 0)) (q : n = nI (cl n) ∧ cl n ≤ 40) (C : Cx w x cX5_chairsFor 5 RX5 (some .int) (Rm 5 119)) (hQ : y_Q x = MQ (y_b x) (QI w (Px (if wiS v 0 9999 = 0 ∨ wiS n 0 40 = 0 then -1000001 else (if fsN (fun i => if v ≤ smL (fun r => suN (cl n) (upd (μ.1 1) 3 (nI i)) (45 + r)) (dn (μ.1 1)) then (1 : Int32) else 0) 21 0 ≤ 20 then nI (fsN (fun i => if v ≤ smL (fun r => suN (cl n) (upd (μ.1 1) 3 (nI i)) (45 + r)) (dn (μ.1 1)) then (1 : Int32) else 0) 21 0) else -1000004)) (if wiS v 0 9999 = 0 ∨ wiS n 0 40 = 0 then fnS μ 0 else (if fsN (fun i => if v ≤ smL (fun r => suN (cl n) (upd (μ.1 1) 3 (nI i)) (45 + r)) (dn (μ.1 1)) then (1 : Int32) else 0) 21 0 ≤ 20 then asM μ else fnS (asM μ) 3)))) (y_a x) (y_s x) 0 0 (AA w)) : ∀ (m i : Nat), 21 + 1 ≤ i + m → i ≤ 21 → (fsN (fun i => if v ≤ smL (fun r => suN (cl n) (upd (μ.1 1) 3 (nI i)) (45 + r)) (dn (μ.1 1)) then (1 : Int32) else 0) 21 0 = fsN (fun i => if v ≤ smL (fun r => suN (cl n) (upd (μ.1 1) 3 (nI i)) (45 + r)) (dn (μ.1 1)) then (1 : Int32) else 0) (21 - i) i) → V w x 5 (asM μ) 38 [(0, .ref (w_ad w 0)), (1, .int v), (2, .int n), (3, .int (nI i))] [] := by
  intro m
  induction m with
  | zero =>
    intro i  hm hi
    exact absurd hm (by omega)
  | succ m ih =>
    intro i  hm hi hE
    have hn := hI.n.1
    refine v_iload_n C dX5_chairsFor_38 rfl rfl ?_
    refine v_bipush C dX5_chairsFor_39 bp_21 rfl ?_
    refine v_icmp_ge C 88 44 dX5_chairsFor_41 (by decide) rfl (fun h41 => ?_) (fun h41 => ?_)
    · have g : i = 21 := by have := (le_n (a := 21) (b := i) (by omega) (by omega)).mp h41; omega
      subst g
      refine v_aload_n C dX5_chairsFor_88 rfl rfl ?_
      refine v_iconst C dX5_chairsFor_89 ic_3 rfl ?_
      refine v_iV C dX5_chairsFor_90 mi_X5_finds (c_X5_finds hM (p := 3) (e := -1000004) (by decide) rfl (by decide)) rfl hM.1.1 hM.1.2 rfl ml_X5_108 (rk_of rfl) rfl (Nat.le_of_ble_eq_true rfl) rfl (px_k ?_)
      exact v_iret C hQ dX5_chairsFor_93 ⟨by rw [if_neg nc, if_neg (show ¬ fsN (fun i => if v ≤ smL (fun r => suN (cl n) (upd (μ.1 1) 3 (nI i)) (45 + r)) (dn (μ.1 1)) then (1 : Int32) else 0) 21 0 ≤ 20 by rw [hE]; show ¬ 21 ≤ 20; omega)], by rw [if_neg nc, if_neg (show ¬ fsN (fun i => if v ≤ smL (fun r => suN (cl n) (upd (μ.1 1) 3 (nI i)) (45 + r)) (dn (μ.1 1)) then (1 : Int32) else 0) 21 0 ≤ 20 by rw [hE]; show ¬ 21 ≤ 20; omega)]⟩
    · have g : i < 21 := by rcases Nat.lt_or_ge i (21) with q | q; exact q; exact absurd ((le_n (a := 21) (b := i) (by omega) (by omega)).mpr q) h41
      rw [show 21 - i = (20 - i) + 1 by omega] at hE
      have hI2 : IvD (upd (μ.1 1) 3 (nI i)) := IvD_upd hI (by omega) (by omega) (fun _ => ⟨i, by omega, rfl⟩) (by omega) (by omega) (by omega) (by omega) (by omega) (by omega) (by omega) (by omega) (by omega)
      refine v_aload_n C dX5_chairsFor_44 rfl rfl ?_
      refine g_X5_d C hM.1 dX5_chairsFor_45 fl_X5_7 rfl ?_
      refine v_iconst C dX5_chairsFor_48 ic_3 rfl ?_
      refine v_iload_n C dX5_chairsFor_49 rfl rfl ?_
      refine s_I C hM.2.1 (by decide) dX5_chairsFor_50 (3) rfl (by decide) rfl ?_
      refine v_mem (μ' := ua (asM μ) 1 (upd (μ.1 1) 3 (nI i))) (by rw [asM_self μ, up_ua, ua_ua]) ?_
      refine v_aload_n C dX5_chairsFor_51 rfl rfl ?_
      refine v_iload_n C dX5_chairsFor_52 rfl rfl ?_
      refine v_vV C dX5_chairsFor_53 mi_X5_sundaysGo (c_X5_sundaysGo hM (by rw [ua_s]; exact hI2) (t := cl n) (by omega) q.1) rfl hM.1.1 hM.1.2 rfl ml_X5_142 (rk_of rfl) rfl (Nat.le_of_ble_eq_true rfl) rfl (pv_k ?_)
      rw [ua_s, ua_ua]
      refine v_aload_n C dX5_chairsFor_56 rfl rfl ?_
      refine v_iconst C dX5_chairsFor_57 ic_4 rfl ?_
      refine v_iV C dX5_chairsFor_58 mi_X5_sumOf (c_X5_sumOf hM (n := dn (μ.1 1)) hn (by rw [ua_s, suN_o hI2 (by decide) (Or.inl (by decide)), upd_n _ _ (by decide)]; exact hI.n.2) (f := 4) (by decide) rfl) rfl hM.1.1 hM.1.2 rfl ml_X5_146 (rk_of rfl) rfl (Nat.le_of_ble_eq_true rfl) rfl (px_k ?_)
      rw [ua_s]
      refine v_istore C dX5_chairsFor_61 (by decide) rfl ?_
      refine v_aload_n C dX5_chairsFor_63 rfl rfl ?_
      refine g_X5_aside C hM.1 dX5_chairsFor_64 fl_X5_16 rfl ?_
      refine v_aload_n C dX5_chairsFor_67 rfl rfl ?_
      refine g_X5_d C hM.1 dX5_chairsFor_68 fl_X5_7 rfl ?_
      refine v_vS C dX5_chairsFor_71 ms_X5_copies (c_X5_copies hM.2.2.2.1 hM.2.1 (by decide)) rfl ml_X5_152 (rk_of rfl) rfl (Nat.le_of_ble_eq_true rfl) rfl (pv_k ?_)
      rw [rst (fun j hj => (suN_63 hI2 (cl n) hj).trans (upd_63 (by omega) j hj))]
      refine v_iload C dX5_chairsFor_74 rfl rfl ?_
      refine v_iload_n C dX5_chairsFor_76 rfl rfl ?_
      refine v_icmp_lt C 82 80 dX5_chairsFor_77 (by decide) rfl (fun h77 => ?_) (fun h77 => ?_)
      · refine v_iincN C dX5_chairsFor_82 rfl (by decide) rfl ?_
        refine v_goto C 38 dX5_chairsFor_85 (by decide) ?_
        exact V.norm (ih (i + 1) (by omega) (by omega) (by rw [hE, fsN_n (p := (fun i => if v ≤ smL (fun r => suN (cl n) (upd (μ.1 1) 3 (nI i)) (45 + r)) (dn (μ.1 1)) then (1 : Int32) else 0)) (i := i) (show (fun i => if v ≤ smL (fun r => suN (cl n) (upd (μ.1 1) 3 (nI i)) (45 + r)) (dn (μ.1 1)) then (1 : Int32) else 0) i = 0 by exact if_neg (Int32.not_le.mpr h77)), show 21 - (i + 1) = 20 - i by omega])) rfl
      · refine v_iload_n C dX5_chairsFor_80 rfl rfl ?_
        exact v_iret C hQ dX5_chairsFor_81 ⟨by rw [if_neg nc, hE, fsN_y (p := (fun i => if v ≤ smL (fun r => suN (cl n) (upd (μ.1 1) 3 (nI i)) (45 + r)) (dn (μ.1 1)) then (1 : Int32) else 0)) (i := i) (show ¬ (fun i => if v ≤ smL (fun r => suN (cl n) (upd (μ.1 1) 3 (nI i)) (45 + r)) (dn (μ.1 1)) then (1 : Int32) else 0) i = 0 by show ¬ (if _ then _ else _) = _; rw [if_pos (Int32.not_lt.mp h77)]; decide), if_pos (by omega)], by rw [if_neg nc, hE, fsN_y (p := (fun i => if v ≤ smL (fun r => suN (cl n) (upd (μ.1 1) 3 (nI i)) (45 + r)) (dn (μ.1 1)) then (1 : Int32) else 0)) (i := i) (show ¬ (fun i => if v ≤ smL (fun r => suN (cl n) (upd (μ.1 1) 3 (nI i)) (45 + r)) (dn (μ.1 1)) then (1 : Int32) else 0) i = 0 by show ¬ (if _ then _ else _) = _; rw [if_pos (Int32.not_lt.mp h77)]; decide), if_pos (by omega)]⟩
set_option maxRecDepth 100000 in
set_option maxHeartbeats 4000000 in
theorem c_X5_chairsFor {l : Launch} {w : WC} {μ : Me} (hM : Md w) (hI : IvD (μ.1 1)) {v n : Int32} : CtI l w yX5_chairsFor cX5_chairsFor 5 (some .int) (Rm 5 119) [.ref (w_ad w 0), .int v, .int n] μ (Px (if wiS v 0 9999 = 0 ∨ wiS n 0 40 = 0 then -1000001 else (if fsN (fun i => if v ≤ smL (fun r => suN (cl n) (upd (μ.1 1) 3 (nI i)) (45 + r)) (dn (μ.1 1)) then (1 : Int32) else 0) 21 0 ≤ 20 then nI (fsN (fun i => if v ≤ smL (fun r => suN (cl n) (upd (μ.1 1) 3 (nI i)) (45 + r)) (dn (μ.1 1)) then (1 : Int32) else 0) 21 0) else -1000004)) (if wiS v 0 9999 = 0 ∨ wiS n 0 40 = 0 then fnS μ 0 else (if fsN (fun i => if v ≤ smL (fun r => suN (cl n) (upd (μ.1 1) 3 (nI i)) (45 + r)) (dn (μ.1 1)) then (1 : Int32) else 0) 21 0 ≤ 20 then asM μ else fnS (asM μ) 3))) := by
  refine Ct.mk (own := RX5) rfl (by decide) (Nat.le_of_ble_eq_true rfl) (fun x hxl C hQ => ?_)
  subst hxl
  refine v_iload_n C dX5_chairsFor_0 rfl rfl ?_
  refine v_i2l C dX5_chairsFor_1 rfl ?_
  refine v_lconst (v := 0) C dX5_chairsFor_2 rfl rfl ?_
  refine v_ldc2 C dX5_chairsFor_3 cn_X5_132 rfl ?_
  refine v_iS C dX5_chairsFor_6 ms_X5_in c_X5_in rfl ml_X5_42 (rk_of rfl) rfl (Nat.le_of_ble_eq_true rfl) rfl (px_k ?_)
  refine v_eqi (in_w (a := (0)) (b := (9999)) (by decide) (by decide)) ?_
  refine v_if_eq C 19 12 dX5_chairsFor_9 (by decide) rfl (fun h9 => ?_) (fun h9 => ?_)
  · refine v_aload_n C dX5_chairsFor_19 rfl rfl ?_
    refine v_iconst C dX5_chairsFor_20 ic_0 rfl ?_
    refine v_iV C dX5_chairsFor_21 mi_X5_finds (c_X5_finds hM (p := 0) (e := -1000001) (by decide) rfl (by decide)) rfl hM.1.1 hM.1.2 rfl ml_X5_108 (rk_of rfl) rfl (Nat.le_of_ble_eq_true rfl) rfl (px_k ?_)
    exact v_iret C hQ dX5_chairsFor_24 ⟨(if_pos (by first | exact Or.inl h9 | exact Or.inr h16)).symm, (if_pos (by first | exact Or.inl h9 | exact Or.inr h16)).symm⟩
  · refine v_iload_n C dX5_chairsFor_12 rfl rfl ?_
    refine v_iS C dX5_chairsFor_13 ms_X5_isShort c_X5_isShort rfl ml_X5_170 (rk_of rfl) rfl (Nat.le_of_ble_eq_true rfl) rfl (px_k ?_)
    refine v_if_ne C 25 19 dX5_chairsFor_16 (by decide) rfl (fun h16 => ?_) (fun h16 => ?_)
    · refine v_aload_n C dX5_chairsFor_25 rfl rfl ?_
      refine g_X5_d C hM.1 dX5_chairsFor_26 fl_X5_7 rfl ?_
      refine v_aload_n C dX5_chairsFor_29 rfl rfl ?_
      refine g_X5_aside C hM.1 dX5_chairsFor_30 fl_X5_16 rfl ?_
      refine v_vS C dX5_chairsFor_33 ms_X5_copies (c_X5_copies hM.2.1 hM.2.2.2.1 (by decide)) rfl ml_X5_152 (rk_of rfl) rfl (Nat.le_of_ble_eq_true rfl) rfl (pv_k ?_)
      refine v_iconst C dX5_chairsFor_36 ic_0 rfl ?_
      refine v_istore_n C dX5_chairsFor_37 (by decide) rfl ?_
      exact V.norm (lp_X5_chairsFor_38 hM hI (fun h => h.elim h9 h16) (wi_i (m := 40) (by omega) h16) C hQ 22 0 (by omega) (by omega) rfl) rfl
    · refine v_aload_n C dX5_chairsFor_19 rfl rfl ?_
      refine v_iconst C dX5_chairsFor_20 ic_0 rfl ?_
      refine v_iV C dX5_chairsFor_21 mi_X5_finds (c_X5_finds hM (p := 0) (e := -1000001) (by decide) rfl (by decide)) rfl hM.1.1 hM.1.2 rfl ml_X5_108 (rk_of rfl) rfl (Nat.le_of_ble_eq_true rfl) rfl (px_k ?_)
      exact v_iret C hQ dX5_chairsFor_24 ⟨(if_pos (by first | exact Or.inl h9 | exact Or.inr h16)).symm, (if_pos (by first | exact Or.inl h9 | exact Or.inr h16)).symm⟩
