set_option maxRecDepth 100000 in
set_option maxHeartbeats 4000000 in
theorem c_X5_whyNone {l : Launch} {w : WC} {μ : Me} (hM : Md w) {s : Int32} : CtI l w yX5_whyNone cX5_whyNone 2 (some .int) (Rm 2 45) [.ref (w_ad w 0), .int s] μ (Px (wyS μ s) μ) := by
  refine Ct.mk (own := RX5) rfl (by decide) (Nat.le_of_ble_eq_true rfl) (fun x hxl C hQ => ?_)
  subst hxl
  refine v_iload_n C dX5_whyNone_0 rfl rfl ?_
  refine v_iS C dX5_whyNone_1 ms_X5_isSheet c_X5_isSheet rfl ml_X5_296 (rk_of rfl) rfl (Nat.le_of_ble_eq_true rfl) rfl (px_k ?_)
  refine v_if_ne C 11 7 dX5_whyNone_4 (by decide) rfl (fun h4 => ?_) (fun h4 => ?_)
  · have q := wi_i (m := 3) (by omega) h4
    refine v_aload_n C dX5_whyNone_11 rfl rfl ?_
    refine g_X5_bitsOf C hM.1 dX5_whyNone_12 fl_X5_29 rfl ?_
    refine v_iload_n C dX5_whyNone_15 rfl rfl ?_
    refine a_I C hM.2.2.2.2.2.2.2.1 (by decide) dX5_whyNone_16 (cl s) q.1 (by omega) rfl ?_
    refine v_if_ne C 24 20 dX5_whyNone_17 (by decide) rfl (fun h17 => ?_) (fun h17 => ?_)
    · refine v_iconst C dX5_whyNone_24 ic_m1 rfl ?_
      exact v_iret C hQ dX5_whyNone_25 ⟨by unfold wyS; first | (rw [if_pos h4]; done) | (rw [if_neg h4, if_pos h17]; done) | (rw [if_neg h4, if_neg h17]; done), rfl⟩
    · refine v_iconst C dX5_whyNone_20 ic_5 rfl ?_
      refine v_goto C 25 dX5_whyNone_21 (by decide) ?_
      exact v_iret C hQ dX5_whyNone_25 ⟨by unfold wyS; first | (rw [if_pos h4]; done) | (rw [if_neg h4, if_pos h17]; done) | (rw [if_neg h4, if_neg h17]; done), rfl⟩
  · refine v_iconst C dX5_whyNone_7 ic_0 rfl ?_
    refine v_goto C 25 dX5_whyNone_8 (by decide) ?_
    exact v_iret C hQ dX5_whyNone_25 ⟨by unfold wyS; first | (rw [if_pos h4]; done) | (rw [if_neg h4, if_pos h17]; done) | (rw [if_neg h4, if_neg h17]; done), rfl⟩

set_option maxRecDepth 100000 in
set_option maxHeartbeats 4000000 in
theorem lp_X5_sheet_83 {w : WC} {x : Cy} {μ : Me} (hM : Md w) {s b n : Int32} (nc : ¬ (wiS s 0 3 = 0 ∨ ¬ okB b)) (h36 : 0 ≤ n) (h49 : n ≤ 40) (q : s = nI (cl s) ∧ cl s ≤ 3) (C : Cx w x cX5_sheet 5 RX5 (some .int) (Rm 2 45)) (hQ : y_Q x = MQ (y_b x) (QI w (Px (if wiS s 0 3 = 0 ∨ ¬ okB b then -1000001 else if n < 0 then -1000007 else if n ≤ 40 then (if b = 0 then 0 else n) else -1000001) (if wiS s 0 3 = 0 ∨ ¬ okB b then fnS μ 0 else if n < 0 then fnS μ 6 else if n ≤ 40 then ua (shW μ (cl s) b n) 9 (shZ (μ.1 9) (cl s) 40) else fnS μ 0))) (y_a x) (y_s x) 0 0 (AA w)) : ∀ (m i : Nat), 40 + 1 ≤ i + m → i ≤ 40 → V w x 5 (ua (shW μ (cl s) b n) 9 (shZ (μ.1 9) (cl s) i)) 83 [(0, .ref (w_ad w 0)), (1, .int s), (2, .int b), (3, .int n), (4, .int (nI i))] [] := by
  intro m
  induction m with
  | zero =>
    intro i  hm hi
    exact absurd hm (by omega)
  | succ m ih =>
    intro i  hm hi 
    refine v_iload C dX5_sheet_83 rfl rfl ?_
    refine v_bipush C dX5_sheet_85 bp_40 rfl ?_
    refine v_icmp_ge C 109 90 dX5_sheet_87 (by decide) rfl (fun h87 => ?_) (fun h87 => ?_)
    · have g : i = 40 := by have := (le_n (a := 40) (b := i) (by omega) (by omega)).mp h87; omega
      refine v_aload_n C dX5_sheet_109 rfl rfl ?_
      refine g_X5_sizeOf C hM.1 dX5_sheet_110 fl_X5_32 rfl ?_
      refine v_iload_n C dX5_sheet_113 rfl rfl ?_
      refine a_I C hM.2.2.2.2.2.2.2.2.1 (by decide) dX5_sheet_114 (cl s) q.1 (by omega) rfl ?_
      exact v_iret C hQ dX5_sheet_115 ⟨by rw [if_neg nc, if_neg (Int32.not_lt.mpr h36), if_pos h49, ua_n _ _ (by decide)]; simp only [shW]; rw [up_s], by rw [if_neg nc, if_neg (Int32.not_lt.mpr h36), if_pos h49, g]⟩
    · have g : i < 40 := by rcases Nat.lt_or_ge i (40) with q | q; exact q; exact absurd ((le_n (a := 40) (b := i) (by omega) (by omega)).mpr q) h87
      refine v_aload_n C dX5_sheet_90 rfl rfl ?_
      refine g_X5_number C hM.1 dX5_sheet_91 fl_X5_35 rfl ?_
      refine v_bipush C dX5_sheet_94 bp_40 rfl ?_
      refine v_iload_n C dX5_sheet_96 rfl rfl ?_
      refine v_imul C dX5_sheet_97 rfl ?_
      refine v_iload C dX5_sheet_98 rfl rfl ?_
      refine v_iadd C dX5_sheet_100 rfl ?_
      refine v_iconst C dX5_sheet_101 ic_0 rfl ?_
      refine s_I C hM.2.2.2.2.2.2.2.2.2.1 (by decide) dX5_sheet_102 (40 * cl s + i) (by rw [q.1, i40, cl_n (by omega)]) (by omega) rfl ?_
      refine v_iincN C dX5_sheet_103 rfl (by decide) rfl ?_
      refine v_goto C 83 dX5_sheet_106 (by decide) ?_
      refine v_mem ?_ (V.norm (ih (i + 1) (by omega) (by omega)) rfl)
      rw [up_ua, shZ_s]
set_option maxRecDepth 100000 in
set_option maxHeartbeats 4000000 in
theorem c_X5_sheet {l : Launch} {w : WC} {μ : Me} (hM : Md w) {s b n : Int32} : CtI l w yX5_sheet cX5_sheet 5 (some .int) (Rm 2 45) [.ref (w_ad w 0), .int s, .int b, .int n] μ (Px (if wiS s 0 3 = 0 ∨ ¬ okB b then -1000001 else if n < 0 then -1000007 else if n ≤ 40 then (if b = 0 then 0 else n) else -1000001) (if wiS s 0 3 = 0 ∨ ¬ okB b then fnS μ 0 else if n < 0 then fnS μ 6 else if n ≤ 40 then ua (shW μ (cl s) b n) 9 (shZ (μ.1 9) (cl s) 40) else fnS μ 0)) := by
  refine Ct.mk (own := RX5) rfl (by decide) (Nat.le_of_ble_eq_true rfl) (fun x hxl C hQ => ?_)
  subst hxl
  refine v_iload_n C dX5_sheet_0 rfl rfl ?_
  refine v_iS C dX5_sheet_1 ms_X5_isSheet c_X5_isSheet rfl ml_X5_296 (rk_of rfl) rfl (Nat.le_of_ble_eq_true rfl) rfl (px_k ?_)
  refine v_if_eq C 29 7 dX5_sheet_4 (by decide) rfl (fun h4 => ?_) (fun h4 => ?_)
  · refine v_aload_n C dX5_sheet_29 rfl rfl ?_
    refine v_iconst C dX5_sheet_30 ic_0 rfl ?_
    refine v_iV C dX5_sheet_31 mi_X5_finds (c_X5_finds hM (p := 0) (e := -1000001) (by decide) rfl (by decide)) rfl hM.1.1 hM.1.2 rfl ml_X5_108 (rk_of rfl) rfl (Nat.le_of_ble_eq_true rfl) rfl (px_k ?_)
    exact v_iret C hQ dX5_sheet_34 ⟨(if_pos (by first | exact Or.inl h4 | exact Or.inr (fun h => h.elim h8 (fun h => h.elim h14 (fun h => h.elim h20 h26))))).symm, (if_pos (by first | exact Or.inl h4 | exact Or.inr (fun h => h.elim h8 (fun h => h.elim h14 (fun h => h.elim h20 h26))))).symm⟩
  · refine v_iload_n C dX5_sheet_7 rfl rfl ?_
    refine v_if_eq C 35 11 dX5_sheet_8 (by decide) rfl (fun h8 => ?_) (fun h8 => ?_)
    · refine v_iload_n C dX5_sheet_35 rfl rfl ?_
      refine v_if_ge C 46 39 dX5_sheet_36 (by decide) rfl (fun h36 => ?_) (fun h36 => ?_)
      · refine v_iload_n C dX5_sheet_46 rfl rfl ?_
        refine v_bipush C dX5_sheet_47 bp_40 rfl ?_
        refine v_icmp_le C 58 52 dX5_sheet_49 (by decide) rfl (fun h49 => ?_) (fun h49 => ?_)
        · have q := wi_i (m := 3) (by omega) h4
          have nc : ¬ (wiS s 0 3 = 0 ∨ ¬ okB b) := (fun h => h.elim h4 (fun h => h (by first | exact Or.inl h8 | exact Or.inr (Or.inl h14) | exact Or.inr (Or.inr (Or.inl h20)) | exact Or.inr (Or.inr (Or.inr h26)))))
          refine v_aload_n C dX5_sheet_58 rfl rfl ?_
          refine g_X5_bitsOf C hM.1 dX5_sheet_59 fl_X5_29 rfl ?_
          refine v_iload_n C dX5_sheet_62 rfl rfl ?_
          refine v_iload_n C dX5_sheet_63 rfl rfl ?_
          refine s_I C hM.2.2.2.2.2.2.2.1 (by decide) dX5_sheet_64 (cl s) q.1 (by omega) rfl ?_
          refine v_aload_n C dX5_sheet_65 rfl rfl ?_
          refine g_X5_sizeOf C hM.1 dX5_sheet_66 fl_X5_32 rfl ?_
          refine v_iload_n C dX5_sheet_69 rfl rfl ?_
          refine v_iload_n C dX5_sheet_70 rfl rfl ?_
          refine v_if_ne C 78 74 dX5_sheet_71 (by decide) rfl (fun h71 => ?_) (fun h71 => ?_)
          · refine v_iload_n C dX5_sheet_78 rfl rfl ?_
            refine s_I C hM.2.2.2.2.2.2.2.2.1 (by decide) dX5_sheet_79 (cl s) q.1 (by omega) rfl ?_
            refine v_mem (μ' := shW μ (cl s) b n) (by simp only [shW]; first | rw [if_pos h71] | rw [if_neg h71]) ?_
            refine v_iconst C dX5_sheet_80 ic_0 rfl ?_
            refine v_istore C dX5_sheet_81 (by decide) rfl ?_
            refine v_mem ?_ (V.norm (lp_X5_sheet_83 (μ := μ) hM nc h36 h49 q C hQ 41 0 (by omega) (by omega)) rfl)
            rw [shZ_0, show μ.1 9 = (shW μ (cl s) b n).1 9 by simp only [shW]; rw [up_n _ _ _ (by decide), up_n _ _ _ (by decide)], ua_self]
          · refine v_iconst C dX5_sheet_74 ic_0 rfl ?_
            refine v_goto C 79 dX5_sheet_75 (by decide) ?_
            refine s_I C hM.2.2.2.2.2.2.2.2.1 (by decide) dX5_sheet_79 (cl s) q.1 (by omega) rfl ?_
            refine v_mem (μ' := shW μ (cl s) b n) (by simp only [shW]; first | rw [if_pos h71] | rw [if_neg h71]) ?_
            refine v_iconst C dX5_sheet_80 ic_0 rfl ?_
            refine v_istore C dX5_sheet_81 (by decide) rfl ?_
            refine v_mem ?_ (V.norm (lp_X5_sheet_83 (μ := μ) hM nc h36 h49 q C hQ 41 0 (by omega) (by omega)) rfl)
            rw [shZ_0, show μ.1 9 = (shW μ (cl s) b n).1 9 by simp only [shW]; rw [up_n _ _ _ (by decide), up_n _ _ _ (by decide)], ua_self]
        · refine v_aload_n C dX5_sheet_52 rfl rfl ?_
          refine v_iconst C dX5_sheet_53 ic_0 rfl ?_
          refine v_iV C dX5_sheet_54 mi_X5_finds (c_X5_finds hM (p := 0) (e := -1000001) (by decide) rfl (by decide)) rfl hM.1.1 hM.1.2 rfl ml_X5_108 (rk_of rfl) rfl (Nat.le_of_ble_eq_true rfl) rfl (px_k ?_)
          exact v_iret C hQ dX5_sheet_57 ⟨by rw [if_neg (fun h => h.elim h4 (fun h => h (by first | exact Or.inl h8 | exact Or.inr (Or.inl h14) | exact Or.inr (Or.inr (Or.inl h20)) | exact Or.inr (Or.inr (Or.inr h26))))), if_neg (Int32.not_lt.mpr h36), if_neg h49], by rw [if_neg (fun h => h.elim h4 (fun h => h (by first | exact Or.inl h8 | exact Or.inr (Or.inl h14) | exact Or.inr (Or.inr (Or.inl h20)) | exact Or.inr (Or.inr (Or.inr h26))))), if_neg (Int32.not_lt.mpr h36), if_neg h49]⟩
      · refine v_aload_n C dX5_sheet_39 rfl rfl ?_
        refine v_bipush C dX5_sheet_40 bp_6 rfl ?_
        refine v_iV C dX5_sheet_42 mi_X5_finds (c_X5_finds hM (p := 6) (e := -1000007) (by decide) rfl (by decide)) rfl hM.1.1 hM.1.2 rfl ml_X5_108 (rk_of rfl) rfl (Nat.le_of_ble_eq_true rfl) rfl (px_k ?_)
        exact v_iret C hQ dX5_sheet_45 ⟨by rw [if_neg (fun h => h.elim h4 (fun h => h (by first | exact Or.inl h8 | exact Or.inr (Or.inl h14) | exact Or.inr (Or.inr (Or.inl h20)) | exact Or.inr (Or.inr (Or.inr h26))))), if_pos (Int32.not_le.mp h36)], by rw [if_neg (fun h => h.elim h4 (fun h => h (by first | exact Or.inl h8 | exact Or.inr (Or.inl h14) | exact Or.inr (Or.inr (Or.inl h20)) | exact Or.inr (Or.inr (Or.inr h26))))), if_pos (Int32.not_le.mp h36)]⟩
    · refine v_iload_n C dX5_sheet_11 rfl rfl ?_
      refine v_bipush C dX5_sheet_12 bp_8 rfl ?_
      refine v_icmp_eq C 35 17 dX5_sheet_14 (by decide) rfl (fun h14 => ?_) (fun h14 => ?_)
      · refine v_iload_n C dX5_sheet_35 rfl rfl ?_
        refine v_if_ge C 46 39 dX5_sheet_36 (by decide) rfl (fun h36 => ?_) (fun h36 => ?_)
        · refine v_iload_n C dX5_sheet_46 rfl rfl ?_
          refine v_bipush C dX5_sheet_47 bp_40 rfl ?_
          refine v_icmp_le C 58 52 dX5_sheet_49 (by decide) rfl (fun h49 => ?_) (fun h49 => ?_)
          · have q := wi_i (m := 3) (by omega) h4
            have nc : ¬ (wiS s 0 3 = 0 ∨ ¬ okB b) := (fun h => h.elim h4 (fun h => h (by first | exact Or.inl h8 | exact Or.inr (Or.inl h14) | exact Or.inr (Or.inr (Or.inl h20)) | exact Or.inr (Or.inr (Or.inr h26)))))
            refine v_aload_n C dX5_sheet_58 rfl rfl ?_
            refine g_X5_bitsOf C hM.1 dX5_sheet_59 fl_X5_29 rfl ?_
            refine v_iload_n C dX5_sheet_62 rfl rfl ?_
            refine v_iload_n C dX5_sheet_63 rfl rfl ?_
            refine s_I C hM.2.2.2.2.2.2.2.1 (by decide) dX5_sheet_64 (cl s) q.1 (by omega) rfl ?_
            refine v_aload_n C dX5_sheet_65 rfl rfl ?_
            refine g_X5_sizeOf C hM.1 dX5_sheet_66 fl_X5_32 rfl ?_
            refine v_iload_n C dX5_sheet_69 rfl rfl ?_
            refine v_iload_n C dX5_sheet_70 rfl rfl ?_
            refine v_if_ne C 78 74 dX5_sheet_71 (by decide) rfl (fun h71 => ?_) (fun h71 => ?_)
            · refine v_iload_n C dX5_sheet_78 rfl rfl ?_
              refine s_I C hM.2.2.2.2.2.2.2.2.1 (by decide) dX5_sheet_79 (cl s) q.1 (by omega) rfl ?_
              refine v_mem (μ' := shW μ (cl s) b n) (by simp only [shW]; first | rw [if_pos h71] | rw [if_neg h71]) ?_
              refine v_iconst C dX5_sheet_80 ic_0 rfl ?_
              refine v_istore C dX5_sheet_81 (by decide) rfl ?_
              refine v_mem ?_ (V.norm (lp_X5_sheet_83 (μ := μ) hM nc h36 h49 q C hQ 41 0 (by omega) (by omega)) rfl)
              rw [shZ_0, show μ.1 9 = (shW μ (cl s) b n).1 9 by simp only [shW]; rw [up_n _ _ _ (by decide), up_n _ _ _ (by decide)], ua_self]
            · refine v_iconst C dX5_sheet_74 ic_0 rfl ?_
              refine v_goto C 79 dX5_sheet_75 (by decide) ?_
              refine s_I C hM.2.2.2.2.2.2.2.2.1 (by decide) dX5_sheet_79 (cl s) q.1 (by omega) rfl ?_
              refine v_mem (μ' := shW μ (cl s) b n) (by simp only [shW]; first | rw [if_pos h71] | rw [if_neg h71]) ?_
              refine v_iconst C dX5_sheet_80 ic_0 rfl ?_
              refine v_istore C dX5_sheet_81 (by decide) rfl ?_
              refine v_mem ?_ (V.norm (lp_X5_sheet_83 (μ := μ) hM nc h36 h49 q C hQ 41 0 (by omega) (by omega)) rfl)
              rw [shZ_0, show μ.1 9 = (shW μ (cl s) b n).1 9 by simp only [shW]; rw [up_n _ _ _ (by decide), up_n _ _ _ (by decide)], ua_self]
          · refine v_aload_n C dX5_sheet_52 rfl rfl ?_
            refine v_iconst C dX5_sheet_53 ic_0 rfl ?_
            refine v_iV C dX5_sheet_54 mi_X5_finds (c_X5_finds hM (p := 0) (e := -1000001) (by decide) rfl (by decide)) rfl hM.1.1 hM.1.2 rfl ml_X5_108 (rk_of rfl) rfl (Nat.le_of_ble_eq_true rfl) rfl (px_k ?_)
            exact v_iret C hQ dX5_sheet_57 ⟨by rw [if_neg (fun h => h.elim h4 (fun h => h (by first | exact Or.inl h8 | exact Or.inr (Or.inl h14) | exact Or.inr (Or.inr (Or.inl h20)) | exact Or.inr (Or.inr (Or.inr h26))))), if_neg (Int32.not_lt.mpr h36), if_neg h49], by rw [if_neg (fun h => h.elim h4 (fun h => h (by first | exact Or.inl h8 | exact Or.inr (Or.inl h14) | exact Or.inr (Or.inr (Or.inl h20)) | exact Or.inr (Or.inr (Or.inr h26))))), if_neg (Int32.not_lt.mpr h36), if_neg h49]⟩
        · refine v_aload_n C dX5_sheet_39 rfl rfl ?_
          refine v_bipush C dX5_sheet_40 bp_6 rfl ?_
          refine v_iV C dX5_sheet_42 mi_X5_finds (c_X5_finds hM (p := 6) (e := -1000007) (by decide) rfl (by decide)) rfl hM.1.1 hM.1.2 rfl ml_X5_108 (rk_of rfl) rfl (Nat.le_of_ble_eq_true rfl) rfl (px_k ?_)
          exact v_iret C hQ dX5_sheet_45 ⟨by rw [if_neg (fun h => h.elim h4 (fun h => h (by first | exact Or.inl h8 | exact Or.inr (Or.inl h14) | exact Or.inr (Or.inr (Or.inl h20)) | exact Or.inr (Or.inr (Or.inr h26))))), if_pos (Int32.not_le.mp h36)], by rw [if_neg (fun h => h.elim h4 (fun h => h (by first | exact Or.inl h8 | exact Or.inr (Or.inl h14) | exact Or.inr (Or.inr (Or.inl h20)) | exact Or.inr (Or.inr (Or.inr h26))))), if_pos (Int32.not_le.mp h36)]⟩
      · refine v_iload_n C dX5_sheet_17 rfl rfl ?_
        refine v_bipush C dX5_sheet_18 bp_16 rfl ?_
        refine v_icmp_eq C 35 23 dX5_sheet_20 (by decide) rfl (fun h20 => ?_) (fun h20 => ?_)
        · refine v_iload_n C dX5_sheet_35 rfl rfl ?_
          refine v_if_ge C 46 39 dX5_sheet_36 (by decide) rfl (fun h36 => ?_) (fun h36 => ?_)
          · refine v_iload_n C dX5_sheet_46 rfl rfl ?_
            refine v_bipush C dX5_sheet_47 bp_40 rfl ?_
            refine v_icmp_le C 58 52 dX5_sheet_49 (by decide) rfl (fun h49 => ?_) (fun h49 => ?_)
            · have q := wi_i (m := 3) (by omega) h4
              have nc : ¬ (wiS s 0 3 = 0 ∨ ¬ okB b) := (fun h => h.elim h4 (fun h => h (by first | exact Or.inl h8 | exact Or.inr (Or.inl h14) | exact Or.inr (Or.inr (Or.inl h20)) | exact Or.inr (Or.inr (Or.inr h26)))))
              refine v_aload_n C dX5_sheet_58 rfl rfl ?_
              refine g_X5_bitsOf C hM.1 dX5_sheet_59 fl_X5_29 rfl ?_
              refine v_iload_n C dX5_sheet_62 rfl rfl ?_
              refine v_iload_n C dX5_sheet_63 rfl rfl ?_
              refine s_I C hM.2.2.2.2.2.2.2.1 (by decide) dX5_sheet_64 (cl s) q.1 (by omega) rfl ?_
              refine v_aload_n C dX5_sheet_65 rfl rfl ?_
              refine g_X5_sizeOf C hM.1 dX5_sheet_66 fl_X5_32 rfl ?_
              refine v_iload_n C dX5_sheet_69 rfl rfl ?_
              refine v_iload_n C dX5_sheet_70 rfl rfl ?_
              refine v_if_ne C 78 74 dX5_sheet_71 (by decide) rfl (fun h71 => ?_) (fun h71 => ?_)
              · refine v_iload_n C dX5_sheet_78 rfl rfl ?_
                refine s_I C hM.2.2.2.2.2.2.2.2.1 (by decide) dX5_sheet_79 (cl s) q.1 (by omega) rfl ?_
                refine v_mem (μ' := shW μ (cl s) b n) (by simp only [shW]; first | rw [if_pos h71] | rw [if_neg h71]) ?_
                refine v_iconst C dX5_sheet_80 ic_0 rfl ?_
                refine v_istore C dX5_sheet_81 (by decide) rfl ?_
                refine v_mem ?_ (V.norm (lp_X5_sheet_83 (μ := μ) hM nc h36 h49 q C hQ 41 0 (by omega) (by omega)) rfl)
                rw [shZ_0, show μ.1 9 = (shW μ (cl s) b n).1 9 by simp only [shW]; rw [up_n _ _ _ (by decide), up_n _ _ _ (by decide)], ua_self]
              · refine v_iconst C dX5_sheet_74 ic_0 rfl ?_
                refine v_goto C 79 dX5_sheet_75 (by decide) ?_
                refine s_I C hM.2.2.2.2.2.2.2.2.1 (by decide) dX5_sheet_79 (cl s) q.1 (by omega) rfl ?_
                refine v_mem (μ' := shW μ (cl s) b n) (by simp only [shW]; first | rw [if_pos h71] | rw [if_neg h71]) ?_
                refine v_iconst C dX5_sheet_80 ic_0 rfl ?_
                refine v_istore C dX5_sheet_81 (by decide) rfl ?_
                refine v_mem ?_ (V.norm (lp_X5_sheet_83 (μ := μ) hM nc h36 h49 q C hQ 41 0 (by omega) (by omega)) rfl)
                rw [shZ_0, show μ.1 9 = (shW μ (cl s) b n).1 9 by simp only [shW]; rw [up_n _ _ _ (by decide), up_n _ _ _ (by decide)], ua_self]
            · refine v_aload_n C dX5_sheet_52 rfl rfl ?_
              refine v_iconst C dX5_sheet_53 ic_0 rfl ?_
              refine v_iV C dX5_sheet_54 mi_X5_finds (c_X5_finds hM (p := 0) (e := -1000001) (by decide) rfl (by decide)) rfl hM.1.1 hM.1.2 rfl ml_X5_108 (rk_of rfl) rfl (Nat.le_of_ble_eq_true rfl) rfl (px_k ?_)
              exact v_iret C hQ dX5_sheet_57 ⟨by rw [if_neg (fun h => h.elim h4 (fun h => h (by first | exact Or.inl h8 | exact Or.inr (Or.inl h14) | exact Or.inr (Or.inr (Or.inl h20)) | exact Or.inr (Or.inr (Or.inr h26))))), if_neg (Int32.not_lt.mpr h36), if_neg h49], by rw [if_neg (fun h => h.elim h4 (fun h => h (by first | exact Or.inl h8 | exact Or.inr (Or.inl h14) | exact Or.inr (Or.inr (Or.inl h20)) | exact Or.inr (Or.inr (Or.inr h26))))), if_neg (Int32.not_lt.mpr h36), if_neg h49]⟩
          · refine v_aload_n C dX5_sheet_39 rfl rfl ?_
            refine v_bipush C dX5_sheet_40 bp_6 rfl ?_
            refine v_iV C dX5_sheet_42 mi_X5_finds (c_X5_finds hM (p := 6) (e := -1000007) (by decide) rfl (by decide)) rfl hM.1.1 hM.1.2 rfl ml_X5_108 (rk_of rfl) rfl (Nat.le_of_ble_eq_true rfl) rfl (px_k ?_)
            exact v_iret C hQ dX5_sheet_45 ⟨by rw [if_neg (fun h => h.elim h4 (fun h => h (by first | exact Or.inl h8 | exact Or.inr (Or.inl h14) | exact Or.inr (Or.inr (Or.inl h20)) | exact Or.inr (Or.inr (Or.inr h26))))), if_pos (Int32.not_le.mp h36)], by rw [if_neg (fun h => h.elim h4 (fun h => h (by first | exact Or.inl h8 | exact Or.inr (Or.inl h14) | exact Or.inr (Or.inr (Or.inl h20)) | exact Or.inr (Or.inr (Or.inr h26))))), if_pos (Int32.not_le.mp h36)]⟩
        · refine v_iload_n C dX5_sheet_23 rfl rfl ?_
          refine v_bipush C dX5_sheet_24 bp_32 rfl ?_
          refine v_icmp_eq C 35 29 dX5_sheet_26 (by decide) rfl (fun h26 => ?_) (fun h26 => ?_)
          · refine v_iload_n C dX5_sheet_35 rfl rfl ?_
            refine v_if_ge C 46 39 dX5_sheet_36 (by decide) rfl (fun h36 => ?_) (fun h36 => ?_)
            · refine v_iload_n C dX5_sheet_46 rfl rfl ?_
              refine v_bipush C dX5_sheet_47 bp_40 rfl ?_
              refine v_icmp_le C 58 52 dX5_sheet_49 (by decide) rfl (fun h49 => ?_) (fun h49 => ?_)
              · have q := wi_i (m := 3) (by omega) h4
                have nc : ¬ (wiS s 0 3 = 0 ∨ ¬ okB b) := (fun h => h.elim h4 (fun h => h (by first | exact Or.inl h8 | exact Or.inr (Or.inl h14) | exact Or.inr (Or.inr (Or.inl h20)) | exact Or.inr (Or.inr (Or.inr h26)))))
                refine v_aload_n C dX5_sheet_58 rfl rfl ?_
                refine g_X5_bitsOf C hM.1 dX5_sheet_59 fl_X5_29 rfl ?_
                refine v_iload_n C dX5_sheet_62 rfl rfl ?_
                refine v_iload_n C dX5_sheet_63 rfl rfl ?_
                refine s_I C hM.2.2.2.2.2.2.2.1 (by decide) dX5_sheet_64 (cl s) q.1 (by omega) rfl ?_
                refine v_aload_n C dX5_sheet_65 rfl rfl ?_
                refine g_X5_sizeOf C hM.1 dX5_sheet_66 fl_X5_32 rfl ?_
                refine v_iload_n C dX5_sheet_69 rfl rfl ?_
                refine v_iload_n C dX5_sheet_70 rfl rfl ?_
                refine v_if_ne C 78 74 dX5_sheet_71 (by decide) rfl (fun h71 => ?_) (fun h71 => ?_)
                · refine v_iload_n C dX5_sheet_78 rfl rfl ?_
                  refine s_I C hM.2.2.2.2.2.2.2.2.1 (by decide) dX5_sheet_79 (cl s) q.1 (by omega) rfl ?_
                  refine v_mem (μ' := shW μ (cl s) b n) (by simp only [shW]; first | rw [if_pos h71] | rw [if_neg h71]) ?_
                  refine v_iconst C dX5_sheet_80 ic_0 rfl ?_
                  refine v_istore C dX5_sheet_81 (by decide) rfl ?_
                  refine v_mem ?_ (V.norm (lp_X5_sheet_83 (μ := μ) hM nc h36 h49 q C hQ 41 0 (by omega) (by omega)) rfl)
                  rw [shZ_0, show μ.1 9 = (shW μ (cl s) b n).1 9 by simp only [shW]; rw [up_n _ _ _ (by decide), up_n _ _ _ (by decide)], ua_self]
                · refine v_iconst C dX5_sheet_74 ic_0 rfl ?_
                  refine v_goto C 79 dX5_sheet_75 (by decide) ?_
                  refine s_I C hM.2.2.2.2.2.2.2.2.1 (by decide) dX5_sheet_79 (cl s) q.1 (by omega) rfl ?_
                  refine v_mem (μ' := shW μ (cl s) b n) (by simp only [shW]; first | rw [if_pos h71] | rw [if_neg h71]) ?_
                  refine v_iconst C dX5_sheet_80 ic_0 rfl ?_
                  refine v_istore C dX5_sheet_81 (by decide) rfl ?_
                  refine v_mem ?_ (V.norm (lp_X5_sheet_83 (μ := μ) hM nc h36 h49 q C hQ 41 0 (by omega) (by omega)) rfl)
                  rw [shZ_0, show μ.1 9 = (shW μ (cl s) b n).1 9 by simp only [shW]; rw [up_n _ _ _ (by decide), up_n _ _ _ (by decide)], ua_self]
              · refine v_aload_n C dX5_sheet_52 rfl rfl ?_
                refine v_iconst C dX5_sheet_53 ic_0 rfl ?_
                refine v_iV C dX5_sheet_54 mi_X5_finds (c_X5_finds hM (p := 0) (e := -1000001) (by decide) rfl (by decide)) rfl hM.1.1 hM.1.2 rfl ml_X5_108 (rk_of rfl) rfl (Nat.le_of_ble_eq_true rfl) rfl (px_k ?_)
                exact v_iret C hQ dX5_sheet_57 ⟨by rw [if_neg (fun h => h.elim h4 (fun h => h (by first | exact Or.inl h8 | exact Or.inr (Or.inl h14) | exact Or.inr (Or.inr (Or.inl h20)) | exact Or.inr (Or.inr (Or.inr h26))))), if_neg (Int32.not_lt.mpr h36), if_neg h49], by rw [if_neg (fun h => h.elim h4 (fun h => h (by first | exact Or.inl h8 | exact Or.inr (Or.inl h14) | exact Or.inr (Or.inr (Or.inl h20)) | exact Or.inr (Or.inr (Or.inr h26))))), if_neg (Int32.not_lt.mpr h36), if_neg h49]⟩
            · refine v_aload_n C dX5_sheet_39 rfl rfl ?_
              refine v_bipush C dX5_sheet_40 bp_6 rfl ?_
              refine v_iV C dX5_sheet_42 mi_X5_finds (c_X5_finds hM (p := 6) (e := -1000007) (by decide) rfl (by decide)) rfl hM.1.1 hM.1.2 rfl ml_X5_108 (rk_of rfl) rfl (Nat.le_of_ble_eq_true rfl) rfl (px_k ?_)
              exact v_iret C hQ dX5_sheet_45 ⟨by rw [if_neg (fun h => h.elim h4 (fun h => h (by first | exact Or.inl h8 | exact Or.inr (Or.inl h14) | exact Or.inr (Or.inr (Or.inl h20)) | exact Or.inr (Or.inr (Or.inr h26))))), if_pos (Int32.not_le.mp h36)], by rw [if_neg (fun h => h.elim h4 (fun h => h (by first | exact Or.inl h8 | exact Or.inr (Or.inl h14) | exact Or.inr (Or.inr (Or.inl h20)) | exact Or.inr (Or.inr (Or.inr h26))))), if_pos (Int32.not_le.mp h36)]⟩
          · refine v_aload_n C dX5_sheet_29 rfl rfl ?_
            refine v_iconst C dX5_sheet_30 ic_0 rfl ?_
            refine v_iV C dX5_sheet_31 mi_X5_finds (c_X5_finds hM (p := 0) (e := -1000001) (by decide) rfl (by decide)) rfl hM.1.1 hM.1.2 rfl ml_X5_108 (rk_of rfl) rfl (Nat.le_of_ble_eq_true rfl) rfl (px_k ?_)
            exact v_iret C hQ dX5_sheet_34 ⟨(if_pos (by first | exact Or.inl h4 | exact Or.inr (fun h => h.elim h8 (fun h => h.elim h14 (fun h => h.elim h20 h26))))).symm, (if_pos (by first | exact Or.inl h4 | exact Or.inr (fun h => h.elim h8 (fun h => h.elim h14 (fun h => h.elim h20 h26))))).symm⟩

set_option maxRecDepth 100000 in
set_option maxHeartbeats 4000000 in
theorem c_X5_write {l : Launch} {w : WC} {μ : Me} (hM : Md w) (hV : IvZ μ) {s i v : Int32} : CtI l w yX5_write cX5_write 5 (some .int) (Rm 3 66) [.ref (w_ad w 0), .int s, .int i, .int v] μ (Px (if lkM μ s = 0 then (if wiS i 0 (μ.1 8 (cl s) - 1) = 0 then -1000001 else 1) else lkM μ s) (if lkM μ s = 0 then (if wiS i 0 (μ.1 8 (cl s) - 1) = 0 then fnS μ 0 else up μ 9 (40 * cl s + cl i) (cutS (μ.1 7 (cl s)) v)) else fnS μ (lkP s))) := by
  refine Ct.mk (own := RX5) rfl (by decide) (Nat.le_of_ble_eq_true rfl) (fun x hxl C hQ => ?_)
  subst hxl
  refine v_aload_n C dX5_write_0 rfl rfl ?_
  refine v_iload_n C dX5_write_1 rfl rfl ?_
  refine v_iV C dX5_write_2 mi_X5_whyNone (c_X5_whyNone hM) rfl hM.1.1 hM.1.2 rfl ml_X5_173 (rk_of rfl) rfl (Nat.le_of_ble_eq_true rfl) rfl (px_k ?_)
  refine v_istore C dX5_write_5 (by decide) rfl ?_
  refine v_iload C dX5_write_7 rfl rfl ?_
  refine v_if_ge C 34 12 dX5_write_9 (by decide) rfl (fun h9 => ?_) (fun h9 => ?_)
  · have e9 : ¬ lkM μ s = 0 := fun e => absurd (wy_neg.mpr e) (Int32.not_lt.mpr h9)
    refine v_iload C dX5_write_34 rfl rfl ?_
    refine v_istore C dX5_write_36 (by decide) rfl ?_
    refine v_iload C dX5_write_38 rfl rfl ?_
    refine v_if_lt C 50 43 dX5_write_40 (by decide) rfl (fun h40 => ?_) (fun h40 => ?_)
    · exact absurd h40 (Int32.not_lt.mpr h9)
    · refine v_aload_n C dX5_write_43 rfl rfl ?_
      refine v_iload C dX5_write_44 rfl rfl ?_
      refine v_iV C dX5_write_46 mi_X5_finds (c_X5_finds hM (lkP_lt s) (wy_p e9).1 (wy_p e9).2) rfl hM.1.1 hM.1.2 rfl ml_X5_108 (rk_of rfl) rfl (Nat.le_of_ble_eq_true rfl) rfl (px_k ?_)
      exact v_iret C hQ dX5_write_49 ⟨(if_neg e9).symm, (if_neg e9).symm⟩
  · have e9 : lkM μ s = 0 := wy_neg.mp (Int32.not_le.mp h9)
    have q := lm_i e9
    have z := (hV (cl s) (by omega)).cl (by omega)
    refine v_iload_n C dX5_write_12 rfl rfl ?_
    refine v_i2l C dX5_write_13 rfl ?_
    refine v_lconst (v := 0) C dX5_write_14 rfl rfl ?_
    refine v_aload_n C dX5_write_15 rfl rfl ?_
    refine g_X5_sizeOf C hM.1 dX5_write_16 fl_X5_32 rfl ?_
    refine v_iload_n C dX5_write_19 rfl rfl ?_
    refine a_I C hM.2.2.2.2.2.2.2.2.1 (by decide) dX5_write_20 (cl s) q.1 (by omega) rfl ?_
    refine v_iconst C dX5_write_21 ic_1 rfl ?_
    refine v_isub C dX5_write_22 rfl ?_
    refine v_i2l C dX5_write_23 rfl ?_
    refine v_iS C dX5_write_24 ms_X5_in c_X5_in rfl ml_X5_42 (rk_of rfl) rfl (Nat.le_of_ble_eq_true rfl) rfl (px_k ?_)
    refine v_eqi (in_w (a := (0)) (b := _) (by decide) rfl) ?_
    refine v_if_ne C 34 30 dX5_write_27 (by decide) rfl (fun h27 => ?_) (fun h27 => ?_)
    · have q2 := has_j z.1 z.2 h27
      refine v_iload C dX5_write_34 rfl rfl ?_
      refine v_istore C dX5_write_36 (by decide) rfl ?_
      refine v_iload C dX5_write_38 rfl rfl ?_
      refine v_if_lt C 50 43 dX5_write_40 (by decide) rfl (fun h40 => ?_) (fun h40 => ?_)
      · refine v_aload_n C dX5_write_50 rfl rfl ?_
        refine g_X5_number C hM.1 dX5_write_51 fl_X5_35 rfl ?_
        refine v_bipush C dX5_write_54 bp_40 rfl ?_
        refine v_iload_n C dX5_write_56 rfl rfl ?_
        refine v_imul C dX5_write_57 rfl ?_
        refine v_iload_n C dX5_write_58 rfl rfl ?_
        refine v_iadd C dX5_write_59 rfl ?_
        refine v_aload_n C dX5_write_60 rfl rfl ?_
        refine g_X5_bitsOf C hM.1 dX5_write_61 fl_X5_29 rfl ?_
        refine v_iload_n C dX5_write_64 rfl rfl ?_
        refine a_I C hM.2.2.2.2.2.2.2.1 (by decide) dX5_write_65 (cl s) q.1 (by omega) rfl ?_
        refine v_bipush C dX5_write_66 bp_8 rfl ?_
        refine v_icmp_ne C 76 71 dX5_write_68 (by decide) rfl (fun h68 => ?_) (fun h68 => ?_)
        · refine v_aload_n C dX5_write_76 rfl rfl ?_
          refine g_X5_bitsOf C hM.1 dX5_write_77 fl_X5_29 rfl ?_
          refine v_iload_n C dX5_write_80 rfl rfl ?_
          refine a_I C hM.2.2.2.2.2.2.2.1 (by decide) dX5_write_81 (cl s) q.1 (by omega) rfl ?_
          refine v_bipush C dX5_write_82 bp_16 rfl ?_
          refine v_icmp_ne C 92 87 dX5_write_84 (by decide) rfl (fun h84 => ?_) (fun h84 => ?_)
          · refine v_iload_n C dX5_write_92 rfl rfl ?_
            refine s_I C hM.2.2.2.2.2.2.2.2.2.1 (by decide) dX5_write_93 (40 * cl s + cl i) (by rw [q.1, q2.1, i40, cl_n (by omega), cl_n (by omega)]) (by omega) rfl ?_
            refine v_iconst C dX5_write_94 ic_1 rfl ?_
            exact v_iret C hQ dX5_write_95 ⟨by rw [if_pos e9, if_neg h27], by rw [if_pos e9, if_neg h27]; unfold cutS; first | (rw [if_pos h68]; done) | (rw [if_neg h68, if_pos h84]; done) | (rw [if_neg h68, if_neg h84]; done)⟩
          · refine v_iload_n C dX5_write_87 rfl rfl ?_
            refine v_i2s C dX5_write_88 rfl ?_
            refine v_goto C 93 dX5_write_89 (by decide) ?_
            refine s_I C hM.2.2.2.2.2.2.2.2.2.1 (by decide) dX5_write_93 (40 * cl s + cl i) (by rw [q.1, q2.1, i40, cl_n (by omega), cl_n (by omega)]) (by omega) rfl ?_
            refine v_iconst C dX5_write_94 ic_1 rfl ?_
            exact v_iret C hQ dX5_write_95 ⟨by rw [if_pos e9, if_neg h27], by rw [if_pos e9, if_neg h27]; unfold cutS; first | (rw [if_pos h68]; done) | (rw [if_neg h68, if_pos h84]; done) | (rw [if_neg h68, if_neg h84]; done)⟩
        · refine v_iload_n C dX5_write_71 rfl rfl ?_
          refine v_i2b C dX5_write_72 rfl ?_
          refine v_goto C 93 dX5_write_73 (by decide) ?_
          refine s_I C hM.2.2.2.2.2.2.2.2.2.1 (by decide) dX5_write_93 (40 * cl s + cl i) (by rw [q.1, q2.1, i40, cl_n (by omega), cl_n (by omega)]) (by omega) rfl ?_
          refine v_iconst C dX5_write_94 ic_1 rfl ?_
          exact v_iret C hQ dX5_write_95 ⟨by rw [if_pos e9, if_neg h27], by rw [if_pos e9, if_neg h27]; unfold cutS; first | (rw [if_pos h68]; done) | (rw [if_neg h68, if_pos h84]; done) | (rw [if_neg h68, if_neg h84]; done)⟩
      · exact absurd (wy_neg.mpr e9) h40
    · refine v_iconst C dX5_write_30 ic_0 rfl ?_
      refine v_goto C 36 dX5_write_31 (by decide) ?_
      refine v_istore C dX5_write_36 (by decide) rfl ?_
      refine v_iload C dX5_write_38 rfl rfl ?_
      refine v_if_lt C 50 43 dX5_write_40 (by decide) rfl (fun h40 => ?_) (fun h40 => ?_)
      · exact absurd h40 (by decide)
      · refine v_aload_n C dX5_write_43 rfl rfl ?_
        refine v_iload C dX5_write_44 rfl rfl ?_
        refine v_iV C dX5_write_46 mi_X5_finds (c_X5_finds hM (p := 0) (e := -1000001) (by decide) rfl (by decide)) rfl hM.1.1 hM.1.2 rfl ml_X5_108 (rk_of rfl) rfl (Nat.le_of_ble_eq_true rfl) rfl (px_k ?_)
        exact v_iret C hQ dX5_write_49 ⟨by rw [if_pos e9, if_pos h27], by rw [if_pos e9, if_pos h27]⟩

set_option maxRecDepth 100000 in
set_option maxHeartbeats 4000000 in
theorem lp_X5_copy_160 {w : WC} {x : Cy} {μ : Me} (hM : Md w) (hV : IvZ μ) {s f t g n : Int32} (nc : ¬ (wiS s 0 3 = 0 ∨ wiS t 0 3 = 0)) (n2 : ¬ (μ.1 7 (cl s) = 0 ∨ μ.1 7 (cl t) = 0)) (c3 : μ.1 7 (cl s) = μ.1 7 (cl t)) (n4 : ¬ (hrS (μ.1 8 (cl s)) f n = 0 ∨ hrS (μ.1 8 (cl t)) g n = 0)) (qs : s = nI (cl s) ∧ cl s ≤ 3) (qt : t = nI (cl t) ∧ cl t ≤ 3) (qf : f = nI (cl f)) (qg : g = nI (cl g)) (qn : n = nI (cl n)) (z1 : cl f + cl n ≤ 40) (z2 : cl g + cl n ≤ 40) (C : Cx w x cX5_copy 7 RX5 (some .int) (Rm 2 45)) (hQ : y_Q x = MQ (y_b x) (QI w (Px (if wiS s 0 3 = 0 ∨ wiS t 0 3 = 0 then -1000001 else if μ.1 7 (cl s) = 0 ∨ μ.1 7 (cl t) = 0 then -1000006 else if μ.1 7 (cl s) = μ.1 7 (cl t) then (if hrS (μ.1 8 (cl s)) f n = 0 ∨ hrS (μ.1 8 (cl t)) g n = 0 then -1000001 else n) else -1000003) (if wiS s 0 3 = 0 ∨ wiS t 0 3 = 0 then fnS μ 0 else if μ.1 7 (cl s) = 0 ∨ μ.1 7 (cl t) = 0 then fnS μ 5 else if μ.1 7 (cl s) = μ.1 7 (cl t) then (if hrS (μ.1 8 (cl s)) f n = 0 ∨ hrS (μ.1 8 (cl t)) g n = 0 then fnS μ 0 else cpM μ (cl s) (cl f) (cl t) (cl g) (cl n)) else fnS μ 2))) (y_a x) (y_s x) 0 0 (AA w)) : ∀ (m i : Nat), (cl n) + 1 ≤ i + m → i ≤ (cl n) → V w x 7 (ua (ua μ 10 (cpP (μ.1 9) (μ.1 10) (40 * cl s + cl f) (cl n))) 9 (cpN (cpP (μ.1 9) (μ.1 10) (40 * cl s + cl f) (cl n)) (μ.1 9) (40 * cl t + cl g) i)) 160 [(0, .ref (w_ad w 0)), (1, .int s), (2, .int f), (3, .int t), (4, .int g), (5, .int n), (6, .int (nI i))] [] := by
  intro m
  induction m with
  | zero =>
    intro i  hm hi
    exact absurd hm (by omega)
  | succ m ih =>
    intro i  hm hi 
    refine v_iload C dX5_copy_160 rfl rfl ?_
    refine v_iload C dX5_copy_162 rfl rfl ?_
    refine v_icmp_ge C 195 167 dX5_copy_164 (by decide) rfl (fun h164 => ?_) (fun h164 => ?_)
    · rw [qn] at h164
      have gg : i = cl n := by have := (le_n (a := cl n) (b := i) (by omega) (by omega)).mp h164; omega
      refine v_iload C dX5_copy_195 rfl rfl ?_
      exact v_iret C hQ dX5_copy_197 ⟨by rw [if_neg nc, if_neg n2, if_pos c3, if_neg n4], by rw [if_neg nc, if_neg n2, if_pos c3, if_neg n4, gg]; rfl⟩
    · rw [qn] at h164
      have gg : i < cl n := by rcases Nat.lt_or_ge i (cl n) with q | q; exact q; exact absurd ((le_n (a := cl n) (b := i) (by omega) (by omega)).mpr q) h164
      refine v_aload_n C dX5_copy_167 rfl rfl ?_
      refine g_X5_number C hM.1 dX5_copy_168 fl_X5_35 rfl ?_
      refine v_bipush C dX5_copy_171 bp_40 rfl ?_
      refine v_iload_n C dX5_copy_173 rfl rfl ?_
      refine v_imul C dX5_copy_174 rfl ?_
      refine v_iload C dX5_copy_175 rfl rfl ?_
      refine v_iadd C dX5_copy_177 rfl ?_
      refine v_iload C dX5_copy_178 rfl rfl ?_
      refine v_iadd C dX5_copy_180 rfl ?_
      refine v_aload_n C dX5_copy_181 rfl rfl ?_
      refine g_X5_passing C hM.1 dX5_copy_182 fl_X5_38 rfl ?_
      refine v_iload C dX5_copy_185 rfl rfl ?_
      refine a_I C hM.2.2.2.2.2.2.2.2.2.2.1 (by decide) dX5_copy_187 (i) rfl (by omega) rfl ?_
      refine s_I C hM.2.2.2.2.2.2.2.2.2.1 (by decide) dX5_copy_188 (40 * cl t + cl g + i) (by rw [qt.1, qg, i40_2, cl_n (by omega), cl_n (by omega)]) (by omega) rfl ?_
      refine v_iincN C dX5_copy_189 rfl (by decide) rfl ?_
      refine v_goto C 160 dX5_copy_192 (by decide) ?_
      refine v_mem ?_ (V.norm (ih (i + 1) (by omega) (by omega)) rfl)
      rw [up_ua, ua_n _ _ (by decide), ua_s, cpN_s]
set_option maxRecDepth 100000 in
set_option maxHeartbeats 4000000 in
theorem lp_X5_copy_123 {w : WC} {x : Cy} {μ : Me} (hM : Md w) (hV : IvZ μ) {s f t g n : Int32} (nc : ¬ (wiS s 0 3 = 0 ∨ wiS t 0 3 = 0)) (n2 : ¬ (μ.1 7 (cl s) = 0 ∨ μ.1 7 (cl t) = 0)) (c3 : μ.1 7 (cl s) = μ.1 7 (cl t)) (n4 : ¬ (hrS (μ.1 8 (cl s)) f n = 0 ∨ hrS (μ.1 8 (cl t)) g n = 0)) (qs : s = nI (cl s) ∧ cl s ≤ 3) (qt : t = nI (cl t) ∧ cl t ≤ 3) (qf : f = nI (cl f)) (qg : g = nI (cl g)) (qn : n = nI (cl n)) (z1 : cl f + cl n ≤ 40) (z2 : cl g + cl n ≤ 40) (C : Cx w x cX5_copy 7 RX5 (some .int) (Rm 2 45)) (hQ : y_Q x = MQ (y_b x) (QI w (Px (if wiS s 0 3 = 0 ∨ wiS t 0 3 = 0 then -1000001 else if μ.1 7 (cl s) = 0 ∨ μ.1 7 (cl t) = 0 then -1000006 else if μ.1 7 (cl s) = μ.1 7 (cl t) then (if hrS (μ.1 8 (cl s)) f n = 0 ∨ hrS (μ.1 8 (cl t)) g n = 0 then -1000001 else n) else -1000003) (if wiS s 0 3 = 0 ∨ wiS t 0 3 = 0 then fnS μ 0 else if μ.1 7 (cl s) = 0 ∨ μ.1 7 (cl t) = 0 then fnS μ 5 else if μ.1 7 (cl s) = μ.1 7 (cl t) then (if hrS (μ.1 8 (cl s)) f n = 0 ∨ hrS (μ.1 8 (cl t)) g n = 0 then fnS μ 0 else cpM μ (cl s) (cl f) (cl t) (cl g) (cl n)) else fnS μ 2))) (y_a x) (y_s x) 0 0 (AA w)) : ∀ (m i : Nat), (cl n) + 1 ≤ i + m → i ≤ (cl n) → V w x 7 (ua μ 10 (cpP (μ.1 9) (μ.1 10) (40 * cl s + cl f) i)) 123 [(0, .ref (w_ad w 0)), (1, .int s), (2, .int f), (3, .int t), (4, .int g), (5, .int n), (6, .int (nI i))] [] := by
  intro m
  induction m with
  | zero =>
    intro i  hm hi
    exact absurd hm (by omega)
  | succ m ih =>
    intro i  hm hi 
    refine v_iload C dX5_copy_123 rfl rfl ?_
    refine v_iload C dX5_copy_125 rfl rfl ?_
    refine v_icmp_ge C 157 130 dX5_copy_127 (by decide) rfl (fun h127 => ?_) (fun h127 => ?_)
    · rw [qn] at h127
      have gg : i = cl n := by have := (le_n (a := cl n) (b := i) (by omega) (by omega)).mp h127; omega
      refine v_iconst C dX5_copy_157 ic_0 rfl ?_
      refine v_istore C dX5_copy_158 (by decide) rfl ?_
      refine v_mem ?_ (V.norm (lp_X5_copy_160 (μ := μ) hM hV nc n2 c3 n4 qs qt qf qg qn z1 z2 C hQ (cl n + 1) 0 (by omega) (Nat.zero_le _)) rfl)
      rw [gg, cpN_0]
      exact ua_same (ua_n _ _ (by decide)).symm
    · rw [qn] at h127
      have gg : i < cl n := by rcases Nat.lt_or_ge i (cl n) with q | q; exact q; exact absurd ((le_n (a := cl n) (b := i) (by omega) (by omega)).mpr q) h127
      refine v_aload_n C dX5_copy_130 rfl rfl ?_
      refine g_X5_passing C hM.1 dX5_copy_131 fl_X5_38 rfl ?_
      refine v_iload C dX5_copy_134 rfl rfl ?_
      refine v_aload_n C dX5_copy_136 rfl rfl ?_
      refine g_X5_number C hM.1 dX5_copy_137 fl_X5_35 rfl ?_
      refine v_bipush C dX5_copy_140 bp_40 rfl ?_
      refine v_iload_n C dX5_copy_142 rfl rfl ?_
      refine v_imul C dX5_copy_143 rfl ?_
      refine v_iload_n C dX5_copy_144 rfl rfl ?_
      refine v_iadd C dX5_copy_145 rfl ?_
      refine v_iload C dX5_copy_146 rfl rfl ?_
      refine v_iadd C dX5_copy_148 rfl ?_
      refine a_I C hM.2.2.2.2.2.2.2.2.2.1 (by decide) dX5_copy_149 (40 * cl s + cl f + i) (by rw [qs.1, qf, i40_2, cl_n (by omega), cl_n (by omega)]) (by omega) rfl ?_
      refine s_I C hM.2.2.2.2.2.2.2.2.2.2.1 (by decide) dX5_copy_150 (i) rfl (by omega) rfl ?_
      refine v_iincN C dX5_copy_151 rfl (by decide) rfl ?_
      refine v_goto C 123 dX5_copy_154 (by decide) ?_
      refine v_mem ?_ (V.norm (ih (i + 1) (by omega) (by omega)) rfl)
      rw [up_ua, ua_n _ _ (by decide), cpP_s]
set_option maxRecDepth 100000 in
set_option maxHeartbeats 4000000 in
theorem c_X5_copy {l : Launch} {w : WC} {μ : Me} (hM : Md w) (hV : IvZ μ) {s f t g n : Int32} : CtI l w yX5_copy cX5_copy 7 (some .int) (Rm 2 45) [.ref (w_ad w 0), .int s, .int f, .int t, .int g, .int n] μ (Px (if wiS s 0 3 = 0 ∨ wiS t 0 3 = 0 then -1000001 else if μ.1 7 (cl s) = 0 ∨ μ.1 7 (cl t) = 0 then -1000006 else if μ.1 7 (cl s) = μ.1 7 (cl t) then (if hrS (μ.1 8 (cl s)) f n = 0 ∨ hrS (μ.1 8 (cl t)) g n = 0 then -1000001 else n) else -1000003) (if wiS s 0 3 = 0 ∨ wiS t 0 3 = 0 then fnS μ 0 else if μ.1 7 (cl s) = 0 ∨ μ.1 7 (cl t) = 0 then fnS μ 5 else if μ.1 7 (cl s) = μ.1 7 (cl t) then (if hrS (μ.1 8 (cl s)) f n = 0 ∨ hrS (μ.1 8 (cl t)) g n = 0 then fnS μ 0 else cpM μ (cl s) (cl f) (cl t) (cl g) (cl n)) else fnS μ 2)) := by
  refine Ct.mk (own := RX5) rfl (by decide) (Nat.le_of_ble_eq_true rfl) (fun x hxl C hQ => ?_)
  subst hxl
  refine v_iload_n C dX5_copy_0 rfl rfl ?_
  refine v_iS C dX5_copy_1 ms_X5_isSheet c_X5_isSheet rfl ml_X5_296 (rk_of rfl) rfl (Nat.le_of_ble_eq_true rfl) rfl (px_k ?_)
  refine v_if_eq C 14 7 dX5_copy_4 (by decide) rfl (fun h4 => ?_) (fun h4 => ?_)
  · refine v_aload_n C dX5_copy_14 rfl rfl ?_
    refine v_iconst C dX5_copy_15 ic_0 rfl ?_
    refine v_iV C dX5_copy_16 mi_X5_finds (c_X5_finds hM (p := 0) (e := -1000001) (by decide) rfl (by decide)) rfl hM.1.1 hM.1.2 rfl ml_X5_108 (rk_of rfl) rfl (Nat.le_of_ble_eq_true rfl) rfl (px_k ?_)
    exact v_iret C hQ dX5_copy_19 ⟨(if_pos (by first | exact Or.inl h4 | exact Or.inr h11)).symm, (if_pos (by first | exact Or.inl h4 | exact Or.inr h11)).symm⟩
  · refine v_iload_n C dX5_copy_7 rfl rfl ?_
    refine v_iS C dX5_copy_8 ms_X5_isSheet c_X5_isSheet rfl ml_X5_296 (rk_of rfl) rfl (Nat.le_of_ble_eq_true rfl) rfl (px_k ?_)
    refine v_if_ne C 20 14 dX5_copy_11 (by decide) rfl (fun h11 => ?_) (fun h11 => ?_)
    · have qs := wi_i (m := 3) (by omega) h4
      have qt := wi_i (m := 3) (by omega) h11
      have zs := (hV (cl s) (by omega)).cl (by omega)
      have zt := (hV (cl t) (by omega)).cl (by omega)
      refine v_aload_n C dX5_copy_20 rfl rfl ?_
      refine g_X5_bitsOf C hM.1 dX5_copy_21 fl_X5_29 rfl ?_
      refine v_iload_n C dX5_copy_24 rfl rfl ?_
      refine a_I C hM.2.2.2.2.2.2.2.1 (by decide) dX5_copy_25 (cl s) qs.1 (by omega) rfl ?_
      refine v_if_eq C 38 29 dX5_copy_26 (by decide) rfl (fun h26 => ?_) (fun h26 => ?_)
      · refine v_aload_n C dX5_copy_38 rfl rfl ?_
        refine v_iconst C dX5_copy_39 ic_5 rfl ?_
        refine v_iV C dX5_copy_40 mi_X5_finds (c_X5_finds hM (p := 5) (e := -1000006) (by decide) rfl (by decide)) rfl hM.1.1 hM.1.2 rfl ml_X5_108 (rk_of rfl) rfl (Nat.le_of_ble_eq_true rfl) rfl (px_k ?_)
        exact v_iret C hQ dX5_copy_43 ⟨by rw [if_neg (fun h => h.elim h4 h11), if_pos (by first | exact Or.inl h26 | exact Or.inr h35)], by rw [if_neg (fun h => h.elim h4 h11), if_pos (by first | exact Or.inl h26 | exact Or.inr h35)]⟩
      · refine v_aload_n C dX5_copy_29 rfl rfl ?_
        refine g_X5_bitsOf C hM.1 dX5_copy_30 fl_X5_29 rfl ?_
        refine v_iload_n C dX5_copy_33 rfl rfl ?_
        refine a_I C hM.2.2.2.2.2.2.2.1 (by decide) dX5_copy_34 (cl t) qt.1 (by omega) rfl ?_
        refine v_if_ne C 44 38 dX5_copy_35 (by decide) rfl (fun h35 => ?_) (fun h35 => ?_)
        · refine v_aload_n C dX5_copy_44 rfl rfl ?_
          refine g_X5_bitsOf C hM.1 dX5_copy_45 fl_X5_29 rfl ?_
          refine v_iload_n C dX5_copy_48 rfl rfl ?_
          refine a_I C hM.2.2.2.2.2.2.2.1 (by decide) dX5_copy_49 (cl s) qs.1 (by omega) rfl ?_
          refine v_aload_n C dX5_copy_50 rfl rfl ?_
          refine g_X5_bitsOf C hM.1 dX5_copy_51 fl_X5_29 rfl ?_
          refine v_iload_n C dX5_copy_54 rfl rfl ?_
          refine a_I C hM.2.2.2.2.2.2.2.1 (by decide) dX5_copy_55 (cl t) qt.1 (by omega) rfl ?_
          refine v_icmp_eq C 65 59 dX5_copy_56 (by decide) rfl (fun h56 => ?_) (fun h56 => ?_)
          · refine v_iload_n C dX5_copy_65 rfl rfl ?_
            refine v_if_lt C 114 69 dX5_copy_66 (by decide) rfl (fun h66 => ?_) (fun h66 => ?_)
            · refine v_aload_n C dX5_copy_114 rfl rfl ?_
              refine v_iconst C dX5_copy_115 ic_0 rfl ?_
              refine v_iV C dX5_copy_116 mi_X5_finds (c_X5_finds hM (p := 0) (e := -1000001) (by decide) rfl (by decide)) rfl hM.1.1 hM.1.2 rfl ml_X5_108 (rk_of rfl) rfl (Nat.le_of_ble_eq_true rfl) rfl (px_k ?_)
              exact v_iret C hQ dX5_copy_119 (by have w4 : hrS (μ.1 8 (cl s)) f n = 0 ∨ hrS (μ.1 8 (cl t)) g n = 0 := (by first | exact Or.inl (hr_0f h66) | exact Or.inr (hr_0f h71) | exact Or.inl (hr_0n h76) | exact Or.inl y1 | exact Or.inr y2); exact ⟨by rw [if_neg (fun h => h.elim h4 h11), if_neg (fun h => h.elim h26 h35), if_pos h56, if_pos w4], by rw [if_neg (fun h => h.elim h4 h11), if_neg (fun h => h.elim h26 h35), if_pos h56, if_pos w4]⟩)
            · refine v_iload C dX5_copy_69 rfl rfl ?_
              refine v_if_lt C 114 74 dX5_copy_71 (by decide) rfl (fun h71 => ?_) (fun h71 => ?_)
              · refine v_aload_n C dX5_copy_114 rfl rfl ?_
                refine v_iconst C dX5_copy_115 ic_0 rfl ?_
                refine v_iV C dX5_copy_116 mi_X5_finds (c_X5_finds hM (p := 0) (e := -1000001) (by decide) rfl (by decide)) rfl hM.1.1 hM.1.2 rfl ml_X5_108 (rk_of rfl) rfl (Nat.le_of_ble_eq_true rfl) rfl (px_k ?_)
                exact v_iret C hQ dX5_copy_119 (by have w4 : hrS (μ.1 8 (cl s)) f n = 0 ∨ hrS (μ.1 8 (cl t)) g n = 0 := (by first | exact Or.inl (hr_0f h66) | exact Or.inr (hr_0f h71) | exact Or.inl (hr_0n h76) | exact Or.inl y1 | exact Or.inr y2); exact ⟨by rw [if_neg (fun h => h.elim h4 h11), if_neg (fun h => h.elim h26 h35), if_pos h56, if_pos w4], by rw [if_neg (fun h => h.elim h4 h11), if_neg (fun h => h.elim h26 h35), if_pos h56, if_pos w4]⟩)
              · refine v_iload C dX5_copy_74 rfl rfl ?_
                refine v_if_lt C 114 79 dX5_copy_76 (by decide) rfl (fun h76 => ?_) (fun h76 => ?_)
                · refine v_aload_n C dX5_copy_114 rfl rfl ?_
                  refine v_iconst C dX5_copy_115 ic_0 rfl ?_
                  refine v_iV C dX5_copy_116 mi_X5_finds (c_X5_finds hM (p := 0) (e := -1000001) (by decide) rfl (by decide)) rfl hM.1.1 hM.1.2 rfl ml_X5_108 (rk_of rfl) rfl (Nat.le_of_ble_eq_true rfl) rfl (px_k ?_)
                  exact v_iret C hQ dX5_copy_119 (by have w4 : hrS (μ.1 8 (cl s)) f n = 0 ∨ hrS (μ.1 8 (cl t)) g n = 0 := (by first | exact Or.inl (hr_0f h66) | exact Or.inr (hr_0f h71) | exact Or.inl (hr_0n h76) | exact Or.inl y1 | exact Or.inr y2); exact ⟨by rw [if_neg (fun h => h.elim h4 h11), if_neg (fun h => h.elim h26 h35), if_pos h56, if_pos w4], by rw [if_neg (fun h => h.elim h4 h11), if_neg (fun h => h.elim h26 h35), if_pos h56, if_pos w4]⟩)
                · refine v_iload_n C dX5_copy_79 rfl rfl ?_
                  refine v_i2l C dX5_copy_80 rfl ?_
                  refine v_iload C dX5_copy_81 rfl rfl ?_
                  refine v_i2l C dX5_copy_83 rfl ?_
                  refine v_ladd C dX5_copy_84 rfl ?_
                  refine v_aload_n C dX5_copy_85 rfl rfl ?_
                  refine g_X5_sizeOf C hM.1 dX5_copy_86 fl_X5_32 rfl ?_
                  refine v_iload_n C dX5_copy_89 rfl rfl ?_
                  refine a_I C hM.2.2.2.2.2.2.2.2.1 (by decide) dX5_copy_90 (cl s) qs.1 (by omega) rfl ?_
                  refine v_i2l C dX5_copy_91 rfl ?_
                  refine v_lcmp C dX5_copy_92 rfl ?_
                  refine v_if_gt C 114 96 dX5_copy_93 (by decide) rfl (fun h93 => ?_) (fun h93 => ?_)
                  · have y1 : hrS (μ.1 8 (cl s)) f n = 0 := (hr_m zs.1 zs.2 (Int32.not_lt.mp h66) (Int32.not_lt.mp h76)).mpr (Int64.not_le.mpr ((lg_cmp_gt _ _).mp h93))
                    refine v_aload_n C dX5_copy_114 rfl rfl ?_
                    refine v_iconst C dX5_copy_115 ic_0 rfl ?_
                    refine v_iV C dX5_copy_116 mi_X5_finds (c_X5_finds hM (p := 0) (e := -1000001) (by decide) rfl (by decide)) rfl hM.1.1 hM.1.2 rfl ml_X5_108 (rk_of rfl) rfl (Nat.le_of_ble_eq_true rfl) rfl (px_k ?_)
                    exact v_iret C hQ dX5_copy_119 (by have w4 : hrS (μ.1 8 (cl s)) f n = 0 ∨ hrS (μ.1 8 (cl t)) g n = 0 := (by first | exact Or.inl (hr_0f h66) | exact Or.inr (hr_0f h71) | exact Or.inl (hr_0n h76) | exact Or.inl y1 | exact Or.inr y2); exact ⟨by rw [if_neg (fun h => h.elim h4 h11), if_neg (fun h => h.elim h26 h35), if_pos h56, if_pos w4], by rw [if_neg (fun h => h.elim h4 h11), if_neg (fun h => h.elim h26 h35), if_pos h56, if_pos w4]⟩)
                  · have y1 : ¬ hrS (μ.1 8 (cl s)) f n = 0 := fun e => (hr_m zs.1 zs.2 (Int32.not_lt.mp h66) (Int32.not_lt.mp h76)).mp e (Int64.not_lt.mp (fun h => h93 ((lg_cmp_gt _ _).mpr h)))
                    refine v_iload C dX5_copy_96 rfl rfl ?_
                    refine v_i2l C dX5_copy_98 rfl ?_
                    refine v_iload C dX5_copy_99 rfl rfl ?_
                    refine v_i2l C dX5_copy_101 rfl ?_
                    refine v_ladd C dX5_copy_102 rfl ?_
                    refine v_aload_n C dX5_copy_103 rfl rfl ?_
                    refine g_X5_sizeOf C hM.1 dX5_copy_104 fl_X5_32 rfl ?_
                    refine v_iload_n C dX5_copy_107 rfl rfl ?_
                    refine a_I C hM.2.2.2.2.2.2.2.2.1 (by decide) dX5_copy_108 (cl t) qt.1 (by omega) rfl ?_
                    refine v_i2l C dX5_copy_109 rfl ?_
                    refine v_lcmp C dX5_copy_110 rfl ?_
                    refine v_if_le C 120 114 dX5_copy_111 (by decide) rfl (fun h111 => ?_) (fun h111 => ?_)
                    · have y2 : ¬ hrS (μ.1 8 (cl t)) g n = 0 := fun e => (hr_m zt.1 zt.2 (Int32.not_lt.mp h71) (Int32.not_lt.mp h76)).mp e ((lg_cmp_le _ _).mp h111)
                      have x1 := hr_i zs.1 zs.2 y1
                      have x2 := hr_i zt.1 zt.2 y2
                      refine v_iconst C dX5_copy_120 ic_0 rfl ?_
                      refine v_istore C dX5_copy_121 (by decide) rfl ?_
                      refine v_mem ?_ (V.norm (lp_X5_copy_123 (μ := μ) hM hV (fun h => h.elim h4 h11) (fun h => h.elim h26 h35) h56 (fun h => h.elim y1 y2) qs qt x1.1 x2.1 x1.2.1 (by omega) (by omega) C hQ (cl n + 1) 0 (by omega) (Nat.zero_le _)) rfl)
                      rw [cpP_0, ua_self]
                    · have y2 : hrS (μ.1 8 (cl t)) g n = 0 := (hr_m zt.1 zt.2 (Int32.not_lt.mp h71) (Int32.not_lt.mp h76)).mpr (fun h => h111 ((lg_cmp_le _ _).mpr h))
                      refine v_aload_n C dX5_copy_114 rfl rfl ?_
                      refine v_iconst C dX5_copy_115 ic_0 rfl ?_
                      refine v_iV C dX5_copy_116 mi_X5_finds (c_X5_finds hM (p := 0) (e := -1000001) (by decide) rfl (by decide)) rfl hM.1.1 hM.1.2 rfl ml_X5_108 (rk_of rfl) rfl (Nat.le_of_ble_eq_true rfl) rfl (px_k ?_)
                      exact v_iret C hQ dX5_copy_119 (by have w4 : hrS (μ.1 8 (cl s)) f n = 0 ∨ hrS (μ.1 8 (cl t)) g n = 0 := (by first | exact Or.inl (hr_0f h66) | exact Or.inr (hr_0f h71) | exact Or.inl (hr_0n h76) | exact Or.inl y1 | exact Or.inr y2); exact ⟨by rw [if_neg (fun h => h.elim h4 h11), if_neg (fun h => h.elim h26 h35), if_pos h56, if_pos w4], by rw [if_neg (fun h => h.elim h4 h11), if_neg (fun h => h.elim h26 h35), if_pos h56, if_pos w4]⟩)
          · refine v_aload_n C dX5_copy_59 rfl rfl ?_
            refine v_iconst C dX5_copy_60 ic_2 rfl ?_
            refine v_iV C dX5_copy_61 mi_X5_finds (c_X5_finds hM (p := 2) (e := -1000003) (by decide) rfl (by decide)) rfl hM.1.1 hM.1.2 rfl ml_X5_108 (rk_of rfl) rfl (Nat.le_of_ble_eq_true rfl) rfl (px_k ?_)
            exact v_iret C hQ dX5_copy_64 ⟨by rw [if_neg (fun h => h.elim h4 h11), if_neg (fun h => h.elim h26 h35), if_neg h56], by rw [if_neg (fun h => h.elim h4 h11), if_neg (fun h => h.elim h26 h35), if_neg h56]⟩
        · refine v_aload_n C dX5_copy_38 rfl rfl ?_
          refine v_iconst C dX5_copy_39 ic_5 rfl ?_
          refine v_iV C dX5_copy_40 mi_X5_finds (c_X5_finds hM (p := 5) (e := -1000006) (by decide) rfl (by decide)) rfl hM.1.1 hM.1.2 rfl ml_X5_108 (rk_of rfl) rfl (Nat.le_of_ble_eq_true rfl) rfl (px_k ?_)
          exact v_iret C hQ dX5_copy_43 ⟨by rw [if_neg (fun h => h.elim h4 h11), if_pos (by first | exact Or.inl h26 | exact Or.inr h35)], by rw [if_neg (fun h => h.elim h4 h11), if_pos (by first | exact Or.inl h26 | exact Or.inr h35)]⟩
    · refine v_aload_n C dX5_copy_14 rfl rfl ?_
      refine v_iconst C dX5_copy_15 ic_0 rfl ?_
      refine v_iV C dX5_copy_16 mi_X5_finds (c_X5_finds hM (p := 0) (e := -1000001) (by decide) rfl (by decide)) rfl hM.1.1 hM.1.2 rfl ml_X5_108 (rk_of rfl) rfl (Nat.le_of_ble_eq_true rfl) rfl (px_k ?_)
      exact v_iret C hQ dX5_copy_19 ⟨(if_pos (by first | exact Or.inl h4 | exact Or.inr h11)).symm, (if_pos (by first | exact Or.inl h4 | exact Or.inr h11)).symm⟩

set_option maxRecDepth 100000 in
set_option maxHeartbeats 4000000 in
theorem lp_X5_load_18 {w : WC} {x : Cy} {μ : Me} (hM : Md w) (hV : IvZ μ) {s : Int32} (hl : lkM μ s = 0) (q : s = nI (cl s) ∧ cl s ≤ 3 ∧ ¬ μ.1 7 (cl s) = 0) (z : (cl (μ.1 8 (cl s))) ≤ 40 ∧ μ.1 8 (cl s) = nI (cl (μ.1 8 (cl s)))) (C : Cx w x cX5_load 4 RX5 (some .int) (Rm 3 66)) (hQ : y_Q x = MQ (y_b x) (QI w (Px (if lkM μ s = 0 then nI (ldN (fun j => μ.1 9 (40 * cl s + j)) (cl (μ.1 8 (cl s))) 7 0) else lkM μ s) (if lkM μ s = 0 then ua μ 1 (ldD (fun j => μ.1 9 (40 * cl s + j)) (μ.1 1) (ldN (fun j => μ.1 9 (40 * cl s + j)) (cl (μ.1 8 (cl s))) 7 0)) else fnS μ (lkP s)))) (y_a x) (y_s x) 0 0 (AA w)) : ∀ (m i : Nat), 6 + 1 ≤ i + m → i ≤ 6 → (ldN (fun j => μ.1 9 (40 * cl s + j)) (cl (μ.1 8 (cl s))) 7 0 = ldN (fun j => μ.1 9 (40 * cl s + j)) (cl (μ.1 8 (cl s))) (7 - i) i) → V w x 4 (ua μ 1 (ldD (fun j => μ.1 9 (40 * cl s + j)) (μ.1 1) i)) 18 [(0, .ref (w_ad w 0)), (1, .int s), (2, .int (wyS μ s)), (3, .int (nI i))] [] := by
  intro m
  induction m with
  | zero =>
    intro i  hm hi
    exact absurd hm (by omega)
  | succ m ih =>
    intro i  hm hi hE
    have r8 : (ua μ 1 (ldD (fun j => μ.1 9 (40 * cl s + j)) (μ.1 1) i)).1 8 = μ.1 8 := ua_n _ _ (by decide)
    have r9 : (ua μ 1 (ldD (fun j => μ.1 9 (40 * cl s + j)) (μ.1 1) i)).1 9 = μ.1 9 := ua_n _ _ (by decide)
    refine v_iload_n C dX5_load_18 rfl rfl ?_
    refine v_aload_n C dX5_load_19 rfl rfl ?_
    refine g_X5_sizeOf C hM.1 dX5_load_20 fl_X5_32 rfl ?_
    refine v_iload_n C dX5_load_23 rfl rfl ?_
    refine a_I C hM.2.2.2.2.2.2.2.2.1 (by decide) dX5_load_24 (cl s) q.1 (by omega) rfl ?_
    refine v_eqi ((congrFun r8 (cl s)).trans z.2) ?_
    refine v_icmp_ge C 82 28 dX5_load_25 (by decide) rfl (fun h25 => ?_) (fun h25 => ?_)
    · have g2 : (cl (μ.1 8 (cl s))) ≤ i := (le_n (a := (cl (μ.1 8 (cl s)))) (b := i) (by omega) (by omega)).mp h25
      have gg : ¬ (i < 6 ∧ i < (cl (μ.1 8 (cl s))) ∧ ¬ wiS ((fun j => μ.1 9 (40 * cl s + j)) i) 0 255 = 0) := fun h => by omega
      refine v_iload_n C dX5_load_82 rfl rfl ?_
      exact v_iret C hQ dX5_load_83 ⟨by rw [if_pos hl, hE, show 7 - i = (6 - i) + 1 by omega, ldN_0 gg], by rw [if_pos hl, hE, show 7 - i = (6 - i) + 1 by omega, ldN_0 gg]⟩
    · have g2 : i < (cl (μ.1 8 (cl s))) := by rcases Nat.lt_or_ge i (cl (μ.1 8 (cl s))) with y | y; exact y; exact absurd ((le_n (a := (cl (μ.1 8 (cl s)))) (b := i) (by omega) (by omega)).mpr y) h25
      refine v_iload_n C dX5_load_28 rfl rfl ?_
      refine v_bipush C dX5_load_29 bp_6 rfl ?_
      refine v_icmp_ge C 82 34 dX5_load_31 (by decide) rfl (fun h31 => ?_) (fun h31 => ?_)
      · have g : i = 6 := by have := (le_n (a := 6) (b := i) (by omega) (by omega)).mp h31; omega
        have gg : ¬ (i < 6 ∧ i < (cl (μ.1 8 (cl s))) ∧ ¬ wiS ((fun j => μ.1 9 (40 * cl s + j)) i) 0 255 = 0) := fun h => by omega
        refine v_iload_n C dX5_load_82 rfl rfl ?_
        exact v_iret C hQ dX5_load_83 ⟨by rw [if_pos hl, hE, show 7 - i = (6 - i) + 1 by omega, ldN_0 gg], by rw [if_pos hl, hE, show 7 - i = (6 - i) + 1 by omega, ldN_0 gg]⟩
      · have g : i < 6 := by rcases Nat.lt_or_ge i (6) with q | q; exact q; exact absurd ((le_n (a := 6) (b := i) (by omega) (by omega)).mpr q) h31
        refine v_aload_n C dX5_load_34 rfl rfl ?_
        refine g_X5_number C hM.1 dX5_load_35 fl_X5_35 rfl ?_
        refine v_bipush C dX5_load_38 bp_40 rfl ?_
        refine v_iload_n C dX5_load_40 rfl rfl ?_
        refine v_imul C dX5_load_41 rfl ?_
        refine v_iload_n C dX5_load_42 rfl rfl ?_
        refine v_iadd C dX5_load_43 rfl ?_
        refine a_I C hM.2.2.2.2.2.2.2.2.2.1 (by decide) dX5_load_44 (40 * cl s + i) (by rw [q.1, i40, cl_n (by omega)]) (by omega) rfl ?_
        refine v_eqi (congrFun r9 (40 * cl s + i)) ?_
        refine v_i2l C dX5_load_45 rfl ?_
        refine v_lconst (v := 0) C dX5_load_46 rfl rfl ?_
        refine v_ldc2 C dX5_load_47 cn_X5_118 rfl ?_
        refine v_iS C dX5_load_50 ms_X5_in c_X5_in rfl ml_X5_42 (rk_of rfl) rfl (Nat.le_of_ble_eq_true rfl) rfl (px_k ?_)
        refine v_eqi (in_w (a := (0)) (b := (255)) (by decide) (by decide)) ?_
        refine v_if_eq C 82 56 dX5_load_53 (by decide) rfl (fun h53 => ?_) (fun h53 => ?_)
        · have gg : ¬ (i < 6 ∧ i < (cl (μ.1 8 (cl s))) ∧ ¬ wiS ((fun j => μ.1 9 (40 * cl s + j)) i) 0 255 = 0) := fun h => h.2.2 h53
          refine v_iload_n C dX5_load_82 rfl rfl ?_
          exact v_iret C hQ dX5_load_83 ⟨by rw [if_pos hl, hE, show 7 - i = (6 - i) + 1 by omega, ldN_0 gg], by rw [if_pos hl, hE, show 7 - i = (6 - i) + 1 by omega, ldN_0 gg]⟩
        · have gg : i < 6 ∧ i < (cl (μ.1 8 (cl s))) ∧ ¬ wiS ((fun j => μ.1 9 (40 * cl s + j)) i) 0 255 = 0 := ⟨g, g2, h53⟩
          refine v_aload_n C dX5_load_56 rfl rfl ?_
          refine g_X5_d C hM.1 dX5_load_57 fl_X5_7 rfl ?_
          refine v_bipush C dX5_load_60 bp_7 rfl ?_
          refine v_iload_n C dX5_load_62 rfl rfl ?_
          refine v_iadd C dX5_load_63 rfl ?_
          refine v_aload_n C dX5_load_64 rfl rfl ?_
          refine g_X5_number C hM.1 dX5_load_65 fl_X5_35 rfl ?_
          refine v_bipush C dX5_load_68 bp_40 rfl ?_
          refine v_iload_n C dX5_load_70 rfl rfl ?_
          refine v_imul C dX5_load_71 rfl ?_
          refine v_iload_n C dX5_load_72 rfl rfl ?_
          refine v_iadd C dX5_load_73 rfl ?_
          refine a_I C hM.2.2.2.2.2.2.2.2.2.1 (by decide) dX5_load_74 (40 * cl s + i) (by rw [q.1, i40, cl_n (by omega)]) (by omega) rfl ?_
          refine v_eqi (congrFun r9 (40 * cl s + i)) ?_
          refine s_I C hM.2.1 (by decide) dX5_load_75 (7 + i) (nI_add 7 i) (by omega) rfl ?_
          refine v_iincN C dX5_load_76 rfl (by decide) rfl ?_
          refine v_goto C 18 dX5_load_79 (by decide) ?_
          refine v_mem ?_ (V.norm (ih (i + 1) (by omega) (by omega) (by rw [hE, show 7 - i = (7 - (i + 1)) + 1 by omega, ldN_1 gg])) rfl)
          rw [up_ua, ldD_s]
set_option maxRecDepth 100000 in
set_option maxHeartbeats 4000000 in
theorem c_X5_load {l : Launch} {w : WC} {μ : Me} (hM : Md w) (hV : IvZ μ) {s : Int32} : CtI l w yX5_load cX5_load 4 (some .int) (Rm 3 66) [.ref (w_ad w 0), .int s] μ (Px (if lkM μ s = 0 then nI (ldN (fun j => μ.1 9 (40 * cl s + j)) (cl (μ.1 8 (cl s))) 7 0) else lkM μ s) (if lkM μ s = 0 then ua μ 1 (ldD (fun j => μ.1 9 (40 * cl s + j)) (μ.1 1) (ldN (fun j => μ.1 9 (40 * cl s + j)) (cl (μ.1 8 (cl s))) 7 0)) else fnS μ (lkP s))) := by
  refine Ct.mk (own := RX5) rfl (by decide) (Nat.le_of_ble_eq_true rfl) (fun x hxl C hQ => ?_)
  subst hxl
  refine v_aload_n C dX5_load_0 rfl rfl ?_
  refine v_iload_n C dX5_load_1 rfl rfl ?_
  refine v_iV C dX5_load_2 mi_X5_whyNone (c_X5_whyNone hM) rfl hM.1.1 hM.1.2 rfl ml_X5_173 (rk_of rfl) rfl (Nat.le_of_ble_eq_true rfl) rfl (px_k ?_)
  refine v_istore_n C dX5_load_5 (by decide) rfl ?_
  refine v_iload_n C dX5_load_6 rfl rfl ?_
  refine v_if_lt C 16 10 dX5_load_7 (by decide) rfl (fun h7 => ?_) (fun h7 => ?_)
  · have e7 : lkM μ s = 0 := wy_neg.mp h7
    have q := lm_i e7
    have z := (hV (cl s) (by omega)).cl (by omega)
    refine v_iconst C dX5_load_16 ic_0 rfl ?_
    refine v_istore_n C dX5_load_17 (by decide) rfl ?_
    refine v_mem ?_ (V.norm (lp_X5_load_18 (μ := μ) hM hV e7 q z C hQ 7 0 (by omega) (by omega) rfl) rfl)
    rw [ldD_0, ua_self]
  · have e7 : ¬ lkM μ s = 0 := fun e => h7 (wy_neg.mpr e)
    refine v_aload_n C dX5_load_10 rfl rfl ?_
    refine v_iload_n C dX5_load_11 rfl rfl ?_
    refine v_iV C dX5_load_12 mi_X5_finds (c_X5_finds hM (lkP_lt s) (wy_p e7).1 (wy_p e7).2) rfl hM.1.1 hM.1.2 rfl ml_X5_108 (rk_of rfl) rfl (Nat.le_of_ble_eq_true rfl) rfl (px_k ?_)
    exact v_iret C hQ dX5_load_15 ⟨(if_neg e7).symm, (if_neg e7).symm⟩

set_option maxRecDepth 100000 in
set_option maxHeartbeats 4000000 in
theorem lp_X5_judge_18 {w : WC} {x : Cy} {μ : Me} (hM : Md w) (hV : IvZ μ) (hI : IvD (μ.1 1)) {s : Int32} (hl : lkM μ s = 0) (q : s = nI (cl s) ∧ cl s ≤ 3 ∧ ¬ μ.1 7 (cl s) = 0) (z : (cl (μ.1 8 (cl s))) ≤ 40 ∧ μ.1 8 (cl s) = nI (cl (μ.1 8 (cl s)))) (C : Cx w x cX5_judge 4 RX5 (some .int) (Rm 3 66)) (hQ : y_Q x = MQ (y_b x) (QI w (Px (if lkM μ s = 0 then jdN (fun j => μ.1 9 (40 * cl s + j)) (μ.1 1) (cl (μ.1 8 (cl s))) ((cl (μ.1 8 (cl s))) + 1) 0 else lkM μ s) (if lkM μ s = 0 then μ else fnS μ (lkP s)))) (y_a x) (y_s x) 0 0 (AA w)) : ∀ (m i : Nat), (cl (μ.1 8 (cl s))) + 1 ≤ i + m → i ≤ (cl (μ.1 8 (cl s))) → (jdN (fun j => μ.1 9 (40 * cl s + j)) (μ.1 1) (cl (μ.1 8 (cl s))) ((cl (μ.1 8 (cl s))) + 1) 0 = jdN (fun j => μ.1 9 (40 * cl s + j)) (μ.1 1) (cl (μ.1 8 (cl s))) ((cl (μ.1 8 (cl s))) + 1 - i) i) → V w x 4 μ 18 [(0, .ref (w_ad w 0)), (1, .int s), (2, .int (wyS μ s)), (3, .int (nI i))] [] := by
  intro m
  induction m with
  | zero =>
    intro i  hm hi
    exact absurd hm (by omega)
  | succ m ih =>
    intro i  hm hi hE
    have hn := hI.n.1
    have h0 := hI.n.2
    refine v_iload_n C dX5_judge_18 rfl rfl ?_
    refine v_aload_n C dX5_judge_19 rfl rfl ?_
    refine g_X5_sizeOf C hM.1 dX5_judge_20 fl_X5_32 rfl ?_
    refine v_iload_n C dX5_judge_23 rfl rfl ?_
    refine a_I C hM.2.2.2.2.2.2.2.2.1 (by decide) dX5_judge_24 (cl s) q.1 (by omega) rfl ?_
    refine v_eqi (z.2) ?_
    refine v_icmp_ge C 66 28 dX5_judge_25 (by decide) rfl (fun h25 => ?_) (fun h25 => ?_)
    · have g : i = (cl (μ.1 8 (cl s))) := by have := (le_n (a := (cl (μ.1 8 (cl s)))) (b := i) (by omega) (by omega)).mp h25; omega
      refine v_iconst C dX5_judge_66 ic_0 rfl ?_
      exact v_iret C hQ dX5_judge_67 ⟨by rw [if_pos hl, hE, show (cl (μ.1 8 (cl s))) + 1 - i = 0 + 1 by omega, jdN_e (by omega)], by rw [if_pos hl]⟩
    · have g : i < (cl (μ.1 8 (cl s))) := by rcases Nat.lt_or_ge i ((cl (μ.1 8 (cl s)))) with q | q; exact q; exact absurd ((le_n (a := (cl (μ.1 8 (cl s)))) (b := i) (by omega) (by omega)).mpr q) h25
      rw [show (cl (μ.1 8 (cl s))) + 1 - i = ((cl (μ.1 8 (cl s))) - i) + 1 by omega] at hE
      refine v_aload_n C dX5_judge_28 rfl rfl ?_
      refine v_iload_n C dX5_judge_29 rfl rfl ?_
      refine v_iV C dX5_judge_30 mi_X5_isResident (c_X5_isResident hM) rfl hM.1.1 hM.1.2 rfl ml_X5_125 (rk_of rfl) rfl (Nat.le_of_ble_eq_true rfl) rfl (px_k ?_)
      refine v_if_eq C 56 36 dX5_judge_33 (by decide) rfl (fun h33 => ?_) (fun h33 => ?_)
      · have y : ¬ i < dn (μ.1 1) := fun e => has_y hn h0 e h33
        refine v_iconst C dX5_judge_56 ic_1 rfl ?_
        refine v_iload_n C dX5_judge_57 rfl rfl ?_
        refine v_iadd C dX5_judge_58 rfl ?_
        exact v_iret C hQ dX5_judge_59 ⟨by rw [if_pos hl, hE]; first | rw [jdN_n g (fun h => y h.1)] | rw [jdN_n g (fun h => h53 h.2.symm)], by rw [if_pos hl]⟩
      · have y := has_i hn h0 h33
        rw [cl_n (by omega)] at y
        refine v_aload_n C dX5_judge_36 rfl rfl ?_
        refine g_X5_number C hM.1 dX5_judge_37 fl_X5_35 rfl ?_
        refine v_bipush C dX5_judge_40 bp_40 rfl ?_
        refine v_iload_n C dX5_judge_42 rfl rfl ?_
        refine v_imul C dX5_judge_43 rfl ?_
        refine v_iload_n C dX5_judge_44 rfl rfl ?_
        refine v_iadd C dX5_judge_45 rfl ?_
        refine a_I C hM.2.2.2.2.2.2.2.2.2.1 (by decide) dX5_judge_46 (40 * cl s + i) (by rw [q.1, i40, cl_n (by omega)]) (by omega) rfl ?_
        refine v_aload_n C dX5_judge_47 rfl rfl ?_
        refine v_iload_n C dX5_judge_48 rfl rfl ?_
        refine v_iconst C dX5_judge_49 ic_1 rfl ?_
        refine v_iV C dX5_judge_50 mi_X5_its (c_X5_its hM (i := i) (f := 1) (j := 21 + i) (by omega) (by decide) rfl rfl rfl) rfl hM.1.1 hM.1.2 rfl ml_X5_46 (rk_of rfl) rfl (Nat.le_of_ble_eq_true rfl) rfl (px_k ?_)
        refine v_icmp_eq C 60 56 dX5_judge_53 (by decide) rfl (fun h53 => ?_) (fun h53 => ?_)
        · refine v_iincN C dX5_judge_60 rfl (by decide) rfl ?_
          refine v_goto C 18 dX5_judge_63 (by decide) ?_
          exact V.norm (ih (i + 1) (by omega) (by omega) (by rw [hE, jdN_y g ⟨y.2, h53.symm⟩, show (cl (μ.1 8 (cl s))) + 1 - (i + 1) = (cl (μ.1 8 (cl s))) - i by omega])) rfl
        · refine v_iconst C dX5_judge_56 ic_1 rfl ?_
          refine v_iload_n C dX5_judge_57 rfl rfl ?_
          refine v_iadd C dX5_judge_58 rfl ?_
          exact v_iret C hQ dX5_judge_59 ⟨by rw [if_pos hl, hE]; first | rw [jdN_n g (fun h => y h.1)] | rw [jdN_n g (fun h => h53 h.2.symm)], by rw [if_pos hl]⟩
set_option maxRecDepth 100000 in
set_option maxHeartbeats 4000000 in
theorem c_X5_judge {l : Launch} {w : WC} {μ : Me} (hM : Md w) (hV : IvZ μ) (hI : IvD (μ.1 1)) {s : Int32} : CtI l w yX5_judge cX5_judge 4 (some .int) (Rm 3 66) [.ref (w_ad w 0), .int s] μ (Px (if lkM μ s = 0 then jdN (fun j => μ.1 9 (40 * cl s + j)) (μ.1 1) (cl (μ.1 8 (cl s))) ((cl (μ.1 8 (cl s))) + 1) 0 else lkM μ s) (if lkM μ s = 0 then μ else fnS μ (lkP s))) := by
  refine Ct.mk (own := RX5) rfl (by decide) (Nat.le_of_ble_eq_true rfl) (fun x hxl C hQ => ?_)
  subst hxl
  refine v_aload_n C dX5_judge_0 rfl rfl ?_
  refine v_iload_n C dX5_judge_1 rfl rfl ?_
  refine v_iV C dX5_judge_2 mi_X5_whyNone (c_X5_whyNone hM) rfl hM.1.1 hM.1.2 rfl ml_X5_173 (rk_of rfl) rfl (Nat.le_of_ble_eq_true rfl) rfl (px_k ?_)
  refine v_istore_n C dX5_judge_5 (by decide) rfl ?_
  refine v_iload_n C dX5_judge_6 rfl rfl ?_
  refine v_if_lt C 16 10 dX5_judge_7 (by decide) rfl (fun h7 => ?_) (fun h7 => ?_)
  · have e7 : lkM μ s = 0 := wy_neg.mp h7
    have q := lm_i e7
    have z := (hV (cl s) (by omega)).cl (by omega)
    refine v_iconst C dX5_judge_16 ic_0 rfl ?_
    refine v_istore_n C dX5_judge_17 (by decide) rfl ?_
    exact V.norm (lp_X5_judge_18 hM hV hI e7 q z C hQ ((cl (μ.1 8 (cl s))) + 1) 0 (by omega) (Nat.zero_le _) rfl) rfl
  · have e7 : ¬ lkM μ s = 0 := fun e => h7 (wy_neg.mpr e)
    refine v_aload_n C dX5_judge_10 rfl rfl ?_
    refine v_iload_n C dX5_judge_11 rfl rfl ?_
    refine v_iV C dX5_judge_12 mi_X5_finds (c_X5_finds hM (lkP_lt s) (wy_p e7).1 (wy_p e7).2) rfl hM.1.1 hM.1.2 rfl ml_X5_108 (rk_of rfl) rfl (Nat.le_of_ble_eq_true rfl) rfl (px_k ?_)
    exact v_iret C hQ dX5_judge_15 ⟨(if_neg e7).symm, (if_neg e7).symm⟩
