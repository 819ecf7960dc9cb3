/-! the law's loop -/
theorem i6_le {i L : Nat} (hL : L ≤ 3072) (hi : i ≤ L) (h : ¬ nI L - 6 < nI i) : i + 6 ≤ L := by
  have e : (nI L - nI 6).toInt = (L : Int) - ((6 : Nat) : Int) := pk_sub_toInt (by omega) (by omega)
  have e2 : (nI i).toInt = (i : Int) := nI_toInt (by omega)
  have h2 : ¬ (nI L - nI 6).toInt < (nI i).toInt := fun z => h (Int32.lt_iff_toInt_lt.mpr z)
  omega
set_option maxRecDepth 100000 in
set_option maxHeartbeats 4000000 in
theorem z_switch {w1 w2 : WC} {x : Cy} {b L : Nat} {xs : Nat → Int32} (C : Lx w1 w2 x b L xs) (hS : Sv w1) (hX : Nx w1) {fz : Option Nat} (hJ : Jz w1 fz) {sa sv : Nat → Nat} (hT : Tx w1 sa sv) (hM : Md w2) (hL : L ≤ 3072) {i : Nat} (hi : i + 6 ≤ L) (k : ∀ μ ν, Rl μ ν → Lz w1 w2 x μ ν 1443 (lvL w1 w2 b i) []) {μ ν : Me} (h : Rl μ ν) {j : Nat} {a : Int32} (e : a = nI j) (hj : j < 64) : Lz w1 w2 x μ ν 33 (lvL w1 w2 b i) [.int a] := by
  by_cases q : j < 42
  · rcases (show j = 0 ∨ j = 1 ∨ j = 2 ∨ j = 3 ∨ j = 4 ∨ j = 5 ∨ j = 6 ∨ j = 7 ∨ j = 8 ∨ j = 9 ∨ j = 10 ∨ j = 11 ∨ j = 12 ∨ j = 13 ∨ j = 14 ∨ j = 15 ∨ j = 16 ∨ j = 17 ∨ j = 18 ∨ j = 19 ∨ j = 20 ∨ j = 21 ∨ j = 22 ∨ j = 23 ∨ j = 24 ∨ j = 25 ∨ j = 26 ∨ j = 27 ∨ j = 28 ∨ j = 29 ∨ j = 30 ∨ j = 31 ∨ j = 32 ∨ j = 33 ∨ j = 34 ∨ j = 35 ∨ j = 36 ∨ j = 37 ∨ j = 38 ∨ j = 39 ∨ j = 40 ∨ j = 41 by omega) with rfl | rfl | rfl | rfl | rfl | rfl | rfl | rfl | rfl | rfl | rfl | rfl | rfl | rfl | rfl | rfl | rfl | rfl | rfl | rfl | rfl | rfl | rfl | rfl | rfl | rfl | rfl | rfl | rfl | rfl | rfl | rfl | rfl | rfl | rfl | rfl | rfl | rfl | rfl | rfl | rfl | rfl
    · exact z_tableIn C 216 dL_law_33 e (by decide) (by decide) rfl (by decide) (z_set C hS hX hJ hT hM hL hi k h)
    · exact z_tableIn C 249 dL_law_33 e (by decide) (by decide) rfl (by decide) (z_home C hS hX hJ hT hM hL hi k h)
    · exact z_tableIn C 272 dL_law_33 e (by decide) (by decide) rfl (by decide) (z_visit C hS hX hJ hT hM hL hi k h)
    · exact z_tableIn C 305 dL_law_33 e (by decide) (by decide) rfl (by decide) (z_visits C hS hX hJ hT hM hL hi k h)
    · exact z_tableIn C 328 dL_law_33 e (by decide) (by decide) rfl (by decide) (z_resident C hS hX hJ hT hM hL hi k h)
    · exact z_tableIn C 351 dL_law_33 e (by decide) (by decide) rfl (by decide) (z_of C hS hX hJ hT hM hL hi k h)
    · exact z_tableIn C 384 dL_law_33 e (by decide) (by decide) rfl (by decide) (z_change C hS hX hJ hT hM hL hi k h)
    · exact z_tableIn C 427 dL_law_33 e (by decide) (by decide) rfl (by decide) (z_go C hS hX hJ hT hM hL hi k h)
    · exact z_tableIn C 450 dL_law_33 e (by decide) (by decide) rfl (by decide) (z_now C hS hX hJ hT hM hL hi k h)
    · exact z_tableIn C 473 dL_law_33 e (by decide) (by decide) rfl (by decide) (z_ahead C hS hX hJ hT hM hL hi k h)
    · exact z_tableIn C 516 dL_law_33 e (by decide) (by decide) rfl (by decide) (z_glad C hS hX hJ hT hM hL hi k h)
    · exact z_tableIn C 549 dL_law_33 e (by decide) (by decide) rfl (by decide) (z_sad C hS hX hJ hT hM hL hi k h)
    · exact z_tableIn C 582 dL_law_33 e (by decide) (by decide) rfl (by decide) (z_when C hS hX hJ hT hM hL hi k h)
    · exact z_tableIn C 615 dL_law_33 e (by decide) (by decide) rfl (by decide) (z_well C hS hX hJ hT hM hL hi k h)
    · exact z_tableIn C 628 dL_law_33 e (by decide) (by decide) rfl (by decide) (z_longFor C hS hX hJ hT hM hL hi k h)
    · exact z_tableIn C 651 dL_law_33 e (by decide) (by decide) rfl (by decide) (z_chairsFor C hS hX hJ hT hM hL hi k h)
    · exact z_tableIn C 684 dL_law_33 e (by decide) (by decide) rfl (by decide) (z_volunteersFor C hS hX hJ hT hM hL hi k h)
    · exact z_tableIn C 717 dL_law_33 e (by decide) (by decide) rfl (by decide) (z_comeOn C hS hX hJ hT hM hL hi k h)
    · exact z_tableIn C 750 dL_law_33 e (by decide) (by decide) rfl (by decide) (z_kindFor C hS hX hJ hT hM hL hi k h)
    · exact z_tableIn C 783 dL_law_33 e (by decide) (by decide) rfl (by decide) (z_friendFor C hS hX hJ hT hM hL hi k h)
    · exact z_tableIn C 816 dL_law_33 e (by decide) (by decide) rfl (by decide) (z_away C hS hX hJ hT hM hL hi k h)
    · exact z_tableIn C 849 dL_law_33 e (by decide) (by decide) rfl (by decide) (z_fits C hS hX hJ hT hM hL hi k h)
    · exact z_tableIn C 882 dL_law_33 e (by decide) (by decide) rfl (by decide) (z_mood C hS hX hJ hT hM hL hi k h)
    · exact z_tableIn C 915 dL_law_33 e (by decide) (by decide) rfl (by decide) (z_kinds C hS hX hJ hT hM hL hi k h)
    · exact z_tableIn C 948 dL_law_33 e (by decide) (by decide) rfl (by decide) (z_come C hS hX hJ hT hM hL hi k h)
    · exact z_tableIn C 971 dL_law_33 e (by decide) (by decide) rfl (by decide) (z_odds C hS hX hJ hT hM hL hi k h)
    · exact z_tableIn C 1015 dL_law_33 e (by decide) (by decide) rfl (by decide) (z_seed C hS hX hJ hT hM hL hi k h)
    · exact z_tableIn C 1038 dL_law_33 e (by decide) (by decide) rfl (by decide) (z_feed C hS hX hJ hT hM hL hi k h)
    · exact z_tableIn C 1071 dL_law_33 e (by decide) (by decide) rfl (by decide) (z_wipe C hS hX hJ hT hM hL hi k h)
    · exact z_tableIn C 1084 dL_law_33 e (by decide) (by decide) rfl (by decide) (z_text C hS hX hJ hT hM hL hi k h)
    · exact z_tableIn C 1097 dL_law_33 e (by decide) (by decide) rfl (by decide) (z_hold C hS hX hJ hT hM hL hi k h)
    · exact z_tableIn C 1130 dL_law_33 e (by decide) (by decide) rfl (by decide) (z_as C hS hX hJ hT hM hL hi k h)
    · exact z_tableIn C 1163 dL_law_33 e (by decide) (by decide) rfl (by decide) (z_sheet C hS hX hJ hT hM hL hi k h)
    · exact z_tableIn C 1206 dL_law_33 e (by decide) (by decide) rfl (by decide) (z_write C hS hX hJ hT hM hL hi k h)
    · exact z_tableIn C 1249 dL_law_33 e (by decide) (by decide) rfl (by decide) (z_copy C hS hX hJ hT hM hL hi k h)
    · exact z_tableIn C 1312 dL_law_33 e (by decide) (by decide) rfl (by decide) (z_load C hS hX hJ hT hM hL hi k h)
    · exact z_tableIn C 1335 dL_law_33 e (by decide) (by decide) rfl (by decide) (z_judge C hS hX hJ hT hM hL hi k h)
    · exact z_tableIn C 1358 dL_law_33 e (by decide) (by decide) rfl (by decide) (z_image C hS hX hJ hT hM hL hi k h)
    · exact z_tableIn C 1371 dL_law_33 e (by decide) (by decide) rfl (by decide) (z_undo C hS hX hJ hT hM hL hi k h)
    · exact z_tableIn C 1384 dL_law_33 e (by decide) (by decide) rfl (by decide) (z_tear C hS hX hJ hT hM hL hi k h)
    · exact z_tableIn C 1397 dL_law_33 e (by decide) (by decide) rfl (by decide) (z_count C hS hX hJ hT hM hL hi k h)
    · exact z_tableIn C 1420 dL_law_33 e (by decide) (by decide) rfl (by decide) (z_status C hS hX hJ hT hM hL hi k h)
  · refine z_tableOut C 1443 dL_law_33 (Or.inr ?_) (by decide) (k _ _ h)
    rw [e, nI_toInt (by omega)]
    omega
theorem z_end {w1 w2 : WC} {x : Cy} {b L : Nat} {xs : Nat → Int32} (C : Lx w1 w2 x b L xs) (hQ : y_Q x = lw_Z (y_b x) #[Value.ref b] (y_s x)) (ha : y_a x = #[Value.ref b]) (hr : (y_t x).sig.returnType = ret) (hk : (y_t x).locks = false) {μ ν : Me} {lv : List (Nat × Value)} : Lz w1 w2 x μ ν 1449 lv [] := by
  refine z_iconst C dL_law_1449 ic_1 rfl ?_
  intro H locs ls hP hP2 hS hl
  refine va_forget (fun q hq => hS.2.2 q hq) ?_
  rw [hQ, C.2.2.2.2.2.1, ha]
  exact lw_ret C.1 C.2.1 hr hk dL_law_1450
theorem z_loop {w1 w2 : WC} {x : Cy} {b L : Nat} {xs : Nat → Int32} (C : Lx w1 w2 x b L xs) (hS : Sv w1) (hX : Nx w1) {fz : Option Nat} (hJ : Jz w1 fz) {sa sv : Nat → Nat} (hT : Tx w1 sa sv) (hM : Md w2) (hL : L ≤ 3072) (hQ : y_Q x = lw_Z (y_b x) #[Value.ref b] (y_s x)) (ha : y_a x = #[Value.ref b]) (hr : (y_t x).sig.returnType = ret) (hk : (y_t x).locks = false) (n : Nat) : ∀ (i : Nat) (μ ν : Me), L < n + i → i ≤ L → Rl μ ν → Lz w1 w2 x μ ν 18 (lvL w1 w2 b i) [] := by
  induction n with
  | zero => intro i μ ν h1 h2 _; omega
  | succ n ih =>
    intro i μ ν h1 h2 h
    refine z_iload_n C dL_law_18 rfl rfl ?_
    refine z_aload_n C dL_law_19 rfl rfl ?_
    refine z_len C dL_law_20 rfl ?_
    refine z_bipush C dL_law_21 bp_6 rfl ?_
    refine z_isub C dL_law_23 rfl ?_
    refine z_icmp_gt C 1449 27 dL_law_24 (by decide) rfl (fun _ => z_end C hQ ha hr hk) (fun q => ?_)
    have hi := i6_le hL h2 q
    have kk : ∀ μ ν, Rl μ ν → Lz w1 w2 x μ ν 1443 (lvL w1 w2 b i) [] := fun μ ν hR => by
      refine z_iinc C dL_law_1443 rfl (by decide) rfl ?_
      refine z_goto C 18 dL_law_1446 (by decide) ?_
      have e : lst (lvL w1 w2 b i) 3 (.int (nI i + Int32.ofInt 6)) = lvL w1 w2 b (i + 6) := by
        have e1 : nI i + Int32.ofInt 6 = nI (i + 6) := nI_add i 6
        rw [e1]
        rfl
      rw [e]
      exact ih (i + 6) μ ν (by omega) hi hR
    refine z_aload_n C dL_law_27 rfl rfl ?_
    refine z_iload_n C dL_law_28 rfl rfl ?_
    refine z_sld C dL_law_29 rfl (by omega) hL rfl ?_
    refine z_bipush C dL_law_30 bp_63 rfl ?_
    refine z_iand C dL_law_32 rfl ?_
    obtain ⟨j, hj, e⟩ := pk_andE (xs i) (m := 63) 6 (by decide)
    exact z_switch C hS hX hJ hT hM hL hi kk h e hj
