set_option maxRecDepth 100000 in
set_option maxHeartbeats 4000000 in
theorem c_X1_isWell {l : Launch} {w : WC} {μ : Me} {k : Nat} (hk : Rs w k) : CtI l w yX1_isWell cX1_isWell 1 (some .boolean) (Rm 0 0) [.ref (w_ad w k)] μ (Px (wellS (μ.1 k 1)) μ) := by
  refine Ct.mk (own := RX1) rfl (by decide) (Nat.le_of_ble_eq_true rfl) (fun x hxl C hQ => ?_)
  subst hxl
  refine v_aload_n C dX1_isWell_0 rfl rfl ?_
  refine g_X1_mood C hk dX1_isWell_1 fl_X1_15 rfl ?_
  refine v_bipush C dX1_isWell_4 bp_60 rfl ?_
  refine v_icmp_lt C 13 9 dX1_isWell_6 (by decide) rfl (fun h6 => ?_) (fun h6 => ?_)
  · refine v_iconst C dX1_isWell_13 ic_0 rfl ?_
    exact v_zret C hQ dX1_isWell_14 rfl ⟨by simp [wellS, *], rfl⟩
  · refine v_iconst C dX1_isWell_9 ic_1 rfl ?_
    refine v_goto C 14 dX1_isWell_10 (by decide) ?_
    exact v_zret C hQ dX1_isWell_14 rfl ⟨by simp [wellS, *], rfl⟩

set_option maxRecDepth 100000 in
set_option maxHeartbeats 4000000 in
theorem c_X1_wellSign {l : Launch} {w : WC} {μ : Me} {k : Nat} (hk : Rs w k) : CtI l w yX1_wellSign cX1_wellSign 1 (some .int) (Rm 1 20) [.ref (w_ad w k)] μ (Px (wellS (μ.1 k 1)) μ) := by
  refine Ct.mk (own := RX1) rfl (by decide) (Nat.le_of_ble_eq_true rfl) (fun x hxl C hQ => ?_)
  subst hxl
  refine v_aload_n C dX1_wellSign_0 rfl rfl ?_
  refine v_iV C dX1_wellSign_1 mi_X1_isWell (c_X1_isWell hk) rfl hk.1 hk.2 rfl ml_X1_27 (rk_of rfl) rfl (Nat.le_of_ble_eq_true rfl) rfl (px_k ?_)
  refine v_if_eq C 11 7 dX1_wellSign_4 (by decide) rfl (fun h4 => ?_) (fun h4 => ?_)
  · refine v_iconst C dX1_wellSign_11 ic_0 rfl ?_
    exact v_iret C hQ dX1_wellSign_12 ⟨by have h := h4; revert h; unfold wellS; split <;> simp, rfl⟩
  · refine v_iconst C dX1_wellSign_7 ic_1 rfl ?_
    refine v_goto C 12 dX1_wellSign_8 (by decide) ?_
    exact v_iret C hQ dX1_wellSign_12 ⟨by have h := h4; revert h; unfold wellS; split <;> simp, rfl⟩

set_option maxRecDepth 100000 in
set_option maxHeartbeats 4000000 in
theorem c_X1_seats {l : Launch} {w : WC} {μ : Me} {k : Nat} (hk : Rs w k) : CtI l w yX1_seats cX1_seats 2 (some .int) (Rm 0 0) [.ref (w_ad w k)] μ (Px (seatsS (μ.1 k 0)) μ) := by
  refine Ct.mk (own := RX1) rfl (by decide) (Nat.le_of_ble_eq_true rfl) (fun x hxl C hQ => ?_)
  subst hxl
  refine v_iconst C dX1_seats_0 ic_2 rfl ?_
  refine v_istore_n C dX1_seats_1 (by decide) rfl ?_
  refine v_aload_n C dX1_seats_2 rfl rfl ?_
  refine g_X1_kind C hk dX1_seats_3 fl_X1_9 rfl ?_
  refine v_case (1) (fun e6_1 => ?_) (fun n6_1 => ?_)
  · refine v_tableIn C 44 dX1_seats_6 e6_1 (by decide) (by decide) rfl (by decide) ?_
    refine v_iload_n C dX1_seats_44 rfl rfl ?_
    refine v_iconst C dX1_seats_45 ic_1 rfl ?_
    refine v_iadd C dX1_seats_46 rfl ?_
    exact v_iret C hQ dX1_seats_47 ⟨by simp [seatsS, *], rfl⟩
  refine v_case (2) (fun e6_2 => ?_) (fun n6_2 => ?_)
  · refine v_tableIn C 54 dX1_seats_6 e6_2 (by decide) (by decide) rfl (by decide) ?_
    refine v_iconst C dX1_seats_54 ic_1 rfl ?_
    exact v_iret C hQ dX1_seats_55 ⟨by simp [seatsS, *], rfl⟩
  refine v_case (3) (fun e6_3 => ?_) (fun n6_3 => ?_)
  · refine v_tableIn C 54 dX1_seats_6 e6_3 (by decide) (by decide) rfl (by decide) ?_
    refine v_iconst C dX1_seats_54 ic_1 rfl ?_
    exact v_iret C hQ dX1_seats_55 ⟨by simp [seatsS, *], rfl⟩
  refine v_case (4) (fun e6_4 => ?_) (fun n6_4 => ?_)
  · refine v_tableIn C 54 dX1_seats_6 e6_4 (by decide) (by decide) rfl (by decide) ?_
    refine v_iconst C dX1_seats_54 ic_1 rfl ?_
    exact v_iret C hQ dX1_seats_55 ⟨by simp [seatsS, *], rfl⟩
  refine v_case (5) (fun e6_5 => ?_) (fun n6_5 => ?_)
  · refine v_tableIn C 56 dX1_seats_6 e6_5 (by decide) (by decide) rfl (by decide) ?_
    refine v_iload_n C dX1_seats_56 rfl rfl ?_
    exact v_iret C hQ dX1_seats_57 ⟨by simp [seatsS, *], rfl⟩
  refine v_case (6) (fun e6_6 => ?_) (fun n6_6 => ?_)
  · refine v_tableIn C 48 dX1_seats_6 e6_6 (by decide) (by decide) rfl (by decide) ?_
    refine v_iload_n C dX1_seats_48 rfl rfl ?_
    refine v_iconst C dX1_seats_49 ic_1 rfl ?_
    refine v_iadd C dX1_seats_50 rfl ?_
    refine v_iconst C dX1_seats_51 ic_1 rfl ?_
    refine v_iadd C dX1_seats_52 rfl ?_
    exact v_iret C hQ dX1_seats_53 ⟨by simp [seatsS, *], rfl⟩
  refine v_tableOut C 56 dX1_seats_6 (by have z1 := lv_neT n6_1 (a := 1) (by decide); have z2 := lv_neT n6_2 (a := 2) (by decide); have z3 := lv_neT n6_3 (a := 3) (by decide); have z4 := lv_neT n6_4 (a := 4) (by decide); have z5 := lv_neT n6_5 (a := 5) (by decide); have z6 := lv_neT n6_6 (a := 6) (by decide); omega) (by decide) ?_
  refine v_iload_n C dX1_seats_56 rfl rfl ?_
  exact v_iret C hQ dX1_seats_57 ⟨by simp [seatsS, *], rfl⟩

set_option maxRecDepth 100000 in
set_option maxHeartbeats 4000000 in
theorem c_X1_gains {l : Launch} {w : WC} {μ : Me} {k : Nat} (hk : Rs w k) {g : Int32} : CtI l w yX1_gains cX1_gains 3 (some .int) (Rm 1 21) [.ref (w_ad w k), .int g] μ (Px (gainsS (μ.1 k 0) g) μ) := by
  refine Ct.mk (own := RX1) rfl (by decide) (Nat.le_of_ble_eq_true rfl) (fun x hxl C hQ => ?_)
  subst hxl
  refine v_iconst C dX1_gains_0 ic_2 rfl ?_
  refine v_iload_n C dX1_gains_1 rfl rfl ?_
  refine v_imul C dX1_gains_2 rfl ?_
  refine v_bipush C dX1_gains_3 bp_12 rfl ?_
  refine v_mmin C dX1_gains_5 ml_X1_31 st_min in_J9 co_min (by decide) (Nat.le_of_ble_eq_true rfl) rfl ?_
  refine v_istore_n C dX1_gains_8 (by decide) rfl ?_
  refine v_aload_n C dX1_gains_9 rfl rfl ?_
  refine g_X1_kind C hk dX1_gains_10 fl_X1_9 rfl ?_
  refine v_case (1) (fun e13_1 => ?_) (fun n13_1 => ?_)
  · refine v_tableIn C 52 dX1_gains_13 e13_1 (by decide) (by decide) rfl (by decide) ?_
    refine v_iload_n C dX1_gains_52 rfl rfl ?_
    refine v_iload_n C dX1_gains_53 rfl rfl ?_
    refine v_iadd C dX1_gains_54 rfl ?_
    exact v_iret C hQ dX1_gains_55 ⟨by first | (simp [gainsS, plainS, *]; done) | (simp [gainsS, plainS, *]; intro h; exact absurd h (Int32.not_lt.mpr (by assumption))), rfl⟩
  refine v_case (2) (fun e13_2 => ?_) (fun n13_2 => ?_)
  · refine v_tableIn C 56 dX1_gains_13 e13_2 (by decide) (by decide) rfl (by decide) ?_
    refine v_iload_n C dX1_gains_56 rfl rfl ?_
    refine v_iconst C dX1_gains_57 ic_2 rfl ?_
    refine v_idiv C dX1_gains_58 (by decide) rfl ?_
    exact v_iret C hQ dX1_gains_59 ⟨by first | (simp [gainsS, plainS, *]; done) | (simp [gainsS, plainS, *]; intro h; exact absurd h (Int32.not_lt.mpr (by assumption))), rfl⟩
  refine v_case (3) (fun e13_3 => ?_) (fun n13_3 => ?_)
  · refine v_tableIn C 60 dX1_gains_13 e13_3 (by decide) (by decide) rfl (by decide) ?_
    refine v_iload_n C dX1_gains_60 rfl rfl ?_
    refine v_iconst C dX1_gains_61 ic_2 rfl ?_
    refine v_idiv C dX1_gains_62 (by decide) rfl ?_
    refine v_iconst C dX1_gains_63 ic_5 rfl ?_
    refine v_iadd C dX1_gains_64 rfl ?_
    exact v_iret C hQ dX1_gains_65 ⟨by first | (simp [gainsS, plainS, *]; done) | (simp [gainsS, plainS, *]; intro h; exact absurd h (Int32.not_lt.mpr (by assumption))), rfl⟩
  refine v_case (4) (fun e13_4 => ?_) (fun n13_4 => ?_)
  · refine v_tableIn C 60 dX1_gains_13 e13_4 (by decide) (by decide) rfl (by decide) ?_
    refine v_iload_n C dX1_gains_60 rfl rfl ?_
    refine v_iconst C dX1_gains_61 ic_2 rfl ?_
    refine v_idiv C dX1_gains_62 (by decide) rfl ?_
    refine v_iconst C dX1_gains_63 ic_5 rfl ?_
    refine v_iadd C dX1_gains_64 rfl ?_
    exact v_iret C hQ dX1_gains_65 ⟨by first | (simp [gainsS, plainS, *]; done) | (simp [gainsS, plainS, *]; intro h; exact absurd h (Int32.not_lt.mpr (by assumption))), rfl⟩
  refine v_case (5) (fun e13_5 => ?_) (fun n13_5 => ?_)
  · refine v_tableIn C 66 dX1_gains_13 e13_5 (by decide) (by decide) rfl (by decide) ?_
    refine v_iload_n C dX1_gains_66 rfl rfl ?_
    refine v_bipush C dX1_gains_67 bp_6 rfl ?_
    refine v_icmp_le C 78 72 dX1_gains_69 (by decide) rfl (fun h69 => ?_) (fun h69 => ?_)
    · refine v_iload_n C dX1_gains_78 rfl rfl ?_
      exact v_iret C hQ dX1_gains_79 ⟨by first | (simp [gainsS, plainS, *]; done) | (simp [gainsS, plainS, *]; intro h; exact absurd h (Int32.not_lt.mpr (by assumption))), rfl⟩
    · refine v_iload_n C dX1_gains_72 rfl rfl ?_
      refine v_iconst C dX1_gains_73 ic_2 rfl ?_
      refine v_isub C dX1_gains_74 rfl ?_
      refine v_goto C 79 dX1_gains_75 (by decide) ?_
      exact v_iret C hQ dX1_gains_79 ⟨by first | (simp [gainsS, plainS, *]; done) | (simp [gainsS, plainS, *]; intro h; exact absurd h (Int32.not_lt.mpr (by assumption))), rfl⟩
  refine v_case (6) (fun e13_6 => ?_) (fun n13_6 => ?_)
  · refine v_tableIn C 52 dX1_gains_13 e13_6 (by decide) (by decide) rfl (by decide) ?_
    refine v_iload_n C dX1_gains_52 rfl rfl ?_
    refine v_iload_n C dX1_gains_53 rfl rfl ?_
    refine v_iadd C dX1_gains_54 rfl ?_
    exact v_iret C hQ dX1_gains_55 ⟨by first | (simp [gainsS, plainS, *]; done) | (simp [gainsS, plainS, *]; intro h; exact absurd h (Int32.not_lt.mpr (by assumption))), rfl⟩
  refine v_tableOut C 80 dX1_gains_13 (by have z1 := lv_neT n13_1 (a := 1) (by decide); have z2 := lv_neT n13_2 (a := 2) (by decide); have z3 := lv_neT n13_3 (a := 3) (by decide); have z4 := lv_neT n13_4 (a := 4) (by decide); have z5 := lv_neT n13_5 (a := 5) (by decide); have z6 := lv_neT n13_6 (a := 6) (by decide); omega) (by decide) ?_
  refine v_iload_n C dX1_gains_80 rfl rfl ?_
  exact v_iret C hQ dX1_gains_81 ⟨by first | (simp [gainsS, plainS, *]; done) | (simp [gainsS, plainS, *]; intro h; exact absurd h (Int32.not_lt.mpr (by assumption))), rfl⟩

set_option maxRecDepth 100000 in
set_option maxHeartbeats 4000000 in
theorem c_X1_loses {l : Launch} {w : WC} {μ : Me} {k : Nat} (hk : Rs w k) {v : Int32} : CtI l w yX1_loses cX1_loses 3 (some .int) (Rm 0 0) [.ref (w_ad w k), .int v] μ (Px (losesS (μ.1 k 0) (μ.1 k 3) v) μ) := by
  refine Ct.mk (own := RX1) rfl (by decide) (Nat.le_of_ble_eq_true rfl) (fun x hxl C hQ => ?_)
  subst hxl
  refine v_iconst C dX1_loses_0 ic_3 rfl ?_
  refine v_istore_n C dX1_loses_1 (by decide) rfl ?_
  refine v_aload_n C dX1_loses_2 rfl rfl ?_
  refine g_X1_kind C hk dX1_loses_3 fl_X1_9 rfl ?_
  refine v_case (1) (fun e6_1 => ?_) (fun n6_1 => ?_)
  · refine v_tableIn C 44 dX1_loses_6 e6_1 (by decide) (by decide) rfl (by decide) ?_
    refine v_iload_n C dX1_loses_44 rfl rfl ?_
    refine v_iconst C dX1_loses_45 ic_1 rfl ?_
    refine v_isub C dX1_loses_46 rfl ?_
    exact v_iret C hQ dX1_loses_47 ⟨by simp [losesS, *], rfl⟩
  refine v_case (2) (fun e6_2 => ?_) (fun n6_2 => ?_)
  · refine v_tableIn C 48 dX1_loses_6 e6_2 (by decide) (by decide) rfl (by decide) ?_
    refine v_iload_n C dX1_loses_48 rfl rfl ?_
    refine v_iconst C dX1_loses_49 ic_2 rfl ?_
    refine v_isub C dX1_loses_50 rfl ?_
    exact v_iret C hQ dX1_loses_51 ⟨by simp [losesS, *], rfl⟩
  refine v_case (3) (fun e6_3 => ?_) (fun n6_3 => ?_)
  · refine v_tableIn C 52 dX1_loses_6 e6_3 (by decide) (by decide) rfl (by decide) ?_
    refine v_aload_n C dX1_loses_52 rfl rfl ?_
    refine g_X1_waits C hk dX1_loses_53 fl_X1_21 rfl ?_
    refine v_iconst C dX1_loses_56 ic_4 rfl ?_
    refine v_icmp_lt C 68 60 dX1_loses_57 (by decide) rfl (fun h57 => ?_) (fun h57 => ?_)
    · refine v_iload_n C dX1_loses_68 rfl rfl ?_
      refine v_iconst C dX1_loses_69 ic_2 rfl ?_
      refine v_isub C dX1_loses_70 rfl ?_
      exact v_iret C hQ dX1_loses_71 ⟨by simp [losesS, *], rfl⟩
    · refine v_iload_n C dX1_loses_60 rfl rfl ?_
      refine v_iconst C dX1_loses_61 ic_2 rfl ?_
      refine v_isub C dX1_loses_62 rfl ?_
      refine v_iconst C dX1_loses_63 ic_1 rfl ?_
      refine v_iadd C dX1_loses_64 rfl ?_
      refine v_goto C 71 dX1_loses_65 (by decide) ?_
      exact v_iret C hQ dX1_loses_71 ⟨by simp [losesS, *], rfl⟩
  refine v_case (4) (fun e6_4 => ?_) (fun n6_4 => ?_)
  · refine v_tableIn C 72 dX1_loses_6 e6_4 (by decide) (by decide) rfl (by decide) ?_
    refine v_iconst C dX1_loses_72 ic_0 rfl ?_
    exact v_iret C hQ dX1_loses_73 ⟨by simp [losesS, *], rfl⟩
  refine v_case (5) (fun e6_5 => ?_) (fun n6_5 => ?_)
  · refine v_tableIn C 74 dX1_loses_6 e6_5 (by decide) (by decide) rfl (by decide) ?_
    refine v_iload_n C dX1_loses_74 rfl rfl ?_
    refine v_iload_n C dX1_loses_75 rfl rfl ?_
    refine v_iadd C dX1_loses_76 rfl ?_
    exact v_iret C hQ dX1_loses_77 ⟨by simp [losesS, *], rfl⟩
  refine v_case (6) (fun e6_6 => ?_) (fun n6_6 => ?_)
  · refine v_tableIn C 44 dX1_loses_6 e6_6 (by decide) (by decide) rfl (by decide) ?_
    refine v_iload_n C dX1_loses_44 rfl rfl ?_
    refine v_iconst C dX1_loses_45 ic_1 rfl ?_
    refine v_isub C dX1_loses_46 rfl ?_
    exact v_iret C hQ dX1_loses_47 ⟨by simp [losesS, *], rfl⟩
  refine v_tableOut C 78 dX1_loses_6 (by have z1 := lv_neT n6_1 (a := 1) (by decide); have z2 := lv_neT n6_2 (a := 2) (by decide); have z3 := lv_neT n6_3 (a := 3) (by decide); have z4 := lv_neT n6_4 (a := 4) (by decide); have z5 := lv_neT n6_5 (a := 5) (by decide); have z6 := lv_neT n6_6 (a := 6) (by decide); omega) (by decide) ?_
  refine v_iload_n C dX1_loses_78 rfl rfl ?_
  exact v_iret C hQ dX1_loses_79 ⟨by simp [losesS, *], rfl⟩

set_option maxRecDepth 100000 in
set_option maxHeartbeats 4000000 in
theorem c_X1_shares {l : Launch} {w : WC} {μ : Me} {k : Nat} (hk : Rs w k) : CtI l w yX1_shares cX1_shares 1 (some .boolean) (Rm 0 0) [.ref (w_ad w k)] μ (Px (sharesS (μ.1 k 0) (μ.1 k 1)) μ) := by
  refine Ct.mk (own := RX1) rfl (by decide) (Nat.le_of_ble_eq_true rfl) (fun x hxl C hQ => ?_)
  subst hxl
  refine v_aload_n C dX1_shares_0 rfl rfl ?_
  refine g_X1_kind C hk dX1_shares_1 fl_X1_9 rfl ?_
  refine v_case (3) (fun e4_3 => ?_) (fun n4_3 => ?_)
  · refine v_tableIn C 36 dX1_shares_4 e4_3 (by decide) (by decide) rfl (by decide) ?_
    refine v_iconst C dX1_shares_36 ic_1 rfl ?_
    exact v_zret C hQ dX1_shares_37 rfl ⟨by simp [sharesS, *], rfl⟩
  refine v_case (4) (fun e4_4 => ?_) (fun n4_4 => ?_)
  · refine v_tableIn C 38 dX1_shares_4 e4_4 (by decide) (by decide) rfl (by decide) ?_
    refine v_iconst C dX1_shares_38 ic_0 rfl ?_
    exact v_zret C hQ dX1_shares_39 rfl ⟨by simp [sharesS, *], rfl⟩
  refine v_case (5) (fun e4_5 => ?_) (fun n4_5 => ?_)
  · refine v_tableIn C 40 dX1_shares_4 e4_5 (by decide) (by decide) rfl (by decide) ?_
    refine v_aload_n C dX1_shares_40 rfl rfl ?_
    refine g_X1_mood C hk dX1_shares_41 fl_X1_15 rfl ?_
    refine v_bipush C dX1_shares_44 bp_70 rfl ?_
    refine v_icmp_lt C 53 49 dX1_shares_46 (by decide) rfl (fun h46 => ?_) (fun h46 => ?_)
    · refine v_iconst C dX1_shares_53 ic_0 rfl ?_
      exact v_zret C hQ dX1_shares_54 rfl ⟨by simp [sharesS, *], rfl⟩
    · refine v_iconst C dX1_shares_49 ic_1 rfl ?_
      refine v_goto C 54 dX1_shares_50 (by decide) ?_
      exact v_zret C hQ dX1_shares_54 rfl ⟨by simp [sharesS, *], rfl⟩
  refine v_case (6) (fun e4_6 => ?_) (fun n4_6 => ?_)
  · refine v_tableIn C 36 dX1_shares_4 e4_6 (by decide) (by decide) rfl (by decide) ?_
    refine v_iconst C dX1_shares_36 ic_1 rfl ?_
    exact v_zret C hQ dX1_shares_37 rfl ⟨by simp [sharesS, *], rfl⟩
  refine v_tableOut C 40 dX1_shares_4 (by have z3 := lv_neT n4_3 (a := 3) (by decide); have z4 := lv_neT n4_4 (a := 4) (by decide); have z5 := lv_neT n4_5 (a := 5) (by decide); have z6 := lv_neT n4_6 (a := 6) (by decide); omega) (by decide) ?_
  refine v_aload_n C dX1_shares_40 rfl rfl ?_
  refine g_X1_mood C hk dX1_shares_41 fl_X1_15 rfl ?_
  refine v_bipush C dX1_shares_44 bp_70 rfl ?_
  refine v_icmp_lt C 53 49 dX1_shares_46 (by decide) rfl (fun h46 => ?_) (fun h46 => ?_)
  · refine v_iconst C dX1_shares_53 ic_0 rfl ?_
    exact v_zret C hQ dX1_shares_54 rfl ⟨by simp [sharesS, *], rfl⟩
  · refine v_iconst C dX1_shares_49 ic_1 rfl ?_
    refine v_goto C 54 dX1_shares_50 (by decide) ?_
    exact v_zret C hQ dX1_shares_54 rfl ⟨by simp [sharesS, *], rfl⟩

set_option maxRecDepth 100000 in
set_option maxHeartbeats 4000000 in
theorem c_X1_feel {l : Launch} {w : WC} {μ : Me} {k : Nat} (hk : Rs w k) {v : Int32} : CtV l w yX1_feel cX1_feel 2 (Rm 1 21) [.ref (w_ad w k), .int v] μ (Pv (up μ k 1 (clampS (μ.1 k 1 + v)))) := by
  refine Ct.mk (own := RX1) rfl (by decide) (Nat.le_of_ble_eq_true rfl) (fun x hxl C hQ => ?_)
  subst hxl
  refine v_aload_n C dX1_feel_0 rfl rfl ?_
  refine v_iconst C dX1_feel_1 ic_0 rfl ?_
  refine v_bipush C dX1_feel_2 bp_99 rfl ?_
  refine v_aload_n C dX1_feel_4 rfl rfl ?_
  refine g_X1_mood C hk dX1_feel_5 fl_X1_15 rfl ?_
  refine v_iload_n C dX1_feel_8 rfl rfl ?_
  refine v_iadd C dX1_feel_9 rfl ?_
  refine v_mmin C dX1_feel_10 ml_X1_31 st_min in_J9 co_min (by decide) (Nat.le_of_ble_eq_true rfl) rfl ?_
  refine v_mmax C dX1_feel_13 ml_X1_37 st_max in_J9 co_max (by decide) (Nat.le_of_ble_eq_true rfl) rfl ?_
  refine p_X1_mood C hk dX1_feel_16 fl_X1_15 rfl ?_
  exact v_vret C hQ dX1_feel_19 rfl

set_option maxRecDepth 100000 in
set_option maxHeartbeats 4000000 in
theorem c_X1_waitOn {l : Launch} {w : WC} {μ : Me} {k : Nat} (hk : Rs w k) : CtV l w yX1_waitOn cX1_waitOn 1 (Rm 1 21) [.ref (w_ad w k)] μ (Pv (up μ k 3 (tallyS (μ.1 k 3)))) := by
  refine Ct.mk (own := RX1) rfl (by decide) (Nat.le_of_ble_eq_true rfl) (fun x hxl C hQ => ?_)
  subst hxl
  refine v_aload_n C dX1_waitOn_0 rfl rfl ?_
  refine v_sipush C dX1_waitOn_1 sp_9999 rfl ?_
  refine v_aload_n C dX1_waitOn_4 rfl rfl ?_
  refine g_X1_waits C hk dX1_waitOn_5 fl_X1_21 rfl ?_
  refine v_iconst C dX1_waitOn_8 ic_1 rfl ?_
  refine v_iadd C dX1_waitOn_9 rfl ?_
  refine v_mmin C dX1_waitOn_10 ml_X1_31 st_min in_J9 co_min (by decide) (Nat.le_of_ble_eq_true rfl) rfl ?_
  refine p_X1_waits C hk dX1_waitOn_13 fl_X1_21 rfl ?_
  exact v_vret C hQ dX1_waitOn_16 rfl

set_option maxRecDepth 100000 in
set_option maxHeartbeats 4000000 in
theorem c_X1_begin {l : Launch} {w : WC} {μ : Me} {k : Nat} (hk : Rs w k) {a : Int32} : CtV l w yX1_begin cX1_begin 2 (Rm 0 0) [.ref (w_ad w k), .int a] μ (Pv (up (up (up (up (up μ k 0 a) k 1 50) k 2 (-1)) k 3 0) k 4 0)) := by
  refine Ct.mk (own := RX1) rfl (by decide) (Nat.le_of_ble_eq_true rfl) (fun x hxl C hQ => ?_)
  subst hxl
  refine v_aload_n C dX1_begin_0 rfl rfl ?_
  refine v_iload_n C dX1_begin_1 rfl rfl ?_
  refine p_X1_kind C hk dX1_begin_2 fl_X1_9 rfl ?_
  refine v_aload_n C dX1_begin_5 rfl rfl ?_
  refine v_bipush C dX1_begin_6 bp_50 rfl ?_
  refine p_X1_mood C hk dX1_begin_8 fl_X1_15 rfl ?_
  refine v_aload_n C dX1_begin_11 rfl rfl ?_
  refine v_iconst C dX1_begin_12 ic_m1 rfl ?_
  refine p_X1_friend C hk dX1_begin_13 fl_X1_18 rfl ?_
  refine v_aload_n C dX1_begin_16 rfl rfl ?_
  refine v_iconst C dX1_begin_17 ic_0 rfl ?_
  refine p_X1_waits C hk dX1_begin_18 fl_X1_21 rfl ?_
  refine v_aload_n C dX1_begin_21 rfl rfl ?_
  refine v_iconst C dX1_begin_22 ic_0 rfl ?_
  refine p_X1_came C hk dX1_begin_23 fl_X1_24 rfl ?_
  exact v_vret C hQ dX1_begin_26 rfl

set_option maxRecDepth 100000 in
set_option maxHeartbeats 4000000 in
theorem c_X1_take {l : Launch} {w : WC} {μ : Me} {k : Nat} (hk : Rs w k) {j : Nat} (hj : Rs w j) (hjk : j ≠ k) : CtV l w yX1_take cX1_take 2 (Rm 0 0) [.ref (w_ad w k), .ref (w_ad w j)] μ (Pv (up (up (up (up (up μ k 0 (μ.1 j 0)) k 1 (μ.1 j 1)) k 2 (μ.1 j 2)) k 3 (μ.1 j 3)) k 4 (μ.1 j 4))) := by
  refine Ct.mk (own := RX1) rfl (by decide) (Nat.le_of_ble_eq_true rfl) (fun x hxl C hQ => ?_)
  subst hxl
  refine v_aload_n C dX1_take_0 rfl rfl ?_
  refine v_aload_n C dX1_take_1 rfl rfl ?_
  refine g_X1_kind C hj dX1_take_2 fl_X1_9 rfl ?_
  refine p_X1_kind C hk dX1_take_5 fl_X1_9 rfl ?_
  refine v_aload_n C dX1_take_8 rfl rfl ?_
  refine v_aload_n C dX1_take_9 rfl rfl ?_
  refine g_X1_mood C hj dX1_take_10 fl_X1_15 rfl ?_
  refine p_X1_mood C hk dX1_take_13 fl_X1_15 rfl ?_
  refine v_aload_n C dX1_take_16 rfl rfl ?_
  refine v_aload_n C dX1_take_17 rfl rfl ?_
  refine g_X1_friend C hj dX1_take_18 fl_X1_18 rfl ?_
  refine p_X1_friend C hk dX1_take_21 fl_X1_18 rfl ?_
  refine v_aload_n C dX1_take_24 rfl rfl ?_
  refine v_aload_n C dX1_take_25 rfl rfl ?_
  refine g_X1_waits C hj dX1_take_26 fl_X1_21 rfl ?_
  refine p_X1_waits C hk dX1_take_29 fl_X1_21 rfl ?_
  refine v_aload_n C dX1_take_32 rfl rfl ?_
  refine v_aload_n C dX1_take_33 rfl rfl ?_
  refine g_X1_came C hj dX1_take_34 fl_X1_24 rfl ?_
  refine p_X1_came C hk dX1_take_37 fl_X1_24 rfl ?_
  exact v_vret C hQ dX1_take_40 (by simp [Pv, up_n, hjk])

set_option maxRecDepth 100000 in
set_option maxHeartbeats 4000000 in
theorem c_X1_fact {l : Launch} {w : WC} {μ : Me} {k : Nat} (hk : Rs w k) {a : Int32} {i : Nat} (hi : i < 5) (ha : a = nI i) : CtI l w yX1_fact cX1_fact 2 (some .int) (Rm 0 0) [.ref (w_ad w k), .int a] μ (Px (μ.1 k i) μ) := by
  refine Ct.mk (own := RX1) rfl (by decide) (Nat.le_of_ble_eq_true rfl) (fun x hxl C hQ => ?_)
  subst hxl
  refine v_iload_n C dX1_fact_0 rfl rfl ?_
  refine v_case (0) (fun e1_0 => ?_) (fun n1_0 => ?_)
  · refine v_tableIn C 32 dX1_fact_1 e1_0 (by decide) (by decide) rfl (by decide) ?_
    refine v_aload_n C dX1_fact_32 rfl rfl ?_
    refine g_X1_kind C hk dX1_fact_33 fl_X1_9 rfl ?_
    exact v_iret C hQ dX1_fact_36 ⟨by rcases (show i = 0 ∨ i = 1 ∨ i = 2 ∨ i = 3 ∨ i = 4 by omega) with rfl | rfl | rfl | rfl | rfl <;> first | rfl | (exfalso; simp_all [nI]; done), rfl⟩
  refine v_case (1) (fun e1_1 => ?_) (fun n1_1 => ?_)
  · refine v_tableIn C 37 dX1_fact_1 e1_1 (by decide) (by decide) rfl (by decide) ?_
    refine v_aload_n C dX1_fact_37 rfl rfl ?_
    refine g_X1_mood C hk dX1_fact_38 fl_X1_15 rfl ?_
    exact v_iret C hQ dX1_fact_41 ⟨by rcases (show i = 0 ∨ i = 1 ∨ i = 2 ∨ i = 3 ∨ i = 4 by omega) with rfl | rfl | rfl | rfl | rfl <;> first | rfl | (exfalso; simp_all [nI]; done), rfl⟩
  refine v_case (2) (fun e1_2 => ?_) (fun n1_2 => ?_)
  · refine v_tableIn C 42 dX1_fact_1 e1_2 (by decide) (by decide) rfl (by decide) ?_
    refine v_aload_n C dX1_fact_42 rfl rfl ?_
    refine g_X1_friend C hk dX1_fact_43 fl_X1_18 rfl ?_
    exact v_iret C hQ dX1_fact_46 ⟨by rcases (show i = 0 ∨ i = 1 ∨ i = 2 ∨ i = 3 ∨ i = 4 by omega) with rfl | rfl | rfl | rfl | rfl <;> first | rfl | (exfalso; simp_all [nI]; done), rfl⟩
  refine v_case (3) (fun e1_3 => ?_) (fun n1_3 => ?_)
  · refine v_tableIn C 47 dX1_fact_1 e1_3 (by decide) (by decide) rfl (by decide) ?_
    refine v_aload_n C dX1_fact_47 rfl rfl ?_
    refine g_X1_waits C hk dX1_fact_48 fl_X1_21 rfl ?_
    exact v_iret C hQ dX1_fact_51 ⟨by rcases (show i = 0 ∨ i = 1 ∨ i = 2 ∨ i = 3 ∨ i = 4 by omega) with rfl | rfl | rfl | rfl | rfl <;> first | rfl | (exfalso; simp_all [nI]; done), rfl⟩
  refine v_tableOut C 52 dX1_fact_1 (by have z0 := lv_neT n1_0 (a := 0) (by decide); have z1 := lv_neT n1_1 (a := 1) (by decide); have z2 := lv_neT n1_2 (a := 2) (by decide); have z3 := lv_neT n1_3 (a := 3) (by decide); omega) (by decide) ?_
  refine v_aload_n C dX1_fact_52 rfl rfl ?_
  refine g_X1_came C hk dX1_fact_53 fl_X1_24 rfl ?_
  exact v_iret C hQ dX1_fact_56 ⟨by rcases (show i = 0 ∨ i = 1 ∨ i = 2 ∨ i = 3 ∨ i = 4 by omega) with rfl | rfl | rfl | rfl | rfl <;> first | rfl | (exfalso; simp_all [nI]; done), rfl⟩

set_option maxRecDepth 100000 in
set_option maxHeartbeats 4000000 in
theorem c_X1_become {l : Launch} {w : WC} {μ : Me} {k : Nat} (hk : Rs w k) {a v : Int32} {i : Nat} (hi : i < 5) (ha : a = nI i) : CtV l w yX1_become cX1_become 3 (Rm 0 0) [.ref (w_ad w k), .int a, .int v] μ (Pv (up μ k i v)) := by
  refine Ct.mk (own := RX1) rfl (by decide) (Nat.le_of_ble_eq_true rfl) (fun x hxl C hQ => ?_)
  subst hxl
  refine v_iload_n C dX1_become_0 rfl rfl ?_
  refine v_case (0) (fun e1_0 => ?_) (fun n1_0 => ?_)
  · refine v_tableIn C 32 dX1_become_1 e1_0 (by decide) (by decide) rfl (by decide) ?_
    refine v_aload_n C dX1_become_32 rfl rfl ?_
    refine v_iload_n C dX1_become_33 rfl rfl ?_
    refine p_X1_kind C hk dX1_become_34 fl_X1_9 rfl ?_
    refine v_goto C 69 dX1_become_37 (by decide) ?_
    exact v_vret C hQ dX1_become_69 (by rcases (show i = 0 ∨ i = 1 ∨ i = 2 ∨ i = 3 ∨ i = 4 by omega) with rfl | rfl | rfl | rfl | rfl <;> first | rfl | (exfalso; simp_all [nI]; done))
  refine v_case (1) (fun e1_1 => ?_) (fun n1_1 => ?_)
  · refine v_tableIn C 40 dX1_become_1 e1_1 (by decide) (by decide) rfl (by decide) ?_
    refine v_aload_n C dX1_become_40 rfl rfl ?_
    refine v_iload_n C dX1_become_41 rfl rfl ?_
    refine p_X1_mood C hk dX1_become_42 fl_X1_15 rfl ?_
    refine v_goto C 69 dX1_become_45 (by decide) ?_
    exact v_vret C hQ dX1_become_69 (by rcases (show i = 0 ∨ i = 1 ∨ i = 2 ∨ i = 3 ∨ i = 4 by omega) with rfl | rfl | rfl | rfl | rfl <;> first | rfl | (exfalso; simp_all [nI]; done))
  refine v_case (2) (fun e1_2 => ?_) (fun n1_2 => ?_)
  · refine v_tableIn C 48 dX1_become_1 e1_2 (by decide) (by decide) rfl (by decide) ?_
    refine v_aload_n C dX1_become_48 rfl rfl ?_
    refine v_iload_n C dX1_become_49 rfl rfl ?_
    refine p_X1_friend C hk dX1_become_50 fl_X1_18 rfl ?_
    refine v_goto C 69 dX1_become_53 (by decide) ?_
    exact v_vret C hQ dX1_become_69 (by rcases (show i = 0 ∨ i = 1 ∨ i = 2 ∨ i = 3 ∨ i = 4 by omega) with rfl | rfl | rfl | rfl | rfl <;> first | rfl | (exfalso; simp_all [nI]; done))
  refine v_case (3) (fun e1_3 => ?_) (fun n1_3 => ?_)
  · refine v_tableIn C 56 dX1_become_1 e1_3 (by decide) (by decide) rfl (by decide) ?_
    refine v_aload_n C dX1_become_56 rfl rfl ?_
    refine v_iload_n C dX1_become_57 rfl rfl ?_
    refine p_X1_waits C hk dX1_become_58 fl_X1_21 rfl ?_
    refine v_goto C 69 dX1_become_61 (by decide) ?_
    exact v_vret C hQ dX1_become_69 (by rcases (show i = 0 ∨ i = 1 ∨ i = 2 ∨ i = 3 ∨ i = 4 by omega) with rfl | rfl | rfl | rfl | rfl <;> first | rfl | (exfalso; simp_all [nI]; done))
  refine v_tableOut C 64 dX1_become_1 (by have z0 := lv_neT n1_0 (a := 0) (by decide); have z1 := lv_neT n1_1 (a := 1) (by decide); have z2 := lv_neT n1_2 (a := 2) (by decide); have z3 := lv_neT n1_3 (a := 3) (by decide); omega) (by decide) ?_
  refine v_aload_n C dX1_become_64 rfl rfl ?_
  refine v_iload_n C dX1_become_65 rfl rfl ?_
  refine p_X1_came C hk dX1_become_66 fl_X1_24 rfl ?_
  exact v_vret C hQ dX1_become_69 (by rcases (show i = 0 ∨ i = 1 ∨ i = 2 ∨ i = 3 ∨ i = 4 by omega) with rfl | rfl | rfl | rfl | rfl <;> first | rfl | (exfalso; simp_all [nI]; done))

set_option maxRecDepth 100000 in
set_option maxHeartbeats 4000000 in
theorem c_X1_reaches {l : Launch} {w : WC} {μ : Me} {k : Nat} (hk : Rs w k) {g v : Int32} : CtI l w yX1_reaches cX1_reaches 3 (some .boolean) (Rm 0 0) [.ref (w_ad w k), .int g, .int v] μ (Px (if g = 0 then (if v ≤ μ.1 k 1 then 1 else 0) else if g = 1 then (if μ.1 k 1 ≤ v then 1 else 0) else (if v ≤ μ.1 k 4 then 1 else 0)) μ) := by
  refine Ct.mk (own := RX1) rfl (by decide) (Nat.le_of_ble_eq_true rfl) (fun x hxl C hQ => ?_)
  subst hxl
  refine v_iload_n C dX1_reaches_0 rfl rfl ?_
  refine v_case (0) (fun e1_0 => ?_) (fun n1_0 => ?_)
  · refine v_lookup C 28 dX1_reaches_1 (by decide) (off := 27) (by rw [e1_0]; first | done | decide) (by decide) ?_
    refine v_aload_n C dX1_reaches_28 rfl rfl ?_
    refine g_X1_mood C hk dX1_reaches_29 fl_X1_15 rfl ?_
    refine v_iload_n C dX1_reaches_32 rfl rfl ?_
    refine v_icmp_lt C 40 36 dX1_reaches_33 (by decide) rfl (fun h33 => ?_) (fun h33 => ?_)
    · refine v_iconst C dX1_reaches_40 ic_0 rfl ?_
      exact v_zret C hQ dX1_reaches_41 rfl ⟨by simp [*], rfl⟩
    · refine v_iconst C dX1_reaches_36 ic_1 rfl ?_
      refine v_goto C 41 dX1_reaches_37 (by decide) ?_
      exact v_zret C hQ dX1_reaches_41 rfl ⟨by simp [*], rfl⟩
  refine v_case (1) (fun e1_1 => ?_) (fun n1_1 => ?_)
  · refine v_lookup C 42 dX1_reaches_1 (by decide) (off := 41) (by rw [e1_1]; first | done | decide) (by decide) ?_
    refine v_aload_n C dX1_reaches_42 rfl rfl ?_
    refine g_X1_mood C hk dX1_reaches_43 fl_X1_15 rfl ?_
    refine v_iload_n C dX1_reaches_46 rfl rfl ?_
    refine v_icmp_gt C 54 50 dX1_reaches_47 (by decide) rfl (fun h47 => ?_) (fun h47 => ?_)
    · refine v_iconst C dX1_reaches_54 ic_0 rfl ?_
      exact v_zret C hQ dX1_reaches_55 rfl ⟨by simp [*], rfl⟩
    · refine v_iconst C dX1_reaches_50 ic_1 rfl ?_
      refine v_goto C 55 dX1_reaches_51 (by decide) ?_
      exact v_zret C hQ dX1_reaches_55 rfl ⟨by simp [*], rfl⟩
  refine v_lookup C 56 dX1_reaches_1 (by decide) (off := 55) (by show Op.lookupswitch.offset [(0, 27), (1, 41)] _ _ = _; rw [lv_osw n1_0 (by decide), lv_osw n1_1 (by decide)]; first | done | rfl) (by decide) ?_
  refine v_aload_n C dX1_reaches_56 rfl rfl ?_
  refine g_X1_came C hk dX1_reaches_57 fl_X1_24 rfl ?_
  refine v_iload_n C dX1_reaches_60 rfl rfl ?_
  refine v_icmp_lt C 68 64 dX1_reaches_61 (by decide) rfl (fun h61 => ?_) (fun h61 => ?_)
  · refine v_iconst C dX1_reaches_68 ic_0 rfl ?_
    exact v_zret C hQ dX1_reaches_69 rfl ⟨by simp [*], rfl⟩
  · refine v_iconst C dX1_reaches_64 ic_1 rfl ?_
    refine v_goto C 69 dX1_reaches_65 (by decide) ?_
    exact v_zret C hQ dX1_reaches_69 rfl ⟨by simp [*], rfl⟩

set_option maxRecDepth 100000 in
set_option maxHeartbeats 4000000 in
theorem c_X1_beVisited {l : Launch} {w : WC} {μ : Me} {k : Nat} (hk : Rs w k) {g b : Int32} : CtV l w yX1_beVisited cX1_beVisited 3 (Rm 2 43) [.ref (w_ad w k), .int g, .int b] μ (Pv (up (up (up μ k 1 (clampS (μ.1 k 1 + (gainsS (μ.1 k 0) g + (if b = 0 then 0 else 1))))) k 3 0) k 4 (tallyS (μ.1 k 4)))) := by
  refine Ct.mk (own := RX1) rfl (by decide) (Nat.le_of_ble_eq_true rfl) (fun x hxl C hQ => ?_)
  subst hxl
  refine v_aload_n C dX1_beVisited_0 rfl rfl ?_
  refine v_aload_n C dX1_beVisited_1 rfl rfl ?_
  refine v_iload_n C dX1_beVisited_2 rfl rfl ?_
  refine v_iV C dX1_beVisited_3 mi_X1_gains (c_X1_gains hk) rfl hk.1 hk.2 rfl ml_X1_40 (rk_of rfl) rfl (Nat.le_of_ble_eq_true rfl) rfl (px_k ?_)
  refine v_iload_n C dX1_beVisited_6 rfl rfl ?_
  refine v_if_eq C 14 10 dX1_beVisited_7 (by decide) rfl (fun h7 => ?_) (fun h7 => ?_)
  · refine v_iconst C dX1_beVisited_14 ic_0 rfl ?_
    refine v_iadd C dX1_beVisited_15 rfl ?_
    refine v_vV C dX1_beVisited_16 mi_X1_feel (c_X1_feel hk) rfl hk.1 hk.2 rfl ml_X1_44 (rk_of rfl) rfl (Nat.le_of_ble_eq_true rfl) rfl (pv_k ?_)
    refine v_aload_n C dX1_beVisited_19 rfl rfl ?_
    refine v_iconst C dX1_beVisited_20 ic_0 rfl ?_
    refine p_X1_waits C hk dX1_beVisited_21 fl_X1_21 rfl ?_
    refine v_aload_n C dX1_beVisited_24 rfl rfl ?_
    refine v_sipush C dX1_beVisited_25 sp_9999 rfl ?_
    refine v_aload_n C dX1_beVisited_28 rfl rfl ?_
    refine g_X1_came C hk dX1_beVisited_29 fl_X1_24 rfl ?_
    refine v_iconst C dX1_beVisited_32 ic_1 rfl ?_
    refine v_iadd C dX1_beVisited_33 rfl ?_
    refine v_mmin C dX1_beVisited_34 ml_X1_31 st_min in_J9 co_min (by decide) (Nat.le_of_ble_eq_true rfl) rfl ?_
    refine p_X1_came C hk dX1_beVisited_37 fl_X1_24 rfl ?_
    exact v_vret C hQ dX1_beVisited_40 (by simp [Pv, up_if, tallyS, *])
  · refine v_iconst C dX1_beVisited_10 ic_1 rfl ?_
    refine v_goto C 15 dX1_beVisited_11 (by decide) ?_
    refine v_iadd C dX1_beVisited_15 rfl ?_
    refine v_vV C dX1_beVisited_16 mi_X1_feel (c_X1_feel hk) rfl hk.1 hk.2 rfl ml_X1_44 (rk_of rfl) rfl (Nat.le_of_ble_eq_true rfl) rfl (pv_k ?_)
    refine v_aload_n C dX1_beVisited_19 rfl rfl ?_
    refine v_iconst C dX1_beVisited_20 ic_0 rfl ?_
    refine p_X1_waits C hk dX1_beVisited_21 fl_X1_21 rfl ?_
    refine v_aload_n C dX1_beVisited_24 rfl rfl ?_
    refine v_sipush C dX1_beVisited_25 sp_9999 rfl ?_
    refine v_aload_n C dX1_beVisited_28 rfl rfl ?_
    refine g_X1_came C hk dX1_beVisited_29 fl_X1_24 rfl ?_
    refine v_iconst C dX1_beVisited_32 ic_1 rfl ?_
    refine v_iadd C dX1_beVisited_33 rfl ?_
    refine v_mmin C dX1_beVisited_34 ml_X1_31 st_min in_J9 co_min (by decide) (Nat.le_of_ble_eq_true rfl) rfl ?_
    refine p_X1_came C hk dX1_beVisited_37 fl_X1_24 rfl ?_
    exact v_vret C hQ dX1_beVisited_40 (by simp [Pv, up_if, tallyS, *])

set_option maxRecDepth 100000 in
set_option maxHeartbeats 4000000 in
theorem c_X1_beSharing {l : Launch} {w : WC} {μ : Me} {k : Nat} (hk : Rs w k) {g : Int32} : CtV l w yX1_beSharing cX1_beSharing 2 (Rm 2 43) [.ref (w_ad w k), .int g] μ (Pv (up (up μ k 1 (clampS (μ.1 k 1 + gainsS (μ.1 k 0) g / 2))) k 3 (tallyS (μ.1 k 3)))) := by
  refine Ct.mk (own := RX1) rfl (by decide) (Nat.le_of_ble_eq_true rfl) (fun x hxl C hQ => ?_)
  subst hxl
  refine v_aload_n C dX1_beSharing_0 rfl rfl ?_
  refine v_aload_n C dX1_beSharing_1 rfl rfl ?_
  refine v_iload_n C dX1_beSharing_2 rfl rfl ?_
  refine v_iV C dX1_beSharing_3 mi_X1_gains (c_X1_gains hk) rfl hk.1 hk.2 rfl ml_X1_40 (rk_of rfl) rfl (Nat.le_of_ble_eq_true rfl) rfl (px_k ?_)
  refine v_iconst C dX1_beSharing_6 ic_2 rfl ?_
  refine v_idiv C dX1_beSharing_7 (by decide) rfl ?_
  refine v_vV C dX1_beSharing_8 mi_X1_feel (c_X1_feel hk) rfl hk.1 hk.2 rfl ml_X1_44 (rk_of rfl) rfl (Nat.le_of_ble_eq_true rfl) rfl (pv_k ?_)
  refine v_aload_n C dX1_beSharing_11 rfl rfl ?_
  refine v_vV C dX1_beSharing_12 mi_X1_waitOn (c_X1_waitOn hk) rfl hk.1 hk.2 rfl ml_X1_48 (rk_of rfl) rfl (Nat.le_of_ble_eq_true rfl) rfl (pv_k ?_)
  exact v_vret C hQ dX1_beSharing_15 (by simp [Pv, up_if, tallyS, *])

set_option maxRecDepth 100000 in
set_option maxHeartbeats 4000000 in
theorem c_X1_beHelped {l : Launch} {w : WC} {μ : Me} {k : Nat} (hk : Rs w k) : CtV l w yX1_beHelped cX1_beHelped 1 (Rm 2 42) [.ref (w_ad w k)] μ (Pv (up (up μ k 1 (clampS (μ.1 k 1 + 4))) k 3 0)) := by
  refine Ct.mk (own := RX1) rfl (by decide) (Nat.le_of_ble_eq_true rfl) (fun x hxl C hQ => ?_)
  subst hxl
  refine v_aload_n C dX1_beHelped_0 rfl rfl ?_
  refine v_iconst C dX1_beHelped_1 ic_4 rfl ?_
  refine v_vV C dX1_beHelped_2 mi_X1_feel (c_X1_feel hk) rfl hk.1 hk.2 rfl ml_X1_44 (rk_of rfl) rfl (Nat.le_of_ble_eq_true rfl) rfl (pv_k ?_)
  refine v_aload_n C dX1_beHelped_5 rfl rfl ?_
  refine v_iconst C dX1_beHelped_6 ic_0 rfl ?_
  refine p_X1_waits C hk dX1_beHelped_7 fl_X1_21 rfl ?_
  exact v_vret C hQ dX1_beHelped_10 rfl

set_option maxRecDepth 100000 in
set_option maxHeartbeats 4000000 in
theorem c_X1_beAlone {l : Launch} {w : WC} {μ : Me} {k : Nat} (hk : Rs w k) {v : Int32} : CtV l w yX1_beAlone cX1_beAlone 2 (Rm 2 42) [.ref (w_ad w k), .int v] μ (Pv (up (up μ k 1 (clampS (μ.1 k 1 + -losesS (μ.1 k 0) (μ.1 k 3) v))) k 3 (tallyS (μ.1 k 3)))) := by
  refine Ct.mk (own := RX1) rfl (by decide) (Nat.le_of_ble_eq_true rfl) (fun x hxl C hQ => ?_)
  subst hxl
  refine v_aload_n C dX1_beAlone_0 rfl rfl ?_
  refine v_aload_n C dX1_beAlone_1 rfl rfl ?_
  refine v_iload_n C dX1_beAlone_2 rfl rfl ?_
  refine v_iV C dX1_beAlone_3 mi_X1_loses (c_X1_loses hk) rfl hk.1 hk.2 rfl ml_X1_51 (rk_of rfl) rfl (Nat.le_of_ble_eq_true rfl) rfl (px_k ?_)
  refine v_ineg C dX1_beAlone_6 rfl ?_
  refine v_vV C dX1_beAlone_7 mi_X1_feel (c_X1_feel hk) rfl hk.1 hk.2 rfl ml_X1_44 (rk_of rfl) rfl (Nat.le_of_ble_eq_true rfl) rfl (pv_k ?_)
  refine v_aload_n C dX1_beAlone_10 rfl rfl ?_
  refine v_vV C dX1_beAlone_11 mi_X1_waitOn (c_X1_waitOn hk) rfl hk.1 hk.2 rfl ml_X1_48 (rk_of rfl) rfl (Nat.le_of_ble_eq_true rfl) rfl (pv_k ?_)
  exact v_vret C hQ dX1_beAlone_14 (by simp [Pv, up_if, tallyS, *])
