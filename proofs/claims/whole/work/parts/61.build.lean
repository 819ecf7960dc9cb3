theorem lt_b {i n : Nat} (h : Nat.ble (i + 1) n = true) : i < n := Nat.le_of_ble_eq_true h
theorem rk_of2 {r : Room} {n f' lo' : Nat} (h : (Nat.ble (f' + 1) r.frames && Nat.ble (8 + (n + 11) + lo') r.locals) = true) : Rk r n (Rm f' lo') := by
  have h2 := Bool.and_eq_true_iff.mp h
  exact ⟨rfl, rfl, Nat.le_of_ble_eq_true h2.1, Nat.le_of_ble_eq_true h2.2⟩

theorem mk_X0 : Mk yX0_init cX0_init 2 := ⟨mk_X0_init, mq_X0_init, in_X0, rfl, by decide +kernel, by decide +kernel, by decide +kernel⟩
theorem mk_X1 : Mk yX1_init cX1_init 1 := ⟨mk_X1_init, mq_X1_init, in_X1, rfl, by decide +kernel, by decide +kernel, by decide +kernel⟩
theorem mk_X2 : Mk yX2_init cX2_init 1 := ⟨mk_X2_init, mq_X2_init, in_X2, rfl, by decide +kernel, by decide +kernel, by decide +kernel⟩
theorem mk_X3 : Mk yX3_init cX3_init 1 := ⟨mk_X3_init, mq_X3_init, in_X3, rfl, by decide +kernel, by decide +kernel, by decide +kernel⟩
theorem mk_X4 : Mk yX4_init cX4_init 2 := ⟨mk_X4_init, mq_X4_init, in_X4, rfl, by decide +kernel, by decide +kernel, by decide +kernel⟩
theorem mk_X5 : Mk yX5_init cX5_init 1 := ⟨mk_X5_init, mq_X5_init, in_X5, rfl, by decide +kernel, by decide +kernel, by decide +kernel⟩
set_option maxRecDepth 100000 in
set_option maxHeartbeats 4000000 in
theorem k_X1_init {l : Launch} {D : va_G} {cA : Nat → ClassId} : Kt l D cA yX1_init cX1_init 1 { frames := 1, cells := 0, slots := 0, locals := 12 } 1 fsX1 (fun h0 w1 => w1 = one h0 1 fsX1) := by
  refine Kt.mk (own := RX1) rfl (by decide) rfl (by decide) (fun h0 z hCl hCD hCc hCA C hQ => ?_)
  subst hCl hCD hCc
  refine b_ws (ws' := [(h0, .inr (1, [.int 0, .int 0, .int 0, .int 0, .int 0]))]) rfl ?_
  refine b_aload_n C dX1_init_0 rfl rfl ?_
  refine b_obj C dX1_init_1 ml_X1_3 (Nat.le_of_ble_eq_true rfl) (Nat.le_of_ble_eq_true rfl) rfl ?_
  exact b_ret C rfl hQ dX1_init_4 (w1 := [(h0, .inr (1, [.int 0, .int 0, .int 0, .int 0, .int 0]))]) [0] rfl (by decide) rfl rfl (Nat.le_of_ble_eq_true rfl) (Nat.le_of_ble_eq_true rfl)

set_option maxRecDepth 100000 in
set_option maxHeartbeats 4000000 in
theorem k_X2_init {l : Launch} {D : va_G} {cA : Nat → ClassId} : Kt l D cA yX2_init cX2_init 1 { frames := 1, cells := 1, slots := 40, locals := 12 } 2 fsX2 (fun h0 w1 => ∃ q, w1 = [(h0, .inr (2, [.int 0, .int 0, .ref q])), (q, .inl (cA 0, 40, .inl (fun _ => 0)))]) := by
  refine Kt.mk (own := RX2) rfl (by decide) rfl (by decide) (fun h0 z hCl hCD hCc hCA C hQ => ?_)
  subst hCl hCD hCc
  refine b_ws (ws' := [(h0, .inr (2, [.int 0, .int 0, .null]))]) rfl ?_
  refine b_aload_n C dX2_init_0 rfl rfl ?_
  refine b_obj C dX2_init_1 ml_X2_3 (Nat.le_of_ble_eq_true rfl) (Nat.le_of_ble_eq_true rfl) rfl ?_
  refine b_aload_n C dX2_init_4 rfl rfl ?_
  refine b_bipush C dX2_init_5 bp_40 rfl ?_
  refine b_newI (N := 40) C dX2_init_7 (by decide) (by decide) (by decide) (Nat.le_of_ble_eq_true rfl) (Nat.le_of_ble_eq_true rfl) rfl (fun q1 => ?_)
  refine b_ws (ws' := [(h0, .inr (2, [.int 0, .int 0, .null])), (q1, aI z 40 (fun _ => 0))]) rfl ?_
  refine b_cs (c2 := 1) (s2 := 40) rfl rfl ?_
  refine b_putF (T := TX2) (N := 3) (Cn := RX2) (ty0 := tyX2) C 0 2 dX2_init_9 rfl rfl (by decide) iw_X2 tyX2_ok nmX2 fl_X2_9 rfl rfl rfl rfl (lt_b rfl) rfl ?_
  refine b_ws (ws' := [(h0, .inr (2, [.int 0, .int 0, .ref q1])), (q1, aI z 40 (fun _ => 0))]) rfl ?_
  exact b_ret C rfl hQ dX2_init_12 (w1 := [(h0, .inr (2, [.int 0, .int 0, .ref q1])), (q1, aI z 40 (fun _ => 0))]) [0, 1] rfl (by decide) rfl ⟨_, rfl⟩ (Nat.le_of_ble_eq_true rfl) (Nat.le_of_ble_eq_true rfl)

set_option maxRecDepth 100000 in
set_option maxHeartbeats 4000000 in
theorem k_X3_init {l : Launch} {D : va_G} {cA : Nat → ClassId} : Kt l D cA yX3_init cX3_init 1 { frames := 1, cells := 1, slots := 120, locals := 12 } 3 fsX3 (fun h0 w1 => ∃ q, w1 = [(h0, .inr (3, [.ref q, .int 0, .int 0, .int 0, .int 0, .int 0])), (q, .inl (cA 0, 120, .inl (fun _ => 0)))]) := by
  refine Kt.mk (own := RX3) rfl (by decide) rfl (by decide) (fun h0 z hCl hCD hCc hCA C hQ => ?_)
  subst hCl hCD hCc
  refine b_ws (ws' := [(h0, .inr (3, [.null, .int 0, .int 0, .int 0, .int 0, .int 0]))]) rfl ?_
  refine b_aload_n C dX3_init_0 rfl rfl ?_
  refine b_obj C dX3_init_1 ml_X3_3 (Nat.le_of_ble_eq_true rfl) (Nat.le_of_ble_eq_true rfl) rfl ?_
  refine b_aload_n C dX3_init_4 rfl rfl ?_
  refine b_bipush C dX3_init_5 bp_120 rfl ?_
  refine b_newI (N := 120) C dX3_init_7 (by decide) (by decide) (by decide) (Nat.le_of_ble_eq_true rfl) (Nat.le_of_ble_eq_true rfl) rfl (fun q1 => ?_)
  refine b_ws (ws' := [(h0, .inr (3, [.null, .int 0, .int 0, .int 0, .int 0, .int 0])), (q1, aI z 120 (fun _ => 0))]) rfl ?_
  refine b_cs (c2 := 1) (s2 := 120) rfl rfl ?_
  refine b_putF (T := TX3) (N := 6) (Cn := RX3) (ty0 := tyX3) C 0 0 dX3_init_9 rfl rfl (by decide) iw_X3 tyX3_ok nmX3 fl_X3_9 rfl rfl rfl rfl (lt_b rfl) rfl ?_
  refine b_ws (ws' := [(h0, .inr (3, [.ref q1, .int 0, .int 0, .int 0, .int 0, .int 0])), (q1, aI z 120 (fun _ => 0))]) rfl ?_
  exact b_ret C rfl hQ dX3_init_12 (w1 := [(h0, .inr (3, [.ref q1, .int 0, .int 0, .int 0, .int 0, .int 0])), (q1, aI z 120 (fun _ => 0))]) [0, 1] rfl (by decide) rfl ⟨_, rfl⟩ (Nat.le_of_ble_eq_true rfl) (Nat.le_of_ble_eq_true rfl)

def muH : Me := (fun k => match k with
  | 0 => fun i => if i = 5 then 1 else 0
  | 1 => upd (upd (upd (upd (fun _ => 0) 0 6) 1 11) 2 1) 3 4
  | 4 => fiL (fun _ => 0) (-1) 10
  | _ => fun _ => 0, 0)
abbrev wHm (D : va_G) (cA : Nat → ClassId) (ad : Nat → Nat) : WC := (shHome 0, 13, ad, D, cA, fun _ => True)
def muM : Me := (fun k => match k with
  | 1 => upd (upd (upd (upd (upd (fun _ => 0) 2 1) 3 6) 4 11) 5 1) 6 4
  | _ => fun _ => 0, 0)
abbrev wMd (D : va_G) (cA : Nat → ClassId) (ad : Nat → Nat) : WC := (shM, 11, ad, D, cA, fun _ => True)

set_option maxRecDepth 100000 in
set_option maxHeartbeats 4000000 in
theorem k_X0_init {l : Launch} {D : va_G} {cA : Nat → ClassId} : Kt l D cA yX0_init cX0_init 2 { frames := 2, cells := 12, slots := 68, locals := 40 } 0 fsX0 (fun h0 w1 => ∃ ad : Nat → Nat, ad 0 = h0 ∧ w1 = wl (wHm D cA ad) muH) := by
  refine Kt.mk (own := RX0) rfl (by decide) rfl (by decide) (fun h0 z hCl hCD hCc hCA C hQ => ?_)
  subst hCl hCD hCc
  refine b_ws (ws' := [(h0, .inr (0, [.null, .null, .null, .int 0, .int 0, .int 0, .null, .int 0, .int 0, .int 0]))]) rfl ?_
  refine b_aload_n C dX0_init_0 rfl rfl ?_
  refine b_obj C dX0_init_1 ml_X0_3 (Nat.le_of_ble_eq_true rfl) (Nat.le_of_ble_eq_true rfl) rfl ?_
  refine b_aload_n C dX0_init_4 rfl rfl ?_
  refine b_iconst C dX0_init_5 ic_4 rfl ?_
  refine b_newI (N := 4) C dX0_init_6 (by decide) (by decide) (by decide) (Nat.le_of_ble_eq_true rfl) (Nat.le_of_ble_eq_true rfl) rfl (fun q1 => ?_)
  refine b_ws (ws' := [(h0, .inr (0, [.null, .null, .null, .int 0, .int 0, .int 0, .null, .int 0, .int 0, .int 0])), (q1, aI z 4 (fun _ => 0))]) rfl ?_
  refine b_cs (c2 := 1) (s2 := 4) rfl rfl ?_
  refine b_putF (T := TX0) (N := 10) (Cn := RX0) (ty0 := tyX0) C 0 0 dX0_init_8 rfl rfl (by decide) iw_X0 tyX0_ok nmX0 fl_X0_9 rfl rfl rfl rfl (lt_b rfl) rfl ?_
  refine b_ws (ws' := [(h0, .inr (0, [.ref q1, .null, .null, .int 0, .int 0, .int 0, .null, .int 0, .int 0, .int 0])), (q1, aI z 4 (fun _ => 0))]) rfl ?_
  refine b_aload_n C dX0_init_11 rfl rfl ?_
  refine b_get (T := TX0) (N := 10) (Cn := RX0) C 0 0 dX0_init_12 rfl rfl (by decide) iw_X0 fl_X0_9 rfl rfl ?_
  refine b_iconst C dX0_init_15 ic_0 rfl ?_
  refine b_bipush C dX0_init_16 bp_6 rfl ?_
  refine b_iast C 1 dX0_init_18 rfl (by unfold vp_in; decide) rfl ?_
  refine b_ws (ws' := [(h0, .inr (0, [.ref q1, .null, .null, .int 0, .int 0, .int 0, .null, .int 0, .int 0, .int 0])), (q1, aI z 4 (upd (fun _ => 0) 0 6))]) rfl ?_
  refine b_aload_n C dX0_init_19 rfl rfl ?_
  refine b_get (T := TX0) (N := 10) (Cn := RX0) C 0 0 dX0_init_20 rfl rfl (by decide) iw_X0 fl_X0_9 rfl rfl ?_
  refine b_iconst C dX0_init_23 ic_1 rfl ?_
  refine b_bipush C dX0_init_24 bp_11 rfl ?_
  refine b_iast C 1 dX0_init_26 rfl (by unfold vp_in; decide) rfl ?_
  refine b_ws (ws' := [(h0, .inr (0, [.ref q1, .null, .null, .int 0, .int 0, .int 0, .null, .int 0, .int 0, .int 0])), (q1, aI z 4 (upd (upd (fun _ => 0) 0 6) 1 11))]) rfl ?_
  refine b_aload_n C dX0_init_27 rfl rfl ?_
  refine b_get (T := TX0) (N := 10) (Cn := RX0) C 0 0 dX0_init_28 rfl rfl (by decide) iw_X0 fl_X0_9 rfl rfl ?_
  refine b_iconst C dX0_init_31 ic_2 rfl ?_
  refine b_iconst C dX0_init_32 ic_1 rfl ?_
  refine b_iast C 1 dX0_init_33 rfl (by unfold vp_in; decide) rfl ?_
  refine b_ws (ws' := [(h0, .inr (0, [.ref q1, .null, .null, .int 0, .int 0, .int 0, .null, .int 0, .int 0, .int 0])), (q1, aI z 4 (upd (upd (upd (fun _ => 0) 0 6) 1 11) 2 1))]) rfl ?_
  refine b_aload_n C dX0_init_34 rfl rfl ?_
  refine b_get (T := TX0) (N := 10) (Cn := RX0) C 0 0 dX0_init_35 rfl rfl (by decide) iw_X0 fl_X0_9 rfl rfl ?_
  refine b_iconst C dX0_init_38 ic_3 rfl ?_
  refine b_iconst C dX0_init_39 ic_4 rfl ?_
  refine b_iast C 1 dX0_init_40 rfl (by unfold vp_in; decide) rfl ?_
  refine b_ws (ws' := [(h0, .inr (0, [.ref q1, .null, .null, .int 0, .int 0, .int 0, .null, .int 0, .int 0, .int 0])), (q1, aI z 4 (upd (upd (upd (upd (fun _ => 0) 0 6) 1 11) 2 1) 3 4))]) rfl ?_
  refine b_aload_n C dX0_init_41 rfl rfl ?_
  refine b_bipush C dX0_init_42 bp_6 rfl ?_
  refine b_newI (N := 6) C dX0_init_44 (by decide) (by decide) (by decide) (Nat.le_of_ble_eq_true rfl) (Nat.le_of_ble_eq_true rfl) rfl (fun q2 => ?_)
  refine b_ws (ws' := [(h0, .inr (0, [.ref q1, .null, .null, .int 0, .int 0, .int 0, .null, .int 0, .int 0, .int 0])), (q1, aI z 4 (upd (upd (upd (upd (fun _ => 0) 0 6) 1 11) 2 1) 3 4)), (q2, aI z 6 (fun _ => 0))]) rfl ?_
  refine b_cs (c2 := 2) (s2 := 10) rfl rfl ?_
  refine b_putF (T := TX0) (N := 10) (Cn := RX0) (ty0 := tyX0) C 0 1 dX0_init_46 rfl rfl (by decide) iw_X0 tyX0_ok nmX0 fl_X0_15 rfl rfl rfl rfl (lt_b rfl) rfl ?_
  refine b_ws (ws' := [(h0, .inr (0, [.ref q1, .ref q2, .null, .int 0, .int 0, .int 0, .null, .int 0, .int 0, .int 0])), (q1, aI z 4 (upd (upd (upd (upd (fun _ => 0) 0 6) 1 11) 2 1) 3 4)), (q2, aI z 6 (fun _ => 0))]) rfl ?_
  refine b_aload_n C dX0_init_49 rfl rfl ?_
  refine b_bipush C dX0_init_50 bp_8 rfl ?_
  refine b_newQ (N := 8) (Cn := "SundayVisits$Resident") C 2 rfl dX0_init_52 ck_X0_18 C.2.2.2.2.2.2.2.2.2.2.2.1 (by decide) (by decide) (by decide) (Nat.le_of_ble_eq_true rfl) (Nat.le_of_ble_eq_true rfl) rfl (fun q3 => ?_)
  refine b_ws (ws' := [(h0, .inr (0, [.ref q1, .ref q2, .null, .int 0, .int 0, .int 0, .null, .int 0, .int 0, .int 0])), (q1, aI z 4 (upd (upd (upd (upd (fun _ => 0) 0 6) 1 11) 2 1) 3 4)), (q2, aI z 6 (fun _ => 0)), (q3, aQ z 2 8 (fun _ => none))]) rfl ?_
  refine b_cs (c2 := 3) (s2 := 18) rfl rfl ?_
  refine b_putF (T := TX0) (N := 10) (Cn := RX0) (ty0 := tyX0) C 0 2 dX0_init_55 rfl rfl (by decide) iw_X0 tyX0_ok nmX0 fl_X0_20 rfl rfl rfl rfl (lt_b rfl) rfl ?_
  refine b_ws (ws' := [(h0, .inr (0, [.ref q1, .ref q2, .ref q3, .int 0, .int 0, .int 0, .null, .int 0, .int 0, .int 0])), (q1, aI z 4 (upd (upd (upd (upd (fun _ => 0) 0 6) 1 11) 2 1) 3 4)), (q2, aI z 6 (fun _ => 0)), (q3, aQ z 2 8 (fun _ => none))]) rfl ?_
  refine b_iconst C dX0_init_58 ic_0 rfl ?_
  refine b_istore_n C dX0_init_59 (by decide) rfl ?_
  refine b_iload_n C dX0_init_60 rfl rfl ?_
  refine b_bipush C dX0_init_61 bp_8 rfl ?_
  refine b_icmp_ge C 85 66 dX0_init_63 (by decide) rfl (fun h => ?_) (fun h => ?_)
  · exact absurd h (by decide)
  refine b_aload_n C dX0_init_66 rfl rfl ?_
  refine b_get (T := TX0) (N := 10) (Cn := RX0) C 0 2 dX0_init_67 rfl rfl (by decide) iw_X0 fl_X0_20 rfl rfl ?_
  refine b_iload_n C dX0_init_70 rfl rfl ?_
  refine b_new (ci := 1) (fs := fsX1) (T := TX1) (N := 5) (Cn := RX1) C dX0_init_71 iw_X1 tyX1_ok ck_X0_18 is_X1 in_X1 rfl df_X1 (Nat.le_of_ble_eq_true rfl) (Nat.le_of_ble_eq_true rfl) rfl (fun q4 => ?_)
  refine b_cs (c2 := 4) (s2 := 23) rfl rfl ?_
  refine b_dup C dX0_init_74 rfl rfl ?_
  refine b_callIN (ws := [(h0, .inr (0, [.ref q1, .ref q2, .ref q3, .int 0, .int 0, .int 0, .null, .int 0, .int 0, .int 0])), (q1, aI z 4 (upd (upd (upd (upd (fun _ => 0) 0 6) 1 11) 2 1) 3 4)), (q2, aI z 6 (fun _ => 0)), (q3, aQ z 2 8 (fun _ => none))]) (cells := 4) (slots := 23) C dX0_init_75 mk_X1 (k_X1_init) C.2.2.2.2.2.2.2.2.2.2.2.2.2 (Nat.le_of_ble_eq_true rfl) (Nat.le_of_ble_eq_true rfl) (Nat.le_of_ble_eq_true rfl) (Nat.le_of_ble_eq_true rfl) (Nat.le_of_ble_eq_true rfl) rfl (fun w75_4 hw75_4 => ?_)
  subst hw75_4
  refine b_ws (ws' := [(h0, .inr (0, [.ref q1, .ref q2, .ref q3, .int 0, .int 0, .int 0, .null, .int 0, .int 0, .int 0])), (q1, aI z 4 (upd (upd (upd (upd (fun _ => 0) 0 6) 1 11) 2 1) 3 4)), (q2, aI z 6 (fun _ => 0)), (q3, aQ z 2 8 (fun _ => none)), (q4, .inr (1, [.int 0, .int 0, .int 0, .int 0, .int 0]))]) rfl ?_
  refine b_cs (c2 := 4) (s2 := 23) rfl rfl ?_
  refine b_aast (r := (RX1, TX1, 5)) C 3 4 dX0_init_78 rfl rfl rfl rfl (by unfold vp_in; decide) rfl ?_
  refine b_ws (ws' := [(h0, .inr (0, [.ref q1, .ref q2, .ref q3, .int 0, .int 0, .int 0, .null, .int 0, .int 0, .int 0])), (q1, aI z 4 (upd (upd (upd (upd (fun _ => 0) 0 6) 1 11) 2 1) 3 4)), (q2, aI z 6 (fun _ => 0)), (q3, aQ z 2 8 (va_up (fun _ => none) 0 (some q4))), (q4, .inr (1, [.int 0, .int 0, .int 0, .int 0, .int 0]))]) rfl ?_
  refine b_iincN (j := 0) C dX0_init_79 rfl (by decide) rfl ?_
  refine b_goto C 60 dX0_init_82 (by decide) ?_
  refine b_iload_n C dX0_init_60 rfl rfl ?_
  refine b_bipush C dX0_init_61 bp_8 rfl ?_
  refine b_icmp_ge C 85 66 dX0_init_63 (by decide) rfl (fun h => ?_) (fun h => ?_)
  · exact absurd h (by decide)
  refine b_aload_n C dX0_init_66 rfl rfl ?_
  refine b_get (T := TX0) (N := 10) (Cn := RX0) C 0 2 dX0_init_67 rfl rfl (by decide) iw_X0 fl_X0_20 rfl rfl ?_
  refine b_iload_n C dX0_init_70 rfl rfl ?_
  refine b_new (ci := 1) (fs := fsX1) (T := TX1) (N := 5) (Cn := RX1) C dX0_init_71 iw_X1 tyX1_ok ck_X0_18 is_X1 in_X1 rfl df_X1 (Nat.le_of_ble_eq_true rfl) (Nat.le_of_ble_eq_true rfl) rfl (fun q5 => ?_)
  refine b_cs (c2 := 5) (s2 := 28) rfl rfl ?_
  refine b_dup C dX0_init_74 rfl rfl ?_
  refine b_callIN (ws := [(h0, .inr (0, [.ref q1, .ref q2, .ref q3, .int 0, .int 0, .int 0, .null, .int 0, .int 0, .int 0])), (q1, aI z 4 (upd (upd (upd (upd (fun _ => 0) 0 6) 1 11) 2 1) 3 4)), (q2, aI z 6 (fun _ => 0)), (q3, aQ z 2 8 (va_up (fun _ => none) 0 (some q4))), (q4, .inr (1, [.int 0, .int 0, .int 0, .int 0, .int 0]))]) (cells := 5) (slots := 28) C dX0_init_75 mk_X1 (k_X1_init) C.2.2.2.2.2.2.2.2.2.2.2.2.2 (Nat.le_of_ble_eq_true rfl) (Nat.le_of_ble_eq_true rfl) (Nat.le_of_ble_eq_true rfl) (Nat.le_of_ble_eq_true rfl) (Nat.le_of_ble_eq_true rfl) rfl (fun w75_5 hw75_5 => ?_)
  subst hw75_5
  refine b_ws (ws' := [(h0, .inr (0, [.ref q1, .ref q2, .ref q3, .int 0, .int 0, .int 0, .null, .int 0, .int 0, .int 0])), (q1, aI z 4 (upd (upd (upd (upd (fun _ => 0) 0 6) 1 11) 2 1) 3 4)), (q2, aI z 6 (fun _ => 0)), (q3, aQ z 2 8 (va_up (fun _ => none) 0 (some q4))), (q4, .inr (1, [.int 0, .int 0, .int 0, .int 0, .int 0])), (q5, .inr (1, [.int 0, .int 0, .int 0, .int 0, .int 0]))]) rfl ?_
  refine b_cs (c2 := 5) (s2 := 28) rfl rfl ?_
  refine b_aast (r := (RX1, TX1, 5)) C 3 5 dX0_init_78 rfl rfl rfl rfl (by unfold vp_in; decide) rfl ?_
  refine b_ws (ws' := [(h0, .inr (0, [.ref q1, .ref q2, .ref q3, .int 0, .int 0, .int 0, .null, .int 0, .int 0, .int 0])), (q1, aI z 4 (upd (upd (upd (upd (fun _ => 0) 0 6) 1 11) 2 1) 3 4)), (q2, aI z 6 (fun _ => 0)), (q3, aQ z 2 8 (va_up (va_up (fun _ => none) 0 (some q4)) 1 (some q5))), (q4, .inr (1, [.int 0, .int 0, .int 0, .int 0, .int 0])), (q5, .inr (1, [.int 0, .int 0, .int 0, .int 0, .int 0]))]) rfl ?_
  refine b_iincN (j := 1) C dX0_init_79 rfl (by decide) rfl ?_
  refine b_goto C 60 dX0_init_82 (by decide) ?_
  refine b_iload_n C dX0_init_60 rfl rfl ?_
  refine b_bipush C dX0_init_61 bp_8 rfl ?_
  refine b_icmp_ge C 85 66 dX0_init_63 (by decide) rfl (fun h => ?_) (fun h => ?_)
  · exact absurd h (by decide)
  refine b_aload_n C dX0_init_66 rfl rfl ?_
  refine b_get (T := TX0) (N := 10) (Cn := RX0) C 0 2 dX0_init_67 rfl rfl (by decide) iw_X0 fl_X0_20 rfl rfl ?_
  refine b_iload_n C dX0_init_70 rfl rfl ?_
  refine b_new (ci := 1) (fs := fsX1) (T := TX1) (N := 5) (Cn := RX1) C dX0_init_71 iw_X1 tyX1_ok ck_X0_18 is_X1 in_X1 rfl df_X1 (Nat.le_of_ble_eq_true rfl) (Nat.le_of_ble_eq_true rfl) rfl (fun q6 => ?_)
  refine b_cs (c2 := 6) (s2 := 33) rfl rfl ?_
  refine b_dup C dX0_init_74 rfl rfl ?_
  refine b_callIN (ws := [(h0, .inr (0, [.ref q1, .ref q2, .ref q3, .int 0, .int 0, .int 0, .null, .int 0, .int 0, .int 0])), (q1, aI z 4 (upd (upd (upd (upd (fun _ => 0) 0 6) 1 11) 2 1) 3 4)), (q2, aI z 6 (fun _ => 0)), (q3, aQ z 2 8 (va_up (va_up (fun _ => none) 0 (some q4)) 1 (some q5))), (q4, .inr (1, [.int 0, .int 0, .int 0, .int 0, .int 0])), (q5, .inr (1, [.int 0, .int 0, .int 0, .int 0, .int 0]))]) (cells := 6) (slots := 33) C dX0_init_75 mk_X1 (k_X1_init) C.2.2.2.2.2.2.2.2.2.2.2.2.2 (Nat.le_of_ble_eq_true rfl) (Nat.le_of_ble_eq_true rfl) (Nat.le_of_ble_eq_true rfl) (Nat.le_of_ble_eq_true rfl) (Nat.le_of_ble_eq_true rfl) rfl (fun w75_6 hw75_6 => ?_)
  subst hw75_6
  refine b_ws (ws' := [(h0, .inr (0, [.ref q1, .ref q2, .ref q3, .int 0, .int 0, .int 0, .null, .int 0, .int 0, .int 0])), (q1, aI z 4 (upd (upd (upd (upd (fun _ => 0) 0 6) 1 11) 2 1) 3 4)), (q2, aI z 6 (fun _ => 0)), (q3, aQ z 2 8 (va_up (va_up (fun _ => none) 0 (some q4)) 1 (some q5))), (q4, .inr (1, [.int 0, .int 0, .int 0, .int 0, .int 0])), (q5, .inr (1, [.int 0, .int 0, .int 0, .int 0, .int 0])), (q6, .inr (1, [.int 0, .int 0, .int 0, .int 0, .int 0]))]) rfl ?_
  refine b_cs (c2 := 6) (s2 := 33) rfl rfl ?_
  refine b_aast (r := (RX1, TX1, 5)) C 3 6 dX0_init_78 rfl rfl rfl rfl (by unfold vp_in; decide) rfl ?_
  refine b_ws (ws' := [(h0, .inr (0, [.ref q1, .ref q2, .ref q3, .int 0, .int 0, .int 0, .null, .int 0, .int 0, .int 0])), (q1, aI z 4 (upd (upd (upd (upd (fun _ => 0) 0 6) 1 11) 2 1) 3 4)), (q2, aI z 6 (fun _ => 0)), (q3, aQ z 2 8 (va_up (va_up (va_up (fun _ => none) 0 (some q4)) 1 (some q5)) 2 (some q6))), (q4, .inr (1, [.int 0, .int 0, .int 0, .int 0, .int 0])), (q5, .inr (1, [.int 0, .int 0, .int 0, .int 0, .int 0])), (q6, .inr (1, [.int 0, .int 0, .int 0, .int 0, .int 0]))]) rfl ?_
  refine b_iincN (j := 2) C dX0_init_79 rfl (by decide) rfl ?_
  refine b_goto C 60 dX0_init_82 (by decide) ?_
  refine b_iload_n C dX0_init_60 rfl rfl ?_
  refine b_bipush C dX0_init_61 bp_8 rfl ?_
  refine b_icmp_ge C 85 66 dX0_init_63 (by decide) rfl (fun h => ?_) (fun h => ?_)
  · exact absurd h (by decide)
  refine b_aload_n C dX0_init_66 rfl rfl ?_
  refine b_get (T := TX0) (N := 10) (Cn := RX0) C 0 2 dX0_init_67 rfl rfl (by decide) iw_X0 fl_X0_20 rfl rfl ?_
  refine b_iload_n C dX0_init_70 rfl rfl ?_
  refine b_new (ci := 1) (fs := fsX1) (T := TX1) (N := 5) (Cn := RX1) C dX0_init_71 iw_X1 tyX1_ok ck_X0_18 is_X1 in_X1 rfl df_X1 (Nat.le_of_ble_eq_true rfl) (Nat.le_of_ble_eq_true rfl) rfl (fun q7 => ?_)
  refine b_cs (c2 := 7) (s2 := 38) rfl rfl ?_
  refine b_dup C dX0_init_74 rfl rfl ?_
  refine b_callIN (ws := [(h0, .inr (0, [.ref q1, .ref q2, .ref q3, .int 0, .int 0, .int 0, .null, .int 0, .int 0, .int 0])), (q1, aI z 4 (upd (upd (upd (upd (fun _ => 0) 0 6) 1 11) 2 1) 3 4)), (q2, aI z 6 (fun _ => 0)), (q3, aQ z 2 8 (va_up (va_up (va_up (fun _ => none) 0 (some q4)) 1 (some q5)) 2 (some q6))), (q4, .inr (1, [.int 0, .int 0, .int 0, .int 0, .int 0])), (q5, .inr (1, [.int 0, .int 0, .int 0, .int 0, .int 0])), (q6, .inr (1, [.int 0, .int 0, .int 0, .int 0, .int 0]))]) (cells := 7) (slots := 38) C dX0_init_75 mk_X1 (k_X1_init) C.2.2.2.2.2.2.2.2.2.2.2.2.2 (Nat.le_of_ble_eq_true rfl) (Nat.le_of_ble_eq_true rfl) (Nat.le_of_ble_eq_true rfl) (Nat.le_of_ble_eq_true rfl) (Nat.le_of_ble_eq_true rfl) rfl (fun w75_7 hw75_7 => ?_)
  subst hw75_7
  refine b_ws (ws' := [(h0, .inr (0, [.ref q1, .ref q2, .ref q3, .int 0, .int 0, .int 0, .null, .int 0, .int 0, .int 0])), (q1, aI z 4 (upd (upd (upd (upd (fun _ => 0) 0 6) 1 11) 2 1) 3 4)), (q2, aI z 6 (fun _ => 0)), (q3, aQ z 2 8 (va_up (va_up (va_up (fun _ => none) 0 (some q4)) 1 (some q5)) 2 (some q6))), (q4, .inr (1, [.int 0, .int 0, .int 0, .int 0, .int 0])), (q5, .inr (1, [.int 0, .int 0, .int 0, .int 0, .int 0])), (q6, .inr (1, [.int 0, .int 0, .int 0, .int 0, .int 0])), (q7, .inr (1, [.int 0, .int 0, .int 0, .int 0, .int 0]))]) rfl ?_
  refine b_cs (c2 := 7) (s2 := 38) rfl rfl ?_
  refine b_aast (r := (RX1, TX1, 5)) C 3 7 dX0_init_78 rfl rfl rfl rfl (by unfold vp_in; decide) rfl ?_
  refine b_ws (ws' := [(h0, .inr (0, [.ref q1, .ref q2, .ref q3, .int 0, .int 0, .int 0, .null, .int 0, .int 0, .int 0])), (q1, aI z 4 (upd (upd (upd (upd (fun _ => 0) 0 6) 1 11) 2 1) 3 4)), (q2, aI z 6 (fun _ => 0)), (q3, aQ z 2 8 (va_up (va_up (va_up (va_up (fun _ => none) 0 (some q4)) 1 (some q5)) 2 (some q6)) 3 (some q7))), (q4, .inr (1, [.int 0, .int 0, .int 0, .int 0, .int 0])), (q5, .inr (1, [.int 0, .int 0, .int 0, .int 0, .int 0])), (q6, .inr (1, [.int 0, .int 0, .int 0, .int 0, .int 0])), (q7, .inr (1, [.int 0, .int 0, .int 0, .int 0, .int 0]))]) rfl ?_
  refine b_iincN (j := 3) C dX0_init_79 rfl (by decide) rfl ?_
  refine b_goto C 60 dX0_init_82 (by decide) ?_
  refine b_iload_n C dX0_init_60 rfl rfl ?_
  refine b_bipush C dX0_init_61 bp_8 rfl ?_
  refine b_icmp_ge C 85 66 dX0_init_63 (by decide) rfl (fun h => ?_) (fun h => ?_)
  · exact absurd h (by decide)
  refine b_aload_n C dX0_init_66 rfl rfl ?_
  refine b_get (T := TX0) (N := 10) (Cn := RX0) C 0 2 dX0_init_67 rfl rfl (by decide) iw_X0 fl_X0_20 rfl rfl ?_
  refine b_iload_n C dX0_init_70 rfl rfl ?_
  refine b_new (ci := 1) (fs := fsX1) (T := TX1) (N := 5) (Cn := RX1) C dX0_init_71 iw_X1 tyX1_ok ck_X0_18 is_X1 in_X1 rfl df_X1 (Nat.le_of_ble_eq_true rfl) (Nat.le_of_ble_eq_true rfl) rfl (fun q8 => ?_)
  refine b_cs (c2 := 8) (s2 := 43) rfl rfl ?_
  refine b_dup C dX0_init_74 rfl rfl ?_
  refine b_callIN (ws := [(h0, .inr (0, [.ref q1, .ref q2, .ref q3, .int 0, .int 0, .int 0, .null, .int 0, .int 0, .int 0])), (q1, aI z 4 (upd (upd (upd (upd (fun _ => 0) 0 6) 1 11) 2 1) 3 4)), (q2, aI z 6 (fun _ => 0)), (q3, aQ z 2 8 (va_up (va_up (va_up (va_up (fun _ => none) 0 (some q4)) 1 (some q5)) 2 (some q6)) 3 (some q7))), (q4, .inr (1, [.int 0, .int 0, .int 0, .int 0, .int 0])), (q5, .inr (1, [.int 0, .int 0, .int 0, .int 0, .int 0])), (q6, .inr (1, [.int 0, .int 0, .int 0, .int 0, .int 0])), (q7, .inr (1, [.int 0, .int 0, .int 0, .int 0, .int 0]))]) (cells := 8) (slots := 43) C dX0_init_75 mk_X1 (k_X1_init) C.2.2.2.2.2.2.2.2.2.2.2.2.2 (Nat.le_of_ble_eq_true rfl) (Nat.le_of_ble_eq_true rfl) (Nat.le_of_ble_eq_true rfl) (Nat.le_of_ble_eq_true rfl) (Nat.le_of_ble_eq_true rfl) rfl (fun w75_8 hw75_8 => ?_)
  subst hw75_8
  refine b_ws (ws' := [(h0, .inr (0, [.ref q1, .ref q2, .ref q3, .int 0, .int 0, .int 0, .null, .int 0, .int 0, .int 0])), (q1, aI z 4 (upd (upd (upd (upd (fun _ => 0) 0 6) 1 11) 2 1) 3 4)), (q2, aI z 6 (fun _ => 0)), (q3, aQ z 2 8 (va_up (va_up (va_up (va_up (fun _ => none) 0 (some q4)) 1 (some q5)) 2 (some q6)) 3 (some q7))), (q4, .inr (1, [.int 0, .int 0, .int 0, .int 0, .int 0])), (q5, .inr (1, [.int 0, .int 0, .int 0, .int 0, .int 0])), (q6, .inr (1, [.int 0, .int 0, .int 0, .int 0, .int 0])), (q7, .inr (1, [.int 0, .int 0, .int 0, .int 0, .int 0])), (q8, .inr (1, [.int 0, .int 0, .int 0, .int 0, .int 0]))]) rfl ?_
  refine b_cs (c2 := 8) (s2 := 43) rfl rfl ?_
  refine b_aast (r := (RX1, TX1, 5)) C 3 8 dX0_init_78 rfl rfl rfl rfl (by unfold vp_in; decide) rfl ?_
  refine b_ws (ws' := [(h0, .inr (0, [.ref q1, .ref q2, .ref q3, .int 0, .int 0, .int 0, .null, .int 0, .int 0, .int 0])), (q1, aI z 4 (upd (upd (upd (upd (fun _ => 0) 0 6) 1 11) 2 1) 3 4)), (q2, aI z 6 (fun _ => 0)), (q3, aQ z 2 8 (va_up (va_up (va_up (va_up (va_up (fun _ => none) 0 (some q4)) 1 (some q5)) 2 (some q6)) 3 (some q7)) 4 (some q8))), (q4, .inr (1, [.int 0, .int 0, .int 0, .int 0, .int 0])), (q5, .inr (1, [.int 0, .int 0, .int 0, .int 0, .int 0])), (q6, .inr (1, [.int 0, .int 0, .int 0, .int 0, .int 0])), (q7, .inr (1, [.int 0, .int 0, .int 0, .int 0, .int 0])), (q8, .inr (1, [.int 0, .int 0, .int 0, .int 0, .int 0]))]) rfl ?_
  refine b_iincN (j := 4) C dX0_init_79 rfl (by decide) rfl ?_
  refine b_goto C 60 dX0_init_82 (by decide) ?_
  refine b_iload_n C dX0_init_60 rfl rfl ?_
  refine b_bipush C dX0_init_61 bp_8 rfl ?_
  refine b_icmp_ge C 85 66 dX0_init_63 (by decide) rfl (fun h => ?_) (fun h => ?_)
  · exact absurd h (by decide)
  refine b_aload_n C dX0_init_66 rfl rfl ?_
  refine b_get (T := TX0) (N := 10) (Cn := RX0) C 0 2 dX0_init_67 rfl rfl (by decide) iw_X0 fl_X0_20 rfl rfl ?_
  refine b_iload_n C dX0_init_70 rfl rfl ?_
  refine b_new (ci := 1) (fs := fsX1) (T := TX1) (N := 5) (Cn := RX1) C dX0_init_71 iw_X1 tyX1_ok ck_X0_18 is_X1 in_X1 rfl df_X1 (Nat.le_of_ble_eq_true rfl) (Nat.le_of_ble_eq_true rfl) rfl (fun q9 => ?_)
  refine b_cs (c2 := 9) (s2 := 48) rfl rfl ?_
  refine b_dup C dX0_init_74 rfl rfl ?_
  refine b_callIN (ws := [(h0, .inr (0, [.ref q1, .ref q2, .ref q3, .int 0, .int 0, .int 0, .null, .int 0, .int 0, .int 0])), (q1, aI z 4 (upd (upd (upd (upd (fun _ => 0) 0 6) 1 11) 2 1) 3 4)), (q2, aI z 6 (fun _ => 0)), (q3, aQ z 2 8 (va_up (va_up (va_up (va_up (va_up (fun _ => none) 0 (some q4)) 1 (some q5)) 2 (some q6)) 3 (some q7)) 4 (some q8))), (q4, .inr (1, [.int 0, .int 0, .int 0, .int 0, .int 0])), (q5, .inr (1, [.int 0, .int 0, .int 0, .int 0, .int 0])), (q6, .inr (1, [.int 0, .int 0, .int 0, .int 0, .int 0])), (q7, .inr (1, [.int 0, .int 0, .int 0, .int 0, .int 0])), (q8, .inr (1, [.int 0, .int 0, .int 0, .int 0, .int 0]))]) (cells := 9) (slots := 48) C dX0_init_75 mk_X1 (k_X1_init) C.2.2.2.2.2.2.2.2.2.2.2.2.2 (Nat.le_of_ble_eq_true rfl) (Nat.le_of_ble_eq_true rfl) (Nat.le_of_ble_eq_true rfl) (Nat.le_of_ble_eq_true rfl) (Nat.le_of_ble_eq_true rfl) rfl (fun w75_9 hw75_9 => ?_)
  subst hw75_9
  refine b_ws (ws' := [(h0, .inr (0, [.ref q1, .ref q2, .ref q3, .int 0, .int 0, .int 0, .null, .int 0, .int 0, .int 0])), (q1, aI z 4 (upd (upd (upd (upd (fun _ => 0) 0 6) 1 11) 2 1) 3 4)), (q2, aI z 6 (fun _ => 0)), (q3, aQ z 2 8 (va_up (va_up (va_up (va_up (va_up (fun _ => none) 0 (some q4)) 1 (some q5)) 2 (some q6)) 3 (some q7)) 4 (some q8))), (q4, .inr (1, [.int 0, .int 0, .int 0, .int 0, .int 0])), (q5, .inr (1, [.int 0, .int 0, .int 0, .int 0, .int 0])), (q6, .inr (1, [.int 0, .int 0, .int 0, .int 0, .int 0])), (q7, .inr (1, [.int 0, .int 0, .int 0, .int 0, .int 0])), (q8, .inr (1, [.int 0, .int 0, .int 0, .int 0, .int 0])), (q9, .inr (1, [.int 0, .int 0, .int 0, .int 0, .int 0]))]) rfl ?_
  refine b_cs (c2 := 9) (s2 := 48) rfl rfl ?_
  refine b_aast (r := (RX1, TX1, 5)) C 3 9 dX0_init_78 rfl rfl rfl rfl (by unfold vp_in; decide) rfl ?_
  refine b_ws (ws' := [(h0, .inr (0, [.ref q1, .ref q2, .ref q3, .int 0, .int 0, .int 0, .null, .int 0, .int 0, .int 0])), (q1, aI z 4 (upd (upd (upd (upd (fun _ => 0) 0 6) 1 11) 2 1) 3 4)), (q2, aI z 6 (fun _ => 0)), (q3, aQ z 2 8 (va_up (va_up (va_up (va_up (va_up (va_up (fun _ => none) 0 (some q4)) 1 (some q5)) 2 (some q6)) 3 (some q7)) 4 (some q8)) 5 (some q9))), (q4, .inr (1, [.int 0, .int 0, .int 0, .int 0, .int 0])), (q5, .inr (1, [.int 0, .int 0, .int 0, .int 0, .int 0])), (q6, .inr (1, [.int 0, .int 0, .int 0, .int 0, .int 0])), (q7, .inr (1, [.int 0, .int 0, .int 0, .int 0, .int 0])), (q8, .inr (1, [.int 0, .int 0, .int 0, .int 0, .int 0])), (q9, .inr (1, [.int 0, .int 0, .int 0, .int 0, .int 0]))]) rfl ?_
  refine b_iincN (j := 5) C dX0_init_79 rfl (by decide) rfl ?_
  refine b_goto C 60 dX0_init_82 (by decide) ?_
  refine b_iload_n C dX0_init_60 rfl rfl ?_
  refine b_bipush C dX0_init_61 bp_8 rfl ?_
  refine b_icmp_ge C 85 66 dX0_init_63 (by decide) rfl (fun h => ?_) (fun h => ?_)
  · exact absurd h (by decide)
  refine b_aload_n C dX0_init_66 rfl rfl ?_
  refine b_get (T := TX0) (N := 10) (Cn := RX0) C 0 2 dX0_init_67 rfl rfl (by decide) iw_X0 fl_X0_20 rfl rfl ?_
  refine b_iload_n C dX0_init_70 rfl rfl ?_
  refine b_new (ci := 1) (fs := fsX1) (T := TX1) (N := 5) (Cn := RX1) C dX0_init_71 iw_X1 tyX1_ok ck_X0_18 is_X1 in_X1 rfl df_X1 (Nat.le_of_ble_eq_true rfl) (Nat.le_of_ble_eq_true rfl) rfl (fun q10 => ?_)
  refine b_cs (c2 := 10) (s2 := 53) rfl rfl ?_
  refine b_dup C dX0_init_74 rfl rfl ?_
  refine b_callIN (ws := [(h0, .inr (0, [.ref q1, .ref q2, .ref q3, .int 0, .int 0, .int 0, .null, .int 0, .int 0, .int 0])), (q1, aI z 4 (upd (upd (upd (upd (fun _ => 0) 0 6) 1 11) 2 1) 3 4)), (q2, aI z 6 (fun _ => 0)), (q3, aQ z 2 8 (va_up (va_up (va_up (va_up (va_up (va_up (fun _ => none) 0 (some q4)) 1 (some q5)) 2 (some q6)) 3 (some q7)) 4 (some q8)) 5 (some q9))), (q4, .inr (1, [.int 0, .int 0, .int 0, .int 0, .int 0])), (q5, .inr (1, [.int 0, .int 0, .int 0, .int 0, .int 0])), (q6, .inr (1, [.int 0, .int 0, .int 0, .int 0, .int 0])), (q7, .inr (1, [.int 0, .int 0, .int 0, .int 0, .int 0])), (q8, .inr (1, [.int 0, .int 0, .int 0, .int 0, .int 0])), (q9, .inr (1, [.int 0, .int 0, .int 0, .int 0, .int 0]))]) (cells := 10) (slots := 53) C dX0_init_75 mk_X1 (k_X1_init) C.2.2.2.2.2.2.2.2.2.2.2.2.2 (Nat.le_of_ble_eq_true rfl) (Nat.le_of_ble_eq_true rfl) (Nat.le_of_ble_eq_true rfl) (Nat.le_of_ble_eq_true rfl) (Nat.le_of_ble_eq_true rfl) rfl (fun w75_10 hw75_10 => ?_)
  subst hw75_10
  refine b_ws (ws' := [(h0, .inr (0, [.ref q1, .ref q2, .ref q3, .int 0, .int 0, .int 0, .null, .int 0, .int 0, .int 0])), (q1, aI z 4 (upd (upd (upd (upd (fun _ => 0) 0 6) 1 11) 2 1) 3 4)), (q2, aI z 6 (fun _ => 0)), (q3, aQ z 2 8 (va_up (va_up (va_up (va_up (va_up (va_up (fun _ => none) 0 (some q4)) 1 (some q5)) 2 (some q6)) 3 (some q7)) 4 (some q8)) 5 (some q9))), (q4, .inr (1, [.int 0, .int 0, .int 0, .int 0, .int 0])), (q5, .inr (1, [.int 0, .int 0, .int 0, .int 0, .int 0])), (q6, .inr (1, [.int 0, .int 0, .int 0, .int 0, .int 0])), (q7, .inr (1, [.int 0, .int 0, .int 0, .int 0, .int 0])), (q8, .inr (1, [.int 0, .int 0, .int 0, .int 0, .int 0])), (q9, .inr (1, [.int 0, .int 0, .int 0, .int 0, .int 0])), (q10, .inr (1, [.int 0, .int 0, .int 0, .int 0, .int 0]))]) rfl ?_
  refine b_cs (c2 := 10) (s2 := 53) rfl rfl ?_
  refine b_aast (r := (RX1, TX1, 5)) C 3 10 dX0_init_78 rfl rfl rfl rfl (by unfold vp_in; decide) rfl ?_
  refine b_ws (ws' := [(h0, .inr (0, [.ref q1, .ref q2, .ref q3, .int 0, .int 0, .int 0, .null, .int 0, .int 0, .int 0])), (q1, aI z 4 (upd (upd (upd (upd (fun _ => 0) 0 6) 1 11) 2 1) 3 4)), (q2, aI z 6 (fun _ => 0)), (q3, aQ z 2 8 (va_up (va_up (va_up (va_up (va_up (va_up (va_up (fun _ => none) 0 (some q4)) 1 (some q5)) 2 (some q6)) 3 (some q7)) 4 (some q8)) 5 (some q9)) 6 (some q10))), (q4, .inr (1, [.int 0, .int 0, .int 0, .int 0, .int 0])), (q5, .inr (1, [.int 0, .int 0, .int 0, .int 0, .int 0])), (q6, .inr (1, [.int 0, .int 0, .int 0, .int 0, .int 0])), (q7, .inr (1, [.int 0, .int 0, .int 0, .int 0, .int 0])), (q8, .inr (1, [.int 0, .int 0, .int 0, .int 0, .int 0])), (q9, .inr (1, [.int 0, .int 0, .int 0, .int 0, .int 0])), (q10, .inr (1, [.int 0, .int 0, .int 0, .int 0, .int 0]))]) rfl ?_
  refine b_iincN (j := 6) C dX0_init_79 rfl (by decide) rfl ?_
  refine b_goto C 60 dX0_init_82 (by decide) ?_
  refine b_iload_n C dX0_init_60 rfl rfl ?_
  refine b_bipush C dX0_init_61 bp_8 rfl ?_
  refine b_icmp_ge C 85 66 dX0_init_63 (by decide) rfl (fun h => ?_) (fun h => ?_)
  · exact absurd h (by decide)
  refine b_aload_n C dX0_init_66 rfl rfl ?_
  refine b_get (T := TX0) (N := 10) (Cn := RX0) C 0 2 dX0_init_67 rfl rfl (by decide) iw_X0 fl_X0_20 rfl rfl ?_
  refine b_iload_n C dX0_init_70 rfl rfl ?_
  refine b_new (ci := 1) (fs := fsX1) (T := TX1) (N := 5) (Cn := RX1) C dX0_init_71 iw_X1 tyX1_ok ck_X0_18 is_X1 in_X1 rfl df_X1 (Nat.le_of_ble_eq_true rfl) (Nat.le_of_ble_eq_true rfl) rfl (fun q11 => ?_)
  refine b_cs (c2 := 11) (s2 := 58) rfl rfl ?_
  refine b_dup C dX0_init_74 rfl rfl ?_
  refine b_callIN (ws := [(h0, .inr (0, [.ref q1, .ref q2, .ref q3, .int 0, .int 0, .int 0, .null, .int 0, .int 0, .int 0])), (q1, aI z 4 (upd (upd (upd (upd (fun _ => 0) 0 6) 1 11) 2 1) 3 4)), (q2, aI z 6 (fun _ => 0)), (q3, aQ z 2 8 (va_up (va_up (va_up (va_up (va_up (va_up (va_up (fun _ => none) 0 (some q4)) 1 (some q5)) 2 (some q6)) 3 (some q7)) 4 (some q8)) 5 (some q9)) 6 (some q10))), (q4, .inr (1, [.int 0, .int 0, .int 0, .int 0, .int 0])), (q5, .inr (1, [.int 0, .int 0, .int 0, .int 0, .int 0])), (q6, .inr (1, [.int 0, .int 0, .int 0, .int 0, .int 0])), (q7, .inr (1, [.int 0, .int 0, .int 0, .int 0, .int 0])), (q8, .inr (1, [.int 0, .int 0, .int 0, .int 0, .int 0])), (q9, .inr (1, [.int 0, .int 0, .int 0, .int 0, .int 0])), (q10, .inr (1, [.int 0, .int 0, .int 0, .int 0, .int 0]))]) (cells := 11) (slots := 58) C dX0_init_75 mk_X1 (k_X1_init) C.2.2.2.2.2.2.2.2.2.2.2.2.2 (Nat.le_of_ble_eq_true rfl) (Nat.le_of_ble_eq_true rfl) (Nat.le_of_ble_eq_true rfl) (Nat.le_of_ble_eq_true rfl) (Nat.le_of_ble_eq_true rfl) rfl (fun w75_11 hw75_11 => ?_)
  subst hw75_11
  refine b_ws (ws' := [(h0, .inr (0, [.ref q1, .ref q2, .ref q3, .int 0, .int 0, .int 0, .null, .int 0, .int 0, .int 0])), (q1, aI z 4 (upd (upd (upd (upd (fun _ => 0) 0 6) 1 11) 2 1) 3 4)), (q2, aI z 6 (fun _ => 0)), (q3, aQ z 2 8 (va_up (va_up (va_up (va_up (va_up (va_up (va_up (fun _ => none) 0 (some q4)) 1 (some q5)) 2 (some q6)) 3 (some q7)) 4 (some q8)) 5 (some q9)) 6 (some q10))), (q4, .inr (1, [.int 0, .int 0, .int 0, .int 0, .int 0])), (q5, .inr (1, [.int 0, .int 0, .int 0, .int 0, .int 0])), (q6, .inr (1, [.int 0, .int 0, .int 0, .int 0, .int 0])), (q7, .inr (1, [.int 0, .int 0, .int 0, .int 0, .int 0])), (q8, .inr (1, [.int 0, .int 0, .int 0, .int 0, .int 0])), (q9, .inr (1, [.int 0, .int 0, .int 0, .int 0, .int 0])), (q10, .inr (1, [.int 0, .int 0, .int 0, .int 0, .int 0])), (q11, .inr (1, [.int 0, .int 0, .int 0, .int 0, .int 0]))]) rfl ?_
  refine b_cs (c2 := 11) (s2 := 58) rfl rfl ?_
  refine b_aast (r := (RX1, TX1, 5)) C 3 11 dX0_init_78 rfl rfl rfl rfl (by unfold vp_in; decide) rfl ?_
  refine b_ws (ws' := [(h0, .inr (0, [.ref q1, .ref q2, .ref q3, .int 0, .int 0, .int 0, .null, .int 0, .int 0, .int 0])), (q1, aI z 4 (upd (upd (upd (upd (fun _ => 0) 0 6) 1 11) 2 1) 3 4)), (q2, aI z 6 (fun _ => 0)), (q3, aQ z 2 8 (va_up (va_up (va_up (va_up (va_up (va_up (va_up (va_up (fun _ => none) 0 (some q4)) 1 (some q5)) 2 (some q6)) 3 (some q7)) 4 (some q8)) 5 (some q9)) 6 (some q10)) 7 (some q11))), (q4, .inr (1, [.int 0, .int 0, .int 0, .int 0, .int 0])), (q5, .inr (1, [.int 0, .int 0, .int 0, .int 0, .int 0])), (q6, .inr (1, [.int 0, .int 0, .int 0, .int 0, .int 0])), (q7, .inr (1, [.int 0, .int 0, .int 0, .int 0, .int 0])), (q8, .inr (1, [.int 0, .int 0, .int 0, .int 0, .int 0])), (q9, .inr (1, [.int 0, .int 0, .int 0, .int 0, .int 0])), (q10, .inr (1, [.int 0, .int 0, .int 0, .int 0, .int 0])), (q11, .inr (1, [.int 0, .int 0, .int 0, .int 0, .int 0]))]) rfl ?_
  refine b_iincN (j := 7) C dX0_init_79 rfl (by decide) rfl ?_
  refine b_goto C 60 dX0_init_82 (by decide) ?_
  refine b_iload_n C dX0_init_60 rfl rfl ?_
  refine b_bipush C dX0_init_61 bp_8 rfl ?_
  refine b_icmp_ge C 85 66 dX0_init_63 (by decide) rfl (fun h => ?_) (fun h => ?_)
  rotate_left
  · exact absurd (by decide) h
  refine b_aload_n C dX0_init_85 rfl rfl ?_
  refine b_iconst C dX0_init_86 ic_1 rfl ?_
  refine b_put (T := TX0) (N := 10) (Cn := RX0) (ty0 := tyX0) C 0 5 dX0_init_87 rfl rfl (by decide) iw_X0 tyX0_ok nmX0 fl_X0_25 rfl rfl rfl (lt_b rfl) rfl ?_
  refine b_ws (ws' := [(h0, .inr (0, [.ref q1, .ref q2, .ref q3, .int 0, .int 0, .int 1, .null, .int 0, .int 0, .int 0])), (q1, aI z 4 (upd (upd (upd (upd (fun _ => 0) 0 6) 1 11) 2 1) 3 4)), (q2, aI z 6 (fun _ => 0)), (q3, aQ z 2 8 (va_up (va_up (va_up (va_up (va_up (va_up (va_up (va_up (fun _ => none) 0 (some q4)) 1 (some q5)) 2 (some q6)) 3 (some q7)) 4 (some q8)) 5 (some q9)) 6 (some q10)) 7 (some q11))), (q4, .inr (1, [.int 0, .int 0, .int 0, .int 0, .int 0])), (q5, .inr (1, [.int 0, .int 0, .int 0, .int 0, .int 0])), (q6, .inr (1, [.int 0, .int 0, .int 0, .int 0, .int 0])), (q7, .inr (1, [.int 0, .int 0, .int 0, .int 0, .int 0])), (q8, .inr (1, [.int 0, .int 0, .int 0, .int 0, .int 0])), (q9, .inr (1, [.int 0, .int 0, .int 0, .int 0, .int 0])), (q10, .inr (1, [.int 0, .int 0, .int 0, .int 0, .int 0])), (q11, .inr (1, [.int 0, .int 0, .int 0, .int 0, .int 0]))]) rfl ?_
  refine b_aload_n C dX0_init_90 rfl rfl ?_
  refine b_bipush C dX0_init_91 bp_10 rfl ?_
  refine b_newI (N := 10) C dX0_init_93 (by decide) (by decide) (by decide) (Nat.le_of_ble_eq_true rfl) (Nat.le_of_ble_eq_true rfl) rfl (fun q12 => ?_)
  refine b_ws (ws' := [(h0, .inr (0, [.ref q1, .ref q2, .ref q3, .int 0, .int 0, .int 1, .null, .int 0, .int 0, .int 0])), (q1, aI z 4 (upd (upd (upd (upd (fun _ => 0) 0 6) 1 11) 2 1) 3 4)), (q2, aI z 6 (fun _ => 0)), (q3, aQ z 2 8 (va_up (va_up (va_up (va_up (va_up (va_up (va_up (va_up (fun _ => none) 0 (some q4)) 1 (some q5)) 2 (some q6)) 3 (some q7)) 4 (some q8)) 5 (some q9)) 6 (some q10)) 7 (some q11))), (q4, .inr (1, [.int 0, .int 0, .int 0, .int 0, .int 0])), (q5, .inr (1, [.int 0, .int 0, .int 0, .int 0, .int 0])), (q6, .inr (1, [.int 0, .int 0, .int 0, .int 0, .int 0])), (q7, .inr (1, [.int 0, .int 0, .int 0, .int 0, .int 0])), (q8, .inr (1, [.int 0, .int 0, .int 0, .int 0, .int 0])), (q9, .inr (1, [.int 0, .int 0, .int 0, .int 0, .int 0])), (q10, .inr (1, [.int 0, .int 0, .int 0, .int 0, .int 0])), (q11, .inr (1, [.int 0, .int 0, .int 0, .int 0, .int 0])), (q12, aI z 10 (fun _ => 0))]) rfl ?_
  refine b_cs (c2 := 12) (s2 := 68) rfl rfl ?_
  refine b_putF (T := TX0) (N := 10) (Cn := RX0) (ty0 := tyX0) C 0 6 dX0_init_95 rfl rfl (by decide) iw_X0 tyX0_ok nmX0 fl_X0_29 rfl rfl rfl rfl (lt_b rfl) rfl ?_
  refine b_ws (ws' := [(h0, .inr (0, [.ref q1, .ref q2, .ref q3, .int 0, .int 0, .int 1, .ref q12, .int 0, .int 0, .int 0])), (q1, aI z 4 (upd (upd (upd (upd (fun _ => 0) 0 6) 1 11) 2 1) 3 4)), (q2, aI z 6 (fun _ => 0)), (q3, aQ z 2 8 (va_up (va_up (va_up (va_up (va_up (va_up (va_up (va_up (fun _ => none) 0 (some q4)) 1 (some q5)) 2 (some q6)) 3 (some q7)) 4 (some q8)) 5 (some q9)) 6 (some q10)) 7 (some q11))), (q4, .inr (1, [.int 0, .int 0, .int 0, .int 0, .int 0])), (q5, .inr (1, [.int 0, .int 0, .int 0, .int 0, .int 0])), (q6, .inr (1, [.int 0, .int 0, .int 0, .int 0, .int 0])), (q7, .inr (1, [.int 0, .int 0, .int 0, .int 0, .int 0])), (q8, .inr (1, [.int 0, .int 0, .int 0, .int 0, .int 0])), (q9, .inr (1, [.int 0, .int 0, .int 0, .int 0, .int 0])), (q10, .inr (1, [.int 0, .int 0, .int 0, .int 0, .int 0])), (q11, .inr (1, [.int 0, .int 0, .int 0, .int 0, .int 0])), (q12, aI z 10 (fun _ => 0))]) rfl ?_
  refine b_aload_n C dX0_init_98 rfl rfl ?_
  refine b_get (T := TX0) (N := 10) (Cn := RX0) C 0 6 dX0_init_99 rfl rfl (by decide) iw_X0 fl_X0_29 rfl rfl ?_
  refine b_iconst C dX0_init_102 ic_m1 rfl ?_
  refine b_fill (ws := [(h0, .inr (0, [.ref q1, .ref q2, .ref q3, .int 0, .int 0, .int 1, .ref q12, .int 0, .int 0, .int 0])), (q1, aI z 4 (upd (upd (upd (upd (fun _ => 0) 0 6) 1 11) 2 1) 3 4)), (q2, aI z 6 (fun _ => 0)), (q3, aQ z 2 8 (va_up (va_up (va_up (va_up (va_up (va_up (va_up (va_up (fun _ => none) 0 (some q4)) 1 (some q5)) 2 (some q6)) 3 (some q7)) 4 (some q8)) 5 (some q9)) 6 (some q10)) 7 (some q11))), (q4, .inr (1, [.int 0, .int 0, .int 0, .int 0, .int 0])), (q5, .inr (1, [.int 0, .int 0, .int 0, .int 0, .int 0])), (q6, .inr (1, [.int 0, .int 0, .int 0, .int 0, .int 0])), (q7, .inr (1, [.int 0, .int 0, .int 0, .int 0, .int 0])), (q8, .inr (1, [.int 0, .int 0, .int 0, .int 0, .int 0])), (q9, .inr (1, [.int 0, .int 0, .int 0, .int 0, .int 0])), (q10, .inr (1, [.int 0, .int 0, .int 0, .int 0, .int 0])), (q11, .inr (1, [.int 0, .int 0, .int 0, .int 0, .int 0]))]) (a := q12) (N := 10) (f := (fun _ => 0)) (g := fiL (fun _ => 0) (-1) 10) C dX0_init_103 ms_J7_fill_53178 (c_J7_fill_53178 (kk := 0) (n := 10) ⟨Nat.zero_lt_one, rfl⟩ (by decide)) (fun u hu => by rw [hu]; exact ua_s _ _ _) rfl ml_X0_32 (rk_of2 rfl) rfl (Nat.le_of_ble_eq_true rfl) (Nat.le_of_ble_eq_true rfl) (Nat.le_of_ble_eq_true rfl) rfl ?_
  refine b_ws (ws' := [(h0, .inr (0, [.ref q1, .ref q2, .ref q3, .int 0, .int 0, .int 1, .ref q12, .int 0, .int 0, .int 0])), (q1, aI z 4 (upd (upd (upd (upd (fun _ => 0) 0 6) 1 11) 2 1) 3 4)), (q2, aI z 6 (fun _ => 0)), (q3, aQ z 2 8 (va_up (va_up (va_up (va_up (va_up (va_up (va_up (va_up (fun _ => none) 0 (some q4)) 1 (some q5)) 2 (some q6)) 3 (some q7)) 4 (some q8)) 5 (some q9)) 6 (some q10)) 7 (some q11))), (q4, .inr (1, [.int 0, .int 0, .int 0, .int 0, .int 0])), (q5, .inr (1, [.int 0, .int 0, .int 0, .int 0, .int 0])), (q6, .inr (1, [.int 0, .int 0, .int 0, .int 0, .int 0])), (q7, .inr (1, [.int 0, .int 0, .int 0, .int 0, .int 0])), (q8, .inr (1, [.int 0, .int 0, .int 0, .int 0, .int 0])), (q9, .inr (1, [.int 0, .int 0, .int 0, .int 0, .int 0])), (q10, .inr (1, [.int 0, .int 0, .int 0, .int 0, .int 0])), (q11, .inr (1, [.int 0, .int 0, .int 0, .int 0, .int 0])), (q12, aI z 10 (fiL (fun _ => 0) (-1) 10))]) rfl ?_
  refine b_cgQ (g := fun i => some ((fun k => [h0, q1, q2, q3, q12, q4, q5, q6, q7, q8, q9, q10, q11].getD k 0) (0 + 5 + i))) 3 rfl (fun i hi => ?_) ?_
  · rcases (show i = 0 ∨ i = 1 ∨ i = 2 ∨ i = 3 ∨ i = 4 ∨ i = 5 ∨ i = 6 ∨ i = 7 by omega) with rfl | rfl | rfl | rfl | rfl | rfl | rfl | rfl <;> rfl
  exact b_ret C rfl hQ dX0_init_106 (w1 := wl (wHm (b_D z) (b_c z) (fun k => [h0, q1, q2, q3, q12, q4, q5, q6, q7, q8, q9, q10, q11].getD k 0)) muH) [0, 1, 2, 3, 12, 4, 5, 6, 7, 8, 9, 10, 11] rfl (by decide) rfl ⟨(fun k => [h0, q1, q2, q3, q12, q4, q5, q6, q7, q8, q9, q10, q11].getD k 0), rfl, rfl⟩ (Nat.le_of_ble_eq_true rfl) (Nat.le_of_ble_eq_true rfl)

set_option maxRecDepth 100000 in
set_option maxHeartbeats 4000000 in
theorem k_X5_init {l : Launch} {D : va_G} {cA : Nat → ClassId} : Kt l D cA yX5_init cX5_init 1 { frames := 1, cells := 10, slots := 587, locals := 12 } 5 fsX5 (fun h0 w1 => ∃ ad : Nat → Nat, ad 0 = h0 ∧ w1 = wl (wMd D cA ad) muM) := by
  refine Kt.mk (own := RX5) rfl (by decide) rfl (by decide) (fun h0 z hCl hCD hCc hCA C hQ => ?_)
  subst hCl hCD hCc
  refine b_ws (ws' := [(h0, .inr (5, [.null, .null, .null, .null, .int 0, .null, .null, .int 0, .int 0, .int 0, .int 0, .long 0, .int 0, .null, .null, .null, .null]))]) rfl ?_
  refine b_aload_n C dX5_init_0 rfl rfl ?_
  refine b_obj C dX5_init_1 ml_X5_1 (Nat.le_of_ble_eq_true rfl) (Nat.le_of_ble_eq_true rfl) rfl ?_
  refine b_aload_n C dX5_init_4 rfl rfl ?_
  refine b_bipush C dX5_init_5 bp_63 rfl ?_
  refine b_newI (N := 63) C dX5_init_7 (by decide) (by decide) (by decide) (Nat.le_of_ble_eq_true rfl) (Nat.le_of_ble_eq_true rfl) rfl (fun q1 => ?_)
  refine b_ws (ws' := [(h0, .inr (5, [.null, .null, .null, .null, .int 0, .null, .null, .int 0, .int 0, .int 0, .int 0, .long 0, .int 0, .null, .null, .null, .null])), (q1, aI z 63 (fun _ => 0))]) rfl ?_
  refine b_cs (c2 := 1) (s2 := 63) rfl rfl ?_
  refine b_putF (T := TX5) (N := 17) (Cn := RX5) (ty0 := tyX5) C 0 0 dX5_init_9 rfl rfl (by decide) iw_X5 tyX5_ok nmX5 fl_X5_7 rfl rfl rfl rfl (lt_b rfl) rfl ?_
  refine b_ws (ws' := [(h0, .inr (5, [.ref q1, .null, .null, .null, .int 0, .null, .null, .int 0, .int 0, .int 0, .int 0, .long 0, .int 0, .null, .null, .null, .null])), (q1, aI z 63 (fun _ => 0))]) rfl ?_
  refine b_aload_n C dX5_init_12 rfl rfl ?_
  refine b_bipush C dX5_init_13 bp_63 rfl ?_
  refine b_newI (N := 63) C dX5_init_15 (by decide) (by decide) (by decide) (Nat.le_of_ble_eq_true rfl) (Nat.le_of_ble_eq_true rfl) rfl (fun q2 => ?_)
  refine b_ws (ws' := [(h0, .inr (5, [.ref q1, .null, .null, .null, .int 0, .null, .null, .int 0, .int 0, .int 0, .int 0, .long 0, .int 0, .null, .null, .null, .null])), (q1, aI z 63 (fun _ => 0)), (q2, aI z 63 (fun _ => 0))]) rfl ?_
  refine b_cs (c2 := 2) (s2 := 126) rfl rfl ?_
  refine b_putF (T := TX5) (N := 17) (Cn := RX5) (ty0 := tyX5) C 0 1 dX5_init_17 rfl rfl (by decide) iw_X5 tyX5_ok nmX5 fl_X5_13 rfl rfl rfl rfl (lt_b rfl) rfl ?_
  refine b_ws (ws' := [(h0, .inr (5, [.ref q1, .ref q2, .null, .null, .int 0, .null, .null, .int 0, .int 0, .int 0, .int 0, .long 0, .int 0, .null, .null, .null, .null])), (q1, aI z 63 (fun _ => 0)), (q2, aI z 63 (fun _ => 0))]) rfl ?_
  refine b_aload_n C dX5_init_20 rfl rfl ?_
  refine b_bipush C dX5_init_21 bp_63 rfl ?_
  refine b_newI (N := 63) C dX5_init_23 (by decide) (by decide) (by decide) (Nat.le_of_ble_eq_true rfl) (Nat.le_of_ble_eq_true rfl) rfl (fun q3 => ?_)
  refine b_ws (ws' := [(h0, .inr (5, [.ref q1, .ref q2, .null, .null, .int 0, .null, .null, .int 0, .int 0, .int 0, .int 0, .long 0, .int 0, .null, .null, .null, .null])), (q1, aI z 63 (fun _ => 0)), (q2, aI z 63 (fun _ => 0)), (q3, aI z 63 (fun _ => 0))]) rfl ?_
  refine b_cs (c2 := 3) (s2 := 189) rfl rfl ?_
  refine b_putF (T := TX5) (N := 17) (Cn := RX5) (ty0 := tyX5) C 0 2 dX5_init_25 rfl rfl (by decide) iw_X5 tyX5_ok nmX5 fl_X5_16 rfl rfl rfl rfl (lt_b rfl) rfl ?_
  refine b_ws (ws' := [(h0, .inr (5, [.ref q1, .ref q2, .ref q3, .null, .int 0, .null, .null, .int 0, .int 0, .int 0, .int 0, .long 0, .int 0, .null, .null, .null, .null])), (q1, aI z 63 (fun _ => 0)), (q2, aI z 63 (fun _ => 0)), (q3, aI z 63 (fun _ => 0))]) rfl ?_
  refine b_aload_n C dX5_init_28 rfl rfl ?_
  refine b_bipush C dX5_init_29 bp_63 rfl ?_
  refine b_newI (N := 63) C dX5_init_31 (by decide) (by decide) (by decide) (Nat.le_of_ble_eq_true rfl) (Nat.le_of_ble_eq_true rfl) rfl (fun q4 => ?_)
  refine b_ws (ws' := [(h0, .inr (5, [.ref q1, .ref q2, .ref q3, .null, .int 0, .null, .null, .int 0, .int 0, .int 0, .int 0, .long 0, .int 0, .null, .null, .null, .null])), (q1, aI z 63 (fun _ => 0)), (q2, aI z 63 (fun _ => 0)), (q3, aI z 63 (fun _ => 0)), (q4, aI z 63 (fun _ => 0))]) rfl ?_
  refine b_cs (c2 := 4) (s2 := 252) rfl rfl ?_
  refine b_putF (T := TX5) (N := 17) (Cn := RX5) (ty0 := tyX5) C 0 3 dX5_init_33 rfl rfl (by decide) iw_X5 tyX5_ok nmX5 fl_X5_19 rfl rfl rfl rfl (lt_b rfl) rfl ?_
  refine b_ws (ws' := [(h0, .inr (5, [.ref q1, .ref q2, .ref q3, .ref q4, .int 0, .null, .null, .int 0, .int 0, .int 0, .int 0, .long 0, .int 0, .null, .null, .null, .null])), (q1, aI z 63 (fun _ => 0)), (q2, aI z 63 (fun _ => 0)), (q3, aI z 63 (fun _ => 0)), (q4, aI z 63 (fun _ => 0))]) rfl ?_
  refine b_aload_n C dX5_init_36 rfl rfl ?_
  refine b_bipush C dX5_init_37 bp_7 rfl ?_
  refine b_newI (N := 7) C dX5_init_39 (by decide) (by decide) (by decide) (Nat.le_of_ble_eq_true rfl) (Nat.le_of_ble_eq_true rfl) rfl (fun q5 => ?_)
  refine b_ws (ws' := [(h0, .inr (5, [.ref q1, .ref q2, .ref q3, .ref q4, .int 0, .null, .null, .int 0, .int 0, .int 0, .int 0, .long 0, .int 0, .null, .null, .null, .null])), (q1, aI z 63 (fun _ => 0)), (q2, aI z 63 (fun _ => 0)), (q3, aI z 63 (fun _ => 0)), (q4, aI z 63 (fun _ => 0)), (q5, aI z 7 (fun _ => 0))]) rfl ?_
  refine b_cs (c2 := 5) (s2 := 259) rfl rfl ?_
  refine b_putF (T := TX5) (N := 17) (Cn := RX5) (ty0 := tyX5) C 0 5 dX5_init_41 rfl rfl (by decide) iw_X5 tyX5_ok nmX5 fl_X5_22 rfl rfl rfl rfl (lt_b rfl) rfl ?_
  refine b_ws (ws' := [(h0, .inr (5, [.ref q1, .ref q2, .ref q3, .ref q4, .int 0, .ref q5, .null, .int 0, .int 0, .int 0, .int 0, .long 0, .int 0, .null, .null, .null, .null])), (q1, aI z 63 (fun _ => 0)), (q2, aI z 63 (fun _ => 0)), (q3, aI z 63 (fun _ => 0)), (q4, aI z 63 (fun _ => 0)), (q5, aI z 7 (fun _ => 0))]) rfl ?_
  refine b_aload_n C dX5_init_44 rfl rfl ?_
  refine b_bipush C dX5_init_45 bp_120 rfl ?_
  refine b_newB (N := 120) C dX5_init_47 (by decide) (by decide) (by decide) (Nat.le_of_ble_eq_true rfl) (Nat.le_of_ble_eq_true rfl) rfl (fun q6 => ?_)
  refine b_ws (ws' := [(h0, .inr (5, [.ref q1, .ref q2, .ref q3, .ref q4, .int 0, .ref q5, .null, .int 0, .int 0, .int 0, .int 0, .long 0, .int 0, .null, .null, .null, .null])), (q1, aI z 63 (fun _ => 0)), (q2, aI z 63 (fun _ => 0)), (q3, aI z 63 (fun _ => 0)), (q4, aI z 63 (fun _ => 0)), (q5, aI z 7 (fun _ => 0)), (q6, aB z 120 (fun _ => 0))]) rfl ?_
  refine b_cs (c2 := 6) (s2 := 379) rfl rfl ?_
  refine b_putF (T := TX5) (N := 17) (Cn := RX5) (ty0 := tyX5) C 0 6 dX5_init_49 rfl rfl (by decide) iw_X5 tyX5_ok nmX5 fl_X5_25 rfl rfl rfl rfl (lt_b rfl) rfl ?_
  refine b_ws (ws' := [(h0, .inr (5, [.ref q1, .ref q2, .ref q3, .ref q4, .int 0, .ref q5, .ref q6, .int 0, .int 0, .int 0, .int 0, .long 0, .int 0, .null, .null, .null, .null])), (q1, aI z 63 (fun _ => 0)), (q2, aI z 63 (fun _ => 0)), (q3, aI z 63 (fun _ => 0)), (q4, aI z 63 (fun _ => 0)), (q5, aI z 7 (fun _ => 0)), (q6, aB z 120 (fun _ => 0))]) rfl ?_
  refine b_aload_n C dX5_init_52 rfl rfl ?_
  refine b_iconst C dX5_init_53 ic_4 rfl ?_
  refine b_newI (N := 4) C dX5_init_54 (by decide) (by decide) (by decide) (Nat.le_of_ble_eq_true rfl) (Nat.le_of_ble_eq_true rfl) rfl (fun q7 => ?_)
  refine b_ws (ws' := [(h0, .inr (5, [.ref q1, .ref q2, .ref q3, .ref q4, .int 0, .ref q5, .ref q6, .int 0, .int 0, .int 0, .int 0, .long 0, .int 0, .null, .null, .null, .null])), (q1, aI z 63 (fun _ => 0)), (q2, aI z 63 (fun _ => 0)), (q3, aI z 63 (fun _ => 0)), (q4, aI z 63 (fun _ => 0)), (q5, aI z 7 (fun _ => 0)), (q6, aB z 120 (fun _ => 0)), (q7, aI z 4 (fun _ => 0))]) rfl ?_
  refine b_cs (c2 := 7) (s2 := 383) rfl rfl ?_
  refine b_putF (T := TX5) (N := 17) (Cn := RX5) (ty0 := tyX5) C 0 13 dX5_init_56 rfl rfl (by decide) iw_X5 tyX5_ok nmX5 fl_X5_29 rfl rfl rfl rfl (lt_b rfl) rfl ?_
  refine b_ws (ws' := [(h0, .inr (5, [.ref q1, .ref q2, .ref q3, .ref q4, .int 0, .ref q5, .ref q6, .int 0, .int 0, .int 0, .int 0, .long 0, .int 0, .ref q7, .null, .null, .null])), (q1, aI z 63 (fun _ => 0)), (q2, aI z 63 (fun _ => 0)), (q3, aI z 63 (fun _ => 0)), (q4, aI z 63 (fun _ => 0)), (q5, aI z 7 (fun _ => 0)), (q6, aB z 120 (fun _ => 0)), (q7, aI z 4 (fun _ => 0))]) rfl ?_
  refine b_aload_n C dX5_init_59 rfl rfl ?_
  refine b_iconst C dX5_init_60 ic_4 rfl ?_
  refine b_newI (N := 4) C dX5_init_61 (by decide) (by decide) (by decide) (Nat.le_of_ble_eq_true rfl) (Nat.le_of_ble_eq_true rfl) rfl (fun q8 => ?_)
  refine b_ws (ws' := [(h0, .inr (5, [.ref q1, .ref q2, .ref q3, .ref q4, .int 0, .ref q5, .ref q6, .int 0, .int 0, .int 0, .int 0, .long 0, .int 0, .ref q7, .null, .null, .null])), (q1, aI z 63 (fun _ => 0)), (q2, aI z 63 (fun _ => 0)), (q3, aI z 63 (fun _ => 0)), (q4, aI z 63 (fun _ => 0)), (q5, aI z 7 (fun _ => 0)), (q6, aB z 120 (fun _ => 0)), (q7, aI z 4 (fun _ => 0)), (q8, aI z 4 (fun _ => 0))]) rfl ?_
  refine b_cs (c2 := 8) (s2 := 387) rfl rfl ?_
  refine b_putF (T := TX5) (N := 17) (Cn := RX5) (ty0 := tyX5) C 0 14 dX5_init_63 rfl rfl (by decide) iw_X5 tyX5_ok nmX5 fl_X5_32 rfl rfl rfl rfl (lt_b rfl) rfl ?_
  refine b_ws (ws' := [(h0, .inr (5, [.ref q1, .ref q2, .ref q3, .ref q4, .int 0, .ref q5, .ref q6, .int 0, .int 0, .int 0, .int 0, .long 0, .int 0, .ref q7, .ref q8, .null, .null])), (q1, aI z 63 (fun _ => 0)), (q2, aI z 63 (fun _ => 0)), (q3, aI z 63 (fun _ => 0)), (q4, aI z 63 (fun _ => 0)), (q5, aI z 7 (fun _ => 0)), (q6, aB z 120 (fun _ => 0)), (q7, aI z 4 (fun _ => 0)), (q8, aI z 4 (fun _ => 0))]) rfl ?_
  refine b_aload_n C dX5_init_66 rfl rfl ?_
  refine b_sipush C dX5_init_67 sp_160 rfl ?_
  refine b_newI (N := 160) C dX5_init_70 (by decide) (by decide) (by decide) (Nat.le_of_ble_eq_true rfl) (Nat.le_of_ble_eq_true rfl) rfl (fun q9 => ?_)
  refine b_ws (ws' := [(h0, .inr (5, [.ref q1, .ref q2, .ref q3, .ref q4, .int 0, .ref q5, .ref q6, .int 0, .int 0, .int 0, .int 0, .long 0, .int 0, .ref q7, .ref q8, .null, .null])), (q1, aI z 63 (fun _ => 0)), (q2, aI z 63 (fun _ => 0)), (q3, aI z 63 (fun _ => 0)), (q4, aI z 63 (fun _ => 0)), (q5, aI z 7 (fun _ => 0)), (q6, aB z 120 (fun _ => 0)), (q7, aI z 4 (fun _ => 0)), (q8, aI z 4 (fun _ => 0)), (q9, aI z 160 (fun _ => 0))]) rfl ?_
  refine b_cs (c2 := 9) (s2 := 547) rfl rfl ?_
  refine b_putF (T := TX5) (N := 17) (Cn := RX5) (ty0 := tyX5) C 0 15 dX5_init_72 rfl rfl (by decide) iw_X5 tyX5_ok nmX5 fl_X5_35 rfl rfl rfl rfl (lt_b rfl) rfl ?_
  refine b_ws (ws' := [(h0, .inr (5, [.ref q1, .ref q2, .ref q3, .ref q4, .int 0, .ref q5, .ref q6, .int 0, .int 0, .int 0, .int 0, .long 0, .int 0, .ref q7, .ref q8, .ref q9, .null])), (q1, aI z 63 (fun _ => 0)), (q2, aI z 63 (fun _ => 0)), (q3, aI z 63 (fun _ => 0)), (q4, aI z 63 (fun _ => 0)), (q5, aI z 7 (fun _ => 0)), (q6, aB z 120 (fun _ => 0)), (q7, aI z 4 (fun _ => 0)), (q8, aI z 4 (fun _ => 0)), (q9, aI z 160 (fun _ => 0))]) rfl ?_
  refine b_aload_n C dX5_init_75 rfl rfl ?_
  refine b_bipush C dX5_init_76 bp_40 rfl ?_
  refine b_newI (N := 40) C dX5_init_78 (by decide) (by decide) (by decide) (Nat.le_of_ble_eq_true rfl) (Nat.le_of_ble_eq_true rfl) rfl (fun q10 => ?_)
  refine b_ws (ws' := [(h0, .inr (5, [.ref q1, .ref q2, .ref q3, .ref q4, .int 0, .ref q5, .ref q6, .int 0, .int 0, .int 0, .int 0, .long 0, .int 0, .ref q7, .ref q8, .ref q9, .null])), (q1, aI z 63 (fun _ => 0)), (q2, aI z 63 (fun _ => 0)), (q3, aI z 63 (fun _ => 0)), (q4, aI z 63 (fun _ => 0)), (q5, aI z 7 (fun _ => 0)), (q6, aB z 120 (fun _ => 0)), (q7, aI z 4 (fun _ => 0)), (q8, aI z 4 (fun _ => 0)), (q9, aI z 160 (fun _ => 0)), (q10, aI z 40 (fun _ => 0))]) rfl ?_
  refine b_cs (c2 := 10) (s2 := 587) rfl rfl ?_
  refine b_putF (T := TX5) (N := 17) (Cn := RX5) (ty0 := tyX5) C 0 16 dX5_init_80 rfl rfl (by decide) iw_X5 tyX5_ok nmX5 fl_X5_38 rfl rfl rfl rfl (lt_b rfl) rfl ?_
  refine b_ws (ws' := [(h0, .inr (5, [.ref q1, .ref q2, .ref q3, .ref q4, .int 0, .ref q5, .ref q6, .int 0, .int 0, .int 0, .int 0, .long 0, .int 0, .ref q7, .ref q8, .ref q9, .ref q10])), (q1, aI z 63 (fun _ => 0)), (q2, aI z 63 (fun _ => 0)), (q3, aI z 63 (fun _ => 0)), (q4, aI z 63 (fun _ => 0)), (q5, aI z 7 (fun _ => 0)), (q6, aB z 120 (fun _ => 0)), (q7, aI z 4 (fun _ => 0)), (q8, aI z 4 (fun _ => 0)), (q9, aI z 160 (fun _ => 0)), (q10, aI z 40 (fun _ => 0))]) rfl ?_
  refine b_aload_n C dX5_init_83 rfl rfl ?_
  refine b_get (T := TX5) (N := 17) (Cn := RX5) C 0 0 dX5_init_84 rfl rfl (by decide) iw_X5 fl_X5_7 rfl rfl ?_
  refine b_iconst C dX5_init_87 ic_2 rfl ?_
  refine b_iconst C dX5_init_88 ic_1 rfl ?_
  refine b_iast C 1 dX5_init_89 rfl (by unfold vp_in; decide) rfl ?_
  refine b_ws (ws' := [(h0, .inr (5, [.ref q1, .ref q2, .ref q3, .ref q4, .int 0, .ref q5, .ref q6, .int 0, .int 0, .int 0, .int 0, .long 0, .int 0, .ref q7, .ref q8, .ref q9, .ref q10])), (q1, aI z 63 (upd (fun _ => 0) 2 1)), (q2, aI z 63 (fun _ => 0)), (q3, aI z 63 (fun _ => 0)), (q4, aI z 63 (fun _ => 0)), (q5, aI z 7 (fun _ => 0)), (q6, aB z 120 (fun _ => 0)), (q7, aI z 4 (fun _ => 0)), (q8, aI z 4 (fun _ => 0)), (q9, aI z 160 (fun _ => 0)), (q10, aI z 40 (fun _ => 0))]) rfl ?_
  refine b_aload_n C dX5_init_90 rfl rfl ?_
  refine b_get (T := TX5) (N := 17) (Cn := RX5) C 0 0 dX5_init_91 rfl rfl (by decide) iw_X5 fl_X5_7 rfl rfl ?_
  refine b_iconst C dX5_init_94 ic_3 rfl ?_
  refine b_bipush C dX5_init_95 bp_6 rfl ?_
  refine b_iast C 1 dX5_init_97 rfl (by unfold vp_in; decide) rfl ?_
  refine b_ws (ws' := [(h0, .inr (5, [.ref q1, .ref q2, .ref q3, .ref q4, .int 0, .ref q5, .ref q6, .int 0, .int 0, .int 0, .int 0, .long 0, .int 0, .ref q7, .ref q8, .ref q9, .ref q10])), (q1, aI z 63 (upd (upd (fun _ => 0) 2 1) 3 6)), (q2, aI z 63 (fun _ => 0)), (q3, aI z 63 (fun _ => 0)), (q4, aI z 63 (fun _ => 0)), (q5, aI z 7 (fun _ => 0)), (q6, aB z 120 (fun _ => 0)), (q7, aI z 4 (fun _ => 0)), (q8, aI z 4 (fun _ => 0)), (q9, aI z 160 (fun _ => 0)), (q10, aI z 40 (fun _ => 0))]) rfl ?_
  refine b_aload_n C dX5_init_98 rfl rfl ?_
  refine b_get (T := TX5) (N := 17) (Cn := RX5) C 0 0 dX5_init_99 rfl rfl (by decide) iw_X5 fl_X5_7 rfl rfl ?_
  refine b_iconst C dX5_init_102 ic_4 rfl ?_
  refine b_bipush C dX5_init_103 bp_11 rfl ?_
  refine b_iast C 1 dX5_init_105 rfl (by unfold vp_in; decide) rfl ?_
  refine b_ws (ws' := [(h0, .inr (5, [.ref q1, .ref q2, .ref q3, .ref q4, .int 0, .ref q5, .ref q6, .int 0, .int 0, .int 0, .int 0, .long 0, .int 0, .ref q7, .ref q8, .ref q9, .ref q10])), (q1, aI z 63 (upd (upd (upd (fun _ => 0) 2 1) 3 6) 4 11)), (q2, aI z 63 (fun _ => 0)), (q3, aI z 63 (fun _ => 0)), (q4, aI z 63 (fun _ => 0)), (q5, aI z 7 (fun _ => 0)), (q6, aB z 120 (fun _ => 0)), (q7, aI z 4 (fun _ => 0)), (q8, aI z 4 (fun _ => 0)), (q9, aI z 160 (fun _ => 0)), (q10, aI z 40 (fun _ => 0))]) rfl ?_
  refine b_aload_n C dX5_init_106 rfl rfl ?_
  refine b_get (T := TX5) (N := 17) (Cn := RX5) C 0 0 dX5_init_107 rfl rfl (by decide) iw_X5 fl_X5_7 rfl rfl ?_
  refine b_iconst C dX5_init_110 ic_5 rfl ?_
  refine b_iconst C dX5_init_111 ic_1 rfl ?_
  refine b_iast C 1 dX5_init_112 rfl (by unfold vp_in; decide) rfl ?_
  refine b_ws (ws' := [(h0, .inr (5, [.ref q1, .ref q2, .ref q3, .ref q4, .int 0, .ref q5, .ref q6, .int 0, .int 0, .int 0, .int 0, .long 0, .int 0, .ref q7, .ref q8, .ref q9, .ref q10])), (q1, aI z 63 (upd (upd (upd (upd (fun _ => 0) 2 1) 3 6) 4 11) 5 1)), (q2, aI z 63 (fun _ => 0)), (q3, aI z 63 (fun _ => 0)), (q4, aI z 63 (fun _ => 0)), (q5, aI z 7 (fun _ => 0)), (q6, aB z 120 (fun _ => 0)), (q7, aI z 4 (fun _ => 0)), (q8, aI z 4 (fun _ => 0)), (q9, aI z 160 (fun _ => 0)), (q10, aI z 40 (fun _ => 0))]) rfl ?_
  refine b_aload_n C dX5_init_113 rfl rfl ?_
  refine b_get (T := TX5) (N := 17) (Cn := RX5) C 0 0 dX5_init_114 rfl rfl (by decide) iw_X5 fl_X5_7 rfl rfl ?_
  refine b_bipush C dX5_init_117 bp_6 rfl ?_
  refine b_iconst C dX5_init_119 ic_4 rfl ?_
  refine b_iast C 1 dX5_init_120 rfl (by unfold vp_in; decide) rfl ?_
  refine b_ws (ws' := [(h0, .inr (5, [.ref q1, .ref q2, .ref q3, .ref q4, .int 0, .ref q5, .ref q6, .int 0, .int 0, .int 0, .int 0, .long 0, .int 0, .ref q7, .ref q8, .ref q9, .ref q10])), (q1, aI z 63 (upd (upd (upd (upd (upd (fun _ => 0) 2 1) 3 6) 4 11) 5 1) 6 4)), (q2, aI z 63 (fun _ => 0)), (q3, aI z 63 (fun _ => 0)), (q4, aI z 63 (fun _ => 0)), (q5, aI z 7 (fun _ => 0)), (q6, aB z 120 (fun _ => 0)), (q7, aI z 4 (fun _ => 0)), (q8, aI z 4 (fun _ => 0)), (q9, aI z 160 (fun _ => 0)), (q10, aI z 40 (fun _ => 0))]) rfl ?_
  exact b_ret C rfl hQ dX5_init_121 (w1 := wl (wMd (b_D z) (b_c z) (fun k => [h0, q1, q2, q3, q4, q5, q6, q7, q8, q9, q10].getD k 0)) muM) [0, 1, 2, 3, 4, 5, 6, 7, 8, 9, 10] rfl (by decide) rfl ⟨(fun k => [h0, q1, q2, q3, q4, q5, q6, q7, q8, q9, q10].getD k 0), rfl, rfl⟩ (Nat.le_of_ble_eq_true rfl) (Nat.le_of_ble_eq_true rfl)
