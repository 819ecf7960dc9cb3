set_option maxRecDepth 100000 in
set_option maxHeartbeats 4000000 in
theorem c_X4_text {l : Launch} {w : WC} {μ : Me} (hS : Sv w) (hX : Nx w) {fz : Option Nat} (hJ : Jz w fz) {sa sv : Nat → Nat} (hT : Tx w sa sv) {a : Nat → Nat} {n : Nat} (hz : Tz μ a n) {d : Nat → Int32} (hL : LH μ 1 d) (hI : IvD d) : CtI l w yX4_text cX4_text 2 (some .int) (Rm 9 199) [.ref (w_ad w 0)] μ (TX μ (rAll a n 121 1 0 d) d) := by
  refine Ct.mk (own := RX4) rfl (by decide) (Nat.le_of_ble_eq_true rfl) (fun x hxl C hQ => ?_)
  subst hxl
  have hn := hI.n.1
  have hz2 : Tz (tkS μ 14 1 (dn d)) a n := ⟨by rw [tkS_o hn (by omega)]; exact hz.1, hz.2.1, fun i hi => by rw [tkS_o hn (by omega)]; exact hz.2.2 i hi⟩
  have hL2 := LH_tk hL hI (k := 14) (by unfold Ap; omega)
  have hm : ∀ k, k = 0 ∨ (27 ≤ k ∧ k ≠ 40) → (tkS μ 14 1 (dn d)).1 k = μ.1 k := fun k hk => tkS_o hn (by omega)
  have hL3 : LH (tkS μ 14 1 (dn d)) 1 d := LH.same hL (fun k x y => tkS_o hn (by omega)) hn
  refine v_aload_n C dX4_text_0 rfl rfl ?_
  refine v_vV C dX4_text_1 mi_X4_beginTrial (c_X4_beginTrial hS hX hL hI) rfl hS.1.1 hS.1.2 rfl ml_X4_135 (rk_of rfl) rfl (Nat.le_of_ble_eq_true rfl) rfl (pv_k ?_)
  refine v_aload_n C dX4_text_4 rfl rfl ?_
  refine g_X4_tape C hS.1 dX4_text_5 fl_X4_29 rfl ?_
  refine v_aload_n C dX4_text_8 rfl rfl ?_
  refine g_X4_trial C hS.1 dX4_text_9 fl_X4_16 rfl ?_
  refine v_iV C dX4_text_12 mi_X3_readInto (c_X3_readInto hS hX hJ hT hz2 hL2 hI) rfl hS.2.2.2.2.1.1.1 hS.2.2.2.2.1.1.2 rfl ml_X4_213 (rk_of rfl) rfl (Nat.le_of_ble_eq_true rfl) rfl (fun r12 u12 hu12 => ?_)
  refine v_istore_n C dX4_text_15 (by decide) rfl ?_
  refine v_aload_n C dX4_text_16 rfl rfl ?_
  refine g_X4_tape C hS.1 dX4_text_17 fl_X4_29 rfl ?_
  refine v_iconst C dX4_text_20 ic_0 rfl ?_
  refine p_X3_length C hS.2.2.2.2.1.1 dX4_text_21 fl_X4_207 rfl ?_
  refine v_iload_n C dX4_text_24 rfl rfl ?_
  refine v_if_le C 39 28 dX4_text_25 (by decide) rfl (fun h25 => ?_) (fun h25 => ?_)
  · refine v_iload_n C dX4_text_39 rfl rfl ?_
    exact v_iret C hQ dX4_text_40 (TX_f hI hz2.2.1 hm hL3 hu12 h25)
  · obtain ⟨e, I2, L2, X2⟩ := TX_t hI hz2.2.1 hm hu12 h25
    refine v_aload_n C dX4_text_28 rfl rfl ?_
    refine g_X4_live C hS.1 dX4_text_29 fl_X4_12 rfl ?_
    refine v_aload_n C dX4_text_32 rfl rfl ?_
    refine g_X4_trial C hS.1 dX4_text_33 fl_X4_16 rfl ?_
    refine v_vV C dX4_text_36 mi_X0_takeAll (c_X0_takeAll hS.2.1 hX hS.2.2.1 (by unfold Ap; omega) I2.n.1 (L2.1.trans I2.n.2)) rfl hS.2.1.1.1 hS.2.1.1.2 rfl ml_X4_217 (rk_of rfl) rfl (Nat.le_of_ble_eq_true rfl) rfl (pv_k ?_)
    refine v_iload_n C dX4_text_39 rfl rfl ?_
    exact v_iret C hQ dX4_text_40 X2
