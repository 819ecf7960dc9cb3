set_option maxRecDepth 100000 in
set_option maxHeartbeats 4000000 in
theorem c_J0_coder_7d493 {l : Launch} {w : WC} {μ : Me}  {fz : Option Nat} (hJ : Jz w fz) {q t n : Nat} {f : Nat → Int32} (hs : Sf w q t n f) : CtI l w yJ0_coder_7d493 cJ0_coder_7d493 1 (some .byte) (Rm 0 0) [.ref q] μ (Px 0 μ) := by
  refine Ct.mk (own := RJ0) rfl (by decide) (Nat.le_of_ble_eq_true rfl) (fun x hxl C hQ => ?_)
  subst hxl
  refine v_gets C (fun U h => (hJ U h).1) dJ0_coder_7d493_0 fl_J0_38 rfl ?_
  refine v_if_eq C 13 6 dJ0_coder_7d493_3 (by decide) rfl (fun h3 => ?_) (fun h3 => ?_)
  · exact absurd h3 (by decide)
  · refine v_aload_n C dJ0_coder_7d493_6 rfl rfl ?_
    refine v_getO C (fun U h => (hs U h).2.1) dJ0_coder_7d493_7 fl_J0_15 rfl ?_
    refine v_goto C 14 dJ0_coder_7d493_10 (by decide) ?_
    exact v_nret C hQ dJ0_coder_7d493_14 rfl ⟨rfl, rfl⟩

set_option maxRecDepth 100000 in
set_option maxHeartbeats 4000000 in
theorem c_J0_isLatin1_aae02 {l : Launch} {w : WC} {μ : Me}  {fz : Option Nat} (hJ : Jz w fz) {q t n : Nat} {f : Nat → Int32} (hs : Sf w q t n f) : CtI l w yJ0_isLatin1_aae02 cJ0_isLatin1_aae02 1 (some .boolean) (Rm 0 0) [.ref q] μ (Px 1 μ) := by
  refine Ct.mk (own := RJ0) rfl (by decide) (Nat.le_of_ble_eq_true rfl) (fun x hxl C hQ => ?_)
  subst hxl
  refine v_gets C (fun U h => (hJ U h).1) dJ0_isLatin1_aae02_0 fl_J0_38 rfl ?_
  refine v_if_eq C 17 6 dJ0_isLatin1_aae02_3 (by decide) rfl (fun h3 => ?_) (fun h3 => ?_)
  · exact absurd h3 (by decide)
  · refine v_aload_n C dJ0_isLatin1_aae02_6 rfl rfl ?_
    refine v_getO C (fun U h => (hs U h).2.1) dJ0_isLatin1_aae02_7 fl_J0_15 rfl ?_
    refine v_if_ne C 17 13 dJ0_isLatin1_aae02_10 (by decide) rfl (fun h10 => ?_) (fun h10 => ?_)
    · exact absurd rfl h10
    · refine v_iconst C dJ0_isLatin1_aae02_13 ic_1 rfl ?_
      refine v_goto C 18 dJ0_isLatin1_aae02_14 (by decide) ?_
      exact v_zret C hQ dJ0_isLatin1_aae02_18 rfl ⟨rfl, rfl⟩

set_option maxRecDepth 100000 in
set_option maxHeartbeats 4000000 in
theorem c_J0_length_8abf5 {l : Launch} {w : WC} {μ : Me}  {fz : Option Nat} (hJ : Jz w fz) {q t n : Nat} {f : Nat → Int32} (hs : Sf w q t n f) : CtI l w yJ0_length_8abf5 cJ0_length_8abf5 1 (some .int) (Rm 1 20) [.ref q] μ (Px (nI n) μ) := by
  refine Ct.mk (own := RJ0) rfl (by decide) (Nat.le_of_ble_eq_true rfl) (fun x hxl C hQ => ?_)
  subst hxl
  refine v_aload_n C dJ0_length_8abf5_0 rfl rfl ?_
  refine v_getO C (fun U h => (hs U h).2.2.1) dJ0_length_8abf5_1 fl_J0_9 rfl ?_
  refine v_tlen C (fun U h => (hs U h).2.2.2) dJ0_length_8abf5_4 rfl ?_
  refine v_aload_n C dJ0_length_8abf5_5 rfl rfl ?_
  refine v_iX C dJ0_length_8abf5_6 mi_J0_coder_7d493 (c_J0_coder_7d493 hJ hs) rfl (fun U h => (hs U h).1) ml_J0_335 (rk_of rfl) rfl (Nat.le_of_ble_eq_true rfl) rfl (px_k ?_)
  refine v_ishr C dJ0_length_8abf5_9 rfl ?_
  exact v_iret C hQ dJ0_length_8abf5_10 ⟨shr_0 _, rfl⟩

set_option maxRecDepth 100000 in
set_option maxHeartbeats 4000000 in
theorem c_J3_checkIndex_8e157 {l : Launch} {w : WC} {μ : Me} {a b : Int32} {fz : Option Nat} (h0 : ¬ a < 0) (hb : a < b) : CtI l w yJ3_checkIndex_8e157 cJ3_checkIndex_8e157 3 (some .int) (Rm 0 0) [.int a, .int b, va_rf fz] μ (Px a μ) := by
  rcases fz with _ | fz
  · refine Ct.mk (own := RJ3) rfl (by decide) (Nat.le_of_ble_eq_true rfl) (fun x hxl C hQ => ?_)
    subst hxl
    refine v_iload_n C dJ3_checkIndex_8e157_0 rfl rfl ?_
    refine v_if_lt C 9 4 dJ3_checkIndex_8e157_1 (by decide) rfl (fun h1 => ?_) (fun h1 => ?_)
    · exact absurd h1 h0
    · refine v_iload_n C dJ3_checkIndex_8e157_4 rfl rfl ?_
      refine v_iload_n C dJ3_checkIndex_8e157_5 rfl rfl ?_
      refine v_icmp_lt C 16 9 dJ3_checkIndex_8e157_6 (by decide) rfl (fun h6 => ?_) (fun h6 => ?_)
      · refine v_iload_n C dJ3_checkIndex_8e157_16 rfl rfl ?_
        exact v_iret C hQ dJ3_checkIndex_8e157_17 ⟨rfl, rfl⟩
      · exact absurd hb h6
  · refine Ct.mk (own := RJ3) rfl (by decide) (Nat.le_of_ble_eq_true rfl) (fun x hxl C hQ => ?_)
    subst hxl
    refine v_iload_n C dJ3_checkIndex_8e157_0 rfl rfl ?_
    refine v_if_lt C 9 4 dJ3_checkIndex_8e157_1 (by decide) rfl (fun h1 => ?_) (fun h1 => ?_)
    · exact absurd h1 h0
    · refine v_iload_n C dJ3_checkIndex_8e157_4 rfl rfl ?_
      refine v_iload_n C dJ3_checkIndex_8e157_5 rfl rfl ?_
      refine v_icmp_lt C 16 9 dJ3_checkIndex_8e157_6 (by decide) rfl (fun h6 => ?_) (fun h6 => ?_)
      · refine v_iload_n C dJ3_checkIndex_8e157_16 rfl rfl ?_
        exact v_iret C hQ dJ3_checkIndex_8e157_17 ⟨rfl, rfl⟩
      · exact absurd hb h6

set_option maxRecDepth 100000 in
set_option maxHeartbeats 4000000 in
theorem c_J0_checkIndex_df160 {l : Launch} {w : WC} {μ : Me} {fz : Option Nat} (hJ : Jz w fz) {a b : Int32} (h0 : ¬ a < 0) (hb : a < b) : CtV l w yJ0_checkIndex_df160 cJ0_checkIndex_df160 2 (Rm 1 22) [.int a, .int b] μ (Pv μ) := by
  refine Ct.mk (own := RJ0) rfl (by decide) (Nat.le_of_ble_eq_true rfl) (fun x hxl C hQ => ?_)
  subst hxl
  refine v_iload_n C dJ0_checkIndex_df160_0 rfl rfl ?_
  refine v_iload_n C dJ0_checkIndex_df160_1 rfl rfl ?_
  refine v_gets C (fun U h => (hJ U h).2) dJ0_checkIndex_df160_2 fl_J0_1053 rfl ?_
  refine v_iS C dJ0_checkIndex_df160_5 ms_J3_checkIndex_8e157 (c_J3_checkIndex_8e157 h0 hb) rfl ml_J0_1059 (rk_of rfl) rfl (Nat.le_of_ble_eq_true rfl) rfl (px_k ?_)
  refine v_pop C dJ0_checkIndex_df160_8 rfl rfl ?_
  exact v_vret C hQ dJ0_checkIndex_df160_9 rfl

set_option maxRecDepth 100000 in
set_option maxHeartbeats 4000000 in
theorem c_J1_charAt_3b067 {l : Launch} {w : WC} {μ : Me}  {fz : Option Nat} (hJ : Jz w fz) {q t n : Nat} {f : Nat → Int32} (hs : Sf w q t n f) {c j : Nat} {a : Int32} (ha : a = nI j) (hj : j < n) (hn : n < 2 ^ 31) (hc : c < 128) (hf : f j = nI c) : CtI l w yJ1_charAt_3b067 cJ1_charAt_3b067 2 (some .char) (Rm 2 43) [.ref t, .int a] μ (Px (nI c) μ) := by
  refine Ct.mk (own := RJ1) rfl (by decide) (Nat.le_of_ble_eq_true rfl) (fun x hxl C hQ => ?_)
  subst hxl
  refine v_iload_n C dJ1_charAt_3b067_0 rfl rfl ?_
  refine v_aload_n C dJ1_charAt_3b067_1 rfl rfl ?_
  refine v_tlen C (fun U h => (hs U h).2.2.2) dJ1_charAt_3b067_2 rfl ?_
  refine v_vS C dJ1_charAt_3b067_3 ms_J0_checkIndex_df160 (c_J0_checkIndex_df160 hJ (by rw [ha]; exact nI_pos (by omega)) (by rw [ha]; exact (lt_n (by omega) hn).mpr hj)) rfl ml_J1_9 (rk_of rfl) rfl (Nat.le_of_ble_eq_true rfl) rfl (pv_k ?_)
  refine v_aload_n C dJ1_charAt_3b067_6 rfl rfl ?_
  refine v_iload_n C dJ1_charAt_3b067_7 rfl rfl ?_
  refine v_tb C (fun U h => (hs U h).2.2.2) dJ1_charAt_3b067_8 (j) ha hj hn rfl ?_
  refine v_eqi hf ?_
  refine v_sipush C dJ1_charAt_3b067_9 sp_255 rfl ?_
  refine v_iand C dJ1_charAt_3b067_12 rfl ?_
  refine v_i2c C dJ1_charAt_3b067_13 rfl ?_
  exact v_nret C hQ dJ1_charAt_3b067_14 (by rw [ch_c hc]; exact ch_n hc) ⟨ch_c hc, rfl⟩

set_option maxRecDepth 100000 in
set_option maxHeartbeats 4000000 in
theorem c_J0_charAt_5068e {l : Launch} {w : WC} {μ : Me}  {fz : Option Nat} (hJ : Jz w fz) {q t n : Nat} {f : Nat → Int32} (hs : Sf w q t n f) {c j : Nat} {a : Int32} (ha : a = nI j) (hj : j < n) (hn : n < 2 ^ 31) (hc : c < 128) (hf : f j = nI c) : CtI l w yJ0_charAt_5068e cJ0_charAt_5068e 2 (some .char) (Rm 3 64) [.ref q, .int a] μ (Px (nI c) μ) := by
  refine Ct.mk (own := RJ0) rfl (by decide) (Nat.le_of_ble_eq_true rfl) (fun x hxl C hQ => ?_)
  subst hxl
  refine v_aload_n C dJ0_charAt_5068e_0 rfl rfl ?_
  refine v_iX C dJ0_charAt_5068e_1 mi_J0_isLatin1_aae02 (c_J0_isLatin1_aae02 hJ hs) rfl (fun U h => (hs U h).1) ml_J0_492 (rk_of rfl) rfl (Nat.le_of_ble_eq_true rfl) rfl (px_k ?_)
  refine v_if_eq C 16 7 dJ0_charAt_5068e_4 (by decide) rfl (fun h4 => ?_) (fun h4 => ?_)
  · exact absurd h4 (by decide)
  · refine v_aload_n C dJ0_charAt_5068e_7 rfl rfl ?_
    refine v_getO C (fun U h => (hs U h).2.2.1) dJ0_charAt_5068e_8 fl_J0_9 rfl ?_
    refine v_iload_n C dJ0_charAt_5068e_11 rfl rfl ?_
    refine v_iS C dJ0_charAt_5068e_12 ms_J1_charAt_3b067 (c_J1_charAt_3b067 hJ hs ha hj hn hc hf) rfl ml_J0_495 (rk_of rfl) rfl (Nat.le_of_ble_eq_true rfl) rfl (px_k ?_)
    exact v_nret C hQ dJ0_charAt_5068e_15 (ch_n hc) ⟨rfl, rfl⟩
