set_option maxRecDepth 100000 in
set_option maxHeartbeats 4000000 in
theorem c_X5_numberHere {l : Launch} {w : WC} {μ : Me} (hM : Md w) {a : Nat → Nat} {n p : Nat} (hz : Zm μ a n) (hp : p ≤ n) (hk : Tm μ a n p) (hf0 : μ.1 0 12 = -1) {lo lim : Nat} (hlo : lo ≤ 10000) (hl : lim ≤ 10000) {b c : Int32} (hb : b = nI lo) (hc : c = nI lim - 1) : CtI l w yX5_numberHere cX5_numberHere 4 (some .int) (Rm 2 42) [.ref (w_ad w 0), .int b, .int c] μ (NumP μ a n p lo lim) := by
  refine Ct.mk (own := RX5) rfl (by decide) (Nat.le_of_ble_eq_true rfl) (fun x hxl C hQ => ?_)
  subst hxl
  have hn := hz.2.1
  have hE := tE_s (a := a) hn hp
  have hB := tB_s (a := a) hn hp
  have hT4 := tT_r a n p
  refine v_aload_n C dX5_numberHere_0 rfl rfl ?_
  refine g_X5_value C hM.1 dX5_numberHere_1 fl_X5_202 rfl ?_
  refine v_l2i C dX5_numberHere_4 rfl ?_
  refine v_istore_n C dX5_numberHere_5 (by decide) rfl ?_
  refine v_aload_n C dX5_numberHere_6 rfl rfl ?_
  refine g_X5_sort C hM.1 dX5_numberHere_7 fl_X5_206 rfl ?_
  refine v_eqi (hk.2.1) ?_
  refine v_iconst C dX5_numberHere_10 ic_2 rfl ?_
  refine v_icmp_ne C 28 14 dX5_numberHere_11 (by decide) rfl (fun h11 => ?_) (fun h11 => ?_)
  · have qq : ¬ Nc a n p lo lim := fun q => h11 (by rw [q.1]; rfl)
    refine v_aload_n C dX5_numberHere_28 rfl rfl ?_
    refine v_vV C dX5_numberHere_29 mi_X5_wrongHere (c_X5_wrongHere hM) rfl hM.1.1 hM.1.2 rfl ml_X5_252 (rk_of rfl) rfl (Nat.le_of_ble_eq_true rfl) rfl (pv_k ?_)
    refine v_iconst C dX5_numberHere_32 ic_0 rfl ?_
    exact v_iret C hQ dX5_numberHere_33 (Or.inr ⟨qq, rfl, by rw [wr_m hf0, hk.1]⟩)
  · have t2 : tT a n p = 2 := (eq_n (a := tT a n p) (b := 2) (by omega) (by decide)).mp h11
    have ii := num_in hn hp hk t2 hlo hl hb hc
    refine v_aload_n C dX5_numberHere_14 rfl rfl ?_
    refine g_X5_value C hM.1 dX5_numberHere_15 fl_X5_202 rfl ?_
    refine v_iload_n C dX5_numberHere_18 rfl rfl ?_
    refine v_i2l C dX5_numberHere_19 rfl ?_
    refine v_iload_n C dX5_numberHere_20 rfl rfl ?_
    refine v_i2l C dX5_numberHere_21 rfl ?_
    refine v_iS C dX5_numberHere_22 ms_X5_in c_X5_in rfl ml_X5_42 (rk_of rfl) rfl (Nat.le_of_ble_eq_true rfl) rfl (px_k ?_)
    refine v_if_ne C 34 28 dX5_numberHere_25 (by decide) rfl (fun h25 => ?_) (fun h25 => ?_)
    · have qq : Nc a n p lo lim := ⟨t2, ii.mp h25⟩
      refine v_aload_n C dX5_numberHere_34 rfl rfl ?_
      refine v_vV C dX5_numberHere_35 mi_X5_next (c_X5_next hM hz hE.2.1 (hk.2.2.1 (by omega))) rfl hM.1.1 hM.1.2 rfl ml_X5_255 (rk_of rfl) rfl (Nat.le_of_ble_eq_true rfl) rfl (fun u35 hu35 => ?_)
      refine v_iload_n C dX5_numberHere_38 rfl rfl ?_
      exact v_iret C hQ dX5_numberHere_39 (Or.inl ⟨qq, num_v hn hp hk t2 hl qq.2.2, hu35.1, hu35.2⟩)
    · have qq : ¬ Nc a n p lo lim := fun q => absurd h25 (ii.mpr q.2)
      refine v_aload_n C dX5_numberHere_28 rfl rfl ?_
      refine v_vV C dX5_numberHere_29 mi_X5_wrongHere (c_X5_wrongHere hM) rfl hM.1.1 hM.1.2 rfl ml_X5_252 (rk_of rfl) rfl (Nat.le_of_ble_eq_true rfl) rfl (pv_k ?_)
      refine v_iconst C dX5_numberHere_32 ic_0 rfl ?_
      exact v_iret C hQ dX5_numberHere_33 (Or.inr ⟨qq, rfl, by rw [wr_m hf0, hk.1]⟩)

set_option maxRecDepth 100000 in
set_option maxHeartbeats 4000000 in
theorem c_X5_perhaps {l : Launch} {w : WC} {μ : Me} (hM : Md w) {a : Nat → Nat} {n : Nat} (hz : Zm μ a n) {x : Rd} (hx : MXm a n x μ) {c r f lim : Nat} (hc : c < 15) (hr : r < 8) (hf : f < 5) (hl : lim ≤ 10000) {W : Int64} (hW : W = lN (wnC c)) {b : Int32} (hb : b = nI lim - 1) : CtV l w yX5_perhaps cX5_perhaps 7 (Rm 3 65) [.ref (w_ad w 0), .long W, .int (nI r), .int (nI f), .int b] μ (MX μ a n (rB x (fun p d => rFact a n (wdW c) (13 + 8 * f + r) lim p d))) := by
  refine Ct.mk (own := RX5) rfl (by decide) (Nat.le_of_ble_eq_true rfl) (fun x hxl C hQ => ?_)
  subst hxl
  have hn := hz.2.1
  refine v_aload_n C dX5_perhaps_0 rfl rfl ?_
  refine g_X5_fault C hM.1 dX5_perhaps_1 fl_X5_223 rfl ?_
  refine v_if_ge C 44 7 dX5_perhaps_4 (by decide) rfl (fun h4 => ?_) (fun h4 => ?_)
  · obtain ⟨bb, rfl, hb1, hb2⟩ := hx.f h4
    exact v_vret C hQ dX5_perhaps_44 ⟨Gm.rf _, hb1, hb2⟩
  · obtain ⟨p, d, rfl, hp, hf0, hk, hd⟩ := hx.t hn h4
    have hE := tE_s (a := a) hn hp
    have hB2 := tB_s (a := a) hn hE.2.1
    have hE2 := tE_s (a := a) hn hE.2.1
    refine v_aload_n C dX5_perhaps_7 rfl rfl ?_
    refine v_lload_n C dX5_perhaps_8 rfl rfl ?_
    refine v_iV C dX5_perhaps_9 mi_X5_isWord (c_X5_isWord hM hn hp hk hc hW) rfl hM.1.1 hM.1.2 rfl ml_X5_228 (rk_of rfl) rfl (Nat.le_of_ble_eq_true rfl) rfl (px_k ?_)
    refine v_if_eq C 44 15 dX5_perhaps_12 (by decide) rfl (fun h12 => ?_) (fun h12 => ?_)
    · have w0 : ¬ Wd a n p (wdW c) = true := fun q => absurd ((if_pos q).symm.trans h12) (by decide)
      exact v_vret C hQ dX5_perhaps_44 (by show MX μ a n (rFact a n (wdW c) (13 + 8 * f + r) lim p d) μ; unfold rFact; rw [if_neg w0]; exact ⟨Gm.rf _, hp, hf0, hk, hd⟩)
    · have w0 : Wd a n p (wdW c) = true := Decidable.not_not.mp (fun q => h12 (if_neg q))
      have t1 := (Wd_i.mp w0).1
      refine v_aload_n C dX5_perhaps_15 rfl rfl ?_
      refine v_vV C dX5_perhaps_16 mi_X5_next (c_X5_next hM hz hE.2.1 (hk.2.2.1 (by omega))) rfl hM.1.1 hM.1.2 rfl ml_X5_255 (rk_of rfl) rfl (Nat.le_of_ble_eq_true rfl) rfl (fun u16 hu16 => ?_)
      refine v_aload_n C dX5_perhaps_19 rfl rfl ?_
      refine v_iconst C dX5_perhaps_20 ic_0 rfl ?_
      refine v_iload C dX5_perhaps_21 rfl rfl ?_
      refine v_iV C dX5_perhaps_23 mi_X5_numberHere (c_X5_numberHere hM (Fm_Zm hu16.1 hz) hE.2.1 hu16.2 ((hu16.1.2 12 (by decide) (by decide) (by decide)).trans hf0) (lo := 0) (lim := lim) (by decide) hl rfl hb) rfl hM.1.1 hM.1.2 rfl ml_X5_258 (rk_of rfl) rfl (Nat.le_of_ble_eq_true rfl) rfl (fun r23 u23 hu23 => ?_)
      refine v_istore C dX5_perhaps_26 (by decide) rfl ?_
      refine v_aload_n C dX5_perhaps_28 rfl rfl ?_
      refine g_X5_fault C hM.1 dX5_perhaps_29 fl_X5_223 rfl ?_
      refine v_if_ge C 44 35 dX5_perhaps_32 (by decide) rfl (fun h32 => ?_) (fun h32 => ?_)
      · obtain ⟨q1, q2, q3, q4⟩ | ⟨q1, q2, q3⟩ := hu23
        · exact absurd (h32 : 0 ≤ u23.1 0 12) (by rw [q3.2 12 (by decide) (by decide) (by decide), hu16.1.2 12 (by decide) (by decide) (by decide), hf0]; decide)
        exact v_vret C hQ dX5_perhaps_44 (by show MX μ a n (rFact a n (wdW c) (13 + 8 * f + r) lim p d) u23; unfold rFact; rw [if_pos w0, if_neg (fun q => q1 ⟨q.1, Nat.zero_le _, q.2⟩), q3]; exact ⟨Gm_12 hu16.1.g _, hB2.2, up_s _ _ _ _⟩)
      · obtain ⟨q1, q2, q3, q4⟩ | ⟨q1, q2, q3⟩ := hu23
        rotate_left
        · exact absurd (by rw [q3, up_s]; exact nI_pos' (by omega)) h32
        refine v_aload_n C dX5_perhaps_35 rfl rfl ?_
        refine v_iload_n C dX5_perhaps_36 rfl rfl ?_
        refine v_iload C dX5_perhaps_37 rfl rfl ?_
        refine v_iload C dX5_perhaps_39 rfl rfl ?_
        refine v_vV C dX5_perhaps_41 mi_X5_sets (c_X5_sets hM (i := r) (f := f) (j := 13 + 8 * f + r) hr hf rfl rfl rfl) rfl hM.1.1 hM.1.2 rfl ml_X5_87 (rk_of rfl) rfl (Nat.le_of_ble_eq_true rfl) rfl (pv_k ?_)
        exact v_vret C hQ dX5_perhaps_44 (by show MX μ a n (rFact a n (wdW c) (13 + 8 * f + r) lim p d) _; unfold rFact; rw [if_pos w0, if_pos ⟨q1.1, q1.2.2⟩, q2]; exact ⟨Gm_1 (hu16.1.g.tr q3.g) _ _, hE2.2.1, by rw [up_n _ _ _ (by decide), q3.2 12 (by decide) (by decide) (by decide), hu16.1.2 12 (by decide) (by decide) (by decide)]; exact hf0, Tm_1c q4 _ _, by rw [up_r, q3.1 1 (by decide), hu16.1.1 1 (by decide), hd]⟩)

set_option maxRecDepth 100000 in
set_option maxHeartbeats 4000000 in
theorem c_X5_residentHere {l : Launch} {w : WC} {μ : Me} (hM : Md w) {a : Nat → Nat} {n p : Nat} (hz : Zm μ a n) (hp : p ≤ n) (hk : Tm μ a n p) (hf0 : μ.1 0 12 = -1) (hI : IvD (μ.1 1)) {k : Int32} (t1 : tT a n p = 1) : CtV l w yX5_residentHere cX5_residentHere 3 (Rm 4 91) [.ref (w_ad w 0), .int k] μ (MX μ a n (rRes a n k p (μ.1 1))) := by
  refine Ct.mk (own := RX5) rfl (by decide) (Nat.le_of_ble_eq_true rfl) (fun x hxl C hQ => ?_)
  subst hxl
  have hn := hz.2.1
  have hE := tE_s (a := a) hn hp
  have hB := tB_s (a := a) hn hp
  have hT4 := tT_r a n p
  have hd := hI.n.1
  refine v_aload_n C dX5_residentHere_0 rfl rfl ?_
  refine g_X5_d C hM.1 dX5_residentHere_1 fl_X5_7 rfl ?_
  refine v_iconst C dX5_residentHere_4 ic_0 rfl ?_
  refine a_I C hM.2.1 (by decide) dX5_residentHere_5 (0) rfl (by decide) rfl ?_
  refine v_bipush C dX5_residentHere_6 bp_8 rfl ?_
  refine v_icmp_ne C 16 11 dX5_residentHere_8 (by decide) rfl (fun h8 => ?_) (fun h8 => ?_)
  · have q8 : dn (μ.1 1) < 8 := by rcases Nat.lt_or_ge (dn (μ.1 1)) 8 with q | q; exact q; exact absurd (by rw [hI.n.2, show dn (μ.1 1) = 8 by omega]; rfl) h8
    refine v_aload_n C dX5_residentHere_16 rfl rfl ?_
    refine v_vV C dX5_residentHere_17 mi_X5_next (c_X5_next hM hz hE.2.1 (hk.2.2.1 (by omega))) rfl hM.1.1 hM.1.2 rfl ml_X5_255 (rk_of rfl) rfl (Nat.le_of_ble_eq_true rfl) rfl (fun u17 hu17 => ?_)
    refine v_aload_n C dX5_residentHere_20 rfl rfl ?_
    refine v_iload_n C dX5_residentHere_21 rfl rfl ?_
    refine v_iV C dX5_residentHere_22 mi_X5_comes (c_X5_comes hM (n := dn (μ.1 1)) q8 ((congrFun (hu17.1.1 1 (by decide)) 0).trans hI.n.2)) rfl hM.1.1 hM.1.2 rfl ml_X5_122 (rk_of rfl) rfl (Nat.le_of_ble_eq_true rfl) rfl (px_k ?_)
    refine v_istore_n C dX5_residentHere_25 (by decide) rfl ?_
    refine v_aload_n C dX5_residentHere_26 rfl rfl ?_
    refine v_ldc2 C dX5_residentHere_27 cn_X5_261 rfl ?_
    refine v_iload_n C dX5_residentHere_30 rfl rfl ?_
    refine v_iconst C dX5_residentHere_31 ic_1 rfl ?_
    refine v_bipush C dX5_residentHere_32 bp_99 rfl ?_
    refine v_vV C dX5_residentHere_34 mi_X5_perhaps (c_X5_perhaps hM (Gm_Zm (Gm_a hu17.1.g _) hz) (x := .inr (tE a n p, wlD (μ.1 1) (dn (μ.1 1)) k)) ⟨hE.2.1, (congrFun (ua_n _ _ (by decide)) 12).trans ((hu17.1.2 12 (by decide) (by decide) (by decide)).trans hf0), Tm_ac hu17.2 _, (ua_s _ _ _).trans (by rw [hu17.1.1 1 (by decide)])⟩ (c := 7) (r := dn (μ.1 1)) (f := 1) (lim := 100) (by decide) q8 (by decide) (by decide) (by decide +kernel) (by decide)) rfl hM.1.1 hM.1.2 rfl ml_X5_263 (rk_of rfl) rfl (Nat.le_of_ble_eq_true rfl) rfl (fun u34 hu34 => ?_)
    refine v_aload_n C dX5_residentHere_37 rfl rfl ?_
    refine v_ldc2 C dX5_residentHere_38 cn_X5_267 rfl ?_
    refine v_iload_n C dX5_residentHere_41 rfl rfl ?_
    refine v_iconst C dX5_residentHere_42 ic_2 rfl ?_
    refine v_iload_n C dX5_residentHere_43 rfl rfl ?_
    refine v_iconst C dX5_residentHere_44 ic_1 rfl ?_
    refine v_isub C dX5_residentHere_45 rfl ?_
    refine v_vV C dX5_residentHere_46 mi_X5_perhaps (c_X5_perhaps hM (Gm_Zm hu34.1 (Gm_Zm (Gm_a hu17.1.g _) hz)) hu34.2 (c := 8) (r := dn (μ.1 1)) (f := 2) (lim := dn (μ.1 1)) (by decide) q8 (by decide) (by omega) (by decide +kernel) rfl) rfl hM.1.1 hM.1.2 rfl ml_X5_263 (rk_of rfl) rfl (Nat.le_of_ble_eq_true rfl) rfl (fun u46 hu46 => ?_)
    refine v_aload_n C dX5_residentHere_49 rfl rfl ?_
    refine v_ldc2 C dX5_residentHere_50 cn_X5_269 rfl ?_
    refine v_iload_n C dX5_residentHere_53 rfl rfl ?_
    refine v_iconst C dX5_residentHere_54 ic_3 rfl ?_
    refine v_sipush C dX5_residentHere_55 sp_9999 rfl ?_
    refine v_vV C dX5_residentHere_58 mi_X5_perhaps (c_X5_perhaps hM (Gm_Zm hu46.1 (Gm_Zm hu34.1 (Gm_Zm (Gm_a hu17.1.g _) hz))) hu46.2 (c := 9) (r := dn (μ.1 1)) (f := 3) (lim := 10000) (by decide) q8 (by decide) (by decide) (by decide +kernel) (by decide)) rfl hM.1.1 hM.1.2 rfl ml_X5_263 (rk_of rfl) rfl (Nat.le_of_ble_eq_true rfl) rfl (fun u58 hu58 => ?_)
    exact v_vret C hQ dX5_residentHere_61 (by unfold rRes; rw [if_pos q8]; have h := MX.tr (((Gm_a hu17.1.g _).tr hu34.1).tr hu46.1) hu58; rw [rB_a] at h; exact h)
  · have q8 : ¬ dn (μ.1 1) < 8 := fun q => by have e : nI (dn (μ.1 1)) = nI 8 := hI.n.2.symm.trans h8; have := (eq_n (by omega) (by decide)).mp e; omega
    refine v_aload_n C dX5_residentHere_11 rfl rfl ?_
    refine v_vV C dX5_residentHere_12 mi_X5_wrongHere (c_X5_wrongHere hM) rfl hM.1.1 hM.1.2 rfl ml_X5_252 (rk_of rfl) rfl (Nat.le_of_ble_eq_true rfl) rfl (pv_k ?_)
    exact v_vret C hQ dX5_residentHere_15 (by unfold rRes; rw [if_neg q8, wr_m hf0, hk.1]; exact ⟨Gm_12 (Gm.rf _) _, hB.2, up_s _ _ _ _⟩)

set_option maxRecDepth 100000 in
set_option maxHeartbeats 4000000 in
theorem c_X5_visitsHere {l : Launch} {w : WC} {μ : Me} (hM : Md w) {a : Nat → Nat} {n p : Nat} (hz : Zm μ a n) (hp : p ≤ n) (hk : Tm μ a n p) (hf0 : μ.1 0 12 = -1) (t1 : tT a n p = 1) : CtV l w yX5_visitsHere cX5_visitsHere 3 (Rm 3 65) [.ref (w_ad w 0)] μ (MX μ a n (rVis a n p (μ.1 1))) := by
  refine Ct.mk (own := RX5) rfl (by decide) (Nat.le_of_ble_eq_true rfl) (fun x hxl C hQ => ?_)
  subst hxl
  have hn := hz.2.1
  have hE := tE_s (a := a) hn hp
  have hB := tB_s (a := a) hn hp
  have hT4 := tT_r a n p
  have hE2 := tE_s (a := a) hn hE.2.1
  have hB2 := tB_s (a := a) hn hE.2.1
  have hB3 := tB_s (a := a) hn hE2.2.1
  have hE3 := tE_s (a := a) hn hE2.2.1
  refine v_aload_n C dX5_visitsHere_0 rfl rfl ?_
  refine v_vV C dX5_visitsHere_1 mi_X5_next (c_X5_next hM hz hE.2.1 (hk.2.2.1 (by omega))) rfl hM.1.1 hM.1.2 rfl ml_X5_255 (rk_of rfl) rfl (Nat.le_of_ble_eq_true rfl) rfl (fun u1 hu1 => ?_)
  refine v_aload_n C dX5_visitsHere_4 rfl rfl ?_
  refine v_iconst C dX5_visitsHere_5 ic_0 rfl ?_
  refine v_iconst C dX5_visitsHere_6 ic_5 rfl ?_
  refine v_iV C dX5_visitsHere_7 mi_X5_numberHere (c_X5_numberHere hM (Fm_Zm hu1.1 hz) hE.2.1 hu1.2 ((hu1.1.2 12 (by decide) (by decide) (by decide)).trans hf0) (lo := 0) (lim := 6) (by decide) (by decide) rfl (by decide)) rfl hM.1.1 hM.1.2 rfl ml_X5_258 (rk_of rfl) rfl (Nat.le_of_ble_eq_true rfl) rfl (fun r7 u7 hu7 => ?_)
  refine v_istore_n C dX5_visitsHere_10 (by decide) rfl ?_
  refine v_aload_n C dX5_visitsHere_11 rfl rfl ?_
  refine g_X5_fault C hM.1 dX5_visitsHere_12 fl_X5_223 rfl ?_
  refine v_if_ge C 29 18 dX5_visitsHere_15 (by decide) rfl (fun h15 => ?_) (fun h15 => ?_)
  · obtain ⟨q1, q2, q3, q4⟩ | ⟨q1, q2, q3⟩ := hu7
    · exact absurd (h15 : 0 ≤ u7.1 0 12) (by rw [q3.2 12 (by decide) (by decide) (by decide), hu1.1.2 12 (by decide) (by decide) (by decide), hf0]; decide)
    refine v_iconst C dX5_visitsHere_29 ic_0 rfl ?_
    refine v_istore_n C dX5_visitsHere_30 (by decide) rfl ?_
    refine v_aload_n C dX5_visitsHere_31 rfl rfl ?_
    refine g_X5_fault C hM.1 dX5_visitsHere_32 fl_X5_223 rfl ?_
    refine v_if_ge C 48 38 dX5_visitsHere_35 (by decide) rfl (fun h35 => ?_) (fun h35 => ?_)
    · exact v_vret C hQ dX5_visitsHere_48 (by unfold rVis; rw [if_neg (fun q => q1 ⟨q.1, Nat.zero_le _, q.2⟩), q3]; exact ⟨Gm_12 hu1.1.g _, hB2.2, up_s _ _ _ _⟩)
    · exact absurd h15 h35
  · obtain ⟨q1, q2, q3, q4⟩ | ⟨q1, q2, q3⟩ := hu7
    rotate_left
    · exact absurd (by rw [q3, up_s]; exact nI_pos' (by omega)) h15
    refine v_aload_n C dX5_visitsHere_18 rfl rfl ?_
    refine v_iconst C dX5_visitsHere_19 ic_0 rfl ?_
    refine v_sipush C dX5_visitsHere_20 sp_255 rfl ?_
    refine v_iV C dX5_visitsHere_23 mi_X5_numberHere (c_X5_numberHere hM (Fm_Zm q3 (Fm_Zm hu1.1 hz)) hE2.2.1 q4 ((q3.2 12 (by decide) (by decide) (by decide)).trans ((hu1.1.2 12 (by decide) (by decide) (by decide)).trans hf0)) (lo := 0) (lim := 256) (by decide) (by decide) rfl (by decide)) rfl hM.1.1 hM.1.2 rfl ml_X5_258 (rk_of rfl) rfl (Nat.le_of_ble_eq_true rfl) rfl (fun r23 u23 hu23 => ?_)
    refine v_goto C 30 dX5_visitsHere_26 (by decide) ?_
    refine v_istore_n C dX5_visitsHere_30 (by decide) rfl ?_
    refine v_aload_n C dX5_visitsHere_31 rfl rfl ?_
    refine g_X5_fault C hM.1 dX5_visitsHere_32 fl_X5_223 rfl ?_
    refine v_if_ge C 48 38 dX5_visitsHere_35 (by decide) rfl (fun h35 => ?_) (fun h35 => ?_)
    · exact v_vret C hQ dX5_visitsHere_48 (by obtain ⟨v1, v2, v3, v4⟩ | ⟨v1, v2, v3⟩ := hu23; (exact absurd (h35 : 0 ≤ u23.1 0 12) (by rw [v3.2 12 (by decide) (by decide) (by decide), q3.2 12 (by decide) (by decide) (by decide), hu1.1.2 12 (by decide) (by decide) (by decide), hf0]; decide)); (unfold rVis; rw [if_pos ⟨q1.1, q1.2.2⟩, if_neg (fun q => v1 ⟨q.1, Nat.zero_le _, q.2⟩), v3]; exact ⟨Gm_12 (hu1.1.g.tr q3.g) _, hB3.2, up_s _ _ _ _⟩))
    · obtain ⟨v1, v2, v3, v4⟩ | ⟨v1, v2, v3⟩ := hu23
      rotate_left
      · exact absurd (by rw [v3, up_s]; exact nI_pos' (by omega)) h35
      refine v_aload_n C dX5_visitsHere_38 rfl rfl ?_
      refine g_X5_d C hM.1 dX5_visitsHere_39 fl_X5_7 rfl ?_
      refine v_bipush C dX5_visitsHere_42 bp_7 rfl ?_
      refine v_iload_n C dX5_visitsHere_44 rfl rfl ?_
      refine v_iadd C dX5_visitsHere_45 rfl ?_
      refine v_iload_n C dX5_visitsHere_46 rfl rfl ?_
      refine s_I C hM.2.1 (by decide) dX5_visitsHere_47 (7 + tV a n (tE a n p)) (by rw [q2]; exact nI_add 7 _) (by have := q1.2.2; omega) rfl ?_
      exact v_vret C hQ dX5_visitsHere_48 (by unfold rVis; rw [if_pos ⟨q1.1, q1.2.2⟩, if_pos ⟨v1.1, v1.2.2⟩, v2]; exact ⟨Gm_1 ((hu1.1.g.tr q3.g).tr v3.g) _ _, hE3.2.1, by rw [up_n _ _ _ (by decide), v3.2 12 (by decide) (by decide) (by decide), q3.2 12 (by decide) (by decide) (by decide), hu1.1.2 12 (by decide) (by decide) (by decide)]; exact hf0, Tm_1c v4 _ _, by rw [up_r, v3.1 1 (by decide), q3.1 1 (by decide), hu1.1.1 1 (by decide)]⟩)
