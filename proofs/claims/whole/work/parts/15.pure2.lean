/-! the class's Sunday and the row's are one -/
theorem sub_pos_n {a b : Nat} (ha : a < 2 ^ 30) (hb : b < 2 ^ 30) : 0 < nI a - nI b ↔ b < a := by
  rw [Int32.lt_iff_toInt_lt, pk_sub_toInt ha hb]
  simp
theorem sub_m1 {a b : Nat} : nI a - nI b + (-1) = nI a - nI (b + 1) := by
  rw [nI_succ]
  simp only [Int32.sub_eq_add_neg, Int32.neg_add, Int32.add_assoc]
/-- rows of residents agree behind i of them; the cake left -/
def SuJ (m : Me) (k : Nat) (D : Nat → Int32) (n : Nat) (cc : Int32) (c c0 i : Nat) : Prop := (∀ r, r < n → LhR m k D r) ∧ ∃ v, v ≤ i ∧ cc = nI c0 - nI v ∧ c = c0 - v
theorem LhR_up {m : Me} {k : Nat} {D : Nat → Int32} {r i : Nat} (h : LhR m k D r) (hr : r ≠ i) (hr8 : r < 8) (hi8 : i < 8) {a b c : Nat} {x y z : Int32} (ha : a = 21 + i ∨ a = 37 + i ∨ a = 45 + i) {f : Nat} : LhR (up m (k + 3 + 2 + i) f x) k (upd D a y) r := by
  unfold LhR at h ⊢
  rw [up_n _ _ _ (by omega)]
  simp only [upd]
  rw [if_neg (by omega), if_neg (by omega), if_neg (by omega), if_neg (by omega), if_neg (by omega)]
  exact h
theorem suJ_step {m : Me} {k : Nat} {D : Nat → Int32} {n : Nat} {c0 i : Nat} (hn : n ≤ 8) (hi : i < n) (hj : ∀ r, r < n → LhR m k D r) {mm : Me} {DD : Nat → Int32}
    (hm : ∀ a, a ≠ k + 3 + 2 + i → mm.1 a = m.1 a) (hD : ∀ a, a ≠ 21 + i → a ≠ 37 + i → a ≠ 45 + i → DD a = D a) (h0 : mm.1 (k + 3 + 2 + i) 0 = m.1 (k + 3 + 2 + i) 0) (h2 : mm.1 (k + 3 + 2 + i) 2 = m.1 (k + 3 + 2 + i) 2)
    (h1 : mm.1 (k + 3 + 2 + i) 1 = DD (21 + i)) (h3 : mm.1 (k + 3 + 2 + i) 3 = DD (37 + i)) (h4 : mm.1 (k + 3 + 2 + i) 4 = DD (45 + i)) : ∀ r, r < n → LhR mm k DD r := by
  intro r hr
  have q := hj r hr
  unfold LhR at q ⊢
  by_cases e : r = i
  · subst e
    refine ⟨?_, h1, ?_, h3, h4⟩
    · rw [h0, q.1, hD _ (by omega) (by omega) (by omega)]
    · rw [h2, q.2.2.1, hD _ (by omega) (by omega) (by omega)]
  · rw [hm _ (by omega), hD _ (by omega) (by omega) (by omega), hD _ (by omega) (by omega) (by omega), hD _ (by omega) (by omega) (by omega), hD _ (by omega) (by omega) (by omega), hD _ (by omega) (by omega) (by omega)]
    exact q
theorem upd_s (f : Nat → Int32) (i : Nat) (x : Int32) : upd f i x i = x := if_pos rfl
theorem upd_n (f : Nat → Int32) {i a : Nat} (x : Int32) (h : a ≠ i) : upd f i x a = f a := if_neg h
theorem suJ_all {m : Me} {k : Nat} {d : Nat → Int32} {n : Nat} {g b : Int32} {c0 : Nat} (hn : n ≤ 8) (hc : c0 ≤ 20) (hj : ∀ r, r < n → LhR m k d r) : ∀ i, i ≤ n → SuJ (suL m k g b (nI c0) i).1 k (suD d (m.1 k 7) (m.1 k 8) (m.1 k 9) g b c0 i).1 n (suL m k g b (nI c0) i).2 (suD d (m.1 k 7) (m.1 k 8) (m.1 k 9) g b c0 i).2 c0 i
  | 0, _ => ⟨hj, 0, Nat.le_refl _, by rw [suL, nI_0]; simp, rfl⟩
  | i + 1, hi => by
    obtain ⟨ih, v, hv, e1, e2⟩ := suJ_all (g := g) (b := b) hn hc hj i (by omega)
    have q := ih i (by omega)
    unfold LhR at q
    have hcake : (if 0 < (suL m k g b (nI c0) i).2 then (1 : Int32) else 0) = (if 0 < (suD d (m.1 k 7) (m.1 k 8) (m.1 k 9) g b c0 i).2 then 1 else 0) := by
      rw [e1, e2]
      have z := sub_pos_n (a := c0) (b := v) (by omega) (by omega)
      by_cases zz : v < c0
      · rw [if_pos (z.mpr zz), if_pos (by omega)]
      · rw [if_neg (fun y => zz (z.mp y)), if_neg (by omega)]
    simp only [suL, suD]
    generalize (suL m k g b (nI c0) i).1 = M at ih q ⊢
    generalize (suD d (m.1 k 7) (m.1 k 8) (m.1 k 9) g b c0 i).1 = D at ih q ⊢
    have n1 : (37 + i) ≠ 21 + i := by omega
    have n2 : (45 + i) ≠ 21 + i := by omega
    have n3 : (45 + i) ≠ 37 + i := by omega
    have n4 : (21 + i) ≠ 37 + i := by omega
    have n5 : (21 + i) ≠ 45 + i := by omega
    have n6 : (37 + i) ≠ 45 + i := by omega
    split
    · refine ⟨suJ_step (i := i) (c0 := c0) hn (by omega) ih (fun a ha => ?_) (fun a h1 h2 h3 => ?_) ?_ ?_ ?_ ?_ ?_, v + 1, by omega, ?_, ?_⟩
      · simp only [bvS, up_n _ _ _ ha]
      · simp only [ddV, upd_n _ _ h1, upd_n _ _ h2, upd_n _ _ h3]
      · simp [bvS, up_if]
      · simp [bvS, up_if]
      · simp only [bvS, ddV, up_if]
        simp only [upd_n _ _ n5, upd_n _ _ n4, upd_s]
        rw [hcake]
        by_cases hq : 0 < (suD d (m.1 k 7) (m.1 k 8) (m.1 k 9) g b c0 i).2 <;> simp [hq, q.1, q.2.1]
      · simp only [bvS, ddV, up_if, upd_n _ _ n6, upd_s]
        simp
      · simp only [bvS, ddV, up_if, upd_s]
        simp [q.2.2.2.2]
      · rw [e1, sub_m1]
      · rw [e2]; omega
    · split
      · refine ⟨suJ_step (i := i) (c0 := c0) hn (by omega) ih (fun a ha => ?_) (fun a h1 h2 h3 => ?_) ?_ ?_ ?_ ?_ ?_, v, by omega, e1, e2⟩
        · simp only [bsS, up_n _ _ _ ha]
        · simp only [ddS, upd_n _ _ h1, upd_n _ _ h2]
        · simp [bsS, up_if]
        · simp [bsS, up_if]
        · simp only [bsS, ddS, up_if, upd_n _ _ n4, upd_s]
          simp [q.1, q.2.1]
        · simp only [bsS, ddS, up_if, upd_s]
          simp [q.2.2.2.1]
        · simp only [bsS, ddS, up_if, upd_n _ _ n2, upd_n _ _ n3]
          simp [q.2.2.2.2]
      · split
        · refine ⟨suJ_step (i := i) (c0 := c0) hn (by omega) ih (fun a ha => ?_) (fun a h1 h2 h3 => ?_) ?_ ?_ ?_ ?_ ?_, v, by omega, e1, e2⟩
          · simp only [bhS, up_n _ _ _ ha]
          · simp only [ddH, upd_n _ _ h1, upd_n _ _ h2]
          · simp [bhS, up_if]
          · simp [bhS, up_if]
          · simp only [bhS, ddH, up_if, upd_n _ _ n4, upd_s]
            simp [q.2.1]
          · simp only [bhS, ddH, up_if, upd_s]
            simp
          · simp only [bhS, ddH, up_if, upd_n _ _ n2, upd_n _ _ n3]
            simp [q.2.2.2.2]
        · refine ⟨suJ_step (i := i) (c0 := c0) hn (by omega) ih (fun a ha => ?_) (fun a h1 h2 h3 => ?_) ?_ ?_ ?_ ?_ ?_, v, by omega, e1, e2⟩
          · simp only [baS, up_n _ _ _ ha]
          · simp only [ddA, upd_n _ _ h1, upd_n _ _ h2]
          · simp [baS, up_if]
          · simp [baS, up_if]
          · simp only [baS, ddA, up_if, upd_n _ _ n4, upd_s]
            simp [q.1, q.2.1, q.2.2.2.1]
          · simp only [baS, ddA, up_if, upd_s]
            simp [q.2.2.2.1]
          · simp only [baS, ddA, up_if, upd_n _ _ n2, upd_n _ _ n3]
            simp [q.2.2.2.2]
theorem suM_0 {d : Nat → Int32} (hI : IvD d) : suM d 0 = d 0 := by
  unfold suM
  rw [upd_n _ _ (by decide)]
  exact suD_o _ _ _ _ _ _ _ _ hI.n.1 (Or.inl (by decide))
theorem suM_dn {d : Nat → Int32} (hI : IvD d) : dn (suM d) = dn d := by show cl (suM d 0) = cl (d 0); rw [suM_0 hI]
/-- what a Sunday leaves as it was -/
theorem suM_o {d : Nat → Int32} (hI : IvD d) {a : Nat} (h1 : a ≠ 1) (h : a < 21 ∨ 53 ≤ a ∨ (29 ≤ a ∧ a < 37)) : suM d a = d a := by
  unfold suM
  rw [upd_n _ _ h1]
  refine suD_o _ _ _ _ _ _ _ _ hI.n.1 ?_
  rcases h with h | h | h
  · exact Or.inl h
  · exact Or.inr (Or.inl h)
  · exact Or.inr (Or.inr (Or.inl h))
theorem LH_ps {μ : Me} {k : Nat} {d : Nat → Int32} (h : LH μ k d) (hI : IvD d) : LH (psS μ k (dn d) (cl (d 5))) k (suM d) := by
  have hv := h.v hI
  have hs := h.s hI
  have hp := h.p hI
  have hn := hI.n.1
  obtain ⟨h1, h2, h3, h4, h5, h6, h7⟩ := h
  have hc := hI.2.2.2.1.cl (by omega)
  obtain ⟨bb, hbb, ebb⟩ := V_lt hI
  -- the memory behind decide()
  have e7 : (deS μ k (dn d) (cl (d 5))).1 k 7 = V_ d := by simp only [deS, up_if]; simp [hv]
  have e8 : (deS μ k (dn d) (cl (d 5))).1 k 8 = S_ d := by simp only [deS, up_if]; simp [hs]
  have e9 : (deS μ k (dn d) (cl (d 5))).1 k 9 = P_ d := by simp only [deS, up_if]; simp [hp]
  have eo : ∀ a, a ≠ k → (deS μ k (dn d) (cl (d 5))).1 a = μ.1 a := fun a ha => by simp only [deS, up_n _ _ _ ha]
  have ek : ∀ i, i < 7 → (deS μ k (dn d) (cl (d 5))).1 k i = μ.1 k i := fun i hi => by simp only [deS, up_if]; simp [show i ≠ 7 by omega, show i ≠ 8 by omega, show i ≠ 9 by omega]
  have hj : ∀ r, r < dn d → LhR (deS μ k (dn d) (cl (d 5))) k d r := fun r hr => by
    have q := h7 r hr
    unfold LhR at q ⊢
    rw [eo _ (by omega)]; exact q
  have J := suJ_all (g := d 6) (b := onL (V_ d) 8) (c0 := cl (d 4)) (m := deS μ k (dn d) (cl (d 5))) (d := d) (k := k) hn hc.1 hj (dn d) (Nat.le_refl _)
  have hb : bcS ((deS μ k (dn d) (cl (d 5))).1 k 7) = onL (V_ d) 8 := by rw [e7, ebb]; exact bc_on hbb
  have hg : (deS μ k (dn d) (cl (d 5))).1 (k + 1) 3 = d 6 := by rw [eo _ (by omega)]; exact h4 3 (by omega)
  have hck : (deS μ k (dn d) (cl (d 5))).1 (k + 1) 1 = nI (cl (d 4)) := by rw [eo _ (by omega), h4 1 (by omega)]; exact hc.2
  rw [e7, e8, e9] at J
  obtain ⟨J1, -⟩ := J
  unfold psS
  rw [hb, hg, hck]
  have so : ∀ a, a < k + 3 + 2 → (suL (deS μ k (dn d) (cl (d 5))) k (d 6) (onL (V_ d) 8) (nI (cl (d 4))) (dn d)).1.1 a = (deS μ k (dn d) (cl (d 5))).1 a := fun a ha => suL_o _ _ _ _ _ ha _
  refine ⟨?_, ?_, ?_, fun i hi => ?_, fun i hi => ?_, fun i hi => ?_, fun r hr => ?_⟩
  · rw [up_i _ _ _ (by decide), so k (by omega), ek 3 (by omega), suM_0 hI]; exact h1
  · rw [up_s, h2]
    unfold suM
    rw [upd_s]
  · rw [up_i _ _ _ (by decide), so k (by omega), ek 5 (by omega), suM_o hI (by decide) (Or.inl (by decide))]; exact h3
  · rw [up_n _ _ _ (by omega), so _ (by omega), eo _ (by omega), suM_o hI (by omega) (Or.inl (by omega))]; exact h4 i hi
  · rw [up_n _ _ _ (by omega), so _ (by omega), eo _ (by omega), suM_o hI (by omega) (Or.inl (by omega))]; exact h5 i hi
  · rw [up_n _ _ _ (by omega), so _ (by omega), eo _ (by omega), suM_o hI (by omega) (Or.inr (Or.inl (by omega)))]; exact h6 i hi
  · rw [suM_dn hI] at hr
    have q := J1 r hr
    unfold LhR at q ⊢
    rw [up_n _ _ _ (by omega)]
    unfold suM
    rw [upd_n _ _ (by omega), upd_n _ _ (by omega), upd_n _ _ (by omega), upd_n _ _ (by omega), upd_n _ _ (by omega)]
    exact q
