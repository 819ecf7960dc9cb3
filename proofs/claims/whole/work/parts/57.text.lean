theorem lo_1 {i : Nat} (h : i = 3) : (1 : Int32) = nI (loN i) := by subst h; rfl
theorem lo_0 {i : Nat} (h : ¬ i = 3) : (0 : Int32) = nI (loN i) := by unfold loN; rw [if_neg h]; rfl
theorem hi_20 {i : Nat} (h : i < 2) : (20 : Int32) = nI (hiN i + 1) - 1 := by unfold hiN; rw [if_neg (by omega), if_neg (by omega)]; decide
theorem hi_8 {i : Nat} (h : i = 2) : (8 : Int32) = nI (hiN i + 1) - 1 := by subst h; decide
theorem hi_12 {i : Nat} (h : i = 3) : (12 : Int32) = nI (hiN i + 1) - 1 := by subst h; decide
theorem hi_r1 (i : Nat) : hiN i + 1 ≤ 10000 := by unfold hiN; split; omega; split <;> omega
theorem set_y {μ u27 u : Me} {a : Nat → Nat} {n p i : Nat} {r : Int32} (hn : n ≤ 120) (hp : p ≤ n) (hf0 : μ.1 0 12 = -1) (h27 : Fm μ u27 ∧ Tm u27 a n (tE a n p)) (h : NumP u27 a n (tE a n p) (loN i) (hiN i + 1) r u) : MX μ a n (rSet a n i p (μ.1 1)) (up u 1 (3 + i) r) := by
  have hE := tE_s (a := a) hn hp
  have hE2 := tE_s (a := a) hn hE.2.1
  have hB2 := tB_s (a := a) hn hE.2.1
  obtain ⟨q1, q2, q3, q4⟩ | ⟨q1, q2, q3⟩ := h
  · unfold rSet
    rw [if_pos ⟨q1.1, q1.2.1, by have := q1.2.2; omega⟩, q2]
    exact ⟨Gm_1 (h27.1.g.tr q3.g) _ _, hE2.2.1, by rw [up_n _ _ _ (by decide), q3.2 12 (by decide) (by decide) (by decide), h27.1.2 12 (by decide) (by decide) (by decide)]; exact hf0, Tm_1c q4 _ _, by rw [up_r, q3.1 1 (by decide), h27.1.1 1 (by decide)]⟩
  · unfold rSet
    rw [if_neg (fun q => q1 ⟨q.1, q.2.1, by have := q.2.2; omega⟩), q3]
    exact ⟨Gm_1 (Gm_12 h27.1.g _) _ _, hB2.2, by rw [up_n _ _ _ (by decide), up_s]⟩
theorem MT_t {μ u : Me} {x : Rd} {r : Int32} (h : MA (ua μ 2 (ldF (μ.1 1) (μ.1 2) 63)) x r u) (h0 : u.1 0 12 < 0) : MT μ x (μ.1 1) r (up u 0 7 0) := by
  obtain ⟨hG, hx⟩ := h
  refine ⟨up_s _ _ _ _, ?_, fun k a b c => ?_, ?_⟩
  · rw [up_i _ _ _ (by decide), hG.2 4 (by decide) (by decide) (by decide) (by decide), ua_n _ _ (by decide)]
  · rw [up_n _ _ _ a, hG.1 k a b, ua_n _ _ c]
  · cases x with
    | inl b =>
      obtain ⟨hb, hx⟩ := hx
      rw [hx] at h0
      exact absurd h0 (nI_pos (by omega))
    | inr y => exact ⟨hx.2.1, by rw [up_n _ _ _ (by decide)]; exact hx.2.2⟩
theorem MT_f {μ u : Me} {x : Rd} {r : Int32} (h : MA (ua μ 2 (ldF (μ.1 1) (μ.1 2) 63)) x r u) (h0 : ¬ u.1 0 12 < 0) : MT μ x (μ.1 1) (-1 - u.1 0 12) (ua (up u 0 7 0) 1 (ldF ((up u 0 7 0).1 2) ((up u 0 7 0).1 1) 63)) := by
  obtain ⟨hG, hx⟩ := h
  refine ⟨?_, ?_, fun k a b c => ?_, ?_⟩
  · rw [ua_n _ _ (by decide), up_s]
  · rw [ua_n _ _ (by decide), up_i _ _ _ (by decide), hG.2 4 (by decide) (by decide) (by decide) (by decide), ua_n _ _ (by decide)]
  · rw [ua_n _ _ b, up_n _ _ _ a, hG.1 k a b, ua_n _ _ c]
  · cases x with
    | inl b =>
      obtain ⟨hb, hx⟩ := hx
      refine ⟨by rw [hx], fun j hj => ?_⟩
      rw [ua_s, ldF_in hj, up_n _ _ _ (by decide), hG.1 2 (by decide) (by decide), ua_s, ldF_in hj]
    | inr y =>
      obtain ⟨hx, _⟩ := hx
      rw [hx] at h0
      exact absurd (by decide) h0
