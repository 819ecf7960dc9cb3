/-! the model's calls: what they rest on -/
theorem fit_01 {a v : Int32} (h : a = 0 ∨ a = 1) : fitS a v = wiS v 0 20 := by
  unfold fitS
  rcases h with rfl | rfl
  · by_cases q : wiS v 0 20 = 1
    · rw [if_pos ⟨by decide, q⟩, q]
    · rw [if_neg (fun h => q h.2)]
      unfold wiS at q ⊢
      split at q
      · exact absurd rfl q
      · rw [if_neg (by assumption)]
  · by_cases q : wiS v 0 20 = 1
    · rw [if_pos ⟨by decide, q⟩, q]
    · rw [if_neg (fun h => q h.2)]
      unfold wiS at q ⊢
      split at q
      · exact absurd rfl q
      · rw [if_neg (by assumption)]
theorem wi_01 (v a b : Int32) : wiS v a b = 0 ∨ wiS v a b = 1 := by unfold wiS; split <;> simp
theorem fit_2 {v : Int32} : fitS 2 v = wiS v 0 8 := by
  unfold fitS
  rcases wi_01 v 0 8 with q | q
  · rw [if_neg (fun h => absurd (q.symm.trans h.2) (by decide)), q]
  · rw [if_pos ⟨by decide, q⟩, q]
theorem fit_3 {v : Int32} : fitS 3 v = wiS v 1 12 := by
  unfold fitS
  rcases wi_01 v 1 12 with q | q
  · rw [if_neg (fun h => absurd (q.symm.trans h.2) (by decide)), q]
  · rw [if_pos ⟨by decide, q⟩, q]
theorem fit_o {a v : Int32} (h0 : ¬ a = 0) (h1 : ¬ a = 1) (h2 : ¬ a = 2) (h3 : ¬ a = 3) : fitS a v = 0 := by
  apply Decidable.byContradiction
  intro q
  obtain ⟨e, hk⟩ := fit_i q
  generalize cl a = k at e hk
  have : k = 0 ∨ k = 1 ∨ k = 2 ∨ k = 3 := by omega
  rcases this with rfl | rfl | rfl | rfl
  · exact h0 e
  · exact h1 e
  · exact h2 e
  · exact h3 e
def wlD (d : Nat → Int32) (n : Nat) (a : Int32) : Nat → Int32 := upd (upd (upd (upd (upd (upd d (13 + n) a) (21 + n) 50) (29 + n) (-1)) (37 + n) 0) (45 + n) 0) 0 (nI (n + 1))
theorem wl_mem {μ : Me} {n : Nat} {a : Int32} (h0 : μ.1 1 0 = nI n) : up (up (up (up (up (up μ 1 (13 + n) a) 1 (21 + n) 50) 1 (29 + n) (-1)) 1 (37 + n) 0) 1 (45 + n) 0) 1 0 ((up (up (up (up (up μ 1 (13 + n) a) 1 (21 + n) 50) 1 (29 + n) (-1)) 1 (37 + n) 0) 1 (45 + n) 0).1 1 0 + 1) = ua μ 1 (wlD (μ.1 1) n a) := by
  have e : (up (up (up (up (up μ 1 (13 + n) a) 1 (21 + n) 50) 1 (29 + n) (-1)) 1 (37 + n) 0) 1 (45 + n) 0).1 1 0 = nI n := by
    rw [up_i _ _ _ (by omega), up_i _ _ _ (by omega), up_i _ _ _ (by omega), up_i _ _ _ (by omega), up_i _ _ _ (by omega)]; exact h0
  rw [e, nI_1]
  have e1 : up μ 1 (13 + n) a = ua μ 1 (upd (μ.1 1) (13 + n) a) := rfl
  rw [e1]
  simp only [up_ua]
  rfl
theorem wi_m1 {v z : Int32} {n : Nat} (hn : n ≤ 8) (hz : z = nI n) : wiS v (-1) (z - 1) = 0 ↔ (¬ v = -1 ∧ wiS v 0 (z - 1) = 0) := by
  subst hz
  have hm : (-1 : Int32) ≤ nI n - 1 := by
    have : n = 0 ∨ n = 1 ∨ n = 2 ∨ n = 3 ∨ n = 4 ∨ n = 5 ∨ n = 6 ∨ n = 7 ∨ n = 8 := by omega
    rcases this with rfl | rfl | rfl | rfl | rfl | rfl | rfl | rfl | rfl <;> decide
  rw [wiS_0, wiS_0]
  constructor
  · intro h
    refine ⟨fun e => h ⟨by rw [e]; exact Int32.le_refl _, by rw [e]; exact hm⟩, fun h2 => h ⟨Int32.le_trans (by decide) h2.1, h2.2⟩⟩
  · intro h h2
    refine h.2 ⟨?_, h2.2⟩
    rw [Int32.le_iff_toInt_le] at h2 ⊢
    have q := h.1
    have e : v.toInt ≠ (-1 : Int32).toInt := fun e => q (Int32.toInt_inj.mp e)
    have e1 : (-1 : Int32).toInt = -1 := by decide
    have e0 : (0 : Int32).toInt = 0 := by decide
    rw [e1] at e h2
    rw [e0]
    omega
theorem ff_2 {z r v : Int32} {n : Nat} (hn : n ≤ 8) (hz : z = nI n) (hr : ∃ k, k < 8 ∧ r = nI k) : ffS z r 2 v = if wiS v (-1) (z - 1) = 0 then 0 else if v = r then 0 else 1 := by
  unfold ffS
  rw [if_neg (by decide), if_neg (by decide), if_pos rfl]
  have w := wi_m1 (v := v) hn hz
  by_cases q : wiS v (-1) (z - 1) = 0
  · rw [if_pos q, if_neg]
    intro h
    rcases h with h | h
    · exact (w.mp q).1 h
    · exact h.1 (w.mp q).2
  · rw [if_neg q]
    by_cases q2 : v = r
    · rw [if_pos q2, if_neg]
      intro h
      rcases h with h | h
      · obtain ⟨k, hk, e⟩ := hr
        rw [q2, e] at h
        exact nI_ne_m1 (by omega) h
      · exact h.2 q2
    · rw [if_neg q2, if_pos]
      by_cases q3 : v = -1
      · exact Or.inl q3
      · exact Or.inr ⟨fun h => q (w.mpr ⟨q3, h⟩), q2⟩
def abM (k : Int32) : Int32 := if k = 3 then 2 else if k = 4 then 3 else if k = 6 then 1 else 0
def asB (k a : Int32) : Bool := a = 0 || a = k || a = abM k || a = abM (abM k)
theorem as_und : ∀ a, a < 7 → ∀ b, b < 7 → (undL 7 (nI a) (nI b) = 0 ↔ asB (nI a) (nI b) = false) := by decide +kernel
theorem as_u {k a : Int32} (hk : Le k 6) (ha : Le a 6) : undL 7 k a = 0 ↔ ¬ (a = 0 ∨ a = k ∨ a = abM k ∨ a = abM (abM k)) := by
  obtain ⟨x, hx, rfl⟩ := hk
  obtain ⟨y, hy, rfl⟩ := ha
  rw [as_und x (by omega) y (by omega)]
  simp [asB, and_assoc]
def wyS (μ : Me) (s : Int32) : Int32 := if wiS s 0 3 = 0 then 0 else if μ.1 7 (cl s) = 0 then 5 else -1
def lkM (μ : Me) (s : Int32) : Int32 := if wiS s 0 3 = 0 then -1000001 else if μ.1 7 (cl s) = 0 then -1000006 else 0
theorem wy_neg {μ : Me} {s : Int32} : wyS μ s < 0 ↔ lkM μ s = 0 := by
  unfold wyS lkM
  by_cases q : wiS s 0 3 = 0
  · rw [if_pos q, if_pos q]; decide
  · rw [if_neg q, if_neg q]
    by_cases q2 : μ.1 7 (cl s) = 0
    · rw [if_pos q2, if_pos q2]; decide
    · rw [if_neg q2, if_neg q2]; decide
theorem wy_p {μ : Me} {s : Int32} (h : ¬ lkM μ s = 0) : wyS μ s = nI (lkP s) ∧ -1000001 - wyS μ s = lkM μ s := by
  unfold wyS lkM lkP at *
  by_cases q : wiS s 0 3 = 0
  · rw [if_pos q, if_pos q, if_pos q]; decide
  · rw [if_neg q] at h ⊢
    rw [if_neg q, if_neg q]
    by_cases q2 : μ.1 7 (cl s) = 0
    · rw [if_pos q2, if_pos q2]; decide
    · rw [if_neg q2] at h; exact absurd rfl h
theorem lm_i {μ : Me} {s : Int32} (h : lkM μ s = 0) : s = nI (cl s) ∧ cl s ≤ 3 ∧ ¬ μ.1 7 (cl s) = 0 := by
  unfold lkM at h
  by_cases q : wiS s 0 3 = 0
  · rw [if_pos q] at h; exact absurd h (by decide)
  · rw [if_neg q] at h
    have z := wi_i (m := 3) (by omega) q
    refine ⟨z.1, z.2, fun q2 => ?_⟩
    rw [if_pos q2] at h; exact absurd h (by decide)
theorem ff_o {z r t v : Int32} (h : wiS t 0 4 = 0) : ffS z r t v = 0 := by
  apply Decidable.byContradiction
  intro q
  have e := ff_i q
  rw [e.1] at h
  exact wi_y (m := 4) e.2 (by omega) h
