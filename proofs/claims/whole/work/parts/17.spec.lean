/-! the object's calls: what they rest on -/
def tlS (μ : Me) (p : Nat) : Me := up μ 51 p (μ.1 51 p + 1)
theorem wi_i {a : Int32} {m : Nat} (hm : m < 2 ^ 31) (h : ¬ wiS a 0 (nI m) = 0) : a = nI (cl a) ∧ cl a ≤ m := by
  have h2 := Decidable.not_not.mp (mt wiS_0.mpr h)
  obtain ⟨k, hk, e⟩ := Le_of h2.1 h2.2 hm
  subst e
  rw [cl_n (by omega)]
  exact ⟨rfl, hk⟩
theorem wi_y {m k : Nat} (hk : k ≤ m) (hm : m < 2 ^ 31) : ¬ wiS (nI k) 0 (nI m) = 0 := fun h => wiS_0.mp h ⟨nI_pos' (by omega), nI_le hk hm⟩
theorem has_i {a z : Int32} {n : Nat} (hn : n ≤ 8) (h0 : z = nI n) (h : ¬ wiS a 0 (z - 1) = 0) : a = nI (cl a) ∧ cl a < n := by
  subst h0
  cases n with
  | zero =>
    have h2 := Decidable.not_not.mp (mt wiS_0.mpr h)
    exact absurd (Int32.le_trans h2.1 h2.2) (by decide)
  | succ n =>
    rw [nI_pred] at h
    have := wi_i (by omega) h
    exact ⟨this.1, by omega⟩
theorem has_y {z : Int32} {n k : Nat} (hn : n ≤ 8) (h0 : z = nI n) (hk : k < n) : ¬ wiS (nI k) 0 (z - 1) = 0 := by
  subst h0
  cases n with
  | zero => omega
  | succ n => rw [nI_pred]; exact wi_y (by omega) (by omega)
theorem fit_i {a v : Int32} (h : ¬ fitS a v = 0) : a = nI (cl a) ∧ cl a ≤ 3 := by
  unfold fitS at h
  by_cases q : wiS a 0 3 = 1 ∧ wiS v (leastS a) (mostS a) = 1
  · exact wi_i (m := 3) (by omega) (by rw [show wiS a 0 (nI 3) = wiS a 0 3 from rfl, q.1]; decide)
  · rw [if_neg q] at h; exact absurd rfl h
theorem nI_ne_m1 {n : Nat} (h : n < 2 ^ 31) : ¬ nI n = -1 := fun q => by
  have := nI_pos (n := n) h
  rw [q] at this
  exact this (by decide)
def lkS (μ : Me) (s : Int32) : Int32 := if wiS s 0 3 = 0 then -1000001 else if μ.1 (43 + cl s) 0 = 0 then -1000006 else 0
def lkP (s : Int32) : Nat := if wiS s 0 3 = 0 then 0 else 5
theorem lk_p {μ : Me} {s : Int32} (h : ¬ lkS μ s = 0) : -1000001 - lkS μ s = nI (lkP s) := by
  unfold lkS lkP at *
  by_cases q : wiS s 0 3 = 0
  · rw [if_pos q, if_pos q]; decide
  · rw [if_neg q] at h ⊢
    rw [if_neg q]
    by_cases q2 : μ.1 (43 + cl s) 0 = 0
    · rw [if_pos q2]; decide
    · rw [if_neg q2] at h; exact absurd rfl h
theorem lk_i {μ : Me} {s : Int32} (h : lkS μ s = 0) : s = nI (cl s) ∧ cl s ≤ 3 ∧ ¬ μ.1 (43 + cl s) 0 = 0 := by
  unfold lkS at h
  by_cases q : wiS s 0 3 = 0
  · rw [if_pos q] at h; exact absurd h (by decide)
  · rw [if_neg q] at h
    have z := wi_i (m := 3) (by omega) q
    refine ⟨z.1, z.2, fun q2 => ?_⟩
    rw [if_pos q2] at h; exact absurd h (by decide)
def lfS (μ : Me) (s r : Int32) : Int32 := if lkS μ s = 0 then (if wiS r 0 (μ.1 1 3 - 1) = 0 then -1000001 else 0) else lkS μ s
def lfP (μ : Me) (s : Int32) : Nat := if lkS μ s = 0 then 0 else lkP s
theorem lf_p {μ : Me} {s r : Int32} (h : ¬ lfS μ s r = 0) : -1000001 - lfS μ s r = nI (lfP μ s) := by
  unfold lfS lfP at *
  by_cases q : lkS μ s = 0
  · rw [if_pos q] at h ⊢
    rw [if_pos q]
    by_cases q2 : wiS r 0 (μ.1 1 3 - 1) = 0
    · rw [if_pos q2]; decide
    · rw [if_neg q2] at h; exact absurd rfl h
  · rw [if_neg q, if_neg q]; exact lk_p q
theorem lf_i {μ : Me} {s r : Int32} (h : lfS μ s r = 0) : lkS μ s = 0 ∧ ¬ wiS r 0 (μ.1 1 3 - 1) = 0 := by
  unfold lfS at h
  by_cases q : lkS μ s = 0
  · rw [if_pos q] at h
    refine ⟨q, fun q2 => ?_⟩
    rw [if_pos q2] at h; exact absurd h (by decide)
  · rw [if_neg q] at h; exact absurd h q
theorem lkP_lt (s : Int32) : lkP s < 7 := by unfold lkP; split <;> omega
theorem lfP_lt (μ : Me) (s : Int32) : lfP μ s < 7 := by unfold lfP; split; omega; exact lkP_lt s
def fiL (f : Nat → Int32) (v : Int32) (n : Nat) : Nat → Int32 := fun j => if j < n then v else f j
theorem fiL_0 (f : Nat → Int32) (v : Int32) : fiL f v 0 = f := by funext j; simp [fiL]
theorem fiL_s (f : Nat → Int32) (v : Int32) (n : Nat) : upd (fiL f v n) n v = fiL f v (n + 1) := by
  funext j
  simp only [upd, fiL]
  by_cases h : j = n
  · subst h; simp
  · rw [if_neg h]
    by_cases h2 : j < n
    · rw [if_pos h2, if_pos (by omega)]
    · rw [if_neg h2, if_neg (by omega)]
def cutS (b v : Int32) : Int32 := if b = 8 then v.toInt8.toInt32 else if b = 16 then v.toInt16.toInt32 else v
def hrS (z f n : Int32) : Int32 := if 0 ≤ n ∧ n ≤ z ∧ 0 ≤ f ∧ f ≤ z - n then 1 else 0
def rnS (μ : Me) (c : Nat) (b n : Int32) : Me := ua (up (up μ c 0 b) c 1 (if b = 0 then 0 else n)) (c + 4) (fiL (μ.1 (c + 4)) 0 40)
