/-! spots, sheets, the tape's bytes -/
theorem wi_neg {t : Int32} (h : ¬ wiS t (-1) 6 = 0) (h2 : ¬ t < 0) : t = nI (cl t) ∧ cl t ≤ 6 := by
  have h3 := Decidable.not_not.mp (mt wiS_0.mpr h)
  obtain ⟨k, hk, e⟩ := Le_of (m := 6) (Int32.not_lt.mp h2) h3.2 (by omega)
  subst e
  rw [cl_n (by omega)]
  exact ⟨rfl, hk⟩
def asS (d : Nat → Int32) (s : Nat) (k : Int32) : Int32 := if d (53 + s) = 0 then -1000006 else if undL 7 (d (13 + (cl (d (53 + s)) - 1))) k = 0 then -1000003 else d (53 + s) - 1
def byS (b : Int32) (c i : Nat) : Int32 := us b (8 * (nI c - nI (i + 1))) &&& 255
def fdM (μ : Me) (t : Nat) (b : Int32) (c : Nat) : Nat → Me
  | 0 => μ
  | i + 1 => up (up (fdM μ t b c i) 41 (t + i) (byS b c i)) 40 1 (nI (t + i + 1))
theorem fdM_len {μ : Me} {t : Nat} {b : Int32} {c : Nat} (h : μ.1 40 1 = nI t) : ∀ i, (fdM μ t b c i).1 40 1 = nI (t + i)
  | 0 => h
  | i + 1 => by simp only [fdM]; rw [up_s]; rfl
theorem hr_i {z f n : Int32} {Z : Nat} (hZ : Z ≤ 40) (hz : z = nI Z) (h : ¬ hrS z f n = 0) : f = nI (cl f) ∧ n = nI (cl n) ∧ cl f + cl n ≤ Z := by
  subst hz
  unfold hrS at h
  by_cases q : 0 ≤ n ∧ n ≤ nI Z ∧ 0 ≤ f ∧ f ≤ nI Z - n
  · obtain ⟨h1, h2, h3, h4⟩ := q
    obtain ⟨k, hk, e⟩ := Le_of h1 h2 (by omega)
    subst e
    rw [pk_sub hk] at h4
    obtain ⟨j, hj, e⟩ := Le_of h3 h4 (by omega)
    subst e
    rw [cl_n (by omega), cl_n (by omega)]
    exact ⟨rfl, rfl, by omega⟩
  · rw [if_neg q] at h; exact absurd rfl h
theorem sp_has {d : Nat → Int32} (hI : IvD d) {s : Nat} (hs : s < 10) {z : Int32} (hz : z + 1 = d (53 + s)) : (wiS z 0 (d 0 - 1) = 0 ↔ d (53 + s) = 0) ∧ (¬ d (53 + s) = 0 → z = nI (cl z) ∧ cl z < dn d ∧ cl z = cl (d (53 + s)) - 1 ∧ z = d (53 + s) - 1) := by
  obtain ⟨p, hp, e⟩ := hI.2.2.2.2.2.2.2.2 s hs
  have hn := hI.n
  have e2 : z = nI p - 1 := by rw [← e, ← hz]; simp
  rw [e]
  cases p with
  | zero =>
    have e3 : z = -1 := by rw [e2]; decide
    refine ⟨⟨fun _ => rfl, fun _ => ?_⟩, fun h => absurd rfl h⟩
    rw [e3]
    refine wiS_0.mpr (fun h => absurd h.1 (by decide))
  | succ p =>
    rw [nI_pred] at e2
    have h1 : ¬ nI (p + 1) = 0 := nI_ne0 (by omega) (by omega)
    have h2 : ¬ wiS z 0 (d 0 - 1) = 0 := by rw [e2]; exact has_y hn.1 hn.2 (by omega)
    refine ⟨⟨fun h => absurd h h2, fun h => absurd h h1⟩, fun _ => ?_⟩
    rw [e2, cl_n (by omega), cl_n (by omega), nI_pred]
    exact ⟨rfl, by omega, by omega, rfl⟩
theorem ldN_0 {f : Nat → Int32} {z m i : Nat} (h : ¬ (i < 6 ∧ i < z ∧ ¬ wiS (f i) 0 255 = 0)) : ldN f z (m + 1) i = i := if_neg h
theorem ldN_1 {f : Nat → Int32} {z m i : Nat} (h : i < 6 ∧ i < z ∧ ¬ wiS (f i) 0 255 = 0) : ldN f z (m + 1) i = ldN f z m (i + 1) := if_pos h
theorem has_j {a z : Int32} {n : Nat} (hn : n ≤ 40) (h0 : z = nI n) (h : ¬ wiS a 0 (z - 1) = 0) : a = nI (cl a) ∧ cl a < n := by
  subst h0
  cases n with
  | zero =>
    have h2 := Decidable.not_not.mp (mt wiS_0.mpr h)
    exact absurd (Int32.le_trans h2.1 h2.2) (by decide)
  | succ n =>
    rw [nI_pred] at h
    have := wi_i (by omega) h
    exact ⟨this.1, by omega⟩
