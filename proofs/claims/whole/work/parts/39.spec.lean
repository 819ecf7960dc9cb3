/-! what would be, in the model: put aside and put back -/
theorem asM_1 (μ : Me) : (asM μ).1 1 = μ.1 1 := ua_n _ _ (by decide)
theorem asM_3 (μ : Me) : (asM μ).1 3 = ldF (μ.1 1) (μ.1 3) 63 := ua_s _ _ _
theorem asM_o {μ : Me} {a : Nat} (h : a ≠ 3) : (asM μ).1 a = μ.1 a := ua_n _ _ h
theorem asM_self (μ : Me) : asM μ = ua (asM μ) 1 (μ.1 1) := ua_same (asM_1 μ).symm
theorem rst {μ : Me} {X : Nat → Int32} (hX : ∀ j, 63 ≤ j → X j = μ.1 1 j) : ua (ua (asM μ) 1 X) 1 (ldF ((ua (asM μ) 1 X).1 3) ((ua (asM μ) 1 X).1 1) 63) = asM μ := by
  rw [ua_ua, ua_s, ua_n _ _ (by decide), asM_3]
  have e : ldF (ldF (μ.1 1) (μ.1 3) 63) X 63 = μ.1 1 := by
    funext j
    by_cases h : j < 63
    · rw [ldF_in h, ldF_in h]
    · rw [ldF_out (by omega), hX j (by omega)]
  rw [e]
  exact (asM_self μ).symm
theorem suN_63 {X : Nat → Int32} (hI : IvD X) (t : Nat) {j : Nat} (h : 63 ≤ j) : suN t X j = X j := suN_o hI (by omega) (Or.inr (Or.inl (by omega))) t
theorem upd_63 {d : Nat → Int32} {a : Nat} {v : Int32} (ha : a < 63) : ∀ j, 63 ≤ j → upd d a v j = d j := fun j hj => upd_n _ _ (by omega)
def alL (f : Nat → Int32) (v : Int32) : Nat → Int32
  | 0 => 1
  | i + 1 => if alL f v i = 0 then 0 else if v ≤ f i then 1 else 0
def frF (n k : Nat) : Int32 := if k = n then -1 else nI k
def frL (g : Nat → Int32) (n r : Nat) : Nat → Int32 × Int32
  | 0 => (-1, -1)
  | k + 1 => if k = r then frL g n r k else if (frL g n r k).2 < g k then (frF n k, g k) else frL g n r k
theorem frL_r {g : Nat → Int32} {n r k : Nat} (h : k = r) : frL g n r (k + 1) = frL g n r k := if_pos h
theorem frL_n {g : Nat → Int32} {n r k : Nat} (h : ¬ k = r) (h2 : ¬ (frL g n r k).2 < g k) : frL g n r (k + 1) = frL g n r k := (if_neg h).trans (if_neg h2)
theorem frL_y {g : Nat → Int32} {n r k : Nat} (h : ¬ k = r) (h2 : (frL g n r k).2 < g k) : frL g n r (k + 1) = (frF n k, g k) := (if_neg h).trans (if_pos h2)
def kdI (d : Nat → Int32) (a : Int32) (i : Nat) : Nat → Int32 := fun j => if 7 ≤ j ∧ j < 7 + i then d j &&& (a ^^^ (-1)) else d j
theorem kdI_0 (d : Nat → Int32) (a : Int32) : kdI d a 0 = d := by funext j; simp only [kdI]; rw [if_neg (by omega)]
theorem kdI_6 (d : Nat → Int32) (a : Int32) : kdI d a 6 = kaD d a := rfl
theorem kdI_s (d : Nat → Int32) (a : Int32) (i : Nat) : upd (kdI d a i) (7 + i) (kdI d a i (7 + i) &&& (a ^^^ (-1))) = kdI d a (i + 1) := by
  funext j
  simp only [upd, kdI]
  by_cases h : j = 7 + i
  · subst h; rw [if_pos rfl, if_neg (by omega), if_pos (by omega)]
  · rw [if_neg h]
    by_cases h2 : 7 ≤ j ∧ j < 7 + i
    · rw [if_pos h2, if_pos (by omega)]
    · rw [if_neg h2, if_neg (by omega)]
def awM (f : Nat → Int32) (r : Int32) : Nat → Int32
  | 0 => -1
  | i + 1 => if bitS (nI i) r = 1 ∨ (¬ awM f r i < 0 ∧ ¬ onL (nI i) 8 < onL (awM f r i) 8) ∨ f i < 60 then awM f r i else nI i
theorem awM_n {f : Nat → Int32} {r : Int32} {i : Nat} (h : bitS (nI i) r = 1 ∨ (¬ awM f r i < 0 ∧ ¬ onL (nI i) 8 < onL (awM f r i) 8) ∨ f i < 60) : awM f r (i + 1) = awM f r i := if_pos h
theorem awM_y {f : Nat → Int32} {r : Int32} {i : Nat} (h : ¬ (bitS (nI i) r = 1 ∨ (¬ awM f r i < 0 ∧ ¬ onL (nI i) 8 < onL (awM f r i) 8) ∨ f i < 60)) : awM f r (i + 1) = nI i := if_neg h
def lfM (μ : Me) (s r : Int32) : Int32 := if lkM μ s = 0 then (if wiS r 0 (μ.1 1 0 - 1) = 0 then -1000001 else 0) else lkM μ s
def lfQ (μ : Me) (s : Int32) : Nat := if lkM μ s = 0 then 0 else lkP s
def wnS (μ : Me) (s r : Int32) : Int32 := if wyS μ s < 0 then (if wiS r 0 (μ.1 1 0 - 1) = 0 then 0 else -1) else wyS μ s
theorem wn_neg {μ : Me} {s r : Int32} : wnS μ s r < 0 ↔ lfM μ s r = 0 := by
  unfold wnS lfM
  by_cases q : lkM μ s = 0
  · rw [if_pos q, if_pos (wy_neg.mpr q)]
    by_cases q2 : wiS r 0 (μ.1 1 0 - 1) = 0
    · rw [if_pos q2, if_pos q2]; decide
    · rw [if_neg q2, if_neg q2]; decide
  · rw [if_neg q, if_neg (fun h => q (wy_neg.mp h))]
    exact ⟨fun h => absurd (wy_neg.mp h) q, fun h => absurd h q⟩
theorem wn_p {μ : Me} {s r : Int32} (h : ¬ lfM μ s r = 0) : wnS μ s r = nI (lfQ μ s) ∧ -1000001 - wnS μ s r = lfM μ s r := by
  unfold wnS lfM lfQ at *
  by_cases q : lkM μ s = 0
  · rw [if_pos q] at h ⊢
    rw [if_pos q, if_pos (wy_neg.mpr q)]
    by_cases q2 : wiS r 0 (μ.1 1 0 - 1) = 0
    · rw [if_pos q2, if_pos q2]; decide
    · rw [if_neg q2] at h; exact absurd rfl h
  · rw [if_neg q, if_neg q, if_neg (fun h => q (wy_neg.mp h))]; exact wy_p q
theorem lfQ_lt (μ : Me) (s : Int32) : lfQ μ s < 7 := by unfold lfQ; split; omega; exact lkP_lt s
theorem lfm_i {μ : Me} {s r : Int32} (h : lfM μ s r = 0) : lkM μ s = 0 ∧ ¬ wiS r 0 (μ.1 1 0 - 1) = 0 := by
  unfold lfM at h
  by_cases q : lkM μ s = 0
  · rw [if_pos q] at h
    refine ⟨q, fun q2 => ?_⟩
    rw [if_pos q2] at h; exact absurd h (by decide)
  · rw [if_neg q] at h; exact absurd h q
theorem asM_upd (μ : Me) (i : Nat) (v : Int32) : up (asM μ) 1 i v = ua (asM μ) 1 (upd (μ.1 1) i v) := by unfold up; rw [asM_1]
theorem sp_63 {d : Nat → Int32} {q i r : Nat} (hi : i < 10) (hr : r < 8) : ∀ j, 63 ≤ j → spD d q i r j = d j := by
  intro j hj
  unfold spD
  split
  · exact upd_n _ _ (by omega)
  · split
    · exact upd_n _ _ (by omega)
    · exact upd_n _ _ (by omega)
theorem ka_63 {d : Nat → Int32} {a : Int32} : ∀ j, 63 ≤ j → kaD d a j = d j := fun j hj => kaD_o (by omega)
theorem cn_0 {g : Nat → Int32} {i : Nat} (h : g i = 0) : cnL g (i + 1) = cnL g i + 0 := by rw [cnL, if_pos h]; simp
theorem kb_0 {g : Nat → Int32} {i : Nat} (h : g i = 0) : kbL g (i + 1) = kbL g i ||| 0 := by rw [kbL, if_pos h]; simp
