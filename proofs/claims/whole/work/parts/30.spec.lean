/-! the model: its own small words -/
def inS (v a b : Int64) : Int32 := if a ≤ v ∧ v ≤ b then 1 else 0
theorem in_w {v a b : Int32} {y z : Int64} (hy : y = a.toInt64) (hz : z = b.toInt64) : inS v.toInt64 y z = wiS v a b := by
  subst hy; subst hz
  unfold inS wiS
  simp [Int64.le_iff_toInt_le, Int32.le_iff_toInt_le]
def hdS (v a b : Int32) : Int32 := if v < a then a else if b < v then b else v
def fnS (μ : Me) (p : Nat) : Me := up μ 5 p (μ.1 5 p + 1)
theorem ix_n (f i : Nat) : 13 + 8 * nI f + nI i = nI (13 + 8 * f + i) := by
  show nI 13 + nI 8 * nI f + nI i = _
  rw [pk_mul, nI_add, nI_add]
theorem ad_n (c i : Nat) {x : Int32} (hx : x = nI c) : x + nI i = nI (c + i) := by rw [hx, nI_add]
theorem hd_clamp (v : Int32) : hdS v 0 99 = clampS v := by
  unfold hdS clampS
  by_cases h1 : v < 0
  · rw [if_pos h1, if_pos (Int32.lt_trans h1 (by decide)), if_neg (Int32.not_lt.mpr (Int32.le_of_lt h1))]
  · rw [if_neg h1]
    by_cases h2 : 99 < v
    · rw [if_pos h2, if_neg (Int32.not_lt.mpr (Int32.le_of_lt h2)), if_pos (by decide)]
    · rw [if_neg h2]
      by_cases h3 : v < 99
      · rw [if_pos h3]
        by_cases h4 : 0 < v
        · rw [if_pos h4]
        · rw [if_neg h4]; exact Int32.le_antisymm (Int32.not_lt.mp h4) (Int32.not_lt.mp h1)
      · rw [if_neg h3, if_pos (by decide)]; exact Int32.le_antisymm (Int32.not_lt.mp h2) (Int32.not_lt.mp h3)
theorem hd_n {k m : Nat} (hk : k < 2 ^ 31) (hm : m < 2 ^ 31) : hdS (nI k) 0 (nI m) = if nI k < nI m then nI k else nI m := by
  unfold hdS
  rw [if_neg (nI_pos hk)]
  by_cases h : m < k
  · rw [if_pos (nI_lt h hk), if_neg (nI_nlt (by omega) hk)]
  · rw [if_neg (nI_nlt (by omega) hm)]
    by_cases h2 : k < m
    · rw [if_pos (nI_lt h2 hm)]
    · have : k = m := by omega
      subst this
      rw [if_neg (nI_nlt (Nat.le_refl _) hk)]
theorem hd_tally {t : Int32} (h : Le t 9999) : hdS (t + 1) 0 9999 = tallyS t := by
  obtain ⟨k, hk, e⟩ := h
  subst e
  unfold tallyS
  rw [nI_1]
  exact hd_n (k := k + 1) (m := 9999) (by omega) (by omega)
theorem hd_suT {t : Int32} (h : Le t 99999) : hdS (t + 1) 0 99999 = suT t := by
  obtain ⟨k, hk, e⟩ := h
  subst e
  unfold suT
  rw [nI_1]
  exact hd_n (k := k + 1) (m := 99999) (by omega) (by omega)
theorem hd_plain {t : Int32} (h : ∃ g, 1 ≤ g ∧ g ≤ 12 ∧ t = nI g) : hdS (2 * t) 0 12 = plainS t := by
  obtain ⟨g, h1, h2, e⟩ := h
  subst e
  have : g = 1 ∨ g = 2 ∨ g = 3 ∨ g = 4 ∨ g = 5 ∨ g = 6 ∨ g = 7 ∨ g = 8 ∨ g = 9 ∨ g = 10 ∨ g = 11 ∨ g = 12 := by omega
  rcases this with rfl | rfl | rfl | rfl | rfl | rfl | rfl | rfl | rfl | rfl | rfl | rfl <;> decide
theorem bit01 (s : Int32) (n : Int32) : bitS s n = 0 ∨ bitS s n = 1 := by
  unfold bitS
  obtain ⟨j, hj, e⟩ := pk_andE (s >>> (n &&& 31)) (m := 1) 1 (by decide)
  rw [e]
  have : j = 0 ∨ j = 1 := by omega
  rcases this with rfl | rfl
  · exact Or.inl rfl
  · exact Or.inr rfl
theorem bit_n0 {s n : Int32} (h : ¬ bitS s n = 0) : bitS s n = 1 := (bit01 s n).resolve_left h
theorem bit_n1 {s n : Int32} (h : ¬ bitS s n = 1) : bitS s n = 0 := (bit01 s n).resolve_right h
theorem bit_0n {s n : Int32} (h : bitS s n = 0) : ¬ bitS s n = 1 := by rw [h]; decide
theorem is_y {s n : Int32} (h1 : ¬ n < 0) (h2 : bitS s n = 1) : ¬ isS s n = 0 := fun h => isS_0.mp h ⟨Int32.not_lt.mp h1, h2⟩
theorem is_nn {s n : Int32} (h1 : n < 0) : isS s n = 0 := isS_0.mpr (fun h => Int32.not_le.mpr h1 h.1)
theorem is_nb {s n : Int32} (h1 : ¬ bitS s n = 1) : isS s n = 0 := isS_0.mpr (fun h => h1 h.2)
theorem lwL_inv {f : Nat → Int32} {s : Int32} : ∀ i, (lwL f s i = (-1, -1)) ∨ ∃ b, b < i ∧ lwL f s i = (nI b, f b)
  | 0 => Or.inl rfl
  | i + 1 => by
    simp only [lwL]
    split
    · exact Or.inr ⟨i, by omega, rfl⟩
    · rcases lwL_inv (f := f) (s := s) i with h | ⟨b, h1, h2⟩
      · exact Or.inl h
      · exact Or.inr ⟨b, by omega, h2⟩
theorem or_0 (x : Int32) : x ||| 0 = x := by simp
theorem ldF_in {f g : Nat → Int32} {n j : Nat} (h : j < n) : ldF f g n j = f j := if_pos h
theorem ldF_out {f g : Nat → Int32} {n j : Nat} (h : n ≤ j) : ldF f g n j = g j := if_neg (by omega)
def asM (μ : Me) : Me := ua μ 3 (ldF (μ.1 1) (μ.1 3) 63)
theorem lw_neg {f : Nat → Int32} {s : Int32} {n : Nat} (hn : n ≤ 8) (hw : ∀ r, r < n → Le (f r) 9999) (i : Nat) (hi : i < n) (h : (lwL f s i).1 < 0) : (lwL f s i).2 < f i := by
  rcases lwL_inv (f := f) (s := s) i with e | ⟨b, h1, e⟩
  · rw [e]
    obtain ⟨k, hk, e2⟩ := hw i hi
    rw [e2]
    exact Int32.lt_of_lt_of_le (show (-1 : Int32) < 0 by decide) (nI_pos' (by omega))
  · rw [e] at h
    exact absurd h (nI_pos (by omega))
theorem lw_pos {f : Nat → Int32} {s : Int32} {i : Nat} (h : ¬ (lwL f s i).1 < 0) : ∃ b, b < i ∧ (lwL f s i).1 = nI b ∧ (lwL f s i).2 = f b := by
  rcases lwL_inv (f := f) (s := s) i with e | ⟨b, h1, e⟩
  · rw [e] at h; exact absurd (show (-1 : Int32) < 0 by decide) h
  · exact ⟨b, h1, by rw [e], by rw [e]⟩
theorem lw_m1 {f : Nat → Int32} {s : Int32} {i : Nat} (hi : i < 2 ^ 31) : (lwL f s i).1 < 0 ↔ (lwL f s i).1 = -1 := by
  rcases lwL_inv (f := f) (s := s) i with e | ⟨b, h1, e⟩
  · rw [e]; decide
  · rw [e]
    exact ⟨fun h => absurd h (nI_pos (by omega)), fun h => absurd h (nI_ne_m1 (by omega))⟩
