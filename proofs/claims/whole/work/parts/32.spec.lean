/-! the model's Sunday -/
theorem upd_rot {D : Nat → Int32} {a b c : Nat} {x y z : Int32} (h13 : a ≠ c) (h23 : b ≠ c) : upd (upd (upd D c z) a x) b y = upd (upd (upd D a x) b y) c z := by
  funext j
  simp only [upd]
  by_cases h1 : j = c
  · subst h1
    rw [if_neg (Ne.symm h23), if_neg (Ne.symm h13), if_pos rfl, if_pos rfl]
  · rw [if_neg h1, if_neg h1]
theorem mdV {μ : Me} {D : Nat → Int32} {i c : Nat} {g e t : Int32} (h : Le (D (45 + i)) 9999) (he : e = if 0 < c then 1 else 0) :
    up (up (up (ua μ 1 D) 1 (45 + i) (hdS (D (45 + i) + 1) 0 9999)) 1 (21 + i) (hdS (D (21 + i) + (gainsS (D (13 + i)) g + e)) 0 99)) 1 (37 + i) 0 = ua μ 1 (ddV D i g c) := by
  subst he
  simp only [up_ua]
  rw [hd_tally h, hd_clamp, upd_rot (by omega) (by omega)]
  rfl
theorem mdS {μ : Me} {D : Nat → Int32} {i : Nat} {g : Int32} (h : Le (D (37 + i)) 9999) : up (up (ua μ 1 D) 1 (21 + i) (hdS (D (21 + i) + gainsS (D (13 + i)) g / 2) 0 99)) 1 (37 + i) (hdS (D (37 + i) + 1) 0 9999) = ua μ 1 (ddS D i g) := by
  simp only [up_ua]
  rw [hd_tally h, hd_clamp]
  rfl
theorem mdH {μ : Me} {D : Nat → Int32} {i : Nat} : up (up (ua μ 1 D) 1 (21 + i) (hdS (D (21 + i) + 4) 0 99)) 1 (37 + i) 0 = ua μ 1 (ddH D i) := by
  simp only [up_ua]
  rw [hd_clamp]
  rfl
theorem mdA {μ : Me} {D : Nat → Int32} {i : Nat} {b : Int32} (h : Le (D (37 + i)) 9999) : up (up (ua μ 1 D) 1 (21 + i) (hdS (D (21 + i) + -losesS (D (13 + i)) (D (37 + i)) b) 0 99)) 1 (37 + i) (hdS (D (37 + i) + 1) 0 9999) = ua μ 1 (ddA D i b) := by
  simp only [up_ua]
  rw [hd_tally h, hd_clamp]
  rfl
theorem suD_v {d : Nat → Int32} {v s p g b : Int32} {c i : Nat} (h : bitS v (nI i) = 1) : suD d v s p g b c (i + 1) = (ddV (suD d v s p g b c i).1 i g (suD d v s p g b c i).2, (suD d v s p g b c i).2 - 1) := if_pos h
theorem suD_s {d : Nat → Int32} {v s p g b : Int32} {c i : Nat} (h : ¬ bitS v (nI i) = 1) (h2 : bitS s (nI i) = 1) : suD d v s p g b c (i + 1) = (ddS (suD d v s p g b c i).1 i g, (suD d v s p g b c i).2) := (if_neg h).trans (if_pos h2)
theorem suD_h {d : Nat → Int32} {v s p g b : Int32} {c i : Nat} (h : ¬ bitS v (nI i) = 1) (h2 : ¬ bitS s (nI i) = 1) (h3 : bitS p (nI i) = 1) : suD d v s p g b c (i + 1) = (ddH (suD d v s p g b c i).1 i, (suD d v s p g b c i).2) := (if_neg h).trans ((if_neg h2).trans (if_pos h3))
theorem suD_a {d : Nat → Int32} {v s p g b : Int32} {c i : Nat} (h : ¬ bitS v (nI i) = 1) (h2 : ¬ bitS s (nI i) = 1) (h3 : ¬ bitS p (nI i) = 1) : suD d v s p g b c (i + 1) = (ddA (suD d v s p g b c i).1 i b, (suD d v s p g b c i).2) := (if_neg h).trans ((if_neg h2).trans (if_neg h3))
theorem suD_c {d : Nat → Int32} {v s p g b : Int32} {c : Nat} : ∀ i, (suD d v s p g b c i).2 ≤ c
  | 0 => Nat.le_refl _
  | i + 1 => by
    have ih := suD_c (d := d) (v := v) (s := s) (p := p) (g := g) (b := b) (c := c) i
    simp only [suD]
    split
    · exact Nat.le_trans (Nat.sub_le _ _) ih
    · split
      · exact ih
      · split
        · exact ih
        · exact ih
