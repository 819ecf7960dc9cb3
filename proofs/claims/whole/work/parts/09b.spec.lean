/-! a Sunday over a home's cells -/
def us (x n : Int32) : Int32 := (x.toUInt32 >>> (n.toUInt32 &&& Int32.toUInt32 31)).toInt32
def bc1 (a : Int32) : Int32 := a - (us a 1 &&& 1431655765)
def bc2 (a : Int32) : Int32 := (a &&& 858993459) + (us a 2 &&& 858993459)
def bc3 (a : Int32) : Int32 := (a + us a 4) &&& 252645135
def bc4 (a : Int32) : Int32 := a + us a 8
def bc5 (a : Int32) : Int32 := a + us a 16
def bcS (a : Int32) : Int32 := bc5 (bc4 (bc3 (bc2 (bc1 a)))) &&& 63
def s6 (v : Int32) : Nat := (v - v / 6 * 6).toNatClampNeg
theorem s6_n {s : Nat} (h : s < 2 ^ 31) : nI s - nI s / 6 * 6 = nI (s % 6) := pk_rem (a := s) (d := 6) h (by omega) (by omega)
theorem s6_e {s : Nat} (h : s < 2 ^ 31) : s6 (nI s) = s % 6 := by unfold s6; rw [s6_n h, nI_clamp (by omega)]
def viS (μ : Me) (k n : Nat) : Int32 := (seL (fun r => μ.1 (k + 3 + 2 + r) 0) (μ.1 (k + 1) 0) (μ.1 (k + 2) (s6 (μ.1 k 4))) n).2
def shS (μ : Me) (k n : Nat) : Int32 := shL (fun r => μ.1 (k + 3 + 2 + r) 0) (fun r => μ.1 (k + 3 + 2 + r) 1) (fun r => μ.1 (k + 3 + 2 + r) 2) (viS μ k n) n
def hpS (μ : Me) (k n j : Nat) : Int32 := voL (fun r => μ.1 (k + 3 + 2 + r) 3) n (viS μ k n ||| shS μ k n) j
def deS (μ : Me) (k n j : Nat) : Me := up (up (up μ k 7 (viS μ k n)) k 8 (shS μ k n)) k 9 (hpS μ k n j)
def bvS (m : Me) (c : Nat) (g b : Int32) : Me := up (up (up m c 1 (clampS (m.1 c 1 + (gainsS (m.1 c 0) g + (if b = 0 then 0 else 1))))) c 3 0) c 4 (tallyS (m.1 c 4))
def bsS (m : Me) (c : Nat) (g : Int32) : Me := up (up m c 1 (clampS (m.1 c 1 + gainsS (m.1 c 0) g / 2))) c 3 (tallyS (m.1 c 3))
def bhS (m : Me) (c : Nat) : Me := up (up m c 1 (clampS (m.1 c 1 + 4))) c 3 0
def baS (m : Me) (c : Nat) (v : Int32) : Me := up (up m c 1 (clampS (m.1 c 1 + -losesS (m.1 c 0) (m.1 c 3) v))) c 3 (tallyS (m.1 c 3))
def suL (m : Me) (k : Nat) (g b c : Int32) : Nat → Me × Int32
  | 0 => (m, c)
  | i + 1 => if bitS (m.1 k 7) (nI i) = 1 then (bvS (suL m k g b c i).1 (k + 3 + 2 + i) g (if 0 < (suL m k g b c i).2 then 1 else 0), (suL m k g b c i).2 + (-1))
    else if bitS (m.1 k 8) (nI i) = 1 then (bsS (suL m k g b c i).1 (k + 3 + 2 + i) g, (suL m k g b c i).2)
    else if bitS (m.1 k 9) (nI i) = 1 then (bhS (suL m k g b c i).1 (k + 3 + 2 + i), (suL m k g b c i).2)
    else (baS (suL m k g b c i).1 (k + 3 + 2 + i) b, (suL m k g b c i).2)
theorem suL_k (m : Me) (k : Nat) (g b c : Int32) : ∀ i, (suL m k g b c i).1.1 k = m.1 k
  | 0 => rfl
  | i + 1 => by
    have ih := suL_k m k g b c i
    have e : k ≠ k + 3 + 2 + i := by omega
    simp only [suL]
    split
    · simp only [bvS, up_n _ _ _ e]; exact ih
    · split
      · simp only [bsS, up_n _ _ _ e]; exact ih
      · split
        · simp only [bhS, up_n _ _ _ e]; exact ih
        · simp only [baS, up_n _ _ _ e]; exact ih
theorem suL_v {m : Me} {k : Nat} {g b c : Int32} {i : Nat} (h : bitS (m.1 k 7) (nI i) = 1) : suL m k g b c (i + 1) = (bvS (suL m k g b c i).1 (k + 3 + 2 + i) g (if 0 < (suL m k g b c i).2 then 1 else 0), (suL m k g b c i).2 + (-1)) := if_pos h
theorem suL_s {m : Me} {k : Nat} {g b c : Int32} {i : Nat} (h : ¬ bitS (m.1 k 7) (nI i) = 1) (h2 : bitS (m.1 k 8) (nI i) = 1) : suL m k g b c (i + 1) = (bsS (suL m k g b c i).1 (k + 3 + 2 + i) g, (suL m k g b c i).2) := (if_neg h).trans (if_pos h2)
theorem suL_h {m : Me} {k : Nat} {g b c : Int32} {i : Nat} (h : ¬ bitS (m.1 k 7) (nI i) = 1) (h2 : ¬ bitS (m.1 k 8) (nI i) = 1) (h3 : bitS (m.1 k 9) (nI i) = 1) : suL m k g b c (i + 1) = (bhS (suL m k g b c i).1 (k + 3 + 2 + i), (suL m k g b c i).2) := (if_neg h).trans ((if_neg h2).trans (if_pos h3))
theorem suL_a {m : Me} {k : Nat} {g b c : Int32} {i : Nat} (h : ¬ bitS (m.1 k 7) (nI i) = 1) (h2 : ¬ bitS (m.1 k 8) (nI i) = 1) (h3 : ¬ bitS (m.1 k 9) (nI i) = 1) : suL m k g b c (i + 1) = (baS (suL m k g b c i).1 (k + 3 + 2 + i) b, (suL m k g b c i).2) := (if_neg h).trans ((if_neg h2).trans (if_neg h3))
def suT (v : Int32) : Int32 := if v + 1 < 99999 then v + 1 else 99999
/-- all of a Sunday -/
def psS (μ : Me) (k n j : Nat) : Me := up (suL (deS μ k n j) k ((deS μ k n j).1 (k + 1) 3) (bcS ((deS μ k n j).1 k 7)) ((deS μ k n j).1 (k + 1) 1) n).1 k 4 (suT (μ.1 k 4))
def pnS (k n j : Nat) : Nat → Me → Me
  | 0, μ => μ
  | t + 1, μ => psS (pnS k n j t μ) k n j
/-- what a Sunday needs to be so -/
def IvH (μ : Me) (k n j : Nat) : Prop := n ≤ 8 ∧ μ.1 k 3 = nI n ∧ (∃ s, s ≤ 99999 ∧ μ.1 k 4 = nI s) ∧ j ≤ 8 ∧ μ.1 (k + 1) 2 = nI j
theorem up_res (μ : Me) (k i : Nat) (v : Int32) (r : Nat) : (up μ k i v).1 (k + 3 + 2 + r) = μ.1 (k + 3 + 2 + r) := up_n _ _ _ (by omega)
theorem up_k1 (μ : Me) (k i : Nat) (v : Int32) : (up μ k i v).1 (k + 1) = μ.1 (k + 1) := up_n _ _ _ (by omega)
theorem up_k2 (μ : Me) (k i : Nat) (v : Int32) : (up μ k i v).1 (k + 2) = μ.1 (k + 2) := up_n _ _ _ (by omega)
theorem up_k4 (μ : Me) (k i : Nat) (v : Int32) : (up μ k i v).1 (k + 4) = μ.1 (k + 4) := up_n _ _ _ (by omega)
theorem suL_o (m : Me) (k : Nat) (g b c : Int32) {a : Nat} (ha : a < k + 3 + 2) : ∀ i, (suL m k g b c i).1.1 a = m.1 a
  | 0 => rfl
  | i + 1 => by
    have ih := suL_o m k g b c ha i
    have e : a ≠ k + 3 + 2 + i := by omega
    simp only [suL]
    split
    · simp only [bvS, up_n _ _ _ e]; exact ih
    · split
      · simp only [bsS, up_n _ _ _ e]; exact ih
      · split
        · simp only [bhS, up_n _ _ _ e]; exact ih
        · simp only [baS, up_n _ _ _ e]; exact ih
theorem suT_n {s : Nat} (h : s ≤ 99999) : suT (nI s) = nI (if s + 1 < 99999 then s + 1 else 99999) := by
  unfold suT
  rw [nI_1]
  have e := lt_n (a := s + 1) (b := 99999) (by omega) (by omega)
  by_cases q : s + 1 < 99999
  · rw [if_pos q]; exact if_pos (e.mpr q)
  · rw [if_neg q]; exact if_neg (fun z => q (e.mp z))
theorem IvH_ps {μ : Me} {k n j : Nat} (h : IvH μ k n j) : IvH (psS μ k n j) k n j := by
  obtain ⟨h1, h2, ⟨s, hs, h3⟩, h4, h5⟩ := h
  refine ⟨h1, ?_, ⟨(if s + 1 < 99999 then s + 1 else 99999), ?_, ?_⟩, h4, ?_⟩
  · unfold psS
    rw [up_i _ _ _ (by decide), suL_k]
    simp only [deS]
    rw [up_i _ _ _ (by decide), up_i _ _ _ (by decide), up_i _ _ _ (by decide)]
    exact h2
  · split <;> omega
  · unfold psS
    rw [up_s, h3, suT_n hs]
  · unfold psS
    rw [up_k1, suL_o _ _ _ _ _ (by omega)]
    simp only [deS, up_k1]
    exact h5
theorem IvH_pn {μ : Me} {k n j : Nat} (h : IvH μ k n j) : ∀ t, IvH (pnS k n j t μ) k n j
  | 0 => h
  | t + 1 => IvH_ps (IvH_pn h t)
/-- a home taken over -/
def tk5 (m : Me) (c e : Nat) : Me := up (up (up (up (up m c 0 (m.1 e 0)) c 1 (m.1 e 1)) c 2 (m.1 e 2)) c 3 (m.1 e 3)) c 4 (m.1 e 4)
def tkL (m : Me) (k k2 : Nat) : Nat → Me
  | 0 => m
  | i + 1 => tk5 (tkL m k k2 i) (k + 3 + 2 + i) (k2 + 3 + 2 + i)
def tk0 (μ : Me) (k k2 : Nat) : Me := up (ua (ua (ua μ (k + 1) (va_cpy (μ.1 (k2 + 1)) (μ.1 (k + 1)) 0 0 4)) (k + 2) (va_cpy (μ.1 (k2 + 2)) (μ.1 (k + 2)) 0 0 6)) (k + 4) (va_cpy (μ.1 (k2 + 4)) (μ.1 (k + 4)) 0 0 10)) k 3 (μ.1 k2 3)
def tkS (μ : Me) (k k2 n : Nat) : Me := up (up (tkL (tk0 μ k k2) k k2 n) k 4 (μ.1 k2 4)) k 5 (μ.1 k2 5)
def Ap (k k2 : Nat) : Prop := k + 13 ≤ k2 ∨ k2 + 13 ≤ k
theorem tkL_o (m : Me) (k k2 : Nat) {a : Nat} : ∀ i, (a < k + 3 + 2 ∨ k + 3 + 2 + i ≤ a) → (tkL m k k2 i).1 a = m.1 a
  | 0, _ => rfl
  | i + 1, h => by
    have e : a ≠ k + 3 + 2 + i := by omega
    simp only [tkL, tk5, up_n _ _ _ e]
    exact tkL_o m k k2 i (by omega)
theorem tk0_o {μ : Me} {k k2 a : Nat} (h1 : a ≠ k) (h2 : a ≠ k + 1) (h3 : a ≠ k + 2) (h4 : a ≠ k + 4) : (tk0 μ k k2).1 a = μ.1 a := by
  unfold tk0
  rw [up_n _ _ _ h1, ua_n _ _ h4, ua_n _ _ h3, ua_n _ _ h2]
