/-! a home as a row of numbers, and how a Sunday changes it -/
theorem or_n (a b : Nat) : nI a ||| nI b = nI (a ||| b) := by
  unfold nI
  apply Int32.toBitVec_inj.mp
  simp [Int32.toBitVec_or, Int32.toBitVec_ofNat', BitVec.ofNat_or]
theorem bitN_n : ∀ i, i < 8 → bitN i = nI (2 ^ i) := by decide +kernel
abbrev cl (a : Int32) : Nat := a.toNatClampNeg
theorem cl_n {n : Nat} (h : n < 2 ^ 31) : cl (nI n) = n := nI_clamp h
abbrev dn (d : Nat → Int32) : Nat := cl (d 0)
def V_ (d : Nat → Int32) : Int32 := (seL (fun r => d (13 + r)) (d 3) (d (7 + s6 (d 1))) (dn d)).2
def S_ (d : Nat → Int32) : Int32 := shL (fun r => d (13 + r)) (fun r => d (21 + r)) (fun r => d (29 + r)) (V_ d) (dn d)
def P_ (d : Nat → Int32) : Int32 := voL (fun r => d (37 + r)) (dn d) (V_ d ||| S_ d) (cl (d 5))
def onL (s : Int32) : Nat → Int32
  | 0 => 0
  | i + 1 => onL s i + bitS s (nI i)
def ddV (D : Nat → Int32) (i : Nat) (g : Int32) (c : Nat) : Nat → Int32 := upd (upd (upd D (21 + i) (clampS (D (21 + i) + (gainsS (D (13 + i)) g + (if 0 < c then 1 else 0))))) (37 + i) 0) (45 + i) (tallyS (D (45 + i)))
def ddS (D : Nat → Int32) (i : Nat) (g : Int32) : Nat → Int32 := upd (upd D (21 + i) (clampS (D (21 + i) + gainsS (D (13 + i)) g / 2))) (37 + i) (tallyS (D (37 + i)))
def ddH (D : Nat → Int32) (i : Nat) : Nat → Int32 := upd (upd D (21 + i) (clampS (D (21 + i) + 4))) (37 + i) 0
def ddA (D : Nat → Int32) (i : Nat) (b : Int32) : Nat → Int32 := upd (upd D (21 + i) (clampS (D (21 + i) + -losesS (D (13 + i)) (D (37 + i)) b))) (37 + i) (tallyS (D (37 + i)))
def suD (d : Nat → Int32) (v s p g b : Int32) (c : Nat) : Nat → (Nat → Int32) × Nat
  | 0 => (d, c)
  | i + 1 => if bitS v (nI i) = 1 then (ddV (suD d v s p g b c i).1 i g (suD d v s p g b c i).2, (suD d v s p g b c i).2 - 1)
    else if bitS s (nI i) = 1 then (ddS (suD d v s p g b c i).1 i g, (suD d v s p g b c i).2)
    else if bitS p (nI i) = 1 then (ddH (suD d v s p g b c i).1 i, (suD d v s p g b c i).2)
    else (ddA (suD d v s p g b c i).1 i b, (suD d v s p g b c i).2)
def suM (d : Nat → Int32) : Nat → Int32 := upd (suD d (V_ d) (S_ d) (P_ d) (d 6) (onL (V_ d) 8) (cl (d 4)) (dn d)).1 1 (suT (d 1))
def suN : Nat → (Nat → Int32) → (Nat → Int32)
  | 0, d => d
  | t + 1, d => suM (suN t d)
/-- a number below or at a bound -/
def Le (x : Int32) (m : Nat) : Prop := ∃ k, k ≤ m ∧ x = nI k
def IvR (d : Nat → Int32) (n r : Nat) : Prop := Le (d (13 + r)) 6 ∧ Le (d (21 + r)) 99 ∧ (d (29 + r) = -1 ∨ ∃ f, f < n ∧ d (29 + r) = nI f) ∧ Le (d (37 + r)) 9999 ∧ Le (d (45 + r)) 9999
def IvD (d : Nat → Int32) : Prop := Le (d 0) 8 ∧ Le (d 1) 99999 ∧ Le (d 3) 20 ∧ Le (d 4) 20 ∧ Le (d 5) 8 ∧ (∃ g, 1 ≤ g ∧ g ≤ 12 ∧ d 6 = nI g) ∧ (∀ i, i < 6 → Le (d (7 + i)) 255) ∧ (∀ r, r < dn d → IvR d (dn d) r) ∧ ∀ i, i < 10 → Le (d (53 + i)) (dn d)
theorem Le.cl {x : Int32} {m : Nat} (hm : m < 2 ^ 31) (h : Le x m) : cl x ≤ m ∧ x = nI (cl x) := by
  obtain ⟨k, hk, e⟩ := h
  subst e
  rw [cl_n (by omega)]
  exact ⟨hk, rfl⟩
def LhR (μ : Me) (k : Nat) (d : Nat → Int32) (r : Nat) : Prop := μ.1 (k + 3 + 2 + r) 0 = d (13 + r) ∧ μ.1 (k + 3 + 2 + r) 1 = d (21 + r) ∧ μ.1 (k + 3 + 2 + r) 2 = d (29 + r) ∧ μ.1 (k + 3 + 2 + r) 3 = d (37 + r) ∧ μ.1 (k + 3 + 2 + r) 4 = d (45 + r)
def LH (μ : Me) (k : Nat) (d : Nat → Int32) : Prop := μ.1 k 3 = d 0 ∧ μ.1 k 4 = d 1 ∧ μ.1 k 5 = d 2 ∧ (∀ i, i < 4 → μ.1 (k + 1) i = d (3 + i)) ∧ (∀ i, i < 6 → μ.1 (k + 2) i = d (7 + i)) ∧ (∀ i, i < 10 → μ.1 (k + 4) i + 1 = d (53 + i)) ∧ ∀ r, r < dn d → LhR μ k d r
theorem LH.same {μ u : Me} {k : Nat} {d : Nat → Int32} (h : LH μ k d) (e : ∀ a, k ≤ a → a < k + 13 → u.1 a = μ.1 a) (hd : dn d ≤ 8) : LH u k d := by
  obtain ⟨h1, h2, h3, h4, h5, h6, h7⟩ := h
  refine ⟨?_, ?_, ?_, fun i hi => ?_, fun i hi => ?_, fun i hi => ?_, fun r hr => ?_⟩
  · rw [e k (by omega) (by omega)]; exact h1
  · rw [e k (by omega) (by omega)]; exact h2
  · rw [e k (by omega) (by omega)]; exact h3
  · rw [e _ (by omega) (by omega)]; exact h4 i hi
  · rw [e _ (by omega) (by omega)]; exact h5 i hi
  · rw [e _ (by omega) (by omega)]; exact h6 i hi
  · have := h7 r hr
    unfold LhR at this ⊢
    rw [e _ (by omega) (by omega)]; exact this
theorem IvD.n {d : Nat → Int32} (h : IvD d) : dn d ≤ 8 ∧ d 0 = nI (dn d) := h.1.cl (by omega)
theorem LH.iv {μ : Me} {k : Nat} {d : Nat → Int32} (h : LH μ k d) (hI : IvD d) : IvH μ k (dn d) (cl (d 5)) := by
  obtain ⟨h1, h2, h3, h4, h5, h6, h7⟩ := h
  refine ⟨hI.n.1, h1.trans hI.n.2, ?_, (hI.2.2.2.2.1.cl (by omega)).1, (h4 2 (by omega)).trans (hI.2.2.2.2.1.cl (by omega)).2⟩
  obtain ⟨s, hs, e⟩ := hI.2.1
  exact ⟨s, hs, h2.trans e⟩
theorem seL_congr {f g : Nat → Int32} {c v : Int32} : ∀ {n : Nat}, (∀ r, r < n → f r = g r) → seL f c v n = seL g c v n
  | 0, _ => rfl
  | n + 1, h => by simp only [seL]; rw [seL_congr (fun r hr => h r (by omega)), h n (by omega)]
theorem shL_congr {f g f2 g2 f3 g3 : Nat → Int32} {v : Int32} : ∀ {n : Nat}, (∀ r, r < n → f r = g r) → (∀ r, r < n → f2 r = g2 r) → (∀ r, r < n → f3 r = g3 r) → shL f f2 f3 v n = shL g g2 g3 v n
  | 0, _, _, _ => rfl
  | n + 1, h, h2, h3 => by simp only [shL]; rw [shL_congr (fun r hr => h r (by omega)) (fun r hr => h2 r (by omega)) (fun r hr => h3 r (by omega)), h n (by omega), h2 n (by omega), h3 n (by omega)]
theorem lwL_congr {f g : Nat → Int32} {s : Int32} : ∀ {n : Nat}, (∀ r, r < n → f r = g r) → lwL f s n = lwL g s n
  | 0, _ => rfl
  | n + 1, h => by simp only [lwL]; rw [lwL_congr (fun r hr => h r (by omega)), h n (by omega)]
theorem voL_congr {f g : Nat → Int32} {s : Int32} {n : Nat} (h : ∀ r, r < n → f r = g r) : ∀ j, voL f n s j = voL g n s j
  | 0 => rfl
  | j + 1 => by simp only [voL]; rw [voL_congr h j, lwL_congr h]
theorem smL_congr {f g : Nat → Int32} : ∀ {n : Nat}, (∀ r, r < n → f r = g r) → smL f n = smL g n
  | 0, _ => rfl
  | n + 1, h => by simp only [smL]; rw [smL_congr (fun r hr => h r (by omega)), h n (by omega)]
theorem loL_congr {f g : Nat → Int32} : ∀ {n : Nat}, (∀ r, r < n → f r = g r) → loL f n = loL g n
  | 0, _ => rfl
  | n + 1, h => by simp only [loL]; rw [loL_congr (fun r hr => h r (by omega)), h n (by omega)]
theorem weL_congr {f g : Nat → Int32} : ∀ {n : Nat}, (∀ r, r < n → f r = g r) → weL f n = weL g n
  | 0, _ => rfl
  | n + 1, h => by simp only [weL]; rw [weL_congr (fun r hr => h r (by omega)), h n (by omega)]
theorem LH.v {μ : Me} {k : Nat} {d : Nat → Int32} (h : LH μ k d) (hI : IvD d) : viS μ k (dn d) = V_ d := by
  obtain ⟨h1, h2, h3, h4, h5, h6, h7⟩ := h
  unfold viS V_
  have e : s6 (d 1) < 6 := by
    obtain ⟨s, hs, e⟩ := hI.2.1
    rw [e, s6_e (by omega)]; omega
  rw [h2, h5 _ e, h4 0 (by omega), seL_congr (fun r hr => (h7 r hr).1)]
theorem LH.s {μ : Me} {k : Nat} {d : Nat → Int32} (h : LH μ k d) (hI : IvD d) : shS μ k (dn d) = S_ d := by
  unfold shS S_
  rw [h.v hI]
  exact shL_congr (fun r hr => (h.2.2.2.2.2.2 r hr).1) (fun r hr => (h.2.2.2.2.2.2 r hr).2.1) (fun r hr => (h.2.2.2.2.2.2 r hr).2.2.1)
theorem LH.p {μ : Me} {k : Nat} {d : Nat → Int32} (h : LH μ k d) (hI : IvD d) : hpS μ k (dn d) (cl (d 5)) = P_ d := by
  unfold hpS P_
  rw [h.v hI, h.s hI]
  exact voL_congr (fun r hr => (h.2.2.2.2.2.2 r hr).2.2.2.1) _
theorem seL_lt {f : Nat → Int32} {c v : Int32} : ∀ {n : Nat}, n ≤ 8 → ∃ b, b < 2 ^ n ∧ (seL f c v n).2 = nI b
  | 0, _ => ⟨0, by decide, rfl⟩
  | n + 1, h => by
    obtain ⟨b, hb, e⟩ := seL_lt (f := f) (c := c) (v := v) (n := n) (by omega)
    have h2 : 2 ^ n < 2 ^ (n + 1) := Nat.pow_lt_pow_right (by decide) (by omega)
    simp only [seL]
    split
    · refine ⟨b ||| 2 ^ n, Nat.or_lt_two_pow (by omega) h2, ?_⟩
      show (seL f c v n).2 ||| bitN n = _
      rw [e, bitN_n n (by omega), or_n]
    · exact ⟨b, by omega, e⟩
theorem V_lt {d : Nat → Int32} (hI : IvD d) : ∃ b, b < 256 ∧ V_ d = nI b := by
  obtain ⟨b, hb, e⟩ := seL_lt (f := fun r => d (13 + r)) (c := d 3) (v := d (7 + s6 (d 1))) (n := dn d) hI.n.1
  have : 2 ^ dn d ≤ 2 ^ 8 := Nat.pow_le_pow_right (by decide) hI.n.1
  exact ⟨b, by omega, e⟩
theorem bc_on0 : (List.range 256).all (fun v => decide (bcS (nI v) = onL (nI v) 8)) = true := by decide +kernel
theorem bc_on {v : Nat} (h : v < 256) : bcS (nI v) = onL (nI v) 8 := by
  have := List.all_eq_true.mp bc_on0 v (List.mem_range.mpr h)
  exact of_decide_eq_true this
theorem suD_o (d : Nat → Int32) (v s p g b : Int32) (c : Nat) {a : Nat} : ∀ i, i ≤ 8 → (a < 21 ∨ 53 ≤ a ∨ (29 ≤ a ∧ a < 37) ∨ (∃ r, i ≤ r ∧ r < 8 ∧ (a = 21 + r ∨ a = 37 + r ∨ a = 45 + r))) → (suD d v s p g b c i).1 a = d a
  | 0, _, _ => rfl
  | i + 1, hi, h => by
    have ih := suD_o d v s p g b c (a := a) i (by omega) (by
      rcases h with h | h | h | ⟨r, h1, h2, h3⟩
      · exact Or.inl h
      · exact Or.inr (Or.inl h)
      · exact Or.inr (Or.inr (Or.inl h))
      · exact Or.inr (Or.inr (Or.inr ⟨r, by omega, h2, h3⟩)))
    have n1 : a ≠ 21 + i := by rcases h with h | h | h | ⟨r, h1, h2, h3⟩ <;> omega
    have n2 : a ≠ 37 + i := by rcases h with h | h | h | ⟨r, h1, h2, h3⟩ <;> omega
    have n3 : a ≠ 45 + i := by rcases h with h | h | h | ⟨r, h1, h2, h3⟩ <;> omega
    simp only [suD]
    split
    · simp only [ddV, upd, if_neg n1, if_neg n2, if_neg n3]; exact ih
    · split
      · simp only [ddS, upd, if_neg n1, if_neg n2]; exact ih
      · split
        · simp only [ddH, upd, if_neg n1, if_neg n2]; exact ih
        · simp only [ddA, upd, if_neg n1, if_neg n2]; exact ih
