/-! draws, odds -/
def rmS (a b : Int32) : Int32 := a - a / b * b
def cm4 (μ : Me) : Me := up (up (up (up μ 1 5 (zS (μ.1 1 5))) 3 (s6 (μ.1 1 4)) (rmS (drS (zS (μ.1 1 5))) 256)) 1 5 (zS (zS (μ.1 1 5)))) 2 3 (1 + rmS (drS (zS (zS (μ.1 1 5)))) 12)
def cmI (n j : Nat) : Nat → Me → Me
  | 0, μ => μ
  | i + 1, μ => psS (cm4 (cmI n j i μ)) 1 n j
def cdD (d : Nat → Int32) : Nat → Int32 := upd (upd (upd d (7 + s6 (d 1)) (rmS (drS (zS (d 2))) 256)) 2 (zS (zS (d 2)))) 6 (1 + rmS (drS (zS (zS (d 2)))) 12)
def cmD : Nat → (Nat → Int32) → (Nat → Int32)
  | 0, d => d
  | i + 1, d => suM (cdD (cmD i d))
theorem dr_n (z : Int32) : ∃ q, q < 2 ^ 24 ∧ drS z = nI q := by
  refine ⟨z.toBitVec.toNat / 2 ^ 8, ?_, ?_⟩
  · have := z.toBitVec.isLt
    omega
  · apply Int32.toBitVec_inj.mp
    apply BitVec.eq_of_toNat_eq
    have e := pk_ushr z 8 8 (by decide)
    unfold drS
    rw [e, pk_tn (by have := z.toBitVec.isLt; omega)]
theorem dr_256 (z : Int32) : Le (rmS (drS z) 256) 255 := by
  obtain ⟨q, hq, e⟩ := dr_n z
  rw [e]
  exact ⟨q % 256, by omega, pk_rem (a := q) (d := 256) (by omega) (by omega) (by omega)⟩
theorem dr_12 (z : Int32) : ∃ g, 1 ≤ g ∧ g ≤ 12 ∧ 1 + rmS (drS z) 12 = nI g := by
  obtain ⟨q, hq, e⟩ := dr_n z
  rw [e]
  refine ⟨1 + q % 12, by omega, by omega, ?_⟩
  have h := pk_rem (a := q) (d := 12) (by omega) (by omega) (by omega)
  show 1 + (nI q - nI q / nI 12 * nI 12) = _
  rw [h]
  exact nI_add 1 (q % 12)
theorem s6_lt {d : Nat → Int32} (hI : IvD d) : s6 (d 1) < 6 := by
  obtain ⟨s, hs, e⟩ := hI.2.1
  rw [e, s6_e (by omega)]; omega
theorem cdD_o {d : Nat → Int32} {a : Nat} (h1 : a ≠ 7 + s6 (d 1)) (h2 : a ≠ 2) (h3 : a ≠ 6) : cdD d a = d a := by
  unfold cdD
  rw [upd_n _ _ h3, upd_n _ _ h2, upd_n _ _ h1]
theorem IvD_cd {d : Nat → Int32} (hI : IvD d) : IvD (cdD d) := by
  have h6 := s6_lt hI
  have e0 : cdD d 0 = d 0 := cdD_o (by omega) (by decide) (by decide)
  have ed : dn (cdD d) = dn d := by show cl (cdD d 0) = cl (d 0); rw [e0]
  obtain ⟨h0, h1, h3, h4, h5, hg, h7, h8, h9⟩ := id hI
  have hn := hI.n.1
  refine ⟨?_, ?_, ?_, ?_, ?_, ?_, fun i hi => ?_, fun r hr => ?_, fun i hi => ?_⟩
  · rw [e0]; exact h0
  · rw [cdD_o (by omega) (by decide) (by decide)]; exact h1
  · rw [cdD_o (by omega) (by decide) (by decide)]; exact h3
  · rw [cdD_o (by omega) (by decide) (by decide)]; exact h4
  · rw [cdD_o (by omega) (by decide) (by decide)]; exact h5
  · unfold cdD; rw [upd_s]; exact dr_12 _
  · by_cases q : i = s6 (d 1)
    · subst q
      unfold cdD
      rw [upd_n _ _ (by omega), upd_n _ _ (by omega), upd_s]; exact dr_256 _
    · rw [cdD_o (by omega) (by omega) (by omega)]; exact h7 i hi
  · rw [ed] at hr ⊢
    have q := h8 r hr
    unfold IvR at q ⊢
    rw [cdD_o (by omega) (by omega) (by omega), cdD_o (by omega) (by omega) (by omega), cdD_o (by omega) (by omega) (by omega), cdD_o (by omega) (by omega) (by omega), cdD_o (by omega) (by omega) (by omega)]
    exact q
  · rw [ed, cdD_o (by omega) (by omega) (by omega)]; exact h9 i hi
theorem cd_dn {d : Nat → Int32} (hI : IvD d) : dn (cdD d) = dn d := by
  have h6 := s6_lt hI
  show cl (cdD d 0) = cl (d 0)
  rw [cdD_o (by omega) (by decide) (by decide)]
theorem cd_5 {d : Nat → Int32} (hI : IvD d) : cdD d 5 = d 5 := by
  have h6 := s6_lt hI
  exact cdD_o (by omega) (by decide) (by decide)
theorem LH_cd {μ : Me} {d : Nat → Int32} (h : LH μ 1 d) (hI : IvD d) : LH (cm4 μ) 1 (cdD d) := by
  have h6 := s6_lt hI
  have ed := cd_dn hI
  have hn := hI.n.1
  obtain ⟨h1, h2, h3, h4, h5, hs, h7⟩ := h
  unfold cm4
  rw [h2, h3]
  refine ⟨?_, ?_, ?_, fun i hi => ?_, fun i hi => ?_, fun i hi => ?_, fun r hr => ?_⟩
  · rw [cdD_o (by omega) (by decide) (by decide)]
    simp [up_if, h1]
  · rw [cdD_o (by omega) (by decide) (by decide)]
    simp [up_if, h2]
  · unfold cdD
    rw [upd_n _ _ (by decide), upd_s]
    simp [up_if]
  · by_cases q : i = 3
    · subst q
      unfold cdD
      rw [upd_s]
      simp [up_if]
    · rw [cdD_o (by omega) (by omega) (by omega), ← h4 i hi]
      simp [up_if, q]
  · by_cases q : i = s6 (d 1)
    · subst q
      unfold cdD
      rw [upd_n _ _ (by omega), upd_n _ _ (by omega), upd_s]
      simp [up_if]
    · rw [cdD_o (by omega) (by omega) (by omega), ← h5 i hi]
      simp [up_if, q]
  · rw [cdD_o (by omega) (by omega) (by omega), ← hs i hi]
    simp [up_if]
  · rw [ed] at hr
    have q := h7 r hr
    unfold LhR at q ⊢
    rw [up_n _ _ _ (by omega), up_n _ _ _ (by omega), up_n _ _ _ (by omega), up_n _ _ _ (by omega), cdD_o (by omega) (by omega) (by omega), cdD_o (by omega) (by omega) (by omega), cdD_o (by omega) (by omega) (by omega), cdD_o (by omega) (by omega) (by omega), cdD_o (by omega) (by omega) (by omega)]
    exact q
theorem cm_all {μ : Me} {d : Nat → Int32} (h : LH μ 1 d) (hI : IvD d) : ∀ i, IvD (cmD i d) ∧ dn (cmD i d) = dn d ∧ cmD i d 5 = d 5 ∧ LH (cmI (dn d) (cl (d 5)) i μ) 1 (cmD i d)
  | 0 => ⟨hI, rfl, rfl, h⟩
  | i + 1 => by
    obtain ⟨a, b, c, e⟩ := cm_all h hI i
    have h1 := IvD_cd a
    have h2 := LH_cd e a
    have e2 : cdD (cmD i d) 5 = d 5 := (cd_5 a).trans c
    have e3 : dn (cdD (cmD i d)) = dn d := (cd_dn a).trans b
    have h3 := LH_ps h2 h1
    rw [e2, e3] at h3
    exact ⟨IvD_su h1, (suM_dn h1).trans e3, (suM_o h1 (by decide) (Or.inl (by decide))).trans e2, h3⟩
theorem cmI_o {μ : Me} {n j a : Nat} (hn : n ≤ 8) (ha : a < 1 ∨ 14 ≤ a) : ∀ i, (cmI n j i μ).1 a = μ.1 a
  | 0 => rfl
  | i + 1 => by
    rw [cmI, psS_o hn (by omega)]
    unfold cm4
    rw [up_n _ _ _ (by omega), up_n _ _ _ (by omega), up_n _ _ _ (by omega), up_n _ _ _ (by omega)]
    exact cmI_o hn ha i
def ocL (f : Nat → Int32) (c : Int32) (n : Nat) (r : Int32) : Nat → Int32
  | 0 => 0
  | i + 1 => if isS (seL f c (nI i) n).2 r = 0 then ocL f c n r i else ocL f c n r i + 1
def hvL : Nat → Int32 → Int32 × Int32
  | 0, a => (a, 1)
  | m + 1, a => if rmS a 2 = 0 then hvL m (a / 2) else (a, nI (2 ^ (m + 1)))
def odS (d : Nat → Int32) (r t : Int32) : Int32 := if t = 0 then (hvL 8 (ocL (fun i => d (13 + i)) (d 3) (dn d) r 256)).1 else (hvL 8 (ocL (fun i => d (13 + i)) (d 3) (dn d) r 256)).2
theorem p2_1 {m : Nat} (h : m ≤ 8) : nI (2 ^ m) ≤ 1 ↔ m = 0 := by
  have : m = 0 ∨ m = 1 ∨ m = 2 ∨ m = 3 ∨ m = 4 ∨ m = 5 ∨ m = 6 ∨ m = 7 ∨ m = 8 := by omega
  rcases this with rfl | rfl | rfl | rfl | rfl | rfl | rfl | rfl | rfl <;> decide
theorem p2_h {m : Nat} (h : m < 8) : nI (2 ^ (m + 1)) / 2 = nI (2 ^ m) := by
  have : m = 0 ∨ m = 1 ∨ m = 2 ∨ m = 3 ∨ m = 4 ∨ m = 5 ∨ m = 6 ∨ m = 7 := by omega
  rcases this with rfl | rfl | rfl | rfl | rfl | rfl | rfl | rfl <;> decide
theorem jdN_e {f : Nat → Int32} {d : Nat → Int32} {z m i : Nat} (h : ¬ i < z) : jdN f d z (m + 1) i = 0 := if_neg h
theorem jdN_y {f : Nat → Int32} {d : Nat → Int32} {z m i : Nat} (h : i < z) (h2 : i < dn d ∧ d (21 + i) = f i) : jdN f d z (m + 1) i = jdN f d z m (i + 1) := (if_pos h).trans (if_pos h2)
theorem jdN_n {f : Nat → Int32} {d : Nat → Int32} {z m i : Nat} (h : i < z) (h2 : ¬ (i < dn d ∧ d (21 + i) = f i)) : jdN f d z (m + 1) i = 1 + nI i := (if_pos h).trans (if_neg h2)
