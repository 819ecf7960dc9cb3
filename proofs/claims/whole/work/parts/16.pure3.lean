/-! bounds that stay, homes taken over, what a Sunday doesn't touch -/
theorem Le_of {x : Int32} {m : Nat} (h1 : 0 ≤ x) (h2 : x ≤ nI m) (hm : m < 2 ^ 31) : Le x m := by
  have e : x = nI (cl x) := by
    obtain ⟨j, hj, e⟩ := nI_of (Int32.not_lt.mpr h1)
    rw [e, cl_n hj]
  have hc : cl x < 2 ^ 31 := by
    obtain ⟨j, hj, e⟩ := nI_of (Int32.not_lt.mpr h1)
    rw [e, cl_n hj]; exact hj
  refine ⟨cl x, ?_, e⟩
  rw [e] at h2
  exact (le_n hc hm).mp h2
theorem Le_clamp (v : Int32) : Le (clampS v) 99 := by
  unfold clampS
  by_cases h : v < 99
  · rw [if_pos h]
    by_cases h2 : 0 < v
    · rw [if_pos h2]; exact Le_of (Int32.le_of_lt h2) (Int32.le_of_lt h) (by omega)
    · rw [if_neg h2]; exact ⟨0, by omega, rfl⟩
  · rw [if_neg h, if_pos (by decide)]; exact ⟨99, by omega, rfl⟩
theorem Le_tally {t : Int32} (h : Le t 9999) : Le (tallyS t) 9999 := by
  obtain ⟨k, hk, e⟩ := h
  subst e
  unfold tallyS
  rw [nI_1]
  by_cases q : nI (k + 1) < 9999
  · rw [if_pos q]
    exact ⟨k + 1, by have := (lt_n (a := k + 1) (b := 9999) (by omega) (by omega)).mp q; omega, rfl⟩
  · rw [if_neg q]; exact ⟨9999, by omega, rfl⟩
theorem IvR_step {D E : Nat → Int32} {n i : Nat} (hn : n ≤ 8) (hi : i < n) (h : ∀ r, r < n → IvR D n r) (hE : ∀ a, a ≠ 21 + i → a ≠ 37 + i → a ≠ 45 + i → E a = D a) (h1 : Le (E (21 + i)) 99) (h3 : Le (E (37 + i)) 9999) (h4 : Le (E (45 + i)) 9999) : ∀ r, r < n → IvR E n r := by
  intro r hr
  have q := h r hr
  unfold IvR at q ⊢
  by_cases e : r = i
  · subst e
    refine ⟨?_, h1, ?_, h3, h4⟩
    · rw [hE _ (by omega) (by omega) (by omega)]; exact q.1
    · rw [hE _ (by omega) (by omega) (by omega)]; exact q.2.2.1
  · rw [hE _ (by omega) (by omega) (by omega), hE _ (by omega) (by omega) (by omega), hE _ (by omega) (by omega) (by omega), hE _ (by omega) (by omega) (by omega), hE _ (by omega) (by omega) (by omega)]
    exact q
theorem IvR_su {d : Nat → Int32} {v s p g b : Int32} {c n : Nat} (hn : n ≤ 8) (h : ∀ r, r < n → IvR d n r) : ∀ i, i ≤ n → ∀ r, r < n → IvR (suD d v s p g b c i).1 n r
  | 0, _ => h
  | i + 1, hi => by
    have ih := IvR_su (v := v) (s := s) (p := p) (g := g) (b := b) (c := c) hn h i (by omega)
    have q := ih i (by omega)
    unfold IvR at q
    have n1 : (37 + i) ≠ 21 + i := by omega
    have n2 : (45 + i) ≠ 21 + i := by omega
    have n3 : (45 + i) ≠ 37 + i := by omega
    have n4 : (21 + i) ≠ 37 + i := by omega
    have n5 : (21 + i) ≠ 45 + i := by omega
    have n6 : (37 + i) ≠ 45 + i := by omega
    simp only [suD]
    generalize (suD d v s p g b c i).1 = D at ih q ⊢
    split
    · refine IvR_step (i := i) hn (by omega) ih (fun a h1 h2 h3 => by simp only [ddV, upd_n _ _ h1, upd_n _ _ h2, upd_n _ _ h3]) ?_ ?_ ?_
      · simp only [ddV, upd_n _ _ n5, upd_n _ _ n4, upd_s]; exact Le_clamp _
      · simp only [ddV, upd_n _ _ n6, upd_s]; exact ⟨0, by omega, rfl⟩
      · simp only [ddV, upd_s]; exact Le_tally q.2.2.2.2
    · split
      · refine IvR_step (i := i) hn (by omega) ih (fun a h1 h2 h3 => by simp only [ddS, upd_n _ _ h1, upd_n _ _ h2]) ?_ ?_ ?_
        · simp only [ddS, upd_n _ _ n4, upd_s]; exact Le_clamp _
        · simp only [ddS, upd_s]; exact Le_tally q.2.2.2.1
        · simp only [ddS, upd_n _ _ n2, upd_n _ _ n3]; exact q.2.2.2.2
      · split
        · refine IvR_step (i := i) hn (by omega) ih (fun a h1 h2 h3 => by simp only [ddH, upd_n _ _ h1, upd_n _ _ h2]) ?_ ?_ ?_
          · simp only [ddH, upd_n _ _ n4, upd_s]; exact Le_clamp _
          · simp only [ddH, upd_s]; exact ⟨0, by omega, rfl⟩
          · simp only [ddH, upd_n _ _ n2, upd_n _ _ n3]; exact q.2.2.2.2
        · refine IvR_step (i := i) hn (by omega) ih (fun a h1 h2 h3 => by simp only [ddA, upd_n _ _ h1, upd_n _ _ h2]) ?_ ?_ ?_
          · simp only [ddA, upd_n _ _ n4, upd_s]; exact Le_clamp _
          · simp only [ddA, upd_s]; exact Le_tally q.2.2.2.1
          · simp only [ddA, upd_n _ _ n2, upd_n _ _ n3]; exact q.2.2.2.2
theorem IvD_su {d : Nat → Int32} (hI : IvD d) : IvD (suM d) := by
  have hn := hI.n.1
  have hd := suM_dn hI
  obtain ⟨h0, h1, h3, h4, h5, h6, h7, h8, h9⟩ := id hI
  refine ⟨?_, ?_, ?_, ?_, ?_, ?_, fun i hi => ?_, fun r hr => ?_, fun i hi => ?_⟩
  · rw [suM_0 hI]; exact h0
  · unfold suM
    rw [upd_s]
    obtain ⟨s, hs, e⟩ := h1
    rw [e, suT_n hs]
    exact ⟨_, by split <;> omega, rfl⟩
  · rw [suM_o hI (by decide) (Or.inl (by decide))]; exact h3
  · rw [suM_o hI (by decide) (Or.inl (by decide))]; exact h4
  · rw [suM_o hI (by decide) (Or.inl (by decide))]; exact h5
  · rw [suM_o hI (by decide) (Or.inl (by decide))]; exact h6
  · rw [suM_o hI (by omega) (Or.inl (by omega))]; exact h7 i hi
  · rw [hd] at hr ⊢
    have q := IvR_su (v := V_ d) (s := S_ d) (p := P_ d) (g := d 6) (b := onL (V_ d) 8) (c := cl (d 4)) hn h8 (dn d) (Nat.le_refl _) r hr
    unfold IvR at q ⊢
    unfold suM
    rw [upd_n _ _ (by omega), upd_n _ _ (by omega), upd_n _ _ (by omega), upd_n _ _ (by omega), upd_n _ _ (by omega)]
    exact q
  · rw [suM_o hI (by omega) (Or.inr (Or.inl (by omega))), hd]; exact h9 i hi
theorem IvD_n {d : Nat → Int32} (hI : IvD d) : ∀ t, IvD (suN t d)
  | 0 => hI
  | t + 1 => IvD_su (IvD_n hI t)
theorem suN_o {d : Nat → Int32} (hI : IvD d) {a : Nat} (h1 : a ≠ 1) (h : a < 21 ∨ 53 ≤ a ∨ (29 ≤ a ∧ a < 37)) : ∀ t, suN t d a = d a
  | 0 => rfl
  | t + 1 => by rw [suN, suM_o (IvD_n hI t) h1 h]; exact suN_o hI h1 h t
theorem suN_dn {d : Nat → Int32} (hI : IvD d) (t : Nat) : dn (suN t d) = dn d := by show cl (suN t d 0) = cl (d 0); rw [suN_o hI (by decide) (Or.inl (by decide)) t]
theorem LH_pn {μ : Me} {k : Nat} {d : Nat → Int32} (h : LH μ k d) (hI : IvD d) : ∀ t, LH (pnS k (dn d) (cl (d 5)) t μ) k (suN t d)
  | 0 => h
  | t + 1 => by
    have ih := LH_pn h hI t
    have q := LH_ps ih (IvD_n hI t)
    rw [suN_dn hI t, suN_o hI (by decide) (Or.inl (by decide)) t] at q
    exact q
theorem suL_f (m : Me) (k : Nat) (g b c : Int32) {a : Nat} : ∀ i, (a < k + 3 + 2 ∨ k + 3 + 2 + i ≤ a) → (suL m k g b c i).1.1 a = m.1 a
  | 0, _ => rfl
  | i + 1, ha => by
    have ih := suL_f m k g b c (a := a) i (by omega)
    have e : a ≠ k + 3 + 2 + i := by omega
    simp only [suL]
    split
    · simp only [bvS, up_n _ _ _ e]; exact ih
    · split
      · simp only [bsS, up_n _ _ _ e]; exact ih
      · split
        · simp only [bhS, up_n _ _ _ e]; exact ih
        · simp only [baS, up_n _ _ _ e]; exact ih
theorem suL_2 (m : Me) (k : Nat) (g b c : Int32) : ∀ i, (suL m k g b c i).1.2 = m.2
  | 0 => rfl
  | i + 1 => by
    have ih := suL_2 m k g b c i
    simp only [suL]
    split
    · exact ih
    · split
      · exact ih
      · split
        · exact ih
        · exact ih
theorem psS_o {μ : Me} {k n j a : Nat} (hn : n ≤ 8) (ha : a < k ∨ k + 13 ≤ a) : (psS μ k n j).1 a = μ.1 a := by
  have e : a ≠ k := by omega
  unfold psS
  rw [up_n _ _ _ e, suL_f _ _ _ _ _ n (by omega)]
  simp only [deS, up_n _ _ _ e]
theorem psS_2 {μ : Me} {k n j : Nat} : (psS μ k n j).2 = μ.2 := by
  unfold psS
  rw [up_2, suL_2]
  rfl
theorem pnS_o {μ : Me} {k n j a : Nat} (hn : n ≤ 8) (ha : a < k ∨ k + 13 ≤ a) : ∀ t, (pnS k n j t μ).1 a = μ.1 a
  | 0 => rfl
  | t + 1 => by rw [pnS, psS_o hn ha]; exact pnS_o hn ha t
theorem pnS_2 {μ : Me} {k n j : Nat} : ∀ t, (pnS k n j t μ).2 = μ.2
  | 0 => rfl
  | t + 1 => by rw [pnS, psS_2]; exact pnS_2 t
theorem tkL_2 (m : Me) (k k2 : Nat) : ∀ i, (tkL m k k2 i).2 = m.2
  | 0 => rfl
  | i + 1 => tkL_2 m k k2 i
theorem tkS_2 {μ : Me} {k k2 n : Nat} : (tkS μ k k2 n).2 = μ.2 := tkL_2 _ _ _ _
theorem tkS_o {μ : Me} {k k2 n a : Nat} (hn : n ≤ 8) (ha : a < k ∨ k + 13 ≤ a) : (tkS μ k k2 n).1 a = μ.1 a := by
  unfold tkS
  rw [up_n _ _ _ (by omega), up_n _ _ _ (by omega), tkL_o _ _ _ n (by omega), tk0_o (by omega) (by omega) (by omega) (by omega)]
theorem tkL_r (m : Me) (k k2 n : Nat) (hA : Ap k k2) (hn : n ≤ 8) : ∀ i, i ≤ n → ∀ r, r < i → ∀ f, f < 5 → (tkL m k k2 i).1 (k + 3 + 2 + r) f = m.1 (k2 + 3 + 2 + r) f
  | 0, _, r, hr, _, _ => by omega
  | i + 1, hi, r, hr, f, hf => by
    unfold Ap at hA
    by_cases e : r = i
    · subst e
      have o := tkL_o m k k2 (a := k2 + 3 + 2 + r) r (by omega)
      have : f = 0 ∨ f = 1 ∨ f = 2 ∨ f = 3 ∨ f = 4 := by omega
      simp only [tkL, tk5, up_if, o]
      rcases this with rfl | rfl | rfl | rfl | rfl <;> simp
    · have ih := tkL_r m k k2 n (by unfold Ap; exact hA) hn i (by omega) r (by omega) f hf
      have e2 : k + 3 + 2 + r ≠ k + 3 + 2 + i := by omega
      simp only [tkL, tk5, up_n _ _ _ e2]
      exact ih
theorem va_cpy0 {f g : Nat → Int32} {n j : Nat} (h : j < n) : va_cpy f g 0 0 n j = f j := by
  unfold va_cpy
  rw [if_pos (by omega)]
  congr 1
  omega
theorem LH_tk {μ : Me} {k k2 : Nat} {d : Nat → Int32} (h : LH μ k2 d) (hI : IvD d) (hA : Ap k k2) : LH (tkS μ k k2 (dn d)) k d := by
  have hn := hI.n.1
  obtain ⟨h1, h2, h3, h4, h5, h6, h7⟩ := h
  have hA' := hA
  unfold Ap at hA'
  refine ⟨?_, ?_, ?_, fun i hi => ?_, fun i hi => ?_, fun i hi => ?_, fun r hr => ?_⟩
  · unfold tkS
    rw [up_i _ _ _ (by decide), up_i _ _ _ (by decide), tkL_o _ _ _ _ (by omega)]
    unfold tk0
    rw [up_s]; exact h1
  · unfold tkS
    rw [up_i _ _ _ (by decide), up_s]; exact h2
  · unfold tkS
    rw [up_s]; exact h3
  · unfold tkS
    rw [up_n _ _ _ (by omega), up_n _ _ _ (by omega), tkL_o _ _ _ _ (by omega)]
    unfold tk0
    rw [up_n _ _ _ (by omega), ua_n _ _ (by omega), ua_n _ _ (by omega), ua_s, va_cpy0 hi]; exact h4 i hi
  · unfold tkS
    rw [up_n _ _ _ (by omega), up_n _ _ _ (by omega), tkL_o _ _ _ _ (by omega)]
    unfold tk0
    rw [up_n _ _ _ (by omega), ua_n _ _ (by omega), ua_s, va_cpy0 hi]; exact h5 i hi
  · unfold tkS
    rw [up_n _ _ _ (by omega), up_n _ _ _ (by omega), tkL_o _ _ _ _ (by omega)]
    unfold tk0
    rw [up_n _ _ _ (by omega), ua_s, va_cpy0 hi]; exact h6 i hi
  · have q := h7 r hr
    unfold LhR at q ⊢
    unfold tkS
    rw [up_n _ _ _ (by omega), up_n _ _ _ (by omega)]
    have t := tkL_r (tk0 μ k k2) k k2 (dn d) hA hn (dn d) (Nat.le_refl _) r hr
    have o : (tk0 μ k k2).1 (k2 + 3 + 2 + r) = μ.1 (k2 + 3 + 2 + r) := tk0_o (by omega) (by omega) (by omega) (by omega)
    rw [t 0 (by omega), t 1 (by omega), t 2 (by omega), t 3 (by omega), t 4 (by omega), o]
    exact q
