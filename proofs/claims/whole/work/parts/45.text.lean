/-! the class's tape -/
def tokS (v : Int32) : Int32 := if 97 ≤ v ∧ v ≤ 122 then 1 else if 48 ≤ v ∧ v ≤ 57 then 2 else if v = 59 then 3 else 4
theorem tok_ty (v : Int32) : tokS v = nI (ty (nb v)) := by
  have e1 := nb_r (v := v) (c := 97) (d := 122) (by decide) (by decide) (by decide)
  have e2 := nb_r (v := v) (c := 48) (d := 57) (by decide) (by decide) (by decide)
  have e3 := nb_eq (v := v) (c := 59) (by decide)
  unfold tokS ty
  by_cases h1 : 97 ≤ nb v ∧ nb v ≤ 122
  · rw [if_pos h1]; exact if_pos (e1.mpr h1)
  · rw [if_neg h1]
    refine (if_neg (fun h => h1 (e1.mp h))).trans ?_
    by_cases h2 : 48 ≤ nb v ∧ nb v ≤ 57
    · rw [if_pos h2]; exact if_pos (e2.mpr h2)
    · rw [if_neg h2]
      refine (if_neg (fun h => h2 (e2.mp h))).trans ?_
      by_cases h3 : nb v = 59
      · rw [if_pos h3]; exact if_pos (e3.mpr h3)
      · rw [if_neg h3]; exact if_neg (fun h => h3 (e3.mp h))
theorem up_up (μ : Me) (k i : Nat) (a b : Int32) : up (up μ k i a) k i b = up μ k i b := by
  unfold up
  rw [ua_s, ua_ua]
  congr 1
  funext x
  simp only [upd]
  by_cases h : x = i <;> simp [h]
def t4 (μ : Me) (b t v e : Int32) : Me := ua μ 40 (fun x => if x = 3 then b else if x = 2 then t else if x = 5 then v else if x = 4 then e else μ.1 40 x)
theorem t4_1 (μ : Me) (b t v e : Int32) : (t4 μ b t v e).1 40 1 = μ.1 40 1 := by unfold t4; rw [ua_s]; rfl
theorem t4_2 (μ : Me) (b t v e : Int32) : (t4 μ b t v e).1 40 2 = t := by unfold t4; rw [ua_s]; rfl
theorem t4_3 (μ : Me) (b t v e : Int32) : (t4 μ b t v e).1 40 3 = b := by unfold t4; rw [ua_s]; rfl
theorem t4_4 (μ : Me) (b t v e : Int32) : (t4 μ b t v e).1 40 4 = e := by unfold t4; rw [ua_s]; rfl
theorem t4_5 (μ : Me) (b t v e : Int32) : (t4 μ b t v e).1 40 5 = v := by unfold t4; rw [ua_s]; rfl
theorem t4_o (μ : Me) (b t v e : Int32) {k : Nat} (h : k ≠ 40) : (t4 μ b t v e).1 k = μ.1 k := ua_n _ _ h
theorem t4_mk (μ : Me) (b t v e : Int32) : up (up (up (up μ 40 3 b) 40 2 t) 40 4 e) 40 5 v = t4 μ b t v e := by
  unfold up t4
  simp only [ua_s, ua_ua]
  congr 1
  funext x
  simp only [upd]
  by_cases h3 : x = 3 <;> by_cases h2 : x = 2 <;> by_cases h5 : x = 5 <;> by_cases h4 : x = 4 <;> simp_all
theorem t4_v (μ : Me) (b t v e v' : Int32) : up (t4 μ b t v e) 40 5 v' = t4 μ b t v' e := by
  unfold up t4
  simp only [ua_s, ua_ua]
  congr 1
  funext x
  simp only [upd]
  by_cases h3 : x = 3 <;> by_cases h2 : x = 2 <;> by_cases h5 : x = 5 <;> by_cases h4 : x = 4 <;> simp_all
theorem t4_e (μ : Me) (b t v e e' : Int32) : up (t4 μ b t v e) 40 4 e' = t4 μ b t v e' := by
  unfold up t4
  simp only [ua_s, ua_ua]
  congr 1
  funext x
  simp only [upd]
  by_cases h3 : x = 3 <;> by_cases h2 : x = 2 <;> by_cases h5 : x = 5 <;> by_cases h4 : x = 4 <;> simp_all
def Tz (μ : Me) (a : Nat → Nat) (n : Nat) : Prop := μ.1 40 1 = nI n ∧ n ≤ 120 ∧ ∀ i, i < n → nb (μ.1 41 i) = a i
def Tk (μ : Me) (a : Nat → Nat) (n p : Nat) : Prop := μ.1 40 3 = nI (tB a n p) ∧ μ.1 40 2 = nI (tT a n p) ∧ (tT a n p ≠ 4 → μ.1 40 4 = nI (tE a n p)) ∧ (tT a n p = 2 → μ.1 40 5 = nI (tV a n p))
def Fr (μ u : Me) : Prop := u.2 = μ.2 ∧ (∀ k, k ≠ 40 → u.1 k = μ.1 k) ∧ u.1 40 1 = μ.1 40 1
theorem Fr_Tz {μ u : Me} {a : Nat → Nat} {n : Nat} (h : Fr μ u) (hz : Tz μ a n) : Tz u a n := ⟨h.2.2.trans hz.1, hz.2.1, fun i hi => by rw [h.2.1 41 (by decide)]; exact hz.2.2 i hi⟩
theorem t4_Fr (μ : Me) (b t v e : Int32) : Fr μ (t4 μ b t v e) := ⟨rfl, fun k h => t4_o _ _ _ _ _ h, t4_1 _ _ _ _ _⟩
/-- how a token's end is sought -/
def Tq (a : Nat → Nat) (n p b t v e : Nat) : Prop := tB a n p = b ∧ tT a n p = t ∧ b ≤ e ∧ (t = 3 → e = b + 1) ∧ (t ≠ 3 → ∀ i, b ≤ i → i < e → ty (a i) = t) ∧ (t = 2 → v = nvC a b (e - b)) ∧ v ≤ 10000
theorem Tq_end {μ : Me} {a : Nat → Nat} {n p b t v e : Nat} (hn : n ≤ 120) (h : Tq a n p b t v e) (he : e ≤ n) (hx : t = 3 ∨ e = n ∨ ty (a e) ≠ t) : Tk (t4 μ (nI b) (nI t) (nI v) (nI e)) a n p := by
  obtain ⟨h1, h2, h3, h4, h5, h6, h7⟩ := h
  subst h1 h2
  have e0 : tE a n p = e := by
    by_cases h : tT a n p = 3
    · unfold tE; rw [if_pos h, h4 h]
    · exact tE_u hn h h3 he (h5 h) (hx.resolve_left h)
  refine ⟨t4_3 _ _ _ _ _, t4_2 _ _ _ _ _, fun _ => ?_, fun h => ?_⟩
  · rw [t4_4, e0]
  · rw [t4_5, h6 h]; unfold tV; rw [e0]
theorem Tq_step {a : Nat → Nat} {n p b t v e : Nat} (h : Tq a n p b t v e) (h3 : t ≠ 3) (h2 : t ≠ 2) (ht : ty (a e) = t) : Tq a n p b t v (e + 1) := by
  obtain ⟨g1, g2, g3, g4, g5, g6, g7⟩ := h
  refine ⟨g1, g2, by omega, fun h => absurd h h3, fun _ i x y => ?_, fun h => absurd h h2, g7⟩
  by_cases z : i = e
  · subst z; exact ht
  · exact g5 h3 i x (by omega)
theorem Tq_num {a : Nat → Nat} {n p b v e : Nat} (h : Tq a n p b 2 v e) (ht : ty (a e) = 2) : Tq a n p b 2 (if 10000 < v * 10 + (a e - 48) then 10000 else v * 10 + (a e - 48)) (e + 1) := by
  obtain ⟨g1, g2, g3, g4, g5, g6, g7⟩ := h
  refine ⟨g1, g2, by omega, by omega, fun _ i x y => ?_, fun _ => ?_, by split <;> omega⟩
  · by_cases z : i = e
    · subst z; exact ht
    · exact g5 (by decide) i x (by omega)
  · rw [show e + 1 - b = (e - b) + 1 by omega, nvC, ← g6 rfl, show b + (e - b) = e by omega]
theorem num_n {v c : Nat} (hv : v ≤ 10000) (hc : 48 ≤ c) (hc2 : c ≤ 57) : (if nI v * 10 + nI c - 48 < 10000 then nI v * 10 + nI c - 48 else 10000) = nI (if 10000 < v * 10 + (c - 48) then 10000 else v * 10 + (c - 48)) := by
  have e : nI v * 10 + nI c - 48 = nI (v * 10 + (c - 48)) := by
    have m : nI v * nI 10 = nI (v * 10) := (Int32.ofNat_mul v 10).symm
    have z : nI c = nI (c - 48) + nI 48 := by rw [nI_add]; congr 1; omega
    show nI v * nI 10 + nI c - nI 48 = _
    rw [m, z, ← Int32.add_assoc, Int32.add_sub_cancel, nI_add]
  rw [e]
  have q := lt_n (a := v * 10 + (c - 48)) (b := 10000) (by omega) (by decide)
  by_cases h : v * 10 + (c - 48) < 10000
  · rw [show (if 10000 < v * 10 + (c - 48) then 10000 else v * 10 + (c - 48)) = v * 10 + (c - 48) from if_neg (by omega)]; exact if_pos (q.mpr h)
  · refine (if_neg (fun z => h (q.mp z))).trans ?_
    by_cases h2 : 10000 < v * 10 + (c - 48)
    · rw [show (if 10000 < v * 10 + (c - 48) then 10000 else v * 10 + (c - 48)) = 10000 from if_pos h2]
      rfl
    · rw [show (if 10000 < v * 10 + (c - 48) then 10000 else v * 10 + (c - 48)) = v * 10 + (c - 48) from if_neg h2, show v * 10 + (c - 48) = 10000 by omega]
      rfl
