/-! what a text says, over a row -/
abbrev Rd : Type := Nat ⊕ (Nat × (Nat → Int32))
def rB (x : Rd) (f : Nat → (Nat → Int32) → Rd) : Rd := match x with
  | .inl b => .inl b
  | .inr y => f y.1 y.2
def rFact (a : Nat → Nat) (n : Nat) (ws : List Nat) (o lim p : Nat) (d : Nat → Int32) : Rd := if Wd a n p ws = true then (if tT a n (tE a n p) = 2 ∧ tV a n (tE a n p) < lim then .inr (tE a n (tE a n p), upd d o (nI (tV a n (tE a n p)))) else .inl (tB a n (tE a n p))) else .inr (p, d)
def rRes (a : Nat → Nat) (n : Nat) (k : Int32) (p : Nat) (d : Nat → Int32) : Rd := if dn d < 8 then rB (rFact a n (wdW 7) (21 + dn d) 100 (tE a n p) (wlD d (dn d) k)) (fun p1 d1 => rB (rFact a n (wdW 8) (29 + dn d) (dn d) p1 d1) (fun p2 d2 => rFact a n (wdW 9) (37 + dn d) 10000 p2 d2)) else .inl (tB a n p)
def loN (i : Nat) : Nat := if i = 3 then 1 else 0
def hiN (i : Nat) : Nat := if i = 2 then 8 else if i = 3 then 12 else 20
def rSet (a : Nat → Nat) (n i p : Nat) (d : Nat → Int32) : Rd := if tT a n (tE a n p) = 2 ∧ loN i ≤ tV a n (tE a n p) ∧ tV a n (tE a n p) ≤ hiN i then .inr (tE a n (tE a n p), upd d (3 + i) (nI (tV a n (tE a n p)))) else .inl (tB a n (tE a n p))
def rVis (a : Nat → Nat) (n p : Nat) (d : Nat → Int32) : Rd := if tT a n (tE a n p) = 2 ∧ tV a n (tE a n p) < 6 then (if tT a n (tE a n (tE a n p)) = 2 ∧ tV a n (tE a n (tE a n p)) < 256 then .inr (tE a n (tE a n (tE a n p)), upd d (7 + tV a n (tE a n p)) (nI (tV a n (tE a n (tE a n p))))) else .inl (tB a n (tE a n (tE a n p)))) else .inl (tB a n (tE a n p))
def kwI (k : Nat) : Nat := if k = 0 then 6 else k - 1
def rS (a : Nat → Nat) (n p : Nat) (d : Nat → Int32) : Nat → Nat → Rd
  | 0, _ => if Wd a n p (wdW 14) = true then rVis a n p d else .inl (tB a n p)
  | m + 1, i => if Wd a n p (wdW (10 + i)) = true then rSet a n i p d else rS a n p d m (i + 1)
def rK (a : Nat → Nat) (n p : Nat) (d : Nat → Int32) : Nat → Nat → Rd
  | 0, _ => rS a n p d 4 0
  | m + 1, k => if Wd a n p (wdW (kwI k)) = true then rRes a n (nI k) p d else rK a n p d m (k + 1)
def rAll (a : Nat → Nat) (n : Nat) : Nat → Nat → Nat → (Nat → Int32) → Rd
  | 0, _, p, _ => .inl (tB a n p)
  | m + 1, i, p, d => rB (rK a n p d 7 0) (fun q d2 => if tT a n q = 0 then .inr (i, d2) else if tT a n q = 3 then rAll a n m (i + 1) (tE a n q) d2 else .inl (tB a n q))
/-- places go on; rows stay good -/
def Rok (n p : Nat) (x : Rd) : Prop := match x with
  | .inl b => b ≤ n
  | .inr y => p ≤ y.1 ∧ y.1 ≤ n ∧ IvD y.2
theorem rFact_ok {a : Nat → Nat} {n : Nat} {ws : List Nat} {o lim p : Nat} {d : Nat → Int32} (hn : n ≤ 120) (hp : p ≤ n) {q : Nat} {d2 : Nat → Int32} (h : rFact a n ws o lim p d = .inr (q, d2)) : p ≤ q ∧ q ≤ n ∧ (d2 = d ∨ ∃ v, v < lim ∧ d2 = upd d o (nI v)) := by
  have e1 := tE_s (a := a) hn hp
  have b1 := tB_s (a := a) hn hp
  have e2 := tE_s (a := a) hn e1.2.1
  have b2 := tB_s (a := a) hn e1.2.1
  unfold rFact at h
  split at h
  · split at h
    · rename_i hc
      injection h with h
      injection h with h1 h2
      exact ⟨by omega, by omega, Or.inr ⟨_, hc.2, h2.symm⟩⟩
    · exact absurd h (by simp)
  · injection h with h
    injection h with h1 h2
    exact ⟨by omega, by omega, Or.inl h2.symm⟩
theorem rFact_b {a : Nat → Nat} {n : Nat} {ws : List Nat} {o lim p : Nat} {d : Nat → Int32} (hn : n ≤ 120) (hp : p ≤ n) {b : Nat} (h : rFact a n ws o lim p d = .inl b) : b ≤ n := by
  have e1 := tE_s (a := a) hn hp
  have b2 := tB_s (a := a) hn e1.2.1
  unfold rFact at h
  split at h
  · split at h
    · exact absurd h (by simp)
    · injection h with h; omega
  · exact absurd h (by simp)
theorem wlD_o {d : Nat → Int32} {n : Nat} {a : Int32} {j : Nat} (h0 : j ≠ 0) (h1 : j ≠ 13 + n) (h2 : j ≠ 21 + n) (h3 : j ≠ 29 + n) (h4 : j ≠ 37 + n) (h5 : j ≠ 45 + n) : wlD d n a j = d j := by
  unfold wlD
  rw [upd_n _ _ h0, upd_n _ _ h5, upd_n _ _ h4, upd_n _ _ h3, upd_n _ _ h2, upd_n _ _ h1]
theorem wlD_0 {d : Nat → Int32} {n : Nat} {a : Int32} : wlD d n a 0 = nI (n + 1) := upd_s _ _ _
theorem wlD_n {d : Nat → Int32} {n : Nat} {a : Int32} (hn : n < 8) : wlD d n a (13 + n) = a ∧ wlD d n a (21 + n) = 50 ∧ wlD d n a (29 + n) = -1 ∧ wlD d n a (37 + n) = 0 ∧ wlD d n a (45 + n) = 0 := by
  unfold wlD
  refine ⟨?_, ?_, ?_, ?_, ?_⟩
  · rw [upd_n _ _ (by omega), upd_n _ _ (by omega), upd_n _ _ (by omega), upd_n _ _ (by omega), upd_n _ _ (by omega), upd_s]
  · rw [upd_n _ _ (by omega), upd_n _ _ (by omega), upd_n _ _ (by omega), upd_n _ _ (by omega), upd_s]
  · rw [upd_n _ _ (by omega), upd_n _ _ (by omega), upd_n _ _ (by omega), upd_s]
  · rw [upd_n _ _ (by omega), upd_n _ _ (by omega), upd_s]
  · rw [upd_n _ _ (by omega), upd_s]
theorem wlD_dn {d : Nat → Int32} {n : Nat} {a : Int32} (hn : n < 8) : dn (wlD d n a) = n + 1 := by show cl (wlD d n a 0) = _; rw [wlD_0, cl_n (by omega)]
theorem IvD_wl {d : Nat → Int32} (hI : IvD d) (h8 : dn d < 8) {a : Int32} (ha : Le a 6) : IvD (wlD d (dn d) a) := by
  have w1 := wlD_n (d := d) (a := a) h8
  obtain ⟨h0, h1, h3, h4, h5, h6, h7, hr, hs⟩ := hI
  refine ⟨⟨dn d + 1, by omega, wlD_0⟩, ?_, ?_, ?_, ?_, ?_, fun i hi => ?_, fun r hr2 => ?_, fun i hi => ?_⟩
  · rw [wlD_o (by omega) (by omega) (by omega) (by omega) (by omega) (by omega)]; exact h1
  · rw [wlD_o (by omega) (by omega) (by omega) (by omega) (by omega) (by omega)]; exact h3
  · rw [wlD_o (by omega) (by omega) (by omega) (by omega) (by omega) (by omega)]; exact h4
  · rw [wlD_o (by omega) (by omega) (by omega) (by omega) (by omega) (by omega)]; exact h5
  · rw [wlD_o (by omega) (by omega) (by omega) (by omega) (by omega) (by omega)]; exact h6
  · rw [wlD_o (by omega) (by omega) (by omega) (by omega) (by omega) (by omega)]; exact h7 i hi
  · rw [wlD_dn h8] at hr2 ⊢
    by_cases z : r = dn d
    · subst z
      unfold IvR
      rw [w1.1, w1.2.1, w1.2.2.1, w1.2.2.2.1, w1.2.2.2.2]
      exact ⟨ha, ⟨50, by omega, rfl⟩, Or.inl rfl, ⟨0, by omega, rfl⟩, ⟨0, by omega, rfl⟩⟩
    · obtain ⟨g1, g2, g3, g4, g5⟩ := hr r (by omega)
      unfold IvR
      rw [wlD_o (by omega) (by omega) (by omega) (by omega) (by omega) (by omega), wlD_o (by omega) (by omega) (by omega) (by omega) (by omega) (by omega), wlD_o (by omega) (by omega) (by omega) (by omega) (by omega) (by omega), wlD_o (by omega) (by omega) (by omega) (by omega) (by omega) (by omega), wlD_o (by omega) (by omega) (by omega) (by omega) (by omega) (by omega)]
      exact ⟨g1, g2, g3.imp id (fun ⟨f, hf, e⟩ => ⟨f, by omega, e⟩), g4, g5⟩
  · rw [wlD_dn h8, wlD_o (by omega) (by omega) (by omega) (by omega) (by omega) (by omega)]
    obtain ⟨k, hk, e⟩ := hs i hi
    exact ⟨k, by omega, e⟩
theorem bgS_o {μ : Me} {c k : Nat} {a : Int32} (h : k ≠ c) : (bgS μ c a).1 k = μ.1 k := by
  unfold bgS
  rw [up_n _ _ _ h, up_n _ _ _ h, up_n _ _ _ h, up_n _ _ _ h, up_n _ _ _ h]
theorem bgS_c (μ : Me) (c : Nat) (a : Int32) : (bgS μ c a).1 c 0 = a ∧ (bgS μ c a).1 c 1 = 50 ∧ (bgS μ c a).1 c 2 = -1 ∧ (bgS μ c a).1 c 3 = 0 ∧ (bgS μ c a).1 c 4 = 0 := by
  unfold bgS
  refine ⟨?_, ?_, ?_, ?_, ?_⟩
  · rw [up_i _ _ _ (by decide), up_i _ _ _ (by decide), up_i _ _ _ (by decide), up_i _ _ _ (by decide), up_s]
  · rw [up_i _ _ _ (by decide), up_i _ _ _ (by decide), up_i _ _ _ (by decide), up_s]
  · rw [up_i _ _ _ (by decide), up_i _ _ _ (by decide), up_s]
  · rw [up_i _ _ _ (by decide), up_s]
  · rw [up_s]
theorem LH_wl {μ : Me} {k : Nat} {d : Nat → Int32} (h : LH μ k d) (h8 : dn d < 8) (a : Int32) : LH (up (bgS μ (k + 3 + 2 + dn d) a) k 3 (nI (dn d + 1))) k (wlD d (dn d) a) := by
  have w1 := wlD_n (d := d) (a := a) h8
  obtain ⟨g0, g1, g2, g3, g4, g5, g6⟩ := h
  have bk : ∀ j, j < k + 3 + 2 → (bgS μ (k + 3 + 2 + dn d) a).1 j = μ.1 j := fun j hj => bgS_o (by omega)
  refine ⟨?_, ?_, ?_, fun i hi => ?_, fun i hi => ?_, fun i hi => ?_, fun r hr => ?_⟩
  · rw [up_s, wlD_0]
  · rw [up_i _ _ _ (by decide), bk _ (by omega), wlD_o (by omega) (by omega) (by omega) (by omega) (by omega) (by omega)]; exact g1
  · rw [up_i _ _ _ (by decide), bk _ (by omega), wlD_o (by omega) (by omega) (by omega) (by omega) (by omega) (by omega)]; exact g2
  · rw [up_n _ _ _ (by omega), bk _ (by omega), wlD_o (by omega) (by omega) (by omega) (by omega) (by omega) (by omega)]; exact g3 i hi
  · rw [up_n _ _ _ (by omega), bk _ (by omega), wlD_o (by omega) (by omega) (by omega) (by omega) (by omega) (by omega)]; exact g4 i hi
  · rw [up_n _ _ _ (by omega), bk _ (by omega), wlD_o (by omega) (by omega) (by omega) (by omega) (by omega) (by omega)]; exact g5 i hi
  · rw [wlD_dn h8] at hr
    unfold LhR
    rw [up_n _ _ _ (show k + 3 + 2 + r ≠ k by omega)]
    by_cases z : r = dn d
    · subst z
      obtain ⟨c1, c2, c3, c4, c5⟩ := bgS_c μ (k + 3 + 2 + dn d) a
      rw [c1, c2, c3, c4, c5, w1.1, w1.2.1, w1.2.2.1, w1.2.2.2.1, w1.2.2.2.2]
      exact ⟨rfl, rfl, rfl, rfl, rfl⟩
    · obtain ⟨q1, q2, q3, q4, q5⟩ := g6 r (by omega)
      rw [bgS_o (by omega), wlD_o (by omega) (by omega) (by omega) (by omega) (by omega) (by omega), wlD_o (by omega) (by omega) (by omega) (by omega) (by omega) (by omega), wlD_o (by omega) (by omega) (by omega) (by omega) (by omega) (by omega), wlD_o (by omega) (by omega) (by omega) (by omega) (by omega) (by omega), wlD_o (by omega) (by omega) (by omega) (by omega) (by omega) (by omega)]
      exact ⟨q1, q2, q3, q4, q5⟩
theorem dn_up {d : Nat → Int32} {a : Nat} {v : Int32} (h : a ≠ 0) : dn (upd d a v) = dn d := by show cl (upd d a v 0) = cl (d 0); rw [upd_n _ _ (fun e => h e.symm)]
theorem IvD_fact {d : Nat → Int32} (hI : IvD d) {r f v : Nat} (hr : r < dn d) (hf : f = 1 ∧ v < 100 ∨ f = 2 ∧ v < r ∨ f = 3 ∧ v < 10000) : IvD (upd d (13 + 8 * f + r) (nI v)) := by
  have hn := hI.n.1
  refine IvD_upd hI (by omega) (by omega) (by omega) (by omega) (by omega) (by omega) (by omega) (fun _ _ => by omega) (fun _ _ => ⟨v, by omega, rfl⟩) (fun _ _ => Or.inr ⟨v, by omega, rfl⟩) (fun _ _ => ⟨v, by omega, rfl⟩) (by omega)
theorem rRes_ok {a : Nat → Nat} {n p : Nat} {k : Int32} {d : Nat → Int32} (hn : n ≤ 120) (hp : p ≤ n) (h1 : tT a n p = 1) (hI : IvD d) (hk : Le k 6) : Rok n (p + 1) (rRes a n k p d) := by
  have e1 := tE_s (a := a) hn hp
  have b1 := tB_s (a := a) hn hp
  unfold rRes
  by_cases h8 : dn d < 8
  · rw [if_pos h8]
    have I1 := IvD_wl hI h8 hk
    have D1 := wlD_dn (d := d) (a := k) h8
    cases h7 : rFact a n (wdW 7) (21 + dn d) 100 (tE a n p) (wlD d (dn d) k) with
    | inl b => exact rFact_b hn e1.2.1 h7
    | inr y =>
      obtain ⟨q, d1⟩ := y
      obtain ⟨g1, g2, g3⟩ := rFact_ok hn e1.2.1 h7
      have I2 : IvD d1 ∧ dn d1 = dn d + 1 := by
        rcases g3 with g3 | ⟨v, hv, g3⟩
        · subst g3; exact ⟨I1, D1⟩
        · subst g3; exact ⟨IvD_fact (f := 1) (r := dn d) I1 (by omega) (by omega), (dn_up (by omega)).trans D1⟩
      show Rok n (p + 1) (rB (rFact a n (wdW 8) (29 + dn d) (dn d) q d1) _)
      cases h9 : rFact a n (wdW 8) (29 + dn d) (dn d) q d1 with
      | inl b => exact rFact_b hn g2 h9
      | inr y =>
        obtain ⟨q2, d2⟩ := y
        obtain ⟨k1, k2, k3⟩ := rFact_ok hn g2 h9
        have I3 : IvD d2 ∧ dn d2 = dn d + 1 := by
          rcases k3 with g3 | ⟨v, hv, g3⟩
          · subst g3; exact I2
          · subst g3; exact ⟨IvD_fact (f := 2) (r := dn d) I2.1 (by omega) (by omega), (dn_up (by omega)).trans I2.2⟩
        show Rok n (p + 1) (rFact a n (wdW 9) (37 + dn d) 10000 q2 d2)
        cases h10 : rFact a n (wdW 9) (37 + dn d) 10000 q2 d2 with
        | inl b => exact rFact_b hn k2 h10
        | inr y =>
          obtain ⟨q3, d3⟩ := y
          obtain ⟨m1, m2, m3⟩ := rFact_ok hn k2 h10
          have := e1.2.2.1 (by omega)
          refine ⟨by show p + 1 ≤ q3; omega, m2, ?_⟩
          rcases m3 with g3 | ⟨v, hv, g3⟩
          · subst g3; exact I3.1
          · subst g3; exact IvD_fact (f := 3) (r := dn d) I3.1 (by omega) (by omega)
  · rw [if_neg h8]
    exact b1.2
theorem rSet_ok {a : Nat → Nat} {n i p : Nat} {d : Nat → Int32} (hn : n ≤ 120) (hp : p ≤ n) (h1 : tT a n p = 1) (hi : i < 4) (hI : IvD d) : Rok n (p + 1) (rSet a n i p d) := by
  have e1 := tE_s (a := a) hn hp
  have b1 := tB_s (a := a) hn hp
  have e2 := tE_s (a := a) hn e1.2.1
  have b2 := tB_s (a := a) hn e1.2.1
  unfold rSet
  split
  · rename_i h
    have := e1.2.2.1 (by omega)
    refine ⟨by show p + 1 ≤ tE a n (tE a n p); omega, e2.2.1, ?_⟩
    obtain ⟨-, h2, h3⟩ := h
    unfold loN at h2
    unfold hiN at h3
    refine IvD_upd hI (by omega) (by omega) (fun _ => ⟨_, ?_, rfl⟩) (fun _ => ⟨_, ?_, rfl⟩) (fun _ => ⟨_, ?_, rfl⟩) (fun _ => ⟨_, ?_, ?_, rfl⟩) (by omega) (by omega) (by omega) (by omega) (by omega) (by omega)
    · rw [if_neg (by omega), if_neg (by omega)] at h3; exact h3
    · rw [if_neg (by omega), if_neg (by omega)] at h3; exact h3
    · rw [if_pos (by omega)] at h3; exact h3
    · rw [if_pos (by omega)] at h2; exact h2
    · rw [if_neg (by omega), if_pos (by omega)] at h3; exact h3
  · exact b2.2
theorem rVis_ok {a : Nat → Nat} {n p : Nat} {d : Nat → Int32} (hn : n ≤ 120) (hp : p ≤ n) (h1 : tT a n p = 1) (hI : IvD d) : Rok n (p + 1) (rVis a n p d) := by
  have e1 := tE_s (a := a) hn hp
  have b1 := tB_s (a := a) hn hp
  have e2 := tE_s (a := a) hn e1.2.1
  have b2 := tB_s (a := a) hn e1.2.1
  have e3 := tE_s (a := a) hn e2.2.1
  have b3 := tB_s (a := a) hn e2.2.1
  unfold rVis
  split
  · rename_i h
    split
    · rename_i h2
      have := e1.2.2.1 (by omega)
      refine ⟨by show p + 1 ≤ tE a n (tE a n (tE a n p)); omega, e3.2.1, ?_⟩
      exact IvD_upd hI (by omega) (by omega) (by omega) (by omega) (by omega) (by omega) (fun _ _ => ⟨_, by omega, rfl⟩) (by omega) (by omega) (by omega) (by omega) (by omega)
    · exact b3.2
  · exact b2.2
theorem rS_ok {a : Nat → Nat} {n p : Nat} {d : Nat → Int32} (hn : n ≤ 120) (hp : p ≤ n) (hI : IvD d) : ∀ m i, i + m = 4 → Rok n (p + 1) (rS a n p d m i)
  | 0, _, _ => by
    unfold rS
    split
    · rename_i h
      exact rVis_ok hn hp (Wd_i.mp h).1 hI
    · exact (tB_s hn hp).2
  | m + 1, i, e => by
    unfold rS
    split
    · rename_i h
      exact rSet_ok hn hp (Wd_i.mp h).1 (by omega) hI
    · exact rS_ok hn hp hI m (i + 1) (by omega)
theorem rK_ok {a : Nat → Nat} {n p : Nat} {d : Nat → Int32} (hn : n ≤ 120) (hp : p ≤ n) (hI : IvD d) : ∀ m k, k + m = 7 → Rok n (p + 1) (rK a n p d m k)
  | 0, _, _ => rS_ok hn hp hI 4 0 rfl
  | m + 1, k, e => by
    unfold rK
    split
    · rename_i h
      exact rRes_ok hn hp (Wd_i.mp h).1 hI ⟨k, by omega, rfl⟩
    · exact rK_ok hn hp hI m (k + 1) (by omega)
theorem rAll_ok {a : Nat → Nat} {n : Nat} (hn : n ≤ 120) : ∀ m {i p : Nat} {d : Nat → Int32}, p ≤ n → IvD d → (match rAll a n m i p d with | .inl b => b ≤ n | .inr y => i ≤ y.1 ∧ y.1 < i + m ∧ IvD y.2)
  | 0, i, p, d, hp, hI => (tB_s hn hp).2
  | m + 1, i, p, d, hp, hI => by
    have ok := rK_ok (a := a) hn hp hI 7 0 rfl
    unfold rAll
    cases hx : rK a n p d 7 0 with
    | inl b => rw [hx] at ok; exact ok
    | inr y =>
      obtain ⟨q, d2⟩ := y
      rw [hx] at ok
      obtain ⟨k1, k2, k3⟩ := ok
      simp only [rB]
      by_cases t0 : tT a n q = 0
      · rw [if_pos t0]; exact ⟨Nat.le_refl _, by show i < i + (m + 1); omega, k3⟩
      · rw [if_neg t0]
        by_cases t3 : tT a n q = 3
        · rw [if_pos t3]
          have := rAll_ok hn m (i := i + 1) (a := a) (tE_s (a := a) hn k2).2.1 k3
          revert this
          cases rAll a n m (i + 1) (tE a n q) d2 with
          | inl b => exact id
          | inr y => intro ⟨x, y, z⟩; exact ⟨by omega, by omega, z⟩
        · rw [if_neg t3]; exact (tB_s hn k2).2
/-! what reading leaves in the class's memory -/
def Fq (μ u : Me) : Prop := u.2 = μ.2 ∧ ∀ k, (k < 14 ∨ 27 ≤ k) → k ≠ 40 → u.1 k = μ.1 k
def RXm (a : Nat → Nat) (n : Nat) (x : Rd) (r : Int32) (u : Me) : Prop := match x with
  | .inl b => r = 0 ∧ u.1 40 3 = nI b
  | .inr y => r = 1 ∧ Tk u a n y.1 ∧ LH u 14 y.2
def RX (μ : Me) (a : Nat → Nat) (n : Nat) (x : Rd) (r : Int32) (u : Me) : Prop := Fq μ u ∧ Tz u a n ∧ RXm a n x r u
theorem Fq.rf (μ : Me) : Fq μ μ := ⟨rfl, fun _ _ _ => rfl⟩
theorem Fq.tr {μ u v : Me} (h1 : Fq μ u) (h2 : Fq u v) : Fq μ v := ⟨h2.1.trans h1.1, fun k x y => (h2.2 k x y).trans (h1.2 k x y)⟩
theorem Fr.q {μ u : Me} (h : Fr μ u) : Fq μ u := ⟨h.1, fun k _ y => h.2.1 k y⟩
theorem Fq_up {μ u : Me} (h : Fq μ u) {k i : Nat} {v : Int32} (h1 : 14 ≤ k) (h2 : k < 27) : Fq μ (up u k i v) := ⟨h.1, fun j x y => (up_n _ _ _ (by omega)).trans (h.2 j x y)⟩
theorem Fr.L {μ u : Me} {d : Nat → Int32} (h : Fr μ u) (hL : LH μ 14 d) (hn : dn d ≤ 8) : LH u 14 d := LH.same hL (fun k x y => h.2.1 k (by omega)) hn
theorem Tz_up {u : Me} {a : Nat → Nat} {n : Nat} (h : Tz u a n) {k i : Nat} {v : Int32} (h1 : k ≠ 40) (h2 : k ≠ 41) : Tz (up u k i v) a n := ⟨by rw [up_n _ _ _ (fun e => h1 e.symm)]; exact h.1, h.2.1, fun j hj => by rw [up_n _ _ _ (fun e => h2 e.symm)]; exact h.2.2 j hj⟩
theorem Tk_up {u : Me} {a : Nat → Nat} {n p : Nat} (h : Tk u a n p) {k i : Nat} {v : Int32} (h1 : k ≠ 40) : Tk (up u k i v) a n p := by
  unfold Tk
  rw [up_n _ _ _ (show (40 : Nat) ≠ k from fun e => h1 e.symm)]
  exact h
theorem RX.tr {μ u0 u : Me} {a : Nat → Nat} {n : Nat} {x : Rd} {r : Int32} (h : Fq μ u0) (h2 : RX u0 a n x r u) : RX μ a n x r u := ⟨h.tr h2.1, h2.2⟩
theorem RX.f {μ u : Me} {a : Nat → Nat} {n : Nat} {x : Rd} {r : Int32} (h : RX μ a n x r u) (h0 : r = 0) (f : Nat → (Nat → Int32) → Rd) : RX μ a n (rB x f) 0 u := by
  subst h0
  obtain ⟨h1, h2, h3⟩ := h
  cases x with
  | inl b => exact ⟨h1, h2, h3⟩
  | inr y => exact absurd h3.1 (by decide)
theorem RX.t {μ u : Me} {a : Nat → Nat} {n : Nat} {x : Rd} {r : Int32} (h : RX μ a n x r u) (h0 : ¬ r = 0) : ∃ p d, x = .inr (p, d) ∧ r = 1 ∧ Fq μ u ∧ Tz u a n ∧ Tk u a n p ∧ LH u 14 d := by
  obtain ⟨h1, h2, h3⟩ := h
  cases x with
  | inl b => exact absurd h3.1 h0
  | inr y => exact ⟨y.1, y.2, rfl, h3.1, h1, h2, h3.2.1, h3.2.2⟩
theorem RX.z {μ u : Me} {a : Nat → Nat} {n : Nat} {x : Rd} {r : Int32} (h : RX μ a n x r u) : narrow .boolean (.int r) = .int r := by
  obtain ⟨h1, h2, h3⟩ := h
  cases x with
  | inl b => rw [h3.1]; rfl
  | inr y => rw [h3.1]; rfl
theorem wi_lim {v lim : Nat} (hv : v ≤ 10000) (hl : lim ≤ 10000) : ¬ wiS (nI v) 0 (nI lim - 1) = 0 ↔ v < lim := by
  cases lim with
  | zero =>
    constructor
    · intro h
      have h2 := Decidable.not_not.mp (mt wiS_0.mpr h)
      exact absurd (Int32.le_trans h2.1 h2.2) (by decide)
    · omega
  | succ m =>
    rw [nI_pred]
    constructor
    · intro h
      have h2 := Decidable.not_not.mp (mt wiS_0.mpr h)
      have := (le_n (a := v) (b := m) (by omega) (by omega)).mp h2.2
      omega
    · intro h
      exact wi_y (by omega) (by omega)
theorem wi_2 {v a b : Nat} (hv : v ≤ 10000) (ha : a ≤ 10000) (hb : b ≤ 10000) : ¬ wiS (nI v) (nI a) (nI b) = 0 ↔ a ≤ v ∧ v ≤ b := by
  rw [← le_n (a := a) (b := v) (by omega) (by omega), ← le_n (a := v) (b := b) (by omega) (by omega)]
  exact (not_congr wiS_0).trans Decidable.not_not
theorem sub_n {a b : Nat} (h : b ≤ a) : nI a - nI b = nI (a - b) := by
  have z : nI a = nI (a - b) + nI b := by rw [nI_add]; congr 1; omega
  rw [z, Int32.add_sub_cancel]
theorem wi_b {v a b : Int32} (h : ¬ wiS v a b = 0) : wiS v a b = 1 := by
  unfold wiS at h ⊢
  split
  · rfl
  · rename_i q; rw [if_neg q] at h; exact absurd rfl h
theorem kw_0 {k : Nat} (hk : k < 7) (h1 : ¬ nI k = 1) (h2 : ¬ nI k = 2) (h3 : ¬ nI k = 3) (h4 : ¬ nI k = 4) (h5 : ¬ nI k = 5) (h6 : ¬ nI k = 6) : k = 0 := by
  rcases (show k = 0 ∨ k = 1 ∨ k = 2 ∨ k = 3 ∨ k = 4 ∨ k = 5 ∨ k = 6 by omega) with q | q | q | q | q | q | q
  · exact q
  · exact absurd (by rw [q]; rfl) h1
  · exact absurd (by rw [q]; rfl) h2
  · exact absurd (by rw [q]; rfl) h3
  · exact absurd (by rw [q]; rfl) h4
  · exact absurd (by rw [q]; rfl) h5
  · exact absurd (by rw [q]; rfl) h6
theorem kw_3 {k : Nat} (hk : k < 4) (h0 : ¬ nI k = 0) (h1 : ¬ nI k = 1) (h2 : ¬ nI k = 2) : k = 3 := by
  rcases (show k = 0 ∨ k = 1 ∨ k = 2 ∨ k = 3 by omega) with q | q | q | q
  · exact absurd (by rw [q]; rfl) h0
  · exact absurd (by rw [q]; rfl) h1
  · exact absurd (by rw [q]; rfl) h2
  · exact q
