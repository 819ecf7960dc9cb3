theorem Tz_bg {μ : Me} {a : Nat → Nat} {n c : Nat} {v : Int32} (h : Tz μ a n) (h1 : c ≠ 40) (h2 : c ≠ 41) : Tz (bgS μ c v) a n := ⟨by rw [bgS_o (fun e => h1 e.symm)]; exact h.1, h.2.1, fun j hj => by rw [bgS_o (fun e => h2 e.symm)]; exact h.2.2 j hj⟩
theorem Tk_bg {μ : Me} {a : Nat → Nat} {n p c : Nat} {v : Int32} (h : Tk μ a n p) (h1 : c ≠ 40) : Tk (bgS μ c v) a n p := by
  unfold Tk
  rw [bgS_o (fun e => h1 e.symm)]
  exact h
theorem Fq_bg {μ : Me} {c : Nat} {v : Int32} (h1 : 14 ≤ c) (h2 : c < 27) : Fq μ (bgS μ c v) := ⟨rfl, fun k x y => bgS_o (by omega)⟩
theorem rF_dn {a : Nat → Nat} {n : Nat} {ws : List Nat} {o lim p : Nat} {d : Nat → Int32} (hn : n ≤ 120) (hp : p ≤ n) (ho : o ≠ 0) {q : Nat} {d2 : Nat → Int32} (h : rFact a n ws o lim p d = .inr (q, d2)) : dn d2 = dn d := by
  rcases (rFact_ok hn hp h).2.2 with e | ⟨v, _, e⟩
  · rw [e]
  · rw [e]; exact dn_up ho
theorem RX.b {μ u : Me} {a : Nat → Nat} {n : Nat} {x : Rd} {r : Int32} (h : RX μ a n x r u) (h0 : r = 0) : ∃ b, x = .inl b ∧ u.1 40 3 = nI b ∧ Fq μ u ∧ Tz u a n := by
  subst h0
  obtain ⟨h1, h2, h3⟩ := h
  cases x with
  | inl b => exact ⟨b, rfl, h3.2, h1, h2⟩
  | inr y => exact absurd h3.1 (by decide)
def RAm (x : Rd) (r : Int32) (u : Me) : Prop := match x with
  | .inl b => r = -1 - nI b
  | .inr y => r = nI y.1 ∧ LH u 14 y.2
def RA (μ : Me) (a : Nat → Nat) (n : Nat) (x : Rd) (r : Int32) (u : Me) : Prop := Fq μ u ∧ Tz u a n ∧ RAm x r u
/-- what a text leaves -/
def TXm (x : Rd) (d : Nat → Int32) (r : Int32) (u : Me) : Prop := match x with
  | .inl b => r = -1 - nI b ∧ LH u 1 d
  | .inr y => r = nI y.1 ∧ LH u 1 y.2
def TX (μ : Me) (x : Rd) (d : Nat → Int32) (r : Int32) (u : Me) : Prop := u.1 40 1 = 0 ∧ (∀ k, k = 0 ∨ (27 ≤ k ∧ k ≠ 40) → u.1 k = μ.1 k) ∧ TXm x d r u
theorem m1_le {b : Nat} (h : b ≤ 120) : -1 - nI b ≤ 0 := by
  have : (List.range 121).all (fun b => decide (-1 - nI b ≤ 0)) = true := by decide +kernel
  exact decide_eq_true_iff.mp (List.all_eq_true.mp this b (List.mem_range.mpr (by omega)))
theorem TX_f {μ m u : Me} {a : Nat → Nat} {n : Nat} {d : Nat → Int32} {r : Int32} (hI : IvD d) (hn : n ≤ 120) (hm : ∀ k, k = 0 ∨ (27 ≤ k ∧ k ≠ 40) → m.1 k = μ.1 k) (hL : LH m 1 d) (h : RA m a n (rAll a n 121 1 0 d) r u) (hr : r ≤ 0) : TX μ (rAll a n 121 1 0 d) d r (up u 40 1 0) := by
  have ok := rAll_ok (a := a) hn 121 (i := 1) (Nat.zero_le n) hI
  obtain ⟨h1, h2, h3⟩ := h
  refine ⟨up_s _ _ _ _, fun k hk => ?_, ?_⟩
  · rw [up_n _ _ _ (by omega), h1.2 k (by omega) (by omega)]; exact hm k hk
  · revert ok h3
    cases rAll a n 121 1 0 d with
    | inl b =>
      intro _ h3
      exact ⟨h3, LH.same hL (fun k x y => by rw [up_n _ _ _ (by omega), h1.2 k (by omega) (by omega)]) hI.n.1⟩
    | inr y =>
      intro ok h3
      exfalso
      rw [h3.1] at hr
      exact absurd hr (nI_nle (by omega) (by omega))
theorem TX_t {μ m u : Me} {a : Nat → Nat} {n : Nat} {d : Nat → Int32} {r : Int32} (hI : IvD d) (hn : n ≤ 120) (hm : ∀ k, k = 0 ∨ (27 ≤ k ∧ k ≠ 40) → m.1 k = μ.1 k) (h : RA m a n (rAll a n 121 1 0 d) r u) (hr : ¬ r ≤ 0) : ∃ e, IvD e ∧ LH (up u 40 1 0) 14 e ∧ TX μ (rAll a n 121 1 0 d) d r (tkS (up u 40 1 0) 1 14 (dn e)) := by
  have ok := rAll_ok (a := a) hn 121 (i := 1) (Nat.zero_le n) hI
  obtain ⟨h1, h2, h3⟩ := h
  revert ok h3
  cases rAll a n 121 1 0 d with
  | inl b =>
    intro ok h3
    exfalso
    have h3 : r = -1 - nI b := h3
    rw [h3] at hr
    have ok : b ≤ n := ok
    exact hr (m1_le (by omega))
  | inr y =>
    intro ok h3
    obtain ⟨-, -, I2⟩ := ok
    have L2 : LH (up u 40 1 0) 14 y.2 := LH.same h3.2 (fun k x y => by rw [up_n _ _ _ (by omega)]) I2.n.1
    refine ⟨y.2, I2, L2, ?_, fun k hk => ?_, h3.1, LH_tk L2 I2 (by unfold Ap; omega)⟩
    · rw [tkS_o I2.n.1 (by omega), up_s]
    · rw [tkS_o I2.n.1 (by omega), up_n _ _ _ (by omega), h1.2 k (by omega) (by omega)]; exact hm k hk
