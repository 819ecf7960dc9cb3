/-! what reading leaves in the model's memory -/
def Gm (μ u : Me) : Prop := (∀ k, k ≠ 0 → k ≠ 1 → u.1 k = μ.1 k) ∧ ∀ j, j ≠ 8 → j ≠ 9 → j ≠ 10 → j ≠ 12 → u.1 0 j = μ.1 0 j
def MXm (a : Nat → Nat) (n : Nat) (x : Rd) (u : Me) : Prop := match x with
  | .inl b => b ≤ n ∧ u.1 0 12 = nI b
  | .inr y => y.1 ≤ n ∧ u.1 0 12 = -1 ∧ Tm u a n y.1 ∧ u.1 1 = y.2
def MX (μ : Me) (a : Nat → Nat) (n : Nat) (x : Rd) (u : Me) : Prop := Gm μ u ∧ MXm a n x u
theorem Gm.rf (μ : Me) : Gm μ μ := ⟨fun _ _ _ => rfl, fun _ _ _ _ _ => rfl⟩
theorem Gm.tr {μ u v : Me} (h1 : Gm μ u) (h2 : Gm u v) : Gm μ v := ⟨fun k x y => (h2.1 k x y).trans (h1.1 k x y), fun j a b c d => (h2.2 j a b c d).trans (h1.2 j a b c d)⟩
theorem Fm.g {μ u : Me} (h : Fm μ u) : Gm μ u := ⟨fun k x _ => h.1 k x, fun j a b c _ => h.2 j a b c⟩
theorem Gm_Zm {μ u : Me} {a : Nat → Nat} {n : Nat} (h : Gm μ u) (hz : Zm μ a n) : Zm u a n := ⟨(h.2 7 (by decide) (by decide) (by decide) (by decide)).trans hz.1, hz.2.1, fun i hi => by rw [h.1 6 (by decide) (by decide)]; exact hz.2.2 i hi⟩
theorem Gm_1 {μ u : Me} (h : Gm μ u) (j : Nat) (v : Int32) : Gm μ (up u 1 j v) := ⟨fun k x y => (up_n _ _ _ y).trans (h.1 k x y), fun i a b c d => (congrFun (up_n _ _ _ (by decide)) i).trans (h.2 i a b c d)⟩
theorem Gm_a {μ u : Me} (h : Gm μ u) (f : Nat → Int32) : Gm μ (ua u 1 f) := ⟨fun k x y => (ua_n _ _ y).trans (h.1 k x y), fun i a b c d => (congrFun (ua_n _ _ (by decide)) i).trans (h.2 i a b c d)⟩
theorem Gm_12 {μ u : Me} (h : Gm μ u) (v : Int32) : Gm μ (up u 0 12 v) := ⟨fun k x y => (up_n _ _ _ x).trans (h.1 k x y), fun i a b c d => (up_i _ _ _ d).trans (h.2 i a b c d)⟩
theorem wr_m {μ : Me} (h : μ.1 0 12 = -1) : wrS μ = up μ 0 12 (μ.1 0 10) := if_pos (by rw [h]; decide)
theorem Tm_1c {u : Me} {a : Nat → Nat} {n p : Nat} (h : Tm u a n p) (j : Nat) (v : Int32) : Tm (up u 1 j v) a n p := by
  unfold Tm
  rw [up_n _ _ _ (show (0 : Nat) ≠ 1 by decide)]
  exact h
theorem Tm_ac {u : Me} {a : Nat → Nat} {n p : Nat} (h : Tm u a n p) (f : Nat → Int32) : Tm (ua u 1 f) a n p := by
  unfold Tm
  rw [ua_n _ _ (show (0 : Nat) ≠ 1 by decide)]
  exact h
abbrev Nc (a : Nat → Nat) (n p lo lim : Nat) : Prop := tT a n p = 2 ∧ lo ≤ tV a n p ∧ tV a n p < lim
def NumP (μ : Me) (a : Nat → Nat) (n p lo lim : Nat) (r : Int32) (u : Me) : Prop := (Nc a n p lo lim ∧ r = nI (tV a n p) ∧ Fm μ u ∧ Tm u a n (tE a n p)) ∨ (¬ Nc a n p lo lim ∧ r = 0 ∧ u = up μ 0 12 (nI (tB a n p)))
theorem tV_M {a : Nat → Nat} {n p : Nat} (hn : n ≤ 120) (hp : p ≤ n) (h : tT a n p = 2) : nvM a (tB a n p) (tE a n p - tB a n p) ≤ 99999 ∧ tV a n p = (if 9999 < nvM a (tB a n p) (tE a n p - tB a n p) then 10000 else nvM a (tB a n p) (tE a n p - tB a n p)) := by
  have hE := tE_s (a := a) hn hp
  have ht := hE.2.2.2 (by omega)
  rw [h] at ht
  exact nvM_r (fun i hi => by have := ty_2.mp (ht (tB a n p + i) (by omega) (by omega)); omega)
theorem wi_g {m lo lim : Nat} (hm : m ≤ 99999) (hlo : lo ≤ 10000) (hl : lim ≤ 10000) : ¬ wiS (nI m) (nI lo) (nI lim - 1) = 0 ↔ lo ≤ m ∧ m < lim := by
  rw [not_congr wiS_0, Decidable.not_not]
  cases lim with
  | zero =>
    constructor
    · intro h
      exact absurd (Int32.le_trans (nI_pos' (n := lo) (by omega)) (Int32.le_trans h.1 h.2)) (by decide)
    · omega
  | succ k =>
    rw [nI_pred, le_n (by omega) (by omega), le_n (by omega) (by omega)]
    omega
theorem num_in {μ : Me} {a : Nat → Nat} {n p lo lim : Nat} {b c : Int32} (hn : n ≤ 120) (hp : p ≤ n) (hk : Tm μ a n p) (h : tT a n p = 2) (hlo : lo ≤ 10000) (hl : lim ≤ 10000) (hb : b = nI lo) (hc : c = nI lim - 1) : ¬ inS μ.2 b.toInt64 c.toInt64 = 0 ↔ (lo ≤ tV a n p ∧ tV a n p < lim) := by
  obtain ⟨h1, h2⟩ := tV_M hn hp h
  rw [hk.2.2.2.1 h, ← nI_l (by omega), in_w rfl rfl, hb, hc, wi_g h1 hlo hl, h2]
  by_cases q : 9999 < nvM a (tB a n p) (tE a n p - tB a n p)
  · rw [if_pos q]; omega
  · rw [if_neg q]
theorem num_v {μ : Me} {a : Nat → Nat} {n p lim : Nat} (hn : n ≤ 120) (hp : p ≤ n) (hk : Tm μ a n p) (h : tT a n p = 2) (hl : lim ≤ 10000) (hv : tV a n p < lim) : μ.2.toInt32 = nI (tV a n p) := by
  obtain ⟨h1, h2⟩ := tV_M hn hp h
  rw [hk.2.2.2.1 h, lN_i]
  by_cases q : 9999 < nvM a (tB a n p) (tE a n p - tB a n p)
  · rw [if_pos q] at h2; omega
  · rw [if_neg q] at h2; rw [h2]
theorem rB_a (x : Rd) (f g : Nat → (Nat → Int32) → Rd) : rB (rB x f) g = rB x (fun p d => rB (f p d) g) := by
  cases x <;> rfl
theorem MX.tr {μ u v : Me} {a : Nat → Nat} {n : Nat} {x : Rd} (h : Gm μ u) (h2 : MX u a n x v) : MX μ a n x v := ⟨h.tr h2.1, h2.2⟩
theorem MXm.t {a : Nat → Nat} {n : Nat} {x : Rd} {u : Me} (h : MXm a n x u) (hn : n ≤ 120) (h0 : ¬ 0 ≤ u.1 0 12) : ∃ p d, x = .inr (p, d) ∧ p ≤ n ∧ u.1 0 12 = -1 ∧ Tm u a n p ∧ u.1 1 = d := by
  cases x with
  | inl b =>
    obtain ⟨h1, h2⟩ := h
    rw [h2] at h0
    exact absurd (nI_pos' (by omega)) h0
  | inr y => exact ⟨y.1, y.2, rfl, h.1, h.2.1, h.2.2.1, h.2.2.2⟩
theorem MXm.f {a : Nat → Nat} {n : Nat} {x : Rd} {u : Me} (h : MXm a n x u) (h0 : 0 ≤ u.1 0 12) : ∃ b, x = .inl b ∧ b ≤ n ∧ u.1 0 12 = nI b := by
  cases x with
  | inl b => exact ⟨b, rfl, h.1, h.2⟩
  | inr y =>
    obtain ⟨_, h2, _⟩ := h
    rw [h2] at h0
    exact absurd h0 (by decide)
/-- what all items leave -/
def MAm (x : Rd) (r : Int32) (u : Me) : Prop := match x with
  | .inl b => b ≤ 120 ∧ u.1 0 12 = nI b
  | .inr y => u.1 0 12 = -1 ∧ r = nI y.1 ∧ u.1 1 = y.2
def MA (μ : Me) (x : Rd) (r : Int32) (u : Me) : Prop := Gm μ u ∧ MAm x r u
def MTm (x : Rd) (d : Nat → Int32) (r : Int32) (u : Me) : Prop := match x with
  | .inl b => r = -1 - nI b ∧ ∀ j, j < 63 → u.1 1 j = d j
  | .inr y => r = nI y.1 ∧ u.1 1 = y.2
def MT (μ : Me) (x : Rd) (d : Nat → Int32) (r : Int32) (u : Me) : Prop := u.1 0 7 = 0 ∧ u.1 0 4 = μ.1 0 4 ∧ (∀ k, k ≠ 0 → k ≠ 1 → k ≠ 2 → u.1 k = μ.1 k) ∧ MTm x d r u
def rC (a : Nat → Nat) (n m i q : Nat) (d : Nat → Int32) : Rd := if tT a n q = 0 then .inr (i, d) else if tT a n q = 3 then rAll a n m (i + 1) (tE a n q) d else .inl (tB a n q)
theorem rAll_C (a : Nat → Nat) (n m i p : Nat) (d : Nat → Int32) : rAll a n (m + 1) i p d = rB (rK a n p d 7 0) (rC a n m i) := rfl
