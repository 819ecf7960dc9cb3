/-! more of the trial -/
theorem tk14 {μ : Me} {d : Nat → Int32} (h : LH μ 1 d) (hI : IvD d) : LH (tkS μ 14 1 (dn d)) 14 d := LH_tk h hI (by unfold Ap; omega)
theorem LH.n0 {u : Me} {k t : Nat} {d : Nat → Int32} (hI : IvD d) (h : LH u k (suN t d)) : u.1 k 3 = nI (dn d) := h.1.trans ((suN_o hI (by decide) (Or.inl (by decide)) t).trans hI.n.2)
theorem LH.r {u : Me} {k t : Nat} {d : Nat → Int32} (hI : IvD d) (h : LH u k (suN t d)) {r : Nat} (hr : r < dn d) : LhR u k (suN t d) r := h.2.2.2.2.2.2 r (by rw [suN_dn hI]; exact hr)
def foS (z c r : Int32) : Int32 := if (if r ≤ c then c + 1 else c) < z then (if r ≤ c then c + 1 else c) else -1
def spM (μ : Me) (q i r : Nat) : Me := if q = 0 then up μ (14 + 2) i (μ.1 (14 + 2) i ||| (1 <<< (nI r &&& 31))) else if q = 1 then up μ (14 + 3 + 2 + r) 0 (nI i) else up μ (14 + 3 + 2 + r) 2 (foS (μ.1 1 3) (nI i) (nI r))
def spD (d : Nat → Int32) (q i r : Nat) : Nat → Int32 := if q = 0 then upd d (7 + i) (d (7 + i) ||| (1 <<< (nI r &&& 31))) else if q = 1 then upd d (13 + r) (nI i) else upd d (29 + r) (foS (d 0) (nI i) (nI r))
def okQ (d : Nat → Int32) (q n : Nat) : Prop := (q = 0 ∧ n = 6) ∨ (q = 1 ∧ n = 7) ∨ (q = 2 ∧ n = dn d)
theorem dn_sp {d : Nat → Int32} {q i r : Nat} : dn (spD d q i r) = dn d := by
  unfold spD
  split
  · exact dn_upd (by omega)
  · split
    · exact dn_upd (by omega)
    · exact dn_upd (by omega)
theorem fo_n {d : Nat → Int32} (hI : IvD d) {i r : Nat} (hi : i < 1000) (hr : r < 8) : foS (d 0) (nI i) (nI r) = -1 ∨ ∃ f, f < dn d ∧ foS (d 0) (nI i) (nI r) = nI f := by
  unfold foS
  rw [hI.n.2, nI_1]
  have hn := hI.n.1
  by_cases q : nI r ≤ nI i
  · rw [if_pos q]
    by_cases q2 : nI (i + 1) < nI (dn d)
    · rw [if_pos q2]; exact Or.inr ⟨i + 1, (lt_n (by omega) (by omega)).mp q2, rfl⟩
    · rw [if_neg q2]; exact Or.inl rfl
  · rw [if_neg q]
    by_cases q2 : nI i < nI (dn d)
    · rw [if_pos q2]; exact Or.inr ⟨i, (lt_n (by omega) (by omega)).mp q2, rfl⟩
    · rw [if_neg q2]; exact Or.inl rfl
theorem IvD_sp {d : Nat → Int32} (hI : IvD d) {q n i r : Nat} (hq : okQ d q n) (hi : i < n) (hr : r < 8) : IvD (spD d q i r) := by
  have hn := hI.n.1
  unfold spD
  rcases hq with ⟨rfl, rfl⟩ | ⟨rfl, rfl⟩ | ⟨rfl, rfl⟩
  · rw [if_pos rfl]
    refine IvD_upd hI (by omega) (by omega) (by omega) (by omega) (by omega) (by omega) (fun _ _ => ?_) (by omega) (by omega) (by omega) (by omega) (by omega)
    obtain ⟨k, hk, e⟩ := hI.2.2.2.2.2.2.1 i hi
    have hb := bitN_n r hr
    have h2 : 2 ^ r < 2 ^ 8 := Nat.pow_lt_pow_right (by decide) hr
    refine ⟨k ||| 2 ^ r, ?_, ?_⟩
    · have := Nat.or_lt_two_pow (n := 8) (x := k) (y := 2 ^ r) (by omega) h2; omega
    · show d (7 + i) ||| bitN r = _
      rw [e, hb, or_n]
  · rw [if_neg (by decide), if_pos rfl]
    exact IvD_upd hI (by omega) (by omega) (by omega) (by omega) (by omega) (by omega) (by omega) (fun _ _ => ⟨i, by omega, rfl⟩) (by omega) (by omega) (by omega) (by omega)
  · rw [if_neg (by decide), if_neg (by decide)]
    exact IvD_upd hI (by omega) (by omega) (by omega) (by omega) (by omega) (by omega) (by omega) (by omega) (by omega) (fun _ _ => fo_n hI (by omega) hr) (by omega) (by omega)
theorem LH_sp {m : Me} {d : Nat → Int32} (h : LH m 14 d) (h1 : m.1 1 3 = d 0) (hI : IvD d) {q n i r : Nat} (hq : okQ d q n) (hi : i < n) (hr : r < 8) : LH (spM m q i r) 14 (spD d q i r) := by
  have hn := hI.n.1
  unfold spM spD
  rcases hq with ⟨rfl, rfl⟩ | ⟨rfl, rfl⟩ | ⟨rfl, rfl⟩
  · rw [if_pos rfl, if_pos rfl, h.2.2.2.2.1 i hi]; exact LH_upL h hn hi _
  · rw [if_neg (by decide), if_pos rfl, if_neg (by decide), if_pos rfl]; exact LH_upR (f := 0) h hn hr (by decide) _
  · rw [if_neg (by decide), if_neg (by decide), if_neg (by decide), if_neg (by decide), h1]; exact LH_upR (f := 2) h hn hr (by decide) _
theorem Tr_sp {m u : Me} (h : Tr m u) {q i r : Nat} (hr : r < 8) : Tr m (spM u q i r) := by
  unfold spM
  split
  · exact h.up (by omega)
  · split
    · exact h.up (by omega)
    · exact h.up (by omega)
theorem bsL_nat {f : Nat → Int32} : ∀ {n : Nat}, ∃ k, k ≤ n ∧ (bsL f nI 0 n).1 = nI k
  | 0 => ⟨0, Nat.le_refl _, rfl⟩
  | n + 1 => by
    obtain ⟨k, hk, e⟩ := bsL_nat (f := f) (n := n)
    simp only [bsL]
    split
    · exact ⟨n, by omega, rfl⟩
    · exact ⟨k, by omega, e⟩
def awL (f : Nat → Int32) (r : Int32) : Nat → Int32 × Int32
  | 0 => (-1000004, 8)
  | i + 1 => if ¬ isS (nI i) r = 0 ∨ ¬ bcS (nI i) < (awL f r i).2 ∨ wellS (f i) = 0 then awL f r i else (nI i, bcS (nI i))
theorem awL_n {f : Nat → Int32} {r : Int32} {i : Nat} (h : ¬ isS (nI i) r = 0 ∨ ¬ bcS (nI i) < (awL f r i).2 ∨ wellS (f i) = 0) : awL f r (i + 1) = awL f r i := if_pos h
theorem awL_y {f : Nat → Int32} {r : Int32} {i : Nat} (h : ¬ (¬ isS (nI i) r = 0 ∨ ¬ bcS (nI i) < (awL f r i).2 ∨ wellS (f i) = 0)) : awL f r (i + 1) = (nI i, bcS (nI i)) := if_neg h
def swS (w m : Int32) : Int32 := if w = 0 then m else wellS m
def gtN (f : Nat → Int32) (z : Nat) (d : Nat → Int32) (r : Nat) (w : Int32) : Nat → Nat → Int32
  | 0, _ => 1
  | m + 1, i => if i < z then (if f i = -1 ∨ f i = swS w (suN i d (21 + r)) then gtN f z d r w m (i + 1) else 0) else 1
theorem gtN_e {f : Nat → Int32} {z : Nat} {d : Nat → Int32} {r : Nat} {w : Int32} {m i : Nat} (h : ¬ i < z) : gtN f z d r w (m + 1) i = 1 := if_neg h
theorem gtN_y {f : Nat → Int32} {z : Nat} {d : Nat → Int32} {r : Nat} {w : Int32} {m i : Nat} (h : i < z) (h2 : f i = -1 ∨ f i = swS w (suN i d (21 + r))) : gtN f z d r w (m + 1) i = gtN f z d r w m (i + 1) := (if_pos h).trans (if_pos h2)
theorem gtN_n {f : Nat → Int32} {z : Nat} {d : Nat → Int32} {r : Nat} {w : Int32} {m i : Nat} (h : i < z) (h2 : ¬ (f i = -1 ∨ f i = swS w (suN i d (21 + r)))) : gtN f z d r w (m + 1) i = 0 := (if_pos h).trans (if_neg h2)
def cnL (g : Nat → Int32) : Nat → Int32
  | 0 => 0
  | i + 1 => if g i = 0 then cnL g i else cnL g i + 1
def kbL (g : Nat → Int32) : Nat → Int32
  | 0 => 0
  | i + 1 => if g i = 0 then kbL g i else kbL g i ||| bitN i
theorem p2_n : ∀ n, n ≤ 8 → (1 : Int32) <<< (nI n &&& 31) = nI (2 ^ n) := by decide +kernel
theorem fit_y {s : Nat} {a v : Int32} (hs : s < 4) (h : wiS v (leastS a) (mostS a) = 1) (ha : a = nI s := by rfl) : ¬ fitS a v = 0 := by
  subst ha
  unfold fitS
  rw [if_pos ⟨wiS_1.mpr ⟨nI_pos' (by omega), nI_le (b := 3) (by omega) (by omega)⟩, h⟩]
  decide
theorem gt_01 {f : Nat → Int32} {z : Nat} {d : Nat → Int32} {r : Nat} {w : Int32} : ∀ m i, gtN f z d r w m i = 0 ∨ gtN f z d r w m i = 1
  | 0, _ => Or.inr rfl
  | m + 1, i => by
    simp only [gtN]
    split
    · split
      · exact gt_01 m (i + 1)
      · exact Or.inl rfl
    · exact Or.inr rfl
theorem gt_nar {f : Nat → Int32} {z : Nat} {d : Nat → Int32} {r : Nat} {w : Int32} (m i : Nat) : narrow .boolean (.int (gtN f z d r w m i)) = .int (gtN f z d r w m i) := by
  rcases gt_01 (f := f) (z := z) (d := d) (r := r) (w := w) m i with h | h <;> rw [h] <;> rfl
