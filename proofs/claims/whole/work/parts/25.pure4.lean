/-! the trial: what it leaves, and a home in which one number is another -/
def Tr (m u : Me) : Prop := ∀ a, (a < 14 ∨ 27 ≤ a) → u.1 a = m.1 a
abbrev Pt (e : Int32) (m : Me) : Int32 → Me → Prop := fun r u => r = e ∧ Tr m u
theorem Tr.rf (m : Me) : Tr m m := fun _ _ => rfl
theorem Tr.trans {m u v : Me} (h : Tr m u) (h2 : Tr u v) : Tr m v := fun a ha => (h2 a ha).trans (h a ha)
theorem Tr.tk {m u : Me} (h : Tr m u) {n : Nat} (hn : n ≤ 8) : Tr m (tkS u 14 1 n) := fun a ha => (tkS_o hn (by omega)).trans (h a ha)
theorem Tr.ps {m u : Me} (h : Tr m u) {n j : Nat} (hn : n ≤ 8) : Tr m (psS u 14 n j) := fun a ha => (psS_o hn (by omega)).trans (h a ha)
theorem Tr.pn {m u : Me} (h : Tr m u) {n j : Nat} (hn : n ≤ 8) (t : Nat) : Tr m (pnS 14 n j t u) := fun a ha => (pnS_o hn (by omega) t).trans (h a ha)
theorem Tr.up {m u : Me} (h : Tr m u) {c i : Nat} {v : Int32} (hc : 14 ≤ c ∧ c < 27) : Tr m (up u c i v) := fun a ha => (up_n _ _ _ (by omega)).trans (h a ha)
theorem Tr.ua {m u : Me} (h : Tr m u) {c : Nat} {f : Nat → Int32} (hc : 14 ≤ c ∧ c < 27) : Tr m (ua u c f) := fun a ha => (ua_n _ _ (by omega)).trans (h a ha)
theorem Tr.tl {m u : Me} (h : Tr m u) (p : Nat) : Tr (tlS m p) (tlS u p) := by
  intro a ha
  unfold tlS
  rw [h 51 (by omega)]
  by_cases e : a = 51
  · subst e; rw [up_r, up_r, h 51 (by omega)]
  · rw [up_n _ _ _ e, up_n _ _ _ e]; exact h a ha
theorem LH.tr {m u : Me} {d : Nat → Int32} (h : LH m 1 d) (ht : Tr m u) (hI : IvD d) : LH u 1 d := h.same (fun a h1 h2 => ht a (by omega)) hI.n.1
theorem dn_upd {d : Nat → Int32} {a : Nat} {v : Int32} (h : a ≠ 0) : dn (upd d a v) = dn d := by show cl (upd d a v 0) = cl (d 0); rw [upd_n _ _ (Ne.symm h)]
theorem LH_upS {m : Me} {k : Nat} {d : Nat → Int32} (h : LH m k d) (hn : dn d ≤ 8) {i : Nat} (hi : i < 4) (v : Int32) : LH (up m (k + 1) i v) k (upd d (3 + i) v) := by
  have e := dn_upd (d := d) (v := v) (a := 3 + i) (by omega)
  obtain ⟨h1, h2, h3, h4, h5, h6, h7⟩ := h
  refine ⟨?_, ?_, ?_, fun j hj => ?_, fun j hj => ?_, fun j hj => ?_, fun r hr => ?_⟩
  · rw [up_n _ _ _ (by omega), upd_n _ _ (by omega)]; exact h1
  · rw [up_n _ _ _ (by omega), upd_n _ _ (by omega)]; exact h2
  · rw [up_n _ _ _ (by omega), upd_n _ _ (by omega)]; exact h3
  · by_cases q : j = i
    · subst q; rw [up_s, upd_s]
    · rw [up_i _ _ _ q, upd_n _ _ (by omega)]; exact h4 j hj
  · rw [up_n _ _ _ (by omega), upd_n _ _ (by omega)]; exact h5 j hj
  · rw [up_n _ _ _ (by omega), upd_n _ _ (by omega)]; exact h6 j hj
  · rw [e] at hr
    have q := h7 r hr
    unfold LhR at q ⊢
    rw [up_n _ _ _ (by omega), upd_n _ _ (by omega), upd_n _ _ (by omega), upd_n _ _ (by omega), upd_n _ _ (by omega), upd_n _ _ (by omega)]
    exact q
theorem LH_upL {m : Me} {k : Nat} {d : Nat → Int32} (h : LH m k d) (hn : dn d ≤ 8) {i : Nat} (hi : i < 6) (v : Int32) : LH (up m (k + 2) i v) k (upd d (7 + i) v) := by
  have e := dn_upd (d := d) (v := v) (a := 7 + i) (by omega)
  obtain ⟨h1, h2, h3, h4, h5, h6, h7⟩ := h
  refine ⟨?_, ?_, ?_, fun j hj => ?_, fun j hj => ?_, fun j hj => ?_, fun r hr => ?_⟩
  · rw [up_n _ _ _ (by omega), upd_n _ _ (by omega)]; exact h1
  · rw [up_n _ _ _ (by omega), upd_n _ _ (by omega)]; exact h2
  · rw [up_n _ _ _ (by omega), upd_n _ _ (by omega)]; exact h3
  · rw [up_n _ _ _ (by omega), upd_n _ _ (by omega)]; exact h4 j hj
  · by_cases q : j = i
    · subst q; rw [up_s, upd_s]
    · rw [up_i _ _ _ q, upd_n _ _ (by omega)]; exact h5 j hj
  · rw [up_n _ _ _ (by omega), upd_n _ _ (by omega)]; exact h6 j hj
  · rw [e] at hr
    have q := h7 r hr
    unfold LhR at q ⊢
    rw [up_n _ _ _ (by omega), upd_n _ _ (by omega), upd_n _ _ (by omega), upd_n _ _ (by omega), upd_n _ _ (by omega), upd_n _ _ (by omega)]
    exact q
theorem LH_upR {m : Me} {k : Nat} {d : Nat → Int32} (h : LH m k d) (hn : dn d ≤ 8) {r f : Nat} (hr : r < 8) (hf : f < 5) (v : Int32) : LH (up m (k + 3 + 2 + r) f v) k (upd d (13 + 8 * f + r) v) := by
  have e := dn_upd (d := d) (v := v) (a := 13 + 8 * f + r) (by omega)
  obtain ⟨h1, h2, h3, h4, h5, h6, h7⟩ := h
  refine ⟨?_, ?_, ?_, fun j hj => ?_, fun j hj => ?_, fun j hj => ?_, fun s hs => ?_⟩
  · rw [up_n _ _ _ (by omega), upd_n _ _ (by omega)]; exact h1
  · rw [up_n _ _ _ (by omega), upd_n _ _ (by omega)]; exact h2
  · rw [up_n _ _ _ (by omega), upd_n _ _ (by omega)]; exact h3
  · rw [up_n _ _ _ (by omega), upd_n _ _ (by omega)]; exact h4 j hj
  · rw [up_n _ _ _ (by omega), upd_n _ _ (by omega)]; exact h5 j hj
  · rw [up_n _ _ _ (by omega), upd_n _ _ (by omega)]; exact h6 j hj
  · rw [e] at hs
    have q := h7 s hs
    unfold LhR at q ⊢
    by_cases z : s = r
    · subst z
      rw [up_r]
      have : f = 0 ∨ f = 1 ∨ f = 2 ∨ f = 3 ∨ f = 4 := by omega
      rcases this with rfl | rfl | rfl | rfl | rfl
      · refine ⟨by rw [upd_s, upd_s], ?_, ?_, ?_, ?_⟩ <;> rw [upd_n _ _ (by omega), upd_n _ _ (by omega)]
        · exact q.2.1
        · exact q.2.2.1
        · exact q.2.2.2.1
        · exact q.2.2.2.2
      · refine ⟨?_, by rw [upd_s, show 21 + s = 13 + 8 * 1 + s by omega, upd_s], ?_, ?_, ?_⟩ <;> rw [upd_n _ _ (by omega), upd_n _ _ (by omega)]
        · exact q.1
        · exact q.2.2.1
        · exact q.2.2.2.1
        · exact q.2.2.2.2
      · refine ⟨?_, ?_, by rw [upd_s, show 29 + s = 13 + 8 * 2 + s by omega, upd_s], ?_, ?_⟩ <;> rw [upd_n _ _ (by omega), upd_n _ _ (by omega)]
        · exact q.1
        · exact q.2.1
        · exact q.2.2.2.1
        · exact q.2.2.2.2
      · refine ⟨?_, ?_, ?_, by rw [upd_s, show 37 + s = 13 + 8 * 3 + s by omega, upd_s], ?_⟩ <;> rw [upd_n _ _ (by omega), upd_n _ _ (by omega)]
        · exact q.1
        · exact q.2.1
        · exact q.2.2.1
        · exact q.2.2.2.2
      · refine ⟨?_, ?_, ?_, ?_, by rw [upd_s, show 45 + s = 13 + 8 * 4 + s by omega, upd_s]⟩ <;> rw [upd_n _ _ (by omega), upd_n _ _ (by omega)]
        · exact q.1
        · exact q.2.1
        · exact q.2.2.1
        · exact q.2.2.2.1
    · rw [up_n _ _ _ (by omega), upd_n _ _ (by omega), upd_n _ _ (by omega), upd_n _ _ (by omega), upd_n _ _ (by omega), upd_n _ _ (by omega)]
      exact q
def kaD (d : Nat → Int32) (a : Int32) : Nat → Int32 := fun j => if 7 ≤ j ∧ j < 13 then d j &&& (a ^^^ (-1)) else d j
theorem kaD_o {d : Nat → Int32} {a : Int32} {j : Nat} (h : j < 7 ∨ 13 ≤ j) : kaD d a j = d j := if_neg (by omega)
theorem kaD_i {d : Nat → Int32} {a : Int32} {j : Nat} (h : j < 6) : kaD d a (7 + j) = d (7 + j) &&& (a ^^^ (-1)) := if_pos (by omega)
theorem LH_ka {m : Me} {k : Nat} {d : Nat → Int32} (h : LH m k d) (hn : dn d ≤ 8) (a : Int32) : LH (ua m (k + 2) (kaL (m.1 (k + 2)) a 6)) k (kaD d a) := by
  have e : dn (kaD d a) = dn d := by show cl (kaD d a 0) = cl (d 0); rw [kaD_o (by omega)]
  obtain ⟨h1, h2, h3, h4, h5, h6, h7⟩ := h
  refine ⟨?_, ?_, ?_, fun j hj => ?_, fun j hj => ?_, fun j hj => ?_, fun r hr => ?_⟩
  · rw [ua_n _ _ (by omega), kaD_o (by omega)]; exact h1
  · rw [ua_n _ _ (by omega), kaD_o (by omega)]; exact h2
  · rw [ua_n _ _ (by omega), kaD_o (by omega)]; exact h3
  · rw [ua_n _ _ (by omega), kaD_o (by omega)]; exact h4 j hj
  · rw [ua_s, kaD_i hj, ← h5 j hj]; exact if_pos hj
  · rw [ua_n _ _ (by omega), kaD_o (by omega)]; exact h6 j hj
  · rw [e] at hr
    have q := h7 r hr
    unfold LhR at q ⊢
    rw [ua_n _ _ (by omega), kaD_o (by omega), kaD_o (by omega), kaD_o (by omega), kaD_o (by omega), kaD_o (by omega)]
    exact q
theorem dn_ka {d : Nat → Int32} {a : Int32} : dn (kaD d a) = dn d := by show cl (kaD d a 0) = cl (d 0); rw [kaD_o (by omega)]
theorem and_n (a b : Nat) : nI a &&& nI b = nI (a &&& b) := by
  unfold nI
  apply Int32.toBitVec_inj.mp
  simp [Int32.toBitVec_and, Int32.toBitVec_ofNat', BitVec.ofNat_and]
theorem Le_and {x y : Int32} (h : Le x 255) : Le (x &&& y) 255 := by
  obtain ⟨k, hk, e⟩ := h
  subst e
  have e2 : y = nI y.toBitVec.toNat := by
    apply Int32.toBitVec_inj.mp
    apply BitVec.eq_of_toNat_eq
    rw [pk_tn y.toBitVec.isLt]
  rw [e2, and_n]
  exact ⟨_, Nat.le_trans Nat.and_le_left hk, rfl⟩
theorem IvD_ka {d : Nat → Int32} (hI : IvD d) (a : Int32) : IvD (kaD d a) := by
  have e := dn_ka (d := d) (a := a)
  have hn := hI.n.1
  obtain ⟨h0, h1, h3, h4, h5, hg, h7, h8, h9⟩ := id hI
  refine ⟨?_, ?_, ?_, ?_, ?_, ?_, fun i hi => ?_, fun r hr => ?_, fun i hi => ?_⟩
  · rw [kaD_o (by omega)]; exact h0
  · rw [kaD_o (by omega)]; exact h1
  · rw [kaD_o (by omega)]; exact h3
  · rw [kaD_o (by omega)]; exact h4
  · rw [kaD_o (by omega)]; exact h5
  · rw [kaD_o (by omega)]; exact hg
  · rw [kaD_i hi]; exact Le_and (h7 i hi)
  · rw [e] at hr ⊢
    have q := h8 r hr
    unfold IvR at q ⊢
    rw [kaD_o (by omega), kaD_o (by omega), kaD_o (by omega), kaD_o (by omega), kaD_o (by omega)]
    exact q
  · rw [e, kaD_o (by omega)]; exact h9 i hi
/-- one number another: what must hold of it -/
theorem IvD_upd {d : Nat → Int32} (hI : IvD d) {a : Nat} {v : Int32} (h0 : a ≠ 0) (h1 : a = 1 → Le v 99999) (h3 : a = 3 → Le v 20) (h4 : a = 4 → Le v 20) (h5 : a = 5 → Le v 8) (h6 : a = 6 → ∃ g, 1 ≤ g ∧ g ≤ 12 ∧ v = nI g) (h7 : 7 ≤ a → a < 13 → Le v 255)
    (hk : 13 ≤ a → a < 21 → Le v 6) (hm : 21 ≤ a → a < 29 → Le v 99) (hf : 29 ≤ a → a < 37 → (v = -1 ∨ ∃ f, f < dn d ∧ v = nI f)) (hw : 37 ≤ a → a < 53 → Le v 9999) (hs : 53 ≤ a → a < 63 → Le v (dn d)) : IvD (upd d a v) := by
  have e := dn_upd (d := d) (v := v) (a := a) h0
  have hn := hI.n.1
  obtain ⟨i0, i1, i3, i4, i5, ig, i7, i8, i9⟩ := id hI
  refine ⟨?_, ?_, ?_, ?_, ?_, ?_, fun i hi => ?_, fun r hr => ?_, fun i hi => ?_⟩
  · rw [upd_n _ _ (Ne.symm h0)]; exact i0
  · unfold upd; split
    · exact h1 (by omega)
    · exact i1
  · unfold upd; split
    · exact h3 (by omega)
    · exact i3
  · unfold upd; split
    · exact h4 (by omega)
    · exact i4
  · unfold upd; split
    · exact h5 (by omega)
    · exact i5
  · unfold upd; split
    · exact h6 (by omega)
    · exact ig
  · unfold upd; split
    · exact h7 (by omega) (by omega)
    · exact i7 i hi
  · rw [e] at hr ⊢
    have q := i8 r hr
    unfold IvR at q ⊢
    refine ⟨?_, ?_, ?_, ?_, ?_⟩ <;> unfold upd <;> split
    · exact hk (by omega) (by omega)
    · exact q.1
    · exact hm (by omega) (by omega)
    · exact q.2.1
    · exact hf (by omega) (by omega)
    · exact q.2.2.1
    · exact hw (by omega) (by omega)
    · exact q.2.2.2.1
    · exact hw (by omega) (by omega)
    · exact q.2.2.2.2
  · rw [e]
    unfold upd; split
    · exact hs (by omega) (by omega)
    · exact i9 i hi
/-- the first number of which something is so -/
def fsN (p : Nat → Int32) : Nat → Nat → Nat
  | 0, i => i
  | m + 1, i => if p i = 0 then fsN p m (i + 1) else i
theorem fsN_y {p : Nat → Int32} {m i : Nat} (h : ¬ p i = 0) : fsN p (m + 1) i = i := if_neg h
theorem fsN_n {p : Nat → Int32} {m i : Nat} (h : p i = 0) : fsN p (m + 1) i = fsN p m (i + 1) := if_pos h
def bsL (f : Nat → Int32) (nm : Nat → Int32) (b : Int32) : Nat → Int32 × Int32
  | 0 => (b, -1)
  | i + 1 => if (bsL f nm b i).2 < f i then (nm i, f i) else bsL f nm b i
theorem bsL_y {f nm : Nat → Int32} {b : Int32} {i : Nat} (h : (bsL f nm b i).2 < f i) : bsL f nm b (i + 1) = (nm i, f i) := if_pos h
theorem bsL_n {f nm : Nat → Int32} {b : Int32} {i : Nat} (h : ¬ (bsL f nm b i).2 < f i) : bsL f nm b (i + 1) = bsL f nm b i := if_neg h
def rcS (g v m c : Int32) : Int32 := if g = 0 then (if v ≤ m then 1 else 0) else if g = 1 then (if m ≤ v then 1 else 0) else (if v ≤ c then 1 else 0)
