/-! the two memories side by side -/
def RlH (μ ν : Me) : Prop := LH μ 1 (ν.1 1) ∧ IvD (ν.1 1)
def RlK (μ ν : Me) : Prop := μ.1 0 3 = ν.1 0 4 ∧ (¬ μ.1 0 3 = 0 → LH μ 27 (ν.1 4) ∧ IvD (ν.1 4))
def RlF (μ ν : Me) : Prop := ∀ p, p < 7 → μ.1 51 p = ν.1 5 p
def RlT (μ ν : Me) : Prop := ∃ (a : Nat → Nat) (n : Nat), Tz μ a n ∧ Zm ν a n
def RlS (μ ν : Me) : Prop := ∀ s, s < 4 → okB (ν.1 7 s) ∧ Le (ν.1 8 s) 40 ∧ μ.1 (43 + s) 0 = ν.1 7 s ∧ μ.1 (43 + s) 1 = ν.1 8 s ∧ ∀ i, i < 40 → μ.1 (47 + s) i = ν.1 9 (40 * s + i)
def Rl (μ ν : Me) : Prop := RlH μ ν ∧ RlK μ ν ∧ RlF μ ν ∧ RlT μ ν ∧ RlS μ ν
theorem LH_cg {μ : Me} {k : Nat} {d e : Nat → Int32} (h : LH μ k d) (hn : dn d ≤ 8) (he : ∀ j, j < 63 → e j = d j) : LH μ k e := by
  have e0 : dn e = dn d := by show cl (e 0) = cl (d 0); rw [he 0 (by omega)]
  obtain ⟨h1, h2, h3, h4, h5, h6, h7⟩ := h
  refine ⟨?_, ?_, ?_, fun i hi => ?_, fun i hi => ?_, fun i hi => ?_, fun r hr => ?_⟩
  · rw [he _ (by omega)]; exact h1
  · rw [he _ (by omega)]; exact h2
  · rw [he _ (by omega)]; exact h3
  · rw [he _ (by omega)]; exact h4 i hi
  · rw [he _ (by omega)]; exact h5 i hi
  · rw [he _ (by omega)]; exact h6 i hi
  · rw [e0] at hr
    have q := h7 r hr
    unfold LhR at q ⊢
    rw [he _ (by omega), he _ (by omega), he _ (by omega), he _ (by omega), he _ (by omega)]
    exact q
theorem IvD_cg {d e : Nat → Int32} (h : IvD d) (he : ∀ j, j < 63 → e j = d j) : IvD e := by
  have hn := h.n.1
  have e0 : dn e = dn d := by show cl (e 0) = cl (d 0); rw [he 0 (by omega)]
  obtain ⟨h0, h1, h3, h4, h5, hg, h7, h8, h9⟩ := h
  refine ⟨?_, ?_, ?_, ?_, ?_, ?_, fun i hi => ?_, fun r hr => ?_, fun i hi => ?_⟩
  · rw [he _ (by omega)]; exact h0
  · rw [he _ (by omega)]; exact h1
  · rw [he _ (by omega)]; exact h3
  · rw [he _ (by omega)]; exact h4
  · rw [he _ (by omega)]; exact h5
  · rw [he _ (by omega)]; exact hg
  · rw [he _ (by omega)]; exact h7 i hi
  · rw [e0] at hr ⊢
    have q := h8 r hr
    unfold IvR at q ⊢
    rw [he _ (by omega), he _ (by omega), he _ (by omega), he _ (by omega), he _ (by omega)]
    exact q
  · rw [e0, he _ (by omega)]; exact h9 i hi
theorem RlK.cg {μ ν u v : Me} (h : RlK μ ν) (h0 : u.1 0 3 = μ.1 0 3) (hk : ∀ a, 27 ≤ a → a < 40 → u.1 a = μ.1 a) (v0 : v.1 0 4 = ν.1 0 4) (v4 : v.1 4 = ν.1 4) : RlK u v := by
  refine ⟨by rw [h0, v0]; exact h.1, fun hq => ?_⟩
  rw [h0] at hq
  obtain ⟨a, b⟩ := h.2 hq
  rw [v4]
  exact ⟨a.same (fun c h1 h2 => hk c h1 (by omega)) b.n.1, b⟩
theorem RlF.cg {μ ν u v : Me} (h : RlF μ ν) (hu : u.1 51 = μ.1 51) (hv : v.1 5 = ν.1 5) : RlF u v := fun p hp => by rw [hu, hv]; exact h p hp
theorem RlT.cg {μ ν u v : Me} (h : RlT μ ν) (h0 : u.1 40 1 = μ.1 40 1) (h1 : u.1 41 = μ.1 41) (v0 : v.1 0 7 = ν.1 0 7) (v6 : v.1 6 = ν.1 6) : RlT u v := by
  obtain ⟨a, n, hz, hm⟩ := h
  exact ⟨a, n, ⟨by rw [h0]; exact hz.1, hz.2.1, fun i hi => by rw [h1]; exact hz.2.2 i hi⟩, ⟨by rw [v0]; exact hm.1, hm.2.1, fun i hi => by rw [v6]; exact hm.2.2 i hi⟩⟩
theorem RlS.cg {μ ν u v : Me} (h : RlS μ ν) (hu : ∀ a, 43 ≤ a → a < 51 → u.1 a = μ.1 a) (v7 : v.1 7 = ν.1 7) (v8 : v.1 8 = ν.1 8) (v9 : v.1 9 = ν.1 9) : RlS u v := by
  intro s hs
  rw [v7, v8, v9, hu (43 + s) (by omega) (by omega), hu (47 + s) (by omega) (by omega)]
  exact h s hs
theorem RlH.cg {μ ν u v : Me} (h : RlH μ ν) (hu : ∀ a, 1 ≤ a → a < 14 → u.1 a = μ.1 a) (hv : v.1 1 = ν.1 1) : RlH u v := by
  unfold RlH
  rw [hv]
  exact ⟨h.1.same (fun a h1 h2 => hu a h1 (by omega)) h.2.n.1, h.2⟩
/-- the home changes -/
theorem Rl.home {μ ν u v : Me} (h : Rl μ ν) (hu : ∀ a, a = 0 ∨ 27 ≤ a → u.1 a = μ.1 a) (hv : ∀ a, a ≠ 1 → v.1 a = ν.1 a) (hL : LH u 1 (v.1 1)) (hI : IvD (v.1 1)) : Rl u v :=
  ⟨⟨hL, hI⟩, h.2.1.cg (by rw [hu 0 (Or.inl rfl)]) (fun a h1 _ => hu a (Or.inr h1)) (by rw [hv 0 (by decide)]) (hv 4 (by decide)), h.2.2.1.cg (hu 51 (by omega)) (hv 5 (by decide)), h.2.2.2.1.cg (by rw [hu 40 (by omega)]) (hu 41 (by omega)) (by rw [hv 0 (by decide)]) (hv 6 (by decide)), h.2.2.2.2.cg (fun a h1 _ => hu a (by omega)) (hv 7 (by decide)) (hv 8 (by decide)) (hv 9 (by decide))⟩
/-- nothing that counts changes -/
theorem Rl.same {μ ν u v : Me} (h : Rl μ ν) (hu : ∀ a, a < 14 ∨ 27 ≤ a → u.1 a = μ.1 a) (hv : ∀ a, a ≠ 3 → v.1 a = ν.1 a) : Rl u v :=
  ⟨h.1.cg (fun a _ h2 => hu a (Or.inl h2)) (hv 1 (by decide)), h.2.1.cg (by rw [hu 0 (by omega)]) (fun a h1 _ => hu a (Or.inr h1)) (by rw [hv 0 (by decide)]) (hv 4 (by decide)), h.2.2.1.cg (hu 51 (by omega)) (hv 5 (by decide)), h.2.2.2.1.cg (by rw [hu 40 (by omega)]) (hu 41 (by omega)) (by rw [hv 0 (by decide)]) (hv 6 (by decide)), h.2.2.2.2.cg (fun a h1 _ => hu a (by omega)) (hv 7 (by decide)) (hv 8 (by decide)) (hv 9 (by decide))⟩
theorem Rl.tr {μ ν u : Me} (h : Rl μ ν) (ht : Tr μ u) : Rl u ν := h.same ht (fun _ _ => rfl)
theorem Rl.as {μ ν : Me} (h : Rl μ ν) : Rl μ (asM ν) := h.same (fun _ _ => rfl) (fun _ ha => asM_o ha)
/-- something is found -/
theorem Rl.fd {μ ν : Me} (h : Rl μ ν) (p : Nat) (hp : p < 7) : Rl (tlS μ p) (fnS ν p) := by
  have hu : ∀ a, a ≠ 51 → (tlS μ p).1 a = μ.1 a := fun a ha => up_n _ _ _ ha
  have hv : ∀ a, a ≠ 5 → (fnS ν p).1 a = ν.1 a := fun a ha => up_n _ _ _ ha
  refine ⟨h.1.cg (fun a _ h2 => hu a (by omega)) (hv 1 (by decide)), h.2.1.cg (by rw [hu 0 (by omega)]) (fun a _ h2 => hu a (by omega)) (by rw [hv 0 (by decide)]) (hv 4 (by decide)), fun q hq => ?_, h.2.2.2.1.cg (by rw [hu 40 (by omega)]) (hu 41 (by omega)) (by rw [hv 0 (by decide)]) (hv 6 (by decide)), h.2.2.2.2.cg (fun a _ h2 => hu a (by omega)) (hv 7 (by decide)) (hv 8 (by decide)) (hv 9 (by decide))⟩
  have e := h.2.2.1
  unfold tlS fnS
  by_cases q0 : q = p
  · subst q0; rw [up_s, up_s, e q hq]
  · rw [up_i _ _ _ q0, up_i _ _ _ q0]; exact e q hq
/-- two answers, two memories -/
def Ag2 (e : Int32) (m : Me) (e' : Int32) (m' : Me) : Prop := e = e' ∧ Rl m m'
def Ag (P Q : Int32 → Me → Prop) : Prop := ∀ r u r' v, P r u → Q r' v → r = r' ∧ Rl u v
theorem Ag.px {e e' : Int32} {m m' : Me} (h : Ag2 e m e' m') : Ag (Px e m) (Px e' m') := by
  intro r u r' v hp hq
  obtain ⟨a, b⟩ := hp
  obtain ⟨c, d⟩ := hq
  subst a b c d
  exact h
theorem Ag.pt {e e' : Int32} {m m' : Me} (h : Ag2 e m e' m') : Ag (Pt e m) (Px e' m') := by
  intro r u r' v hp hq
  obtain ⟨a, b⟩ := hp
  obtain ⟨c, d⟩ := hq
  subst a c d
  exact ⟨h.1, h.2.tr b⟩
theorem ag_if {c c' : Prop} [Decidable c] [Decidable c'] {a b a' b' : Int32} {m n m' n' : Me} (hc : c ↔ c') (h1 : c → Ag2 a m a' m') (h2 : ¬ c → Ag2 b n b' n') : Ag2 (if c then a else b) (if c then m else n) (if c' then a' else b') (if c' then m' else n') := by
  by_cases h : c
  · rw [if_pos h, if_pos h, if_pos (hc.mp h), if_pos (hc.mp h)]; exact h1 h
  · rw [if_neg h, if_neg h, if_neg (fun q => h (hc.mpr q)), if_neg (fun q => h (hc.mpr q))]; exact h2 h
theorem ag_fd {μ ν : Me} (h : Rl μ ν) {e : Int32} {p : Nat} (hp : p < 7 := by decide) : Ag2 e (tlS μ p) e (fnS ν p) := ⟨rfl, h.fd p hp⟩
/-! settings, the list, residents -/
theorem fit_w {a v : Int32} (hq : ¬ fitS a v = 0) : wiS v (leastS a) (mostS a) = 1 := by
  unfold fitS at hq
  by_cases q : wiS a 0 3 = 1 ∧ wiS v (leastS a) (mostS a) = 1
  · exact q.2
  · rw [if_neg q] at hq; exact absurd rfl hq
theorem wi_le {v : Int32} {m : Nat} (hm : m < 2 ^ 31) (hq : wiS v 0 (nI m) = 1) : Le v m := by
  have q := wiS_1.mp hq
  exact Le_of q.1 q.2 hm
theorem wi_le0 {v : Int32} {m : Nat} (hm : m < 2 ^ 31) (hq : ¬ wiS v 0 (nI m) = 0) : Le v m := wi_le hm ((wi_01 _ _ _).resolve_left hq)
theorem IvD_set {d : Nat → Int32} (hI : IvD d) {a v : Int32} (hq : ¬ fitS a v = 0) : IvD (upd d (3 + cl a) v) := by
  obtain ⟨e, hk⟩ := fit_i hq
  have w := fit_w hq
  have hs : ∀ k, cl a = k → a = nI k := fun k hk => by rw [← hk]; exact e
  refine IvD_upd hI (by omega) (by omega) (fun z => ?_) (fun z => ?_) (fun z => ?_) (fun z => ?_) (by omega) (by omega) (by omega) (by omega) (by omega) (by omega)
  · have e2 : a = 0 := hs 0 (by omega)
    subst e2; exact wi_le (m := 20) (by omega) w
  · have e2 : a = 1 := hs 1 (by omega)
    subst e2; exact wi_le (m := 20) (by omega) w
  · have e2 : a = 2 := hs 2 (by omega)
    subst e2; exact wi_le (m := 8) (by omega) w
  · have e2 : a = 3 := hs 3 (by omega)
    subst e2
    have w2 : ¬ wiS v 1 (nI 12) = 0 := by
      intro z
      have w : wiS v 1 (nI 12) = 1 := w
      rw [w] at z; exact absurd z (by decide)
    obtain ⟨e3, h1, h2⟩ := wi_j (m := 12) (by omega) w2
    exact ⟨cl v, h2, h1, e3⟩
theorem up_o1 {m : Me} {k i : Nat} {v : Int32} (hk : 1 ≤ k ∧ k < 27) : ∀ a, a = 0 ∨ 27 ≤ a → (up m k i v).1 a = m.1 a := fun a ha => up_n _ _ _ (by omega)
theorem up_m1 {m : Me} {i : Nat} {v : Int32} : ∀ a, a ≠ 1 → (up m 1 i v).1 a = m.1 a := fun a ha => up_n _ _ _ ha
theorem ua_m1 {m : Me} {f : Nat → Int32} : ∀ a, a ≠ 1 → (ua m 1 f).1 a = m.1 a := fun a ha => ua_n _ _ ha
theorem ag_set {μ ν : Me} (h : Rl μ ν) {a v : Int32} : Ag2 (if fitS a v = 0 then -1000001 else μ.1 2 (cl a)) (if fitS a v = 0 then tlS μ 0 else up μ 2 (cl a) v) (if fitS a v = 0 then -1000001 else (ν.1 1) (3 + cl a)) (if fitS a v = 0 then fnS ν 0 else up ν 1 (3 + cl a) v) := by
  refine ag_if Iff.rfl (fun _ => ag_fd h) (fun q => ?_)
  obtain ⟨e, hk⟩ := fit_i q
  refine ⟨h.1.1.2.2.2.1 (cl a) (by omega), h.home (up_o1 (by decide)) up_m1 ?_ ?_⟩
  · rw [up_r]; exact LH_upS (k := 1) h.1.1 h.1.2.n.1 (by omega) v
  · rw [up_r]; exact IvD_set h.1.2 q
theorem ag_home {μ ν : Me} (h : Rl μ ν) {a : Int32} : Ag2 (if wiS a 0 3 = 0 then -1000001 else μ.1 2 (cl a)) (if wiS a 0 3 = 0 then tlS μ 0 else μ) (if wiS a 0 3 = 0 then -1000001 else (ν.1 1) (3 + cl a)) (if wiS a 0 3 = 0 then fnS ν 0 else ν) := by
  refine ag_if Iff.rfl (fun _ => ag_fd h) (fun q => ?_)
  obtain ⟨e, hk⟩ := wi_i (m := 3) (by omega) q
  exact ⟨h.1.1.2.2.2.1 (cl a) (by omega), h⟩
theorem ag_visit {μ ν : Me} (h : Rl μ ν) {a v : Int32} : Ag2 (if wiS a 0 5 = 0 ∨ wiS v 0 255 = 0 then -1000001 else μ.1 3 (cl a)) (if wiS a 0 5 = 0 ∨ wiS v 0 255 = 0 then tlS μ 0 else up μ 3 (cl a) v) (if wiS a 0 5 = 0 ∨ wiS v 0 255 = 0 then -1000001 else (ν.1 1) (7 + cl a)) (if wiS a 0 5 = 0 ∨ wiS v 0 255 = 0 then fnS ν 0 else up ν 1 (7 + cl a) v) := by
  refine ag_if Iff.rfl (fun _ => ag_fd h) (fun q => ?_)
  obtain ⟨e, hk⟩ := wi_i (m := 5) (by omega) (fun z => q (Or.inl z))
  have hv := wi_le0 (m := 255) (by omega) (fun z => q (Or.inr z))
  refine ⟨h.1.1.2.2.2.2.1 (cl a) (by omega), h.home (up_o1 (by decide)) up_m1 ?_ ?_⟩
  · rw [up_r]; exact LH_upL (k := 1) h.1.1 h.1.2.n.1 (by omega) v
  · rw [up_r]; exact IvD_upd h.1.2 (by omega) (by omega) (by omega) (by omega) (by omega) (by omega) (fun _ _ => hv) (by omega) (by omega) (by omega) (by omega) (by omega)
theorem ag_visits {μ ν : Me} (h : Rl μ ν) {a : Int32} : Ag2 (if wiS a 0 5 = 0 then -1000001 else μ.1 3 (cl a)) (if wiS a 0 5 = 0 then tlS μ 0 else μ) (if wiS a 0 5 = 0 then -1000001 else (ν.1 1) (7 + cl a)) (if wiS a 0 5 = 0 then fnS ν 0 else ν) := by
  refine ag_if Iff.rfl (fun _ => ag_fd h) (fun q => ?_)
  obtain ⟨e, hk⟩ := wi_i (m := 5) (by omega) q
  exact ⟨h.1.1.2.2.2.2.1 (cl a) (by omega), h⟩
theorem ag_resident {μ ν : Me} (h : Rl μ ν) {a : Int32} : Ag2 (if wiS a 0 6 = 0 then -1000001 else if dn (ν.1 1) < 8 then nI (dn (ν.1 1)) else -1000002) (if wiS a 0 6 = 0 then tlS μ 0 else if dn (ν.1 1) < 8 then up (bgS μ (1 + 3 + 2 + dn (ν.1 1)) a) 1 3 (nI (dn (ν.1 1) + 1)) else tlS μ 1) (if wiS a 0 6 = 0 then -1000001 else if dn (ν.1 1) < 8 then nI (dn (ν.1 1)) else -1000002) (if wiS a 0 6 = 0 then fnS ν 0 else if dn (ν.1 1) < 8 then ua ν 1 (wlD (ν.1 1) (dn (ν.1 1)) a) else fnS ν 1) := by
  refine ag_if Iff.rfl (fun _ => ag_fd h) (fun q => ag_if Iff.rfl (fun q2 => ?_) (fun _ => ag_fd h))
  refine ⟨rfl, h.home (fun b hb => ?_) ua_m1 ?_ ?_⟩
  · rw [up_n _ _ _ (by omega), bgS_o (by omega)]
  · rw [ua_s]; exact LH_wl (k := 1) h.1.1 q2 a
  · rw [ua_s]; exact IvD_wl h.1.2 q2 (wi_le0 (m := 6) (by omega) q)
theorem ag_of {μ ν : Me} (h : Rl μ ν) {r t : Int32} : Ag2 (if wiS r 0 (ν.1 1 0 - 1) = 0 ∨ wiS t 0 8 = 0 then -1000001 else ofS (ν.1 1) (cl r) t) (if wiS r 0 (ν.1 1 0 - 1) = 0 ∨ wiS t 0 8 = 0 then tlS μ 0 else μ) (if wiS r 0 (ν.1 1 0 - 1) = 0 ∨ wiS t 0 8 = 0 then -1000001 else ofS (ν.1 1) (cl r) t) (if wiS r 0 (ν.1 1 0 - 1) = 0 ∨ wiS t 0 8 = 0 then fnS ν 0 else ν) :=
  ag_if Iff.rfl (fun _ => ag_fd h) (fun _ => ⟨rfl, h⟩)
theorem IvD_chg {d : Nat → Int32} (hI : IvD d) {r t v : Int32} (hr : ¬ wiS r 0 (d 0 - 1) = 0) (hf : ¬ ffS (d 0) r t v = 0) : IvD (upd d (13 + 8 * cl t + cl r) v) := by
  have hn := hI.n
  obtain ⟨er, hr2⟩ := has_i hn.1 hn.2 hr
  obtain ⟨et, ht⟩ := ff_i hf
  have hs : ∀ k, cl t = k → t = nI k := fun k hk => by rw [← hk]; exact et
  have hc : cl t = 0 ∨ cl t = 1 ∨ cl t = 2 ∨ cl t = 3 ∨ cl t = 4 := by omega
  rcases hc with q | q | q | q | q
  · have e2 : t = 0 := hs 0 q
    subst e2
    have w : ¬ wiS v 0 (nI 6) = 0 := hf
    exact IvD_upd hI (by omega) (by omega) (by omega) (by omega) (by omega) (by omega) (by omega) (fun _ _ => wi_le0 (by omega) w) (by omega) (by omega) (by omega) (by omega)
  · have e2 : t = 1 := hs 1 q
    subst e2
    have w : ¬ wiS v 0 (nI 99) = 0 := hf
    exact IvD_upd hI (by omega) (by omega) (by omega) (by omega) (by omega) (by omega) (by omega) (by omega) (fun _ _ => wi_le0 (by omega) w) (by omega) (by omega) (by omega)
  · have e2 : t = 2 := hs 2 q
    subst e2
    have w : ¬ (if v = -1 ∨ (¬ wiS v 0 (d 0 - 1) = 0 ∧ ¬ v = r) then (1 : Int32) else 0) = 0 := hf
    refine IvD_upd hI (by omega) (by omega) (by omega) (by omega) (by omega) (by omega) (by omega) (by omega) (by omega) (fun _ _ => ?_) (by omega) (by omega)
    by_cases z : v = -1 ∨ (¬ wiS v 0 (d 0 - 1) = 0 ∧ ¬ v = r)
    · rcases z with z | z
      · exact Or.inl z
      · obtain ⟨ev, hv⟩ := has_i hn.1 hn.2 z.1
        exact Or.inr ⟨cl v, hv, ev⟩
    · rw [if_neg z] at w; exact absurd rfl w
  · have e2 : t = 3 := hs 3 q
    subst e2
    have w : ¬ wiS v 0 (nI 9999) = 0 := hf
    exact IvD_upd hI (by omega) (by omega) (by omega) (by omega) (by omega) (by omega) (by omega) (by omega) (by omega) (by omega) (fun _ _ => wi_le0 (by omega) w) (by omega)
  · have e2 : t = 4 := hs 4 q
    subst e2
    have w : ¬ wiS v 0 (nI 9999) = 0 := hf
    exact IvD_upd hI (by omega) (by omega) (by omega) (by omega) (by omega) (by omega) (by omega) (by omega) (by omega) (by omega) (fun _ _ => wi_le0 (by omega) w) (by omega)
theorem ag_change {μ ν : Me} (h : Rl μ ν) {r t v : Int32} : Ag2 (if wiS r 0 (ν.1 1 0 - 1) = 0 ∨ ffS (ν.1 1 0) r t v = 0 then -1000001 else ν.1 1 (13 + 8 * cl t + cl r)) (if wiS r 0 (ν.1 1 0 - 1) = 0 ∨ ffS (ν.1 1 0) r t v = 0 then tlS μ 0 else up μ (1 + 3 + 2 + cl r) (cl t) v) (if wiS r 0 (ν.1 1 0 - 1) = 0 ∨ ffS (ν.1 1 0) r t v = 0 then -1000001 else ν.1 1 (13 + 8 * cl t + cl r)) (if wiS r 0 (ν.1 1 0 - 1) = 0 ∨ ffS (ν.1 1 0) r t v = 0 then fnS ν 0 else up ν 1 (13 + 8 * cl t + cl r) v) := by
  refine ag_if Iff.rfl (fun _ => ag_fd h) (fun q => ?_)
  have hn := h.1.2.n
  obtain ⟨er, hr2⟩ := has_i hn.1 hn.2 (fun z => q (Or.inl z))
  obtain ⟨et, ht⟩ := ff_i (fun z => q (Or.inr z))
  refine ⟨rfl, h.home (fun b hb => up_n _ _ _ (by omega)) up_m1 ?_ ?_⟩
  · rw [up_r]; exact LH_upR (k := 1) h.1.1 hn.1 (by omega) (by omega) v
  · rw [up_r]; exact IvD_chg h.1.2 (fun z => q (Or.inl z)) (fun z => q (Or.inr z))
theorem ag_go {μ ν : Me} (h : Rl μ ν) {n : Int32} : Ag2 (if wiS n 1 60 = 0 then -1000001 else if ν.1 1 1 + n ≤ 99999 then smL (fun r => suN (cl n) (ν.1 1) (21 + r)) (dn (ν.1 1)) else -1000005) (if wiS n 1 60 = 0 then tlS μ 0 else if ν.1 1 1 + n ≤ 99999 then pnS 1 (dn (ν.1 1)) (cl (ν.1 1 5)) (cl n) μ else tlS μ 4) (if wiS n 1 60 = 0 then -1000001 else if ν.1 1 1 + n ≤ 99999 then smL (fun r => suN (cl n) (ν.1 1) (21 + r)) (dn (ν.1 1)) else -1000005) (if wiS n 1 60 = 0 then fnS ν 0 else if ν.1 1 1 + n ≤ 99999 then ua ν 1 (suN (cl n) (ν.1 1)) else fnS ν 4) := by
  refine ag_if Iff.rfl (fun _ => ag_fd h) (fun q => ag_if Iff.rfl (fun _ => ?_) (fun _ => ag_fd h))
  refine ⟨rfl, h.home (fun b hb => pnS_o h.1.2.n.1 (by omega) _) ua_m1 ?_ ?_⟩
  · rw [ua_s]; exact LH_pn h.1.1 h.1.2 _
  · rw [ua_s]; exact IvD_n h.1.2 _
theorem LH_de {d : Nat → Int32} {m : Me} {k n j : Nat} (hL : LH m k d) (hn : dn d ≤ 8) : LH (deS m k n j) k d := by
  have eo : ∀ a, a ≠ k → (deS m k n j).1 a = m.1 a := fun a ha => by simp only [deS, up_n _ _ _ ha]
  have ek : ∀ i, i < 7 → (deS m k n j).1 k i = m.1 k i := fun i hi => by simp only [deS, up_if]; simp [show i ≠ 7 by omega, show i ≠ 8 by omega, show i ≠ 9 by omega]
  obtain ⟨h1, h2, h3, h4, h5, h6, h7⟩ := hL
  refine ⟨?_, ?_, ?_, fun i hi => ?_, fun i hi => ?_, fun i hi => ?_, fun r hr => ?_⟩
  · rw [ek 3 (by omega)]; exact h1
  · rw [ek 4 (by omega)]; exact h2
  · rw [ek 5 (by omega)]; exact h3
  · rw [eo _ (by omega)]; exact h4 i hi
  · rw [eo _ (by omega)]; exact h5 i hi
  · rw [eo _ (by omega)]; exact h6 i hi
  · have q := h7 r hr
    unfold LhR at q ⊢
    rw [eo _ (by omega)]; exact q
theorem ag_now {μ ν : Me} (h : Rl μ ν) {t : Int32} : Ag2 (nowS (ν.1 1) t) (if t = 3 ∨ t = 4 ∨ t = 5 then deS μ 1 (dn (ν.1 1)) (cl (ν.1 1 5)) else if wiS t 0 7 = 0 then tlS μ 0 else μ) (nowS (ν.1 1) t) (if wiS t 0 7 = 0 then fnS ν 0 else ν) := by
  refine ⟨rfl, ?_⟩
  by_cases q : t = 3 ∨ t = 4 ∨ t = 5
  · rw [if_pos q, if_neg (by rcases q with rfl | rfl | rfl <;> decide)]
    exact h.home (fun b hb => by simp only [deS]; rw [up_n _ _ _ (by omega), up_n _ _ _ (by omega), up_n _ _ _ (by omega)]) (fun _ _ => rfl) (LH_de h.1.1 h.1.2.n.1) h.1.2
  · rw [if_neg q]
    by_cases q2 : wiS t 0 7 = 0
    · rw [if_pos q2, if_pos q2]; exact h.fd 0 (by decide)
    · rw [if_neg q2, if_neg q2]; exact h
theorem ag_ahead {μ ν : Me} (h : Rl μ ν) {r t n : Int32} : Ag2 (if wiS r 0 (ν.1 1 0 - 1) = 0 ∨ ¬ (t = 1 ∨ t = 3 ∨ t = 4) ∨ wiS n 0 100 = 0 then -1000001 else suN (cl n) (ν.1 1) (13 + 8 * cl t + cl r)) (if wiS r 0 (ν.1 1 0 - 1) = 0 ∨ ¬ (t = 1 ∨ t = 3 ∨ t = 4) ∨ wiS n 0 100 = 0 then tlS μ 0 else μ) (if wiS r 0 (ν.1 1 0 - 1) = 0 ∨ ¬ (t = 1 ∨ t = 3 ∨ t = 4) ∨ wiS n 0 100 = 0 then -1000001 else suN (cl n) (ν.1 1) (13 + 8 * cl t + cl r)) (if wiS r 0 (ν.1 1 0 - 1) = 0 ∨ ¬ (t = 1 ∨ t = 3 ∨ t = 4) ∨ wiS n 0 100 = 0 then fnS ν 0 else asM ν) :=
  ag_if Iff.rfl (fun _ => ag_fd h) (fun _ => ⟨rfl, h.as⟩)
