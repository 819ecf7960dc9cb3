/-! sheets -/
theorem Rl.sheets {μ ν u v : Me} (h : Rl μ ν) (hu : ∀ a, a < 43 ∨ 51 ≤ a → u.1 a = μ.1 a) (hv : ∀ a, a < 7 → v.1 a = ν.1 a) (hs : RlS u v) : Rl u v :=
  ⟨h.1.cg (fun a _ h2 => hu a (by omega)) (hv 1 (by decide)), h.2.1.cg (by rw [hu 0 (by omega)]) (fun a h1 h2 => hu a (by omega)) (by rw [hv 0 (by decide)]) (hv 4 (by decide)), h.2.2.1.cg (hu 51 (by omega)) (hv 5 (by decide)), h.2.2.2.1.cg (by rw [hu 40 (by omega)]) (hu 41 (by omega)) (by rw [hv 0 (by decide)]) (hv 6 (by decide)), hs⟩
theorem rl_sheet {μ ν : Me} (h : Rl μ ν) {s : Nat} (hs : s ≤ 3) {b n : Int32} (hb : okB b) (hn : Le (if b = 0 then 0 else n) 40) : Rl (rnS μ (43 + s) b n) (ua (shW ν s b n) 9 (shZ (ν.1 9) s 40)) := by
  refine h.sheets (fun a ha => ?_) (fun a ha => ?_) (fun t ht => ?_)
  · unfold rnS; rw [ua_n _ _ (by omega), up_n _ _ _ (by omega), up_n _ _ _ (by omega)]
  · unfold shW; rw [ua_n _ _ (by omega), up_n _ _ _ (by omega), up_n _ _ _ (by omega)]
  · obtain ⟨a1, a2, a3, a4, a5⟩ := h.2.2.2.2 t ht
    have e7 : (ua (shW ν s b n) 9 (shZ (ν.1 9) s 40)).1 7 = upd (ν.1 7) s b := by
      unfold shW; rw [ua_n _ _ (by decide), up_n _ _ _ (by decide), up_r]
    have e8 : (ua (shW ν s b n) 9 (shZ (ν.1 9) s 40)).1 8 = upd (ν.1 8) s (if b = 0 then 0 else n) := by
      unfold shW; rw [ua_n _ _ (by decide), up_r, up_n _ _ _ (by decide)]
    rw [e7, e8, ua_s]
    unfold rnS
    by_cases q : t = s
    · subst q
      rw [upd_s, upd_s]
      refine ⟨hb, hn, ?_, ?_, fun i hi => ?_⟩
      · rw [ua_n _ _ (by omega), up_i _ _ _ (by decide), up_s]
      · rw [ua_n _ _ (by omega), up_s]
      · rw [show 47 + t = 43 + t + 4 by omega, ua_s]
        unfold fiL shZ
        rw [if_pos hi, if_pos (by omega)]
    · rw [upd_n _ _ q, upd_n _ _ q]
      refine ⟨a1, a2, ?_, ?_, fun i hi => ?_⟩
      · rw [ua_n _ _ (by omega), up_n _ _ _ (by omega), up_n _ _ _ (by omega)]; exact a3
      · rw [ua_n _ _ (by omega), up_n _ _ _ (by omega), up_n _ _ _ (by omega)]; exact a4
      · rw [ua_n _ _ (by omega), up_n _ _ _ (by omega), up_n _ _ _ (by omega)]
        unfold shZ
        rw [if_neg (by omega)]
        exact a5 i hi
theorem ag_sheet {μ ν : Me} (h : Rl μ ν) {s b n : Int32} : Ag (Px (if wiS s 0 3 = 0 ∨ ¬ okB b then -1000001 else if n < 0 then -1000007 else if n ≤ 40 then (if b = 0 then 0 else n) else -1000001) (if wiS s 0 3 = 0 ∨ ¬ okB b then tlS μ 0 else if n < 0 then tlS μ 6 else if n ≤ 40 then rnS μ (43 + cl s) b n else tlS μ 0)) (Px (if wiS s 0 3 = 0 ∨ ¬ okB b then -1000001 else if n < 0 then -1000007 else if n ≤ 40 then (if b = 0 then 0 else n) else -1000001) (if wiS s 0 3 = 0 ∨ ¬ okB b then fnS ν 0 else if n < 0 then fnS ν 6 else if n ≤ 40 then ua (shW ν (cl s) b n) 9 (shZ (ν.1 9) (cl s) 40) else fnS ν 0)) := by
  refine Ag.px (ag_if Iff.rfl (fun _ => ag_fd h) (fun q => ag_if Iff.rfl (fun _ => ag_fd h) (fun q1 => ag_if Iff.rfl (fun q2 => ⟨rfl, ?_⟩) (fun _ => ag_fd h))))
  obtain ⟨es, hs⟩ := wi_i (m := 3) (by omega) (fun z => q (Or.inl z))
  refine rl_sheet h hs (Decidable.not_not.mp (fun z => q (Or.inr z))) ?_
  split
  · exact ⟨0, by omega, rfl⟩
  · exact Le_of (m := 40) (Int32.not_lt.mp q1) q2 (by omega)
theorem ag_lk {μ ν : Me} (h : Rl μ ν) (s : Int32) : Ag2 (lkS μ s) (tlS μ (lkP s)) (lkM ν s) (fnS ν (lkP s)) := by
  rw [lk_eq h]
  exact ag_fd h (lkP_lt _)
theorem ag_write {μ ν : Me} (h : Rl μ ν) {s i v : Int32} : Ag (Px (if lkS μ s = 0 then (if wiS i 0 (μ.1 (43 + cl s) 1 - 1) = 0 then -1000001 else 1) else lkS μ s) (if lkS μ s = 0 then (if wiS i 0 (μ.1 (43 + cl s) 1 - 1) = 0 then tlS μ 0 else up μ (47 + cl s) (cl i) (cutS (μ.1 (43 + cl s) 0) v)) else tlS μ (lkP s))) (Px (if lkM ν s = 0 then (if wiS i 0 (ν.1 8 (cl s) - 1) = 0 then -1000001 else 1) else lkM ν s) (if lkM ν s = 0 then (if wiS i 0 (ν.1 8 (cl s) - 1) = 0 then fnS ν 0 else up ν 9 (40 * cl s + cl i) (cutS (ν.1 7 (cl s)) v)) else fnS ν (lkP s))) := by
  refine Ag.px (ag_if (by rw [lk_eq h]) (fun q => ?_) (fun q => ag_lk h s))
  obtain ⟨es, hs, -⟩ := lk_i q
  obtain ⟨a1, a2, a3, a4, a5⟩ := h.2.2.2.2 (cl s) (by omega)
  rw [a4]
  refine ag_if Iff.rfl (fun _ => ag_fd h) (fun q2 => ⟨rfl, ?_⟩)
  obtain ⟨l1, l2⟩ := a2.cl (by omega)
  obtain ⟨ei, hi⟩ := has_j l1 l2 q2
  generalize cl s = S at hs a1 a2 a3 a4 a5 l1 l2 hi ⊢
  generalize cl i = J at hi ⊢
  rw [a3]
  refine h.sheets (fun a ha => up_n _ _ _ (by omega)) (fun a ha => up_n _ _ _ (by omega)) (fun t ht => ?_)
  obtain ⟨b1, b2, b3, b4, b5⟩ := h.2.2.2.2 t ht
  rw [up_n (k := 9) (a := 7) _ _ _ (by decide), up_n (k := 9) (a := 8) _ _ _ (by decide), up_n (k := 47 + S) (a := 43 + t) _ _ _ (by omega)]
  refine ⟨b1, b2, b3, b4, fun j hj => ?_⟩
  by_cases q : t = S
  · subst q
    by_cases q3 : j = J
    · subst q3; rw [up_s, up_s]
    · rw [up_i _ _ _ q3, up_i _ _ _ (by omega)]; exact b5 j hj
  · rw [up_n (k := 47 + S) (a := 47 + t) _ _ _ (by omega), up_i _ _ _ (by omega)]; exact b5 j hj
theorem rl_copy {μ ν : Me} (h : Rl μ ν) {s f t g n : Nat} (hs : s ≤ 3) (ht : t ≤ 3) (hf : f + n ≤ 40) (hg : g + n ≤ 40) : Rl (ua μ (47 + t) (va_cpy (μ.1 (47 + s)) (μ.1 (47 + t)) f g n)) (cpM ν s f t g n) := by
  unfold cpM
  refine h.sheets (fun a ha => ua_n _ _ (by omega)) (fun a ha => ?_) (fun x hx => ?_)
  · rw [ua_n _ _ (by omega), ua_n _ _ (by omega)]
  · obtain ⟨b1, b2, b3, b4, b5⟩ := h.2.2.2.2 x hx
    obtain ⟨c1, c2, c3, c4, c5⟩ := h.2.2.2.2 s (by omega)
    rw [ua_n (k := 9) (a := 7) _ _ (by decide), ua_n (k := 10) (a := 7) _ _ (by decide), ua_n (k := 9) (a := 8) _ _ (by decide), ua_n (k := 10) (a := 8) _ _ (by decide), ua_n (k := 47 + t) (a := 43 + x) _ _ (by omega), ua_s]
    refine ⟨b1, b2, b3, b4, fun j hj => ?_⟩
    unfold cpN cpP
    by_cases q : x = t
    · subst q
      rw [ua_s]
      unfold va_cpy
      by_cases z : g ≤ j ∧ j < g + n
      · rw [if_pos z, if_pos (by omega), if_pos (by omega), c5 (f + (j - g)) (by omega), show 40 * s + f + (40 * x + j - (40 * x + g)) = 40 * s + (f + (j - g)) by omega]
      · rw [if_neg z, if_neg (by omega)]; exact b5 j hj
    · rw [ua_n _ _ (by omega), if_neg (by omega)]; exact b5 j hj
theorem ag_copy {μ ν : Me} (h : Rl μ ν) {s f t g n : Int32} : Ag (Px (if wiS s 0 3 = 0 ∨ wiS t 0 3 = 0 then -1000001 else if μ.1 (43 + cl s) 0 = 0 ∨ μ.1 (43 + cl t) 0 = 0 then -1000006 else if μ.1 (43 + cl s) 0 = μ.1 (43 + cl t) 0 then (if hrS (μ.1 (43 + cl s) 1) f n = 0 ∨ hrS (μ.1 (43 + cl t) 1) g n = 0 then -1000001 else n) else -1000003) (if wiS s 0 3 = 0 ∨ wiS t 0 3 = 0 then tlS μ 0 else if μ.1 (43 + cl s) 0 = 0 ∨ μ.1 (43 + cl t) 0 = 0 then tlS μ 5 else if μ.1 (43 + cl s) 0 = μ.1 (43 + cl t) 0 then (if hrS (μ.1 (43 + cl s) 1) f n = 0 ∨ hrS (μ.1 (43 + cl t) 1) g n = 0 then tlS μ 0 else ua μ (47 + cl t) (va_cpy (μ.1 (47 + cl s)) (μ.1 (47 + cl t)) (cl f) (cl g) (cl n))) else tlS μ 2)) (Px (if wiS s 0 3 = 0 ∨ wiS t 0 3 = 0 then -1000001 else if ν.1 7 (cl s) = 0 ∨ ν.1 7 (cl t) = 0 then -1000006 else if ν.1 7 (cl s) = ν.1 7 (cl t) then (if hrS (ν.1 8 (cl s)) f n = 0 ∨ hrS (ν.1 8 (cl t)) g n = 0 then -1000001 else n) else -1000003) (if wiS s 0 3 = 0 ∨ wiS t 0 3 = 0 then fnS ν 0 else if ν.1 7 (cl s) = 0 ∨ ν.1 7 (cl t) = 0 then fnS ν 5 else if ν.1 7 (cl s) = ν.1 7 (cl t) then (if hrS (ν.1 8 (cl s)) f n = 0 ∨ hrS (ν.1 8 (cl t)) g n = 0 then fnS ν 0 else cpM ν (cl s) (cl f) (cl t) (cl g) (cl n)) else fnS ν 2)) := by
  refine Ag.px (ag_if Iff.rfl (fun _ => ag_fd h) (fun q => ?_))
  obtain ⟨es, hs⟩ := wi_i (m := 3) (by omega) (fun z => q (Or.inl z))
  obtain ⟨et, ht⟩ := wi_i (m := 3) (by omega) (fun z => q (Or.inr z))
  obtain ⟨a1, a2, a3, a4, a5⟩ := h.2.2.2.2 (cl s) (by omega)
  obtain ⟨b1, b2, b3, b4, b5⟩ := h.2.2.2.2 (cl t) (by omega)
  rw [a3, a4, b3, b4]
  refine ag_if Iff.rfl (fun _ => ag_fd h) (fun _ => ag_if Iff.rfl (fun _ => ag_if Iff.rfl (fun _ => ag_fd h) (fun q2 => ⟨rfl, ?_⟩)) (fun _ => ag_fd h))
  obtain ⟨l1, l2⟩ := a2.cl (by omega)
  obtain ⟨m1, m2⟩ := b2.cl (by omega)
  obtain ⟨e1, e2, e3⟩ := hr_i l1 l2 (fun z => q2 (Or.inl z))
  obtain ⟨f1, f2, f3⟩ := hr_i m1 m2 (fun z => q2 (Or.inr z))
  exact rl_copy h hs ht (by omega) (by omega)
theorem ldN_cg {f g : Nat → Int32} {z : Nat} (hfg : ∀ j, j < z → f j = g j) : ∀ m i, ldN f z m i = ldN g z m i
  | 0, _ => rfl
  | m + 1, i => by
    by_cases q : i < z
    · simp only [ldN]
      rw [hfg i q, ldN_cg hfg m (i + 1)]
    · rw [ldN_0 (fun y => q y.2.1), ldN_0 (fun y => q y.2.1)]
theorem ldN_sp {f : Nat → Int32} {z : Nat} : ∀ m {i : Nat}, i ≤ 6 → ldN f z m i ≤ 6 ∧ ∀ k, i ≤ k → k < ldN f z m i → k < z ∧ ¬ wiS (f k) 0 255 = 0
  | 0, i, h => ⟨h, fun k h1 h2 => by have : k < i := h2; omega⟩
  | m + 1, i, h => by
    by_cases q : i < 6 ∧ i < z ∧ ¬ wiS (f i) 0 255 = 0
    · rw [ldN_1 q]
      obtain ⟨a, b⟩ := ldN_sp (f := f) (z := z) m (i := i + 1) (by omega)
      refine ⟨a, fun k h1 h2 => ?_⟩
      by_cases e : k = i
      · subst e; exact q.2
      · exact b k (by omega) h2
    · rw [ldN_0 q]
      exact ⟨h, fun k h1 h2 => by omega⟩
theorem ldD_o {f d : Nat → Int32} {n j : Nat} (hn : n ≤ 6) (hj : j < 7 ∨ 13 ≤ j) : ldD f d n j = d j := if_neg (by omega)
theorem rl_load {μ ν : Me} (h : Rl μ ν) {f g : Nat → Int32} {n : Nat} (hn : n ≤ 6) (hfg : ∀ j, j < n → f j = g j ∧ Le (g j) 255) : Rl (ua μ 3 (ldF f (μ.1 3) n)) (ua ν 1 (ldD g (ν.1 1) n)) := by
  have hI := h.1.2
  have h8 := hI.n.1
  have e0 : dn (ldD g (ν.1 1) n) = dn (ν.1 1) := by show cl (ldD g (ν.1 1) n 0) = _; rw [ldD_o hn (by omega)]
  have ei : ∀ i, i < 6 → ldD g (ν.1 1) n (7 + i) = if i < n then g i else ν.1 1 (7 + i) := by
    intro i hi
    unfold ldD
    by_cases z : i < n
    · rw [if_pos (by omega), if_pos z]; congr 1; omega
    · rw [if_neg (by omega), if_neg z]
  refine h.home (fun a ha => ua_n _ _ (by omega)) ua_m1 ?_ ?_
  · rw [ua_s]
    obtain ⟨h1, h2, h3, h4, h5, h6, h7⟩ := h.1.1
    refine ⟨?_, ?_, ?_, fun j hj => ?_, fun j hj => ?_, fun j hj => ?_, fun r hr => ?_⟩
    · rw [ua_n _ _ (by omega), ldD_o hn (by omega)]; exact h1
    · rw [ua_n _ _ (by omega), ldD_o hn (by omega)]; exact h2
    · rw [ua_n _ _ (by omega), ldD_o hn (by omega)]; exact h3
    · rw [ua_n _ _ (by omega), ldD_o hn (by omega)]; exact h4 j hj
    · rw [ei j hj]
      show ldF f (μ.1 3) n j = _
      unfold ldF
      by_cases z : j < n
      · rw [if_pos z, if_pos z]; exact (hfg j z).1
      · rw [if_neg z, if_neg z]; exact h5 j hj
    · rw [ua_n _ _ (by omega), ldD_o hn (by omega)]; exact h6 j hj
    · rw [e0] at hr
      have q := h7 r hr
      unfold LhR at q ⊢
      rw [ua_n _ _ (by omega), ldD_o hn (by omega), ldD_o hn (by omega), ldD_o hn (by omega), ldD_o hn (by omega), ldD_o hn (by omega)]
      exact q
  · rw [ua_s]
    obtain ⟨h0, h1, h3, h4, h5, hg, h7, h8', h9⟩ := hI
    refine ⟨?_, ?_, ?_, ?_, ?_, ?_, fun i hi => ?_, fun r hr => ?_, fun i hi => ?_⟩
    · rw [ldD_o hn (by omega)]; exact h0
    · rw [ldD_o hn (by omega)]; exact h1
    · rw [ldD_o hn (by omega)]; exact h3
    · rw [ldD_o hn (by omega)]; exact h4
    · rw [ldD_o hn (by omega)]; exact h5
    · rw [ldD_o hn (by omega)]; exact hg
    · rw [ei i hi]
      split
      · rename_i z; exact (hfg i z).2
      · exact h7 i hi
    · rw [e0] at hr ⊢
      have q := h8' r hr
      unfold IvR at q ⊢
      rw [ldD_o hn (by omega), ldD_o hn (by omega), ldD_o hn (by omega), ldD_o hn (by omega), ldD_o hn (by omega)]
      exact q
    · rw [e0, ldD_o hn (by omega)]; exact h9 i hi
theorem ag_load {μ ν : Me} (h : Rl μ ν) {s : Int32} : Ag (Px (if lkS μ s = 0 then nI (ldN (μ.1 (43 + cl s + 4)) (cl (μ.1 (43 + cl s) 1)) 7 0) else lkS μ s) (if lkS μ s = 0 then ua μ 3 (ldF (μ.1 (43 + cl s + 4)) (μ.1 3) (ldN (μ.1 (43 + cl s + 4)) (cl (μ.1 (43 + cl s) 1)) 7 0)) else tlS μ (lkP s))) (Px (if lkM ν s = 0 then nI (ldN (fun j => ν.1 9 (40 * cl s + j)) (cl (ν.1 8 (cl s))) 7 0) else lkM ν s) (if lkM ν s = 0 then ua ν 1 (ldD (fun j => ν.1 9 (40 * cl s + j)) (ν.1 1) (ldN (fun j => ν.1 9 (40 * cl s + j)) (cl (ν.1 8 (cl s))) 7 0)) else fnS ν (lkP s))) := by
  refine Ag.px (ag_if (by rw [lk_eq h]) (fun q => ?_) (fun q => ag_lk h s))
  obtain ⟨es, hs, -⟩ := lk_i q
  obtain ⟨e, hl, a⟩ := sh_of h (s := cl s) (by omega)
  have e2 : ldN (μ.1 (43 + cl s + 4)) (cl (ν.1 8 (cl s))) 7 0 = ldN (fun j => ν.1 9 (40 * cl s + j)) (cl (ν.1 8 (cl s))) 7 0 := ldN_cg a 7 0
  obtain ⟨s1, s2⟩ := ldN_sp (f := fun j => ν.1 9 (40 * cl s + j)) (z := cl (ν.1 8 (cl s))) 7 (i := 0) (by omega)
  rw [e, e2]
  exact ⟨rfl, rl_load h s1 (fun j hj => ⟨a j (s2 j (by omega) hj).1, wi_le0 (m := 255) (by omega) (s2 j (by omega) hj).2⟩)⟩
theorem jdN_cg {f g : Nat → Int32} {d : Nat → Int32} {z : Nat} (hfg : ∀ j, j < z → f j = g j) : ∀ m i, jdN f d z m i = jdN g d z m i
  | 0, _ => rfl
  | m + 1, i => by
    by_cases q : i < z
    · simp only [jdN]
      rw [hfg i q, jdN_cg hfg m (i + 1)]
    · rw [jdN_e q, jdN_e q]
theorem ag_judge {μ ν : Me} (h : Rl μ ν) {s : Int32} : Ag (Px (if lkS μ s = 0 then jdN (μ.1 (43 + cl s + 4)) (ν.1 1) (cl (μ.1 (43 + cl s) 1)) ((cl (μ.1 (43 + cl s) 1)) + 1) 0 else lkS μ s) (if lkS μ s = 0 then μ else tlS μ (lkP s))) (Px (if lkM ν s = 0 then jdN (fun j => ν.1 9 (40 * cl s + j)) (ν.1 1) (cl (ν.1 8 (cl s))) ((cl (ν.1 8 (cl s))) + 1) 0 else lkM ν s) (if lkM ν s = 0 then ν else fnS ν (lkP s))) := by
  refine Ag.px (ag_if (by rw [lk_eq h]) (fun q => ⟨?_, h⟩) (fun q => ag_lk h s))
  obtain ⟨es, hs, -⟩ := lk_i q
  obtain ⟨e, hl, a⟩ := sh_of h (s := cl s) (by omega)
  rw [e]
  exact jdN_cg a _ _
/-! images, counts -/
theorem ag_image {μ ν : Me} (h : Rl μ ν)  : Ag (Px 1 (up (tkS μ 27 1 (dn (ν.1 1))) 0 3 1)) (Px 1 (up (ua ν 4 (ldF (ν.1 1) (ν.1 4) 63)) 0 4 1)) := by
  have hI := h.1.2
  have hn := hI.n.1
  refine Ag.px ⟨rfl, ?_⟩
  have hL := LH_tk (k := 27) h.1.1 hI (by unfold Ap; omega)
  have hu : ∀ a, a ≠ 0 → (a < 27 ∨ 40 ≤ a) → (up (tkS μ 27 1 (dn (ν.1 1))) 0 3 1).1 a = μ.1 a := fun a h0 ha => by rw [up_n _ _ _ h0]; exact tkS_o hn (by omega)
  have hv : ∀ a, a ≠ 0 → a ≠ 4 → (up (ua ν 4 (ldF (ν.1 1) (ν.1 4) 63)) 0 4 1).1 a = ν.1 a := fun a h0 h4 => by rw [up_n _ _ _ h0, ua_n _ _ h4]
  have v4 : (up (ua ν 4 (ldF (ν.1 1) (ν.1 4) 63)) 0 4 1).1 4 = ldF (ν.1 1) (ν.1 4) 63 := by rw [up_n _ _ _ (by decide), ua_s]
  refine ⟨h.1.cg (fun a h1 h2 => hu a (by omega) (by omega)) (hv 1 (by decide) (by decide)), ⟨?_, fun _ => ?_⟩, h.2.2.1.cg (hu 51 (by omega) (by omega)) (hv 5 (by decide) (by decide)), h.2.2.2.1.cg (by rw [hu 40 (by omega) (by omega)]) (hu 41 (by omega) (by omega)) ?_ (hv 6 (by decide) (by decide)), h.2.2.2.2.cg (fun a h1 _ => hu a (by omega) (by omega)) (hv 7 (by decide) (by decide)) (hv 8 (by decide) (by decide)) (hv 9 (by decide) (by decide))⟩
  · rw [up_s, up_s]
  · rw [v4]
    refine ⟨LH_cg (hL.same (fun a h1 h2 => up_n _ _ _ (by omega)) hn) hn (fun j hj => ldF_in hj), IvD_cg hI (fun j hj => ldF_in hj)⟩
  · rw [up_i _ _ _ (by decide), ua_n _ _ (by decide)]
theorem ag_undo {μ ν : Me} (h : Rl μ ν) : Ag (Px (if μ.1 0 3 = 0 then -1000004 else (tkS μ 1 27 (dn (ν.1 4))).1 1 4) (if μ.1 0 3 = 0 then tlS μ 3 else tkS μ 1 27 (dn (ν.1 4)))) (Px (if ν.1 0 4 = 0 then -1000004 else (ua ν 1 (ldF (ν.1 4) (ν.1 1) 63)).1 1 1) (if ν.1 0 4 = 0 then fnS ν 3 else ua ν 1 (ldF (ν.1 4) (ν.1 1) 63))) := by
  refine Ag.px (ag_if (by rw [h.2.1.1]) (fun _ => ag_fd h) (fun q => ?_))
  obtain ⟨L, I⟩ := h.2.1.2 q
  have hn := I.n.1
  have hL := LH_tk (k := 1) L I (by unfold Ap; omega)
  refine ⟨?_, h.home (fun a ha => tkS_o hn (by omega)) ua_m1 ?_ ?_⟩
  · rw [hL.2.1, ua_s, ldF_in (by decide)]
  · rw [ua_s]; exact LH_cg hL hn (fun j hj => ldF_in hj)
  · rw [ua_s]; exact IvD_cg I (fun j hj => ldF_in hj)
theorem ag_tear {μ ν : Me} (h : Rl μ ν)  : Ag (Px (if μ.1 0 3 = 0 then 0 else 1) (up μ 0 3 0)) (Px (if ν.1 0 4 = 0 then 0 else 1) (up ν 0 4 0)) := by
  refine Ag.px ⟨by rw [h.2.1.1], ?_⟩
  have hu : ∀ a, a ≠ 0 → (up μ 0 3 0).1 a = μ.1 a := fun a ha => up_n _ _ _ ha
  have hv : ∀ a, a ≠ 0 → (up ν 0 4 0).1 a = ν.1 a := fun a ha => up_n _ _ _ ha
  refine ⟨h.1.cg (fun a h1 _ => hu a (by omega)) (hv 1 (by decide)), ⟨?_, fun z => ?_⟩, h.2.2.1.cg (hu 51 (by omega)) (hv 5 (by decide)), h.2.2.2.1.cg (by rw [hu 40 (by omega)]) (hu 41 (by omega)) (up_i _ _ _ (by decide)) (hv 6 (by decide)), h.2.2.2.2.cg (fun a h1 _ => hu a (by omega)) (hv 7 (by decide)) (hv 8 (by decide)) (hv 9 (by decide))⟩
  · rw [up_s, up_s]
  · rw [up_s] at z; exact absurd rfl z
theorem ag_count {μ ν : Me} (h : Rl μ ν) {t : Int32} : Ag (Px (ctS (ν.1 1) (μ.1 40 1) t) (if wiS t 0 7 = 0 then tlS μ 0 else μ)) (Px (ctS (ν.1 1) (ν.1 0 7) t) (if wiS t 0 7 = 0 then fnS ν 0 else ν)) := by
  refine Ag.px ⟨by rw [tp_eq h], ?_⟩
  split
  · exact h.fd 0 (by decide)
  · exact h
theorem ag_status {μ ν : Me} (h : Rl μ ν) {t : Int32} : Ag (Px (if wiS t (-1) 6 = 0 then -1000001 else if t < 0 then smL (fun i => μ.1 51 i) 7 else μ.1 51 (cl t)) (if wiS t (-1) 6 = 0 then tlS μ 0 else μ)) (Px (if wiS t (-1) 6 = 0 then -1000001 else if t < 0 then smL (fun i => ν.1 5 i) 7 else ν.1 5 (cl t)) (if wiS t (-1) 6 = 0 then fnS ν 0 else ν)) := by
  refine Ag.px (ag_if Iff.rfl (fun _ => ag_fd h) (fun q => ⟨?_, h⟩))
  by_cases z : t < 0
  · rw [if_pos z, if_pos z]; exact smL_congr (fun r hr => h.2.2.1 r hr)
  · rw [if_neg z, if_neg z]; exact h.2.2.1 _ (by have := (wi_neg q z).2; omega)
