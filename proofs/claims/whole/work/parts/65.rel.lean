/-! draws, odds, texts -/
theorem ag_come {μ ν : Me} (h : Rl μ ν) {n : Int32} : Ag (Px (if wiS n 1 20 = 0 then -1000001 else if (ν.1 1) 1 + n ≤ 99999 then smL (fun r => cmD (cl n) (ν.1 1) (21 + r)) (dn (ν.1 1)) else -1000005) (if wiS n 1 20 = 0 then tlS μ 0 else if (ν.1 1) 1 + n ≤ 99999 then cmI (dn (ν.1 1)) (cl ((ν.1 1) 5)) (cl n) μ else tlS μ 4)) (Px (if wiS n 1 20 = 0 then -1000001 else if (ν.1 1) 1 + n ≤ 99999 then smL (fun r => cmD (cl n) (ν.1 1) (21 + r)) (dn (ν.1 1)) else -1000005) (if wiS n 1 20 = 0 then fnS ν 0 else if (ν.1 1) 1 + n ≤ 99999 then ua ν 1 (cmD (cl n) (ν.1 1)) else fnS ν 4)) := by
  refine Ag.px (ag_if Iff.rfl (fun _ => ag_fd h) (fun q => ag_if Iff.rfl (fun _ => ?_) (fun _ => ag_fd h)))
  obtain ⟨a, b, c, e⟩ := cm_all h.1.1 h.1.2 (cl n)
  refine ⟨rfl, h.home (fun b hb => cmI_o h.1.2.n.1 (by omega) _) ua_m1 ?_ ?_⟩
  · rw [ua_s]; exact e
  · rw [ua_s]; exact a
def AgL (P Q : Int64 → Me → Prop) : Prop := ∀ r u r' v, P r u → Q r' v → r = r' ∧ Rl u v
theorem ag_odds {μ ν : Me} (h : Rl μ ν) {r n t : Int32} : AgL (Pl (if wiS r 0 ((ν.1 1) 0 - 1) = 0 ∨ wiS n 0 7 = 0 ∨ wiS t 0 1 = 0 then (-1000001 : Int32).toInt64 else powL (odS (ν.1 1) r t) (cl n)) (if wiS r 0 ((ν.1 1) 0 - 1) = 0 ∨ wiS n 0 7 = 0 ∨ wiS t 0 1 = 0 then tlS μ 0 else μ)) (Pl (if wiS r 0 ((ν.1 1) 0 - 1) = 0 ∨ wiS n 0 7 = 0 ∨ wiS t 0 1 = 0 then (-1000001 : Int32).toInt64 else powL (odS (ν.1 1) r t) (cl n)) (if wiS r 0 ((ν.1 1) 0 - 1) = 0 ∨ wiS n 0 7 = 0 ∨ wiS t 0 1 = 0 then fnS ν 0 else ν)) := by
  intro a u b v hp hq
  obtain ⟨p1, p2⟩ := hp
  obtain ⟨q1, q2⟩ := hq
  subst p1 p2 q1 q2
  refine ⟨rfl, ?_⟩
  split
  · exact h.fd 0 (by decide)
  · exact h
theorem LH_z {m : Me} {k : Nat} {d : Nat → Int32} (hL : LH m k d) (v : Int32) : LH (up m k 5 v) k (upd d 2 v) := by
  have e : dn (upd d 2 v) = dn d := dn_upd (by decide)
  obtain ⟨h1, h2, h3, h4, h5, h6, h7⟩ := hL
  refine ⟨?_, ?_, ?_, fun i hi => ?_, fun i hi => ?_, fun i hi => ?_, fun r hr => ?_⟩
  · rw [up_i _ _ _ (by decide), upd_n _ _ (by omega)]; exact h1
  · rw [up_i _ _ _ (by decide), upd_n _ _ (by omega)]; exact h2
  · rw [up_s, upd_s]
  · rw [up_n _ _ _ (by omega), upd_n _ _ (by omega)]; exact h4 i hi
  · rw [up_n _ _ _ (by omega), upd_n _ _ (by omega)]; exact h5 i hi
  · rw [up_n _ _ _ (by omega), upd_n _ _ (by omega)]; exact h6 i hi
  · rw [e] at hr
    have q := h7 r hr
    unfold LhR at q ⊢
    rw [up_n _ _ _ (by omega), upd_n _ _ (by omega), upd_n _ _ (by omega), upd_n _ _ (by omega), upd_n _ _ (by omega), upd_n _ _ (by omega)]
    exact q
theorem ag_seed {μ ν : Me} (h : Rl μ ν) {v : Int32} : Ag (Px (μ.1 1 5) (up μ 1 5 v)) (Px ((ν.1 1) 2) (up ν 1 2 v)) := by
  refine Ag.px ⟨h.1.1.2.2.1, h.home (up_o1 (by decide)) up_m1 ?_ ?_⟩
  · rw [up_r]; exact LH_z h.1.1 v
  · rw [up_r]; exact IvD_upd h.1.2 (by omega) (by omega) (by omega) (by omega) (by omega) (by omega) (by omega) (by omega) (by omega) (by omega) (by omega) (by omega)
theorem Rl.tape {μ ν u v : Me} (h : Rl μ ν) (hu : ∀ a, a ≠ 40 → a ≠ 41 → u.1 a = μ.1 a) (hv : ∀ a, a ≠ 0 → a ≠ 6 → v.1 a = ν.1 a) (h4 : v.1 0 4 = ν.1 0 4) (ht : RlT u v) : Rl u v :=
  ⟨h.1.cg (fun a _ h2 => hu a (by omega) (by omega)) (hv 1 (by decide) (by decide)), h.2.1.cg (by rw [hu 0 (by decide) (by decide)]) (fun a h1 h2 => hu a (by omega) (by omega)) h4 (hv 4 (by decide) (by decide)), h.2.2.1.cg (hu 51 (by decide) (by decide)) (hv 5 (by decide) (by decide)), ht, h.2.2.2.2.cg (fun a h1 _ => hu a (by omega) (by omega)) (hv 7 (by decide) (by decide)) (hv 8 (by decide) (by decide)) (hv 9 (by decide) (by decide))⟩
/-! a byte of the tape, as the class and as the model keeps it -/
theorem b8_all : ∀ u, u < 256 → nb (nI u) = nb (Int8.ofNat u).toInt32 := by decide +kernel
theorem and255 (x : Int32) : x &&& 255 = nI (x.toBitVec.toNat % 256) := by
  apply Int32.toBitVec_inj.mp
  apply BitVec.eq_of_toNat_eq
  rw [pk_tn (by omega), Int32.toBitVec_and, BitVec.toNat_and]
  exact Nat.and_two_pow_sub_one_eq_mod _ 8
theorem to8 {y : Int32} {u : Nat} (hu : ∀ i, i < 8 → y.toBitVec.getLsbD i = u.testBit i) : y.toInt8 = Int8.ofNat u := by
  apply Int8.toBitVec_inj.mp
  apply BitVec.eq_of_getLsbD_eq
  intro i hi
  rw [Int32.toBitVec_toInt8, BitVec.getLsbD_signExtend]
  have e : (Int8.ofNat u).toBitVec = BitVec.ofNat 8 u := rfl
  rw [e, BitVec.getLsbD_ofNat, if_pos (by omega), hu i hi]
theorem by_bb0 {b : Int32} {k : Nat} (hk : k ≤ 24) (h1 : (us b (nI k)).toBitVec.toNat = b.toBitVec.toNat / 2 ^ k) (h2 : (b >>> (nI k &&& 31)).toBitVec = b.toBitVec.sshiftRight k) : nb (us b (nI k) &&& 255) = nb (b >>> (nI k &&& 31)).toInt8.toInt32 := by
  have e2 : (b >>> (nI k &&& 31)).toInt8 = Int8.ofNat (b.toBitVec.toNat / 2 ^ k % 256) := by
    apply to8
    intro i hi
    rw [h2, BitVec.getLsbD_sshiftRight, show (256 : Nat) = 2 ^ 8 from rfl, Nat.testBit_mod_two_pow, Nat.testBit_div_two_pow]
    simp [hi, show ¬ 32 ≤ i by omega, show k + i < 32 by omega, BitVec.getLsbD]
    rw [Nat.add_comm]
  rw [and255, h1, e2]
  exact b8_all _ (by omega)
theorem by_bb {b : Int32} {c i : Nat} (hc : c ≤ 4) (hi : i < c) : nb (byS b c i) = nb (bbS b c i) := by
  unfold byS bbS
  have e : 8 * (nI c - nI (i + 1)) = nI (8 * (c - (i + 1))) := by
    rw [pk_sub (by omega)]
    show nI 8 * _ = _
    rw [pk_mul]
  rw [e]
  have q : c - (i + 1) = 0 ∨ c - (i + 1) = 1 ∨ c - (i + 1) = 2 ∨ c - (i + 1) = 3 := by omega
  rcases q with q | q | q | q <;> rw [q]
  · exact by_bb0 (by omega) (pk_ushr b 0 0 (by decide)) rfl
  · exact by_bb0 (by omega) (pk_ushr b 8 8 (by decide)) rfl
  · exact by_bb0 (by omega) (pk_ushr b 16 16 (by decide)) rfl
  · exact by_bb0 (by omega) (pk_ushr b 24 24 (by decide)) rfl
theorem fdM_o {μ : Me} {t : Nat} {b : Int32} {c : Nat} {a : Nat} (h1 : a ≠ 40) (h2 : a ≠ 41) : ∀ i, (fdM μ t b c i).1 a = μ.1 a
  | 0 => rfl
  | i + 1 => by simp only [fdM]; rw [up_n _ _ _ h1, up_n _ _ _ h2]; exact fdM_o h1 h2 i
theorem fdB_o {μ : Me} {t : Nat} {b : Int32} {c : Nat} {a : Nat} (h1 : a ≠ 0) (h2 : a ≠ 6) : ∀ i, (fdB μ t b c i).1 a = μ.1 a
  | 0 => rfl
  | i + 1 => by simp only [fdB]; rw [up_n _ _ _ h1, up_n _ _ _ h2]; exact fdB_o h1 h2 i
theorem fdB_4 {μ : Me} {t : Nat} {b : Int32} {c : Nat} : ∀ i, (fdB μ t b c i).1 0 4 = μ.1 0 4
  | 0 => rfl
  | i + 1 => by simp only [fdB]; rw [up_i _ _ _ (by decide), up_n _ _ _ (by decide)]; exact fdB_4 i
theorem fd_nb {μ ν : Me} {t : Nat} {b : Int32} {c : Nat} (hc : c ≤ 4) (h0 : ∀ j, j < t → nb (μ.1 41 j) = nb (ν.1 6 j)) : ∀ i, i ≤ c → ∀ j, j < t + i → nb ((fdM μ t b c i).1 41 j) = nb ((fdB ν t b c i).1 6 j)
  | 0, _, j, hj => h0 j hj
  | i + 1, hi, j, hj => by
    have ih := fd_nb (b := b) hc h0 i (by omega)
    simp only [fdM, fdB]
    rw [up_n (k := 40) (a := 41) _ _ _ (by decide), up_n (k := 0) (a := 6) _ _ _ (by decide)]
    by_cases q : j = t + i
    · subst q; rw [up_s, up_s]; exact by_bb hc (by omega)
    · rw [up_i _ _ _ q, up_i _ _ _ q]; exact ih j (by omega)
theorem ag_feed {μ ν : Me} (h : Rl μ ν) {t : Nat} (ht : t ≤ 120) (h1 : μ.1 40 1 = nI t) (h2 : ν.1 0 7 = nI t) {b n : Int32} : Ag (Px (if wiS n 1 4 = 0 then -1000001 else if nI t + n ≤ 120 then nI (t + cl n) else -1000002) (if wiS n 1 4 = 0 then tlS μ 0 else if nI t + n ≤ 120 then fdM μ t b (cl n) (cl n) else tlS μ 1)) (Px (if wiS n 1 4 = 0 then -1000001 else if nI t + n ≤ 120 then nI (t + cl n) else -1000002) (if wiS n 1 4 = 0 then fnS ν 0 else if nI t + n ≤ 120 then fdB ν t b (cl n) (cl n) else fnS ν 1)) := by
  refine Ag.px (ag_if Iff.rfl (fun _ => ag_fd h) (fun q => ag_if Iff.rfl (fun q2 => ⟨rfl, ?_⟩) (fun _ => ag_fd h)))
  obtain ⟨e, hc, -⟩ := wi_j (m := 4) (by omega) q
  have hl : t + cl n ≤ 120 := by
    rw [e, nI_add] at q2
    exact (le_n (a := t + cl n) (b := 120) (by omega) (by omega)).mp q2
  refine h.tape (fun a h1 h2 => fdM_o h1 h2 _) (fun a h1 h2 => fdB_o h1 h2 _) (fdB_4 _) ?_
  obtain ⟨a, m, hz, hm⟩ := h.2.2.2.1
  have em : m = t := by
    have := hz.1.symm.trans h1
    exact (nI_eq (by have := hz.2.1; omega) (by omega)).mp this
  subst em
  exact ⟨fun j => nb ((fdB ν m b (cl n) (cl n)).1 6 j), m + cl n, ⟨fdM_len h1 _, hl, fun j hj => fd_nb hc (fun j hj => (hz.2.2 j hj).trans (hm.2.2 j hj).symm) (cl n) (Nat.le_refl _) j hj⟩, ⟨fdB_len h2 _, hl, fun _ _ => rfl⟩⟩
theorem tp_eq {μ ν : Me} (h : Rl μ ν) : μ.1 40 1 = ν.1 0 7 := by
  obtain ⟨a, n, hz, hm⟩ := h.2.2.2.1
  exact hz.1.trans hm.1.symm
theorem ag_wipe {μ ν : Me} (h : Rl μ ν)  : Ag (Px (μ.1 40 1) (up μ 40 1 0)) (Px (ν.1 0 7) (up ν 0 7 0)) := by
  refine Ag.px ⟨tp_eq h, h.tape (fun a h1 _ => up_n _ _ _ h1) (fun a h1 _ => up_n _ _ _ h1) (up_i _ _ _ (by decide)) ?_⟩
  exact ⟨fun _ => 0, 0, ⟨up_s _ _ _ _, by omega, fun i hi => by omega⟩, ⟨up_s _ _ _ _, by omega, fun i hi => by omega⟩⟩
theorem ag_text {μ ν : Me} (h : Rl μ ν) {a : Nat → Nat} {n : Nat} (hz : Tz μ a n) : Ag (TX μ (rAll a n 121 1 0 (ν.1 1)) (ν.1 1)) (MT ν (rAll a n 121 1 0 (ν.1 1)) (ν.1 1)) := by
  intro r u r' v hp hq
  obtain ⟨p1, p2, p3⟩ := hp
  obtain ⟨q1, q2, q3, q4⟩ := hq
  have ok := rAll_ok (a := a) hz.2.1 121 (i := 1) (Nat.zero_le n) h.1.2
  have hK : RlK u v := h.2.1.cg (by rw [p2 0 (Or.inl rfl)]) (fun a h1 h2 => p2 a (Or.inr ⟨h1, by omega⟩)) q2 (q3 4 (by decide) (by decide) (by decide))
  have hF : RlF u v := h.2.2.1.cg (p2 51 (Or.inr ⟨by omega, by omega⟩)) (q3 5 (by decide) (by decide) (by decide))
  have hT : RlT u v := ⟨fun _ => 0, 0, ⟨p1, by omega, fun i hi => by omega⟩, ⟨q1, by omega, fun i hi => by omega⟩⟩
  have hS : RlS u v := h.2.2.2.2.cg (fun a h1 h2 => p2 a (Or.inr ⟨by omega, by omega⟩)) (q3 7 (by decide) (by decide) (by decide)) (q3 8 (by decide) (by decide) (by decide)) (q3 9 (by decide) (by decide) (by decide))
  revert ok p3 q4
  cases rAll a n 121 1 0 (ν.1 1) with
  | inl b =>
    intro p3 q4 ok
    have p3 : r = -1 - nI b ∧ LH u 1 (ν.1 1) := p3
    have q4 : r' = -1 - nI b ∧ ∀ j, j < 63 → v.1 1 j = ν.1 1 j := q4
    exact ⟨p3.1.trans q4.1.symm, ⟨LH_cg p3.2 h.1.2.n.1 q4.2, IvD_cg h.1.2 q4.2⟩, hK, hF, hT, hS⟩
  | inr y =>
    intro p3 q4 ok
    have p3 : r = nI y.1 ∧ LH u 1 y.2 := p3
    have q4 : r' = nI y.1 ∧ v.1 1 = y.2 := q4
    have ok : _ ∧ _ ∧ IvD y.2 := ok
    refine ⟨p3.1.trans q4.1.symm, ⟨?_, ?_⟩, hK, hF, hT, hS⟩
    · rw [q4.2]; exact p3.2
    · rw [q4.2]; exact ok.2.2
/-! spots -/
theorem LH_upP {m : Me} {k : Nat} {d : Nat → Int32} (hL : LH m k d) (hn : dn d ≤ 8) {i : Nat} (hi : i < 10) (v : Int32) : LH (up m (k + 4) i v) k (upd d (53 + i) (v + 1)) := by
  have e : dn (upd d (53 + i) (v + 1)) = dn d := dn_upd (by omega)
  obtain ⟨h1, h2, h3, h4, h5, h6, h7⟩ := hL
  refine ⟨?_, ?_, ?_, fun j hj => ?_, fun j hj => ?_, fun j hj => ?_, fun r hr => ?_⟩
  · rw [up_n _ _ _ (by omega), upd_n _ _ (by omega)]; exact h1
  · rw [up_n _ _ _ (by omega), upd_n _ _ (by omega)]; exact h2
  · rw [up_n _ _ _ (by omega), upd_n _ _ (by omega)]; exact h3
  · rw [up_n _ _ _ (by omega), upd_n _ _ (by omega)]; exact h4 j hj
  · rw [up_n _ _ _ (by omega), upd_n _ _ (by omega)]; exact h5 j hj
  · by_cases q : j = i
    · subst q; rw [up_s, upd_s]
    · rw [up_i _ _ _ q, upd_n _ _ (by omega)]; exact h6 j hj
  · rw [e] at hr
    have q := h7 r hr
    unfold LhR at q ⊢
    rw [up_n _ _ _ (by omega), upd_n _ _ (by omega), upd_n _ _ (by omega), upd_n _ _ (by omega), upd_n _ _ (by omega), upd_n _ _ (by omega)]
    exact q
theorem ag_hold {μ ν : Me} (h : Rl μ ν) {s r : Int32} : Ag (Px (if wiS s 0 9 = 0 ∨ (¬ r = -1 ∧ wiS r 0 ((ν.1 1) 0 - 1) = 0) then -1000001 else 1) (if wiS s 0 9 = 0 ∨ (¬ r = -1 ∧ wiS r 0 ((ν.1 1) 0 - 1) = 0) then tlS μ 0 else up μ 5 (cl s) r)) (Px (if wiS s 0 9 = 0 ∨ (¬ r = -1 ∧ wiS r 0 ((ν.1 1) 0 - 1) = 0) then -1000001 else 1) (if wiS s 0 9 = 0 ∨ (¬ r = -1 ∧ wiS r 0 ((ν.1 1) 0 - 1) = 0) then fnS ν 0 else up ν 1 (53 + cl s) (r + 1))) := by
  refine Ag.px (ag_if Iff.rfl (fun _ => ag_fd h) (fun q => ⟨rfl, ?_⟩))
  have hn := h.1.2.n
  obtain ⟨es, hs⟩ := wi_i (m := 9) (by omega) (fun z => q (Or.inl z))
  refine h.home (up_o1 (by decide)) up_m1 ?_ ?_
  · rw [up_r]; exact LH_upP (k := 1) h.1.1 hn.1 (by omega) r
  · rw [up_r]
    refine IvD_upd h.1.2 (by omega) (by omega) (by omega) (by omega) (by omega) (by omega) (by omega) (by omega) (by omega) (by omega) (by omega) (fun _ _ => ?_)
    by_cases z : r = -1
    · subst z; exact ⟨0, by omega, by decide⟩
    · obtain ⟨er, hr⟩ := has_i hn.1 hn.2 (fun y => q (Or.inr ⟨z, y⟩))
      exact ⟨cl r + 1, by omega, by rw [← nI_1, ← er]⟩
theorem ag_as {μ ν : Me} (h : Rl μ ν) {s k : Int32} : Ag (Px (if wiS s 0 9 = 0 ∨ wiS k 0 6 = 0 then -1000001 else asS (ν.1 1) (cl s) k) (if wiS s 0 9 = 0 ∨ wiS k 0 6 = 0 then tlS μ 0 else if (ν.1 1) (53 + cl s) = 0 then tlS μ 5 else if undL 7 ((ν.1 1) (13 + (cl ((ν.1 1) (53 + cl s)) - 1))) k = 0 then tlS μ 2 else μ)) (Px (if wiS s 0 9 = 0 ∨ wiS k 0 6 = 0 then -1000001 else asS (ν.1 1) (cl s) k) (if wiS s 0 9 = 0 ∨ wiS k 0 6 = 0 then fnS ν 0 else if (ν.1 1) (53 + cl s) = 0 then fnS ν 5 else if undL 7 ((ν.1 1) (13 + (cl ((ν.1 1) (53 + cl s)) - 1))) k = 0 then fnS ν 2 else ν)) := by
  refine Ag.px (ag_if Iff.rfl (fun _ => ag_fd h) (fun q => ?_))
  unfold asS
  exact ag_if Iff.rfl (fun _ => ag_fd h) (fun _ => ag_if Iff.rfl (fun _ => ag_fd h) (fun _ => ⟨rfl, h⟩))
