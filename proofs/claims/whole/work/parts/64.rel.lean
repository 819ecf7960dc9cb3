/-! what would be: the first Sunday, the best choice -/
theorem fsN_sp (p : Nat → Int32) : ∀ m i, i ≤ fsN p m i ∧ fsN p m i ≤ i + m ∧ (∀ k, i ≤ k → k < fsN p m i → p k = 0) ∧ (fsN p m i < i + m → ¬ p (fsN p m i) = 0)
  | 0, i => ⟨Nat.le_refl _, Nat.le_refl _, fun k h1 h2 => by have : k < i := h2; omega, fun h => by have : i < i + 0 := h; omega⟩
  | m + 1, i => by
    by_cases q : p i = 0
    · rw [fsN_n q]
      obtain ⟨a, b, c, d⟩ := fsN_sp p m (i + 1)
      refine ⟨by omega, by omega, fun k h1 h2 => ?_, fun h => d (by omega)⟩
      by_cases e : k = i
      · subst e; exact q
      · exact c k (by omega) h2
    · rw [fsN_y q]
      exact ⟨Nat.le_refl _, by omega, fun k h1 h2 => by omega, fun _ => q⟩
theorem fs_eq {p q : Nat → Int32} {m : Nat} (hpq : ∀ k, k ≤ m → (p k = 0 ↔ q k = 0)) : (fsN p (m + 1) 0 ≤ m ↔ ¬ q (fsN q m 0) = 0) ∧ (¬ q (fsN q m 0) = 0 → fsN p (m + 1) 0 = fsN q m 0) := by
  obtain ⟨a1, a2, a3, a4⟩ := fsN_sp p (m + 1) 0
  obtain ⟨b1, b2, b3, b4⟩ := fsN_sp q m 0
  generalize fsN p (m + 1) 0 = A at *
  generalize fsN q m 0 = B at *
  have k1 : ¬ q B = 0 → A = B := by
    intro h
    have h1 : ¬ B < A := fun z => h ((hpq B (by omega)).mp (a3 B (by omega) z))
    have h2 : ¬ A < B := fun z => a4 (by omega) ((hpq A (by omega)).mpr (b3 A (by omega) z))
    omega
  refine ⟨⟨fun h => ?_, fun h => ?_⟩, k1⟩
  · intro z
    have hB : B = m := by
      rcases Nat.lt_or_ge B m with y | y
      · exact absurd z (b4 (by omega))
      · omega
    have y := a4 (by omega)
    rcases Nat.lt_or_ge A m with x | x
    · exact y ((hpq A (by omega)).mpr (b3 A (by omega) (by omega)))
    · have : A = B := by omega
      rw [this] at y
      exact y ((hpq B (by omega)).mpr z)
  · rw [k1 h]; omega
theorem ag_fs {μ ν : Me} (h : Rl μ ν) {p q : Nat → Int32} {c : Prop} [Decidable c] (hc : c ↔ q (fsN q 200 0) = 0) (hpq : ∀ k, k ≤ 200 → (p k = 0 ↔ q k = 0)) : Ag2 (if fsN p 201 0 ≤ 200 then nI (fsN p 201 0) else -1000004) (if fsN p 201 0 ≤ 200 then μ else tlS μ 3) (if c then -1000004 else nI (fsN q 200 0)) (if c then fnS (asM ν) 3 else asM ν) := by
  obtain ⟨e1, e2⟩ := fs_eq hpq
  by_cases z : c
  · rw [if_pos z, if_pos z, if_neg (fun y => e1.mp y (hc.mp z)), if_neg (fun y => e1.mp y (hc.mp z))]
    exact ag_fd h.as
  · have z2 : ¬ q (fsN q 200 0) = 0 := fun y => z (hc.mpr y)
    rw [if_neg z, if_neg z, if_pos (e1.mpr z2), if_pos (e1.mpr z2), e2 z2]
    exact ⟨rfl, h.as⟩
theorem fsN_cg {p q : Nat → Int32} : ∀ {m i : Nat}, (∀ k, i ≤ k → k < i + m → (p k = 0 ↔ q k = 0)) → fsN p m i = fsN q m i
  | 0, i, _ => rfl
  | m + 1, i, h => by
    have ih := fsN_cg (p := p) (q := q) (m := m) (i := i + 1) (fun k h1 h2 => h k (by omega) (by omega))
    have h0 := h i (by omega) (by omega)
    by_cases z : p i = 0
    · rw [fsN_n z, fsN_n (h0.mp z)]; exact ih
    · rw [fsN_y z, fsN_y (fun y => z (h0.mpr y))]
theorem ag_fs2 {μ ν : Me} (h : Rl μ ν) {p q : Nat → Int32} {m z : Nat} (hpq : ∀ k, k < m → (p k = 0 ↔ q k = 0)) : Ag2 (if fsN p m 0 ≤ z then nI (fsN p m 0) else -1000004) (if fsN p m 0 ≤ z then μ else tlS μ 3) (if fsN q m 0 ≤ z then nI (fsN q m 0) else -1000004) (if fsN q m 0 ≤ z then asM ν else fnS (asM ν) 3) := by
  have e : fsN p m 0 = fsN q m 0 := fsN_cg (fun k _ h2 => hpq k (by omega))
  rw [e]
  exact ag_if Iff.rfl (fun _ => ⟨rfl, h.as⟩) (fun _ => ag_fd h.as)
theorem le_le {x : Int32} {m : Nat} (hm : m < 2 ^ 31) (h : Le x m) : 0 ≤ x ∧ x ≤ nI m := by
  obtain ⟨k, hk, e⟩ := h
  rw [e]
  exact ⟨nI_pos' (by omega), nI_le hk hm⟩
theorem su_R {d : Nat → Int32} (hI : IvD d) (k : Nat) {r : Nat} (hr : r < dn d) : Le (suN k d (21 + r)) 99 ∧ Le (suN k d (45 + r)) 9999 := by
  have q := (IvD_n hI k).2.2.2.2.2.2.2.1 r (by rw [suN_dn hI]; exact hr)
  exact ⟨q.2.1, q.2.2.2.2⟩
theorem if10 {c : Prop} [Decidable c] : (if c then (1 : Int32) else 0) = 0 ↔ ¬ c := by split <;> simp [*]
theorem ag_glad {μ ν : Me} (h : Rl μ ν) {r v : Int32} : Ag (Pt (if wiS r 0 ((ν.1 1) 0 - 1) = 0 ∨ wiS v 0 99 = 0 then -1000001 else (if fsN (fun k => rcS 0 v (suN k (ν.1 1) (21 + cl r)) (suN k (ν.1 1) (45 + cl r))) 201 0 ≤ 200 then nI (fsN (fun k => rcS 0 v (suN k (ν.1 1) (21 + cl r)) (suN k (ν.1 1) (45 + cl r))) 201 0) else -1000004)) (if wiS r 0 ((ν.1 1) 0 - 1) = 0 ∨ wiS v 0 99 = 0 then tlS μ 0 else (if fsN (fun k => rcS 0 v (suN k (ν.1 1) (21 + cl r)) (suN k (ν.1 1) (45 + cl r))) 201 0 ≤ 200 then μ else tlS μ 3))) (Px (if wiS r 0 ((ν.1 1) 0 - 1) = 0 ∨ wiS v 0 99 = 0 then -1000001 else (if (fun k => wiS (suN k (ν.1 1) (21 + cl r)) v 99) (fsN (fun k => wiS (suN k (ν.1 1) (21 + cl r)) v 99) 200 0) = 0 then -1000004 else nI (fsN (fun k => wiS (suN k (ν.1 1) (21 + cl r)) v 99) 200 0))) (if wiS r 0 ((ν.1 1) 0 - 1) = 0 ∨ wiS v 0 99 = 0 then fnS ν 0 else (if (fun k => wiS (suN k (ν.1 1) (21 + cl r)) v 99) (fsN (fun k => wiS (suN k (ν.1 1) (21 + cl r)) v 99) 200 0) = 0 then fnS (asM ν) 3 else asM ν))) := by
  refine Ag.pt (ag_if Iff.rfl (fun _ => ag_fd h) (fun q => ag_fs h Iff.rfl (fun k _ => ?_)))
  have hn := h.1.2.n
  obtain ⟨er, hr⟩ := has_i hn.1 hn.2 (fun z => q (Or.inl z))
  obtain ⟨l1, l2⟩ := su_R h.1.2 k hr
  have b := le_le (m := 99) (by omega) l1
  unfold rcS
  rw [if_pos rfl, wiS_0, if10]
  exact ⟨fun z y => z y.1, fun z y => z ⟨y, b.2⟩⟩
theorem ag_sad {μ ν : Me} (h : Rl μ ν) {r v : Int32} : Ag (Pt (if wiS r 0 ((ν.1 1) 0 - 1) = 0 ∨ wiS v 0 99 = 0 then -1000001 else (if fsN (fun k => rcS 1 v (suN k (ν.1 1) (21 + cl r)) (suN k (ν.1 1) (45 + cl r))) 201 0 ≤ 200 then nI (fsN (fun k => rcS 1 v (suN k (ν.1 1) (21 + cl r)) (suN k (ν.1 1) (45 + cl r))) 201 0) else -1000004)) (if wiS r 0 ((ν.1 1) 0 - 1) = 0 ∨ wiS v 0 99 = 0 then tlS μ 0 else (if fsN (fun k => rcS 1 v (suN k (ν.1 1) (21 + cl r)) (suN k (ν.1 1) (45 + cl r))) 201 0 ≤ 200 then μ else tlS μ 3))) (Px (if wiS r 0 ((ν.1 1) 0 - 1) = 0 ∨ wiS v 0 99 = 0 then -1000001 else (if (fun k => wiS (suN k (ν.1 1) (21 + cl r)) 0 v) (fsN (fun k => wiS (suN k (ν.1 1) (21 + cl r)) 0 v) 200 0) = 0 then -1000004 else nI (fsN (fun k => wiS (suN k (ν.1 1) (21 + cl r)) 0 v) 200 0))) (if wiS r 0 ((ν.1 1) 0 - 1) = 0 ∨ wiS v 0 99 = 0 then fnS ν 0 else (if (fun k => wiS (suN k (ν.1 1) (21 + cl r)) 0 v) (fsN (fun k => wiS (suN k (ν.1 1) (21 + cl r)) 0 v) 200 0) = 0 then fnS (asM ν) 3 else asM ν))) := by
  refine Ag.pt (ag_if Iff.rfl (fun _ => ag_fd h) (fun q => ag_fs h Iff.rfl (fun k _ => ?_)))
  have hn := h.1.2.n
  obtain ⟨er, hr⟩ := has_i hn.1 hn.2 (fun z => q (Or.inl z))
  obtain ⟨l1, l2⟩ := su_R h.1.2 k hr
  have b := le_le (m := 99) (by omega) l1
  unfold rcS
  rw [if_neg (by decide), if_pos rfl, wiS_0, if10]
  exact ⟨fun z y => z y.2, fun z y => z ⟨b.1, y⟩⟩
theorem ag_when {μ ν : Me} (h : Rl μ ν) {r v : Int32} : Ag (Pt (if wiS r 0 ((ν.1 1) 0 - 1) = 0 ∨ wiS v 0 9999 = 0 then -1000001 else (if fsN (fun k => rcS 2 v (suN k (ν.1 1) (21 + cl r)) (suN k (ν.1 1) (45 + cl r))) 201 0 ≤ 200 then nI (fsN (fun k => rcS 2 v (suN k (ν.1 1) (21 + cl r)) (suN k (ν.1 1) (45 + cl r))) 201 0) else -1000004)) (if wiS r 0 ((ν.1 1) 0 - 1) = 0 ∨ wiS v 0 9999 = 0 then tlS μ 0 else (if fsN (fun k => rcS 2 v (suN k (ν.1 1) (21 + cl r)) (suN k (ν.1 1) (45 + cl r))) 201 0 ≤ 200 then μ else tlS μ 3))) (Px (if wiS r 0 ((ν.1 1) 0 - 1) = 0 ∨ wiS v 0 9999 = 0 then -1000001 else (if (fun k => wiS (suN k (ν.1 1) (45 + cl r)) v 9999) (fsN (fun k => wiS (suN k (ν.1 1) (45 + cl r)) v 9999) 200 0) = 0 then -1000004 else nI (fsN (fun k => wiS (suN k (ν.1 1) (45 + cl r)) v 9999) 200 0))) (if wiS r 0 ((ν.1 1) 0 - 1) = 0 ∨ wiS v 0 9999 = 0 then fnS ν 0 else (if (fun k => wiS (suN k (ν.1 1) (45 + cl r)) v 9999) (fsN (fun k => wiS (suN k (ν.1 1) (45 + cl r)) v 9999) 200 0) = 0 then fnS (asM ν) 3 else asM ν))) := by
  refine Ag.pt (ag_if Iff.rfl (fun _ => ag_fd h) (fun q => ag_fs h Iff.rfl (fun k _ => ?_)))
  have hn := h.1.2.n
  obtain ⟨er, hr⟩ := has_i hn.1 hn.2 (fun z => q (Or.inl z))
  obtain ⟨l1, l2⟩ := su_R h.1.2 k hr
  have b := le_le (m := 9999) (by omega) l2
  unfold rcS
  rw [if_neg (by decide), if_neg (by decide), wiS_0, if10]
  exact ⟨fun z y => z y.1, fun z y => z ⟨y, b.2⟩⟩
theorem w_full : ∀ n, n < 9 → ∀ b, b < 2 ^ n → (onL (nI b) 8 = nI n ↔ nI b = 1 <<< (nI n &&& 31) - 1) := by decide +kernel
theorem ag_well {μ ν : Me} (h : Rl μ ν)  : Ag (Pt (if fsN (fun k => if onL (weL (fun r => suN k (ν.1 1) (21 + r)) (dn (ν.1 1))) 8 = (ν.1 1) 0 then (1 : Int32) else 0) 201 0 ≤ 200 then nI (fsN (fun k => if onL (weL (fun r => suN k (ν.1 1) (21 + r)) (dn (ν.1 1))) 8 = (ν.1 1) 0 then (1 : Int32) else 0) 201 0) else -1000004) (if fsN (fun k => if onL (weL (fun r => suN k (ν.1 1) (21 + r)) (dn (ν.1 1))) 8 = (ν.1 1) 0 then (1 : Int32) else 0) 201 0 ≤ 200 then μ else tlS μ 3)) (Px (if (fun k => if weL (fun r => suN k (ν.1 1) (21 + r)) (dn (ν.1 1)) = 1 <<< ((ν.1 1) 0 &&& 31) - 1 then (1 : Int32) else 0) (fsN (fun k => if weL (fun r => suN k (ν.1 1) (21 + r)) (dn (ν.1 1)) = 1 <<< ((ν.1 1) 0 &&& 31) - 1 then (1 : Int32) else 0) 200 0) = 0 then -1000004 else nI (fsN (fun k => if weL (fun r => suN k (ν.1 1) (21 + r)) (dn (ν.1 1)) = 1 <<< ((ν.1 1) 0 &&& 31) - 1 then (1 : Int32) else 0) 200 0)) (if (fun k => if weL (fun r => suN k (ν.1 1) (21 + r)) (dn (ν.1 1)) = 1 <<< ((ν.1 1) 0 &&& 31) - 1 then (1 : Int32) else 0) (fsN (fun k => if weL (fun r => suN k (ν.1 1) (21 + r)) (dn (ν.1 1)) = 1 <<< ((ν.1 1) 0 &&& 31) - 1 then (1 : Int32) else 0) 200 0) = 0 then fnS (asM ν) 3 else asM ν)) := by
  refine Ag.pt (ag_fs h Iff.rfl (fun k _ => ?_))
  have hn := h.1.2.n
  obtain ⟨b, hb, e⟩ := weL_lt (f := fun r => suN k (ν.1 1) (21 + r)) hn.1
  have z := w_full (dn (ν.1 1)) (by omega) b hb
  rw [← hn.2] at z
  rw [if10, if10, e]
  exact not_congr z
theorem bsL_b {f nm : Nat → Int32} {b b' : Int32} (h0 : -1 < f 0) : ∀ i, bsL f nm b (i + 1) = bsL f nm b' (i + 1)
  | 0 => by rw [bsL_y h0, bsL_y h0]
  | i + 1 => by
    have ih := bsL_b (nm := nm) (b := b) (b' := b') h0 i
    by_cases z : (bsL f nm b (i + 1)).2 < f (i + 1)
    · rw [bsL_y z, bsL_y (by rw [← ih]; exact z)]
    · exact (bsL_n z).trans (ih.trans (bsL_n (b := b') (by rw [← ih]; exact z)).symm)
theorem bsL_cg {f g nm : Nat → Int32} {b : Int32} : ∀ {n : Nat}, (∀ i, i < n → f i = g i) → bsL f nm b n = bsL g nm b n
  | 0, _ => rfl
  | n + 1, h => by
    have ih := bsL_cg (f := f) (g := g) (nm := nm) (b := b) (n := n) (fun i hi => h i (by omega))
    simp only [bsL]
    rw [ih, h n (by omega)]
theorem smL_le {f : Nat → Int32} {m : Nat} : ∀ {n : Nat}, (∀ r, r < n → Le (f r) m) → Le (smL f n) (m * n)
  | 0, _ => ⟨0, by omega, rfl⟩
  | n + 1, h => by
    obtain ⟨a, ha, ea⟩ := smL_le (f := f) (m := m) (n := n) (fun r hr => h r (by omega))
    obtain ⟨b, hb, eb⟩ := h n (by omega)
    refine ⟨a + b, ?_, ?_⟩
    · rw [Nat.mul_succ]; omega
    · simp only [smL]; rw [ea, eb, nI_add]
theorem m1_lt {x : Int32} {m : Nat} (hm : m < 2 ^ 31) (h : Le x m) : -1 < x := Int32.lt_of_lt_of_le (show (-1 : Int32) < 0 by decide) (le_le hm h).1
theorem ag_longFor {μ ν : Me} (h : Rl μ ν) {n : Int32} : Ag (Pt (if wiS n 0 40 = 0 then -1000001 else (bsL (fun i => smL (fun r => suN (cl n) (upd (ν.1 1) 6 (nI (i + 1))) (21 + r)) (dn (ν.1 1))) (fun i => nI (i + 1)) 1 12).1) (if wiS n 0 40 = 0 then tlS μ 0 else μ)) (Px (if wiS n 0 40 = 0 then -1000001 else (bsL (fun i => smL (fun r => suN (cl n) (upd (ν.1 1) 6 (nI (i + 1))) (21 + r)) (dn (ν.1 1))) (fun i => nI (i + 1)) 0 12).1) (if wiS n 0 40 = 0 then fnS ν 0 else asM ν)) := by
  refine Ag.pt (ag_if Iff.rfl (fun _ => ag_fd h) (fun q => ⟨?_, h.as⟩))
  have hn := h.1.2.n.1
  have hI2 : IvD (upd (ν.1 1) 6 (nI (0 + 1))) := IvD_upd h.1.2 (by omega) (by omega) (by omega) (by omega) (by omega) (fun _ => ⟨1, by omega, by omega, rfl⟩) (by omega) (by omega) (by omega) (by omega) (by omega) (by omega)
  have e : dn (upd (ν.1 1) 6 (nI (0 + 1))) = dn (ν.1 1) := dn_upd (by decide)
  have l : Le (smL (fun r => suN (cl n) (upd (ν.1 1) 6 (nI (0 + 1))) (21 + r)) (dn (ν.1 1))) (99 * dn (ν.1 1)) := smL_le (fun r hr => (su_R hI2 (cl n) (by rw [e]; exact hr)).1)
  exact congrArg Prod.fst (bsL_b (m1_lt (by omega) l) 11)
theorem ag_chairsFor {μ ν : Me} (h : Rl μ ν) {v n : Int32} : Ag (Pt (if wiS v 0 9999 = 0 ∨ wiS n 0 40 = 0 then -1000001 else (if fsN (fun i => if v ≤ smL (fun r => suN (cl n) (upd (ν.1 1) 3 (nI i)) (45 + r)) (dn (ν.1 1)) then (1 : Int32) else 0) 21 0 ≤ 20 then nI (fsN (fun i => if v ≤ smL (fun r => suN (cl n) (upd (ν.1 1) 3 (nI i)) (45 + r)) (dn (ν.1 1)) then (1 : Int32) else 0) 21 0) else -1000004)) (if wiS v 0 9999 = 0 ∨ wiS n 0 40 = 0 then tlS μ 0 else (if fsN (fun i => if v ≤ smL (fun r => suN (cl n) (upd (ν.1 1) 3 (nI i)) (45 + r)) (dn (ν.1 1)) then (1 : Int32) else 0) 21 0 ≤ 20 then μ else tlS μ 3))) (Px (if wiS v 0 9999 = 0 ∨ wiS n 0 40 = 0 then -1000001 else (if fsN (fun i => if v ≤ smL (fun r => suN (cl n) (upd (ν.1 1) 3 (nI i)) (45 + r)) (dn (ν.1 1)) then (1 : Int32) else 0) 21 0 ≤ 20 then nI (fsN (fun i => if v ≤ smL (fun r => suN (cl n) (upd (ν.1 1) 3 (nI i)) (45 + r)) (dn (ν.1 1)) then (1 : Int32) else 0) 21 0) else -1000004)) (if wiS v 0 9999 = 0 ∨ wiS n 0 40 = 0 then fnS ν 0 else (if fsN (fun i => if v ≤ smL (fun r => suN (cl n) (upd (ν.1 1) 3 (nI i)) (45 + r)) (dn (ν.1 1)) then (1 : Int32) else 0) 21 0 ≤ 20 then asM ν else fnS (asM ν) 3))) := Ag.pt (ag_if Iff.rfl (fun _ => ag_fd h) (fun q => ag_fs2 h (fun k _ => Iff.rfl)))
theorem lo_al {f : Nat → Int32} {v : Int32} (hv : v ≤ 99) : ∀ n, v ≤ loL f n ↔ ¬ alL f v n = 0
  | 0 => ⟨fun _ => show ¬ (1 : Int32) = 0 by decide, fun _ => hv⟩
  | n + 1 => by
    have ih := lo_al (f := f) hv n
    simp only [loL, alL]
    by_cases z : alL f v n = 0
    · rw [if_pos z]
      have y : ¬ v ≤ loL f n := fun y => ih.mp y z
      refine ⟨fun x => absurd ?_ y, fun x => absurd rfl x⟩
      by_cases w : f n < loL f n
      · rw [if_pos w] at x; exact Int32.le_trans x (Int32.le_of_lt w)
      · rw [if_neg w] at x; exact x
    · rw [if_neg z]
      have y := ih.mpr z
      by_cases w : f n < loL f n
      · rw [if_pos w, if10, Decidable.not_not]
      · rw [if_neg w, if10, Decidable.not_not]
        exact ⟨fun _ => Int32.le_trans y (Int32.not_lt.mp w), fun _ => y⟩
theorem ag_volunteersFor {μ ν : Me} (h : Rl μ ν) {v n : Int32} : Ag (Pt (if wiS v 0 99 = 0 ∨ wiS n 0 40 = 0 then -1000001 else (if fsN (fun i => if v ≤ loL (fun r => suN (cl n) (upd (ν.1 1) 5 (nI i)) (21 + r)) (dn (ν.1 1)) then (1 : Int32) else 0) 9 0 ≤ 8 then nI (fsN (fun i => if v ≤ loL (fun r => suN (cl n) (upd (ν.1 1) 5 (nI i)) (21 + r)) (dn (ν.1 1)) then (1 : Int32) else 0) 9 0) else -1000004)) (if wiS v 0 99 = 0 ∨ wiS n 0 40 = 0 then tlS μ 0 else (if fsN (fun i => if v ≤ loL (fun r => suN (cl n) (upd (ν.1 1) 5 (nI i)) (21 + r)) (dn (ν.1 1)) then (1 : Int32) else 0) 9 0 ≤ 8 then μ else tlS μ 3))) (Px (if wiS v 0 99 = 0 ∨ wiS n 0 40 = 0 then -1000001 else (if fsN (fun i => alL (fun r => suN (cl n) (upd (ν.1 1) 5 (nI i)) (21 + r)) v (dn (ν.1 1))) 9 0 ≤ 8 then nI (fsN (fun i => alL (fun r => suN (cl n) (upd (ν.1 1) 5 (nI i)) (21 + r)) v (dn (ν.1 1))) 9 0) else -1000004)) (if wiS v 0 99 = 0 ∨ wiS n 0 40 = 0 then fnS ν 0 else (if fsN (fun i => alL (fun r => suN (cl n) (upd (ν.1 1) 5 (nI i)) (21 + r)) v (dn (ν.1 1))) 9 0 ≤ 8 then asM ν else fnS (asM ν) 3))) := by
  refine Ag.pt (ag_if Iff.rfl (fun _ => ag_fd h) (fun q => ag_fs2 h (fun k _ => ?_)))
  have hv := le_le (m := 99) (by omega) (wi_le0 (m := 99) (v := v) (by omega) (fun z => q (Or.inl z)))
  have e := lo_al (f := fun r => suN (cl n) (upd (ν.1 1) 5 (nI k)) (21 + r)) hv.2 (dn (ν.1 1))
  rw [if10, e, Decidable.not_not]
theorem ag_comeOn {μ ν : Me} (h : Rl μ ν) {r n : Int32} : Ag (Pt (if wiS r 0 ((ν.1 1) 0 - 1) = 0 ∨ wiS n 0 40 = 0 then -1000001 else (bsL (fun i => suN (cl n) (spD (ν.1 1) 0 i (cl r)) (21 + cl r)) nI 0 6).1) (if wiS r 0 ((ν.1 1) 0 - 1) = 0 ∨ wiS n 0 40 = 0 then tlS μ 0 else μ)) (Px (if wiS r 0 ((ν.1 1) 0 - 1) = 0 ∨ wiS n 0 40 = 0 then -1000001 else (bsL (fun i => suN (cl n) (spD (ν.1 1) 0 i (cl r)) (21 + cl r)) nI 0 6).1) (if wiS r 0 ((ν.1 1) 0 - 1) = 0 ∨ wiS n 0 40 = 0 then fnS ν 0 else asM ν)) := Ag.pt (ag_if Iff.rfl (fun _ => ag_fd h) (fun q => ⟨rfl, h.as⟩))
theorem ag_kindFor {μ ν : Me} (h : Rl μ ν) {r n : Int32} : Ag (Pt (if wiS r 0 ((ν.1 1) 0 - 1) = 0 ∨ wiS n 0 40 = 0 then -1000001 else (bsL (fun i => suN (cl n) (spD (ν.1 1) 1 i (cl r)) (21 + cl r)) nI 0 7).1) (if wiS r 0 ((ν.1 1) 0 - 1) = 0 ∨ wiS n 0 40 = 0 then tlS μ 0 else μ)) (Px (if wiS r 0 ((ν.1 1) 0 - 1) = 0 ∨ wiS n 0 40 = 0 then -1000001 else (bsL (fun i => suN (cl n) (spD (ν.1 1) 1 i (cl r)) (21 + cl r)) nI 0 7).1) (if wiS r 0 ((ν.1 1) 0 - 1) = 0 ∨ wiS n 0 40 = 0 then fnS ν 0 else asM ν)) := Ag.pt (ag_if Iff.rfl (fun _ => ag_fd h) (fun q => ⟨rfl, h.as⟩))
/-! friends: choices by number, the resident itself left out -/
def kp (r i : Nat) : Nat := if r ≤ i then i + 1 else i
def kq (r i : Nat) : Nat := if r < i then i + 1 else i
theorem fo_fr {N i r : Nat} (hN : N ≤ 8) (hi : i < N) (hr : r < 8) : foS (nI N) (nI i) (nI r) = frF N (kp r i) := by
  unfold foS frF kp
  rw [nI_1]
  have e1 := le_n (a := r) (b := i) (by omega) (by omega)
  by_cases z : r ≤ i
  · rw [if_pos (e1.mpr z), if_pos z]
    have e2 := lt_n (a := i + 1) (b := N) (by omega) (by omega)
    by_cases y : i + 1 < N
    · rw [if_pos (e2.mpr y), if_neg (by omega)]
    · rw [if_neg (fun x => y (e2.mp x)), if_pos (by omega)]
  · rw [if_neg (fun x => z (e1.mp x)), if_neg z, if_pos ((lt_n (a := i) (b := N) (by omega) (by omega)).mpr hi), if_neg (by omega)]
theorem kq_le {r i : Nat} (h : i ≤ r) : kq r i = i := if_neg (by omega)
theorem kq_gt {r i : Nat} (h : r < i) : kq r i = i + 1 := if_pos h
theorem kp_lt {r i : Nat} (h : i < r) : kp r i = i := if_neg (by omega)
theorem kp_ge {r i : Nat} (h : r ≤ i) : kp r i = i + 1 := if_pos h
theorem fr_1 {G : Nat → Int32} {N r k : Nat} (h : ¬ k = r) : frL G N r (k + 1) = if (frL G N r k).2 < G k then (frF N k, G k) else frL G N r k := if_neg h
theorem fr_step {G : Nat → Int32} {N r i : Nat} : frL G N r (kq r (i + 1)) = if (frL G N r (kq r i)).2 < G (kp r i) then (frF N (kp r i), G (kp r i)) else frL G N r (kq r i) := by
  by_cases a : i < r
  · rw [kq_le (r := r) (i := i + 1) (by omega), kq_le (r := r) (i := i) (by omega), kp_lt a]
    exact fr_1 (by omega)
  · by_cases b : i = r
    · subst b
      rw [kq_gt (r := i) (i := i + 1) (by omega), kq_le (r := i) (i := i) (by omega), kp_ge (Nat.le_refl i)]
      have e : frL G N i (i + 1) = frL G N i i := frL_r rfl
      rw [← e]
      exact fr_1 (by omega)
    · rw [kq_gt (r := r) (i := i + 1) (by omega), kq_gt (r := r) (i := i) (by omega), kp_ge (r := r) (i := i) (by omega)]
      exact fr_1 (by omega)
theorem fr_bs {G : Nat → Int32} {N r : Nat} (h0 : -1 < G (kp r 0)) : ∀ i, (frL G N r (kq r (i + 1))).2 = (bsL (fun i => G (kp r i)) nI 0 (i + 1)).2 ∧ ∃ b, b ≤ i ∧ (bsL (fun i => G (kp r i)) nI 0 (i + 1)).1 = nI b ∧ (frL G N r (kq r (i + 1))).1 = frF N (kp r b)
  | 0 => by
    have e0 : frL G N r (kq r 0) = (-1, -1) := by rw [kq_le (Nat.zero_le r)]; rfl
    have h1 : (bsL (fun i => G (kp r i)) nI 0 0).2 < (fun i => G (kp r i)) 0 := h0
    have e1 : frL G N r (kq r (0 + 1)) = (frF N (kp r 0), G (kp r 0)) := by
      rw [fr_step, e0]
      exact if_pos h0
    rw [e1, bsL_y h1]
    exact ⟨rfl, 0, Nat.le_refl 0, rfl, rfl⟩
  | i + 1 => by
    obtain ⟨a, b, hb, c, d⟩ := fr_bs (N := N) h0 i
    rw [fr_step, a]
    by_cases z : (bsL (fun i => G (kp r i)) nI 0 (i + 1)).2 < (fun i => G (kp r i)) (i + 1)
    · rw [bsL_y z, if_pos z]
      exact ⟨rfl, i + 1, Nat.le_refl _, rfl, rfl⟩
    · rw [bsL_n z, if_neg z]
      exact ⟨a, b, by omega, c, d⟩
theorem ag_friendFor {μ ν : Me} (h : Rl μ ν) {r n : Int32} : Ag (Pt (if wiS r 0 ((ν.1 1) 0 - 1) = 0 ∨ wiS n 0 40 = 0 then -1000001 else foS ((ν.1 1) 0) (bsL (fun i => suN (cl n) (spD (ν.1 1) 2 i (cl r)) (21 + cl r)) nI 0 (dn (ν.1 1))).1 r) (if wiS r 0 ((ν.1 1) 0 - 1) = 0 ∨ wiS n 0 40 = 0 then tlS μ 0 else μ)) (Px (if wiS r 0 ((ν.1 1) 0 - 1) = 0 ∨ wiS n 0 40 = 0 then -1000001 else (frL (fun k => suN (cl n) (upd (ν.1 1) (29 + cl r) (frF (dn (ν.1 1)) k)) (21 + cl r)) (dn (ν.1 1)) (cl r) (dn (ν.1 1) + 1)).1) (if wiS r 0 ((ν.1 1) 0 - 1) = 0 ∨ wiS n 0 40 = 0 then fnS ν 0 else asM ν)) := by
  refine Ag.pt (ag_if Iff.rfl (fun _ => ag_fd h) (fun q => ⟨?_, h.as⟩))
  have hI := h.1.2
  have hn := hI.n
  obtain ⟨er, hr⟩ := has_i hn.1 hn.2 (fun z => q (Or.inl z))
  obtain ⟨N, hN⟩ : ∃ N, dn (ν.1 1) = N := ⟨_, rfl⟩
  rw [hN] at hn hr ⊢
  have e0 : ∀ i, i < N → foS (ν.1 1 0) (nI i) (nI (cl r)) = frF N (kp (cl r) i) := fun i hi => by rw [hn.2]; exact fo_fr hn.1 hi (by omega)
  have e1 : ∀ i, i < N → suN (cl n) (spD (ν.1 1) 2 i (cl r)) (21 + cl r) = (fun k => suN (cl n) (upd (ν.1 1) (29 + cl r) (frF N k)) (21 + cl r)) (kp (cl r) i) := fun i hi => by
    show _ = suN (cl n) (upd (ν.1 1) (29 + cl r) (frF N (kp (cl r) i))) (21 + cl r)
    unfold spD
    rw [if_neg (by decide), if_neg (by decide), e0 i hi]
  rw [bsL_cg e1]
  obtain ⟨M, hM⟩ : ∃ M, N = M + 1 := ⟨N - 1, by omega⟩
  have l0 : Le (suN (cl n) (spD (ν.1 1) 2 0 (cl r)) (21 + cl r)) 99 := (su_R (IvD_sp hI (Or.inr (Or.inr ⟨rfl, hN.symm⟩)) (by omega) (by omega)) (cl n) (by rw [dn_sp, hN]; exact hr)).1
  rw [e1 0 (by omega)] at l0
  obtain ⟨-, b, hb, c, d⟩ := fr_bs (G := fun k => suN (cl n) (upd (ν.1 1) (29 + cl r) (frF N k)) (21 + cl r)) (N := N) (r := cl r) (m1_lt (by omega) l0) M
  have ek : kq (cl r) (M + 1) = N + 1 := by unfold kq; rw [if_pos (by omega)]; omega
  rw [ek] at d
  rw [← hM] at c
  rw [d]
  refine (congrArg (fun z => foS (ν.1 1 0) z r) c).trans ?_
  show foS (ν.1 1 0) (nI b) r = _
  have e2 := e0 b (by omega)
  rw [← er] at e2
  exact e2
/-! who must stay away -/
theorem on_lt : ∀ i, i < 256 → ∀ r, r < 8 → bitS (nI i) (nI r) = 0 → onL (nI i) 8 < 8 := by decide +kernel
theorem well_0 {m : Int32} : wellS m = 0 ↔ m < 60 := by unfold wellS; rw [if10, Int32.not_le]
theorem aw_eq {f : Nat → Int32} {r N : Nat} (hN : N ≤ 8) (hr : r < 8) : ∀ i, i ≤ 2 ^ N → (awL f (nI r) i = (-1000004, 8) ∧ awM f (nI r) i = -1) ∨ ∃ j, j < i ∧ awL f (nI r) i = (nI j, bcS (nI j)) ∧ awM f (nI r) i = nI j
  | 0, _ => Or.inl ⟨rfl, rfl⟩
  | i + 1, hi => by
    have h2 : 2 ^ N ≤ 2 ^ 8 := Nat.pow_le_pow_right (by decide) hN
    have ih := aw_eq (f := f) hN hr i (by omega)
    have eb : isS (nI i) (nI r) = bitS (nI i) (nI r) := is_bit (by omega)
    have ec : bcS (nI i) = onL (nI i) 8 := bc_on (by omega)
    have key : (¬ isS (nI i) (nI r) = 0 ∨ ¬ bcS (nI i) < (awL f (nI r) i).2 ∨ wellS (f i) = 0) ↔ (bitS (nI i) (nI r) = 1 ∨ (¬ awM f (nI r) i < 0 ∧ ¬ onL (nI i) 8 < onL (awM f (nI r) i) 8) ∨ f i < 60) := by
      rw [eb, ec, well_0]
      rcases bit01 (nI i) (nI r) with z | z
      · have o := on_lt i (by omega) r hr z
        rw [z]
        rcases ih with ⟨a, b⟩ | ⟨j, hj, a, b⟩
        · rw [a, b]
          constructor
          · intro y
            rcases y with y | y | y
            · exact absurd rfl y
            · exact absurd o y
            · exact Or.inr (Or.inr y)
          · intro y
            rcases y with y | y | y
            · exact absurd y (by decide)
            · exact absurd (show (-1 : Int32) < 0 by decide) y.1
            · exact Or.inr (Or.inr y)
        · have ej : bcS (nI j) = onL (nI j) 8 := bc_on (by omega)
          have e : (nI j, bcS (nI j)).2 = onL (nI j) 8 := ej
          rw [a, b, e]
          constructor
          · intro y
            rcases y with y | y | y
            · exact absurd rfl y
            · exact Or.inr (Or.inl ⟨nI_pos (by omega), y⟩)
            · exact Or.inr (Or.inr y)
          · intro y
            rcases y with y | y | y
            · exact absurd y (by decide)
            · exact Or.inr (Or.inl y.2)
            · exact Or.inr (Or.inr y)
      · rw [z]
        exact ⟨fun _ => Or.inl rfl, fun _ => Or.inl (by decide)⟩
    by_cases c : ¬ isS (nI i) (nI r) = 0 ∨ ¬ bcS (nI i) < (awL f (nI r) i).2 ∨ wellS (f i) = 0
    · rw [awL_n c, awM_n (key.mp c)]
      rcases ih with a | ⟨j, hj, a⟩
      · exact Or.inl a
      · exact Or.inr ⟨j, by omega, a⟩
    · rw [awL_y c, awM_y (fun y => c (key.mpr y))]
      exact Or.inr ⟨i, by omega, rfl, rfl⟩
theorem ag_aw {μ ν : Me} (h : Rl μ ν) {x : Int32 × Int32} {y : Int32} (e : (x = (-1000004, 8) ∧ y = -1) ∨ ∃ j, j < 256 ∧ x = (nI j, bcS (nI j)) ∧ y = nI j) : Ag2 (if x.1 = -1000004 then -1000004 else x.1) (if x.1 = -1000004 then tlS μ 3 else μ) (if y < 0 then -1000004 else y) (if y < 0 then fnS (asM ν) 3 else asM ν) := by
  rcases e with ⟨a, b⟩ | ⟨j, hj, a, b⟩
  · subst a b
    rw [if_pos rfl, if_pos rfl, if_pos (show (-1 : Int32) < 0 by decide), if_pos (show (-1 : Int32) < 0 by decide)]
    exact ag_fd h.as
  · subst a b
    have h1 : ¬ (nI j, bcS (nI j)).1 = -1000004 := fun z => by
      have z : nI j = -1000004 := z
      have y := nI_pos (n := j) (by omega)
      rw [z] at y
      exact y (by decide)
    rw [if_neg h1, if_neg h1, if_neg (nI_pos (by omega)), if_neg (nI_pos (by omega))]
    exact ⟨rfl, h.as⟩
theorem ag_away {μ ν : Me} (h : Rl μ ν) {r n : Int32} : Ag (Pt (if wiS r 0 ((ν.1 1) 0 - 1) = 0 ∨ wiS n 0 20 = 0 then -1000001 else if (awL (fun i => suN (cl n) (kaD (ν.1 1) (nI i)) (21 + cl r)) r (2 ^ dn (ν.1 1))).1 = -1000004 then -1000004 else (awL (fun i => suN (cl n) (kaD (ν.1 1) (nI i)) (21 + cl r)) r (2 ^ dn (ν.1 1))).1) (if wiS r 0 ((ν.1 1) 0 - 1) = 0 ∨ wiS n 0 20 = 0 then tlS μ 0 else if (awL (fun i => suN (cl n) (kaD (ν.1 1) (nI i)) (21 + cl r)) r (2 ^ dn (ν.1 1))).1 = -1000004 then tlS μ 3 else μ)) (Px (if wiS r 0 ((ν.1 1) 0 - 1) = 0 ∨ wiS n 0 20 = 0 then -1000001 else if awM (fun i => suN (cl n) (kaD (ν.1 1) (nI i)) (21 + cl r)) r (2 ^ dn (ν.1 1)) < 0 then -1000004 else awM (fun i => suN (cl n) (kaD (ν.1 1) (nI i)) (21 + cl r)) r (2 ^ dn (ν.1 1))) (if wiS r 0 ((ν.1 1) 0 - 1) = 0 ∨ wiS n 0 20 = 0 then fnS ν 0 else if awM (fun i => suN (cl n) (kaD (ν.1 1) (nI i)) (21 + cl r)) r (2 ^ dn (ν.1 1)) < 0 then fnS (asM ν) 3 else asM ν)) := by
  refine Ag.pt (ag_if Iff.rfl (fun _ => ag_fd h) (fun q => ag_aw h ?_))
  have hn := h.1.2.n
  obtain ⟨er, hr⟩ := has_i hn.1 hn.2 (fun z => q (Or.inl z))
  have h2 : 2 ^ dn (ν.1 1) ≤ 2 ^ 8 := Nat.pow_le_pow_right (by decide) hn.1
  have e := aw_eq (f := fun i => suN (cl n) (kaD (ν.1 1) (nI i)) (21 + cl r)) (r := cl r) hn.1 (by omega) (2 ^ dn (ν.1 1)) (Nat.le_refl _)
  rw [← er] at e
  rcases e with e | ⟨j, hj, e⟩
  · exact Or.inl e
  · exact Or.inr ⟨j, by omega, e⟩
/-! sheets: what they tell -/
theorem lk_eq {μ ν : Me} (h : Rl μ ν) (s : Int32) : lkS μ s = lkM ν s := by
  unfold lkS lkM
  by_cases q : wiS s 0 3 = 0
  · rw [if_pos q, if_pos q]
  · obtain ⟨e, hs⟩ := wi_i (m := 3) (by omega) q
    rw [if_neg q, if_neg q, (h.2.2.2.2 (cl s) (by omega)).2.2.1]
theorem lf_eq {μ ν : Me} (h : Rl μ ν) (s r : Int32) : lfS μ s r = lfM ν s r := by
  unfold lfS lfM
  rw [lk_eq h, h.1.1.1]
theorem lfp_eq {μ ν : Me} (h : Rl μ ν) (s : Int32) : lfP μ s = lfQ ν s := by
  unfold lfP lfQ
  rw [lk_eq h]
theorem ag_lf {μ ν : Me} (h : Rl μ ν) (s r : Int32) : Ag2 (lfS μ s r) (tlS μ (lfP μ s)) (lfM ν s r) (fnS ν (lfQ ν s)) := by
  rw [lf_eq h, lfp_eq h]
  exact ag_fd h (lfQ_lt _ _)
theorem gt_cg {f g : Nat → Int32} {z : Nat} {d : Nat → Int32} {r : Nat} {w : Int32} (hfg : ∀ j, j < z → f j = g j) : ∀ m i, gtN f z d r w m i = gtN g z d r w m i
  | 0, _ => rfl
  | m + 1, i => by
    simp only [gtN]
    by_cases q : i < z
    · rw [if_pos q, if_pos q, hfg i q, gt_cg hfg m (i + 1)]
    · rw [if_neg q, if_neg q]
theorem sh_of {μ ν : Me} (h : Rl μ ν) {s : Nat} (hs : s < 4) : cl (μ.1 (43 + s) 1) = cl (ν.1 8 s) ∧ cl (ν.1 8 s) ≤ 40 ∧ ∀ j, j < cl (ν.1 8 s) → μ.1 (43 + s + 4) j = ν.1 9 (40 * s + j) := by
  obtain ⟨-, l, -, e, a⟩ := h.2.2.2.2 s hs
  have hl := (l.cl (by omega)).1
  refine ⟨by rw [e], hl, fun j hj => ?_⟩
  rw [show 43 + s + 4 = 47 + s by omega]
  exact a j (by omega)
theorem gt_of {μ ν : Me} (h : Rl μ ν) {s : Nat} (hs : s < 4) (d : Nat → Int32) (r : Nat) (w : Int32) : gtN (μ.1 (43 + s + 4)) (cl (μ.1 (43 + s) 1)) d r w ((cl (μ.1 (43 + s) 1)) + 1) 0 = gtN (fun j => ν.1 9 (40 * s + j)) (cl (ν.1 8 s)) d r w ((cl (ν.1 8 s)) + 1) 0 := by
  obtain ⟨e, -, a⟩ := sh_of h hs
  rw [e]
  exact gt_cg a _ _
theorem ag_fits {μ ν : Me} (h : Rl μ ν) {s r : Int32} : Ag (Pt (if lfS μ s r = 0 then cnL (fun i => gtN (μ.1 (43 + cl s + 4)) (cl (μ.1 (43 + cl s) 1)) (upd (ν.1 1) (21 + cl r) (nI i)) (cl r) 1 ((cl (μ.1 (43 + cl s) 1)) + 1) 0) 100 else lfS μ s r) (if lfS μ s r = 0 then μ else tlS μ (lfP μ s))) (Px (if lfM ν s r = 0 then cnL (fun i => gtN (fun j => ν.1 9 (40 * cl s + j)) (cl (ν.1 8 (cl s))) (upd (ν.1 1) (21 + cl r) (nI i)) (cl r) 1 ((cl (ν.1 8 (cl s))) + 1) 0) 100 else lfM ν s r) (if lfM ν s r = 0 then asM ν else fnS ν (lfQ ν s))) := by
  refine Ag.pt (ag_if (by rw [lf_eq h]) (fun q => ⟨?_, h.as⟩) (fun q => ag_lf h s r))
  have q2 := (lf_i q).1
  have hs := (lk_i q2).2.1
  exact congrArg (fun g => cnL g 100) (funext (fun i => gt_of h (by omega) _ _ _))
theorem ag_mood {μ ν : Me} (h : Rl μ ν) {s r : Int32} : Ag (Pt (if lfS μ s r = 0 then (if fsN (fun i => gtN (μ.1 (43 + cl s + 4)) (cl (μ.1 (43 + cl s) 1)) (upd (ν.1 1) (21 + cl r) (nI i)) (cl r) 1 ((cl (μ.1 (43 + cl s) 1)) + 1) 0) 100 0 ≤ 99 then nI (fsN (fun i => gtN (μ.1 (43 + cl s + 4)) (cl (μ.1 (43 + cl s) 1)) (upd (ν.1 1) (21 + cl r) (nI i)) (cl r) 1 ((cl (μ.1 (43 + cl s) 1)) + 1) 0) 100 0) else -1000004) else lfS μ s r) (if lfS μ s r = 0 then (if fsN (fun i => gtN (μ.1 (43 + cl s + 4)) (cl (μ.1 (43 + cl s) 1)) (upd (ν.1 1) (21 + cl r) (nI i)) (cl r) 1 ((cl (μ.1 (43 + cl s) 1)) + 1) 0) 100 0 ≤ 99 then μ else tlS μ 3) else tlS μ (lfP μ s))) (Px (if lfM ν s r = 0 then (if fsN (fun i => gtN (fun j => ν.1 9 (40 * cl s + j)) (cl (ν.1 8 (cl s))) (upd (ν.1 1) (21 + cl r) (nI i)) (cl r) 1 ((cl (ν.1 8 (cl s))) + 1) 0) 100 0 ≤ 99 then nI (fsN (fun i => gtN (fun j => ν.1 9 (40 * cl s + j)) (cl (ν.1 8 (cl s))) (upd (ν.1 1) (21 + cl r) (nI i)) (cl r) 1 ((cl (ν.1 8 (cl s))) + 1) 0) 100 0) else -1000004) else lfM ν s r) (if lfM ν s r = 0 then (if fsN (fun i => gtN (fun j => ν.1 9 (40 * cl s + j)) (cl (ν.1 8 (cl s))) (upd (ν.1 1) (21 + cl r) (nI i)) (cl r) 1 ((cl (ν.1 8 (cl s))) + 1) 0) 100 0 ≤ 99 then asM ν else fnS (asM ν) 3) else fnS ν (lfQ ν s))) := by
  refine Ag.pt (ag_if (by rw [lf_eq h]) (fun q => ag_fs2 h (fun k _ => ?_)) (fun q => ag_lf h s r))
  have q2 := (lf_i q).1
  have hs := (lk_i q2).2.1
  rw [gt_of h (by omega)]
theorem ag_kinds {μ ν : Me} (h : Rl μ ν) {s r : Int32} : Ag (Pt (if lfS μ s r = 0 then kbL (fun i => gtN (μ.1 (43 + cl s + 4)) (cl (μ.1 (43 + cl s) 1)) (upd (ν.1 1) (13 + cl r) (nI i)) (cl r) 0 ((cl (μ.1 (43 + cl s) 1)) + 1) 0) 7 else lfS μ s r) (if lfS μ s r = 0 then μ else tlS μ (lfP μ s))) (Px (if lfM ν s r = 0 then kbL (fun i => gtN (fun j => ν.1 9 (40 * cl s + j)) (cl (ν.1 8 (cl s))) (upd (ν.1 1) (13 + cl r) (nI i)) (cl r) 0 ((cl (ν.1 8 (cl s))) + 1) 0) 7 else lfM ν s r) (if lfM ν s r = 0 then asM ν else fnS ν (lfQ ν s))) := by
  refine Ag.pt (ag_if (by rw [lf_eq h]) (fun q => ⟨?_, h.as⟩) (fun q => ag_lf h s r))
  have q2 := (lf_i q).1
  have hs := (lk_i q2).2.1
  exact congrArg (fun g => kbL g 7) (funext (fun i => gt_of h (by omega) _ _ _))
