set_option maxRecDepth 100000
/-! what stands from the start: strings, statics, links; it stays -/
theorem an_l {a b : Cond} {A : Array Value} {s : State} (h : (Cond.and a b).before A s = true) : a.before A s = true := by
  rw [Cond.before_and, Bool.and_eq_true] at h
  exact h.1
theorem an_r {a b : Cond} {A : Array Value} {s : State} (h : (Cond.and a b).before A s = true) : b.before A s = true := by
  rw [Cond.before_and, Bool.and_eq_true] at h
  exact h.2
def XN (U : State) : Prop := va_Nw (.methodLinkNest RX0 54 yX4_within "SundayVisits") U ∧ va_Nw (.methodLinkNest RX0 82 yX4_isIn "SundayVisits") U ∧ va_Nw (.methodLinkNest RX3 121 yX4_within "SundayVisits") U ∧ va_Nw (.methodLinkNest RX3 91 yX4_leastSetting "SundayVisits") U ∧ va_Nw (.methodLinkNest RX3 94 yX4_mostSetting "SundayVisits") U
def XZ (fz : Option Nat) (A : Nat → Prop) (U : State) : Prop := va_Z "java/lang/String" "COMPACT_STRINGS" "Z" (.int 1) A U U.heap ∧ va_Z "jdk/internal/util/Preconditions" "SIOOBE_FORMATTER" "Ljava/util/function/BiFunction;" (va_rf fz) A U U.heap
def XT (q t n : Nat) (f : Nat → Int32) (A : Nat → Prop) (U : State) : Prop := va_O "java/lang/String" q A U U.heap ∧ va_OF "java/lang/String" "coder" "B" (.int 0) q A U U.heap ∧ va_OF "java/lang/String" "value" "[B" (.ref t) q A U U.heap ∧ va_T .byte t n (fun j => .int (f j)) A U U.heap
def XS (fz : Option Nat) (sa sv : Nat → Nat) (A : Nat → Prop) (U : State) : Prop := XN U ∧ XZ fz A U ∧ ∀ i, i < 15 → XT (sa i) (sv i) (wdW i).length (wdF i) A U ∧ vk_R RX3 (wdI i) (wdS i) (sa i) U
theorem XS.moved {fz : Option Nat} {sa sv : Nat → Nat} {A : Nat → Prop} {u U : State} (hW : u.WarmedH U.vm) (hq : ∀ q : Nat, q < u.heap.size → ¬ A q → U.heap[q]? = u.heap[q]?) (h : XS fz sa sv A u) : XS fz sa sv A U := by
  obtain ⟨⟨n1, n2, n3, n4, n5⟩, ⟨z1, z2⟩, t⟩ := h
  refine ⟨⟨va_Nw.warmM hW n1, va_Nw.warmM hW n2, va_Nw.warmM hW n3, va_Nw.warmM hW n4, va_Nw.warmM hW n5⟩, ⟨(va_Z.moved hW.alike z1).kept hq, (va_Z.moved hW.alike z2).kept hq⟩, fun i hi => ?_⟩
  obtain ⟨⟨a, b, c, d⟩, e⟩ := t i hi
  exact ⟨⟨(va_O.moved hW.alike a).kept hq, (va_OF.moved hW.alike b).kept hq, (va_OF.moved hW.alike c).kept hq, (va_T.moved hW.alike d).kept hq⟩, vk_R.warm hW e⟩
theorem XS.narrow {fz : Option Nat} {sa sv : Nat → Nat} {A B : Nat → Prop} {U : State} (hAB : ∀ q, B q → A q) (h : XS fz sa sv A U) : XS fz sa sv B U := by
  obtain ⟨n, ⟨z1, z2⟩, t⟩ := h
  refine ⟨n, ⟨z1.narrow hAB, z2.narrow hAB⟩, fun i hi => ?_⟩
  obtain ⟨⟨a, b, c, d⟩, e⟩ := t i hi
  exact ⟨⟨a.narrow hAB, b.narrow hAB, c.narrow hAB, d.narrow hAB⟩, e⟩
theorem va_OFof {args : Array Value} {s : State} {A : Nat → Prop} {t : Term} {a : Nat} {o n d : String} {v : Value} (hA : ∀ a : Nat, a < s.heap.size → ¬ A a) (ht : t.eval args s none [] s = some (.ref a)) (hv : (Term.field t o n d).eval args s none [] s = some v) : va_OF o n d v a A s s.heap := by
  cases hfo : s.fieldFound? o n d with
  | none =>
    rw [va_fe ht] at hv
    simp [State.fieldOf?, State.fieldNamed?, hfo] at hv
  | some x =>
    obtain ⟨cf, k, fi, f⟩ := x
    obtain ⟨g1, cell, g2, g3, -, -, g6⟩ := Term.field_spec hfo ht hv
    exact ⟨cf, k, fi, f, cell, hfo, g1, g2, g3, g6, hA _ (Array.getElem?_eq_some_iff.mp g2).1⟩
abbrev sT (k : Nat) : Term := .string "SundayVisits$Tape" k
abbrev sV (k : Nat) : Term := .field (.string "SundayVisits$Tape" k) "java/lang/String" "value" "[B"
theorem str_of {args : Array Value} {s : State} {A : Nat → Prop} {k : Nat} {tx : String} {N : Nat} {f : Nat → Int32} (hA : ∀ a : Nat, a < s.heap.size → ¬ A a) (hN : N < 2 ^ 31) (hex : (Cond.exactly (sT k) "java/lang/String").before args s = true) (hco : (Cond.eq (.field (sT k) "java/lang/String" "coder" "B") (.int 0)).before args s = true) (har : (Cond.arrayOf (sV k) .byte).before args s = true) (hle : (Cond.eq (.length (sV k)) (.int (Int32.ofNat N))).before args s = true) (hel : ∀ j, j < N → (Cond.eq (.elem (sV k) (.int (Int32.ofNat j))) (.int (f j))).before args s = true) (hsr : (Cond.stringRef RX3 k tx).before args s = true) : ∃ q t, XT q t N f A s ∧ vk_R RX3 k tx q s := by
  obtain ⟨a, c, cell, kk, q1, q2, q3, q4, q5, q6, -⟩ := Cond.exactly_spec (args := args) (first := s) (o := none) (s := s) (idx := []) (t := sT k) (cls := "java/lang/String") hex
  obtain ⟨t, e1, e2⟩ := va_Tof (A := A) hN har (va_eqt hle) (fun j hj => va_eqt (hel j hj)) hA
  exact ⟨a, t, ⟨va_Oof hex q1 hA, va_OFof hA q1 (va_eqt hco), va_OFof hA q1 e1, e2⟩, vk_R.of hsr q1⟩
theorem st_0 {b : Nat} {s : State} (hts : ∀ w ∈ lw_tbl, w.before #[Value.ref b] s = true) (hgv : (Jvm.Cond.and given_1 narrow_1).before #[Value.ref b] s = true) {A : Nat → Prop} (hA : ∀ a : Nat, a < s.heap.size → ¬ A a) : ∃ q t, XT q t (wdW 0).length (wdF 0) A s ∧ vk_R RX3 (wdI 0) (wdS 0) q s := by
  refine str_of (k := 125) (N := 6) hA (by decide) (an_l (an_r (an_l (an_l (an_r (an_l (an_l (an_l (an_r hgv))))))))) (an_r (an_r (an_l (an_l (an_r (an_l (an_l (an_l (an_r hgv))))))))) (an_l (an_l (an_r (an_l (an_r (an_l (an_l (an_l (an_r hgv))))))))) (an_r (an_l (an_r (an_l (an_r (an_l (an_l (an_l (an_r hgv))))))))) (fun j hj => ?_) (hts _ (List.mem_append_right _ (List.mem_append_right _ (List.mem_append_right _ (List.mem_append_left _ (List.mem_of_getElem? (i := 82) rfl))))))
  rcases (show j = 0 ∨ j = 1 ∨ j = 2 ∨ j = 3 ∨ j = 4 ∨ j = 5 by omega) with rfl | rfl | rfl | rfl | rfl | rfl
  · exact (an_l (an_r (an_r (an_l (an_r (an_l (an_l (an_l (an_r hgv)))))))))
  · exact (an_r (an_r (an_r (an_l (an_r (an_l (an_l (an_l (an_r hgv)))))))))
  · exact (an_l (an_l (an_l (an_r (an_r (an_l (an_l (an_l (an_r hgv)))))))))
  · exact (an_r (an_l (an_l (an_r (an_r (an_l (an_l (an_l (an_r hgv)))))))))
  · exact (an_l (an_r (an_l (an_r (an_r (an_l (an_l (an_l (an_r hgv)))))))))
  · exact (an_r (an_r (an_l (an_r (an_r (an_l (an_l (an_l (an_r hgv)))))))))
theorem st_1 {b : Nat} {s : State} (hts : ∀ w ∈ lw_tbl, w.before #[Value.ref b] s = true) (hgv : (Jvm.Cond.and given_1 narrow_1).before #[Value.ref b] s = true) {A : Nat → Prop} (hA : ∀ a : Nat, a < s.heap.size → ¬ A a) : ∃ q t, XT q t (wdW 1).length (wdF 1) A s ∧ vk_R RX3 (wdI 1) (wdS 1) q s := by
  refine str_of (k := 127) (N := 7) hA (by decide) (an_l (an_l (an_r (an_r (an_r (an_l (an_l (an_l (an_r hgv))))))))) (an_r (an_l (an_r (an_r (an_r (an_l (an_l (an_l (an_r hgv))))))))) (an_l (an_r (an_r (an_r (an_r (an_l (an_l (an_l (an_r hgv))))))))) (an_l (an_r (an_r (an_r (an_r (an_r (an_l (an_l (an_l (an_r hgv)))))))))) (fun j hj => ?_) (hts _ (List.mem_append_right _ (List.mem_append_right _ (List.mem_append_right _ (List.mem_append_left _ (List.mem_of_getElem? (i := 83) rfl))))))
  rcases (show j = 0 ∨ j = 1 ∨ j = 2 ∨ j = 3 ∨ j = 4 ∨ j = 5 ∨ j = 6 by omega) with rfl | rfl | rfl | rfl | rfl | rfl | rfl
  · exact (an_r (an_r (an_r (an_r (an_r (an_r (an_l (an_l (an_l (an_r hgv))))))))))
  · exact (an_l (an_l (an_l (an_l (an_l (an_r (an_l (an_l (an_r hgv)))))))))
  · exact (an_r (an_l (an_l (an_l (an_l (an_r (an_l (an_l (an_r hgv)))))))))
  · exact (an_l (an_r (an_l (an_l (an_l (an_r (an_l (an_l (an_r hgv)))))))))
  · exact (an_r (an_r (an_l (an_l (an_l (an_r (an_l (an_l (an_r hgv)))))))))
  · exact (an_l (an_l (an_r (an_l (an_l (an_r (an_l (an_l (an_r hgv)))))))))
  · exact (an_r (an_l (an_r (an_l (an_l (an_r (an_l (an_l (an_r hgv)))))))))
theorem st_2 {b : Nat} {s : State} (hts : ∀ w ∈ lw_tbl, w.before #[Value.ref b] s = true) (hgv : (Jvm.Cond.and given_1 narrow_1).before #[Value.ref b] s = true) {A : Nat → Prop} (hA : ∀ a : Nat, a < s.heap.size → ¬ A a) : ∃ q t, XT q t (wdW 2).length (wdF 2) A s ∧ vk_R RX3 (wdI 2) (wdS 2) q s := by
  refine str_of (k := 129) (N := 5) hA (by decide) (an_r (an_r (an_r (an_l (an_l (an_r (an_l (an_l (an_r hgv))))))))) (an_l (an_l (an_l (an_r (an_l (an_r (an_l (an_l (an_r hgv))))))))) (an_r (an_l (an_l (an_r (an_l (an_r (an_l (an_l (an_r hgv))))))))) (an_l (an_r (an_l (an_r (an_l (an_r (an_l (an_l (an_r hgv))))))))) (fun j hj => ?_) (hts _ (List.mem_append_right _ (List.mem_append_right _ (List.mem_append_right _ (List.mem_append_left _ (List.mem_of_getElem? (i := 84) rfl))))))
  rcases (show j = 0 ∨ j = 1 ∨ j = 2 ∨ j = 3 ∨ j = 4 by omega) with rfl | rfl | rfl | rfl | rfl
  · exact (an_r (an_r (an_l (an_r (an_l (an_r (an_l (an_l (an_r hgv)))))))))
  · exact (an_l (an_l (an_r (an_r (an_l (an_r (an_l (an_l (an_r hgv)))))))))
  · exact (an_r (an_l (an_r (an_r (an_l (an_r (an_l (an_l (an_r hgv)))))))))
  · exact (an_l (an_r (an_r (an_r (an_l (an_r (an_l (an_l (an_r hgv)))))))))
  · exact (an_l (an_r (an_r (an_r (an_r (an_l (an_r (an_l (an_l (an_r hgv))))))))))
theorem st_3 {b : Nat} {s : State} (hts : ∀ w ∈ lw_tbl, w.before #[Value.ref b] s = true) (hgv : (Jvm.Cond.and given_1 narrow_1).before #[Value.ref b] s = true) {A : Nat → Prop} (hA : ∀ a : Nat, a < s.heap.size → ¬ A a) : ∃ q t, XT q t (wdW 3).length (wdF 3) A s ∧ vk_R RX3 (wdI 3) (wdS 3) q s := by
  refine str_of (k := 131) (N := 7) hA (by decide) (an_r (an_l (an_l (an_l (an_r (an_r (an_l (an_l (an_r hgv))))))))) (an_l (an_r (an_l (an_l (an_r (an_r (an_l (an_l (an_r hgv))))))))) (an_r (an_r (an_l (an_l (an_r (an_r (an_l (an_l (an_r hgv))))))))) (an_l (an_l (an_r (an_l (an_r (an_r (an_l (an_l (an_r hgv))))))))) (fun j hj => ?_) (hts _ (List.mem_append_right _ (List.mem_append_right _ (List.mem_append_right _ (List.mem_append_left _ (List.mem_of_getElem? (i := 85) rfl))))))
  rcases (show j = 0 ∨ j = 1 ∨ j = 2 ∨ j = 3 ∨ j = 4 ∨ j = 5 ∨ j = 6 by omega) with rfl | rfl | rfl | rfl | rfl | rfl | rfl
  · exact (an_r (an_l (an_r (an_l (an_r (an_r (an_l (an_l (an_r hgv)))))))))
  · exact (an_l (an_r (an_r (an_l (an_r (an_r (an_l (an_l (an_r hgv)))))))))
  · exact (an_r (an_r (an_r (an_l (an_r (an_r (an_l (an_l (an_r hgv)))))))))
  · exact (an_l (an_l (an_l (an_r (an_r (an_r (an_l (an_l (an_r hgv)))))))))
  · exact (an_r (an_l (an_l (an_r (an_r (an_r (an_l (an_l (an_r hgv)))))))))
  · exact (an_l (an_r (an_l (an_r (an_r (an_r (an_l (an_l (an_r hgv)))))))))
  · exact (an_r (an_r (an_l (an_r (an_r (an_r (an_l (an_l (an_r hgv)))))))))
theorem st_4 {b : Nat} {s : State} (hts : ∀ w ∈ lw_tbl, w.before #[Value.ref b] s = true) (hgv : (Jvm.Cond.and given_1 narrow_1).before #[Value.ref b] s = true) {A : Nat → Prop} (hA : ∀ a : Nat, a < s.heap.size → ¬ A a) : ∃ q t, XT q t (wdW 4).length (wdF 4) A s ∧ vk_R RX3 (wdI 4) (wdS 4) q s := by
  refine str_of (k := 133) (N := 7) hA (by decide) (an_l (an_r (an_r (an_r (an_r (an_r (an_r (an_l (an_l (an_r hgv)))))))))) (an_r (an_r (an_r (an_r (an_r (an_r (an_r (an_l (an_l (an_r hgv)))))))))) (an_l (an_l (an_l (an_l (an_l (an_l (an_r (an_l (an_r hgv))))))))) (an_r (an_l (an_l (an_l (an_l (an_l (an_r (an_l (an_r hgv))))))))) (fun j hj => ?_) (hts _ (List.mem_append_right _ (List.mem_append_right _ (List.mem_append_right _ (List.mem_append_left _ (List.mem_of_getElem? (i := 86) rfl))))))
  rcases (show j = 0 ∨ j = 1 ∨ j = 2 ∨ j = 3 ∨ j = 4 ∨ j = 5 ∨ j = 6 by omega) with rfl | rfl | rfl | rfl | rfl | rfl | rfl
  · exact (an_l (an_r (an_l (an_l (an_l (an_l (an_r (an_l (an_r hgv)))))))))
  · exact (an_r (an_r (an_l (an_l (an_l (an_l (an_r (an_l (an_r hgv)))))))))
  · exact (an_l (an_l (an_r (an_l (an_l (an_l (an_r (an_l (an_r hgv)))))))))
  · exact (an_r (an_l (an_r (an_l (an_l (an_l (an_r (an_l (an_r hgv)))))))))
  · exact (an_l (an_r (an_r (an_l (an_l (an_l (an_r (an_l (an_r hgv)))))))))
  · exact (an_r (an_r (an_r (an_l (an_l (an_l (an_r (an_l (an_r hgv)))))))))
  · exact (an_l (an_l (an_l (an_r (an_l (an_l (an_r (an_l (an_r hgv)))))))))
theorem st_5 {b : Nat} {s : State} (hts : ∀ w ∈ lw_tbl, w.before #[Value.ref b] s = true) (hgv : (Jvm.Cond.and given_1 narrow_1).before #[Value.ref b] s = true) {A : Nat → Prop} (hA : ∀ a : Nat, a < s.heap.size → ¬ A a) : ∃ q t, XT q t (wdW 5).length (wdF 5) A s ∧ vk_R RX3 (wdI 5) (wdS 5) q s := by
  refine str_of (k := 135) (N := 6) hA (by decide) (an_r (an_l (an_r (an_r (an_l (an_l (an_r (an_l (an_r hgv))))))))) (an_l (an_r (an_r (an_r (an_l (an_l (an_r (an_l (an_r hgv))))))))) (an_l (an_r (an_r (an_r (an_r (an_l (an_l (an_r (an_l (an_r hgv)))))))))) (an_r (an_r (an_r (an_r (an_r (an_l (an_l (an_r (an_l (an_r hgv)))))))))) (fun j hj => ?_) (hts _ (List.mem_append_right _ (List.mem_append_right _ (List.mem_append_right _ (List.mem_append_left _ (List.mem_of_getElem? (i := 87) rfl))))))
  rcases (show j = 0 ∨ j = 1 ∨ j = 2 ∨ j = 3 ∨ j = 4 ∨ j = 5 by omega) with rfl | rfl | rfl | rfl | rfl | rfl
  · exact (an_l (an_l (an_l (an_l (an_r (an_l (an_r (an_l (an_r hgv)))))))))
  · exact (an_r (an_l (an_l (an_l (an_r (an_l (an_r (an_l (an_r hgv)))))))))
  · exact (an_l (an_r (an_l (an_l (an_r (an_l (an_r (an_l (an_r hgv)))))))))
  · exact (an_r (an_r (an_l (an_l (an_r (an_l (an_r (an_l (an_r hgv)))))))))
  · exact (an_l (an_l (an_r (an_l (an_r (an_l (an_r (an_l (an_r hgv)))))))))
  · exact (an_r (an_l (an_r (an_l (an_r (an_l (an_r (an_l (an_r hgv)))))))))
theorem st_6 {b : Nat} {s : State} (hts : ∀ w ∈ lw_tbl, w.before #[Value.ref b] s = true) (hgv : (Jvm.Cond.and given_1 narrow_1).before #[Value.ref b] s = true) {A : Nat → Prop} (hA : ∀ a : Nat, a < s.heap.size → ¬ A a) : ∃ q t, XT q t (wdW 6).length (wdF 6) A s ∧ vk_R RX3 (wdI 6) (wdS 6) q s := by
  refine str_of (k := 137) (N := 8) hA (by decide) (an_r (an_r (an_l (an_r (an_r (an_l (an_r (an_l (an_r hgv))))))))) (an_l (an_l (an_r (an_r (an_r (an_l (an_r (an_l (an_r hgv))))))))) (an_r (an_l (an_r (an_r (an_r (an_l (an_r (an_l (an_r hgv))))))))) (an_l (an_r (an_r (an_r (an_r (an_l (an_r (an_l (an_r hgv))))))))) (fun j hj => ?_) (hts _ (List.mem_append_right _ (List.mem_append_right _ (List.mem_append_right _ (List.mem_append_left _ (List.mem_of_getElem? (i := 88) rfl))))))
  rcases (show j = 0 ∨ j = 1 ∨ j = 2 ∨ j = 3 ∨ j = 4 ∨ j = 5 ∨ j = 6 ∨ j = 7 by omega) with rfl | rfl | rfl | rfl | rfl | rfl | rfl | rfl
  · exact (an_l (an_r (an_r (an_r (an_r (an_r (an_l (an_r (an_l (an_r hgv))))))))))
  · exact (an_r (an_r (an_r (an_r (an_r (an_r (an_l (an_r (an_l (an_r hgv))))))))))
  · exact (an_l (an_l (an_l (an_l (an_l (an_r (an_r (an_l (an_r hgv)))))))))
  · exact (an_r (an_l (an_l (an_l (an_l (an_r (an_r (an_l (an_r hgv)))))))))
  · exact (an_l (an_r (an_l (an_l (an_l (an_r (an_r (an_l (an_r hgv)))))))))
  · exact (an_r (an_r (an_l (an_l (an_l (an_r (an_r (an_l (an_r hgv)))))))))
  · exact (an_l (an_l (an_r (an_l (an_l (an_r (an_r (an_l (an_r hgv)))))))))
  · exact (an_r (an_l (an_r (an_l (an_l (an_r (an_r (an_l (an_r hgv)))))))))
theorem st_7 {b : Nat} {s : State} (hts : ∀ w ∈ lw_tbl, w.before #[Value.ref b] s = true) (hgv : (Jvm.Cond.and given_1 narrow_1).before #[Value.ref b] s = true) {A : Nat → Prop} (hA : ∀ a : Nat, a < s.heap.size → ¬ A a) : ∃ q t, XT q t (wdW 7).length (wdF 7) A s ∧ vk_R RX3 (wdI 7) (wdS 7) q s := by
  refine str_of (k := 68) (N := 4) hA (by decide) (an_l (an_l (an_r (an_r (an_l (an_r (an_r (an_l (an_r hgv))))))))) (an_r (an_l (an_r (an_r (an_l (an_r (an_r (an_l (an_r hgv))))))))) (an_l (an_r (an_r (an_r (an_l (an_r (an_r (an_l (an_r hgv))))))))) (an_l (an_r (an_r (an_r (an_r (an_l (an_r (an_r (an_l (an_r hgv)))))))))) (fun j hj => ?_) (hts _ (List.mem_append_right _ (List.mem_append_right _ (List.mem_append_right _ (List.mem_append_left _ (List.mem_of_getElem? (i := 146) rfl))))))
  rcases (show j = 0 ∨ j = 1 ∨ j = 2 ∨ j = 3 by omega) with rfl | rfl | rfl | rfl
  · exact (an_r (an_r (an_r (an_r (an_r (an_l (an_r (an_r (an_l (an_r hgv))))))))))
  · exact (an_l (an_l (an_l (an_l (an_r (an_r (an_r (an_l (an_r hgv)))))))))
  · exact (an_r (an_l (an_l (an_l (an_r (an_r (an_r (an_l (an_r hgv)))))))))
  · exact (an_l (an_r (an_l (an_l (an_r (an_r (an_r (an_l (an_r hgv)))))))))
theorem st_8 {b : Nat} {s : State} (hts : ∀ w ∈ lw_tbl, w.before #[Value.ref b] s = true) (hgv : (Jvm.Cond.and given_1 narrow_1).before #[Value.ref b] s = true) {A : Nat → Prop} (hA : ∀ a : Nat, a < s.heap.size → ¬ A a) : ∃ q t, XT q t (wdW 8).length (wdF 8) A s ∧ vk_R RX3 (wdI 8) (wdS 8) q s := by
  refine str_of (k := 74) (N := 6) hA (by decide) (an_r (an_l (an_l (an_r (an_r (an_r (an_r (an_l (an_r hgv))))))))) (an_l (an_r (an_l (an_r (an_r (an_r (an_r (an_l (an_r hgv))))))))) (an_r (an_r (an_l (an_r (an_r (an_r (an_r (an_l (an_r hgv))))))))) (an_l (an_l (an_r (an_r (an_r (an_r (an_r (an_l (an_r hgv))))))))) (fun j hj => ?_) (hts _ (List.mem_append_right _ (List.mem_append_right _ (List.mem_append_right _ (List.mem_append_left _ (List.mem_of_getElem? (i := 157) rfl))))))
  rcases (show j = 0 ∨ j = 1 ∨ j = 2 ∨ j = 3 ∨ j = 4 ∨ j = 5 by omega) with rfl | rfl | rfl | rfl | rfl | rfl
  · exact (an_r (an_l (an_r (an_r (an_r (an_r (an_r (an_l (an_r hgv)))))))))
  · exact (an_l (an_r (an_r (an_r (an_r (an_r (an_r (an_l (an_r hgv)))))))))
  · exact (an_l (an_r (an_r (an_r (an_r (an_r (an_r (an_r (an_l (an_r hgv))))))))))
  · exact (an_r (an_r (an_r (an_r (an_r (an_r (an_r (an_r (an_l (an_r hgv))))))))))
  · exact (an_l (an_l (an_l (an_l (an_l (an_l (an_l (an_r (an_r hgv)))))))))
  · exact (an_r (an_l (an_l (an_l (an_l (an_l (an_l (an_r (an_r hgv)))))))))
theorem st_9 {b : Nat} {s : State} (hts : ∀ w ∈ lw_tbl, w.before #[Value.ref b] s = true) (hgv : (Jvm.Cond.and given_1 narrow_1).before #[Value.ref b] s = true) {A : Nat → Prop} (hA : ∀ a : Nat, a < s.heap.size → ¬ A a) : ∃ q t, XT q t (wdW 9).length (wdF 9) A s ∧ vk_R RX3 (wdI 9) (wdS 9) q s := by
  refine str_of (k := 76) (N := 5) hA (by decide) (an_l (an_r (an_l (an_r (an_l (an_l (an_l (an_r (an_r hgv))))))))) (an_r (an_r (an_l (an_r (an_l (an_l (an_l (an_r (an_r hgv))))))))) (an_l (an_l (an_r (an_r (an_l (an_l (an_l (an_r (an_r hgv))))))))) (an_r (an_l (an_r (an_r (an_l (an_l (an_l (an_r (an_r hgv))))))))) (fun j hj => ?_) (hts _ (List.mem_append_right _ (List.mem_append_right _ (List.mem_append_right _ (List.mem_append_left _ (List.mem_of_getElem? (i := 158) rfl))))))
  rcases (show j = 0 ∨ j = 1 ∨ j = 2 ∨ j = 3 ∨ j = 4 by omega) with rfl | rfl | rfl | rfl | rfl
  · exact (an_l (an_r (an_r (an_r (an_l (an_l (an_l (an_r (an_r hgv)))))))))
  · exact (an_l (an_r (an_r (an_r (an_r (an_l (an_l (an_l (an_r (an_r hgv))))))))))
  · exact (an_r (an_r (an_r (an_r (an_r (an_l (an_l (an_l (an_r (an_r hgv))))))))))
  · exact (an_l (an_l (an_l (an_l (an_r (an_l (an_l (an_r (an_r hgv)))))))))
  · exact (an_r (an_l (an_l (an_l (an_r (an_l (an_l (an_r (an_r hgv)))))))))
theorem st_10 {b : Nat} {s : State} (hts : ∀ w ∈ lw_tbl, w.before #[Value.ref b] s = true) (hgv : (Jvm.Cond.and given_1 narrow_1).before #[Value.ref b] s = true) {A : Nat → Prop} (hA : ∀ a : Nat, a < s.heap.size → ¬ A a) : ∃ q t, XT q t (wdW 10).length (wdF 10) A s ∧ vk_R RX3 (wdI 10) (wdS 10) q s := by
  refine str_of (k := 139) (N := 6) hA (by decide) (an_r (an_r (an_l (an_r (an_r (an_l (an_l (an_r (an_r hgv))))))))) (an_l (an_l (an_r (an_r (an_r (an_l (an_l (an_r (an_r hgv))))))))) (an_r (an_l (an_r (an_r (an_r (an_l (an_l (an_r (an_r hgv))))))))) (an_l (an_r (an_r (an_r (an_r (an_l (an_l (an_r (an_r hgv))))))))) (fun j hj => ?_) (hts _ (List.mem_append_right _ (List.mem_append_right _ (List.mem_append_right _ (List.mem_append_left _ (List.mem_of_getElem? (i := 162) rfl))))))
  rcases (show j = 0 ∨ j = 1 ∨ j = 2 ∨ j = 3 ∨ j = 4 ∨ j = 5 by omega) with rfl | rfl | rfl | rfl | rfl | rfl
  · exact (an_l (an_r (an_r (an_r (an_r (an_r (an_l (an_l (an_r (an_r hgv))))))))))
  · exact (an_r (an_r (an_r (an_r (an_r (an_r (an_l (an_l (an_r (an_r hgv))))))))))
  · exact (an_l (an_l (an_l (an_l (an_l (an_r (an_l (an_r (an_r hgv)))))))))
  · exact (an_r (an_l (an_l (an_l (an_l (an_r (an_l (an_r (an_r hgv)))))))))
  · exact (an_l (an_r (an_l (an_l (an_l (an_r (an_l (an_r (an_r hgv)))))))))
  · exact (an_r (an_r (an_l (an_l (an_l (an_r (an_l (an_r (an_r hgv)))))))))
theorem st_11 {b : Nat} {s : State} (hts : ∀ w ∈ lw_tbl, w.before #[Value.ref b] s = true) (hgv : (Jvm.Cond.and given_1 narrow_1).before #[Value.ref b] s = true) {A : Nat → Prop} (hA : ∀ a : Nat, a < s.heap.size → ¬ A a) : ∃ q t, XT q t (wdW 11).length (wdF 11) A s ∧ vk_R RX3 (wdI 11) (wdS 11) q s := by
  refine str_of (k := 141) (N := 4) hA (by decide) (an_l (an_r (an_r (an_r (an_l (an_r (an_l (an_r (an_r hgv))))))))) (an_l (an_r (an_r (an_r (an_r (an_l (an_r (an_l (an_r (an_r hgv)))))))))) (an_r (an_r (an_r (an_r (an_r (an_l (an_r (an_l (an_r (an_r hgv)))))))))) (an_l (an_l (an_l (an_l (an_r (an_r (an_l (an_r (an_r hgv))))))))) (fun j hj => ?_) (hts _ (List.mem_append_right _ (List.mem_append_right _ (List.mem_append_right _ (List.mem_append_left _ (List.mem_of_getElem? (i := 163) rfl))))))
  rcases (show j = 0 ∨ j = 1 ∨ j = 2 ∨ j = 3 by omega) with rfl | rfl | rfl | rfl
  · exact (an_r (an_l (an_l (an_l (an_r (an_r (an_l (an_r (an_r hgv)))))))))
  · exact (an_l (an_r (an_l (an_l (an_r (an_r (an_l (an_r (an_r hgv)))))))))
  · exact (an_r (an_r (an_l (an_l (an_r (an_r (an_l (an_r (an_r hgv)))))))))
  · exact (an_l (an_l (an_r (an_l (an_r (an_r (an_l (an_r (an_r hgv)))))))))
theorem st_12 {b : Nat} {s : State} (hts : ∀ w ∈ lw_tbl, w.before #[Value.ref b] s = true) (hgv : (Jvm.Cond.and given_1 narrow_1).before #[Value.ref b] s = true) {A : Nat → Prop} (hA : ∀ a : Nat, a < s.heap.size → ¬ A a) : ∃ q t, XT q t (wdW 12).length (wdF 12) A s ∧ vk_R RX3 (wdI 12) (wdS 12) q s := by
  refine str_of (k := 143) (N := 10) hA (by decide) (an_l (an_r (an_r (an_r (an_r (an_r (an_r (an_l (an_r (an_r hgv)))))))))) (an_r (an_r (an_r (an_r (an_r (an_r (an_r (an_l (an_r (an_r hgv)))))))))) (an_l (an_l (an_l (an_l (an_l (an_l (an_r (an_r (an_r hgv))))))))) (an_r (an_l (an_l (an_l (an_l (an_l (an_r (an_r (an_r hgv))))))))) (fun j hj => ?_) (hts _ (List.mem_append_right _ (List.mem_append_right _ (List.mem_append_right _ (List.mem_append_left _ (List.mem_of_getElem? (i := 164) rfl))))))
  rcases (show j = 0 ∨ j = 1 ∨ j = 2 ∨ j = 3 ∨ j = 4 ∨ j = 5 ∨ j = 6 ∨ j = 7 ∨ j = 8 ∨ j = 9 by omega) with rfl | rfl | rfl | rfl | rfl | rfl | rfl | rfl | rfl | rfl
  · exact (an_l (an_r (an_l (an_l (an_l (an_l (an_r (an_r (an_r hgv)))))))))
  · exact (an_r (an_r (an_l (an_l (an_l (an_l (an_r (an_r (an_r hgv)))))))))
  · exact (an_l (an_l (an_r (an_l (an_l (an_l (an_r (an_r (an_r hgv)))))))))
  · exact (an_r (an_l (an_r (an_l (an_l (an_l (an_r (an_r (an_r hgv)))))))))
  · exact (an_l (an_r (an_r (an_l (an_l (an_l (an_r (an_r (an_r hgv)))))))))
  · exact (an_r (an_r (an_r (an_l (an_l (an_l (an_r (an_r (an_r hgv)))))))))
  · exact (an_l (an_l (an_l (an_r (an_l (an_l (an_r (an_r (an_r hgv)))))))))
  · exact (an_r (an_l (an_l (an_r (an_l (an_l (an_r (an_r (an_r hgv)))))))))
  · exact (an_l (an_r (an_l (an_r (an_l (an_l (an_r (an_r (an_r hgv)))))))))
  · exact (an_r (an_r (an_l (an_r (an_l (an_l (an_r (an_r (an_r hgv)))))))))
theorem st_13 {b : Nat} {s : State} (hts : ∀ w ∈ lw_tbl, w.before #[Value.ref b] s = true) (hgv : (Jvm.Cond.and given_1 narrow_1).before #[Value.ref b] s = true) {A : Nat → Prop} (hA : ∀ a : Nat, a < s.heap.size → ¬ A a) : ∃ q t, XT q t (wdW 13).length (wdF 13) A s ∧ vk_R RX3 (wdI 13) (wdS 13) q s := by
  refine str_of (k := 145) (N := 4) hA (by decide) (an_r (an_r (an_r (an_l (an_r (an_l (an_r (an_r (an_r hgv))))))))) (an_l (an_l (an_l (an_r (an_r (an_l (an_r (an_r (an_r hgv))))))))) (an_r (an_l (an_l (an_r (an_r (an_l (an_r (an_r (an_r hgv))))))))) (an_l (an_r (an_l (an_r (an_r (an_l (an_r (an_r (an_r hgv))))))))) (fun j hj => ?_) (hts _ (List.mem_append_right _ (List.mem_append_right _ (List.mem_append_right _ (List.mem_append_left _ (List.mem_of_getElem? (i := 165) rfl))))))
  rcases (show j = 0 ∨ j = 1 ∨ j = 2 ∨ j = 3 by omega) with rfl | rfl | rfl | rfl
  · exact (an_r (an_r (an_l (an_r (an_r (an_l (an_r (an_r (an_r hgv)))))))))
  · exact (an_l (an_l (an_r (an_r (an_r (an_l (an_r (an_r (an_r hgv)))))))))
  · exact (an_r (an_l (an_r (an_r (an_r (an_l (an_r (an_r (an_r hgv)))))))))
  · exact (an_l (an_r (an_r (an_r (an_r (an_l (an_r (an_r (an_r hgv)))))))))
theorem st_14 {b : Nat} {s : State} (hts : ∀ w ∈ lw_tbl, w.before #[Value.ref b] s = true) (hgv : (Jvm.Cond.and given_1 narrow_1).before #[Value.ref b] s = true) {A : Nat → Prop} (hA : ∀ a : Nat, a < s.heap.size → ¬ A a) : ∃ q t, XT q t (wdW 14).length (wdF 14) A s ∧ vk_R RX3 (wdI 14) (wdS 14) q s := by
  refine str_of (k := 53) (N := 6) hA (by decide) (an_r (an_r (an_l (an_r (an_l (an_r (an_r (an_r (an_r hgv))))))))) (an_l (an_l (an_r (an_r (an_l (an_r (an_r (an_r (an_r hgv))))))))) (an_r (an_l (an_r (an_r (an_l (an_r (an_r (an_r (an_r hgv))))))))) (an_l (an_r (an_r (an_r (an_l (an_r (an_r (an_r (an_r hgv))))))))) (fun j hj => ?_) (hts _ (List.mem_append_right _ (List.mem_append_right _ (List.mem_append_right _ (List.mem_append_left _ (List.mem_of_getElem? (i := 172) rfl))))))
  rcases (show j = 0 ∨ j = 1 ∨ j = 2 ∨ j = 3 ∨ j = 4 ∨ j = 5 by omega) with rfl | rfl | rfl | rfl | rfl | rfl
  · exact (an_l (an_r (an_r (an_r (an_r (an_l (an_r (an_r (an_r (an_r hgv))))))))))
  · exact (an_r (an_r (an_r (an_r (an_r (an_l (an_r (an_r (an_r (an_r hgv))))))))))
  · exact (an_l (an_l (an_l (an_l (an_r (an_r (an_r (an_r (an_r hgv)))))))))
  · exact (an_r (an_l (an_l (an_l (an_r (an_r (an_r (an_r (an_r hgv)))))))))
  · exact (an_l (an_r (an_l (an_l (an_r (an_r (an_r (an_r (an_r hgv)))))))))
  · exact (an_r (an_r (an_l (an_l (an_r (an_r (an_r (an_r (an_r hgv)))))))))
theorem st_all {b : Nat} {s : State} (hts : ∀ w ∈ lw_tbl, w.before #[Value.ref b] s = true) (hgv : (Jvm.Cond.and given_1 narrow_1).before #[Value.ref b] s = true) {A : Nat → Prop} (hA : ∀ a : Nat, a < s.heap.size → ¬ A a) : ∃ sa sv : Nat → Nat, ∀ i, i < 15 → XT (sa i) (sv i) (wdW i).length (wdF i) A s ∧ vk_R RX3 (wdI i) (wdS i) (sa i) s := by
  have h0 : ∀ i : Nat, ∃ q : Nat × Nat, i < 15 → XT q.1 q.2 (wdW i).length (wdF i) A s ∧ vk_R RX3 (wdI i) (wdS i) q.1 s := by
    intro i
    by_cases hi : i < 15
    · rcases (show i = 0 ∨ i = 1 ∨ i = 2 ∨ i = 3 ∨ i = 4 ∨ i = 5 ∨ i = 6 ∨ i = 7 ∨ i = 8 ∨ i = 9 ∨ i = 10 ∨ i = 11 ∨ i = 12 ∨ i = 13 ∨ i = 14 by omega) with rfl | rfl | rfl | rfl | rfl | rfl | rfl | rfl | rfl | rfl | rfl | rfl | rfl | rfl | rfl
      · obtain ⟨q, t, h⟩ := st_0 hts hgv hA
        exact ⟨(q, t), fun _ => h⟩
      · obtain ⟨q, t, h⟩ := st_1 hts hgv hA
        exact ⟨(q, t), fun _ => h⟩
      · obtain ⟨q, t, h⟩ := st_2 hts hgv hA
        exact ⟨(q, t), fun _ => h⟩
      · obtain ⟨q, t, h⟩ := st_3 hts hgv hA
        exact ⟨(q, t), fun _ => h⟩
      · obtain ⟨q, t, h⟩ := st_4 hts hgv hA
        exact ⟨(q, t), fun _ => h⟩
      · obtain ⟨q, t, h⟩ := st_5 hts hgv hA
        exact ⟨(q, t), fun _ => h⟩
      · obtain ⟨q, t, h⟩ := st_6 hts hgv hA
        exact ⟨(q, t), fun _ => h⟩
      · obtain ⟨q, t, h⟩ := st_7 hts hgv hA
        exact ⟨(q, t), fun _ => h⟩
      · obtain ⟨q, t, h⟩ := st_8 hts hgv hA
        exact ⟨(q, t), fun _ => h⟩
      · obtain ⟨q, t, h⟩ := st_9 hts hgv hA
        exact ⟨(q, t), fun _ => h⟩
      · obtain ⟨q, t, h⟩ := st_10 hts hgv hA
        exact ⟨(q, t), fun _ => h⟩
      · obtain ⟨q, t, h⟩ := st_11 hts hgv hA
        exact ⟨(q, t), fun _ => h⟩
      · obtain ⟨q, t, h⟩ := st_12 hts hgv hA
        exact ⟨(q, t), fun _ => h⟩
      · obtain ⟨q, t, h⟩ := st_13 hts hgv hA
        exact ⟨(q, t), fun _ => h⟩
      · obtain ⟨q, t, h⟩ := st_14 hts hgv hA
        exact ⟨(q, t), fun _ => h⟩
    · exact ⟨(0, 0), fun h => absurd h hi⟩
  obtain ⟨g, hg⟩ := Classical.axiomOfChoice h0
  exact ⟨fun i => (g i).1, fun i => (g i).2, fun i hi => hg i hi⟩
theorem st_z {b : Nat} {s : State} (hts : ∀ w ∈ lw_tbl, w.before #[Value.ref b] s = true) (hgv : (Jvm.Cond.and given_1 narrow_1).before #[Value.ref b] s = true) {A : Nat → Prop} (hA : ∀ a : Nat, a < s.heap.size → ¬ A a) : ∃ fz : Option Nat, XZ fz A s := by
  have c := va_Zof (A := A) (hts _ (List.mem_append_right _ (List.mem_append_right _ (List.mem_append_right _ (List.mem_append_left _ (List.mem_of_getElem? (i := 102) rfl)))))) (hts _ (List.mem_append_right _ (List.mem_append_left _ (List.mem_of_getElem? (i := 11) rfl)))) (va_eqt (an_l (an_r (an_l (an_l (an_l (an_l (an_l (an_l (an_r hgv)))))))))) hA
  rcases va_Zqof (A := A) (hts _ (List.mem_append_right _ (List.mem_append_right _ (List.mem_append_right _ (List.mem_append_left _ (List.mem_of_getElem? (i := 118) rfl)))))) (hts _ (List.mem_append_right _ (List.mem_append_left _ (List.mem_of_getElem? (i := 13) rfl)))) (an_r (an_r (an_l (an_l (an_l (an_l (an_l (an_l (an_r hgv))))))))) hA with h | ⟨t, h⟩
  · exact ⟨none, c, h⟩
  · exact ⟨some t, c, h⟩
theorem st_n {b : Nat} {s : State} (hts : ∀ w ∈ lw_tbl, w.before #[Value.ref b] s = true) : XN s := ⟨va_Nw.of rfl (hts _ (List.mem_append_right _ (List.mem_append_left _ (List.mem_of_getElem? (i := 229) rfl)))), va_Nw.of rfl (hts _ (List.mem_append_right _ (List.mem_append_right _ (List.mem_append_left _ (List.mem_of_getElem? (i := 49) rfl))))), va_Nw.of rfl (hts _ (List.mem_append_right _ (List.mem_append_right _ (List.mem_append_right _ (List.mem_append_left _ (List.mem_of_getElem? (i := 155) rfl)))))), va_Nw.of rfl (hts _ (List.mem_append_right _ (List.mem_append_right _ (List.mem_append_right _ (List.mem_append_left _ (List.mem_of_getElem? (i := 170) rfl)))))), va_Nw.of rfl (hts _ (List.mem_append_right _ (List.mem_append_right _ (List.mem_append_right _ (List.mem_append_left _ (List.mem_of_getElem? (i := 171) rfl))))))⟩
theorem st_i {b : Nat} {s : State} (hts : ∀ w ∈ lw_tbl, w.before #[Value.ref b] s = true) : Xi s := ⟨va_AO.of (hts _ (List.mem_append_right _ (List.mem_append_left _ (List.mem_of_getElem? (i := 30) rfl)))), va_AO.of (hts _ (List.mem_append_right _ (List.mem_append_left _ (List.mem_of_getElem? (i := 134) rfl)))), va_Nw.of rfl (hts _ (List.mem_append_right _ (List.mem_append_left _ (List.mem_of_getElem? (i := 32) rfl))))⟩
