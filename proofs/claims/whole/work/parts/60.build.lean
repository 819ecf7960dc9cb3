set_option maxRecDepth 20000
theorem ar_int : Cond.arrayClass .int ∈ wg_ok := wg_in (List.mem_append_left _ (List.mem_of_getElem? (i := 59) rfl)) rfl
theorem ar_byte : Cond.arrayClass .byte ∈ wg_ok := wg_in (List.mem_append_right _ (List.mem_append_right _ (List.mem_append_left _ (List.mem_of_getElem? (i := 177) rfl)))) rfl
theorem ob_i : Cond.instanceMethod Lib.objectInit ∈ wg_ok := wg_in (List.mem_append_left _ (List.mem_of_getElem? (i := 21) rfl)) rfl
theorem ob_c : Cond.code Lib.objectInit ⟨#[0xb1]⟩ 1 none ∈ wg_ok := wg_in (List.mem_append_left _ (List.mem_of_getElem? (i := 22) rfl)) rfl
theorem is_X0 : Cond.instantiable RX0 10 ∈ wg_ok := wg_in (List.mem_append_left _ (List.mem_of_getElem? (i := 24) rfl)) rfl
theorem is_X1 : Cond.instantiable RX1 5 ∈ wg_ok := wg_in (List.mem_append_left _ (List.mem_of_getElem? (i := 31) rfl)) rfl
theorem is_X2 : Cond.instantiable RX2 3 ∈ wg_ok := wg_in (List.mem_append_left _ (List.mem_of_getElem? (i := 135) rfl)) rfl
theorem is_X3 : Cond.instantiable RX3 6 ∈ wg_ok := wg_in (List.mem_append_left _ (List.mem_of_getElem? (i := 108) rfl)) rfl
theorem is_X4 : Cond.instantiable RX4 7 ∈ wg_ok := wg_in (List.mem_append_left _ (List.mem_of_getElem? (i := 16) rfl)) rfl
theorem is_X5 : Cond.instantiable RX5 17 ∈ wg_ok := wg_in (List.mem_append_right _ (List.mem_append_right _ (List.mem_append_right _ (List.mem_append_left _ (List.mem_of_getElem? (i := 13) rfl))))) rfl
theorem ck_L_7 : Cond.classLink "SundayVisitsLaw" 7 RX4 ∈ wg_ok := wg_in (List.mem_append_left _ (List.mem_of_getElem? (i := 15) rfl)) rfl
theorem ck_L_10 : Cond.classLink "SundayVisitsLaw" 10 RX5 ∈ wg_ok := wg_in (List.mem_append_right _ (List.mem_append_right _ (List.mem_append_right _ (List.mem_append_left _ (List.mem_of_getElem? (i := 12) rfl))))) rfl
theorem ck_X4_9 : Cond.classLink RX4 9 RX0 ∈ wg_ok := wg_in (List.mem_append_left _ (List.mem_of_getElem? (i := 23) rfl)) rfl
theorem ck_X0_18 : Cond.classLink RX0 18 RX1 ∈ wg_ok := wg_in (List.mem_append_left _ (List.mem_of_getElem? (i := 29) rfl)) rfl
theorem ck_X4_26 : Cond.classLink RX4 26 RX3 ∈ wg_ok := wg_in (List.mem_append_left _ (List.mem_of_getElem? (i := 107) rfl)) rfl
theorem ck_X4_33 : Cond.classLink RX4 33 RX2 ∈ wg_ok := wg_in (List.mem_append_left _ (List.mem_of_getElem? (i := 133) rfl)) rfl
abbrev fsX0 : List Value := [.null, .null, .null, .int 0, .int 0, .int 0, .null, .int 0, .int 0, .int 0]
theorem df_X0 : ∀ j, j < 10 → defaultValue (tyX0 j) = vp_V fsX0 j := by
  intro j hj
  rcases (show j = 0 ∨ j = 1 ∨ j = 2 ∨ j = 3 ∨ j = 4 ∨ j = 5 ∨ j = 6 ∨ j = 7 ∨ j = 8 ∨ j = 9 by omega) with rfl | rfl | rfl | rfl | rfl | rfl | rfl | rfl | rfl | rfl <;> rfl
abbrev fsX1 : List Value := [.int 0, .int 0, .int 0, .int 0, .int 0]
theorem df_X1 : ∀ j, j < 5 → defaultValue (tyX1 j) = vp_V fsX1 j := by
  intro j hj
  rcases (show j = 0 ∨ j = 1 ∨ j = 2 ∨ j = 3 ∨ j = 4 by omega) with rfl | rfl | rfl | rfl | rfl <;> rfl
abbrev fsX2 : List Value := [.int 0, .int 0, .null]
theorem df_X2 : ∀ j, j < 3 → defaultValue (tyX2 j) = vp_V fsX2 j := by
  intro j hj
  rcases (show j = 0 ∨ j = 1 ∨ j = 2 by omega) with rfl | rfl | rfl <;> rfl
abbrev fsX3 : List Value := [.null, .int 0, .int 0, .int 0, .int 0, .int 0]
theorem df_X3 : ∀ j, j < 6 → defaultValue (tyX3 j) = vp_V fsX3 j := by
  intro j hj
  rcases (show j = 0 ∨ j = 1 ∨ j = 2 ∨ j = 3 ∨ j = 4 ∨ j = 5 by omega) with rfl | rfl | rfl | rfl | rfl | rfl <;> rfl
abbrev fsX4 : List Value := [.null, .null, .null, .int 0, .null, .null, .null]
theorem df_X4 : ∀ j, j < 7 → defaultValue (tyX4 j) = vp_V fsX4 j := by
  intro j hj
  rcases (show j = 0 ∨ j = 1 ∨ j = 2 ∨ j = 3 ∨ j = 4 ∨ j = 5 ∨ j = 6 by omega) with rfl | rfl | rfl | rfl | rfl | rfl | rfl <;> rfl
abbrev fsX5 : List Value := [.null, .null, .null, .null, .int 0, .null, .null, .int 0, .int 0, .int 0, .int 0, .long 0, .int 0, .null, .null, .null, .null]
theorem df_X5 : ∀ j, j < 17 → defaultValue (tyX5 j) = vp_V fsX5 j := by
  intro j hj
  rcases (show j = 0 ∨ j = 1 ∨ j = 2 ∨ j = 3 ∨ j = 4 ∨ j = 5 ∨ j = 6 ∨ j = 7 ∨ j = 8 ∨ j = 9 ∨ j = 10 ∨ j = 11 ∨ j = 12 ∨ j = 13 ∨ j = 14 ∨ j = 15 ∨ j = 16 by omega) with rfl | rfl | rfl | rfl | rfl | rfl | rfl | rfl | rfl | rfl | rfl | rfl | rfl | rfl | rfl | rfl | rfl <;> rfl
/-! making: worlds as lists of cells -/
abbrev tysC (cA : Nat → ClassId) : List (ClassId × FieldType) := [(cA 0, .int), (cA 1, .byte), (cA 2, .object "SundayVisits$Resident"), (cA 3, .object "SundayVisits$Sheet")]
def Xi (U : State) : Prop := va_AO "SundayVisits$Resident" U ∧ va_AO "SundayVisits$Sheet" U ∧ va_Nw (.methodLinkNest RX0 24 yX1_init "SundayVisits") U
theorem Xi.moved {u U : State} (hW : u.WarmedH U.vm) (h : Xi u) : Xi U := ⟨va_AO.moved hW.alike h.1, va_AO.moved hW.alike h.2.1, va_Nw.warmM hW h.2.2⟩
abbrev Bc : Type := Cy × va_G × (Nat → ClassId) × (Nat → Prop)
abbrev b_x (z : Bc) : Cy := z.1
abbrev b_D (z : Bc) : va_G := z.2.1
abbrev b_c (z : Bc) : Nat → ClassId := z.2.2.1
abbrev b_A (z : Bc) : Nat → Prop := z.2.2.2
def Bz (z : Bc) (nL : Nat) (ws : va_W) (cells slots pc : Nat) (lv : List (Nat × Value)) (st : List Value) : Prop :=
  ∀ (H : Heap) (locs : List Loc) (ls : Array Slot), va_P (b_D z) vwCl ws H → va_D (b_A z) ws → va_S (b_A z) (y_s (b_x z)).heap H locs → lv_has ls nL lv → W (y_p (b_x z)) (y_l (b_x z)) (y_e (b_x z)) (y_R (b_x z)) (y_s (b_x z)) (y_m (b_x z)) (y_a (b_x z)) (y_b (b_x z)) (y_t (b_x z)) (y_c (b_x z)) H locs cells slots (y_Q (b_x z)) (F0 (y_m (b_x z)) pc ls st)
def Bx (z : Bc) (cc : ByteArray) (nL : Nat) (own : String) (rm : Room) : Prop :=
  (y_p (b_x z)).tables.exec = Jvm.exec ∧ (y_c (b_x z)).code = cc ∧ (y_c (b_x z)).maxLocals = nL ∧ (y_s (b_x z)).vm.findClass own = some (y_m (b_x z)).cls ∧ (∀ v ∈ wg_ok, v.before (y_a (b_x z)) (y_s (b_x z)) = true) ∧ (y_t (b_x z)).sig.returnType = none ∧ (y_t (b_x z)).locks = false ∧ va_K (b_D z) vwCl (tysC (b_c z)) (y_s (b_x z)) ∧ y_R (b_x z) = rm ∧ (∀ q, (y_s (b_x z)).heap.size ≤ q → b_A z q) ∧ (y_t (b_x z)).name = "<init>" ∧ Xi (y_s (b_x z))
abbrev aI (z : Bc) (n : Nat) (f : Nat → Int32) : va_E := .inl (b_c z 0, n, .inl f)
abbrev aB (z : Bc) (n : Nat) (f : Nat → Int32) : va_E := .inl (b_c z 1, n, .inl f)
abbrev aQ (z : Bc) (j n : Nat) (f : Nat → Option Nat) : va_E := .inl (b_c z j, n, .inr (.inr (.inr (.inr f))))
section BROWS
variable {z : Bc} {nL : Nat} {ws : va_W} {cells slots pc : Nat} {lv : List (Nat × Value)} {st : List Value} {cc : ByteArray} {own : String} {rm : Room}
theorem b_ws {ws' : va_W} (h : ws = ws') (k : Bz z nL ws' cells slots pc lv st) : Bz z nL ws cells slots pc lv st := h ▸ k
theorem b_cs {c2 s2 : Nat} (h : cells = c2) (h2 : slots = s2) (k : Bz z nL ws c2 s2 pc lv st) : Bz z nL ws cells slots pc lv st := h ▸ h2 ▸ k
theorem b_iconst (C : Bx z cc nL own rm) {n : Int} {v : Int32} {q : Nat} (hd : decode cc pc = .ok (.iconst n, 1)) (hv : Int32.ofInt n = v) (hq : pc + 1 = q) (k : Bz z nL ws cells slots q lv (.int v :: st)) : Bz z nL ws cells slots pc lv st := by
  subst hq
  exact fun H locs ls hP hD hS hl => lv_iconst C.1 C.2.1 hd hv (k H locs ls hP hD hS hl)
theorem b_bipush (C : Bx z cc nL own rm) {n : Int} {v : Int32} {q : Nat} (hd : decode cc pc = .ok (.bipush n, 2)) (hv : (Int8.ofInt n).toInt32 = v) (hq : pc + 2 = q) (k : Bz z nL ws cells slots q lv (.int v :: st)) : Bz z nL ws cells slots pc lv st := by
  subst hq
  exact fun H locs ls hP hD hS hl => lv_bipush C.1 C.2.1 hd hv (k H locs ls hP hD hS hl)
theorem b_sipush (C : Bx z cc nL own rm) {n : Int} {v : Int32} {q : Nat} (hd : decode cc pc = .ok (.sipush n, 3)) (hv : (Int16.ofInt n).toInt32 = v) (hq : pc + 3 = q) (k : Bz z nL ws cells slots q lv (.int v :: st)) : Bz z nL ws cells slots pc lv st := by
  subst hq
  exact fun H locs ls hP hD hS hl => lv_sipush C.1 C.2.1 hd hv (k H locs ls hP hD hS hl)
theorem b_iload_n (C : Bx z cc nL own rm) {n : Fin 4} {v : Int32} {q : Nat} (hd : decode cc pc = .ok (.iload_n n, 1)) (hv : lgt lv n = some (.int v)) (hq : pc + 1 = q) (k : Bz z nL ws cells slots q lv (.int v :: st)) : Bz z nL ws cells slots pc lv st := by
  subst hq
  exact fun H locs ls hP hD hS hl => lv_iload_n C.1 C.2.1 hd rfl (lgt_has hl hv) (k H locs ls hP hD hS hl)
theorem b_aload_n (C : Bx z cc nL own rm) {n : Fin 4} {v : Nat} {q : Nat} (hd : decode cc pc = .ok (.aload_n n, 1)) (hv : lgt lv n = some (.ref v)) (hq : pc + 1 = q) (k : Bz z nL ws cells slots q lv (.ref v :: st)) : Bz z nL ws cells slots pc lv st := by
  subst hq
  exact fun H locs ls hP hD hS hl => lv_aload_n C.1 C.2.1 hd rfl (lgt_has hl hv) (k H locs ls hP hD hS hl)
theorem b_istore_n (C : Bx z cc nL own rm) {n : Fin 4} {v : Int32} {q : Nat} (hd : decode cc pc = .ok (.istore_n n, 1)) (hn : (n : Nat) < nL) (hq : pc + 1 = q) (k : Bz z nL ws cells slots q (lst lv n (.int v)) st) : Bz z nL ws cells slots pc lv (.int v :: st) := by
  subst hq
  exact fun H locs ls hP hD hS hl => lv_istore_n C.1 C.2.1 hd rfl hl hn rfl (fun ls hl => k H locs ls hP hD hS hl)
theorem b_dup (C : Bx z cc nL own rm) {v : Value} {q : Nat} (hd : decode cc pc = .ok (.dup, 1)) (hv : v.category = 1) (hq : pc + 1 = q) (k : Bz z nL ws cells slots q lv (v :: v :: st)) : Bz z nL ws cells slots pc lv (v :: st) := by
  subst hq
  exact fun H locs ls hP hD hS hl => lv_dup C.1 C.2.1 hd hv (k H locs ls hP hD hS hl)
theorem b_iinc (C : Bx z cc nL own rm) {i : Nat} {n : Int} {v : Int32} {q : Nat} (hd : decode cc pc = .ok (.iinc i n, 3)) (hv : lgt lv i = some (.int v)) (hn : i < nL) (hq : pc + 3 = q) (k : Bz z nL ws cells slots q (lst lv i (.int (v + Int32.ofInt n))) st) : Bz z nL ws cells slots pc lv st := by
  subst hq
  intro H locs ls hP hD hS hl
  have h1 : lv_has ls nL ((i, .int v) :: lv) := ⟨hl.1, hl.2.1, fun q hq => by
    rcases List.mem_cons.mp hq with e | h
    · subst e; exact lgt_has hl hv
    · exact hl.2.2 q h⟩
  refine lv_iinc C.1 C.2.1 hd h1 (k := 0) rfl rfl hn rfl (fun ls hl => k H locs ls hP hD hS ⟨hl.1, hl.2.1, fun q hq => hl.2.2 q ?_⟩)
  rcases List.mem_cons.mp hq with e | h
  · subst e; exact List.mem_cons_self
  · refine List.mem_cons_of_mem _ ?_
    have := List.mem_filter.mp h
    exact List.mem_filter.mpr ⟨List.mem_cons_of_mem _ this.1, this.2⟩
theorem b_iincN (C : Bx z cc nL own rm) {i j : Nat} {q : Nat} (hd : decode cc pc = .ok (.iinc i 1, 3)) (hv : lgt lv i = some (.int (nI j))) (hn : i < nL) (hq : pc + 3 = q) (k : Bz z nL ws cells slots q (lst lv i (.int (nI (j + 1)))) st) : Bz z nL ws cells slots pc lv st := b_iinc C hd hv hn hq (by rw [nI_succ] at k; exact k)
theorem b_goto (C : Bx z cc nL own rm) {off : Int} (tgt : Nat) (hd : decode cc pc = .ok (.goto off, 3)) (ht : (pc : Int) + off = (tgt : Int)) (k : Bz z nL ws cells slots tgt lv st) : Bz z nL ws cells slots pc lv st := fun H locs ls hP hD hS hl => lv_goto C.1 C.2.1 hd ht (k H locs ls hP hD hS hl)

theorem b_icmp_ge (C : Bx z cc nL own rm) {a b : Int32} {off : Int} (tgt q : Nat) (hd : decode cc pc = .ok (.if_icmp .ge off, 3)) (ht : (pc : Int) + off = (tgt : Int)) (hq : pc + 3 = q) (kt : b ≤ a → Bz z nL ws cells slots tgt lv st) (kf : ¬ b ≤ a → Bz z nL ws cells slots q lv st) : Bz z nL ws cells slots pc lv (.int b :: .int a :: st) := by
  subst hq
  exact fun H locs ls hP hD hS hl => lv_icmp_ge C.1 C.2.1 hd ht (fun h => kt h H locs ls hP hD hS hl) (fun h => kf h H locs ls hP hD hS hl)
theorem b_obj (C : Bx z cc nL own rm) {idx a q : Nat} (hd : decode cc pc = .ok (.invokespecial idx, 3)) (hl : Cond.methodLink own idx Lib.objectInit ∈ wg_ok) (hf : 1 ≤ rm.frames) (hr : (st.map fun v => v.category).sum + 12 ≤ rm.locals) (hq : pc + 3 = q) (k : Bz z nL ws cells slots q lv st) : Bz z nL ws cells slots pc lv (.ref a :: st) := by
  subst hq
  intro H locs ls hP hD hS hl0
  have hR := C.2.2.2.2.2.2.2.2.1
  refine W.objInit C.1 C.2.1 C.2.2.2.1 (C.2.2.2.2.1 _ hl) (C.2.2.2.2.1 _ ob_i) (C.2.2.2.2.1 _ ob_c) rfl (by rw [C.2.2.1]; exact hl0.1) rfl hd (by rw [hR]; exact hf) (by rw [hR]; exact Nat.le_trans (Nat.add_le_add_right (by show 2 * 0 + _ ≤ _; omega) 12) hr) ?_
  exact k H locs ls hP hD hS hl0
theorem b_newI (C : Bx z cc nL own rm) {n : Int32} {N q : Nat} (hd : decode cc pc = .ok (.newarray .int, 2)) (hn : ¬ n < 0) (hN : n.toNatClampNeg = N) (hb : N ≤ 1000) (hc : cells + 1 ≤ rm.cells) (hs : slots + N ≤ rm.slots) (hq : pc + 2 = q) (k : ∀ a, Bz z nL (ws ++ [(a, aI z N (fun _ => 0))]) (cells + 1) (slots + N) q lv (.ref a :: st)) : Bz z nL ws cells slots pc lv (.int n :: st) := by
  subst hq
  intro H locs ls hP hD hS hl0
  have hR := C.2.2.2.2.2.2.2.2.1
  have hK := C.2.2.2.2.2.2.2.1
  refine va_newa (atype := .int) (ty := .int) (a0 := (N, .inl (fun _ => 0))) (A := b_A z) (H0 := (y_s (b_x z)).heap) (D := b_D z) (cl := vwCl) (ws := ws) (N' := N) C.1 C.2.1 (C.2.2.2.2.1 _ ar_int) rfl hK hP hD hS C.2.2.2.2.2.2.2.2.2.1 (fun cA => rfl) hn hN (by show N * 4 ≤ _; omega) (by rw [hR]; exact hc) (by rw [hR]; exact hs) hd (fun a cA H1 hK1 hP1 hD1 hS1 => ?_)
  have e1 := va_nm_int (hK1.2 4 _ rfl).2
  have e2 := va_nm_int (hK.2 0 _ rfl).2
  have e : cA = b_c z 0 := Option.some.inj (e1.symm.trans e2)
  subst e
  exact k a H1 locs ls hP1 hD1 hS1 hl0
theorem b_newB (C : Bx z cc nL own rm) {n : Int32} {N q : Nat} (hd : decode cc pc = .ok (.newarray .byte, 2)) (hn : ¬ n < 0) (hN : n.toNatClampNeg = N) (hb : N ≤ 1000) (hc : cells + 1 ≤ rm.cells) (hs : slots + N ≤ rm.slots) (hq : pc + 2 = q) (k : ∀ a, Bz z nL (ws ++ [(a, aB z N (fun _ => 0))]) (cells + 1) (slots + N) q lv (.ref a :: st)) : Bz z nL ws cells slots pc lv (.int n :: st) := by
  subst hq
  intro H locs ls hP hD hS hl0
  have hR := C.2.2.2.2.2.2.2.2.1
  have hK := C.2.2.2.2.2.2.2.1
  refine va_newa (atype := .byte) (ty := .byte) (a0 := (N, .inl (fun _ => 0))) (A := b_A z) (H0 := (y_s (b_x z)).heap) (D := b_D z) (cl := vwCl) (ws := ws) (N' := N) C.1 C.2.1 (C.2.2.2.2.1 _ ar_byte) rfl hK hP hD hS C.2.2.2.2.2.2.2.2.2.1 (fun cA => rfl) hn hN (by show N * 1 ≤ _; omega) (by rw [hR]; exact hc) (by rw [hR]; exact hs) hd (fun a cA H1 hK1 hP1 hD1 hS1 => ?_)
  have e1 := va_nm_byte (hK1.2 4 _ rfl).2
  have e2 := va_nm_byte (hK.2 1 _ rfl).2
  have e : cA = b_c z 1 := Option.some.inj (e1.symm.trans e2)
  subst e
  exact k a H1 locs ls hP1 hD1 hS1 hl0
theorem b_newQ (C : Bx z cc nL own rm) {Cn : String} (j : Nat) (hj : (tysC (b_c z))[j]? = some (b_c z j, .object Cn)) {idx : Nat} {n : Int32} {N q : Nat} (hd : decode cc pc = .ok (.anewarray idx, 3)) (hl : Cond.classLink own idx Cn ∈ wg_ok) (ho : va_AO Cn (y_s (b_x z))) (hn : ¬ n < 0) (hN : n.toNatClampNeg = N) (hb : N ≤ 1000) (hc : cells + 1 ≤ rm.cells) (hs : slots + N ≤ rm.slots) (hq : pc + 3 = q) (k : ∀ a, Bz z nL (ws ++ [(a, aQ z j N (fun _ => none))]) (cells + 1) (slots + N) q lv (.ref a :: st)) : Bz z nL ws cells slots pc lv (.int n :: st) := by
  subst hq
  intro H locs ls hP hD hS hl0
  have hR := C.2.2.2.2.2.2.2.2.1
  have hK := C.2.2.2.2.2.2.2.1
  refine va_newq (C := Cn) (A := b_A z) (H0 := (y_s (b_x z)).heap) (D := b_D z) (cl := vwCl) (ws := ws) (N' := N) C.1 C.2.1 C.2.2.2.1 (C.2.2.2.2.1 _ hl) ho hK hP hD hS C.2.2.2.2.2.2.2.2.2.1 hn hN (by omega) (by rw [hR]; exact hc) (by rw [hR]; exact hs) hd (fun a cA H1 hK1 hP1 hD1 hS1 => ?_)
  have e1 := va_nmO (hK1.2 4 _ rfl).2 rfl
  have e2 := va_nmO (hK.2 j _ hj).2 rfl
  have e : cA = b_c z j := Option.some.inj (e1.symm.trans e2)
  subst e
  exact k a H1 locs ls hP1 hD1 hS1 hl0
theorem b_new (C : Bx z cc nL own rm) {Cn : String} {T : u_T} {N ci idx q : Nat} {ty : Nat → FieldType} {fs : List Value} (hd : decode cc pc = .ok (.new idx, 3)) (hin : ∀ v ∈ u_ws Cn T N, v ∈ wg_ok) (hty : ∀ k, k < N → parseFieldDescriptor (T k).2.2.1 = some (ty k)) (hl : Cond.classLink own idx Cn ∈ wg_ok) (hi : Cond.instantiable Cn N ∈ wg_ok) (hini : Cond.initialized Cn ∈ wg_ok) (hcl : vwCl[ci]? = some (Cn, T, N)) (hfs : ∀ j, j < N → defaultValue (ty j) = vp_V fs j) (hc : cells + 1 ≤ rm.cells) (hs : slots + N ≤ rm.slots) (hq : pc + 3 = q) (k : ∀ a, Bz z nL (ws ++ [(a, .inr (ci, fs))]) (cells + 1) (slots + N) q lv (.ref a :: st)) : Bz z nL ws cells slots pc lv st := by
  subst hq
  intro H locs ls hP hD hS hl0
  have hR := C.2.2.2.2.2.2.2.2.1
  exact va_new (A := b_A z) (H0 := (y_s (b_x z)).heap) C.1 C.2.1 C.2.2.2.2.1 hin ty hty C.2.2.2.1 (C.2.2.2.2.1 _ hl) (C.2.2.2.2.1 _ hi) (C.2.2.2.2.1 _ hini) C.2.2.2.2.2.2.2.1 hP hD hS C.2.2.2.2.2.2.2.2.2.1 hcl hfs (by rw [hR]; exact hc) (by rw [hR]; exact hs) hd (fun a H1 hP1 hD1 hS1 => k a H1 locs ls hP1 hD1 hS1 hl0)
theorem b_get (C : Bx z cc nL own rm) {Cn : String} {T : u_T} {N ci idx q : Nat} {fs : List Value} {a : Nat} {v : Value} (q0 i : Nat) (hd : decode cc pc = .ok (.getfield idx, 3)) (he : ws[q0]? = some (a, .inr (ci, fs))) (hcl : vwCl[ci]? = some (Cn, T, N)) (hi : i < N) (hin : ∀ v ∈ u_ws Cn T N, v ∈ wg_ok) (hl : Cond.fieldLink own idx (T i).1 (T i).2.1 (T i).2.2.1 ∈ wg_ok) (hv : fs[i]? = some v) (hq : pc + 3 = q) (k : Bz z nL ws cells slots q lv (v :: st)) : Bz z nL ws cells slots pc lv (.ref a :: st) := by
  subst hq
  intro H locs ls hP hD hS hl0
  exact va_get C.1 C.2.1 C.2.2.2.2.1 hin C.2.2.2.1 C.2.2.2.2.2.2.2.1 hP q0 he hcl i hi (C.2.2.2.2.1 _ hl) (fun _ h => h) hv hd (k H locs ls hP hD hS hl0)
theorem b_put (C : Bx z cc nL own rm) {Cn : String} {T : u_T} {N ci idx q : Nat} {ty0 : Nat → FieldType} {fs : List Value} {a : Nat} {v : Value} (q0 i : Nat) (hd : decode cc pc = .ok (.putfield idx, 3)) (he : ws[q0]? = some (a, .inr (ci, fs))) (hcl : vwCl[ci]? = some (Cn, T, N)) (hi : i < N) (hin : ∀ v ∈ u_ws Cn T N, v ∈ wg_ok) (hty : ∀ k, k < N → parseFieldDescriptor (T k).2.2.1 = some (ty0 k)) (hnm : ∀ a, a < N → ∀ b, b < N → a ≠ b → (T a).2.1 ≠ (T b).2.1) (hl : Cond.fieldLink own idx (T i).1 (T i).2.1 (T i).2.2.1 ∈ wg_ok) (hfin : (T i).2.2.2 = false) (hn : narrow (ty0 i) v = v) (hfit : fits (ty0 i) v = true) (hlen : i < fs.length) (hq : pc + 3 = q) (k : Bz z nL (ws.set q0 (a, .inr (ci, fs.set i v))) cells slots q lv st) : Bz z nL ws cells slots pc lv (v :: .ref a :: st) := by
  subst hq
  intro H locs ls hP hD hS hl0
  exact va_put C.1 C.2.1 C.2.2.2.2.1 hin ty0 hty hnm C.2.2.2.1 C.2.2.2.2.2.2.2.1 hP hD hS q0 he hcl i hi (C.2.2.2.2.1 _ hl) (fun _ h => h) hfin (hty i hi) hn hfit hlen hd (fun H1 locs1 hP1 hD1 hS1 => k H1 locs1 ls hP1 hD1 hS1 hl0)
theorem b_putF (C : Bx z cc nL own rm) {Cn : String} {T : u_T} {N ci idx q : Nat} {ty0 : Nat → FieldType} {fs : List Value} {a : Nat} {v : Value} (q0 i : Nat) (hd : decode cc pc = .ok (.putfield idx, 3)) (he : ws[q0]? = some (a, .inr (ci, fs))) (hcl : vwCl[ci]? = some (Cn, T, N)) (hi : i < N) (hin : ∀ v ∈ u_ws Cn T N, v ∈ wg_ok) (hty : ∀ k, k < N → parseFieldDescriptor (T k).2.2.1 = some (ty0 k)) (hnm : ∀ a, a < N → ∀ b, b < N → a ≠ b → (T a).2.1 ≠ (T b).2.1) (hl : Cond.fieldLink own idx (T i).1 (T i).2.1 (T i).2.2.1 ∈ wg_ok) (hfin : (T i).2.2.2 = true) (hdecl : (T i).1 = own) (hn : narrow (ty0 i) v = v) (hfit : fits (ty0 i) v = true) (hlen : i < fs.length) (hq : pc + 3 = q) (k : Bz z nL (ws.set q0 (a, .inr (ci, fs.set i v))) cells slots q lv st) : Bz z nL ws cells slots pc lv (v :: .ref a :: st) := by
  subst hq
  intro H locs ls hP hD hS hl0
  exact va_putF C.1 C.2.1 C.2.2.2.2.1 hin ty0 hty hnm C.2.2.2.1 C.2.2.2.2.2.2.2.1 hP hD hS q0 he hcl i hi (C.2.2.2.2.1 _ hl) (fun _ h => h) hfin C.2.2.2.2.2.2.2.2.2.2.1 hdecl (hty i hi) hn hfit hlen hd (fun H1 locs1 hP1 hD1 hS1 => k H1 locs1 ls hP1 hD1 hS1 hl0)
theorem b_iast (C : Bx z cc nL own rm) {a n q : Nat} {f : Nat → Int32} {i v : Int32} (q0 : Nat) (hd : decode cc pc = .ok (.iastore, 1)) (he : ws[q0]? = some (a, aI z n f)) (hin : vp_in i n) (hq : pc + 1 = q) (k : Bz z nL (ws.set q0 (a, aI z n (upd f i.toNatClampNeg v))) cells slots q lv st) : Bz z nL ws cells slots pc lv (.int v :: .int i :: .ref a :: st) := by
  subst hq
  intro H locs ls hP hD hS hl0
  exact va_iast C.1 C.2.1 C.2.2.2.2.2.2.2.1 hP hD hS q0 0 he rfl hin hd (fun H1 locs1 hP1 hD1 hS1 => k H1 locs1 ls hP1 hD1 hS1 hl0)
theorem b_aast (C : Bx z cc nL own rm) {a n v q j ci : Nat} {r : vw_C} {vs : List Value} {f : Nat → Option Nat} {i : Int32} (q0 qk : Nat) (hd : decode cc pc = .ok (.aastore, 1)) (he : ws[q0]? = some (a, aQ z j n f)) (hj : (tysC (b_c z))[j]? = some (b_c z j, .object r.1)) (hv : ws[qk]? = some (v, .inr (ci, vs))) (hcl : vwCl[ci]? = some r) (hin : vp_in i n) (hq : pc + 1 = q) (k : Bz z nL (ws.set q0 (a, aQ z j n (va_up f i.toNatClampNeg (some v)))) cells slots q lv st) : Bz z nL ws cells slots pc lv (.ref v :: .int i :: .ref a :: st) := by
  subst hq
  intro H locs ls hP hD hS hl0
  exact va_astq C.1 C.2.1 C.2.2.2.2.2.2.2.1 hP hD hS q0 j qk ci he hj hv hcl hin hd (fun H1 locs1 hP1 hD1 hS1 => k H1 locs1 ls hP1 hD1 hS1 hl0)
end BROWS
/-! contracts of constructors -/
abbrev one (h0 ci : Nat) (fs : List Value) : va_W := [(h0, .inr (ci, fs))]
def KU (D : va_G) (cA : Nat → ClassId) (h0 ci : Nat) (fs : List Value) (sz : Nat) (U : State) : Prop := U.heap.size = sz ∧ va_P D vwCl (one h0 ci fs) U.heap ∧ va_K D vwCl (tysC cA) U ∧ Xi U
def Kt (l : Launch) (D : va_G) (cA : Nat → ClassId) (y : MethodName) (b : ByteArray) (n : Nat) (rm : Room) (ci : Nat) (fs : List Value) (B : Nat → va_W → Prop) : Prop :=
  ∀ h0 sz, Met l y (WG y b n none) rm (va_Pc [.ref h0] (KU D cA h0 ci fs sz)) (va_Qv (S := va_W) (B h0) (fun w1 t => va_P D vwCl w1 t.heap ∧ va_D (va_A (one h0 ci fs) sz) w1) (va_A (one h0 ci fs) sz)) rm.cells rm.slots (va_A (one h0 ci fs) sz)
theorem KU_blind (D : va_G) (cA : Nat → ClassId) (h0 ci : Nat) (fs : List Value) (sz : Nat) (av : List Value) : FrameBlind (va_Pc av (KU D cA h0 ci fs sz)) := by
  intro a U g mk h
  obtain ⟨e0, e1, e2, e3, e4⟩ := h
  exact ⟨e0, e1, e2, va_K.moved (u := U) (U := U.calling g mk a) (Vm.Alike.refl U.vm) e3, Xi.moved (State.WarmedH.refl U) e4⟩
theorem one_D (h0 ci : Nat) (fs : List Value) : va_D (fun _ => True) (one h0 ci fs) := ⟨fun i j p q hp hq _ => by
  have a := (List.getElem?_eq_some_iff.mp hp).1
  have b := (List.getElem?_eq_some_iff.mp hq).1
  simp at a b
  omega, fun _ _ _ => trivial⟩
theorem Kt.mk {l : Launch} {D : va_G} {cA : Nat → ClassId} {y : MethodName} {b : ByteArray} {n : Nat} {rm : Room} {ci : Nat} {fs : List Value} {B : Nat → va_W → Prop} {own : String} (ho : y.cls = own) (hy : plainName y.cls = true) (hi : y.name = "<init>") (hn : 1 ≤ n) (body : ∀ (h0 : Nat) (z : Bc), y_l (b_x z) = l → b_D z = D → b_c z = cA → b_A z = va_A (one h0 ci fs) (y_s (b_x z)).heap.size → Bx z b n own rm → y_Q (b_x z) = MQ (y_b (b_x z)) (va_Qv (S := va_W) (B h0) (fun w1 t => va_P D vwCl w1 t.heap ∧ va_D (b_A z) w1) (b_A z)) (y_a (b_x z)) (y_s (b_x z)) rm.cells rm.slots (b_A z) → Bz z n (one h0 ci fs) 0 0 0 [(0, .ref h0)] []) : Kt l D cA y b n rm ci fs B := by
  intro h0 sz
  subst ho
  refine Met.ofW (cc := b) (maxL := n) (ret := none) hy rfl ?_
  intro p e s m args below meth c s₁ BB hml hv
  obtain ⟨e0, e1, e2, e3, e4⟩ := hv
  subst e0
  subst e1
  have hts := atoms_spec (ws := WG y b n none) BB.pre
  have hown : s.vm.findClass y.cls = some m.cls := findClass_of_methodNamed BB.named
  have hin : meth.name = "<init>" := (name_of_methodNamed BB.named BB.method).1.trans hi
  have hl := lv_entry [.ref h0] (n := n) hn
  rw [lg_entry_eq]
  exact body h0 ((p, l, e, (headSpec (WG y b n none) rm).room, s, m, [.ref h0].toArray, below, meth, c, MQ below (va_Qv (S := va_W) (B h0) (fun w1 t => va_P D vwCl w1 t.heap ∧ va_D (va_A (one h0 ci fs) s.heap.size) w1) (va_A (one h0 ci fs) s.heap.size)) [.ref h0].toArray s rm.cells rm.slots (va_A (one h0 ci fs) s.heap.size)), D, cA, va_A (one h0 ci fs) s.heap.size) rfl rfl rfl rfl ⟨BB.exec, BB.bytes, hml, hown, fun v hv => hts v (List.mem_cons_of_mem _ hv), BB.returns, BB.notSynchronized, e3, rfl, fun q h => Or.inr h, hin, e4⟩ rfl s.heap [] _ e2 ((one_D h0 ci fs).self) va_S.rf hl
section BCALL
variable {z : Bc} {nL : Nat} {ws : va_W} {cells slots pc : Nat} {lv : List (Nat × Value)} {st : List Value} {cc : ByteArray} {own : String} {rm : Room}
theorem b_ret (C : Bx z cc nL own rm) {B : va_W → Prop} {D : va_G} (hDD : b_D z = D) (hQ : y_Q (b_x z) = MQ (y_b (b_x z)) (va_Qv (S := va_W) B (fun w1 t => va_P D vwCl w1 t.heap ∧ va_D (b_A z) w1) (b_A z)) (y_a (b_x z)) (y_s (b_x z)) rm.cells rm.slots (b_A z)) (hd : decode cc pc = .ok (.return_, 1)) {w1 : va_W} (is : List Nat) (hs : is.filterMap (fun i => ws[i]?) = w1) (hn : va_nd is = true) (hm : is.map (fun i => ws[i]?) = w1.map some) (hB : B w1) (hc : cells ≤ rm.cells) (hsl : slots ≤ rm.slots) : Bz z nL ws cells slots pc lv [] := by
  intro H locs ls hP hD hS hl
  subst hDD
  rw [hQ]
  refine W.widen (k := rm.cells) (n := rm.slots) hc hsl ?_
  exact W.vret C.1 C.2.1 C.2.2.2.2.2.1 (fun t ht _ => ⟨⟨w1, rfl, hB, by rw [ht]; exact hP.sub is hs, hD.sub is hn hm⟩, hS.F ht⟩) hS.2.2 hd C.2.2.2.2.2.2.1
theorem nd_of : ∀ {l : List Nat}, l.Nodup → va_nd l = true
  | [], _ => rfl
  | a :: l, h => by
    have := List.nodup_cons.mp h
    unfold va_nd
    rw [nd_of this.2]
    simp [this.1]
theorem jn_L {D : va_G} {A : Nat → Prop} {x : Nat × va_E} {w1 : va_W} {H H1 : Heap} (hP : va_P D vwCl (ws ++ [x]) H) (hD : va_D A (ws ++ [x])) (hk : ∀ q : Nat, q < H.size → ¬ va_A [x] H.size q → H1[q]? = H[q]?) (hF : ∀ q, va_A [x] H.size q → A q) (hP1 : va_P D vwCl w1 H1) (hD1 : va_D (va_A [x] H.size) w1) : va_P D vwCl (ws ++ w1) H1 ∧ va_D A (ws ++ w1) := by
  refine va_join hP hD [ws.length] (List.range ws.length) ?_ ?_ (nd_of List.nodup_range) (fun i hi => ?_) hk hF hP1 hD1
  · simp
  · apply List.ext_getElem?
    intro i
    by_cases h : i < ws.length
    · rw [List.getElem?_map, List.getElem?_range h, List.getElem?_map]
      simp [List.getElem?_append_left h, List.getElem?_eq_getElem h]
    · rw [List.getElem?_eq_none (by simpa using h), List.getElem?_eq_none (by simpa using h)]
  · have := List.mem_range.mp hi
    simp
    omega
theorem last_P {D : va_G} {x : Nat × va_E} {H : Heap} (hP : va_P D vwCl (ws ++ [x]) H) : va_P D vwCl [x] H := hP.by (fun k => ws.length + k) (fun k q hk => by rw [List.getElem?_append_right (by omega), Nat.add_sub_cancel_left]; exact hk)
theorem last_F {A : Nat → Prop} {x : Nat × va_E} {H0 H : Heap} {locs : List Loc} (hD : va_D A (ws ++ [x])) (hS : va_S A H0 H locs) (hA : ∀ q, H0.size ≤ q → A q) : ∀ q, va_A [x] H.size q → A q := va_free hD hS hA [ws.length] (by simp)
/-- what is known of a constructor -/
def Mk (y : MethodName) (b : ByteArray) (n : Nat) : Prop := Cond.code y b n none ∈ wg_ok ∧ Cond.instanceMethod y ∈ wg_ok ∧ Cond.initialized y.cls ∈ wg_ok ∧ y.name = "<init>" ∧ (y.cls ≠ "java/lang/invoke/MethodHandle" ∧ y.cls ≠ "java/lang/invoke/VarHandle" ∧ (parseMethodDescriptor y.desc).map (fun d => d.parameters.length) = some 0)
theorem b_callI (C : Bx z cc nL own rm) {y : MethodName} {b : ByteArray} {n ci a idx q : Nat} {rmy : Room} {fs : List Value} {B : Nat → va_W → Prop} (hd : decode cc pc = .ok (.invokespecial idx, 3)) (M : Mk y b n) (hM : Kt (y_l (b_x z)) (b_D z) (b_c z) y b n rmy ci fs B) (hl : Cond.methodLink own idx y ∈ wg_ok) (hf : rmy.frames + 1 ≤ rm.frames) (hlo : 8 + (n + 11) + rmy.locals ≤ rm.locals) (hr : (st.map fun v => v.category).sum ≤ 8) (hc : cells + rmy.cells ≤ rm.cells) (hs : slots + rmy.slots ≤ rm.slots) (hq : pc + 3 = q) (k : ∀ w1, B a w1 → Bz z nL (ws ++ w1) (cells + rmy.cells) (slots + rmy.slots) q lv st) : Bz z nL (ws ++ [(a, .inr (ci, fs))]) cells slots pc lv (.ref a :: st) := by
  subst hq
  intro H locs ls hP hD hS hl0
  have hts := C.2.2.2.2.1
  have hRR := C.2.2.2.2.2.2.2.2.1
  have hF := last_F hD hS C.2.2.2.2.2.2.2.2.2.1
  refine va_callv (va_runI (As := []) (rest := st) ⟨C.1, C.2.1, C.2.2.1, C.2.2.2.1, hts⟩ (hM a H.size) ⟨callB_of 0 hts (wg_goodIn M.1) rfl rfl rfl (hts _ M.2.2.1) (hts _ hl) M.2.2.2.2 (by rw [hRR]; exact ⟨hf, hlo⟩), M.2.2.2.1, hts _ M.2.1⟩ ⟨KU_blind _ _ _ _ _ _ _, fun U hU hW => ⟨rfl, by rw [hU], by rw [hU]; exact last_P hP, va_K.moved hW.alike C.2.2.2.2.2.2.2.1, Xi.moved hW C.2.2.2.2.2.2.2.2.2.2.2⟩⟩ rfl rfl hl0.1 rfl (lv_room hr) hd ⟨by rw [hRR]; exact hc, by rw [hRR]; exact hs⟩) hS (fun q _ h => hF q h) hF (fun w1 t H1 locs1 ht _ hp hB _ hk1 hS1 => ?_)
  obtain ⟨hP1, hD1⟩ := hB
  rw [ht] at hP1
  obtain ⟨hP2, hD2⟩ := jn_L hP hD hk1 hF hP1 hD1
  exact k w1 hp H1 locs1 ls hP2 hD2 hS1 hl0
theorem b_callIN (C : Bx z cc nL own rm) {y : MethodName} {b : ByteArray} {n ci a idx q : Nat} {host : String} {rmy : Room} {fs : List Value} {B : Nat → va_W → Prop} (hd : decode cc pc = .ok (.invokespecial idx, 3)) (M : Mk y b n) (hM : Kt (y_l (b_x z)) (b_D z) (b_c z) y b n rmy ci fs B) (hl : va_Nw (.methodLinkNest own idx y host) (y_s (b_x z))) (hf : rmy.frames + 1 ≤ rm.frames) (hlo : 8 + (n + 11) + rmy.locals ≤ rm.locals) (hr : (st.map fun v => v.category).sum ≤ 8) (hc : cells + rmy.cells ≤ rm.cells) (hs : slots + rmy.slots ≤ rm.slots) (hq : pc + 3 = q) (k : ∀ w1, B a w1 → Bz z nL (ws ++ w1) (cells + rmy.cells) (slots + rmy.slots) q lv st) : Bz z nL (ws ++ [(a, .inr (ci, fs))]) cells slots pc lv (.ref a :: st) := by
  subst hq
  intro H locs ls hP hD hS hl0
  have hts := C.2.2.2.2.1
  have hRR := C.2.2.2.2.2.2.2.2.1
  have hF := last_F hD hS C.2.2.2.2.2.2.2.2.2.1
  refine va_callv (va_runIN (As := []) (rest := st) ⟨C.1, C.2.1, C.2.2.1, C.2.2.2.1, hts⟩ (hM a H.size) ⟨va_cnB 0 hts (wg_goodIn M.1) rfl rfl rfl hl (hts _ M.2.2.1) M.2.2.2.2 (by rw [hRR]; exact ⟨hf, hlo⟩), M.2.2.2.1, hts _ M.2.1⟩ ⟨KU_blind _ _ _ _ _ _ _, fun U hU hW => ⟨rfl, by rw [hU], by rw [hU]; exact last_P hP, va_K.moved hW.alike C.2.2.2.2.2.2.2.1, Xi.moved hW C.2.2.2.2.2.2.2.2.2.2.2⟩⟩ rfl rfl hl0.1 rfl (lv_room hr) hd ⟨by rw [hRR]; exact hc, by rw [hRR]; exact hs⟩) hS (fun q _ h => hF q h) hF (fun w1 t H1 locs1 ht _ hp hB _ hk1 hS1 => ?_)
  obtain ⟨hP1, hD1⟩ := hB
  rw [ht] at hP1
  obtain ⟨hP2, hD2⟩ := jn_L hP hD hk1 hF hP1 hD1
  exact k w1 hp H1 locs1 ls hP2 hD2 hS1 hl0
/-- a call over one int array of the world (Arrays.fill) -/
theorem b_fill (C : Bx z cc nL own rm) {y : MethodName} {b : ByteArray} {n idx q a N ar : Nat} {rmy : Room} {f g : Nat → Int32} {As : List Value} {post : Me → Prop} (hd : decode cc pc = .ok (.invokestatic idx, 3)) (M : Ms y b n none ar) (hM : CtV (y_l (b_x z)) (fun _ => shI N, 1, fun _ => a, b_D z, b_c z, fun _ => True) y b n rmy As (fun _ => f, 0) post) (hg : ∀ u, post u → u.1 0 = g) {st0 : List Value} (hst : st0 = As.reverse ++ st) (hl : Cond.methodLink own idx y ∈ wg_ok) (hR : Rk rm n rmy) (ha : As.length = ar) (hr : (st.map fun v => v.category).sum ≤ 8) (hc : cells ≤ rm.cells) (hs : slots ≤ rm.slots) (hq : pc + 3 = q) (k : Bz z nL (ws ++ [(a, aI z N g)]) cells slots q lv st) : Bz z nL (ws ++ [(a, aI z N f)]) cells slots pc lv st0 := by
  subst hq
  subst hst
  intro H locs ls hP hD hS hl0
  have hts := C.2.2.2.2.1
  have hRR := C.2.2.2.2.2.2.2.2.1
  have hF := last_F hD hS C.2.2.2.2.2.2.2.2.2.1
  have hsub : ∀ q, AA (fun _ => shI N, 1, fun _ => a, b_D z, b_c z, fun _ => True) q → va_A [(a, aI z N f)] H.size q := fun q h => by
    obtain ⟨_, _, e⟩ := h
    exact Or.inl ⟨0, aI z N f, by rw [e]; rfl⟩
  have hok : Okw (fun _ => shI N, 1, fun _ => a, b_D z, b_c z, fun _ => True) := ⟨fun i j hi hj _ => by have : i < 1 := hi; have : j < 1 := hj; omega, fun _ _ _ _ _ _ => trivial⟩
  have hW0 : ∀ U : State, U.heap = H → (y_s (b_x z)).WarmedH U.vm → WU (fun _ => shI N, 1, fun _ => a, b_D z, b_c z, fun _ => True) (fun _ => f, 0) U := fun U hU hW => ⟨by rw [hU]; exact last_P hP, va_K.moved hW.alike C.2.2.2.2.2.2.2.1, hok, trivial⟩
  refine va_callv (va_runS (As := As) (rest := st) ⟨C.1, C.2.1, C.2.2.1, C.2.2.2.1, hts⟩ hM ⟨callB_of ar hts (wg_goodIn M.2.2.1) rfl hR.1 hR.2.1 (hts _ M.2.1) (hts _ hl) M.2.2.2 (by rw [hRR]; exact ⟨hR.2.2.1, hR.2.2.2⟩), hts _ M.1⟩ ⟨WU_blind _ _ _, fun U hU hW => ⟨rfl, hW0 U hU hW⟩⟩ rfl ha hl0.1 rfl (lv_room hr) hd ⟨by rw [hRR]; exact hc, by rw [hRR]; exact hs⟩) hS (fun q _ h => hF q (hsub q h)) (fun q h => hF q (hsub q h)) (fun u t H1 locs1 ht _ hp hB _ hk1 hS1 => ?_)
  rw [ht] at hB
  have hP1 : va_P (b_D z) vwCl [(a, aI z N g)] H1 := by
    have h : va_P (b_D z) vwCl [(a, aI z N (u.1 0))] H1 := hB
    rw [hg u hp] at h
    exact h
  obtain ⟨hP2, hD2⟩ := jn_L hP hD (fun q h1 h2 => hk1 q h1 (fun h => h2 (hsub q h))) hF hP1 ⟨fun i j p q hp hq _ => by
    have a := (List.getElem?_eq_some_iff.mp hp).1
    have b := (List.getElem?_eq_some_iff.mp hq).1
    simp at a b
    omega, fun k q hk => by
    have b := (List.getElem?_eq_some_iff.mp hk).1
    simp at b
    subst b
    cases hk
    exact Or.inl ⟨0, aI z N f, rfl⟩⟩
  exact k H1 locs1 ls hP2 hD2 hS1 hl0
theorem arrV_cg {cI : ClassId} {N : Nat} {f g : Nat → Value} (h : ∀ j, j < N → f j = g j) : arrV cI N f = arrV cI N g := by
  unfold arrV
  have : (fun j : Fin N => f j.val) = fun j : Fin N => g j.val := by
    funext j
    exact h j.val j.isLt
  rw [this]
theorem b_cgQ {a n j : Nat} {f g : Nat → Option Nat} (q0 : Nat) (he : ws[q0]? = some (a, aQ z j n f)) (h : ∀ i, i < n → f i = g i) (k : Bz z nL (ws.set q0 (a, aQ z j n g)) cells slots pc lv st) : Bz z nL ws cells slots pc lv st := by
  intro H locs ls hP hD hS hl
  refine k H locs ls (hP.set hD he ?_ (fun _ _ => rfl)) (hD.set he) hS hl
  have h0 := hP q0 _ he
  show H[a]? = some (vp_cell (b_c z j) (n, .inr (.inr (.inr (.inr g)))))
  have h1 : H[a]? = some (vp_cell (b_c z j) (n, .inr (.inr (.inr (.inr f))))) := h0
  rw [h1]
  congr 1
  simp only [vp_cell]
  exact arrV_cg (fun i hi => by simp only [h i hi])
end BCALL
