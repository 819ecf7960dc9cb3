
/-! words that every method may use -/
def wg_ok : List Cond := lw_tbl.filter goodWord
abbrev WG (y : MethodName) (b : ByteArray) (n : Nat) (r : Option FieldType) : List Cond := .code y b n r :: wg_ok
theorem wg_in {v : Cond} (h : v ∈ tables_1) (hg : goodWord v = true) : v ∈ wg_ok := List.mem_filter.mpr ⟨List.mem_append_right _ h, hg⟩
theorem wg_sel {v : Cond} (h : v ∈ k2_sels lw_privs) (hg : goodWord v = true) : v ∈ wg_ok := List.mem_filter.mpr ⟨List.mem_append_left _ h, hg⟩
theorem wg_good {v : Cond} (h : v ∈ wg_ok) : (v.onTables && v.keeps) = true ∨ ∃ ty, v = .arrayClass ty := good_of_word (List.mem_filter.mp h).2
theorem wg_goodIn {y : MethodName} {b : ByteArray} {n : Nat} {r : Option FieldType} (hc : Cond.code y b n r ∈ wg_ok) : GoodIn wg_ok (WG y b n r) := by
  intro v hv
  rcases List.mem_cons.mp hv with e | h
  · subst e
    exact ⟨hc, wg_good hc⟩
  · exact ⟨h, wg_good h⟩
/-! shapes of cells: an int array, a byte array, an array of references, an object -/
abbrev Sh : Type := (Nat ⊕ Nat) ⊕ ((Nat × Nat × Nat) ⊕ (Nat × List (Unit ⊕ (Nat ⊕ Unit))))
abbrev sI : Unit ⊕ (Nat ⊕ Unit) := .inl ()
abbrev sR (c : Nat) : Unit ⊕ (Nat ⊕ Unit) := .inr (.inl c)
abbrev sL : Unit ⊕ (Nat ⊕ Unit) := .inr (.inr ())
abbrev shI (n : Nat) : Sh := .inl (.inl n)
abbrev shB (n : Nat) : Sh := .inl (.inr n)
abbrev shA (j n t : Nat) : Sh := .inr (.inl (j, n, t))
abbrev shO (ci : Nat) (fl : List (Unit ⊕ (Nat ⊕ Unit))) : Sh := .inr (.inr (ci, fl))
/-- memory: a row of ints for each cell, and one long -/
abbrev Me : Type := (Nat → Nat → Int32) × Int64
abbrev WC : Type := (Nat → Sh) × Nat × (Nat → Nat) × va_G × (Nat → ClassId) × (State → Prop)
abbrev w_sh (w : WC) : Nat → Sh := w.1
abbrev w_N (w : WC) : Nat := w.2.1
abbrev w_ad (w : WC) : Nat → Nat := w.2.2.1
abbrev w_D (w : WC) : va_G := w.2.2.2.1
abbrev w_cA (w : WC) : Nat → ClassId := w.2.2.2.2.1
abbrev w_X (w : WC) : State → Prop := w.2.2.2.2.2
def fv1 (w : WC) (μ : Me) (k i : Nat) : Unit ⊕ (Nat ⊕ Unit) → Value
  | .inl _ => .int (μ.1 k i)
  | .inr (.inl c) => .ref (w_ad w c)
  | .inr (.inr _) => .long μ.2
def ceS (w : WC) (μ : Me) (k : Nat) : Sh → va_E
  | .inl (.inl n) => .inl (w_cA w 0, n, .inl (μ.1 k))
  | .inl (.inr n) => .inl (w_cA w 1, n, .inl (μ.1 k))
  | .inr (.inl (j, n, t)) => .inl (w_cA w j, n, .inr (.inr (.inr (.inr (fun i => some (w_ad w (t + i)))))))
  | .inr (.inr (ci, fl)) => .inr (ci, fl.mapIdx (fv1 w μ k))
def ce (w : WC) (μ : Me) (k : Nat) : va_E := ceS w μ k (w_sh w k)
def wl (w : WC) (μ : Me) : va_W := (List.range (w_N w)).map (fun k => (w_ad w k, ce w μ k))
def WP (w : WC) (μ : Me) (H : Heap) : Prop := va_P (w_D w) vwCl (wl w μ) H
def AA (w : WC) : Nat → Prop := fun q => ∃ k, k < w_N w ∧ q = w_ad w k
abbrev tys (w : WC) : List (ClassId × FieldType) := [(w_cA w 0, .int), (w_cA w 1, .byte), (w_cA w 2, .object "SundayVisits$Resident"), (w_cA w 3, .object "SundayVisits$Sheet")]
def Okw (w : WC) : Prop := (∀ i j, i < w_N w → j < w_N w → w_ad w i = w_ad w j → i = j) ∧ ∀ u U : State, u.WarmedH U.vm → u.heap.size ≤ U.heap.size → (∀ q : Nat, q < u.heap.size → ¬ AA w q → U.heap[q]? = u.heap[q]?) → w_X w u → w_X w U
/-- a row of the memory changes; one place; the long -/
def ua (μ : Me) (k : Nat) (f : Nat → Int32) : Me := (fun a => if a = k then f else μ.1 a, μ.2)
def up (μ : Me) (k i : Nat) (v : Int32) : Me := ua μ k (upd (μ.1 k) i v)
def ul (μ : Me) (v : Int64) : Me := (μ.1, v)
theorem ua_s (μ : Me) (k : Nat) (f : Nat → Int32) : (ua μ k f).1 k = f := if_pos rfl
theorem ua_n (μ : Me) {k a : Nat} (f : Nat → Int32) (h : a ≠ k) : (ua μ k f).1 a = μ.1 a := if_neg h
theorem ua_2 (μ : Me) (k : Nat) (f : Nat → Int32) : (ua μ k f).2 = μ.2 := rfl
theorem up_s (μ : Me) (k i : Nat) (v : Int32) : (up μ k i v).1 k i = v := by unfold up; rw [ua_s]; exact if_pos rfl
theorem up_r (μ : Me) (k i : Nat) (v : Int32) : (up μ k i v).1 k = upd (μ.1 k) i v := ua_s _ _ _
theorem up_n (μ : Me) {k a : Nat} (i : Nat) (v : Int32) (h : a ≠ k) : (up μ k i v).1 a = μ.1 a := ua_n _ _ h
theorem up_i (μ : Me) (k : Nat) {i b : Nat} (v : Int32) (h : b ≠ i) : (up μ k i v).1 k b = μ.1 k b := by rw [up_r]; exact if_neg h
theorem up_2 (μ : Me) (k i : Nat) (v : Int32) : (up μ k i v).2 = μ.2 := rfl
theorem up_if (μ : Me) (k i : Nat) (v : Int32) (a b : Nat) : (up μ k i v).1 a b = if a = k ∧ b = i then v else μ.1 a b := by
  by_cases h : a = k
  · subst h
    rw [up_r]
    by_cases h2 : b = i
    · rw [if_pos ⟨rfl, h2⟩]; exact if_pos h2
    · rw [if_neg (fun q => h2 q.2)]; exact if_neg h2
  · rw [up_n _ _ _ h, if_neg (fun q => h q.1)]
theorem wl_get {w : WC} (μ : Me) {k : Nat} (h : k < w_N w) : (wl w μ)[k]? = some (w_ad w k, ce w μ k) := by
  unfold wl
  rw [List.getElem?_map, List.getElem?_range h]
  rfl
theorem wl_len (w : WC) (μ : Me) : (wl w μ).length = w_N w := by simp [wl]
theorem wl_set {w : WC} {μ μ' : Me} {k : Nat} {e : va_E} (he : ce w μ' k = e) (ho : ∀ j, j < w_N w → j ≠ k → ce w μ' j = ce w μ j) : (wl w μ).set k (w_ad w k, e) = wl w μ' := by
  apply List.ext_getElem?
  intro i
  by_cases hi : i < w_N w
  · rw [wl_get μ' hi]
    by_cases hk : i = k
    · subst hk
      rw [List.getElem?_set_self (by rw [wl_len]; exact hi), he]
    · rw [List.getElem?_set_ne (fun h => hk h.symm), wl_get μ hi, ho i hi hk]
  · rw [List.getElem?_eq_none (by rw [List.length_set, wl_len]; omega), List.getElem?_eq_none (by rw [wl_len]; omega)]
theorem wl_D {w : WC} (h : Okw w) (μ : Me) : va_D (AA w) (wl w μ) := by
  have key : ∀ (k : Nat) (q : Nat × va_E), (wl w μ)[k]? = some q → k < w_N w ∧ q = (w_ad w k, ce w μ k) := by
    intro k q hq
    have hk : k < w_N w := by
      have := (List.getElem?_eq_some_iff.mp hq).1
      rwa [wl_len] at this
    rw [wl_get μ hk] at hq
    exact ⟨hk, (Option.some.inj hq).symm⟩
  refine ⟨fun i j p q hp hq e => ?_, fun k q hq => ?_⟩
  · obtain ⟨h1, e1⟩ := key i p hp
    obtain ⟨h2, e2⟩ := key j q hq
    subst e1; subst e2
    exact h.1 i j h1 h2 e
  · obtain ⟨h1, e1⟩ := key k q hq
    subst e1
    exact ⟨k, h1, rfl⟩
theorem ceS_congr {w : WC} {μ μ' : Me} {k : Nat} (h1 : μ'.1 k = μ.1 k) (h2 : μ'.2 = μ.2) (s : Sh) : ceS w μ' k s = ceS w μ k s := by
  match s with
  | .inl (.inl n) => simp only [ceS, h1]
  | .inl (.inr n) => simp only [ceS, h1]
  | .inr (.inl (j, n, t)) => rfl
  | .inr (.inr (ci, fl)) =>
    have : fv1 w μ' k = fv1 w μ k := by
      funext i f
      match f with
      | .inl _ => simp only [fv1, h1]
      | .inr (.inl c) => rfl
      | .inr (.inr _) => simp only [fv1, h2]
    simp only [ceS, this]
theorem ce_I {w : WC} (μ : Me) {k n : Nat} (h : w_sh w k = shI n) : ce w μ k = .inl (w_cA w 0, n, .inl (μ.1 k)) := by unfold ce; rw [h]; rfl
theorem ce_B {w : WC} (μ : Me) {k n : Nat} (h : w_sh w k = shB n) : ce w μ k = .inl (w_cA w 1, n, .inl (μ.1 k)) := by unfold ce; rw [h]; rfl
theorem ce_A {w : WC} (μ : Me) {k j n t : Nat} (h : w_sh w k = shA j n t) : ce w μ k = .inl (w_cA w j, n, .inr (.inr (.inr (.inr (fun i => some (w_ad w (t + i))))))) := by unfold ce; rw [h]; rfl
theorem ce_O {w : WC} (μ : Me) {k ci : Nat} {fl : List (Unit ⊕ (Nat ⊕ Unit))} (h : w_sh w k = shO ci fl) : ce w μ k = .inr (ci, fl.mapIdx (fv1 w μ k)) := by unfold ce; rw [h]; rfl
theorem wl_ua_I {w : WC} {μ : Me} {k n : Nat} (h : w_sh w k = shI n) (f : Nat → Int32) : (wl w μ).set k (w_ad w k, .inl (w_cA w 0, n, .inl f)) = wl w (ua μ k f) := by
  refine wl_set ?_ (fun j _ hj => ?_)
  · rw [ce_I _ h, ua_s]
  · unfold ce; exact ceS_congr (ua_n _ _ hj) rfl _
theorem wl_ua_B {w : WC} {μ : Me} {k n : Nat} (h : w_sh w k = shB n) (f : Nat → Int32) : (wl w μ).set k (w_ad w k, .inl (w_cA w 1, n, .inl f)) = wl w (ua μ k f) := by
  refine wl_set ?_ (fun j _ hj => ?_)
  · rw [ce_B _ h, ua_s]
  · unfold ce; exact ceS_congr (ua_n _ _ hj) rfl _
theorem wl_up_O {w : WC} {μ : Me} {k ci i : Nat} {fl : List (Unit ⊕ (Nat ⊕ Unit))} (h : w_sh w k = shO ci fl) (hf : fl[i]? = some sI) (v : Int32) : (wl w μ).set k (w_ad w k, .inr (ci, (fl.mapIdx (fv1 w μ k)).set i (.int v))) = wl w (up μ k i v) := by
  refine wl_set ?_ (fun j _ hj => ?_)
  · rw [ce_O _ h]
    congr 2
    apply List.ext_getElem?
    intro j
    by_cases hj : j = i
    · subst hj
      rw [List.getElem?_mapIdx, hf, List.getElem?_set_self (by rw [List.length_mapIdx]; exact (List.getElem?_eq_some_iff.mp hf).1)]
      simp only [Option.map_some, fv1, up_s]
    · rw [List.getElem?_set_ne (fun q => hj q.symm), List.getElem?_mapIdx, List.getElem?_mapIdx]
      congr 1
      funext f
      match f with
      | .inl _ => simp only [fv1]; rw [up_i _ _ _ hj]
      | .inr (.inl c) => rfl
      | .inr (.inr _) => rfl
  · unfold ce; exact ceS_congr (up_n _ _ _ hj) rfl _
def noL (s : Sh) : Bool := match s with
  | .inr (.inr (_, fl)) => fl.all (fun f => match f with | .inr (.inr _) => false | _ => true)
  | _ => true
theorem ceS_noL {w : WC} {μ : Me} {k : Nat} (v : Int64) (s : Sh) (h : noL s = true) : ceS w (ul μ v) k s = ceS w μ k s := by
  match s with
  | .inl (.inl n) => rfl
  | .inl (.inr n) => rfl
  | .inr (.inl (j, n, t)) => rfl
  | .inr (.inr (ci, fl)) =>
    simp only [ceS]
    congr 2
    apply List.ext_getElem?
    intro j
    rw [List.getElem?_mapIdx, List.getElem?_mapIdx]
    cases hf : fl[j]? with
    | none => rfl
    | some f =>
      have h1 := List.all_eq_true.mp h f (List.mem_of_getElem? hf)
      match f, h1 with
      | .inl _, _ => rfl
      | .inr (.inl c), _ => rfl
      | .inr (.inr _), h1 => simp at h1
theorem wl_ul_O {w : WC} {μ : Me} {k ci i : Nat} {fl : List (Unit ⊕ (Nat ⊕ Unit))} (h : w_sh w k = shO ci fl) (hf : fl[i]? = some sL) (hone : ∀ j, j < fl.length → j ≠ i → fl[j]? ≠ some sL) (ho : ∀ j, j < w_N w → j ≠ k → noL (w_sh w j) = true) (v : Int64) : (wl w μ).set k (w_ad w k, .inr (ci, (fl.mapIdx (fv1 w μ k)).set i (.long v))) = wl w (ul μ v) := by
  refine wl_set ?_ (fun j hj hk => ?_)
  · rw [ce_O _ h]
    congr 2
    apply List.ext_getElem?
    intro j
    by_cases hj : j = i
    · subst hj
      rw [List.getElem?_mapIdx, hf, List.getElem?_set_self (by rw [List.length_mapIdx]; exact (List.getElem?_eq_some_iff.mp hf).1)]
      rfl
    · rw [List.getElem?_set_ne (fun q => hj q.symm), List.getElem?_mapIdx, List.getElem?_mapIdx]
      cases hq : fl[j]? with
      | none => rfl
      | some f =>
        match f, hq with
        | .inl _, _ => rfl
        | .inr (.inl c), _ => rfl
        | .inr (.inr _), hq => exact absurd hq (hone j (List.getElem?_eq_some_iff.mp hq).1 hj)
  · unfold ce; exact ceS_noL v _ (ho j hj hk)
/-! the judgement V: the machine at a place of a method, over a world -/
abbrev Cy : Type := Program × Launch × Env × Room × State × MethodId × Array Value × List Frame × Method × Code × (State → Prop)
abbrev y_p (x : Cy) : Program := x.1
abbrev y_l (x : Cy) : Launch := x.2.1
abbrev y_e (x : Cy) : Env := x.2.2.1
abbrev y_R (x : Cy) : Room := x.2.2.2.1
abbrev y_s (x : Cy) : State := x.2.2.2.2.1
abbrev y_m (x : Cy) : MethodId := x.2.2.2.2.2.1
abbrev y_a (x : Cy) : Array Value := x.2.2.2.2.2.2.1
abbrev y_b (x : Cy) : List Frame := x.2.2.2.2.2.2.2.1
abbrev y_t (x : Cy) : Method := x.2.2.2.2.2.2.2.2.1
abbrev y_c (x : Cy) : Code := x.2.2.2.2.2.2.2.2.2.1
abbrev y_Q (x : Cy) : State → Prop := x.2.2.2.2.2.2.2.2.2.2
def V (w : WC) (x : Cy) (nL : Nat) (μ : Me) (pc : Nat) (lv : List (Nat × Value)) (st : List Value) : Prop :=
  ∀ (H : Heap) (locs : List Loc) (ls : Array Slot), WP w μ H → va_S (AA w) (y_s x).heap H locs → lv_has ls nL lv → W (y_p x) (y_l x) (y_e x) (y_R x) (y_s x) (y_m x) (y_a x) (y_b x) (y_t x) (y_c x) H locs 0 0 (y_Q x) (F0 (y_m x) pc ls st)
def Cx (w : WC) (x : Cy) (cc : ByteArray) (nL : Nat) (own : String) (rt : Option FieldType) (rm : Room) : Prop :=
  (y_p x).tables.exec = Jvm.exec ∧ (y_c x).code = cc ∧ (y_c x).maxLocals = nL ∧ (y_s x).vm.findClass own = some (y_m x).cls ∧ (∀ v ∈ wg_ok, v.before (y_a x) (y_s x) = true) ∧ (y_t x).sig.returnType = rt ∧ (y_t x).locks = false ∧ va_K (w_D w) vwCl (tys w) (y_s x) ∧ Okw w ∧ w_X w (y_s x) ∧ y_R x = rm
def lgt (lv : List (Nat × Value)) (i : Nat) : Option Value := match lv with
  | [] => none
  | (j, v) :: r => if j = i then some v else lgt r i
theorem lgt_has {ls : Array Slot} {nL i : Nat} {v : Value} : ∀ {lv : List (Nat × Value)}, lv_has ls nL lv → lgt lv i = some v → ls[i]? = some (.val v)
  | [], _, h => by simp [lgt] at h
  | (j, u) :: r, hl, h => by
    unfold lgt at h
    by_cases hj : j = i
    · rw [if_pos hj] at h
      cases h
      subst hj
      exact hl.2.2 (j, v) List.mem_cons_self
    · rw [if_neg hj] at h
      exact lgt_has ⟨hl.1, hl.2.1, fun q hq => hl.2.2 q (List.mem_cons_of_mem _ hq)⟩ h
def lst (lv : List (Nat × Value)) (i : Nat) (v : Value) : List (Nat × Value) := (i, v) :: lv.filter (fun q => !(q.1 == i) && !(q.1 + 1 == i && q.2.category == 2))
def lst2 (lv : List (Nat × Value)) (i : Nat) (v : Value) : List (Nat × Value) := (i, v) :: lv.filter (fun q => !(q.1 == i) && (!(q.1 == i + 1) && !(q.1 + 1 == i && q.2.category == 2)))
section VROWS
variable {w : WC} {x : Cy} {nL : Nat} {μ : Me} {pc : Nat} {lv : List (Nat × Value)} {st : List Value} {cc : ByteArray} {own : String} {rt : Option FieldType} {rm : Room}
/-- fewer locals -/
theorem V.less {lv' : List (Nat × Value)} (h : ∀ q ∈ lv', q ∈ lv) (k : V w x nL μ pc lv' st) : V w x nL μ pc lv st := fun H locs ls hP hS hl => k H locs ls hP hS ⟨hl.1, hl.2.1, fun q hq => hl.2.2 q (h q hq)⟩
theorem V.sub {lv' : List (Nat × Value)} (ks : List Nat) (h : lv_pick lv ks = lv') (k : V w x nL μ pc lv' st) : V w x nL μ pc lv st := fun H locs ls hP hS hl => k H locs ls hP hS (lv_sub hl ks h)
theorem V.get {lv' : List (Nat × Value)} (h : lv'.all (fun q => (lgt lv q.1).isSome) = true) (h2 : ∀ q ∈ lv', lgt lv q.1 = some q.2) (k : V w x nL μ pc lv' st) : V w x nL μ pc lv st := fun H locs ls hP hS hl => k H locs ls hP hS ⟨hl.1, hl.2.1, fun q hq => lgt_has hl (h2 q hq)⟩
theorem V.norm {lv' : List (Nat × Value)} (k : V w x nL μ pc lv' st) (h : lv'.map (fun q => lgt lv q.1) = lv'.map (fun q => some q.2)) : V w x nL μ pc lv st := fun H locs ls hP hS hl => k H locs ls hP hS ⟨hl.1, hl.2.1, fun q hq => lgt_has hl (List.map_inj_left.mp h q hq)⟩
theorem v_topi {a : Int32} (k : ∀ b : Int32, b = a → V w x nL μ pc lv (.int b :: st)) : V w x nL μ pc lv (.int a :: st) := k a rfl
theorem v_topl {a : Int64} (k : ∀ b : Int64, b = a → V w x nL μ pc lv (.long b :: st)) : V w x nL μ pc lv (.long a :: st) := k a rfl
theorem v_eqi {a b : Int32} (h : a = b) (k : V w x nL μ pc lv (.int b :: st)) : V w x nL μ pc lv (.int a :: st) := h ▸ k
theorem v_mem {μ' : Me} (h : μ = μ') (k : V w x nL μ' pc lv st) : V w x nL μ pc lv st := h ▸ k
theorem v_iconst (C : Cx w x cc nL own rt rm) {n : Int} {v : Int32} {q : Nat} (hd : decode cc pc = .ok (.iconst n, 1)) (hv : Int32.ofInt n = v) (hq : pc + 1 = q) (k : V w x nL μ q lv (.int v :: st)) : V w x nL μ pc lv st := by
  subst hq
  exact fun H locs ls hP hS hl => lv_iconst C.1 C.2.1 hd hv (k H locs ls hP hS hl)
theorem v_bipush (C : Cx w x cc nL own rt rm) {n : Int} {v : Int32} {q : Nat} (hd : decode cc pc = .ok (.bipush n, 2)) (hv : (Int8.ofInt n).toInt32 = v) (hq : pc + 2 = q) (k : V w x nL μ q lv (.int v :: st)) : V w x nL μ pc lv st := by
  subst hq
  exact fun H locs ls hP hS hl => lv_bipush C.1 C.2.1 hd hv (k H locs ls hP hS hl)
theorem v_sipush (C : Cx w x cc nL own rt rm) {n : Int} {v : Int32} {q : Nat} (hd : decode cc pc = .ok (.sipush n, 3)) (hv : (Int16.ofInt n).toInt32 = v) (hq : pc + 3 = q) (k : V w x nL μ q lv (.int v :: st)) : V w x nL μ pc lv st := by
  subst hq
  exact fun H locs ls hP hS hl => lv_sipush C.1 C.2.1 hd hv (k H locs ls hP hS hl)
theorem v_lconst (C : Cx w x cc nL own rt rm) {n : Fin 2} {v : Int64} {q : Nat} (hd : decode cc pc = .ok (.lconst n, 1)) (hv : Int64.ofNat (n : Nat) = v) (hq : pc + 1 = q) (k : V w x nL μ q lv (.long v :: st)) : V w x nL μ pc lv st := by
  subst hq
  exact fun H locs ls hP hS hl => lv_lconst C.1 C.2.1 hd hv (k H locs ls hP hS hl)
theorem v_iload_n (C : Cx w x cc nL own rt rm) {n : Fin 4} {v : Int32} {q : Nat} (hd : decode cc pc = .ok (.iload_n n, 1)) (hv : lgt lv n = some (.int v)) (hq : pc + 1 = q) (k : V w x nL μ q lv (.int v :: st)) : V w x nL μ pc lv st := by
  subst hq
  exact fun H locs ls hP hS hl => lv_iload_n C.1 C.2.1 hd rfl (lgt_has hl hv) (k H locs ls hP hS hl)
theorem v_iload (C : Cx w x cc nL own rt rm) {n : Nat} {v : Int32} {q : Nat} (hd : decode cc pc = .ok (.iload n, 2)) (hv : lgt lv n = some (.int v)) (hq : pc + 2 = q) (k : V w x nL μ q lv (.int v :: st)) : V w x nL μ pc lv st := by
  subst hq
  exact fun H locs ls hP hS hl => lv_iload C.1 C.2.1 hd (lgt_has hl hv) (k H locs ls hP hS hl)
theorem v_lload_n (C : Cx w x cc nL own rt rm) {n : Fin 4} {v : Int64} {q : Nat} (hd : decode cc pc = .ok (.lload_n n, 1)) (hv : lgt lv n = some (.long v)) (hq : pc + 1 = q) (k : V w x nL μ q lv (.long v :: st)) : V w x nL μ pc lv st := by
  subst hq
  exact fun H locs ls hP hS hl => lv_lload_n C.1 C.2.1 hd rfl (lgt_has hl hv) (k H locs ls hP hS hl)
theorem v_lload (C : Cx w x cc nL own rt rm) {n : Nat} {v : Int64} {q : Nat} (hd : decode cc pc = .ok (.lload n, 2)) (hv : lgt lv n = some (.long v)) (hq : pc + 2 = q) (k : V w x nL μ q lv (.long v :: st)) : V w x nL μ pc lv st := by
  subst hq
  exact fun H locs ls hP hS hl => lv_lload C.1 C.2.1 hd (lgt_has hl hv) (k H locs ls hP hS hl)
theorem v_aload_n (C : Cx w x cc nL own rt rm) {n : Fin 4} {v : Nat} {q : Nat} (hd : decode cc pc = .ok (.aload_n n, 1)) (hv : lgt lv n = some (.ref v)) (hq : pc + 1 = q) (k : V w x nL μ q lv (.ref v :: st)) : V w x nL μ pc lv st := by
  subst hq
  exact fun H locs ls hP hS hl => lv_aload_n C.1 C.2.1 hd rfl (lgt_has hl hv) (k H locs ls hP hS hl)
theorem v_aload (C : Cx w x cc nL own rt rm) {n : Nat} {v : Nat} {q : Nat} (hd : decode cc pc = .ok (.aload n, 2)) (hv : lgt lv n = some (.ref v)) (hq : pc + 2 = q) (k : V w x nL μ q lv (.ref v :: st)) : V w x nL μ pc lv st := by
  subst hq
  exact fun H locs ls hP hS hl => lv_aload C.1 C.2.1 hd (lgt_has hl hv) (k H locs ls hP hS hl)
theorem v_istore_n (C : Cx w x cc nL own rt rm) {n : Fin 4} {v : Int32} {q : Nat} (hd : decode cc pc = .ok (.istore_n n, 1)) (hn : (n : Nat) < nL) (hq : pc + 1 = q) (k : V w x nL μ q (lst lv n (.int v)) st) : V w x nL μ pc lv (.int v :: st) := by
  subst hq
  exact fun H locs ls hP hS hl => lv_istore_n C.1 C.2.1 hd rfl hl hn rfl (fun ls hl => k H locs ls hP hS hl)
theorem v_istore (C : Cx w x cc nL own rt rm) {n : Nat} {v : Int32} {q : Nat} (hd : decode cc pc = .ok (.istore n, 2)) (hn : n < nL) (hq : pc + 2 = q) (k : V w x nL μ q (lst lv n (.int v)) st) : V w x nL μ pc lv (.int v :: st) := by
  subst hq
  exact fun H locs ls hP hS hl => lv_istore C.1 C.2.1 hd hl hn rfl (fun ls hl => k H locs ls hP hS hl)
theorem v_lstore_n (C : Cx w x cc nL own rt rm) {n : Fin 4} {v : Int64} {q : Nat} (hd : decode cc pc = .ok (.lstore_n n, 1)) (hn : (n : Nat) + 1 < nL) (hq : pc + 1 = q) (k : V w x nL μ q (lst2 lv n (.long v)) st) : V w x nL μ pc lv (.long v :: st) := by
  subst hq
  exact fun H locs ls hP hS hl => lv_lstore_n C.1 C.2.1 hd rfl hl hn rfl (fun ls hl => k H locs ls hP hS hl)
theorem v_lstore (C : Cx w x cc nL own rt rm) {n : Nat} {v : Int64} {q : Nat} (hd : decode cc pc = .ok (.lstore n, 2)) (hn : n + 1 < nL) (hq : pc + 2 = q) (k : V w x nL μ q (lst2 lv n (.long v)) st) : V w x nL μ pc lv (.long v :: st) := by
  subst hq
  exact fun H locs ls hP hS hl => lv_lstore C.1 C.2.1 hd hl hn rfl (fun ls hl => k H locs ls hP hS hl)
theorem v_astore_n (C : Cx w x cc nL own rt rm) {n : Fin 4} {v : Nat} {q : Nat} (hd : decode cc pc = .ok (.astore_n n, 1)) (hn : (n : Nat) < nL) (hq : pc + 1 = q) (k : V w x nL μ q (lst lv n (.ref v)) st) : V w x nL μ pc lv (.ref v :: st) := by
  subst hq
  exact fun H locs ls hP hS hl => lv_astore_n C.1 C.2.1 hd rfl hl hn rfl (fun ls hl => k H locs ls hP hS hl)
theorem v_astore (C : Cx w x cc nL own rt rm) {n : Nat} {v : Nat} {q : Nat} (hd : decode cc pc = .ok (.astore n, 2)) (hn : n < nL) (hq : pc + 2 = q) (k : V w x nL μ q (lst lv n (.ref v)) st) : V w x nL μ pc lv (.ref v :: st) := by
  subst hq
  exact fun H locs ls hP hS hl => lv_astore C.1 C.2.1 hd hl hn rfl (fun ls hl => k H locs ls hP hS hl)
theorem v_iadd (C : Cx w x cc nL own rt rm) {a b : Int32} {q : Nat} (hd : decode cc pc = .ok (.iadd, 1))  (hq : pc + 1 = q) (k : V w x nL μ q lv (.int (a + b) :: st)) : V w x nL μ pc lv (.int b :: .int a :: st) := by
  subst hq
  exact fun H locs ls hP hS hl => lv_iadd C.1 C.2.1 hd (k H locs ls hP hS hl)
theorem v_isub (C : Cx w x cc nL own rt rm) {a b : Int32} {q : Nat} (hd : decode cc pc = .ok (.isub, 1))  (hq : pc + 1 = q) (k : V w x nL μ q lv (.int (a - b) :: st)) : V w x nL μ pc lv (.int b :: .int a :: st) := by
  subst hq
  exact fun H locs ls hP hS hl => lv_isub C.1 C.2.1 hd (k H locs ls hP hS hl)
theorem v_imul (C : Cx w x cc nL own rt rm) {a b : Int32} {q : Nat} (hd : decode cc pc = .ok (.imul, 1))  (hq : pc + 1 = q) (k : V w x nL μ q lv (.int (a * b) :: st)) : V w x nL μ pc lv (.int b :: .int a :: st) := by
  subst hq
  exact fun H locs ls hP hS hl => lv_imul C.1 C.2.1 hd (k H locs ls hP hS hl)
theorem v_iand (C : Cx w x cc nL own rt rm) {a b : Int32} {q : Nat} (hd : decode cc pc = .ok (.iand, 1))  (hq : pc + 1 = q) (k : V w x nL μ q lv (.int (a &&& b) :: st)) : V w x nL μ pc lv (.int b :: .int a :: st) := by
  subst hq
  exact fun H locs ls hP hS hl => lv_iand C.1 C.2.1 hd (k H locs ls hP hS hl)
theorem v_ior (C : Cx w x cc nL own rt rm) {a b : Int32} {q : Nat} (hd : decode cc pc = .ok (.ior, 1))  (hq : pc + 1 = q) (k : V w x nL μ q lv (.int (a ||| b) :: st)) : V w x nL μ pc lv (.int b :: .int a :: st) := by
  subst hq
  exact fun H locs ls hP hS hl => lv_ior C.1 C.2.1 hd (k H locs ls hP hS hl)
theorem v_ixor (C : Cx w x cc nL own rt rm) {a b : Int32} {q : Nat} (hd : decode cc pc = .ok (.ixor, 1))  (hq : pc + 1 = q) (k : V w x nL μ q lv (.int (a ^^^ b) :: st)) : V w x nL μ pc lv (.int b :: .int a :: st) := by
  subst hq
  exact fun H locs ls hP hS hl => lv_ixor C.1 C.2.1 hd (k H locs ls hP hS hl)
theorem v_idiv (C : Cx w x cc nL own rt rm) {a b : Int32} {q : Nat} (hd : decode cc pc = .ok (.idiv, 1)) (hne : ¬ b = 0) (hq : pc + 1 = q) (k : V w x nL μ q lv (.int (a / b) :: st)) : V w x nL μ pc lv (.int b :: .int a :: st) := by
  subst hq
  exact fun H locs ls hP hS hl => lv_idiv C.1 C.2.1 hd hne (k H locs ls hP hS hl)
theorem v_irem (C : Cx w x cc nL own rt rm) {a b : Int32} {q : Nat} (hd : decode cc pc = .ok (.irem, 1)) (hne : ¬ b = 0) (hq : pc + 1 = q) (k : V w x nL μ q lv (.int (a - a / b * b) :: st)) : V w x nL μ pc lv (.int b :: .int a :: st) := by
  subst hq
  exact fun H locs ls hP hS hl => lv_irem C.1 C.2.1 hd hne (k H locs ls hP hS hl)
theorem v_ineg (C : Cx w x cc nL own rt rm) {a : Int32} {q : Nat} (hd : decode cc pc = .ok (.ineg, 1))  (hq : pc + 1 = q) (k : V w x nL μ q lv (.int (-a) :: st)) : V w x nL μ pc lv (.int a :: st) := by
  subst hq
  exact fun H locs ls hP hS hl => lv_ineg C.1 C.2.1 hd (k H locs ls hP hS hl)
theorem v_ishl (C : Cx w x cc nL own rt rm) {a b : Int32} {q : Nat} (hd : decode cc pc = .ok (.ishl, 1))  (hq : pc + 1 = q) (k : V w x nL μ q lv (.int (a <<< (b &&& 31)) :: st)) : V w x nL μ pc lv (.int b :: .int a :: st) := by
  subst hq
  exact fun H locs ls hP hS hl => lv_ishl C.1 C.2.1 hd (k H locs ls hP hS hl)
theorem v_ishr (C : Cx w x cc nL own rt rm) {a b : Int32} {q : Nat} (hd : decode cc pc = .ok (.ishr, 1))  (hq : pc + 1 = q) (k : V w x nL μ q lv (.int (a >>> (b &&& 31)) :: st)) : V w x nL μ pc lv (.int b :: .int a :: st) := by
  subst hq
  exact fun H locs ls hP hS hl => lv_ishr C.1 C.2.1 hd (k H locs ls hP hS hl)
theorem v_iushr (C : Cx w x cc nL own rt rm) {a b : Int32} {q : Nat} (hd : decode cc pc = .ok (.iushr, 1))  (hq : pc + 1 = q) (k : V w x nL μ q lv (.int ((a.toUInt32 >>> (b.toUInt32 &&& Int32.toUInt32 31)).toInt32) :: st)) : V w x nL μ pc lv (.int b :: .int a :: st) := by
  subst hq
  exact fun H locs ls hP hS hl => lv_iushr C.1 C.2.1 hd rfl (k H locs ls hP hS hl)
theorem v_ladd (C : Cx w x cc nL own rt rm) {a b : Int64} {q : Nat} (hd : decode cc pc = .ok (.ladd, 1))  (hq : pc + 1 = q) (k : V w x nL μ q lv (.long (a + b) :: st)) : V w x nL μ pc lv (.long b :: .long a :: st) := by
  subst hq
  exact fun H locs ls hP hS hl => lv_ladd C.1 C.2.1 hd (k H locs ls hP hS hl)
theorem v_lsub (C : Cx w x cc nL own rt rm) {a b : Int64} {q : Nat} (hd : decode cc pc = .ok (.lsub, 1))  (hq : pc + 1 = q) (k : V w x nL μ q lv (.long (a - b) :: st)) : V w x nL μ pc lv (.long b :: .long a :: st) := by
  subst hq
  exact fun H locs ls hP hS hl => lv_lsub C.1 C.2.1 hd (k H locs ls hP hS hl)
theorem v_lmul (C : Cx w x cc nL own rt rm) {a b : Int64} {q : Nat} (hd : decode cc pc = .ok (.lmul, 1))  (hq : pc + 1 = q) (k : V w x nL μ q lv (.long (a * b) :: st)) : V w x nL μ pc lv (.long b :: .long a :: st) := by
  subst hq
  exact fun H locs ls hP hS hl => lv_lmul C.1 C.2.1 hd (k H locs ls hP hS hl)
theorem v_i2l (C : Cx w x cc nL own rt rm) {a : Int32} {q : Nat} (hd : decode cc pc = .ok (.i2l, 1))  (hq : pc + 1 = q) (k : V w x nL μ q lv (.long a.toInt64 :: st)) : V w x nL μ pc lv (.int a :: st) := by
  subst hq
  exact fun H locs ls hP hS hl => lv_i2l C.1 C.2.1 hd rfl (k H locs ls hP hS hl)
theorem v_l2i (C : Cx w x cc nL own rt rm) {a : Int64} {q : Nat} (hd : decode cc pc = .ok (.l2i, 1))  (hq : pc + 1 = q) (k : V w x nL μ q lv (.int a.toInt32 :: st)) : V w x nL μ pc lv (.long a :: st) := by
  subst hq
  exact fun H locs ls hP hS hl => lv_l2i C.1 C.2.1 hd rfl (k H locs ls hP hS hl)
theorem v_i2b (C : Cx w x cc nL own rt rm) {a : Int32} {q : Nat} (hd : decode cc pc = .ok (.i2b, 1))  (hq : pc + 1 = q) (k : V w x nL μ q lv (.int a.toInt8.toInt32 :: st)) : V w x nL μ pc lv (.int a :: st) := by
  subst hq
  exact fun H locs ls hP hS hl => lv_i2b C.1 C.2.1 hd rfl (k H locs ls hP hS hl)
theorem v_i2s (C : Cx w x cc nL own rt rm) {a : Int32} {q : Nat} (hd : decode cc pc = .ok (.i2s, 1))  (hq : pc + 1 = q) (k : V w x nL μ q lv (.int a.toInt16.toInt32 :: st)) : V w x nL μ pc lv (.int a :: st) := by
  subst hq
  exact fun H locs ls hP hS hl => lv_i2s C.1 C.2.1 hd rfl (k H locs ls hP hS hl)
theorem v_i2c (C : Cx w x cc nL own rt rm) {a : Int32} {q : Nat} (hd : decode cc pc = .ok (.i2c, 1))  (hq : pc + 1 = q) (k : V w x nL μ q lv (.int (a.toUInt32 % 65536).toInt32 :: st)) : V w x nL μ pc lv (.int a :: st) := by
  subst hq
  exact fun H locs ls hP hS hl => lv_i2c C.1 C.2.1 hd rfl (k H locs ls hP hS hl)
theorem v_lcmp (C : Cx w x cc nL own rt rm) {a b : Int64} {q : Nat} (hd : decode cc pc = .ok (.lcmp, 1))  (hq : pc + 1 = q) (k : V w x nL μ q lv (.int (lg_cmp a b) :: st)) : V w x nL μ pc lv (.long b :: .long a :: st) := by
  subst hq
  exact fun H locs ls hP hS hl => W.lcmp C.1 C.2.1 hd (k H locs ls hP hS hl)
theorem v_dup (C : Cx w x cc nL own rt rm) {v : Value} {q : Nat} (hd : decode cc pc = .ok (.dup, 1)) (hv : v.category = 1) (hq : pc + 1 = q) (k : V w x nL μ q lv (v :: v :: st)) : V w x nL μ pc lv (v :: st) := by
  subst hq
  exact fun H locs ls hP hS hl => lv_dup C.1 C.2.1 hd hv (k H locs ls hP hS hl)
theorem v_pop (C : Cx w x cc nL own rt rm) {v : Value} {q : Nat} (hd : decode cc pc = .ok (.pop, 1)) (hv : v.category = 1) (hq : pc + 1 = q) (k : V w x nL μ q lv st) : V w x nL μ pc lv (v :: st) := by
  subst hq
  exact fun H locs ls hP hS hl => lv_pop C.1 C.2.1 hd hv (k H locs ls hP hS hl)
theorem v_dup2 (C : Cx w x cc nL own rt rm) {v u : Value} {q : Nat} (hd : decode cc pc = .ok (.dup2, 1)) (hv : v.category = 1) (hu : u.category = 1) (hq : pc + 1 = q) (k : V w x nL μ q lv (v :: u :: v :: u :: st)) : V w x nL μ pc lv (v :: u :: st) := by
  subst hq
  exact fun H locs ls hP hS hl => lv_dup2_11 C.1 C.2.1 hd hv hu (k H locs ls hP hS hl)
theorem v_ldc (C : Cx w x cc nL own rt rm) {n : Nat} {v : Int32} {q : Nat} (hd : decode cc pc = .ok (.ldc n, 2)) (hv : Cond.constant own n v ∈ wg_ok) (hq : pc + 2 = q) (k : V w x nL μ q lv (.int v :: st)) : V w x nL μ pc lv st := by
  subst hq
  exact fun H locs ls hP hS hl => lv_ldc C.1 C.2.1 C.2.2.2.1 (C.2.2.2.2.1 _ hv) hd (k H locs ls hP hS hl)
theorem v_ldcw (C : Cx w x cc nL own rt rm) {n : Nat} {v : Int32} {q : Nat} (hd : decode cc pc = .ok (.ldc_w n, 3)) (hv : Cond.constant own n v ∈ wg_ok) (hq : pc + 3 = q) (k : V w x nL μ q lv (.int v :: st)) : V w x nL μ pc lv st := by
  subst hq
  exact fun H locs ls hP hS hl => lv_ldcw C.1 C.2.1 C.2.2.2.1 (C.2.2.2.2.1 _ hv) hd (k H locs ls hP hS hl)
theorem v_ldc2 (C : Cx w x cc nL own rt rm) {n : Nat} {v : Int64} {q : Nat} (hd : decode cc pc = .ok (.ldc2_w n, 3)) (hv : Cond.constantLong own n v ∈ wg_ok) (hq : pc + 3 = q) (k : V w x nL μ q lv (.long v :: st)) : V w x nL μ pc lv st := by
  subst hq
  exact fun H locs ls hP hS hl => lv_ldc2 C.1 C.2.1 C.2.2.2.1 (C.2.2.2.2.1 _ hv) hd (k H locs ls hP hS hl)
theorem v_iinc (C : Cx w x cc nL own rt rm) {i : Nat} {n : Int} {v : Int32} {q : Nat} (hd : decode cc pc = .ok (.iinc i n, 3)) (hv : lgt lv i = some (.int v)) (hn : i < nL) (hq : pc + 3 = q) (k : V w x nL μ q (lst lv i (.int (v + Int32.ofInt n))) st) : V w x nL μ pc lv st := by
  subst hq
  intro H locs ls hP hS hl
  have h1 : lv_has ls nL ((i, .int v) :: lv) := ⟨hl.1, hl.2.1, fun q hq => by
    rcases List.mem_cons.mp hq with e | h
    · subst e; exact lgt_has hl hv
    · exact hl.2.2 q h⟩
  refine lv_iinc C.1 C.2.1 hd h1 (k := 0) rfl rfl hn rfl (fun ls hl => k H locs ls hP hS ⟨hl.1, hl.2.1, fun q hq => hl.2.2 q ?_⟩)
  rcases List.mem_cons.mp hq with e | h
  · subst e; exact List.mem_cons_self
  · refine List.mem_cons_of_mem _ ?_
    have := List.mem_filter.mp h
    exact List.mem_filter.mpr ⟨List.mem_cons_of_mem _ this.1, this.2⟩
theorem v_iincP (C : Cx w x cc nL own rt rm) {i : Nat} {v : Int32} {q : Nat} (hd : decode cc pc = .ok (.iinc i 1, 3)) (hv : lgt lv i = some (.int v)) (hn : i < nL) (hq : pc + 3 = q) (k : V w x nL μ q (lst lv i (.int (v + 1))) st) : V w x nL μ pc lv st := v_iinc C hd hv hn hq k
theorem v_iincM (C : Cx w x cc nL own rt rm) {i : Nat} {v : Int32} {q : Nat} (hd : decode cc pc = .ok (.iinc i (-1), 3)) (hv : lgt lv i = some (.int v)) (hn : i < nL) (hq : pc + 3 = q) (k : V w x nL μ q (lst lv i (.int (v + (-1)))) st) : V w x nL μ pc lv st := v_iinc C hd hv hn hq k
theorem v_iincN (C : Cx w x cc nL own rt rm) {i j : Nat} {q : Nat} (hd : decode cc pc = .ok (.iinc i 1, 3)) (hv : lgt lv i = some (.int (nI j))) (hn : i < nL) (hq : pc + 3 = q) (k : V w x nL μ q (lst lv i (.int (nI (j + 1)))) st) : V w x nL μ pc lv st := v_iinc C hd hv hn hq (by rw [nI_succ] at k; exact k)
theorem v_goto (C : Cx w x cc nL own rt rm) {off : Int} (tgt : Nat) (hd : decode cc pc = .ok (.goto off, 3)) (ht : (pc : Int) + off = (tgt : Int)) (k : V w x nL μ tgt lv st) : V w x nL μ pc lv st := fun H locs ls hP hS hl => lv_goto C.1 C.2.1 hd ht (k H locs ls hP hS hl)

theorem v_if_eq (C : Cx w x cc nL own rt rm) {a : Int32} {off : Int} (tgt q : Nat) (hd : decode cc pc = .ok (.ifCond .eq off, 3)) (ht : (pc : Int) + off = (tgt : Int)) (hq : pc + 3 = q) (kt : a = 0 → V w x nL μ tgt lv st) (kf : ¬ a = 0 → V w x nL μ q lv st) : V w x nL μ pc lv (.int a :: st) := by
  subst hq
  exact fun H locs ls hP hS hl => lv_if_eq C.1 C.2.1 hd ht (fun h => kt h H locs ls hP hS hl) (fun h => kf h H locs ls hP hS hl)
theorem v_icmp_eq (C : Cx w x cc nL own rt rm) {a b : Int32} {off : Int} (tgt q : Nat) (hd : decode cc pc = .ok (.if_icmp .eq off, 3)) (ht : (pc : Int) + off = (tgt : Int)) (hq : pc + 3 = q) (kt : a = b → V w x nL μ tgt lv st) (kf : ¬ a = b → V w x nL μ q lv st) : V w x nL μ pc lv (.int b :: .int a :: st) := by
  subst hq
  exact fun H locs ls hP hS hl => lv_icmp_eq C.1 C.2.1 hd ht (fun h => kt h H locs ls hP hS hl) (fun h => kf h H locs ls hP hS hl)
theorem v_if_ne (C : Cx w x cc nL own rt rm) {a : Int32} {off : Int} (tgt q : Nat) (hd : decode cc pc = .ok (.ifCond .ne off, 3)) (ht : (pc : Int) + off = (tgt : Int)) (hq : pc + 3 = q) (kt : ¬ a = 0 → V w x nL μ tgt lv st) (kf : a = 0 → V w x nL μ q lv st) : V w x nL μ pc lv (.int a :: st) := by
  subst hq
  exact fun H locs ls hP hS hl => lv_if_ne C.1 C.2.1 hd ht (fun h => kt h H locs ls hP hS hl) (fun h => kf h H locs ls hP hS hl)
theorem v_icmp_ne (C : Cx w x cc nL own rt rm) {a b : Int32} {off : Int} (tgt q : Nat) (hd : decode cc pc = .ok (.if_icmp .ne off, 3)) (ht : (pc : Int) + off = (tgt : Int)) (hq : pc + 3 = q) (kt : ¬ a = b → V w x nL μ tgt lv st) (kf : a = b → V w x nL μ q lv st) : V w x nL μ pc lv (.int b :: .int a :: st) := by
  subst hq
  exact fun H locs ls hP hS hl => lv_icmp_ne C.1 C.2.1 hd ht (fun h => kt h H locs ls hP hS hl) (fun h => kf h H locs ls hP hS hl)
theorem v_if_lt (C : Cx w x cc nL own rt rm) {a : Int32} {off : Int} (tgt q : Nat) (hd : decode cc pc = .ok (.ifCond .lt off, 3)) (ht : (pc : Int) + off = (tgt : Int)) (hq : pc + 3 = q) (kt : a < 0 → V w x nL μ tgt lv st) (kf : ¬ a < 0 → V w x nL μ q lv st) : V w x nL μ pc lv (.int a :: st) := by
  subst hq
  exact fun H locs ls hP hS hl => lv_if_lt C.1 C.2.1 hd ht (fun h => kt h H locs ls hP hS hl) (fun h => kf h H locs ls hP hS hl)
theorem v_icmp_lt (C : Cx w x cc nL own rt rm) {a b : Int32} {off : Int} (tgt q : Nat) (hd : decode cc pc = .ok (.if_icmp .lt off, 3)) (ht : (pc : Int) + off = (tgt : Int)) (hq : pc + 3 = q) (kt : a < b → V w x nL μ tgt lv st) (kf : ¬ a < b → V w x nL μ q lv st) : V w x nL μ pc lv (.int b :: .int a :: st) := by
  subst hq
  exact fun H locs ls hP hS hl => lv_icmp_lt C.1 C.2.1 hd ht (fun h => kt h H locs ls hP hS hl) (fun h => kf h H locs ls hP hS hl)
theorem v_if_ge (C : Cx w x cc nL own rt rm) {a : Int32} {off : Int} (tgt q : Nat) (hd : decode cc pc = .ok (.ifCond .ge off, 3)) (ht : (pc : Int) + off = (tgt : Int)) (hq : pc + 3 = q) (kt : 0 ≤ a → V w x nL μ tgt lv st) (kf : ¬ 0 ≤ a → V w x nL μ q lv st) : V w x nL μ pc lv (.int a :: st) := by
  subst hq
  exact fun H locs ls hP hS hl => lv_if_ge C.1 C.2.1 hd ht (fun h => kt h H locs ls hP hS hl) (fun h => kf h H locs ls hP hS hl)
theorem v_icmp_ge (C : Cx w x cc nL own rt rm) {a b : Int32} {off : Int} (tgt q : Nat) (hd : decode cc pc = .ok (.if_icmp .ge off, 3)) (ht : (pc : Int) + off = (tgt : Int)) (hq : pc + 3 = q) (kt : b ≤ a → V w x nL μ tgt lv st) (kf : ¬ b ≤ a → V w x nL μ q lv st) : V w x nL μ pc lv (.int b :: .int a :: st) := by
  subst hq
  exact fun H locs ls hP hS hl => lv_icmp_ge C.1 C.2.1 hd ht (fun h => kt h H locs ls hP hS hl) (fun h => kf h H locs ls hP hS hl)
theorem v_if_gt (C : Cx w x cc nL own rt rm) {a : Int32} {off : Int} (tgt q : Nat) (hd : decode cc pc = .ok (.ifCond .gt off, 3)) (ht : (pc : Int) + off = (tgt : Int)) (hq : pc + 3 = q) (kt : 0 < a → V w x nL μ tgt lv st) (kf : ¬ 0 < a → V w x nL μ q lv st) : V w x nL μ pc lv (.int a :: st) := by
  subst hq
  exact fun H locs ls hP hS hl => lv_if_gt C.1 C.2.1 hd ht (fun h => kt h H locs ls hP hS hl) (fun h => kf h H locs ls hP hS hl)
theorem v_icmp_gt (C : Cx w x cc nL own rt rm) {a b : Int32} {off : Int} (tgt q : Nat) (hd : decode cc pc = .ok (.if_icmp .gt off, 3)) (ht : (pc : Int) + off = (tgt : Int)) (hq : pc + 3 = q) (kt : b < a → V w x nL μ tgt lv st) (kf : ¬ b < a → V w x nL μ q lv st) : V w x nL μ pc lv (.int b :: .int a :: st) := by
  subst hq
  exact fun H locs ls hP hS hl => lv_icmp_gt C.1 C.2.1 hd ht (fun h => kt h H locs ls hP hS hl) (fun h => kf h H locs ls hP hS hl)
theorem v_if_le (C : Cx w x cc nL own rt rm) {a : Int32} {off : Int} (tgt q : Nat) (hd : decode cc pc = .ok (.ifCond .le off, 3)) (ht : (pc : Int) + off = (tgt : Int)) (hq : pc + 3 = q) (kt : a ≤ 0 → V w x nL μ tgt lv st) (kf : ¬ a ≤ 0 → V w x nL μ q lv st) : V w x nL μ pc lv (.int a :: st) := by
  subst hq
  exact fun H locs ls hP hS hl => lv_if_le C.1 C.2.1 hd ht (fun h => kt h H locs ls hP hS hl) (fun h => kf h H locs ls hP hS hl)
theorem v_icmp_le (C : Cx w x cc nL own rt rm) {a b : Int32} {off : Int} (tgt q : Nat) (hd : decode cc pc = .ok (.if_icmp .le off, 3)) (ht : (pc : Int) + off = (tgt : Int)) (hq : pc + 3 = q) (kt : a ≤ b → V w x nL μ tgt lv st) (kf : ¬ a ≤ b → V w x nL μ q lv st) : V w x nL μ pc lv (.int b :: .int a :: st) := by
  subst hq
  exact fun H locs ls hP hS hl => lv_icmp_le C.1 C.2.1 hd ht (fun h => kt h H locs ls hP hS hl) (fun h => kf h H locs ls hP hS hl)
theorem v_tableOut (C : Cx w x cc nL own rt rm) {dflt lo hi : Int} {offs : Array Int} {len : Nat} {a : Int32} (tgt : Nat) (hd : decode cc pc = .ok (.tableswitch dflt lo hi offs, len)) (h : a.toInt < lo ∨ hi < a.toInt) (ht : (pc : Int) + dflt = (tgt : Int)) (k : V w x nL μ tgt lv st) : V w x nL μ pc lv (.int a :: st) := fun H locs ls hP hS hl => lv_tableOut C.1 C.2.1 hd h ht (k H locs ls hP hS hl)
theorem v_tableIn (C : Cx w x cc nL own rt rm) {dflt lo hi : Int} {offs : Array Int} {len : Nat} {a b : Int32} {off : Int} (tgt : Nat) (hd : decode cc pc = .ok (.tableswitch dflt lo hi offs, len)) (e : a = b) (h1 : ¬ b.toInt < lo) (h2 : ¬ hi < b.toInt) (ho : offs[(b.toInt - lo).toNat]? = some off) (ht : (pc : Int) + off = (tgt : Int)) (k : V w x nL μ tgt lv st) : V w x nL μ pc lv (.int a :: st) := by
  subst e
  exact fun H locs ls hP hS hl => lv_tableIn C.1 C.2.1 hd h1 h2 ho ht (k H locs ls hP hS hl)
theorem v_lookup (C : Cx w x cc nL own rt rm) {dflt : Int} {ps : Array (Int × Int)} {len : Nat} {a : Int32} {off : Int} (tgt : Nat) (hd : decode cc pc = .ok (.lookupswitch dflt ps, len)) (hp : (ps.toList.zip (ps.toList.drop 1)).all (fun (a, next) => a.1 < next.1) = true) (ho : Op.lookupswitch.offset ps.toList dflt a.toInt = off) (ht : (pc : Int) + off = (tgt : Int)) (k : V w x nL μ tgt lv st) : V w x nL μ pc lv (.int a :: st) := fun H locs ls hP hS hl => lv_lookup C.1 C.2.1 hd hp ho ht (k H locs ls hP hS hl)
/-- fields -/
theorem v_geti (C : Cx w x cc nL own rt rm) {ci n idx i kk : Nat} {q : Nat} {cn : String} {T : u_T} {fl : List (Unit ⊕ (Nat ⊕ Unit))} (hd : decode cc pc = .ok (.getfield idx, 3)) (hk : kk < w_N w) (hs : w_sh w kk = shO ci fl) (hf : fl[i]? = some sI) (hc : vwCl[ci]? = some (cn, T, n)) (hi : i < n) (hin : ∀ v ∈ u_ws cn T n, v ∈ wg_ok) (hl : Cond.fieldLink own idx (T i).1 (T i).2.1 (T i).2.2.1 ∈ wg_ok) (hq : pc + 3 = q) (k : V w x nL μ q lv (.int (μ.1 kk i) :: st)) : V w x nL μ pc lv (.ref (w_ad w kk) :: st) := by
  subst hq
  intro H locs ls hP hS hl0
  have h0 := wl_get (w := w) μ hk
  rw [ce_O μ hs] at h0
  refine va_get C.1 C.2.1 C.2.2.2.2.1 hin C.2.2.2.1 C.2.2.2.2.2.2.2.1 hP kk h0 hc i hi (C.2.2.2.2.1 _ hl) (fun _ h => h) (v := .int (μ.1 kk i)) ?_ hd (k H locs ls hP hS hl0)
  rw [List.getElem?_mapIdx, hf]; rfl
theorem v_getr (C : Cx w x cc nL own rt rm) {ci n idx i kk : Nat} {q t : Nat} {cn : String} {T : u_T} {fl : List (Unit ⊕ (Nat ⊕ Unit))} (hd : decode cc pc = .ok (.getfield idx, 3)) (hk : kk < w_N w) (hs : w_sh w kk = shO ci fl) (hf : fl[i]? = some (sR t)) (hc : vwCl[ci]? = some (cn, T, n)) (hi : i < n) (hin : ∀ v ∈ u_ws cn T n, v ∈ wg_ok) (hl : Cond.fieldLink own idx (T i).1 (T i).2.1 (T i).2.2.1 ∈ wg_ok) (hq : pc + 3 = q) (k : V w x nL μ q lv (.ref (w_ad w t) :: st)) : V w x nL μ pc lv (.ref (w_ad w kk) :: st) := by
  subst hq
  intro H locs ls hP hS hl0
  have h0 := wl_get (w := w) μ hk
  rw [ce_O μ hs] at h0
  refine va_get C.1 C.2.1 C.2.2.2.2.1 hin C.2.2.2.1 C.2.2.2.2.2.2.2.1 hP kk h0 hc i hi (C.2.2.2.2.1 _ hl) (fun _ h => h) (v := .ref (w_ad w t)) ?_ hd (k H locs ls hP hS hl0)
  rw [List.getElem?_mapIdx, hf]; rfl
theorem v_getl (C : Cx w x cc nL own rt rm) {ci n idx i kk : Nat} {q : Nat} {cn : String} {T : u_T} {fl : List (Unit ⊕ (Nat ⊕ Unit))} (hd : decode cc pc = .ok (.getfield idx, 3)) (hk : kk < w_N w) (hs : w_sh w kk = shO ci fl) (hf : fl[i]? = some sL) (hc : vwCl[ci]? = some (cn, T, n)) (hi : i < n) (hin : ∀ v ∈ u_ws cn T n, v ∈ wg_ok) (hl : Cond.fieldLink own idx (T i).1 (T i).2.1 (T i).2.2.1 ∈ wg_ok) (hq : pc + 3 = q) (k : V w x nL μ q lv (.long μ.2 :: st)) : V w x nL μ pc lv (.ref (w_ad w kk) :: st) := by
  subst hq
  intro H locs ls hP hS hl0
  have h0 := wl_get (w := w) μ hk
  rw [ce_O μ hs] at h0
  refine va_get C.1 C.2.1 C.2.2.2.2.1 hin C.2.2.2.1 C.2.2.2.2.2.2.2.1 hP kk h0 hc i hi (C.2.2.2.2.1 _ hl) (fun _ h => h) (v := .long μ.2) ?_ hd (k H locs ls hP hS hl0)
  rw [List.getElem?_mapIdx, hf]; rfl
theorem v_puti (C : Cx w x cc nL own rt rm) {ci n idx i kk : Nat} {q : Nat} {cn : String} {T : u_T} {ty0 : Nat → FieldType} {fl : List (Unit ⊕ (Nat ⊕ Unit))} {v : Int32} (hd : decode cc pc = .ok (.putfield idx, 3)) (hk : kk < w_N w) (hs : w_sh w kk = shO ci fl) (hf : fl[i]? = some sI) (hc : vwCl[ci]? = some (cn, T, n)) (hi : i < n) (hin : ∀ v ∈ u_ws cn T n, v ∈ wg_ok) (hty : ∀ k, k < n → parseFieldDescriptor (T k).2.2.1 = some (ty0 k)) (hnm : ∀ a, a < n → ∀ b, b < n → a ≠ b → (T a).2.1 ≠ (T b).2.1) (hl : Cond.fieldLink own idx (T i).1 (T i).2.1 (T i).2.2.1 ∈ wg_ok) (hfin : (T i).2.2.2 = false) (hn : narrow (ty0 i) (.int v) = .int v) (hfit : fits (ty0 i) (.int v) = true) (hq : pc + 3 = q) (k : V w x nL (up μ kk i v) q lv st) : V w x nL μ pc lv (.int v :: .ref (w_ad w kk) :: st) := by
  subst hq
  intro H locs ls hP hS hl0
  have h0 := wl_get (w := w) μ hk
  rw [ce_O μ hs] at h0
  have hlen : i < (fl.mapIdx (fv1 w μ kk)).length := by rw [List.length_mapIdx]; exact (List.getElem?_eq_some_iff.mp hf).1
  refine va_put C.1 C.2.1 C.2.2.2.2.1 hin ty0 hty hnm C.2.2.2.1 C.2.2.2.2.2.2.2.1 hP (wl_D C.2.2.2.2.2.2.2.2.1 μ) hS kk h0 hc i hi (C.2.2.2.2.1 _ hl) (fun _ h => h) hfin (hty i hi) hn hfit hlen hd (fun H1 locs1 hP1 _ hS1 => ?_)
  rw [wl_up_O hs hf] at hP1
  exact k H1 locs1 ls hP1 hS1 hl0
theorem v_putl (C : Cx w x cc nL own rt rm) {ci n idx i kk : Nat} {q : Nat} {cn : String} {T : u_T} {ty0 : Nat → FieldType} {fl : List (Unit ⊕ (Nat ⊕ Unit))} {v : Int64} (hd : decode cc pc = .ok (.putfield idx, 3)) (hk : kk < w_N w) (hs : w_sh w kk = shO ci fl) (hf : fl[i]? = some sL) (hone : ∀ j, j < fl.length → j ≠ i → fl[j]? ≠ some sL) (ho : ∀ j, j < w_N w → j ≠ kk → noL (w_sh w j) = true) (hc : vwCl[ci]? = some (cn, T, n)) (hi : i < n) (hin : ∀ v ∈ u_ws cn T n, v ∈ wg_ok) (hty : ∀ k, k < n → parseFieldDescriptor (T k).2.2.1 = some (ty0 k)) (hnm : ∀ a, a < n → ∀ b, b < n → a ≠ b → (T a).2.1 ≠ (T b).2.1) (hl : Cond.fieldLink own idx (T i).1 (T i).2.1 (T i).2.2.1 ∈ wg_ok) (hfin : (T i).2.2.2 = false) (hn : narrow (ty0 i) (.long v) = .long v) (hfit : fits (ty0 i) (.long v) = true) (hq : pc + 3 = q) (k : V w x nL (ul μ v) q lv st) : V w x nL μ pc lv (.long v :: .ref (w_ad w kk) :: st) := by
  subst hq
  intro H locs ls hP hS hl0
  have h0 := wl_get (w := w) μ hk
  rw [ce_O μ hs] at h0
  have hlen : i < (fl.mapIdx (fv1 w μ kk)).length := by rw [List.length_mapIdx]; exact (List.getElem?_eq_some_iff.mp hf).1
  refine va_put C.1 C.2.1 C.2.2.2.2.1 hin ty0 hty hnm C.2.2.2.1 C.2.2.2.2.2.2.2.1 hP (wl_D C.2.2.2.2.2.2.2.2.1 μ) hS kk h0 hc i hi (C.2.2.2.2.1 _ hl) (fun _ h => h) hfin (hty i hi) hn hfit hlen hd (fun H1 locs1 hP1 _ hS1 => ?_)
  rw [wl_ul_O hs hf hone ho] at hP1
  exact k H1 locs1 ls hP1 hS1 hl0
/-- arrays -/
theorem v_iald (C : Cx w x cc nL own rt rm) {kk n : Nat} {a : Int32} {q : Nat} (j : Nat) (hd : decode cc pc = .ok (.iaload, 1)) (hk : kk < w_N w) (hs : w_sh w kk = shI n) (ha : a = nI j) (hj : j < n) (hn : n < 2 ^ 31) (hq : pc + 1 = q) (k : V w x nL μ q lv (.int (μ.1 kk j) :: st)) : V w x nL μ pc lv (.int a :: .ref (w_ad w kk) :: st) := by
  subst hq; subst ha
  intro H locs ls hP hS hl0
  have h0 := wl_get (w := w) μ hk
  rw [ce_I μ hs] at h0
  refine va_iald C.1 C.2.1 C.2.2.2.2.2.2.2.1 hP kk 0 h0 rfl (vp_in_nI hj hn) hd ?_
  rw [nI_clamp (Nat.lt_trans hj hn)]
  exact k H locs ls hP hS hl0
theorem v_bald (C : Cx w x cc nL own rt rm) {kk n : Nat} {a : Int32} {q : Nat} (j : Nat) (hd : decode cc pc = .ok (.baload, 1)) (hk : kk < w_N w) (hs : w_sh w kk = shB n) (ha : a = nI j) (hj : j < n) (hn : n < 2 ^ 31) (hq : pc + 1 = q) (k : V w x nL μ q lv (.int (μ.1 kk j) :: st)) : V w x nL μ pc lv (.int a :: .ref (w_ad w kk) :: st) := by
  subst hq; subst ha
  intro H locs ls hP hS hl0
  have h0 := wl_get (w := w) μ hk
  rw [ce_B μ hs] at h0
  refine va_bald C.1 C.2.1 C.2.2.2.2.2.2.2.1 hP kk 1 h0 rfl (vp_in_nI hj hn) hd ?_
  rw [nI_clamp (Nat.lt_trans hj hn)]
  exact k H locs ls hP hS hl0
theorem v_iast (C : Cx w x cc nL own rt rm) {kk n : Nat} {a v : Int32} {q : Nat} (j : Nat) (hd : decode cc pc = .ok (.iastore, 1)) (hk : kk < w_N w) (hs : w_sh w kk = shI n) (ha : a = nI j) (hj : j < n) (hn : n < 2 ^ 31) (hq : pc + 1 = q) (k : V w x nL (up μ kk j v) q lv st) : V w x nL μ pc lv (.int v :: .int a :: .ref (w_ad w kk) :: st) := by
  subst hq; subst ha
  intro H locs ls hP hS hl0
  have h0 := wl_get (w := w) μ hk
  rw [ce_I μ hs] at h0
  refine va_iast C.1 C.2.1 C.2.2.2.2.2.2.2.1 hP (wl_D C.2.2.2.2.2.2.2.2.1 μ) hS kk 0 h0 rfl (vp_in_nI hj hn) hd (fun H1 locs1 hP1 _ hS1 => ?_)
  rw [nI_clamp (Nat.lt_trans hj hn), wl_ua_I hs] at hP1
  exact k H1 locs1 ls hP1 hS1 hl0
theorem v_bast (C : Cx w x cc nL own rt rm) {kk n : Nat} {a v : Int32} {q : Nat} (j : Nat) (hd : decode cc pc = .ok (.bastore, 1)) (hk : kk < w_N w) (hs : w_sh w kk = shB n) (ha : a = nI j) (hj : j < n) (hn : n < 2 ^ 31) (hq : pc + 1 = q) (k : V w x nL (up μ kk j (vp_nar .byte v)) q lv st) : V w x nL μ pc lv (.int v :: .int a :: .ref (w_ad w kk) :: st) := by
  subst hq; subst ha
  intro H locs ls hP hS hl0
  have h0 := wl_get (w := w) μ hk
  rw [ce_B μ hs] at h0
  refine va_bast C.1 C.2.1 C.2.2.2.2.2.2.2.1 hP (wl_D C.2.2.2.2.2.2.2.2.1 μ) hS kk 1 h0 rfl (vp_in_nI hj hn) hd (fun H1 locs1 hP1 _ hS1 => ?_)
  rw [nI_clamp (Nat.lt_trans hj hn), wl_ua_B hs] at hP1
  exact k H1 locs1 ls hP1 hS1 hl0
theorem v_aald (C : Cx w x cc nL own rt rm) {kk t0 n t : Nat} {cn : String} {a : Int32} {q : Nat} (j : Nat) (hd : decode cc pc = .ok (.aaload, 1)) (hk : kk < w_N w) (hs : w_sh w kk = shA t0 n t) (ht : (tys w)[t0]? = some (w_cA w t0, .object cn)) (ha : a = nI j) (hj : j < n) (hn : n < 2 ^ 31) (hq : pc + 1 = q) (k : V w x nL μ q lv (.ref (w_ad w (t + j)) :: st)) : V w x nL μ pc lv (.int a :: .ref (w_ad w kk) :: st) := by
  subst hq; subst ha
  intro H locs ls hP hS hl0
  have h0 := wl_get (w := w) μ hk
  rw [ce_A μ hs] at h0
  refine va_aldq C.1 C.2.1 C.2.2.2.2.2.2.2.1 hP kk t0 h0 ht (vp_in_nI hj hn) hd ?_
  rw [nI_clamp (Nat.lt_trans hj hn)]
  exact k H locs ls hP hS hl0
theorem v_alenI (C : Cx w x cc nL own rt rm) {kk n : Nat} {q : Nat} (hd : decode cc pc = .ok (.arraylength, 1)) (hk : kk < w_N w) (hs : w_sh w kk = shI n) (hq : pc + 1 = q) (k : V w x nL μ q lv (.int (nI n) :: st)) : V w x nL μ pc lv (.ref (w_ad w kk) :: st) := by
  subst hq
  intro H locs ls hP hS hl0
  have h0 := wl_get (w := w) μ hk
  rw [ce_I μ hs] at h0
  exact va_alen C.1 C.2.1 C.2.2.2.2.2.2.2.1 hP kk 0 h0 (ty := .int) rfl rfl hd (k H locs ls hP hS hl0)
/-- Math -/
theorem v_mmax (C : Cx w x cc nL own rt rm) {a b : Int32} {idx q : Nat} (hd : decode cc pc = .ok (.invokestatic idx, 3)) (hl : Cond.methodLink own idx Lib.Math.max.name ∈ wg_ok) (hst : Cond.static Lib.Math.max.name ∈ wg_ok) (hin : Cond.initialized "java/lang/Math" ∈ wg_ok) (hco : Cond.code Lib.Math.max.name Lib.Math.max.code 2 (some .int) ∈ wg_ok) (hf : 1 ≤ rm.frames) (hlo : (st.map fun v => v.category).sum + 13 ≤ rm.locals) (hq : pc + 3 = q) (k : V w x nL μ q lv (.int (if a < b then b else a) :: st)) : V w x nL μ pc lv (.int b :: .int a :: st) := by
  subst hq
  intro H locs ls hP hS hl0
  have hR := C.2.2.2.2.2.2.2.2.2.2
  exact va_mmax C.1 C.2.1 (C.2.2.1.trans hl0.1.symm) C.2.2.2.1 (C.2.2.2.2.1 _ hl) (C.2.2.2.2.1 _ hst) (C.2.2.2.2.1 _ hin) (C.2.2.2.2.1 _ hco) (by rw [hR]; exact hf) (by rw [hR]; exact hlo) (Nat.zero_le _) (Nat.zero_le _) hd (k H locs ls hP hS hl0)
theorem v_mmin (C : Cx w x cc nL own rt rm) {a b : Int32} {idx q : Nat} (hd : decode cc pc = .ok (.invokestatic idx, 3)) (hl : Cond.methodLink own idx Lib.Math.min.name ∈ wg_ok) (hst : Cond.static Lib.Math.min.name ∈ wg_ok) (hin : Cond.initialized "java/lang/Math" ∈ wg_ok) (hco : Cond.code Lib.Math.min.name Lib.Math.min.code 2 (some .int) ∈ wg_ok) (hf : 1 ≤ rm.frames) (hlo : (st.map fun v => v.category).sum + 13 ≤ rm.locals) (hq : pc + 3 = q) (k : V w x nL μ q lv (.int (if b < a then b else a) :: st)) : V w x nL μ pc lv (.int b :: .int a :: st) := by
  subst hq
  intro H locs ls hP hS hl0
  have hR := C.2.2.2.2.2.2.2.2.2.2
  exact va_mmin C.1 C.2.1 (C.2.2.1.trans hl0.1.symm) C.2.2.2.1 (C.2.2.2.2.1 _ hl) (C.2.2.2.2.1 _ hst) (C.2.2.2.2.1 _ hin) (C.2.2.2.2.1 _ hco) (by rw [hR]; exact hf) (by rw [hR]; exact hlo) (Nat.zero_le _) (Nat.zero_le _) hd (k H locs ls hP hS hl0)
/-- System.arraycopy over int arrays -/
theorem v_copy (C : Cx w x cc nL own rt rm) {k0 k1 n0 n1 : Nat} {a b c : Int32} {idx q : Nat} (i j n : Nat) (hd : decode cc pc = .ok (.invokestatic idx, 3)) (hl : Cond.methodLink own idx arraycopyName ∈ wg_ok) (hna : Cond.native arraycopyName ∈ wg_ok) (hst : Cond.static arraycopyName ∈ wg_ok) (hin : Cond.initialized "java/lang/System" ∈ wg_ok) (hk0 : k0 < w_N w) (hk1 : k1 < w_N w) (hs0 : w_sh w k0 = shI n0) (hs1 : w_sh w k1 = shI n1) (ha : a = nI i) (hb : b = nI j) (hc : c = nI n) (hi : i + n ≤ n0) (hj : j + n ≤ n1) (hn0 : n0 < 2 ^ 31) (hn1 : n1 < 2 ^ 31) (hf : 1 ≤ rm.frames) (hlo : (st.map fun v => v.category).sum + (nativeFrameWords "java/lang/System" "arraycopy" 5 + 11) ≤ rm.locals) (hq : pc + 3 = q) (k : V w x nL (ua μ k1 (va_cpy (μ.1 k0) (μ.1 k1) i j n)) q lv st) : V w x nL μ pc lv (.int c :: .int b :: .ref (w_ad w k1) :: .int a :: .ref (w_ad w k0) :: st) := by
  subst hq; subst ha; subst hb; subst hc
  intro H locs ls hP hS hl0
  have hR := C.2.2.2.2.2.2.2.2.2.2
  have h0 := wl_get (w := w) μ hk0
  rw [ce_I μ hs0] at h0
  have h1 := wl_get (w := w) μ hk1
  rw [ce_I μ hs1] at h1
  have ci := nI_clamp (n := i) (by omega)
  have cj := nI_clamp (n := j) (by omega)
  have cn := nI_clamp (n := n) (by omega)
  refine va_copyi C.1 C.2.1 (C.2.2.1.trans hl0.1.symm) C.2.2.2.1 (C.2.2.2.2.1 _ hl) (C.2.2.2.2.1 _ hna) (C.2.2.2.2.1 _ hst) (C.2.2.2.2.1 _ hin) C.2.2.2.2.2.2.2.1 hP (wl_D C.2.2.2.2.2.2.2.2.1 μ) hS k0 k1 0 0 h0 h1 (ty := .int) rfl rfl rfl (nI_pos (by omega)) (nI_pos (by omega)) (nI_pos (by omega)) (by rw [ci, cn]; exact hi) (by rw [cj, cn]; exact hj) (fun _ _ => rfl) (by rw [hR]; exact hf) (by rw [hR]; exact hlo) hd (fun H1 locs1 hP1 _ hS1 => ?_)
  rw [ci, cj, cn, wl_ua_I hs1] at hP1
  exact k H1 locs1 ls hP1 hS1 hl0
end VROWS
/-! contracts -/
def WU (w : WC) (μ : Me) (U : State) : Prop := WP w μ U.heap ∧ va_K (w_D w) vwCl (tys w) U ∧ Okw w ∧ w_X w U
theorem WU_blind (w : WC) (μ : Me) (av : List Value) : FrameBlind (va_Pc av (fun U => WU w μ U)) := by
  intro a U g mk h
  obtain ⟨h0, h1, h2, h3, h4⟩ := h
  exact ⟨h0, h1, va_K.moved (u := U) (U := U.calling g mk a) (Vm.Alike.refl U.vm) h2, h3, h3.2 U (U.calling g mk a) (State.WarmedH.refl U) (Nat.le_refl _) (fun _ _ _ => rfl) h4⟩
abbrev QI (w : WC) (post : Int32 → Me → Prop) : Array Value → State → Outcome → State → Prop := va_Qi post (fun u t => WP w u t.heap) (AA w)
abbrev QV (w : WC) (post : Me → Prop) : Array Value → State → Outcome → State → Prop := va_Qv post (fun u t => WP w u t.heap) (AA w)
abbrev QL (w : WC) (post : Int64 → Me → Prop) : Array Value → State → Outcome → State → Prop := va_Ql post (fun u t => WP w u t.heap) (AA w)
def CtI (l : Launch) (w : WC) (y : MethodName) (b : ByteArray) (n : Nat) (rt : Option FieldType) (rm : Room) (av : List Value) (μ : Me) (post : Int32 → Me → Prop) : Prop := Met l y (WG y b n rt) rm (va_Pc av (fun U => WU w μ U)) (QI w post) 0 0 (AA w)
def CtV (l : Launch) (w : WC) (y : MethodName) (b : ByteArray) (n : Nat) (rm : Room) (av : List Value) (μ : Me) (post : Me → Prop) : Prop := Met l y (WG y b n none) rm (va_Pc av (fun U => WU w μ U)) (QV w post) 0 0 (AA w)
def CtL (l : Launch) (w : WC) (y : MethodName) (b : ByteArray) (n : Nat) (rm : Room) (av : List Value) (μ : Me) (post : Int64 → Me → Prop) : Prop := Met l y (WG y b n (some .long)) rm (va_Pc av (fun U => WU w μ U)) (QL w post) 0 0 (AA w)
theorem Ct.mk {l : Launch} {w : WC} {y : MethodName} {b : ByteArray} {n : Nat} {rt : Option FieldType} {rm : Room} {av : List Value} {μ : Me} {Qc : Array Value → State → Outcome → State → Prop} {own : String} (ho : y.cls = own) (hy : plainName y.cls = true) (hn : (lg_sl av).length ≤ n) (body : ∀ x : Cy, y_l x = l → Cx w x b n own rt rm → y_Q x = MQ (y_b x) Qc (y_a x) (y_s x) 0 0 (AA w) → V w x n μ 0 (lv_args 0 av) []) : Met l y (WG y b n rt) rm (va_Pc av (fun U => WU w μ U)) Qc 0 0 (AA w) := by
  subst ho
  refine Met.ofW (cc := b) (maxL := n) (ret := rt) hy rfl ?_
  intro p e s m args below meth c s₁ B hml hv
  obtain ⟨h0, h1, h2, h3, h4⟩ := hv
  subst h0
  have hts := atoms_spec (ws := WG y b n rt) B.pre
  have hown : s.vm.findClass y.cls = some m.cls := findClass_of_methodNamed B.named
  have hl := lv_entry av (n := n) hn
  rw [lg_entry_eq]
  exact body (p, l, e, (headSpec (WG y b n rt) rm).room, s, m, av.toArray, below, meth, c, _) rfl ⟨B.exec, B.bytes, hml, hown, fun v hv => hts v (List.mem_cons_of_mem _ hv), B.returns, B.notSynchronized, h2, h3, h4, rfl⟩ rfl s.heap [] _ h1 va_S.rf hl
section VCALLS
variable {w : WC} {x : Cy} {nL : Nat} {μ : Me} {pc : Nat} {lv : List (Nat × Value)} {st : List Value} {cc : ByteArray} {own : String} {rt : Option FieldType} {rm : Room}
theorem v_iret (C : Cx w x cc nL own (some .int) rm) {post : Int32 → Me → Prop} (hQ : y_Q x = MQ (y_b x) (QI w post) (y_a x) (y_s x) 0 0 (AA w)) {v : Int32} (hd : decode cc pc = .ok (.ireturn, 1)) (h : post v μ) : V w x nL μ pc lv [.int v] := by
  intro H locs ls hP hS hl
  rw [hQ]
  exact W.iret C.1 C.2.1 C.2.2.2.2.2.1 (fun t ht _ => ⟨⟨v, μ, rfl, h, by show WP w μ t.heap; rw [ht]; exact hP⟩, hS.F ht⟩) hS.2.2 hd C.2.2.2.2.2.2.1
theorem v_zret (C : Cx w x cc nL own (some .boolean) rm) {post : Int32 → Me → Prop} (hQ : y_Q x = MQ (y_b x) (QI w post) (y_a x) (y_s x) 0 0 (AA w)) {v : Int32} (hd : decode cc pc = .ok (.ireturn, 1)) (hn : narrow .boolean (.int v) = .int v) (h : post v μ) : V w x nL μ pc lv [.int v] := by
  intro H locs ls hP hS hl
  rw [hQ]
  exact W.zret C.1 C.2.1 C.2.2.2.2.2.1 hn (fun t ht _ => ⟨⟨v, μ, rfl, h, by show WP w μ t.heap; rw [ht]; exact hP⟩, hS.F ht⟩) hS.2.2 hd C.2.2.2.2.2.2.1
theorem v_lret (C : Cx w x cc nL own (some .long) rm) {post : Int64 → Me → Prop} (hQ : y_Q x = MQ (y_b x) (QL w post) (y_a x) (y_s x) 0 0 (AA w)) {v : Int64} (hd : decode cc pc = .ok (.lreturn, 1)) (h : post v μ) : V w x nL μ pc lv [.long v] := by
  intro H locs ls hP hS hl
  rw [hQ]
  exact W.lret C.1 C.2.1 C.2.2.2.2.2.1 (fun t ht _ => ⟨⟨v, μ, rfl, h, by show WP w μ t.heap; rw [ht]; exact hP⟩, hS.F ht⟩) hS.2.2 hd C.2.2.2.2.2.2.1
theorem v_vret (C : Cx w x cc nL own none rm) {post : Me → Prop} (hQ : y_Q x = MQ (y_b x) (QV w post) (y_a x) (y_s x) 0 0 (AA w)) (hd : decode cc pc = .ok (.return_, 1)) (h : post μ) : V w x nL μ pc lv [] := by
  intro H locs ls hP hS hl
  rw [hQ]
  exact W.vret C.1 C.2.1 C.2.2.2.2.2.1 (fun t ht _ => ⟨⟨μ, rfl, h, by show WP w μ t.heap; rw [ht]; exact hP⟩, hS.F ht⟩) hS.2.2 hd C.2.2.2.2.2.2.1
/-- what is known of a method: an instance's, a static one -/
def Mi (y : MethodName) (b : ByteArray) (n : Nat) (r : Option FieldType) (ar : Nat) : Prop := Cond.instanceMethod y ∈ wg_ok ∧ Cond.selects y.cls y y ∈ wg_ok ∧ Cond.initialized y.cls ∈ wg_ok ∧ Cond.code y b n r ∈ wg_ok ∧ (y.cls ≠ "java/lang/invoke/MethodHandle" ∧ y.cls ≠ "java/lang/invoke/VarHandle" ∧ (parseMethodDescriptor y.desc).map (fun d => d.parameters.length) = some ar)
def Ms (y : MethodName) (b : ByteArray) (n : Nat) (r : Option FieldType) (ar : Nat) : Prop := Cond.static y ∈ wg_ok ∧ Cond.initialized y.cls ∈ wg_ok ∧ Cond.code y b n r ∈ wg_ok ∧ (y.cls ≠ "java/lang/invoke/MethodHandle" ∧ y.cls ≠ "java/lang/invoke/VarHandle" ∧ (parseMethodDescriptor y.desc).map (fun d => d.parameters.length) = some ar)
def Rk (rm : Room) (n : Nat) (rmy : Room) : Prop := rmy.cells = 0 ∧ rmy.slots = 0 ∧ rmy.frames + 1 ≤ rm.frames ∧ 8 + (n + 11) + rmy.locals ≤ rm.locals
variable {y : MethodName} {b : ByteArray} {n ar idx : Nat} {r : Option FieldType} {rmy : Room} {As : List Value} {Qc : Array Value → State → Outcome → State → Prop} {av : List Value}
theorem WU_at (C : Cx w x cc nL own rt rm) {H : Heap} {locs : List Loc} (hP : WP w μ H) (hS : va_S (AA w) (y_s x).heap H locs) (U : State) (hU : U.heap = H) (hW : (y_s x).WarmedH U.vm) : WU w μ U :=
  ⟨by rw [hU]; exact hP, va_K.moved hW.alike C.2.2.2.2.2.2.2.1, C.2.2.2.2.2.2.2.2.1, C.2.2.2.2.2.2.2.2.1.2 (y_s x) U hW (by rw [hU]; exact hS.1) (fun q h1 h2 => by rw [hU]; exact hS.2.1 q h1 h2) C.2.2.2.2.2.2.2.2.2.1⟩
theorem v_runV (C : Cx w x cc nL own rt rm) (M : Mi y b n r ar) {kk ci : Nat} {fl : List (Unit ⊕ (Nat ⊕ Unit))} {T : u_T} {N0 : Nat} (hM : Met (y_l x) y (WG y b n r) rmy (va_Pc (.ref (w_ad w kk) :: As) (fun U => WU w μ U)) Qc 0 0 (AA w)) (hk : kk < w_N w) (hs : w_sh w kk = shO ci fl) (hc : vwCl[ci]? = some (y.cls, T, N0)) (hl : Cond.methodLink own idx y ∈ wg_ok) (hR : Rk rm n rmy) (ha : As.length = ar) (hr : (st.map fun v => v.category).sum ≤ 8) (hd : decode cc pc = .ok (.invokevirtual idx, 3)) {H : Heap} {locs : List Loc} {ls : Array Slot} (hP : WP w μ H) (hS : va_S (AA w) (y_s x).heap H locs) (hl0 : lv_has ls nL lv) :
    va_Run (y_p x) (y_l x) (y_e x) (y_R x) (y_s x) (y_m x) (y_a x) (y_b x) (y_t x) (y_c x) H locs 0 0 0 0 (F0 (y_m x) pc ls (As.reverse ++ .ref (w_ad w kk) :: st)) st (Qc (Value.ref (w_ad w kk) :: As).toArray) (AA w) := by
  have hts := C.2.2.2.2.1
  have hRR := C.2.2.2.2.2.2.2.2.2.2
  have h0 := wl_get (w := w) μ hk
  rw [ce_O μ hs] at h0
  refine va_runV (As := As) (rest := st) (C := y.cls) ⟨C.1, C.2.1, C.2.2.1, C.2.2.2.1, hts⟩ hM ⟨callB_of ar hts (wg_goodIn M.2.2.2.1) rfl hR.1 hR.2.1 (hts _ M.2.2.1) (hts _ hl) M.2.2.2.2 (by rw [hRR]; exact ⟨hR.2.2.1, hR.2.2.2⟩), hts _ M.1, hts _ M.2.1⟩ ⟨WU_blind w μ _, va_recv C.2.2.2.2.2.2.2.1 hP hc h0, fun U hU hW => ⟨rfl, WU_at C hP hS U hU hW⟩⟩ rfl ha hl0.1 rfl (lv_room hr) hd ⟨Nat.zero_le _, Nat.zero_le _⟩
theorem v_runS (C : Cx w x cc nL own rt rm) (M : Ms y b n r ar) (hM : Met (y_l x) y (WG y b n r) rmy (va_Pc As (fun U => WU w μ U)) Qc 0 0 (AA w)) (hl : Cond.methodLink own idx y ∈ wg_ok) (hR : Rk rm n rmy) (ha : As.length = ar) (hr : (st.map fun v => v.category).sum ≤ 8) (hd : decode cc pc = .ok (.invokestatic idx, 3)) {H : Heap} {locs : List Loc} {ls : Array Slot} (hP : WP w μ H) (hS : va_S (AA w) (y_s x).heap H locs) (hl0 : lv_has ls nL lv) :
    va_Run (y_p x) (y_l x) (y_e x) (y_R x) (y_s x) (y_m x) (y_a x) (y_b x) (y_t x) (y_c x) H locs 0 0 0 0 (F0 (y_m x) pc ls (As.reverse ++ st)) st (Qc As.toArray) (AA w) := by
  have hts := C.2.2.2.2.1
  have hRR := C.2.2.2.2.2.2.2.2.2.2
  refine va_runS (As := As) (rest := st) ⟨C.1, C.2.1, C.2.2.1, C.2.2.2.1, hts⟩ hM ⟨callB_of ar hts (wg_goodIn M.2.2.1) rfl hR.1 hR.2.1 (hts _ M.2.1) (hts _ hl) M.2.2.2 (by rw [hRR]; exact ⟨hR.2.2.1, hR.2.2.2⟩), hts _ M.1⟩ ⟨WU_blind w μ _, fun U hU hW => ⟨rfl, WU_at C hP hS U hU hW⟩⟩ rfl ha hl0.1 rfl (lv_room hr) hd ⟨Nat.zero_le _, Nat.zero_le _⟩
theorem v_runN (C : Cx w x cc nL own rt rm) (M : Ms y b n r ar) {host : String} (hM : Met (y_l x) y (WG y b n r) rmy (va_Pc As (fun U => WU w μ U)) Qc 0 0 (AA w)) (hl : ∀ U, w_X w U → va_Nw (.methodLinkNest own idx y host) U) (hR : Rk rm n rmy) (ha : As.length = ar) (hr : (st.map fun v => v.category).sum ≤ 8) (hd : decode cc pc = .ok (.invokestatic idx, 3)) {H : Heap} {locs : List Loc} {ls : Array Slot} (hP : WP w μ H) (hS : va_S (AA w) (y_s x).heap H locs) (hl0 : lv_has ls nL lv) :
    va_Run (y_p x) (y_l x) (y_e x) (y_R x) (y_s x) (y_m x) (y_a x) (y_b x) (y_t x) (y_c x) H locs 0 0 0 0 (F0 (y_m x) pc ls (As.reverse ++ st)) st (Qc As.toArray) (AA w) := by
  have hts := C.2.2.2.2.1
  have hRR := C.2.2.2.2.2.2.2.2.2.2
  refine va_runSN (As := As) (rest := st) ⟨C.1, C.2.1, C.2.2.1, C.2.2.2.1, hts⟩ hM ⟨va_cnB ar hts (wg_goodIn M.2.2.1) rfl hR.1 hR.2.1 (hl _ C.2.2.2.2.2.2.2.2.2.1) (hts _ M.2.1) M.2.2.2 (by rw [hRR]; exact ⟨hR.2.2.1, hR.2.2.2⟩), hts _ M.1, trivial⟩ ⟨WU_blind w μ _, fun U hU hW => ⟨rfl, WU_at C hP hS U hU hW⟩⟩ rfl ha hl0.1 rfl (lv_room hr) hd ⟨Nat.zero_le _, Nat.zero_le _⟩
/-- what comes behind a call -/
theorem v_ci {post : Int32 → Me → Prop} {a : Array Value} {st0 : List Value} {q : Nat} (hq : pc + 3 = q) (run : ∀ (H : Heap) (locs : List Loc) (ls : Array Slot), WP w μ H → va_S (AA w) (y_s x).heap H locs → lv_has ls nL lv → va_Run (y_p x) (y_l x) (y_e x) (y_R x) (y_s x) (y_m x) (y_a x) (y_b x) (y_t x) (y_c x) H locs 0 0 0 0 (F0 (y_m x) pc ls st0) st (QI w post a) (AA w)) (k : ∀ (v : Int32) (μ' : Me), post v μ' → V w x nL μ' q lv (.int v :: st)) : V w x nL μ pc lv st0 := by
  subst hq
  intro H locs ls hP hS hl
  exact va_calli (run H locs ls hP hS hl) hS (fun q _ h => h) (fun q h => h) (fun v u t H1 locs1 ht _ hp hB _ _ hS1 => k v u hp H1 locs1 ls (by rw [← ht]; exact hB) hS1 hl)
theorem v_cl {post : Int64 → Me → Prop} {a : Array Value} {st0 : List Value} {q : Nat} (hq : pc + 3 = q) (run : ∀ (H : Heap) (locs : List Loc) (ls : Array Slot), WP w μ H → va_S (AA w) (y_s x).heap H locs → lv_has ls nL lv → va_Run (y_p x) (y_l x) (y_e x) (y_R x) (y_s x) (y_m x) (y_a x) (y_b x) (y_t x) (y_c x) H locs 0 0 0 0 (F0 (y_m x) pc ls st0) st (QL w post a) (AA w)) (k : ∀ (v : Int64) (μ' : Me), post v μ' → V w x nL μ' q lv (.long v :: st)) : V w x nL μ pc lv st0 := by
  subst hq
  intro H locs ls hP hS hl
  exact va_calll (run H locs ls hP hS hl) hS (fun q _ h => h) (fun q h => h) (fun v u t H1 locs1 ht _ hp hB _ _ hS1 => k v u hp H1 locs1 ls (by rw [← ht]; exact hB) hS1 hl)
theorem v_cv {post : Me → Prop} {a : Array Value} {st0 : List Value} {q : Nat} (hq : pc + 3 = q) (run : ∀ (H : Heap) (locs : List Loc) (ls : Array Slot), WP w μ H → va_S (AA w) (y_s x).heap H locs → lv_has ls nL lv → va_Run (y_p x) (y_l x) (y_e x) (y_R x) (y_s x) (y_m x) (y_a x) (y_b x) (y_t x) (y_c x) H locs 0 0 0 0 (F0 (y_m x) pc ls st0) st (QV w post a) (AA w)) (k : ∀ (μ' : Me), post μ' → V w x nL μ' q lv st) : V w x nL μ pc lv st0 := by
  subst hq
  intro H locs ls hP hS hl
  exact va_callv (run H locs ls hP hS hl) hS (fun q _ h => h) (fun q h => h) (fun u t H1 locs1 ht _ hp hB _ _ hS1 => k u hp H1 locs1 ls (by rw [← ht]; exact hB) hS1 hl)
theorem v_iV (C : Cx w x cc nL own rt rm) {post : Int32 → Me → Prop} {kk ci : Nat} {fl : List (Unit ⊕ (Nat ⊕ Unit))} {T : u_T} {N0 q : Nat} {st0 : List Value} (hd : decode cc pc = .ok (.invokevirtual idx, 3)) (M : Mi y b n r ar) (hM : CtI (y_l x) w y b n r rmy (.ref (w_ad w kk) :: As) μ post) (hst : st0 = As.reverse ++ .ref (w_ad w kk) :: st) (hk : kk < w_N w) (hs : w_sh w kk = shO ci fl) (hc : vwCl[ci]? = some (y.cls, T, N0)) (hl : Cond.methodLink own idx y ∈ wg_ok) (hR : Rk rm n rmy) (ha : As.length = ar) (hr : (st.map fun v => v.category).sum ≤ 8) (hq : pc + 3 = q) (k : ∀ (v : Int32) (μ' : Me), post v μ' → V w x nL μ' q lv (.int v :: st)) : V w x nL μ pc lv st0 := by
  subst hst
  exact v_ci hq (fun H locs ls hP hS hl0 => v_runV C M hM hk hs hc hl hR ha hr hd hP hS hl0) k
theorem v_iS (C : Cx w x cc nL own rt rm) {post : Int32 → Me → Prop} {q : Nat} {st0 : List Value} (hd : decode cc pc = .ok (.invokestatic idx, 3)) (M : Ms y b n r ar) (hM : CtI (y_l x) w y b n r rmy As μ post) (hst : st0 = As.reverse ++ st) (hl : Cond.methodLink own idx y ∈ wg_ok) (hR : Rk rm n rmy) (ha : As.length = ar) (hr : (st.map fun v => v.category).sum ≤ 8) (hq : pc + 3 = q) (k : ∀ (v : Int32) (μ' : Me), post v μ' → V w x nL μ' q lv (.int v :: st)) : V w x nL μ pc lv st0 := by
  subst hst
  exact v_ci hq (fun H locs ls hP hS hl0 => v_runS C M hM hl hR ha hr hd hP hS hl0) k
theorem v_iN (C : Cx w x cc nL own rt rm) {post : Int32 → Me → Prop} {host : String} {q : Nat} {st0 : List Value} (hd : decode cc pc = .ok (.invokestatic idx, 3)) (M : Ms y b n r ar) (hM : CtI (y_l x) w y b n r rmy As μ post) (hst : st0 = As.reverse ++ st) (hl : ∀ U, w_X w U → va_Nw (.methodLinkNest own idx y host) U) (hR : Rk rm n rmy) (ha : As.length = ar) (hr : (st.map fun v => v.category).sum ≤ 8) (hq : pc + 3 = q) (k : ∀ (v : Int32) (μ' : Me), post v μ' → V w x nL μ' q lv (.int v :: st)) : V w x nL μ pc lv st0 := by
  subst hst
  exact v_ci hq (fun H locs ls hP hS hl0 => v_runN C M hM hl hR ha hr hd hP hS hl0) k
theorem v_lV (C : Cx w x cc nL own rt rm) {post : Int64 → Me → Prop} {kk ci : Nat} {fl : List (Unit ⊕ (Nat ⊕ Unit))} {T : u_T} {N0 q : Nat} {st0 : List Value} (hd : decode cc pc = .ok (.invokevirtual idx, 3)) (M : Mi y b n (some .long) ar) (hM : CtL (y_l x) w y b n rmy (.ref (w_ad w kk) :: As) μ post) (hst : st0 = As.reverse ++ .ref (w_ad w kk) :: st) (hk : kk < w_N w) (hs : w_sh w kk = shO ci fl) (hc : vwCl[ci]? = some (y.cls, T, N0)) (hl : Cond.methodLink own idx y ∈ wg_ok) (hR : Rk rm n rmy) (ha : As.length = ar) (hr : (st.map fun v => v.category).sum ≤ 8) (hq : pc + 3 = q) (k : ∀ (v : Int64) (μ' : Me), post v μ' → V w x nL μ' q lv (.long v :: st)) : V w x nL μ pc lv st0 := by
  subst hst
  exact v_cl hq (fun H locs ls hP hS hl0 => v_runV C M hM hk hs hc hl hR ha hr hd hP hS hl0) k
theorem v_lS (C : Cx w x cc nL own rt rm) {post : Int64 → Me → Prop} {q : Nat} {st0 : List Value} (hd : decode cc pc = .ok (.invokestatic idx, 3)) (M : Ms y b n (some .long) ar) (hM : CtL (y_l x) w y b n rmy As μ post) (hst : st0 = As.reverse ++ st) (hl : Cond.methodLink own idx y ∈ wg_ok) (hR : Rk rm n rmy) (ha : As.length = ar) (hr : (st.map fun v => v.category).sum ≤ 8) (hq : pc + 3 = q) (k : ∀ (v : Int64) (μ' : Me), post v μ' → V w x nL μ' q lv (.long v :: st)) : V w x nL μ pc lv st0 := by
  subst hst
  exact v_cl hq (fun H locs ls hP hS hl0 => v_runS C M hM hl hR ha hr hd hP hS hl0) k
theorem v_lN (C : Cx w x cc nL own rt rm) {post : Int64 → Me → Prop} {host : String} {q : Nat} {st0 : List Value} (hd : decode cc pc = .ok (.invokestatic idx, 3)) (M : Ms y b n (some .long) ar) (hM : CtL (y_l x) w y b n rmy As μ post) (hst : st0 = As.reverse ++ st) (hl : ∀ U, w_X w U → va_Nw (.methodLinkNest own idx y host) U) (hR : Rk rm n rmy) (ha : As.length = ar) (hr : (st.map fun v => v.category).sum ≤ 8) (hq : pc + 3 = q) (k : ∀ (v : Int64) (μ' : Me), post v μ' → V w x nL μ' q lv (.long v :: st)) : V w x nL μ pc lv st0 := by
  subst hst
  exact v_cl hq (fun H locs ls hP hS hl0 => v_runN C M hM hl hR ha hr hd hP hS hl0) k
theorem v_vV (C : Cx w x cc nL own rt rm) {post : Me → Prop} {kk ci : Nat} {fl : List (Unit ⊕ (Nat ⊕ Unit))} {T : u_T} {N0 q : Nat} {st0 : List Value} (hd : decode cc pc = .ok (.invokevirtual idx, 3)) (M : Mi y b n none ar) (hM : CtV (y_l x) w y b n rmy (.ref (w_ad w kk) :: As) μ post) (hst : st0 = As.reverse ++ .ref (w_ad w kk) :: st) (hk : kk < w_N w) (hs : w_sh w kk = shO ci fl) (hc : vwCl[ci]? = some (y.cls, T, N0)) (hl : Cond.methodLink own idx y ∈ wg_ok) (hR : Rk rm n rmy) (ha : As.length = ar) (hr : (st.map fun v => v.category).sum ≤ 8) (hq : pc + 3 = q) (k : ∀ (μ' : Me), post μ' → V w x nL μ' q lv st) : V w x nL μ pc lv st0 := by
  subst hst
  exact v_cv hq (fun H locs ls hP hS hl0 => v_runV C M hM hk hs hc hl hR ha hr hd hP hS hl0) k
theorem v_vS (C : Cx w x cc nL own rt rm) {post : Me → Prop} {q : Nat} {st0 : List Value} (hd : decode cc pc = .ok (.invokestatic idx, 3)) (M : Ms y b n none ar) (hM : CtV (y_l x) w y b n rmy As μ post) (hst : st0 = As.reverse ++ st) (hl : Cond.methodLink own idx y ∈ wg_ok) (hR : Rk rm n rmy) (ha : As.length = ar) (hr : (st.map fun v => v.category).sum ≤ 8) (hq : pc + 3 = q) (k : ∀ (μ' : Me), post μ' → V w x nL μ' q lv st) : V w x nL μ pc lv st0 := by
  subst hst
  exact v_cv hq (fun H locs ls hP hS hl0 => v_runS C M hM hl hR ha hr hd hP hS hl0) k
theorem v_vN (C : Cx w x cc nL own rt rm) {post : Me → Prop} {host : String} {q : Nat} {st0 : List Value} (hd : decode cc pc = .ok (.invokestatic idx, 3)) (M : Ms y b n none ar) (hM : CtV (y_l x) w y b n rmy As μ post) (hst : st0 = As.reverse ++ st) (hl : ∀ U, w_X w U → va_Nw (.methodLinkNest own idx y host) U) (hR : Rk rm n rmy) (ha : As.length = ar) (hr : (st.map fun v => v.category).sum ≤ 8) (hq : pc + 3 = q) (k : ∀ (μ' : Me), post μ' → V w x nL μ' q lv st) : V w x nL μ pc lv st0 := by
  subst hst
  exact v_cv hq (fun H locs ls hP hS hl0 => v_runN C M hM hl hR ha hr hd hP hS hl0) k
end VCALLS
