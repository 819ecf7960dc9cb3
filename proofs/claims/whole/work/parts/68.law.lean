/-! THE CLAIM OUT OF ONE WALK OF THE LAW'S BODY. Your part is whole_start (and what it stands on); all else here is the same for every law, but numbers. -/
def R_law : String := "SundayVisitsLaw"
def lw_P (b : Addr) (xs : List Int32) (args : Array Value) (s : State) : Prop := args = #[.ref b] ∧ s.IntsAt b xs ∧ xs.length ≤ 3072 ∧ (Jvm.Cond.and given_1 narrow_1).before args s = true
def lw_Q (_ : Array Value) (s : State) (o : Outcome) (t : State) : Prop := o = .returned (some (.int 1)) ∧ Framed s o t [] 600000 7302249
def lw_Z (below : List Frame) (a : Array Value) (s : State) : State → Prop := fun t => ∃ o, t.status = .running ∧ Ended t below o ∧ lw_Q a s o t
/-- the law's own end, with 1 on the stack, nothing written that was there before, its room as the claim has it -/
theorem lw_ret {p : Program} {l : Launch} {e : Env} {s : State} {m : MethodId} {below : List Frame} {meth : Method} {c : Code} {b : Nat} (hx : p.tables.exec = Jvm.exec) (hb : c.code = code) (hr : meth.sig.returnType = ret) (hlocks : meth.locks = false) {pc : Nat} {H : Heap} {ls : Array Slot} (hdg : decode code pc = .ok (.ireturn, 1)) : W p l e room_1 s m #[Value.ref b] below meth c H [] 600000 7302249 (lw_Z below #[Value.ref b] s) (F0 m pc ls [.int 1]) := by
  intro T hT X
  obtain ⟨fs, hret, hrun, hended, hW, hframe⟩ := X.leave (v := some (.int 1)) (hlocks := hlocks) (fun h => by rw [hr] at h; cases h)
  have hmeth' : T.vm.method? m = some meth := X.method'
  refine ⟨T.setFrames fs, ?_, .returned (some (.int 1)), hrun, hended, rfl, ⟨_, rfl⟩, hW, hframe⟩
  jvm_step X.here [X.here.top, hx, hb, hdg, hmeth', hr, ret, narrow_b1]
  (try refine ⟨rfl, ?_⟩); (try refine ⟨rfl, ?_⟩)
  first | (intro acts; rw [hret _ acts rfl rfl rfl]) | rw [hret _ _ rfl rfl rfl]
  exact Steps.refl _
/-- what holds at the law's entry: the machine, the code, the tables' words (any of lw_tbl by 'hts w (by decide +kernel)'), the script of L ints xs at the cell b, what the Statement gives of the start (any of its parts by flat_of_before) -/
def lw_At (p : Program) (s : State) (m : MethodId) (meth : Method) (c : Code) (b L : Nat) (xs : Nat → Int32) : Prop :=
  p.tables.exec = Jvm.exec ∧ c.code = code ∧ meth.sig.returnType = ret ∧ c.maxLocals = 4 ∧ s.vm.findClass R_law = some m.cls ∧ (∀ w ∈ lw_tbl, w.before #[Value.ref b] s = true) ∧ va_X b L xs s s.heap ∧ b < s.heap.size ∧ meth.locks = false ∧ (Jvm.Cond.and given_1 narrow_1).before #[Value.ref b] s = true
/-! the law: both worlds in one heap -/
abbrev lA (x : Cy) : Nat → Prop := fun q => (y_s x).heap.size ≤ q
def Wk (w : WC) (x : Cy) : Prop := va_K (w_D w) vwCl (tys w) (y_s x) ∧ Okw w ∧ w_X w (y_s x) ∧ ∀ q, AA w q → lA x q
def Lx (w1 w2 : WC) (x : Cy) (b L : Nat) (xs : Nat → Int32) : Prop :=
  (y_p x).tables.exec = Jvm.exec ∧ (y_c x).code = code ∧ (y_c x).maxLocals = 4 ∧ (y_s x).vm.findClass "SundayVisitsLaw" = some (y_m x).cls ∧ (∀ v ∈ wg_ok, v.before (y_a x) (y_s x) = true) ∧ y_R x = room_1 ∧ Wk w1 x ∧ Wk w2 x ∧ va_X b L xs (y_s x) (y_s x).heap ∧ b < (y_s x).heap.size ∧ ∀ q, AA w1 q → ¬ AA w2 q
def Lz (w1 w2 : WC) (x : Cy) (μ ν : Me) (pc : Nat) (lv : List (Nat × Value)) (st : List Value) : Prop :=
  ∀ (H : Heap) (locs : List Loc) (ls : Array Slot), WP w1 μ H → WP w2 ν H → va_S (lA x) (y_s x).heap H locs → lv_has ls 4 lv → W (y_p x) (y_l x) (y_e x) (y_R x) (y_s x) (y_m x) (y_a x) (y_b x) (y_t x) (y_c x) H locs 600000 7302249 (y_Q x) (F0 (y_m x) pc ls st)
theorem WP_keep {w : WC} {m : Me} {H H1 : Heap} (hP : WP w m H) (hk : ∀ q, q < H.size → AA w q → H1[q]? = H[q]?) : WP w m H1 := by
  intro k q hq
  have hl : k < w_N w := by
    have := (List.getElem?_eq_some_iff.mp hq).1
    rwa [wl_len] at this
  have e : q = (w_ad w k, ce w m k) := by
    rw [wl_get m hl] at hq
    exact (Option.some.inj hq).symm
  refine (hP k q hq).kept (hk q.1 (hP k q hq).lt ⟨k, hl, ?_⟩)
  rw [e]
section LROWS
variable {w1 w2 w : WC} {x : Cy} {b L : Nat} {xs : Nat → Int32} {μ ν m : Me} {pc : Nat} {lv : List (Nat × Value)} {st : List Value}
theorem z_iconst (C : Lx w1 w2 x b L xs) {n : Int} {v : Int32} {q : Nat} (hd : decode code pc = .ok (.iconst n, 1)) (hv : Int32.ofInt n = v) (hq : pc + 1 = q) (k : Lz w1 w2 x μ ν q lv (.int v :: st)) : Lz w1 w2 x μ ν pc lv st := by
  subst hq
  exact fun H locs ls hP hP2 hS hl => lv_iconst C.1 C.2.1 hd hv (k H locs ls hP hP2 hS hl)
theorem z_bipush (C : Lx w1 w2 x b L xs) {n : Int} {v : Int32} {q : Nat} (hd : decode code pc = .ok (.bipush n, 2)) (hv : (Int8.ofInt n).toInt32 = v) (hq : pc + 2 = q) (k : Lz w1 w2 x μ ν q lv (.int v :: st)) : Lz w1 w2 x μ ν pc lv st := by
  subst hq
  exact fun H locs ls hP hP2 hS hl => lv_bipush C.1 C.2.1 hd hv (k H locs ls hP hP2 hS hl)
theorem z_iload_n (C : Lx w1 w2 x b L xs) {n : Fin 4} {v : Int32} {q : Nat} (hd : decode code pc = .ok (.iload_n n, 1)) (hv : lgt lv n = some (.int v)) (hq : pc + 1 = q) (k : Lz w1 w2 x μ ν q lv (.int v :: st)) : Lz w1 w2 x μ ν pc lv st := by
  subst hq
  exact fun H locs ls hP hP2 hS hl => lv_iload_n C.1 C.2.1 hd rfl (lgt_has hl hv) (k H locs ls hP hP2 hS hl)
theorem z_aload_n (C : Lx w1 w2 x b L xs) {n : Fin 4} {v : Nat} {q : Nat} (hd : decode code pc = .ok (.aload_n n, 1)) (hv : lgt lv n = some (.ref v)) (hq : pc + 1 = q) (k : Lz w1 w2 x μ ν q lv (.ref v :: st)) : Lz w1 w2 x μ ν pc lv st := by
  subst hq
  exact fun H locs ls hP hP2 hS hl => lv_aload_n C.1 C.2.1 hd rfl (lgt_has hl hv) (k H locs ls hP hP2 hS hl)
theorem z_iadd (C : Lx w1 w2 x b L xs) {a a2 : Int32} {q : Nat} (hd : decode code pc = .ok (.iadd, 1))  (hq : pc + 1 = q) (k : Lz w1 w2 x μ ν q lv (.int (a + a2) :: st)) : Lz w1 w2 x μ ν pc lv (.int a2 :: .int a :: st) := by
  subst hq
  exact fun H locs ls hP hP2 hS hl => lv_iadd C.1 C.2.1 hd (k H locs ls hP hP2 hS hl)
theorem z_isub (C : Lx w1 w2 x b L xs) {a a2 : Int32} {q : Nat} (hd : decode code pc = .ok (.isub, 1))  (hq : pc + 1 = q) (k : Lz w1 w2 x μ ν q lv (.int (a - a2) :: st)) : Lz w1 w2 x μ ν pc lv (.int a2 :: .int a :: st) := by
  subst hq
  exact fun H locs ls hP hP2 hS hl => lv_isub C.1 C.2.1 hd (k H locs ls hP hP2 hS hl)
theorem z_iand (C : Lx w1 w2 x b L xs) {a a2 : Int32} {q : Nat} (hd : decode code pc = .ok (.iand, 1))  (hq : pc + 1 = q) (k : Lz w1 w2 x μ ν q lv (.int (a &&& a2) :: st)) : Lz w1 w2 x μ ν pc lv (.int a2 :: .int a :: st) := by
  subst hq
  exact fun H locs ls hP hP2 hS hl => lv_iand C.1 C.2.1 hd (k H locs ls hP hP2 hS hl)
theorem z_lcmp (C : Lx w1 w2 x b L xs) {a a2 : Int64} {q : Nat} (hd : decode code pc = .ok (.lcmp, 1))  (hq : pc + 1 = q) (k : Lz w1 w2 x μ ν q lv (.int (lg_cmp a a2) :: st)) : Lz w1 w2 x μ ν pc lv (.long a2 :: .long a :: st) := by
  subst hq
  exact fun H locs ls hP hP2 hS hl => W.lcmp C.1 C.2.1 hd (k H locs ls hP hP2 hS hl)
theorem z_iinc (C : Lx w1 w2 x b L xs) {i : Nat} {n : Int} {v : Int32} {q : Nat} (hd : decode code pc = .ok (.iinc i n, 3)) (hv : lgt lv i = some (.int v)) (hn : i < 4) (hq : pc + 3 = q) (k : Lz w1 w2 x μ ν q (lst lv i (.int (v + Int32.ofInt n))) st) : Lz w1 w2 x μ ν pc lv st := by
  subst hq
  intro H locs ls hP hP2 hS hl
  have h1 : lv_has ls 4 ((i, .int v) :: lv) := ⟨hl.1, hl.2.1, fun q hq => by
    rcases List.mem_cons.mp hq with e | h
    · subst e; exact lgt_has hl hv
    · exact hl.2.2 q h⟩
  refine lv_iinc C.1 C.2.1 hd h1 (k := 0) rfl rfl hn rfl (fun ls hl => k H locs ls hP hP2 hS ⟨hl.1, hl.2.1, fun q hq => hl.2.2 q ?_⟩)
  rcases List.mem_cons.mp hq with e | h
  · subst e; exact List.mem_cons_self
  · refine List.mem_cons_of_mem _ ?_
    have := List.mem_filter.mp h
    exact List.mem_filter.mpr ⟨List.mem_cons_of_mem _ this.1, this.2⟩
theorem z_goto (C : Lx w1 w2 x b L xs) {off : Int} (tgt : Nat) (hd : decode code pc = .ok (.goto off, 3)) (ht : (pc : Int) + off = (tgt : Int)) (k : Lz w1 w2 x μ ν tgt lv st) : Lz w1 w2 x μ ν pc lv st := fun H locs ls hP hP2 hS hl => lv_goto C.1 C.2.1 hd ht (k H locs ls hP hP2 hS hl)
theorem z_if_eq (C : Lx w1 w2 x b L xs) {a : Int32} {off : Int} (tgt q : Nat) (hd : decode code pc = .ok (.ifCond .eq off, 3)) (ht : (pc : Int) + off = (tgt : Int)) (hq : pc + 3 = q) (kt : a = 0 → Lz w1 w2 x μ ν tgt lv st) (kf : ¬ a = 0 → Lz w1 w2 x μ ν q lv st) : Lz w1 w2 x μ ν pc lv (.int a :: st) := by
  subst hq
  exact fun H locs ls hP hP2 hS hl => lv_if_eq C.1 C.2.1 hd ht (fun h => kt h H locs ls hP hP2 hS hl) (fun h => kf h H locs ls hP hP2 hS hl)
theorem z_icmp_eq (C : Lx w1 w2 x b L xs) {a a2 : Int32} {off : Int} (tgt q : Nat) (hd : decode code pc = .ok (.if_icmp .eq off, 3)) (ht : (pc : Int) + off = (tgt : Int)) (hq : pc + 3 = q) (kt : a = a2 → Lz w1 w2 x μ ν tgt lv st) (kf : ¬ a = a2 → Lz w1 w2 x μ ν q lv st) : Lz w1 w2 x μ ν pc lv (.int a2 :: .int a :: st) := by
  subst hq
  exact fun H locs ls hP hP2 hS hl => lv_icmp_eq C.1 C.2.1 hd ht (fun h => kt h H locs ls hP hP2 hS hl) (fun h => kf h H locs ls hP hP2 hS hl)
theorem z_icmp_gt (C : Lx w1 w2 x b L xs) {a a2 : Int32} {off : Int} (tgt q : Nat) (hd : decode code pc = .ok (.if_icmp .gt off, 3)) (ht : (pc : Int) + off = (tgt : Int)) (hq : pc + 3 = q) (kt : a2 < a → Lz w1 w2 x μ ν tgt lv st) (kf : ¬ a2 < a → Lz w1 w2 x μ ν q lv st) : Lz w1 w2 x μ ν pc lv (.int a2 :: .int a :: st) := by
  subst hq
  exact fun H locs ls hP hP2 hS hl => lv_icmp_gt C.1 C.2.1 hd ht (fun h => kt h H locs ls hP hP2 hS hl) (fun h => kf h H locs ls hP hP2 hS hl)
theorem z_tableOut (C : Lx w1 w2 x b L xs) {dflt lo hi : Int} {offs : Array Int} {len : Nat} {a : Int32} (tgt : Nat) (hd : decode code pc = .ok (.tableswitch dflt lo hi offs, len)) (h : a.toInt < lo ∨ hi < a.toInt) (ht : (pc : Int) + dflt = (tgt : Int)) (k : Lz w1 w2 x μ ν tgt lv st) : Lz w1 w2 x μ ν pc lv (.int a :: st) := fun H locs ls hP hP2 hS hl => lv_tableOut C.1 C.2.1 hd h ht (k H locs ls hP hP2 hS hl)
theorem z_tableIn (C : Lx w1 w2 x b L xs) {dflt lo hi : Int} {offs : Array Int} {len : Nat} {a a2 : Int32} {off : Int} (tgt : Nat) (hd : decode code pc = .ok (.tableswitch dflt lo hi offs, len)) (e : a = a2) (h1 : ¬ a2.toInt < lo) (h2 : ¬ hi < a2.toInt) (ho : offs[(a2.toInt - lo).toNat]? = some off) (ht : (pc : Int) + off = (tgt : Int)) (k : Lz w1 w2 x μ ν tgt lv st) : Lz w1 w2 x μ ν pc lv (.int a :: st) := by
  subst e
  exact fun H locs ls hP hP2 hS hl => lv_tableIn C.1 C.2.1 hd h1 h2 ho ht (k H locs ls hP hP2 hS hl)
theorem z_len (C : Lx w1 w2 x b L xs) {q : Nat} (hd : decode code pc = .ok (.arraylength, 1)) (hq : pc + 1 = q) (k : Lz w1 w2 x μ ν q lv (.int (nI L) :: st)) : Lz w1 w2 x μ ν pc lv (.ref b :: st) := by
  subst hq
  exact fun H locs ls hP hP2 hS hl => va_slen C.1 C.2.1 C.2.2.2.2.2.2.2.2.1 C.2.2.2.2.2.2.2.2.2.1 (Nat.not_le.mpr C.2.2.2.2.2.2.2.2.2.1) hS hd (k H locs ls hP hP2 hS hl)
theorem z_sld (C : Lx w1 w2 x b L xs) {q i : Nat} {a : Int32} (hd : decode code pc = .ok (.iaload, 1)) (ha : a = nI i) (hi : i < L) (hL : L ≤ 3072) (hq : pc + 1 = q) (k : Lz w1 w2 x μ ν q lv (.int (xs i) :: st)) : Lz w1 w2 x μ ν pc lv (.int a :: .ref b :: st) := by
  subst hq
  subst ha
  have e : xs i = xs (nI i).toNatClampNeg := by rw [nI_clamp (by omega)]
  rw [e] at k
  exact fun H locs ls hP hP2 hS hl => va_sld C.1 C.2.1 C.2.2.2.2.2.2.2.2.1 C.2.2.2.2.2.2.2.2.2.1 (Nat.not_le.mpr C.2.2.2.2.2.2.2.2.2.1) hS (vp_in_nI hi (by omega)) hd (k H locs ls hP hP2 hS hl)
/-- an argument out of the script -/
theorem z_arg (C : Lx w1 w2 x b L xs) {q i j : Nat} {v : Int} (hd1 : decode code pc = .ok (.aload_n 0, 1)) (hd2 : decode code (pc + 1) = .ok (.iload_n 3, 1)) (hd3 : decode code (pc + 2) = .ok (.iconst v, 1)) (hd4 : decode code (pc + 3) = .ok (.iadd, 1)) (hd5 : decode code (pc + 4) = .ok (.iaload, 1)) (hv : Int32.ofInt v = nI j) (h0 : lgt lv 0 = some (.ref b)) (h3 : lgt lv 3 = some (.int (nI i))) (hij : i + j < L) (hL : L ≤ 3072) (hq : pc + 5 = q) (k : Lz w1 w2 x μ ν q lv (.int (xs (i + j)) :: st)) : Lz w1 w2 x μ ν pc lv st := by
  subst hq
  refine z_aload_n C hd1 h0 rfl ?_
  refine z_iload_n C hd2 h3 rfl ?_
  refine z_iconst C hd3 hv rfl ?_
  refine z_iadd C hd4 rfl ?_
  exact z_sld C hd5 (nI_add i j) hij hL rfl k
variable {y : MethodName} {bb : ByteArray} {n ar idx ci N0 : Nat} {r : Option FieldType} {rmy : Room} {As : List Value} {Qc : Array Value → State → Outcome → State → Prop} {T : u_T} {fl : List (Unit ⊕ (Nat ⊕ Unit))}
theorem z_run (C : Lx w1 w2 x b L xs) (hw : Wk w x) (M : Mi y bb n r ar) (hM : Met (y_l x) y (WG y bb n r) rmy (va_Pc (.ref (w_ad w 0) :: As) (fun U => WU w m U)) Qc 0 0 (AA w)) (hk : 0 < w_N w) (hs : w_sh w 0 = shO ci fl) (hc : vwCl[ci]? = some (y.cls, T, N0)) (hl : Cond.methodLink "SundayVisitsLaw" idx y ∈ wg_ok) (hR : Rk room_1 n rmy) (ha : As.length = ar) (hr : (st.map fun v => v.category).sum ≤ 8) (hd : decode code pc = .ok (.invokevirtual idx, 3)) {H : Heap} {locs : List Loc} {ls : Array Slot} (hP : WP w m H) (hS : va_S (lA x) (y_s x).heap H locs) (hl0 : lv_has ls 4 lv) :
    va_Run (y_p x) (y_l x) (y_e x) (y_R x) (y_s x) (y_m x) (y_a x) (y_b x) (y_t x) (y_c x) H locs 600000 7302249 0 0 (F0 (y_m x) pc ls (As.reverse ++ .ref (w_ad w 0) :: st)) st (Qc (Value.ref (w_ad w 0) :: As).toArray) (AA w) := by
  have hts := C.2.2.2.2.1
  have hRR := C.2.2.2.2.2.1
  have h0 := wl_get (w := w) m hk
  rw [ce_O m hs] at h0
  refine va_runV (As := As) (rest := st) (C := y.cls) ⟨C.1, C.2.1, C.2.2.1, C.2.2.2.1, hts⟩ hM ⟨callB_of ar hts (wg_goodIn M.2.2.2.1) rfl hR.1 hR.2.1 (hts _ M.2.2.1) (hts _ hl) M.2.2.2.2 (by rw [hRR]; exact ⟨hR.2.2.1, hR.2.2.2⟩), hts _ M.1, hts _ M.2.1⟩ ⟨WU_blind w m _, va_recv hw.1 hP hc h0, fun U hU hW => ⟨rfl, by rw [hU]; exact hP, va_K.moved hW.alike hw.1, hw.2.1, hw.2.1.2 (y_s x) U hW (by rw [hU]; exact hS.1) (fun q h1 _ => by rw [hU]; exact hS.2.1 q h1 (Nat.not_le.mpr h1)) hw.2.2.1⟩⟩ rfl ha hl0.1 rfl (lv_room hr) hd ⟨by rw [hRR]; exact Nat.le_of_ble_eq_true rfl, by rw [hRR]; exact Nat.le_of_ble_eq_true rfl⟩
theorem z_i1 (C : Lx w1 w2 x b L xs) {post : Int32 → Me → Prop} {q : Nat} {st0 : List Value} (hd : decode code pc = .ok (.invokevirtual idx, 3)) (M : Mi y bb n r ar) (hM : CtI (y_l x) w1 y bb n r rmy (.ref (w_ad w1 0) :: As) μ post) (hst : st0 = As.reverse ++ .ref (w_ad w1 0) :: st) (hk : 0 < w_N w1) (hs : w_sh w1 0 = shO ci fl) (hc : vwCl[ci]? = some (y.cls, T, N0)) (hl : Cond.methodLink "SundayVisitsLaw" idx y ∈ wg_ok) (hR : Rk room_1 n rmy) (ha : As.length = ar) (hr : (st.map fun v => v.category).sum ≤ 8) (hq : pc + 3 = q) (k : ∀ (v : Int32) (μ' : Me), post v μ' → Lz w1 w2 x μ' ν q lv (.int v :: st)) : Lz w1 w2 x μ ν pc lv st0 := by
  subst hst
  subst hq
  intro H locs ls hP hP2 hS hl0
  exact va_calli (z_run C C.2.2.2.2.2.2.1 M hM hk hs hc hl hR ha hr hd hP hS hl0) hS (fun q _ h => C.2.2.2.2.2.2.1.2.2.2 q h) (fun q h => C.2.2.2.2.2.2.1.2.2.2 q h) (fun v u t H1 locs1 ht _ hp hB _ hk1 hS1 => k v u hp H1 locs1 ls (by rw [← ht]; exact hB) (WP_keep hP2 (fun q h1 h2 => hk1 q h1 (fun z => C.2.2.2.2.2.2.2.2.2.2 q z h2))) hS1 hl0)
theorem z_i2 (C : Lx w1 w2 x b L xs) {post : Int32 → Me → Prop} {q : Nat} {st0 : List Value} (hd : decode code pc = .ok (.invokevirtual idx, 3)) (M : Mi y bb n r ar) (hM : CtI (y_l x) w2 y bb n r rmy (.ref (w_ad w2 0) :: As) ν post) (hst : st0 = As.reverse ++ .ref (w_ad w2 0) :: st) (hk : 0 < w_N w2) (hs : w_sh w2 0 = shO ci fl) (hc : vwCl[ci]? = some (y.cls, T, N0)) (hl : Cond.methodLink "SundayVisitsLaw" idx y ∈ wg_ok) (hR : Rk room_1 n rmy) (ha : As.length = ar) (hr : (st.map fun v => v.category).sum ≤ 8) (hq : pc + 3 = q) (k : ∀ (v : Int32) (ν' : Me), post v ν' → Lz w1 w2 x μ ν' q lv (.int v :: st)) : Lz w1 w2 x μ ν pc lv st0 := by
  subst hst
  subst hq
  intro H locs ls hP hP2 hS hl0
  exact va_calli (z_run C C.2.2.2.2.2.2.2.1 M hM hk hs hc hl hR ha hr hd hP2 hS hl0) hS (fun q _ h => C.2.2.2.2.2.2.2.1.2.2.2 q h) (fun q h => C.2.2.2.2.2.2.2.1.2.2.2 q h) (fun v u t H1 locs1 ht _ hp hB _ hk1 hS1 => k v u hp H1 locs1 ls (WP_keep hP (fun q h1 h2 => hk1 q h1 (fun z => C.2.2.2.2.2.2.2.2.2.2 q h2 z))) (by rw [← ht]; exact hB) hS1 hl0)
theorem z_l1 (C : Lx w1 w2 x b L xs) {post : Int64 → Me → Prop} {q : Nat} {st0 : List Value} (hd : decode code pc = .ok (.invokevirtual idx, 3)) (M : Mi y bb n (some .long) ar) (hM : CtL (y_l x) w1 y bb n rmy (.ref (w_ad w1 0) :: As) μ post) (hst : st0 = As.reverse ++ .ref (w_ad w1 0) :: st) (hk : 0 < w_N w1) (hs : w_sh w1 0 = shO ci fl) (hc : vwCl[ci]? = some (y.cls, T, N0)) (hl : Cond.methodLink "SundayVisitsLaw" idx y ∈ wg_ok) (hR : Rk room_1 n rmy) (ha : As.length = ar) (hr : (st.map fun v => v.category).sum ≤ 8) (hq : pc + 3 = q) (k : ∀ (v : Int64) (μ' : Me), post v μ' → Lz w1 w2 x μ' ν q lv (.long v :: st)) : Lz w1 w2 x μ ν pc lv st0 := by
  subst hst
  subst hq
  intro H locs ls hP hP2 hS hl0
  exact va_calll (z_run C C.2.2.2.2.2.2.1 M hM hk hs hc hl hR ha hr hd hP hS hl0) hS (fun q _ h => C.2.2.2.2.2.2.1.2.2.2 q h) (fun q h => C.2.2.2.2.2.2.1.2.2.2 q h) (fun v u t H1 locs1 ht _ hp hB _ hk1 hS1 => k v u hp H1 locs1 ls (by rw [← ht]; exact hB) (WP_keep hP2 (fun q h1 h2 => hk1 q h1 (fun z => C.2.2.2.2.2.2.2.2.2.2 q z h2))) hS1 hl0)
theorem z_l2 (C : Lx w1 w2 x b L xs) {post : Int64 → Me → Prop} {q : Nat} {st0 : List Value} (hd : decode code pc = .ok (.invokevirtual idx, 3)) (M : Mi y bb n (some .long) ar) (hM : CtL (y_l x) w2 y bb n rmy (.ref (w_ad w2 0) :: As) ν post) (hst : st0 = As.reverse ++ .ref (w_ad w2 0) :: st) (hk : 0 < w_N w2) (hs : w_sh w2 0 = shO ci fl) (hc : vwCl[ci]? = some (y.cls, T, N0)) (hl : Cond.methodLink "SundayVisitsLaw" idx y ∈ wg_ok) (hR : Rk room_1 n rmy) (ha : As.length = ar) (hr : (st.map fun v => v.category).sum ≤ 8) (hq : pc + 3 = q) (k : ∀ (v : Int64) (ν' : Me), post v ν' → Lz w1 w2 x μ ν' q lv (.long v :: st)) : Lz w1 w2 x μ ν pc lv st0 := by
  subst hst
  subst hq
  intro H locs ls hP hP2 hS hl0
  exact va_calll (z_run C C.2.2.2.2.2.2.2.1 M hM hk hs hc hl hR ha hr hd hP2 hS hl0) hS (fun q _ h => C.2.2.2.2.2.2.2.1.2.2.2 q h) (fun q h => C.2.2.2.2.2.2.2.1.2.2.2 q h) (fun v u t H1 locs1 ht _ hp hB _ hk1 hS1 => k v u hp H1 locs1 ls (WP_keep hP (fun q h1 h2 => hk1 q h1 (fun z => C.2.2.2.2.2.2.2.2.2.2 q h2 z))) (by rw [← ht]; exact hB) hS1 hl0)
end LROWS
