/-! texts: rows for String constants, static fields, methods that give a reference -/
def Sf (w : WC) (q t n : Nat) (f : Nat → Int32) : Prop := ∀ U, w_X w U → va_O "java/lang/String" q (AA w) U U.heap ∧ va_OF "java/lang/String" "coder" "B" (.int 0) q (AA w) U U.heap ∧ va_OF "java/lang/String" "value" "[B" (.ref t) q (AA w) U U.heap ∧ va_T .byte t n (fun j => .int (f j)) (AA w) U U.heap
def Jz (w : WC) (fz : Option Nat) : Prop := ∀ U, w_X w U → va_Z "java/lang/String" "COMPACT_STRINGS" "Z" (.int 1) (AA w) U U.heap ∧ va_Z "jdk/internal/util/Preconditions" "SIOOBE_FORMATTER" "Ljava/util/function/BiFunction;" (va_rf fz) (AA w) U U.heap
abbrev QR (w : WC) (post : Nat → Me → Prop) : Array Value → State → Outcome → State → Prop := va_Qr (S := Me) (fun _ => True) (fun u a t => post a u ∧ WP w u t.heap) (AA w)
def CtR (l : Launch) (w : WC) (y : MethodName) (b : ByteArray) (n : Nat) (rt : Option FieldType) (rm : Room) (av : List Value) (μ : Me) (post : Nat → Me → Prop) : Prop := Met l y (WG y b n rt) rm (va_Pc av (fun U => WU w μ U)) (QR w post) 0 0 (AA w)
section VTXT
variable {w : WC} {x : Cy} {nL : Nat} {μ : Me} {pc q idx : Nat} {lv : List (Nat × Value)} {st : List Value} {cc : ByteArray} {own : String} {rt : Option FieldType} {rm : Room}
theorem v_gets (C : Cx w x cc nL own rt rm) {Cn n d : String} {v : Value} (hZ : ∀ U, w_X w U → va_Z Cn n d v (AA w) U U.heap) (hd : decode cc pc = .ok (.getstatic idx, 3)) (hl : Cond.fieldLink own idx Cn n d ∈ wg_ok) (hq : pc + 3 = q) (k : V w x nL μ q lv (v :: st)) : V w x nL μ pc lv st := by
  subst hq
  exact fun H locs ls hP hS hl0 => va_gets C.1 C.2.1 (hZ _ C.2.2.2.2.2.2.2.2.2.1) hS C.2.2.2.1 (C.2.2.2.2.1 _ hl) (fun _ h => h) hd (k H locs ls hP hS hl0)
theorem v_getO (C : Cx w x cc nL own rt rm) {Cn n d : String} {v : Value} {a : Nat} (hE : ∀ U, w_X w U → va_OF Cn n d v a (AA w) U U.heap) (hd : decode cc pc = .ok (.getfield idx, 3)) (hl : Cond.fieldLink own idx Cn n d ∈ wg_ok) (hq : pc + 3 = q) (k : V w x nL μ q lv (v :: st)) : V w x nL μ pc lv (.ref a :: st) := by
  subst hq
  exact fun H locs ls hP hS hl0 => vk_getf C.1 C.2.1 (hE _ C.2.2.2.2.2.2.2.2.2.1) hS C.2.2.2.1 (C.2.2.2.2.1 _ hl) (fun _ h => h) hd (k H locs ls hP hS hl0)
theorem v_tlen (C : Cx w x cc nL own rt rm) {t N : Nat} {f : Nat → Value} (hT : ∀ U, w_X w U → va_T .byte t N f (AA w) U U.heap) (hd : decode cc pc = .ok (.arraylength, 1)) (hq : pc + 1 = q) (k : V w x nL μ q lv (.int (nI N) :: st)) : V w x nL μ pc lv (.ref t :: st) := by
  subst hq
  exact fun H locs ls hP hS hl0 => va_tlen C.1 C.2.1 (hT _ C.2.2.2.2.2.2.2.2.2.1) hS rfl hd (k H locs ls hP hS hl0)
theorem v_tb (C : Cx w x cc nL own rt rm) {t N : Nat} {f : Nat → Int32} (hT : ∀ U, w_X w U → va_T .byte t N (fun j => .int (f j)) (AA w) U U.heap) {a : Int32} (hd : decode cc pc = .ok (.baload, 1)) (j : Nat) (ha : a = nI j) (hj : j < N) (hN : N < 2 ^ 31) (hq : pc + 1 = q) (k : V w x nL μ q lv (.int (f j) :: st)) : V w x nL μ pc lv (.int a :: .ref t :: st) := by
  subst hq
  subst ha
  have e := nI_clamp (n := j) (by omega)
  exact fun H locs ls hP hS hl0 => va_tb C.1 C.2.1 (hT _ C.2.2.2.2.2.2.2.2.2.1) hS (fun h => h.elim (nI_pos (by omega)) (fun h => by rw [e] at h; omega)) (by rw [e]) hd (k H locs ls hP hS hl0)
theorem v_ldcS (C : Cx w x cc nL own rt rm) {tx : String} {a : Nat} (hZ : ∀ U, w_X w U → vk_R own idx tx a U) (hd : decode cc pc = .ok (.ldc idx, 2)) (hq : pc + 2 = q) (k : V w x nL μ q lv (.ref a :: st)) : V w x nL μ pc lv st := by
  subst hq
  exact fun H locs ls hP hS hl0 => va_ldcS C.1 C.2.1 C.2.2.2.1 (hZ _ C.2.2.2.2.2.2.2.2.2.1) hd (k H locs ls hP hS hl0)
theorem v_nret {ty : FieldType} (C : Cx w x cc nL own (some ty) rm) {post : Int32 → Me → Prop} (hQ : y_Q x = MQ (y_b x) (QI w post) (y_a x) (y_s x) 0 0 (AA w)) {v : Int32} (hd : decode cc pc = .ok (.ireturn, 1)) (hn : narrow ty (.int v) = .int v) (h : post v μ) : V w x nL μ pc lv [.int v] := by
  intro H locs ls hP hS hl
  rw [hQ]
  exact W.zret C.1 C.2.1 C.2.2.2.2.2.1 hn (fun t ht _ => ⟨⟨v, μ, rfl, h, by show WP w μ t.heap; rw [ht]; exact hP⟩, hS.F ht⟩) hS.2.2 hd C.2.2.2.2.2.2.1
theorem v_rret {nm : String} (C : Cx w x cc nL own (some (.object nm)) rm) {post : Nat → Me → Prop} (hQ : y_Q x = MQ (y_b x) (QR w post) (y_a x) (y_s x) 0 0 (AA w)) {a : Nat} (hd : decode cc pc = .ok (.areturn, 1)) (h : post a μ) : V w x nL μ pc lv [.ref a] := by
  intro H locs ls hP hS hl
  rw [hQ]
  exact W.aret C.1 C.2.1 C.2.2.2.2.2.1 (Or.inl ⟨_, rfl⟩) (Or.inr ⟨_, rfl⟩) (fun t ht _ => ⟨⟨μ, a, rfl, trivial, h, by show WP w μ t.heap; rw [ht]; exact hP⟩, hS.F ht⟩) hS.2.2 hd C.2.2.2.2.2.2.1
variable {y : MethodName} {b : ByteArray} {n ar : Nat} {r : Option FieldType} {rmy : Room} {As : List Value} {Qc : Array Value → State → Outcome → State → Prop}
theorem v_iX (C : Cx w x cc nL own rt rm) {post : Int32 → Me → Prop} {a : Nat} {st0 : List Value} (hd : decode cc pc = .ok (.invokevirtual idx, 3)) (M : Mi y b n r ar) (hM : CtI (y_l x) w y b n r rmy (.ref a :: As) μ post) (hst : st0 = As.reverse ++ .ref a :: st) (ho : ∀ U, w_X w U → va_O y.cls a (AA w) U U.heap) (hl : Cond.methodLink own idx y ∈ wg_ok) (hR : Rk rm n rmy) (ha : As.length = ar) (hr : (st.map fun v => v.category).sum ≤ 8) (hq : pc + 3 = q) (k : ∀ (v : Int32) (μ' : Me), post v μ' → V w x nL μ' q lv (.int v :: st)) : V w x nL μ pc lv st0 := by
  subst hst
  refine v_ci (a := (Value.ref a :: As).toArray) hq (fun H locs ls hP hS hl0 => ?_) k
  have hts := C.2.2.2.2.1
  have hRR := C.2.2.2.2.2.2.2.2.2.2
  exact va_runV (As := As) (rest := st) (C := y.cls) ⟨C.1, C.2.1, C.2.2.1, C.2.2.2.1, hts⟩ hM ⟨callB_of ar hts (wg_goodIn M.2.2.2.1) rfl hR.1 hR.2.1 (hts _ M.2.2.1) (hts _ hl) M.2.2.2.2 (by rw [hRR]; exact ⟨hR.2.2.1, hR.2.2.2⟩), hts _ M.1, hts _ M.2.1⟩ ⟨WU_blind w μ _, va_Orecv (ho _ C.2.2.2.2.2.2.2.2.2.1) hS, fun U hU hW => ⟨rfl, WU_at C hP hS U hU hW⟩⟩ rfl ha hl0.1 rfl (lv_room hr) hd ⟨Nat.zero_le _, Nat.zero_le _⟩
theorem v_rS (C : Cx w x cc nL own rt rm) {post : Nat → Me → Prop} {st0 : List Value} (hd : decode cc pc = .ok (.invokestatic idx, 3)) (M : Ms y b n r ar) (hM : CtR (y_l x) w y b n r rmy As μ post) (hst : st0 = As.reverse ++ st) (hl : Cond.methodLink own idx y ∈ wg_ok) (hR : Rk rm n rmy) (ha : As.length = ar) (hr : (st.map fun v => v.category).sum ≤ 8) (hq : pc + 3 = q) (k : ∀ (a : Nat) (μ' : Me), post a μ' → V w x nL μ' q lv (.ref a :: st)) : V w x nL μ pc lv st0 := by
  subst hst
  subst hq
  intro H locs ls hP hS hl0
  exact va_callr (v_runS C M hM hl hR ha hr hd hP hS hl0) hS (fun q _ h => h) (fun q h => h) (fun u ra t H1 locs1 ht _ _ hB _ _ hS1 => k ra u hB.1 H1 locs1 ls (by rw [← ht]; exact hB.2) hS1 hl0)
end VTXT
/-! the tape as numbers -/
theorem eq_n {a b : Nat} (ha : a < 2 ^ 31) (hb : b < 2 ^ 31) : nI a = nI b ↔ a = b := ⟨fun h => by have := congrArg Int32.toNatClampNeg h; rwa [nI_clamp ha, nI_clamp hb] at this, fun h => by rw [h]⟩
def nb (v : Int32) : Nat := if 0 ≤ v ∧ v < 128 then v.toNatClampNeg else 128
theorem nb_n {c : Nat} (h : c < 128) : nb (nI c) = c := by
  unfold nb
  rw [if_pos ⟨nI_pos' (by omega), (lt_n (a := c) (b := 128) (by omega) (by decide)).mpr h⟩, nI_clamp (by omega)]
theorem nb_c (v : Int32) : (nb v < 128 ∧ v = nI (nb v)) ∨ (nb v = 128 ∧ ¬ (0 ≤ v ∧ v < 128)) := by
  by_cases h : 0 ≤ v ∧ v < 128
  · left
    have e : v = nI v.toNatClampNeg := by
      have h0 := Int32.le_iff_toInt_le.mp h.1
      apply Int32.toInt_inj.mp
      rw [show nI v.toNatClampNeg = Int32.ofNat v.toNatClampNeg from rfl, Int32.toInt_ofNat_of_lt (by have := v.toInt_lt; unfold Int32.toNatClampNeg; omega)]
      unfold Int32.toNatClampNeg
      have : (0 : Int32).toInt = 0 := rfl
      omega
    have hl : v.toNatClampNeg < 128 := by
      rw [e] at h
      have hb : v.toNatClampNeg < 2 ^ 31 := by have := v.toInt_lt; unfold Int32.toNatClampNeg; omega
      exact (lt_n (a := v.toNatClampNeg) (b := 128) hb (by decide)).mp h.2
    have e2 : nb v = v.toNatClampNeg := if_pos h
    rw [e2]
    exact ⟨hl, e⟩
  · right
    exact ⟨if_neg h, h⟩
theorem nb_eq {v : Int32} {c : Nat} (hc : c < 128) : v = nI c ↔ nb v = c := by
  constructor
  · intro h; rw [h, nb_n hc]
  · intro h
    rcases nb_c v with ⟨_, e⟩ | ⟨e, _⟩
    · rw [e, h]
    · omega
def ty (c : Nat) : Nat := if 97 ≤ c ∧ c ≤ 122 then 1 else if 48 ≤ c ∧ c ≤ 57 then 2 else if c = 59 then 3 else 4
theorem nb_r {v : Int32} {c d : Nat} (hc : 0 < c) (hcd : c < 128) (hd : d < 128) : (nI c ≤ v ∧ v ≤ nI d) ↔ (c ≤ nb v ∧ nb v ≤ d) := by
  rcases nb_c v with ⟨h, e⟩ | ⟨e, h⟩
  · have e1 := le_n (a := c) (b := nb v) (by omega) (by omega)
    have e2 := le_n (a := nb v) (b := d) (by omega) (by omega)
    rw [← e] at e1 e2
    rw [e1, e2]
  · constructor
    · intro ⟨h1, h2⟩
      exact absurd ⟨Int32.le_trans (nI_pos' (n := c) (by omega)) h1, Int32.lt_of_le_of_lt h2 ((lt_n (a := d) (b := 128) (by omega) (by decide)).mpr hd)⟩ h
    · omega
/-- the first place from p on where P ends -/
def fi (P : Nat → Bool) : Nat → Nat → Nat
  | 0, p => p
  | m + 1, p => if P p then fi P m (p + 1) else p
theorem fi_u {P : Nat → Bool} : ∀ {m p q : Nat}, p ≤ q → q ≤ p + m → (∀ i, p ≤ i → i < q → P i = true) → P q = false → fi P m p = q
  | 0, p, q, h1, h2, _, _ => by show p = q; omega
  | m + 1, p, q, h1, h2, h3, h4 => by
    unfold fi
    by_cases h : p = q
    · subst h; rw [if_neg (by rw [h4]; decide)]
    · rw [if_pos (h3 p (by omega) (by omega))]
      exact fi_u (by omega) (by omega) (fun i a b => h3 i (by omega) b) h4
theorem fi_s (P : Nat → Bool) : ∀ (m p : Nat), p ≤ fi P m p ∧ fi P m p ≤ p + m ∧ (∀ i, p ≤ i → i < fi P m p → P i = true) ∧ (fi P m p < p + m → P (fi P m p) = false)
  | 0, p => ⟨Nat.le_refl _, Nat.le_refl _, fun i a b => by have : i < p := b; omega, fun h => by have : p < p + 0 := h; omega⟩
  | m + 1, p => by
    unfold fi
    by_cases h : P p = true
    · rw [if_pos h]
      obtain ⟨a, b, c, d⟩ := fi_s P m (p + 1)
      refine ⟨by omega, by omega, fun i hi hj => ?_, fun h => d (by omega)⟩
      by_cases e : i = p
      · subst e; exact h
      · exact c i (by omega) hj
    · rw [if_neg h]
      exact ⟨Nat.le_refl _, by omega, fun i a b => by omega, fun _ => by simpa using h⟩
/-- a token behind place p: where it begins, its sort, where it ends, its number -/
def tB (a : Nat → Nat) (n p : Nat) : Nat := fi (fun i => decide (i < n) && decide (a i = 32)) 121 p
def tT (a : Nat → Nat) (n p : Nat) : Nat := if tB a n p < n then ty (a (tB a n p)) else 0
def tE (a : Nat → Nat) (n p : Nat) : Nat := if tT a n p = 3 then tB a n p + 1 else fi (fun i => decide (i < n) && decide (ty (a i) = tT a n p)) 121 (tB a n p)
def nvC (a : Nat → Nat) (b : Nat) : Nat → Nat
  | 0 => 0
  | k + 1 => if 10000 < nvC a b k * 10 + (a (b + k) - 48) then 10000 else nvC a b k * 10 + (a (b + k) - 48)
def nvM (a : Nat → Nat) (b : Nat) : Nat → Nat
  | 0 => 0
  | k + 1 => if 9999 < nvM a b k then nvM a b k else nvM a b k * 10 + (a (b + k) - 48)
def wv (a : Nat → Nat) (b : Nat) : Nat → Nat
  | 0 => 0
  | k + 1 => if 100000000000000000 < wv a b k then wv a b k else wv a b k * 27 + (a (b + k) - 96)
def tV (a : Nat → Nat) (n p : Nat) : Nat := nvC a (tB a n p) (tE a n p - tB a n p)
def Wd (a : Nat → Nat) (n p : Nat) (ws : List Nat) : Bool := decide (tT a n p = 1 ∧ tE a n p - tB a n p = ws.length ∧ ∀ j, j < ws.length → a (tB a n p + j) = ws.getD j 0)
theorem Wd_i {a : Nat → Nat} {n p : Nat} {ws : List Nat} : Wd a n p ws = true ↔ (tT a n p = 1 ∧ tE a n p - tB a n p = ws.length ∧ ∀ j, j < ws.length → a (tB a n p + j) = ws.getD j 0) := decide_eq_true_iff
theorem ty_r (c : Nat) : 1 ≤ ty c ∧ ty c ≤ 4 := by unfold ty; split; omega; split; omega; split <;> omega
theorem tB_s {a : Nat → Nat} {n p : Nat} (hn : n ≤ 120) (hp : p ≤ n) : p ≤ tB a n p ∧ tB a n p ≤ n := by
  obtain ⟨h1, h2, h3, h4⟩ := fi_s (fun i => decide (i < n) && decide (a i = 32)) 121 p
  refine ⟨h1, ?_⟩
  rcases Nat.lt_or_ge n (tB a n p) with h | h
  · have := h3 n hp h
    simp at this
  · exact h
theorem tB_u {a : Nat → Nat} {n p b : Nat} (hn : n ≤ 120) (h1 : p ≤ b) (h2 : b ≤ n) (h3 : ∀ i, p ≤ i → i < b → a i = 32) (h4 : b = n ∨ a b ≠ 32) : tB a n p = b := by
  refine fi_u h1 (by omega) (fun i x y => ?_) ?_
  · simp [h3 i x y]; omega
  · rcases h4 with h | h
    · simp [h]
    · simp [h]
theorem tT_r (a : Nat → Nat) (n p : Nat) : tT a n p ≤ 4 := by
  unfold tT
  split
  · exact (ty_r _).2
  · omega
theorem tE_u {a : Nat → Nat} {n p e : Nat} (hn : n ≤ 120) (h3 : tT a n p ≠ 3) (h1 : tB a n p ≤ e) (h2 : e ≤ n) (h4 : ∀ i, tB a n p ≤ i → i < e → ty (a i) = tT a n p) (h5 : e = n ∨ ty (a e) ≠ tT a n p) : tE a n p = e := by
  unfold tE
  rw [if_neg h3]
  refine fi_u h1 (by omega) (fun i x y => ?_) ?_
  · simp [h4 i x y]; omega
  · rcases h5 with h | h
    · simp [h]
    · simp [h]
theorem tE_s {a : Nat → Nat} {n p : Nat} (hn : n ≤ 120) (hp : p ≤ n) : tB a n p ≤ tE a n p ∧ tE a n p ≤ n ∧ (tT a n p ≠ 0 → tB a n p < tE a n p) ∧ (tT a n p ≠ 3 → ∀ i, tB a n p ≤ i → i < tE a n p → ty (a i) = tT a n p) := by
  obtain ⟨hb1, hb2⟩ := tB_s (a := a) hn hp
  by_cases h3 : tT a n p = 3
  · have hl : tB a n p < n := by
      unfold tT at h3
      by_cases h : tB a n p < n
      · exact h
      · rw [if_neg h] at h3; omega
    have e : tE a n p = tB a n p + 1 := if_pos h3
    rw [e]
    exact ⟨by omega, by omega, fun _ => by omega, fun h => absurd h3 h⟩
  · have e : tE a n p = fi (fun i => decide (i < n) && decide (ty (a i) = tT a n p)) 121 (tB a n p) := if_neg h3
    obtain ⟨h1, h2, h5, h4⟩ := fi_s (fun i => decide (i < n) && decide (ty (a i) = tT a n p)) 121 (tB a n p)
    rw [← e] at h1 h2 h5 h4
    have hle : tE a n p ≤ n := by
      rcases Nat.lt_or_ge n (tE a n p) with h | h
      · have := h5 n hb2 h
        simp at this
      · exact h
    refine ⟨h1, hle, fun h0 => ?_, fun _ i x y => ?_⟩
    · rcases Nat.lt_or_ge (tB a n p) (tE a n p) with h | h
      · exact h
      · have e2 : tE a n p = tB a n p := by omega
        have := h4 (by omega)
        rw [e2] at this
        have hl : tB a n p < n := by
          by_cases h : tB a n p < n
          · exact h
          · exact absurd (if_neg h) h0
        have et : tT a n p = ty (a (tB a n p)) := if_pos hl
        simp [hl, et] at this
    · have := h5 i x y
      simp at this
      exact this.2
theorem nvC_r (a : Nat → Nat) (b : Nat) : ∀ k, nvC a b k ≤ 10000
  | 0 => by unfold nvC; omega
  | k + 1 => by unfold nvC; split <;> omega
theorem nvM_r {a : Nat → Nat} {b : Nat} : ∀ {k : Nat}, (∀ i, i < k → a (b + i) ≤ 57) → nvM a b k ≤ 99999 ∧ nvC a b k = (if 9999 < nvM a b k then 10000 else nvM a b k)
  | 0, _ => ⟨by unfold nvM; omega, rfl⟩
  | k + 1, h => by
    obtain ⟨h1, h2⟩ := nvM_r (k := k) (fun i hi => h i (by omega))
    have hk := h k (by omega)
    unfold nvM nvC
    rw [h2]
    by_cases q : 9999 < nvM a b k
    · rw [if_pos q, if_pos q]
      refine ⟨h1, ?_⟩
      rw [if_pos (by omega)]
    · rw [if_neg q, if_neg q]
      refine ⟨by omega, ?_⟩
      by_cases q2 : 9999 < nvM a b k * 10 + (a (b + k) - 48)
      · rw [if_pos q2]
        by_cases q3 : 10000 < nvM a b k * 10 + (a (b + k) - 48)
        · rw [if_pos q3]
        · rw [if_neg q3]; omega
      · rw [if_neg q2, if_neg (by omega)]
/-- a word's number tells its letters -/
def wn (c : Nat → Nat) : Nat → Nat
  | 0 => 0
  | k + 1 => wn c k * 27 + (c k - 96)
theorem wv_i {a : Nat → Nat} {b : Nat} {c : Nat → Nat} : ∀ {k m : Nat}, (∀ i, i < k → ty (a (b + i)) = 1) → (∀ i, i < m → ty (c i) = 1) → wn c m ≤ 100000000000000000 → wv a b k = wn c m → k = m ∧ ∀ i, i < k → a (b + i) = c i
  | 0, 0, _, _, _, _ => ⟨rfl, fun i h => by omega⟩
  | 0, m + 1, _, h2, _, h4 => by
    exfalso
    have := h2 m (by omega)
    unfold wv wn at h4
    unfold ty at this
    split at this
    · omega
    · split at this; omega; split at this <;> omega
  | k + 1, 0, h1, _, _, h4 => by
    exfalso
    have := h1 k (by omega)
    unfold wv wn at h4
    unfold ty at this
    split at this
    · split at h4 <;> omega
    · split at this; omega; split at this <;> omega
  | k + 1, m + 1, h1, h2, h3, h4 => by
    have k1 := h1 k (by omega)
    have k2 := h2 m (by omega)
    have e1 : 97 ≤ a (b + k) ∧ a (b + k) ≤ 122 := by
      unfold ty at k1
      split at k1
      · assumption
      · split at k1; omega; split at k1 <;> omega
    have e2 : 97 ≤ c m ∧ c m ≤ 122 := by
      unfold ty at k2
      split at k2
      · assumption
      · split at k2; omega; split at k2 <;> omega
    unfold wn at h3 h4
    unfold wv at h4
    by_cases q : 100000000000000000 < wv a b k
    · rw [if_pos q] at h4; omega
    · rw [if_neg q] at h4
      have e : wv a b k = wn c m ∧ a (b + k) = c m := by omega
      obtain ⟨i1, i2⟩ := wv_i (k := k) (m := m) (fun i hi => h1 i (by omega)) (fun i hi => h2 i (by omega)) (by omega) e.1
      refine ⟨by omega, fun i hi => ?_⟩
      by_cases z : i = k
      · subst z; rw [e.2, i1]
      · exact i2 i (by omega)
theorem wv_w {a : Nat → Nat} {b : Nat} {c : Nat → Nat} : ∀ {k : Nat}, (∀ i, i < k → a (b + i) = c i) → wn c k ≤ 100000000000000000 → wv a b k = wn c k
  | 0, _, _ => rfl
  | k + 1, h, h3 => by
    have h3' : wn c k ≤ 100000000000000000 := by unfold wn at h3; omega
    have ih := wv_w (k := k) (fun i hi => h i (by omega)) h3'
    unfold wv wn
    rw [ih, if_neg (by omega), h k (by omega)]
theorem wv_r {a : Nat → Nat} {b : Nat} : ∀ {k : Nat}, (∀ i, i < k → a (b + i) ≤ 122) → wv a b k ≤ 2700000000000000026
  | 0, _ => by unfold wv; omega
  | k + 1, h => by
    have := wv_r (k := k) (fun i hi => h i (by omega))
    have := h k (by omega)
    unfold wv
    split <;> omega
/-! the words of a text -/
def wdT : List (List Nat) := [[108, 105, 118, 101, 108, 121], [115, 108, 101, 101, 112, 101, 114], [118, 97, 103, 117, 101], [100, 114, 101, 97, 109, 101, 114], [119, 97, 116, 99, 104, 101, 114], [103, 114, 97, 110, 110, 121], [114, 101, 115, 105, 100, 101, 110, 116], [109, 111, 111, 100], [102, 114, 105, 101, 110, 100], [119, 97, 105, 116, 115], [99, 104, 97, 105, 114, 115], [99, 97, 107, 101], [118, 111, 108, 117, 110, 116, 101, 101, 114, 115], [108, 111, 110, 103], [118, 105, 115, 105, 116, 115]]
def wdI (i : Nat) : Nat := [125, 127, 129, 131, 133, 135, 137, 68, 74, 76, 139, 141, 143, 145, 53].getD i 0
def wdS (i : Nat) : String := ["lively", "sleeper", "vague", "dreamer", "watcher", "granny", "resident", "mood", "friend", "waits", "chairs", "cake", "volunteers", "long", "visits"].getD i ""
def wdW (i : Nat) : List Nat := wdT.getD i []
def wdF (i j : Nat) : Int32 := nI ((wdW i).getD j 0)
def Tx (w : WC) (sa sv : Nat → Nat) : Prop := ∀ i, i < 15 → Sf w (sa i) (sv i) (wdW i).length (wdF i) ∧ ∀ U, w_X w U → vk_R RX3 (wdI i) (wdS i) (sa i) U
theorem wd_ty0 : (List.range 15).all (fun i => decide ((wdW i).length ≤ 10) && (List.range 10).all (fun j => decide ((wdW i).length ≤ j) || decide (ty ((wdW i).getD j 0) = 1))) = true := by decide +kernel
theorem wd_ty {i : Nat} (hi : i < 15) : (wdW i).length ≤ 10 ∧ ∀ j, j < (wdW i).length → ty ((wdW i).getD j 0) = 1 := by
  have h := List.all_eq_true.mp wd_ty0 i (List.mem_range.mpr hi)
  rw [Bool.and_eq_true, decide_eq_true_iff] at h
  refine ⟨h.1, fun j hj => ?_⟩
  have h2 := List.all_eq_true.mp h.2 j (List.mem_range.mpr (by omega))
  rw [Bool.or_eq_true, decide_eq_true_iff, decide_eq_true_iff] at h2
  omega
theorem ty_1 {c : Nat} : ty c = 1 ↔ 97 ≤ c ∧ c ≤ 122 := by
  unfold ty
  split
  · simp_all
  · split
    · simp_all
    · split <;> simp_all
theorem ty_2 {c : Nat} : ty c = 2 ↔ 48 ≤ c ∧ c ≤ 57 := by
  unfold ty
  split
  · rename_i h; simp; omega
  · split
    · simp_all
    · split <;> simp_all
abbrev Pr (q : Nat) (m : Me) : Nat → Me → Prop := fun r u => r = q ∧ u = m
theorem pr_k {w : WC} {x : Cy} {nL q : Nat} {lv : List (Nat × Value)} {st : List Value} {e : Nat} {m : Me} (k : V w x nL m q lv (.ref e :: st)) : ∀ (v : Nat) (u : Me), Pr e m v u → V w x nL u q lv (.ref v :: st) := fun v u h => by obtain ⟨h1, h2⟩ := h; subst h1; subst h2; exact k
theorem shr_0 (a : Int32) : a >>> ((0 : Int32) &&& 31) = a := by rw [show (0 : Int32) &&& 31 = 0 from by decide]; simp
theorem ch_0 : (List.range 128).all (fun c => decide (((nI c &&& 255).toUInt32 % 65536).toInt32 = nI c)) = true := by decide +kernel
theorem ch_c {c : Nat} (h : c < 128) : ((nI c &&& 255).toUInt32 % 65536).toInt32 = nI c := by
  have := List.all_eq_true.mp ch_0 c (List.mem_range.mpr h)
  exact decide_eq_true_iff.mp this
theorem ch_n {c : Nat} (h : c < 128) : narrow .char (.int (nI c)) = .int (nI c) := by
  show Value.int _ = _
  congr 1
  have e := ch_c h
  have e2 : nI c &&& 255 = nI c := by
    have : (List.range 128).all (fun c => decide (nI c &&& 255 = nI c)) = true := by decide +kernel
    exact decide_eq_true_iff.mp (List.all_eq_true.mp this c (List.mem_range.mpr h))
  rw [e2] at e
  exact e
