/-! the law's first rows: both objects are made -/
def Bw (z : Bc) : Prop :=
  (y_p (b_x z)).tables.exec = Jvm.exec ∧ (y_c (b_x z)).code = code ∧ (y_c (b_x z)).maxLocals = 4 ∧ (y_s (b_x z)).vm.findClass "SundayVisitsLaw" = some (y_m (b_x z)).cls ∧ (∀ v ∈ wg_ok, v.before (y_a (b_x z)) (y_s (b_x z)) = true) ∧ va_K (b_D z) vwCl (tysC (b_c z)) (y_s (b_x z)) ∧ y_R (b_x z) = room_1 ∧ (∀ q, (y_s (b_x z)).heap.size ≤ q → b_A z q) ∧ Xi (y_s (b_x z))
section QROWS
variable {z : Bc} {ws : va_W} {cells slots pc : Nat} {lv : List (Nat × Value)} {st : List Value}
theorem q_new (C : Bw z) {Cn : String} {T : u_T} {N ci idx q : Nat} {ty : Nat → FieldType} {fs : List Value} (hd : decode code pc = .ok (.new idx, 3)) (hin : ∀ v ∈ u_ws Cn T N, v ∈ wg_ok) (hty : ∀ k, k < N → parseFieldDescriptor (T k).2.2.1 = some (ty k)) (hl : Cond.classLink "SundayVisitsLaw" idx Cn ∈ wg_ok) (hi : Cond.instantiable Cn N ∈ wg_ok) (hini : Cond.initialized Cn ∈ wg_ok) (hcl : vwCl[ci]? = some (Cn, T, N)) (hfs : ∀ j, j < N → defaultValue (ty j) = vp_V fs j) (hc : cells + 1 ≤ 600000) (hs : slots + N ≤ 7302249) (hq : pc + 3 = q) (k : ∀ a, Bz z 4 (ws ++ [(a, .inr (ci, fs))]) (cells + 1) (slots + N) q lv (.ref a :: st)) : Bz z 4 ws cells slots pc lv st := by
  subst hq
  intro H locs ls hP hD hS hl0
  have hR := C.2.2.2.2.2.2.1
  exact va_new (A := b_A z) (H0 := (y_s (b_x z)).heap) C.1 C.2.1 C.2.2.2.2.1 hin ty hty C.2.2.2.1 (C.2.2.2.2.1 _ hl) (C.2.2.2.2.1 _ hi) (C.2.2.2.2.1 _ hini) C.2.2.2.2.2.1 hP hD hS C.2.2.2.2.2.2.2.1 hcl hfs (by rw [hR]; exact hc) (by rw [hR]; exact hs) hd (fun a H1 hP1 hD1 hS1 => k a H1 locs ls hP1 hD1 hS1 hl0)
theorem q_call (C : Bw z) {y : MethodName} {b : ByteArray} {n ci a idx q : Nat} {rmy : Room} {fs : List Value} {B : Nat → va_W → Prop} (hd : decode code pc = .ok (.invokespecial idx, 3)) (M : Mk y b n) (hM : Kt (y_l (b_x z)) (b_D z) (b_c z) y b n rmy ci fs B) (hl : Cond.methodLink "SundayVisitsLaw" idx y ∈ wg_ok) (hf : rmy.frames + 1 ≤ 13) (hlo : 8 + (n + 11) + rmy.locals ≤ 484) (hr : (st.map fun v => v.category).sum ≤ 8) (hc : cells + rmy.cells ≤ 600000) (hs : slots + rmy.slots ≤ 7302249) (hq : pc + 3 = q) (k : ∀ w1, B a w1 → Bz z 4 (ws ++ w1) (cells + rmy.cells) (slots + rmy.slots) q lv st) : Bz z 4 (ws ++ [(a, .inr (ci, fs))]) cells slots pc lv (.ref a :: st) := by
  subst hq
  intro H locs ls hP hD hS hl0
  have hts := C.2.2.2.2.1
  have hRR := C.2.2.2.2.2.2.1
  have hF := last_F hD hS C.2.2.2.2.2.2.2.1
  refine va_callv (va_runI (As := []) (rest := st) ⟨C.1, C.2.1, C.2.2.1, C.2.2.2.1, hts⟩ (hM a H.size) ⟨callB_of 0 hts (wg_goodIn M.1) rfl rfl rfl (hts _ M.2.2.1) (hts _ hl) M.2.2.2.2 (by rw [hRR]; exact ⟨hf, hlo⟩), M.2.2.2.1, hts _ M.2.1⟩ ⟨KU_blind _ _ _ _ _ _ _, fun U hU hW => ⟨rfl, by rw [hU], by rw [hU]; exact last_P hP, va_K.moved hW.alike C.2.2.2.2.2.1, Xi.moved hW C.2.2.2.2.2.2.2.2⟩⟩ rfl rfl hl0.1 rfl (lv_room hr) hd ⟨by rw [hRR]; exact hc, by rw [hRR]; exact hs⟩) hS (fun q _ h => hF q h) hF (fun w1 t H1 locs1 ht _ hp hB _ hk1 hS1 => ?_)
  obtain ⟨hP1, hD1⟩ := hB
  rw [ht] at hP1
  obtain ⟨hP2, hD2⟩ := jn_L hP hD hk1 hF hP1 hD1
  exact k w1 hp H1 locs1 ls hP2 hD2 hS1 hl0
theorem q_dup (C : Bw z) {v : Value} {q : Nat} (hd : decode code pc = .ok (.dup, 1)) (hv : v.category = 1) (hq : pc + 1 = q) (k : Bz z 4 ws cells slots q lv (v :: v :: st)) : Bz z 4 ws cells slots pc lv (v :: st) := by
  subst hq
  exact fun H locs ls hP hD hS hl => lv_dup C.1 C.2.1 hd hv (k H locs ls hP hD hS hl)
theorem q_astore_n (C : Bw z) {n : Fin 4} {v : Nat} {q : Nat} (hd : decode code pc = .ok (.astore_n n, 1)) (hn : (n : Nat) < 4) (hq : pc + 1 = q) (k : Bz z 4 ws cells slots q (lst lv n (.ref v)) st) : Bz z 4 ws cells slots pc lv (.ref v :: st) := by
  subst hq
  exact fun H locs ls hP hD hS hl => lv_astore_n C.1 C.2.1 hd rfl hl hn rfl (fun ls hl => k H locs ls hP hD hS hl)
theorem q_istore_n (C : Bw z) {n : Fin 4} {v : Int32} {q : Nat} (hd : decode code pc = .ok (.istore_n n, 1)) (hn : (n : Nat) < 4) (hq : pc + 1 = q) (k : Bz z 4 ws cells slots q (lst lv n (.int v)) st) : Bz z 4 ws cells slots pc lv (.int v :: st) := by
  subst hq
  exact fun H locs ls hP hD hS hl => lv_istore_n C.1 C.2.1 hd rfl hl hn rfl (fun ls hl => k H locs ls hP hD hS hl)
theorem q_iconst (C : Bw z) {n : Int} {v : Int32} {q : Nat} (hd : decode code pc = .ok (.iconst n, 1)) (hv : Int32.ofInt n = v) (hq : pc + 1 = q) (k : Bz z 4 ws cells slots q lv (.int v :: st)) : Bz z 4 ws cells slots pc lv st := by
  subst hq
  exact fun H locs ls hP hD hS hl => lv_iconst C.1 C.2.1 hd hv (k H locs ls hP hD hS hl)
end QROWS
/-- the memories agree at the start -/
theorem rl_0 : Rl muS muM := by
  have hI : IvD (muM.1 1) := by
    refine ⟨⟨0, by omega, rfl⟩, ⟨0, by omega, rfl⟩, ⟨6, by omega, rfl⟩, ⟨11, by omega, rfl⟩, ⟨1, by omega, rfl⟩, ⟨4, by omega, by omega, rfl⟩, fun i hi => ?_, fun r hr => ?_, fun i hi => ?_⟩
    · refine ⟨0, by omega, ?_⟩
      rcases (show i = 0 ∨ i = 1 ∨ i = 2 ∨ i = 3 ∨ i = 4 ∨ i = 5 by omega) with rfl | rfl | rfl | rfl | rfl | rfl <;> rfl
    · exact absurd hr (by have e : dn (muM.1 1) = 0 := rfl; rw [e]; omega)
    · refine ⟨0, by omega, ?_⟩
      rcases (show i = 0 ∨ i = 1 ∨ i = 2 ∨ i = 3 ∨ i = 4 ∨ i = 5 ∨ i = 6 ∨ i = 7 ∨ i = 8 ∨ i = 9 by omega) with rfl | rfl | rfl | rfl | rfl | rfl | rfl | rfl | rfl | rfl <;> rfl
  refine ⟨⟨⟨rfl, rfl, rfl, fun i hi => ?_, fun i hi => ?_, fun i hi => ?_, fun r hr => ?_⟩, hI⟩, ⟨rfl, fun q => absurd rfl q⟩, fun p hp => rfl, ⟨fun _ => 0, 0, ⟨rfl, by omega, fun i hi => by omega⟩, ⟨rfl, by omega, fun i hi => by omega⟩⟩, fun s hs => ?_⟩
  · rcases (show i = 0 ∨ i = 1 ∨ i = 2 ∨ i = 3 by omega) with rfl | rfl | rfl | rfl <;> rfl
  · rcases (show i = 0 ∨ i = 1 ∨ i = 2 ∨ i = 3 ∨ i = 4 ∨ i = 5 by omega) with rfl | rfl | rfl | rfl | rfl | rfl <;> rfl
  · rcases (show i = 0 ∨ i = 1 ∨ i = 2 ∨ i = 3 ∨ i = 4 ∨ i = 5 ∨ i = 6 ∨ i = 7 ∨ i = 8 ∨ i = 9 by omega) with rfl | rfl | rfl | rfl | rfl | rfl | rfl | rfl | rfl | rfl <;> decide
  · exact absurd hr (by have e : dn (muM.1 1) = 0 := rfl; rw [e]; omega)
  · rcases (show s = 0 ∨ s = 1 ∨ s = 2 ∨ s = 3 by omega) with rfl | rfl | rfl | rfl <;> exact ⟨Or.inl rfl, ⟨0, by omega, rfl⟩, rfl, rfl, fun i hi => rfl⟩
/-- the worlds as the loop has them -/
abbrev adA (ad : Nat → Nat) (n : Nat) : Nat → Prop := fun q => ∃ k, k < n ∧ q = ad k
abbrev wS1 (D : va_G) (cA : Nat → ClassId) (ad : Nat → Nat) (fz : Option Nat) (sa sv : Nat → Nat) : WC := (shC, 52, ad, D, cA, XS fz sa sv (adA ad 52))
abbrev wM1 (D : va_G) (cA : Nat → ClassId) (ad : Nat → Nat) : WC := (shM, 11, ad, D, cA, fun _ => True)
theorem q_law {z : Bc} (C : Bw z) (hA : b_A z = lA (b_x z)) {ad ad2 : Nat → Nat} {fz : Option Nat} {sa sv : Nat → Nat} (hX : XS fz sa sv (lA (b_x z)) (y_s (b_x z))) {cells slots pc b L : Nat} {xs : Nat → Int32} (hXs : va_X b L xs (y_s (b_x z)) (y_s (b_x z)).heap) (hbl : b < (y_s (b_x z)).heap.size) {lv : List (Nat × Value)} {st : List Value} (hc : cells ≤ 600000) (hs : slots ≤ 7302249) (k : Lx (wS1 (b_D z) (b_c z) ad fz sa sv) (wM1 (b_D z) (b_c z) ad2) (b_x z) b L xs → Lz (wS1 (b_D z) (b_c z) ad fz sa sv) (wM1 (b_D z) (b_c z) ad2) (b_x z) muS muM pc lv st) : Bz z 4 (wl (wSv (b_D z) (b_c z) ad) muS ++ wl (wMd (b_D z) (b_c z) ad2) muM) cells slots pc lv st := by
  intro H locs ls hP hD hS hl
  have l1 : (wl (wSv (b_D z) (b_c z) ad) muS).length = 52 := wl_len _ _
  have g1 : ∀ i, i < 52 → (wl (wSv (b_D z) (b_c z) ad) muS ++ wl (wMd (b_D z) (b_c z) ad2) muM)[i]? = some (ad i, ce (wSv (b_D z) (b_c z) ad) muS i) := fun i hi => by
    rw [List.getElem?_append_left (by rw [l1]; exact hi)]
    exact wl_get (w := wSv (b_D z) (b_c z) ad) muS hi
  have g2 : ∀ i, i < 11 → (wl (wSv (b_D z) (b_c z) ad) muS ++ wl (wMd (b_D z) (b_c z) ad2) muM)[52 + i]? = some (ad2 i, ce (wMd (b_D z) (b_c z) ad2) muM i) := fun i hi => by
    rw [List.getElem?_append_right (by rw [l1]; omega), l1, Nat.add_sub_cancel_left]
    exact wl_get (w := wMd (b_D z) (b_c z) ad2) muM hi
  have hP1 : WP (wS1 (b_D z) (b_c z) ad fz sa sv) muS H := by
    intro i q hq
    have hi : i < 52 := by
      have := (List.getElem?_eq_some_iff.mp hq).1
      rwa [wl_len] at this
    refine hP i q ?_
    rw [List.getElem?_append_left (by rw [l1]; exact hi)]
    exact hq
  have hP2 : WP (wM1 (b_D z) (b_c z) ad2) muM H := by
    intro i q hq
    refine hP (52 + i) q ?_
    rw [List.getElem?_append_right (by rw [l1]; omega), l1, Nat.add_sub_cancel_left]
    exact hq
  have a1 : ∀ q, AA (wS1 (b_D z) (b_c z) ad fz sa sv) q → lA (b_x z) q := fun q hq => by
    obtain ⟨i, hi, e⟩ := hq
    rw [e, ← hA]
    exact hD.2 i _ (g1 i hi)
  have a2 : ∀ q, AA (wM1 (b_D z) (b_c z) ad2) q → lA (b_x z) q := fun q hq => by
    obtain ⟨i, hi, e⟩ := hq
    rw [e, ← hA]
    exact hD.2 _ _ (g2 i hi)
  have k1 : Wk (wS1 (b_D z) (b_c z) ad fz sa sv) (b_x z) := by
    refine ⟨C.2.2.2.2.2.1, ⟨fun i j hi hj e => hD.1 i j _ _ (g1 i hi) (g1 j hj) e, fun u U hW _ hq h => ?_⟩, XS.narrow (fun q h => a1 q h) hX, a1⟩
    exact XS.moved hW hq h
  have k2 : Wk (wM1 (b_D z) (b_c z) ad2) (b_x z) := by
    refine ⟨C.2.2.2.2.2.1, ⟨fun i j hi hj e => ?_, fun _ _ _ _ _ _ => trivial⟩, trivial, a2⟩
    have := hD.1 (52 + i) (52 + j) _ _ (g2 i hi) (g2 j hj) e
    omega
  have hx : Lx (wS1 (b_D z) (b_c z) ad fz sa sv) (wM1 (b_D z) (b_c z) ad2) (b_x z) b L xs := by
    refine ⟨C.1, C.2.1, C.2.2.1, C.2.2.2.1, C.2.2.2.2.1, C.2.2.2.2.2.2.1, k1, k2, hXs, hbl, fun q h1 h2 => ?_⟩
    obtain ⟨i, hi, e1⟩ := h1
    obtain ⟨j, hj, e2⟩ := h2
    have hi : i < 52 := hi
    have := hD.1 i (52 + j) _ _ (g1 i hi) (g2 j hj) (e1.symm.trans e2)
    omega
  refine W.widen (k := 600000) (n := 7302249) hc hs ?_
  rw [hA] at hS
  exact k hx H locs ls hP1 hP2 hS hl
theorem arr_of {s : State} {b : Nat} (hts : ∀ v ∈ wg_ok, v.before #[Value.ref b] s = true) (hi : Xi s) : ∃ cA : Nat → ClassId, ∀ (k : Nat) (q : ClassId × FieldType), (tysC cA)[k]? = some q → ArrOfT s q.1 q.2 ∧ va_RA s q.1 q.2 := by
  obtain ⟨c0, k0, m0, h01, h02, h03⟩ := Cond.arrayClass_spec (hts _ ar_int)
  obtain ⟨c1, k1, m1, h11, h12, h13⟩ := Cond.arrayClass_spec (hts _ ar_byte)
  obtain ⟨m2, c2, k2, h21, h22, h23, h24, h25⟩ := Cond.arrayOver_spec hi.1
  obtain ⟨m3, c3, k3, h31, h32, h33, h34, h35⟩ := Cond.arrayOver_spec hi.2.1
  refine ⟨fun k => if k = 0 then c0 else if k = 1 then c1 else if k = 2 then c2 else c3, fun k q hq => ?_⟩
  match k, hq with
  | 0, hq => cases hq; exact ⟨fun n z => ⟨fun k h => (by cases h), k0, h02, m0, h03⟩, h01⟩
  | 1, hq => cases hq; exact ⟨fun n z => ⟨fun k h => (by cases h), k1, h12, m1, h13⟩, h11⟩
  | 2, hq => cases hq; exact ⟨fun n z => ⟨fun k h => (by cases h), k2, h23, m2, h24⟩, k2, m2, h23, h24, h21, h25⟩
  | 3, hq => cases hq; exact ⟨fun n z => ⟨fun k h => (by cases h), k3, h33, m3, h34⟩, k3, m3, h33, h34, h31, h35⟩
  | k + 4, hq => simp at hq
theorem cls_of {s : State} {b : Nat} (hts : ∀ v ∈ wg_ok, v.before #[Value.ref b] s = true) : ∃ D : va_G, ∀ (c : Nat) (q : vw_C), vwCl[c]? = some q → u_Kn s q.1 q.2.1 q.2.2 (D.1 c) (D.2 c) := by
  obtain ⟨c0, i0, h0⟩ := u_known (C := RX0) (T := TX0) (N := 10) (n := 10) hts iw_X0 (hts _ is_X0)
  obtain ⟨c1, i1, h1⟩ := u_known (C := RX1) (T := TX1) (N := 5) (n := 5) hts iw_X1 (hts _ is_X1)
  obtain ⟨c2, i2, h2⟩ := u_known (C := RX2) (T := TX2) (N := 3) (n := 3) hts iw_X2 (hts _ is_X2)
  obtain ⟨c3, i3, h3⟩ := u_known (C := RX3) (T := TX3) (N := 6) (n := 6) hts iw_X3 (hts _ is_X3)
  obtain ⟨c4, i4, h4⟩ := u_known (C := RX4) (T := TX4) (N := 7) (n := 7) hts iw_X4 (hts _ is_X4)
  obtain ⟨c5, i5, h5⟩ := u_known (C := RX5) (T := TX5) (N := 17) (n := 17) hts iw_X5 (hts _ is_X5)
  refine ⟨(fun k => if k = 0 then c0 else if k = 1 then c1 else if k = 2 then c2 else if k = 3 then c3 else if k = 4 then c4 else c5, fun k => if k = 0 then i0 else if k = 1 then i1 else if k = 2 then i2 else if k = 3 then i3 else if k = 4 then i4 else i5), fun k q hq => ?_⟩
  match k, hq with
  | 0, hq => cases hq; exact h0
  | 1, hq => cases hq; exact h1
  | 2, hq => cases hq; exact h2
  | 3, hq => cases hq; exact h3
  | 4, hq => cases hq; exact h4
  | 5, hq => cases hq; exact h5
  | k + 6, hq => simp at hq
