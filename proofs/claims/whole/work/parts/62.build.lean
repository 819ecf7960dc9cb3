theorem b_ret2 {z : Bc} {nL : Nat} {ws : va_W} {cells slots pc : Nat} {lv : List (Nat × Value)} {cc : ByteArray} {own : String} {rm : Room} (C : Bx z cc nL own rm) {B : va_W → Prop} {D : va_G} (hDD : b_D z = D) (hQ : y_Q (b_x z) = MQ (y_b (b_x z)) (va_Qv (S := va_W) B (fun w1 t => va_P D vwCl w1 t.heap ∧ va_D (b_A z) w1) (b_A z)) (y_a (b_x z)) (y_s (b_x z)) rm.cells rm.slots (b_A z)) (hd : decode cc pc = .ok (.return_, 1)) {w1 : va_W} (hs : ∀ H, va_P (b_D z) vwCl ws H → va_P (b_D z) vwCl w1 H) (hn : va_D (b_A z) ws → va_D (b_A z) w1) (hB : B w1) (hc : cells ≤ rm.cells) (hsl : slots ≤ rm.slots) : Bz z nL ws cells slots pc lv [] := by
  intro H locs ls hP hD hS hl
  subst hDD
  rw [hQ]
  refine W.widen (k := rm.cells) (n := rm.slots) hc hsl ?_
  exact W.vret C.1 C.2.1 C.2.2.2.2.2.1 (fun t ht _ => ⟨⟨w1, rfl, hB, by rw [ht]; exact hs H hP, hn hD⟩, hS.F ht⟩) hS.2.2 hd C.2.2.2.2.2.2.1
theorem arr_cg {D : va_G} {a n : Nat} {c : ClassId} {f g : Nat → Option Nat} {H : Heap} (h : ∀ i, i < n → f i = g i) (h0 : va_at D vwCl (a, .inl (c, n, .inr (.inr (.inr (.inr f))))) H) : va_at D vwCl (a, .inl (c, n, .inr (.inr (.inr (.inr g))))) H := by
  have h1 : H[a]? = some (vp_cell c (n, .inr (.inr (.inr (.inr f))))) := h0
  show H[a]? = some (vp_cell c (n, .inr (.inr (.inr (.inr g)))))
  rw [h1]
  congr 1
  simp only [vp_cell]
  exact arrV_cg (fun i hi => by simp only [h i hi])
/-- a home's cells in a larger world -/
theorem emb {D : va_G} {cA : Nat → ClassId} {ad1 : Nat → Nat} {H : Heap} {w : WC} {μ : Me} {b : Nat} (hP : va_P D vwCl (wl (wHm D cA ad1) muH) H) (hc : w_cA w = cA) (hs : ∀ i, i < 13 → w_sh w (b + i) = shHome b i) (ha : ∀ i, i < 13 → w_ad w (b + i) = ad1 i) (hm : ∀ i, i < 13 → μ.1 (b + i) = muH.1 i) {i : Nat} (hi : i < 13) : va_at D vwCl (w_ad w (b + i), ce w μ (b + i)) H := by
  have h : va_at D vwCl (ad1 i, ceS (wHm D cA ad1) muH i (shHome 0 i)) H := hP i _ (wl_get (w := wHm D cA ad1) muH hi)
  have m0 := hm i hi
  rw [ha i hi]
  unfold ce
  rw [hs i hi]
  have a1 := ha 1 (by decide)
  have a2 := ha 2 (by decide)
  have a3 := ha 3 (by decide)
  have a4 := ha 4 (by decide)
  by_cases q0 : i = 0
  · subst q0
    have e : ceS w μ (b + 0) (shHome b 0) = .inr (0, [.ref (w_ad w (b + 1)), .ref (w_ad w (b + 2)), .ref (w_ad w (b + 3)), .int (μ.1 (b + 0) 3), .int (μ.1 (b + 0) 4), .int (μ.1 (b + 0) 5), .ref (w_ad w (b + 4)), .int (μ.1 (b + 0) 7), .int (μ.1 (b + 0) 8), .int (μ.1 (b + 0) 9)]) := rfl
    rw [e, a1, a2, a3, a4, m0]
    exact h
  · by_cases q3 : i = 3
    · subst q3
      have e : ceS w μ (b + 3) (shHome b 3) = .inl (w_cA w 2, 8, .inr (.inr (.inr (.inr (fun j => some (w_ad w (b + 5 + j))))))) := rfl
      rw [e, hc]
      refine arr_cg (f := fun j => some (ad1 (0 + 5 + j))) (fun j hj => ?_) h
      rw [show b + 5 + j = b + (5 + j) by omega, ha (5 + j) (by omega), Nat.zero_add]
    · rcases (show i = 1 ∨ i = 2 ∨ i = 4 ∨ i = 5 ∨ i = 6 ∨ i = 7 ∨ i = 8 ∨ i = 9 ∨ i = 10 ∨ i = 11 ∨ i = 12 by omega) with q | q | q | q | q | q | q | q | q | q | q <;> subst q
      · have e : ceS w μ (b + 1) (shHome b 1) = .inl (w_cA w 0, 4, .inl (μ.1 (b + 1))) := rfl
        rw [e, hc, m0]; exact h
      · have e : ceS w μ (b + 2) (shHome b 2) = .inl (w_cA w 0, 6, .inl (μ.1 (b + 2))) := rfl
        rw [e, hc, m0]; exact h
      · have e : ceS w μ (b + 4) (shHome b 4) = .inl (w_cA w 0, 10, .inl (μ.1 (b + 4))) := rfl
        rw [e, hc, m0]; exact h
      all_goals
        have e : ∀ x, ceS w μ x (shO 1 [sI, sI, sI, sI, sI]) = .inr (1, [.int (μ.1 x 0), .int (μ.1 x 1), .int (μ.1 x 2), .int (μ.1 x 3), .int (μ.1 x 4)]) := fun x => rfl
        rw [show ∀ j, shHome b (j + 5) = shO 1 [sI, sI, sI, sI, sI] from fun j => rfl, e, m0]
        exact h
def adS (h0 : Nat) (ad1 ad2 ad3 : Nat → Nat) (l : List Nat) (k : Nat) : Nat := if k = 0 then h0 else if k < 14 then ad1 (k - 1) else if k < 27 then ad2 (k - 14) else if k < 40 then ad3 (k - 27) else l.getD (k - 40) 0
def muS : Me := (fun k => if k = 0 then fun _ => 0 else if k < 14 then muH.1 (k - 1) else if k < 27 then muH.1 (k - 14) else if k < 40 then muH.1 (k - 27) else fun _ => 0, 0)
abbrev wSv (D : va_G) (cA : Nat → ClassId) (ad : Nat → Nat) : WC := (shC, 52, ad, D, cA, fun _ => True)
abbrev svW (D : va_G) (cA : Nat → ClassId) (h0 : Nat) (ad1 ad2 ad3 : Nat → Nat) (tp bt sa s0 n0 s1 n1 s2 n2 s3 n3 fo : Nat) : va_W := (((([(h0, .inr (4, [.ref (ad1 0), .ref (ad2 0), .ref (ad3 0), .int 0, .ref tp, .ref sa, .ref fo]))] ++ wl (wHm D cA ad1) muH) ++ wl (wHm D cA ad2) muH) ++ wl (wHm D cA ad3) muH) ++ [(tp, .inr (3, [.ref bt, .int 0, .int 0, .int 0, .int 0, .int 0])), (bt, .inl (cA 0, 120, .inl (fun _ => 0))), (sa, .inl (cA 3, 4, .inr (.inr (.inr (.inr (va_up (va_up (va_up (va_up (fun _ => none) 0 (some s0)) 1 (some s1)) 2 (some s2)) 3 (some s3))))))), (s0, .inr (2, [.int 0, .int 0, .ref n0])), (n0, .inl (cA 0, 40, .inl (fun _ => 0))), (s1, .inr (2, [.int 0, .int 0, .ref n1])), (n1, .inl (cA 0, 40, .inl (fun _ => 0))), (s2, .inr (2, [.int 0, .int 0, .ref n2])), (n2, .inl (cA 0, 40, .inl (fun _ => 0))), (s3, .inr (2, [.int 0, .int 0, .ref n3])), (n3, .inl (cA 0, 40, .inl (fun _ => 0))), (fo, .inl (cA 0, 7, .inl (fun _ => 0)))])
section SVW
variable {D : va_G} {cA : Nat → ClassId} {h0 : Nat} {ad1 ad2 ad3 : Nat → Nat} {tp bt sa s0 n0 s1 n1 s2 n2 s3 n3 fo : Nat}
theorem svP {H : Heap} (hP : va_P D vwCl (svW D cA h0 ad1 ad2 ad3 tp bt sa s0 n0 s1 n1 s2 n2 s3 n3 fo) H) : va_P D vwCl (wl (wSv D cA (adS h0 ad1 ad2 ad3 [tp, bt, sa, s0, s1, s2, s3, n0, n1, n2, n3, fo])) muS) H := by
  have P1 : va_P D vwCl (wl (wHm D cA ad1) muH) H := hP.sub [1, 2, 3, 4, 5, 6, 7, 8, 9, 10, 11, 12, 13] rfl
  have P2 : va_P D vwCl (wl (wHm D cA ad2) muH) H := hP.sub [14, 15, 16, 17, 18, 19, 20, 21, 22, 23, 24, 25, 26] rfl
  have P3 : va_P D vwCl (wl (wHm D cA ad3) muH) H := hP.sub [27, 28, 29, 30, 31, 32, 33, 34, 35, 36, 37, 38, 39] rfl
  intro k q hk
  have hl : k < 52 := by
    have := (List.getElem?_eq_some_iff.mp hk).1
    rwa [wl_len] at this
  rw [wl_get _ hl] at hk
  cases hk
  by_cases h1 : k = 0
  · subst h1; exact hP 0 _ rfl
  · by_cases h2 : k < 14
    · obtain ⟨i, rfl⟩ : ∃ i, k = 1 + i := ⟨k - 1, by omega⟩
      refine emb (b := 1) P1 rfl (fun i hi => ?_) (fun i hi => ?_) (fun i hi => ?_) (by omega)
      · show shC (1 + i) = _
        unfold shC
        rw [if_neg (by omega), if_pos (by omega), Nat.add_sub_cancel_left]
      · show adS _ _ _ _ _ (1 + i) = _
        unfold adS
        rw [if_neg (by omega), if_pos (by omega), Nat.add_sub_cancel_left]
      · show (if 1 + i = 0 then _ else _) = _
        rw [if_neg (by omega), if_pos (by omega), Nat.add_sub_cancel_left]
    · by_cases h3 : k < 27
      · obtain ⟨i, rfl⟩ : ∃ i, k = 14 + i := ⟨k - 14, by omega⟩
        refine emb (b := 14) P2 rfl (fun i hi => ?_) (fun i hi => ?_) (fun i hi => ?_) (by omega)
        · show shC (14 + i) = _
          unfold shC
          rw [if_neg (by omega), if_neg (by omega), if_pos (by omega), Nat.add_sub_cancel_left]
        · show adS _ _ _ _ _ (14 + i) = _
          unfold adS
          rw [if_neg (by omega), if_neg (by omega), if_pos (by omega), Nat.add_sub_cancel_left]
        · show (if 14 + i = 0 then _ else _) = _
          rw [if_neg (by omega), if_neg (by omega), if_pos (by omega), Nat.add_sub_cancel_left]
      · by_cases h4 : k < 40
        · obtain ⟨i, rfl⟩ : ∃ i, k = 27 + i := ⟨k - 27, by omega⟩
          refine emb (b := 27) P3 rfl (fun i hi => ?_) (fun i hi => ?_) (fun i hi => ?_) (by omega)
          · show shC (27 + i) = _
            unfold shC
            rw [if_neg (by omega), if_neg (by omega), if_neg (by omega), if_pos (by omega), Nat.add_sub_cancel_left]
          · show adS _ _ _ _ _ (27 + i) = _
            unfold adS
            rw [if_neg (by omega), if_neg (by omega), if_neg (by omega), if_pos (by omega), Nat.add_sub_cancel_left]
          · show (if 27 + i = 0 then _ else _) = _
            rw [if_neg (by omega), if_neg (by omega), if_neg (by omega), if_pos (by omega), Nat.add_sub_cancel_left]
        · rcases (show k = 40 ∨ k = 41 ∨ k = 42 ∨ k = 43 ∨ k = 44 ∨ k = 45 ∨ k = 46 ∨ k = 47 ∨ k = 48 ∨ k = 49 ∨ k = 50 ∨ k = 51 by omega) with q | q | q | q | q | q | q | q | q | q | q | q <;> subst q
          · exact hP 40 _ rfl
          · exact hP 41 _ rfl
          · refine arr_cg (f := va_up (va_up (va_up (va_up (fun _ => none) 0 (some s0)) 1 (some s1)) 2 (some s2)) 3 (some s3)) (fun i hi => ?_) (hP 42 _ rfl)
            rcases (show i = 0 ∨ i = 1 ∨ i = 2 ∨ i = 3 by omega) with q | q | q | q <;> subst q <;> rfl
          · exact hP 43 _ rfl
          · exact hP 45 _ rfl
          · exact hP 47 _ rfl
          · exact hP 49 _ rfl
          · exact hP 44 _ rfl
          · exact hP 46 _ rfl
          · exact hP 48 _ rfl
          · exact hP 50 _ rfl
          · exact hP 51 _ rfl
def svG (k : Nat) : Nat := if k < 43 then k else if k < 47 then 43 + 2 * (k - 43) else if k < 51 then 44 + 2 * (k - 47) else k
theorem svA {k : Nat} (hk : k < 52) : ∃ e, (svW D cA h0 ad1 ad2 ad3 tp bt sa s0 n0 s1 n1 s2 n2 s3 n3 fo)[svG k]? = some (adS h0 ad1 ad2 ad3 [tp, bt, sa, s0, s1, s2, s3, n0, n1, n2, n3, fo] k, e) := by
  by_cases h1 : k < 13
  · rcases (show k = 0 ∨ k = 1 ∨ k = 2 ∨ k = 3 ∨ k = 4 ∨ k = 5 ∨ k = 6 ∨ k = 7 ∨ k = 8 ∨ k = 9 ∨ k = 10 ∨ k = 11 ∨ k = 12 by omega) with q | q | q | q | q | q | q | q | q | q | q | q | q <;> subst q <;> exact ⟨_, rfl⟩
  · by_cases h2 : k < 26
    · rcases (show k = 13 ∨ k = 14 ∨ k = 15 ∨ k = 16 ∨ k = 17 ∨ k = 18 ∨ k = 19 ∨ k = 20 ∨ k = 21 ∨ k = 22 ∨ k = 23 ∨ k = 24 ∨ k = 25 by omega) with q | q | q | q | q | q | q | q | q | q | q | q | q <;> subst q <;> exact ⟨_, rfl⟩
    · by_cases h3 : k < 39
      · rcases (show k = 26 ∨ k = 27 ∨ k = 28 ∨ k = 29 ∨ k = 30 ∨ k = 31 ∨ k = 32 ∨ k = 33 ∨ k = 34 ∨ k = 35 ∨ k = 36 ∨ k = 37 ∨ k = 38 by omega) with q | q | q | q | q | q | q | q | q | q | q | q | q <;> subst q <;> exact ⟨_, rfl⟩
      · rcases (show k = 39 ∨ k = 40 ∨ k = 41 ∨ k = 42 ∨ k = 43 ∨ k = 44 ∨ k = 45 ∨ k = 46 ∨ k = 47 ∨ k = 48 ∨ k = 49 ∨ k = 50 ∨ k = 51 by omega) with q | q | q | q | q | q | q | q | q | q | q | q | q <;> subst q <;> exact ⟨_, rfl⟩
theorem svG_0 : ∀ i, i < 52 → ∀ j, j < 52 → svG i = svG j → i = j := by decide +kernel
theorem svG_i {i j : Nat} (hi : i < 52) (hj : j < 52) (h : svG i = svG j) : i = j := svG_0 i hi j hj h
theorem svD {A : Nat → Prop} (hD : va_D A (svW D cA h0 ad1 ad2 ad3 tp bt sa s0 n0 s1 n1 s2 n2 s3 n3 fo)) : va_D A (wl (wSv D cA (adS h0 ad1 ad2 ad3 [tp, bt, sa, s0, s1, s2, s3, n0, n1, n2, n3, fo])) muS) := by
  have key : ∀ (k : Nat) (q : Nat × va_E), (wl (wSv D cA (adS h0 ad1 ad2 ad3 [tp, bt, sa, s0, s1, s2, s3, n0, n1, n2, n3, fo])) muS)[k]? = some q → k < 52 ∧ q.1 = adS h0 ad1 ad2 ad3 [tp, bt, sa, s0, s1, s2, s3, n0, n1, n2, n3, fo] k := by
    intro k q hq
    have hk : k < 52 := by
      have := (List.getElem?_eq_some_iff.mp hq).1
      rwa [wl_len] at this
    rw [wl_get _ hk] at hq
    cases hq
    exact ⟨hk, rfl⟩
  refine ⟨fun i j p q hp hq e => ?_, fun k q hq => ?_⟩
  · obtain ⟨a1, a2⟩ := key i p hp
    obtain ⟨b1, b2⟩ := key j q hq
    obtain ⟨e1, f1⟩ := svA (D := D) (cA := cA) (h0 := h0) (ad1 := ad1) (ad2 := ad2) (ad3 := ad3) (tp := tp) (bt := bt) (sa := sa) (s0 := s0) (n0 := n0) (s1 := s1) (n1 := n1) (s2 := s2) (n2 := n2) (s3 := s3) (n3 := n3) (fo := fo) a1
    obtain ⟨e2, f2⟩ := svA (D := D) (cA := cA) (h0 := h0) (ad1 := ad1) (ad2 := ad2) (ad3 := ad3) (tp := tp) (bt := bt) (sa := sa) (s0 := s0) (n0 := n0) (s1 := s1) (n1 := n1) (s2 := s2) (n2 := n2) (s3 := s3) (n3 := n3) (fo := fo) b1
    exact svG_i a1 b1 (hD.1 _ _ _ _ f1 f2 (by rw [a2, b2] at e; exact e))
  · obtain ⟨a1, a2⟩ := key k q hq
    obtain ⟨e1, f1⟩ := svA (D := D) (cA := cA) (h0 := h0) (ad1 := ad1) (ad2 := ad2) (ad3 := ad3) (tp := tp) (bt := bt) (sa := sa) (s0 := s0) (n0 := n0) (s1 := s1) (n1 := n1) (s2 := s2) (n2 := n2) (s3 := s3) (n3 := n3) (fo := fo) a1
    rw [a2]
    exact hD.2 _ _ f1
end SVW

set_option maxRecDepth 100000 in
set_option maxHeartbeats 4000000 in
theorem k_X4_init {l : Launch} {D : va_G} {cA : Nat → ClassId} : Kt l D cA yX4_init cX4_init 2 { frames := 3, cells := 51, slots := 543, locals := 80 } 4 fsX4 (fun h0 w1 => ∃ ad : Nat → Nat, ad 0 = h0 ∧ w1 = wl (wSv D cA ad) muS) := by
  refine Kt.mk (own := RX4) rfl (by decide) rfl (by decide) (fun h0 z hCl hCD hCc hCA C hQ => ?_)
  subst hCl hCD hCc
  refine b_ws (ws' := [(h0, .inr (4, [.null, .null, .null, .int 0, .null, .null, .null]))]) rfl ?_
  refine b_aload_n C dX4_init_0 rfl rfl ?_
  refine b_obj C dX4_init_1 ml_X4_3 (Nat.le_of_ble_eq_true rfl) (Nat.le_of_ble_eq_true rfl) rfl ?_
  refine b_aload_n C dX4_init_4 rfl rfl ?_
  refine b_new (ci := 0) (fs := fsX0) (T := TX0) (N := 10) (Cn := RX0) C dX4_init_5 iw_X0 tyX0_ok ck_X4_9 is_X0 in_X0 rfl df_X0 (Nat.le_of_ble_eq_true rfl) (Nat.le_of_ble_eq_true rfl) rfl (fun q1 => ?_)
  refine b_cs (c2 := 1) (s2 := 10) rfl rfl ?_
  refine b_dup C dX4_init_8 rfl rfl ?_
  refine b_callI (ws := [(h0, .inr (4, [.null, .null, .null, .int 0, .null, .null, .null]))]) (cells := 1) (slots := 10) C dX4_init_9 mk_X0 (k_X0_init) ml_X4_11 (Nat.le_of_ble_eq_true rfl) (Nat.le_of_ble_eq_true rfl) (Nat.le_of_ble_eq_true rfl) (Nat.le_of_ble_eq_true rfl) (Nat.le_of_ble_eq_true rfl) rfl (fun w9_1 hw9_1 => ?_)
  obtain ⟨ad1, e1, hw9_1⟩ := hw9_1
  subst hw9_1
  subst e1
  refine b_ws (ws' := (List.append ([(h0, .inr (4, [.null, .null, .null, .int 0, .null, .null, .null]))]) (wl (wHm (b_D z) (b_c z) ad1) muH))) rfl ?_
  refine b_cs (c2 := 13) (s2 := 78) rfl rfl ?_
  refine b_putF (T := TX4) (N := 7) (Cn := RX4) (ty0 := tyX4) C 0 0 dX4_init_12 rfl rfl (by decide) iw_X4 tyX4_ok nmX4 fl_X4_12 rfl rfl rfl rfl (lt_b rfl) rfl ?_
  refine b_ws (ws' := (List.append ([(h0, .inr (4, [.ref (ad1 0), .null, .null, .int 0, .null, .null, .null]))]) (wl (wHm (b_D z) (b_c z) ad1) muH))) rfl ?_
  refine b_aload_n C dX4_init_15 rfl rfl ?_
  refine b_new (ci := 0) (fs := fsX0) (T := TX0) (N := 10) (Cn := RX0) C dX4_init_16 iw_X0 tyX0_ok ck_X4_9 is_X0 in_X0 rfl df_X0 (Nat.le_of_ble_eq_true rfl) (Nat.le_of_ble_eq_true rfl) rfl (fun q2 => ?_)
  refine b_cs (c2 := 14) (s2 := 88) rfl rfl ?_
  refine b_dup C dX4_init_19 rfl rfl ?_
  refine b_callI (ws := (List.append ([(h0, .inr (4, [.ref (ad1 0), .null, .null, .int 0, .null, .null, .null]))]) (wl (wHm (b_D z) (b_c z) ad1) muH))) (cells := 14) (slots := 88) C dX4_init_20 mk_X0 (k_X0_init) ml_X4_11 (Nat.le_of_ble_eq_true rfl) (Nat.le_of_ble_eq_true rfl) (Nat.le_of_ble_eq_true rfl) (Nat.le_of_ble_eq_true rfl) (Nat.le_of_ble_eq_true rfl) rfl (fun w20_2 hw20_2 => ?_)
  obtain ⟨ad2, e2, hw20_2⟩ := hw20_2
  subst hw20_2
  subst e2
  refine b_ws (ws' := (List.append ((List.append ([(h0, .inr (4, [.ref (ad1 0), .null, .null, .int 0, .null, .null, .null]))]) (wl (wHm (b_D z) (b_c z) ad1) muH))) (wl (wHm (b_D z) (b_c z) ad2) muH))) rfl ?_
  refine b_cs (c2 := 26) (s2 := 156) rfl rfl ?_
  refine b_putF (T := TX4) (N := 7) (Cn := RX4) (ty0 := tyX4) C 0 1 dX4_init_23 rfl rfl (by decide) iw_X4 tyX4_ok nmX4 fl_X4_16 rfl rfl rfl rfl (lt_b rfl) rfl ?_
  refine b_ws (ws' := (List.append ((List.append ([(h0, .inr (4, [.ref (ad1 0), .ref (ad2 0), .null, .int 0, .null, .null, .null]))]) (wl (wHm (b_D z) (b_c z) ad1) muH))) (wl (wHm (b_D z) (b_c z) ad2) muH))) rfl ?_
  refine b_aload_n C dX4_init_26 rfl rfl ?_
  refine b_new (ci := 0) (fs := fsX0) (T := TX0) (N := 10) (Cn := RX0) C dX4_init_27 iw_X0 tyX0_ok ck_X4_9 is_X0 in_X0 rfl df_X0 (Nat.le_of_ble_eq_true rfl) (Nat.le_of_ble_eq_true rfl) rfl (fun q3 => ?_)
  refine b_cs (c2 := 27) (s2 := 166) rfl rfl ?_
  refine b_dup C dX4_init_30 rfl rfl ?_
  refine b_callI (ws := (List.append ((List.append ([(h0, .inr (4, [.ref (ad1 0), .ref (ad2 0), .null, .int 0, .null, .null, .null]))]) (wl (wHm (b_D z) (b_c z) ad1) muH))) (wl (wHm (b_D z) (b_c z) ad2) muH))) (cells := 27) (slots := 166) C dX4_init_31 mk_X0 (k_X0_init) ml_X4_11 (Nat.le_of_ble_eq_true rfl) (Nat.le_of_ble_eq_true rfl) (Nat.le_of_ble_eq_true rfl) (Nat.le_of_ble_eq_true rfl) (Nat.le_of_ble_eq_true rfl) rfl (fun w31_3 hw31_3 => ?_)
  obtain ⟨ad3, e3, hw31_3⟩ := hw31_3
  subst hw31_3
  subst e3
  refine b_ws (ws' := (List.append ((List.append ((List.append ([(h0, .inr (4, [.ref (ad1 0), .ref (ad2 0), .null, .int 0, .null, .null, .null]))]) (wl (wHm (b_D z) (b_c z) ad1) muH))) (wl (wHm (b_D z) (b_c z) ad2) muH))) (wl (wHm (b_D z) (b_c z) ad3) muH))) rfl ?_
  refine b_cs (c2 := 39) (s2 := 234) rfl rfl ?_
  refine b_putF (T := TX4) (N := 7) (Cn := RX4) (ty0 := tyX4) C 0 2 dX4_init_34 rfl rfl (by decide) iw_X4 tyX4_ok nmX4 fl_X4_19 rfl rfl rfl rfl (lt_b rfl) rfl ?_
  refine b_ws (ws' := (List.append ((List.append ((List.append ([(h0, .inr (4, [.ref (ad1 0), .ref (ad2 0), .ref (ad3 0), .int 0, .null, .null, .null]))]) (wl (wHm (b_D z) (b_c z) ad1) muH))) (wl (wHm (b_D z) (b_c z) ad2) muH))) (wl (wHm (b_D z) (b_c z) ad3) muH))) rfl ?_
  refine b_aload_n C dX4_init_37 rfl rfl ?_
  refine b_iconst C dX4_init_38 ic_0 rfl ?_
  refine b_put (T := TX4) (N := 7) (Cn := RX4) (ty0 := tyX4) C 0 3 dX4_init_39 rfl rfl (by decide) iw_X4 tyX4_ok nmX4 fl_X4_22 rfl rfl rfl (lt_b rfl) rfl ?_
  refine b_ws (ws' := (List.append ((List.append ((List.append ([(h0, .inr (4, [.ref (ad1 0), .ref (ad2 0), .ref (ad3 0), .int 0, .null, .null, .null]))]) (wl (wHm (b_D z) (b_c z) ad1) muH))) (wl (wHm (b_D z) (b_c z) ad2) muH))) (wl (wHm (b_D z) (b_c z) ad3) muH))) rfl ?_
  refine b_aload_n C dX4_init_42 rfl rfl ?_
  refine b_new (ci := 3) (fs := fsX3) (T := TX3) (N := 6) (Cn := RX3) C dX4_init_43 iw_X3 tyX3_ok ck_X4_26 is_X3 in_X3 rfl df_X3 (Nat.le_of_ble_eq_true rfl) (Nat.le_of_ble_eq_true rfl) rfl (fun q4 => ?_)
  refine b_cs (c2 := 40) (s2 := 240) rfl rfl ?_
  refine b_dup C dX4_init_46 rfl rfl ?_
  refine b_callI (ws := (List.append ((List.append ((List.append ([(h0, .inr (4, [.ref (ad1 0), .ref (ad2 0), .ref (ad3 0), .int 0, .null, .null, .null]))]) (wl (wHm (b_D z) (b_c z) ad1) muH))) (wl (wHm (b_D z) (b_c z) ad2) muH))) (wl (wHm (b_D z) (b_c z) ad3) muH))) (cells := 40) (slots := 240) C dX4_init_47 mk_X3 (k_X3_init) ml_X4_28 (Nat.le_of_ble_eq_true rfl) (Nat.le_of_ble_eq_true rfl) (Nat.le_of_ble_eq_true rfl) (Nat.le_of_ble_eq_true rfl) (Nat.le_of_ble_eq_true rfl) rfl (fun w47_4 hw47_4 => ?_)
  obtain ⟨q5, hw47_4⟩ := hw47_4
  subst hw47_4
  refine b_ws (ws' := (List.append ((List.append ((List.append ((List.append ([(h0, .inr (4, [.ref (ad1 0), .ref (ad2 0), .ref (ad3 0), .int 0, .null, .null, .null]))]) (wl (wHm (b_D z) (b_c z) ad1) muH))) (wl (wHm (b_D z) (b_c z) ad2) muH))) (wl (wHm (b_D z) (b_c z) ad3) muH))) ([(q4, .inr (3, [.ref q5, .int 0, .int 0, .int 0, .int 0, .int 0])), (q5, aI z 120 (fun _ => 0))]))) rfl ?_
  refine b_cs (c2 := 41) (s2 := 360) rfl rfl ?_
  refine b_putF (T := TX4) (N := 7) (Cn := RX4) (ty0 := tyX4) C 0 4 dX4_init_50 rfl rfl (by decide) iw_X4 tyX4_ok nmX4 fl_X4_29 rfl rfl rfl rfl (lt_b rfl) rfl ?_
  refine b_ws (ws' := (List.append ((List.append ((List.append ((List.append ([(h0, .inr (4, [.ref (ad1 0), .ref (ad2 0), .ref (ad3 0), .int 0, .ref q4, .null, .null]))]) (wl (wHm (b_D z) (b_c z) ad1) muH))) (wl (wHm (b_D z) (b_c z) ad2) muH))) (wl (wHm (b_D z) (b_c z) ad3) muH))) ([(q4, .inr (3, [.ref q5, .int 0, .int 0, .int 0, .int 0, .int 0])), (q5, aI z 120 (fun _ => 0))]))) rfl ?_
  refine b_aload_n C dX4_init_53 rfl rfl ?_
  refine b_iconst C dX4_init_54 ic_4 rfl ?_
  refine b_newQ (N := 4) (Cn := "SundayVisits$Sheet") C 3 rfl dX4_init_55 ck_X4_33 C.2.2.2.2.2.2.2.2.2.2.2.2.1 (by decide) (by decide) (by decide) (Nat.le_of_ble_eq_true rfl) (Nat.le_of_ble_eq_true rfl) rfl (fun q6 => ?_)
  refine b_ws (ws' := (List.append ((List.append ((List.append ((List.append ([(h0, .inr (4, [.ref (ad1 0), .ref (ad2 0), .ref (ad3 0), .int 0, .ref q4, .null, .null]))]) (wl (wHm (b_D z) (b_c z) ad1) muH))) (wl (wHm (b_D z) (b_c z) ad2) muH))) (wl (wHm (b_D z) (b_c z) ad3) muH))) ([(q4, .inr (3, [.ref q5, .int 0, .int 0, .int 0, .int 0, .int 0])), (q5, aI z 120 (fun _ => 0)), (q6, aQ z 3 4 (fun _ => none))]))) rfl ?_
  refine b_cs (c2 := 42) (s2 := 364) rfl rfl ?_
  refine b_putF (T := TX4) (N := 7) (Cn := RX4) (ty0 := tyX4) C 0 5 dX4_init_58 rfl rfl (by decide) iw_X4 tyX4_ok nmX4 fl_X4_35 rfl rfl rfl rfl (lt_b rfl) rfl ?_
  refine b_ws (ws' := (List.append ((List.append ((List.append ((List.append ([(h0, .inr (4, [.ref (ad1 0), .ref (ad2 0), .ref (ad3 0), .int 0, .ref q4, .ref q6, .null]))]) (wl (wHm (b_D z) (b_c z) ad1) muH))) (wl (wHm (b_D z) (b_c z) ad2) muH))) (wl (wHm (b_D z) (b_c z) ad3) muH))) ([(q4, .inr (3, [.ref q5, .int 0, .int 0, .int 0, .int 0, .int 0])), (q5, aI z 120 (fun _ => 0)), (q6, aQ z 3 4 (fun _ => none))]))) rfl ?_
  refine b_iconst C dX4_init_61 ic_0 rfl ?_
  refine b_istore_n C dX4_init_62 (by decide) rfl ?_
  refine b_iload_n C dX4_init_63 rfl rfl ?_
  refine b_iconst C dX4_init_64 ic_4 rfl ?_
  refine b_icmp_ge C 87 68 dX4_init_65 (by decide) rfl (fun h => ?_) (fun h => ?_)
  · exact absurd h (by decide)
  refine b_aload_n C dX4_init_68 rfl rfl ?_
  refine b_get (T := TX4) (N := 7) (Cn := RX4) C 0 5 dX4_init_69 rfl rfl (by decide) iw_X4 fl_X4_35 rfl rfl ?_
  refine b_iload_n C dX4_init_72 rfl rfl ?_
  refine b_new (ci := 2) (fs := fsX2) (T := TX2) (N := 3) (Cn := RX2) C dX4_init_73 iw_X2 tyX2_ok ck_X4_33 is_X2 in_X2 rfl df_X2 (Nat.le_of_ble_eq_true rfl) (Nat.le_of_ble_eq_true rfl) rfl (fun q7 => ?_)
  refine b_cs (c2 := 43) (s2 := 367) rfl rfl ?_
  refine b_dup C dX4_init_76 rfl rfl ?_
  refine b_callI (ws := (List.append ((List.append ((List.append ((List.append ([(h0, .inr (4, [.ref (ad1 0), .ref (ad2 0), .ref (ad3 0), .int 0, .ref q4, .ref q6, .null]))]) (wl (wHm (b_D z) (b_c z) ad1) muH))) (wl (wHm (b_D z) (b_c z) ad2) muH))) (wl (wHm (b_D z) (b_c z) ad3) muH))) ([(q4, .inr (3, [.ref q5, .int 0, .int 0, .int 0, .int 0, .int 0])), (q5, aI z 120 (fun _ => 0)), (q6, aQ z 3 4 (fun _ => none))]))) (cells := 43) (slots := 367) C dX4_init_77 mk_X2 (k_X2_init) ml_X4_39 (Nat.le_of_ble_eq_true rfl) (Nat.le_of_ble_eq_true rfl) (Nat.le_of_ble_eq_true rfl) (Nat.le_of_ble_eq_true rfl) (Nat.le_of_ble_eq_true rfl) rfl (fun w77_7 hw77_7 => ?_)
  obtain ⟨q8, hw77_7⟩ := hw77_7
  subst hw77_7
  refine b_ws (ws' := (List.append ((List.append ((List.append ((List.append ([(h0, .inr (4, [.ref (ad1 0), .ref (ad2 0), .ref (ad3 0), .int 0, .ref q4, .ref q6, .null]))]) (wl (wHm (b_D z) (b_c z) ad1) muH))) (wl (wHm (b_D z) (b_c z) ad2) muH))) (wl (wHm (b_D z) (b_c z) ad3) muH))) ([(q4, .inr (3, [.ref q5, .int 0, .int 0, .int 0, .int 0, .int 0])), (q5, aI z 120 (fun _ => 0)), (q6, aQ z 3 4 (fun _ => none)), (q7, .inr (2, [.int 0, .int 0, .ref q8])), (q8, aI z 40 (fun _ => 0))]))) rfl ?_
  refine b_cs (c2 := 44) (s2 := 407) rfl rfl ?_
  refine b_aast (r := (RX2, TX2, 3)) C 42 43 dX4_init_80 rfl rfl rfl rfl (by unfold vp_in; decide) rfl ?_
  refine b_ws (ws' := (List.append ((List.append ((List.append ((List.append ([(h0, .inr (4, [.ref (ad1 0), .ref (ad2 0), .ref (ad3 0), .int 0, .ref q4, .ref q6, .null]))]) (wl (wHm (b_D z) (b_c z) ad1) muH))) (wl (wHm (b_D z) (b_c z) ad2) muH))) (wl (wHm (b_D z) (b_c z) ad3) muH))) ([(q4, .inr (3, [.ref q5, .int 0, .int 0, .int 0, .int 0, .int 0])), (q5, aI z 120 (fun _ => 0)), (q6, aQ z 3 4 (va_up (fun _ => none) 0 (some q7))), (q7, .inr (2, [.int 0, .int 0, .ref q8])), (q8, aI z 40 (fun _ => 0))]))) rfl ?_
  refine b_iincN (j := 0) C dX4_init_81 rfl (by decide) rfl ?_
  refine b_goto C 63 dX4_init_84 (by decide) ?_
  refine b_iload_n C dX4_init_63 rfl rfl ?_
  refine b_iconst C dX4_init_64 ic_4 rfl ?_
  refine b_icmp_ge C 87 68 dX4_init_65 (by decide) rfl (fun h => ?_) (fun h => ?_)
  · exact absurd h (by decide)
  refine b_aload_n C dX4_init_68 rfl rfl ?_
  refine b_get (T := TX4) (N := 7) (Cn := RX4) C 0 5 dX4_init_69 rfl rfl (by decide) iw_X4 fl_X4_35 rfl rfl ?_
  refine b_iload_n C dX4_init_72 rfl rfl ?_
  refine b_new (ci := 2) (fs := fsX2) (T := TX2) (N := 3) (Cn := RX2) C dX4_init_73 iw_X2 tyX2_ok ck_X4_33 is_X2 in_X2 rfl df_X2 (Nat.le_of_ble_eq_true rfl) (Nat.le_of_ble_eq_true rfl) rfl (fun q9 => ?_)
  refine b_cs (c2 := 45) (s2 := 410) rfl rfl ?_
  refine b_dup C dX4_init_76 rfl rfl ?_
  refine b_callI (ws := (List.append ((List.append ((List.append ((List.append ([(h0, .inr (4, [.ref (ad1 0), .ref (ad2 0), .ref (ad3 0), .int 0, .ref q4, .ref q6, .null]))]) (wl (wHm (b_D z) (b_c z) ad1) muH))) (wl (wHm (b_D z) (b_c z) ad2) muH))) (wl (wHm (b_D z) (b_c z) ad3) muH))) ([(q4, .inr (3, [.ref q5, .int 0, .int 0, .int 0, .int 0, .int 0])), (q5, aI z 120 (fun _ => 0)), (q6, aQ z 3 4 (va_up (fun _ => none) 0 (some q7))), (q7, .inr (2, [.int 0, .int 0, .ref q8])), (q8, aI z 40 (fun _ => 0))]))) (cells := 45) (slots := 410) C dX4_init_77 mk_X2 (k_X2_init) ml_X4_39 (Nat.le_of_ble_eq_true rfl) (Nat.le_of_ble_eq_true rfl) (Nat.le_of_ble_eq_true rfl) (Nat.le_of_ble_eq_true rfl) (Nat.le_of_ble_eq_true rfl) rfl (fun w77_9 hw77_9 => ?_)
  obtain ⟨q10, hw77_9⟩ := hw77_9
  subst hw77_9
  refine b_ws (ws' := (List.append ((List.append ((List.append ((List.append ([(h0, .inr (4, [.ref (ad1 0), .ref (ad2 0), .ref (ad3 0), .int 0, .ref q4, .ref q6, .null]))]) (wl (wHm (b_D z) (b_c z) ad1) muH))) (wl (wHm (b_D z) (b_c z) ad2) muH))) (wl (wHm (b_D z) (b_c z) ad3) muH))) ([(q4, .inr (3, [.ref q5, .int 0, .int 0, .int 0, .int 0, .int 0])), (q5, aI z 120 (fun _ => 0)), (q6, aQ z 3 4 (va_up (fun _ => none) 0 (some q7))), (q7, .inr (2, [.int 0, .int 0, .ref q8])), (q8, aI z 40 (fun _ => 0)), (q9, .inr (2, [.int 0, .int 0, .ref q10])), (q10, aI z 40 (fun _ => 0))]))) rfl ?_
  refine b_cs (c2 := 46) (s2 := 450) rfl rfl ?_
  refine b_aast (r := (RX2, TX2, 3)) C 42 45 dX4_init_80 rfl rfl rfl rfl (by unfold vp_in; decide) rfl ?_
  refine b_ws (ws' := (List.append ((List.append ((List.append ((List.append ([(h0, .inr (4, [.ref (ad1 0), .ref (ad2 0), .ref (ad3 0), .int 0, .ref q4, .ref q6, .null]))]) (wl (wHm (b_D z) (b_c z) ad1) muH))) (wl (wHm (b_D z) (b_c z) ad2) muH))) (wl (wHm (b_D z) (b_c z) ad3) muH))) ([(q4, .inr (3, [.ref q5, .int 0, .int 0, .int 0, .int 0, .int 0])), (q5, aI z 120 (fun _ => 0)), (q6, aQ z 3 4 (va_up (va_up (fun _ => none) 0 (some q7)) 1 (some q9))), (q7, .inr (2, [.int 0, .int 0, .ref q8])), (q8, aI z 40 (fun _ => 0)), (q9, .inr (2, [.int 0, .int 0, .ref q10])), (q10, aI z 40 (fun _ => 0))]))) rfl ?_
  refine b_iincN (j := 1) C dX4_init_81 rfl (by decide) rfl ?_
  refine b_goto C 63 dX4_init_84 (by decide) ?_
  refine b_iload_n C dX4_init_63 rfl rfl ?_
  refine b_iconst C dX4_init_64 ic_4 rfl ?_
  refine b_icmp_ge C 87 68 dX4_init_65 (by decide) rfl (fun h => ?_) (fun h => ?_)
  · exact absurd h (by decide)
  refine b_aload_n C dX4_init_68 rfl rfl ?_
  refine b_get (T := TX4) (N := 7) (Cn := RX4) C 0 5 dX4_init_69 rfl rfl (by decide) iw_X4 fl_X4_35 rfl rfl ?_
  refine b_iload_n C dX4_init_72 rfl rfl ?_
  refine b_new (ci := 2) (fs := fsX2) (T := TX2) (N := 3) (Cn := RX2) C dX4_init_73 iw_X2 tyX2_ok ck_X4_33 is_X2 in_X2 rfl df_X2 (Nat.le_of_ble_eq_true rfl) (Nat.le_of_ble_eq_true rfl) rfl (fun q11 => ?_)
  refine b_cs (c2 := 47) (s2 := 453) rfl rfl ?_
  refine b_dup C dX4_init_76 rfl rfl ?_
  refine b_callI (ws := (List.append ((List.append ((List.append ((List.append ([(h0, .inr (4, [.ref (ad1 0), .ref (ad2 0), .ref (ad3 0), .int 0, .ref q4, .ref q6, .null]))]) (wl (wHm (b_D z) (b_c z) ad1) muH))) (wl (wHm (b_D z) (b_c z) ad2) muH))) (wl (wHm (b_D z) (b_c z) ad3) muH))) ([(q4, .inr (3, [.ref q5, .int 0, .int 0, .int 0, .int 0, .int 0])), (q5, aI z 120 (fun _ => 0)), (q6, aQ z 3 4 (va_up (va_up (fun _ => none) 0 (some q7)) 1 (some q9))), (q7, .inr (2, [.int 0, .int 0, .ref q8])), (q8, aI z 40 (fun _ => 0)), (q9, .inr (2, [.int 0, .int 0, .ref q10])), (q10, aI z 40 (fun _ => 0))]))) (cells := 47) (slots := 453) C dX4_init_77 mk_X2 (k_X2_init) ml_X4_39 (Nat.le_of_ble_eq_true rfl) (Nat.le_of_ble_eq_true rfl) (Nat.le_of_ble_eq_true rfl) (Nat.le_of_ble_eq_true rfl) (Nat.le_of_ble_eq_true rfl) rfl (fun w77_11 hw77_11 => ?_)
  obtain ⟨q12, hw77_11⟩ := hw77_11
  subst hw77_11
  refine b_ws (ws' := (List.append ((List.append ((List.append ((List.append ([(h0, .inr (4, [.ref (ad1 0), .ref (ad2 0), .ref (ad3 0), .int 0, .ref q4, .ref q6, .null]))]) (wl (wHm (b_D z) (b_c z) ad1) muH))) (wl (wHm (b_D z) (b_c z) ad2) muH))) (wl (wHm (b_D z) (b_c z) ad3) muH))) ([(q4, .inr (3, [.ref q5, .int 0, .int 0, .int 0, .int 0, .int 0])), (q5, aI z 120 (fun _ => 0)), (q6, aQ z 3 4 (va_up (va_up (fun _ => none) 0 (some q7)) 1 (some q9))), (q7, .inr (2, [.int 0, .int 0, .ref q8])), (q8, aI z 40 (fun _ => 0)), (q9, .inr (2, [.int 0, .int 0, .ref q10])), (q10, aI z 40 (fun _ => 0)), (q11, .inr (2, [.int 0, .int 0, .ref q12])), (q12, aI z 40 (fun _ => 0))]))) rfl ?_
  refine b_cs (c2 := 48) (s2 := 493) rfl rfl ?_
  refine b_aast (r := (RX2, TX2, 3)) C 42 47 dX4_init_80 rfl rfl rfl rfl (by unfold vp_in; decide) rfl ?_
  refine b_ws (ws' := (List.append ((List.append ((List.append ((List.append ([(h0, .inr (4, [.ref (ad1 0), .ref (ad2 0), .ref (ad3 0), .int 0, .ref q4, .ref q6, .null]))]) (wl (wHm (b_D z) (b_c z) ad1) muH))) (wl (wHm (b_D z) (b_c z) ad2) muH))) (wl (wHm (b_D z) (b_c z) ad3) muH))) ([(q4, .inr (3, [.ref q5, .int 0, .int 0, .int 0, .int 0, .int 0])), (q5, aI z 120 (fun _ => 0)), (q6, aQ z 3 4 (va_up (va_up (va_up (fun _ => none) 0 (some q7)) 1 (some q9)) 2 (some q11))), (q7, .inr (2, [.int 0, .int 0, .ref q8])), (q8, aI z 40 (fun _ => 0)), (q9, .inr (2, [.int 0, .int 0, .ref q10])), (q10, aI z 40 (fun _ => 0)), (q11, .inr (2, [.int 0, .int 0, .ref q12])), (q12, aI z 40 (fun _ => 0))]))) rfl ?_
  refine b_iincN (j := 2) C dX4_init_81 rfl (by decide) rfl ?_
  refine b_goto C 63 dX4_init_84 (by decide) ?_
  refine b_iload_n C dX4_init_63 rfl rfl ?_
  refine b_iconst C dX4_init_64 ic_4 rfl ?_
  refine b_icmp_ge C 87 68 dX4_init_65 (by decide) rfl (fun h => ?_) (fun h => ?_)
  · exact absurd h (by decide)
  refine b_aload_n C dX4_init_68 rfl rfl ?_
  refine b_get (T := TX4) (N := 7) (Cn := RX4) C 0 5 dX4_init_69 rfl rfl (by decide) iw_X4 fl_X4_35 rfl rfl ?_
  refine b_iload_n C dX4_init_72 rfl rfl ?_
  refine b_new (ci := 2) (fs := fsX2) (T := TX2) (N := 3) (Cn := RX2) C dX4_init_73 iw_X2 tyX2_ok ck_X4_33 is_X2 in_X2 rfl df_X2 (Nat.le_of_ble_eq_true rfl) (Nat.le_of_ble_eq_true rfl) rfl (fun q13 => ?_)
  refine b_cs (c2 := 49) (s2 := 496) rfl rfl ?_
  refine b_dup C dX4_init_76 rfl rfl ?_
  refine b_callI (ws := (List.append ((List.append ((List.append ((List.append ([(h0, .inr (4, [.ref (ad1 0), .ref (ad2 0), .ref (ad3 0), .int 0, .ref q4, .ref q6, .null]))]) (wl (wHm (b_D z) (b_c z) ad1) muH))) (wl (wHm (b_D z) (b_c z) ad2) muH))) (wl (wHm (b_D z) (b_c z) ad3) muH))) ([(q4, .inr (3, [.ref q5, .int 0, .int 0, .int 0, .int 0, .int 0])), (q5, aI z 120 (fun _ => 0)), (q6, aQ z 3 4 (va_up (va_up (va_up (fun _ => none) 0 (some q7)) 1 (some q9)) 2 (some q11))), (q7, .inr (2, [.int 0, .int 0, .ref q8])), (q8, aI z 40 (fun _ => 0)), (q9, .inr (2, [.int 0, .int 0, .ref q10])), (q10, aI z 40 (fun _ => 0)), (q11, .inr (2, [.int 0, .int 0, .ref q12])), (q12, aI z 40 (fun _ => 0))]))) (cells := 49) (slots := 496) C dX4_init_77 mk_X2 (k_X2_init) ml_X4_39 (Nat.le_of_ble_eq_true rfl) (Nat.le_of_ble_eq_true rfl) (Nat.le_of_ble_eq_true rfl) (Nat.le_of_ble_eq_true rfl) (Nat.le_of_ble_eq_true rfl) rfl (fun w77_13 hw77_13 => ?_)
  obtain ⟨q14, hw77_13⟩ := hw77_13
  subst hw77_13
  refine b_ws (ws' := (List.append ((List.append ((List.append ((List.append ([(h0, .inr (4, [.ref (ad1 0), .ref (ad2 0), .ref (ad3 0), .int 0, .ref q4, .ref q6, .null]))]) (wl (wHm (b_D z) (b_c z) ad1) muH))) (wl (wHm (b_D z) (b_c z) ad2) muH))) (wl (wHm (b_D z) (b_c z) ad3) muH))) ([(q4, .inr (3, [.ref q5, .int 0, .int 0, .int 0, .int 0, .int 0])), (q5, aI z 120 (fun _ => 0)), (q6, aQ z 3 4 (va_up (va_up (va_up (fun _ => none) 0 (some q7)) 1 (some q9)) 2 (some q11))), (q7, .inr (2, [.int 0, .int 0, .ref q8])), (q8, aI z 40 (fun _ => 0)), (q9, .inr (2, [.int 0, .int 0, .ref q10])), (q10, aI z 40 (fun _ => 0)), (q11, .inr (2, [.int 0, .int 0, .ref q12])), (q12, aI z 40 (fun _ => 0)), (q13, .inr (2, [.int 0, .int 0, .ref q14])), (q14, aI z 40 (fun _ => 0))]))) rfl ?_
  refine b_cs (c2 := 50) (s2 := 536) rfl rfl ?_
  refine b_aast (r := (RX2, TX2, 3)) C 42 49 dX4_init_80 rfl rfl rfl rfl (by unfold vp_in; decide) rfl ?_
  refine b_ws (ws' := (List.append ((List.append ((List.append ((List.append ([(h0, .inr (4, [.ref (ad1 0), .ref (ad2 0), .ref (ad3 0), .int 0, .ref q4, .ref q6, .null]))]) (wl (wHm (b_D z) (b_c z) ad1) muH))) (wl (wHm (b_D z) (b_c z) ad2) muH))) (wl (wHm (b_D z) (b_c z) ad3) muH))) ([(q4, .inr (3, [.ref q5, .int 0, .int 0, .int 0, .int 0, .int 0])), (q5, aI z 120 (fun _ => 0)), (q6, aQ z 3 4 (va_up (va_up (va_up (va_up (fun _ => none) 0 (some q7)) 1 (some q9)) 2 (some q11)) 3 (some q13))), (q7, .inr (2, [.int 0, .int 0, .ref q8])), (q8, aI z 40 (fun _ => 0)), (q9, .inr (2, [.int 0, .int 0, .ref q10])), (q10, aI z 40 (fun _ => 0)), (q11, .inr (2, [.int 0, .int 0, .ref q12])), (q12, aI z 40 (fun _ => 0)), (q13, .inr (2, [.int 0, .int 0, .ref q14])), (q14, aI z 40 (fun _ => 0))]))) rfl ?_
  refine b_iincN (j := 3) C dX4_init_81 rfl (by decide) rfl ?_
  refine b_goto C 63 dX4_init_84 (by decide) ?_
  refine b_iload_n C dX4_init_63 rfl rfl ?_
  refine b_iconst C dX4_init_64 ic_4 rfl ?_
  refine b_icmp_ge C 87 68 dX4_init_65 (by decide) rfl (fun h => ?_) (fun h => ?_)
  rotate_left
  · exact absurd (by decide) h
  refine b_aload_n C dX4_init_87 rfl rfl ?_
  refine b_bipush C dX4_init_88 bp_7 rfl ?_
  refine b_newI (N := 7) C dX4_init_90 (by decide) (by decide) (by decide) (Nat.le_of_ble_eq_true rfl) (Nat.le_of_ble_eq_true rfl) rfl (fun q15 => ?_)
  refine b_ws (ws' := (List.append ((List.append ((List.append ((List.append ([(h0, .inr (4, [.ref (ad1 0), .ref (ad2 0), .ref (ad3 0), .int 0, .ref q4, .ref q6, .null]))]) (wl (wHm (b_D z) (b_c z) ad1) muH))) (wl (wHm (b_D z) (b_c z) ad2) muH))) (wl (wHm (b_D z) (b_c z) ad3) muH))) ([(q4, .inr (3, [.ref q5, .int 0, .int 0, .int 0, .int 0, .int 0])), (q5, aI z 120 (fun _ => 0)), (q6, aQ z 3 4 (va_up (va_up (va_up (va_up (fun _ => none) 0 (some q7)) 1 (some q9)) 2 (some q11)) 3 (some q13))), (q7, .inr (2, [.int 0, .int 0, .ref q8])), (q8, aI z 40 (fun _ => 0)), (q9, .inr (2, [.int 0, .int 0, .ref q10])), (q10, aI z 40 (fun _ => 0)), (q11, .inr (2, [.int 0, .int 0, .ref q12])), (q12, aI z 40 (fun _ => 0)), (q13, .inr (2, [.int 0, .int 0, .ref q14])), (q14, aI z 40 (fun _ => 0)), (q15, aI z 7 (fun _ => 0))]))) rfl ?_
  refine b_cs (c2 := 51) (s2 := 543) rfl rfl ?_
  refine b_putF (T := TX4) (N := 7) (Cn := RX4) (ty0 := tyX4) C 0 6 dX4_init_92 rfl rfl (by decide) iw_X4 tyX4_ok nmX4 fl_X4_40 rfl rfl rfl rfl (lt_b rfl) rfl ?_
  refine b_ws (ws' := (List.append ((List.append ((List.append ((List.append ([(h0, .inr (4, [.ref (ad1 0), .ref (ad2 0), .ref (ad3 0), .int 0, .ref q4, .ref q6, .ref q15]))]) (wl (wHm (b_D z) (b_c z) ad1) muH))) (wl (wHm (b_D z) (b_c z) ad2) muH))) (wl (wHm (b_D z) (b_c z) ad3) muH))) ([(q4, .inr (3, [.ref q5, .int 0, .int 0, .int 0, .int 0, .int 0])), (q5, aI z 120 (fun _ => 0)), (q6, aQ z 3 4 (va_up (va_up (va_up (va_up (fun _ => none) 0 (some q7)) 1 (some q9)) 2 (some q11)) 3 (some q13))), (q7, .inr (2, [.int 0, .int 0, .ref q8])), (q8, aI z 40 (fun _ => 0)), (q9, .inr (2, [.int 0, .int 0, .ref q10])), (q10, aI z 40 (fun _ => 0)), (q11, .inr (2, [.int 0, .int 0, .ref q12])), (q12, aI z 40 (fun _ => 0)), (q13, .inr (2, [.int 0, .int 0, .ref q14])), (q14, aI z 40 (fun _ => 0)), (q15, aI z 7 (fun _ => 0))]))) rfl ?_
  exact b_ret2 C rfl hQ dX4_init_95 (w1 := wl (wSv (b_D z) (b_c z) (adS h0 ad1 ad2 ad3 [q4, q5, q6, q7, q9, q11, q13, q8, q10, q12, q14, q15])) muS) (fun H hP => svP hP) (fun hD => svD hD) ⟨adS h0 ad1 ad2 ad3 [q4, q5, q6, q7, q9, q11, q13, q8, q10, q12, q14, q15], rfl, rfl⟩ (Nat.le_of_ble_eq_true rfl) (Nat.le_of_ble_eq_true rfl)
