/-! the law's cases: a call on each side -/
abbrev lvL (w1 w2 : WC) (b i : Nat) : List (Nat × Value) := [(3, .int (nI i)), (2, .ref (w_ad w2 0)), (1, .ref (w_ad w1 0)), (0, .ref b)]
theorem Rl.ivS {μ ν : Me} (h : Rl μ ν) : IvS μ := fun s hs => by
  obtain ⟨a, b, c, d, -⟩ := h.2.2.2.2 s hs
  exact ⟨by rw [c]; exact a, by rw [d]; exact b⟩
theorem Rl.ivZ {μ ν : Me} (h : Rl μ ν) : IvZ ν := fun s hs => (h.2.2.2.2 s hs).2.1
set_option maxRecDepth 100000 in
set_option maxHeartbeats 4000000 in
theorem z_set {w1 w2 : WC} {x : Cy} {b L : Nat} {xs : Nat → Int32} (C : Lx w1 w2 x b L xs) (hS : Sv w1) (hX : Nx w1) {fz : Option Nat} (hJ : Jz w1 fz) {sa sv : Nat → Nat} (hT : Tx w1 sa sv) (hM : Md w2) (hL : L ≤ 3072) {i : Nat} (hi : i + 6 ≤ L) (k : ∀ μ ν, Rl μ ν → Lz w1 w2 x μ ν 1443 (lvL w1 w2 b i) []) {μ ν : Me} (h : Rl μ ν) : Lz w1 w2 x μ ν 216 (lvL w1 w2 b i) [] := by
  refine z_aload_n C dL_law_216 rfl rfl ?_
  refine z_arg (j := 1) C dL_law_217 dL_law_218 dL_law_219 dL_law_220 dL_law_221 ic_1 rfl rfl (by omega) hL rfl ?_
  refine z_arg (j := 2) C dL_law_222 dL_law_223 dL_law_224 dL_law_225 dL_law_226 ic_2 rfl rfl (by omega) hL rfl ?_
  refine z_i1 C dL_law_227 mi_X4_set (c_X4_set hS hX) rfl hS.1.1 hS.1.2 rfl ml_L_13 (rk_of2 rfl) rfl (Nat.le_of_ble_eq_true rfl) rfl (fun r1 u1 p1 => ?_)
  refine z_aload_n C dL_law_230 rfl rfl ?_
  refine z_arg (j := 1) C dL_law_231 dL_law_232 dL_law_233 dL_law_234 dL_law_235 ic_1 rfl rfl (by omega) hL rfl ?_
  refine z_arg (j := 2) C dL_law_236 dL_law_237 dL_law_238 dL_law_239 dL_law_240 ic_2 rfl rfl (by omega) hL rfl ?_
  refine z_i2 C dL_law_241 mi_X5_set (c_X5_set hM) rfl hM.1.1 hM.1.2 rfl ml_L_17 (rk_of2 rfl) rfl (Nat.le_of_ble_eq_true rfl) rfl (fun r2 u2 p2 => ?_)
  obtain ⟨e, hR⟩ := (Ag.px (ag_set h)) _ _ _ _ p1 p2
  subst e
  exact z_icmp_eq C 1443 247 dL_law_244 (by decide) rfl (fun _ => k _ _ hR) (fun q => absurd rfl q)

set_option maxRecDepth 100000 in
set_option maxHeartbeats 4000000 in
theorem z_home {w1 w2 : WC} {x : Cy} {b L : Nat} {xs : Nat → Int32} (C : Lx w1 w2 x b L xs) (hS : Sv w1) (hX : Nx w1) {fz : Option Nat} (hJ : Jz w1 fz) {sa sv : Nat → Nat} (hT : Tx w1 sa sv) (hM : Md w2) (hL : L ≤ 3072) {i : Nat} (hi : i + 6 ≤ L) (k : ∀ μ ν, Rl μ ν → Lz w1 w2 x μ ν 1443 (lvL w1 w2 b i) []) {μ ν : Me} (h : Rl μ ν) : Lz w1 w2 x μ ν 249 (lvL w1 w2 b i) [] := by
  refine z_aload_n C dL_law_249 rfl rfl ?_
  refine z_arg (j := 1) C dL_law_250 dL_law_251 dL_law_252 dL_law_253 dL_law_254 ic_1 rfl rfl (by omega) hL rfl ?_
  refine z_i1 C dL_law_255 mi_X4_home (c_X4_home hS hX) rfl hS.1.1 hS.1.2 rfl ml_L_18 (rk_of2 rfl) rfl (Nat.le_of_ble_eq_true rfl) rfl (fun r1 u1 p1 => ?_)
  refine z_aload_n C dL_law_258 rfl rfl ?_
  refine z_arg (j := 1) C dL_law_259 dL_law_260 dL_law_261 dL_law_262 dL_law_263 ic_1 rfl rfl (by omega) hL rfl ?_
  refine z_i2 C dL_law_264 mi_X5_home (c_X5_home hM) rfl hM.1.1 hM.1.2 rfl ml_L_22 (rk_of2 rfl) rfl (Nat.le_of_ble_eq_true rfl) rfl (fun r2 u2 p2 => ?_)
  obtain ⟨e, hR⟩ := (Ag.px (ag_home h)) _ _ _ _ p1 p2
  subst e
  exact z_icmp_eq C 1443 270 dL_law_267 (by decide) rfl (fun _ => k _ _ hR) (fun q => absurd rfl q)

set_option maxRecDepth 100000 in
set_option maxHeartbeats 4000000 in
theorem z_visit {w1 w2 : WC} {x : Cy} {b L : Nat} {xs : Nat → Int32} (C : Lx w1 w2 x b L xs) (hS : Sv w1) (hX : Nx w1) {fz : Option Nat} (hJ : Jz w1 fz) {sa sv : Nat → Nat} (hT : Tx w1 sa sv) (hM : Md w2) (hL : L ≤ 3072) {i : Nat} (hi : i + 6 ≤ L) (k : ∀ μ ν, Rl μ ν → Lz w1 w2 x μ ν 1443 (lvL w1 w2 b i) []) {μ ν : Me} (h : Rl μ ν) : Lz w1 w2 x μ ν 272 (lvL w1 w2 b i) [] := by
  refine z_aload_n C dL_law_272 rfl rfl ?_
  refine z_arg (j := 1) C dL_law_273 dL_law_274 dL_law_275 dL_law_276 dL_law_277 ic_1 rfl rfl (by omega) hL rfl ?_
  refine z_arg (j := 2) C dL_law_278 dL_law_279 dL_law_280 dL_law_281 dL_law_282 ic_2 rfl rfl (by omega) hL rfl ?_
  refine z_i1 C dL_law_283 mi_X4_visit (c_X4_visit hS hX) rfl hS.1.1 hS.1.2 rfl ml_L_23 (rk_of2 rfl) rfl (Nat.le_of_ble_eq_true rfl) rfl (fun r1 u1 p1 => ?_)
  refine z_aload_n C dL_law_286 rfl rfl ?_
  refine z_arg (j := 1) C dL_law_287 dL_law_288 dL_law_289 dL_law_290 dL_law_291 ic_1 rfl rfl (by omega) hL rfl ?_
  refine z_arg (j := 2) C dL_law_292 dL_law_293 dL_law_294 dL_law_295 dL_law_296 ic_2 rfl rfl (by omega) hL rfl ?_
  refine z_i2 C dL_law_297 mi_X5_visit (c_X5_visit hM) rfl hM.1.1 hM.1.2 rfl ml_L_26 (rk_of2 rfl) rfl (Nat.le_of_ble_eq_true rfl) rfl (fun r2 u2 p2 => ?_)
  obtain ⟨e, hR⟩ := (Ag.px (ag_visit h)) _ _ _ _ p1 p2
  subst e
  exact z_icmp_eq C 1443 303 dL_law_300 (by decide) rfl (fun _ => k _ _ hR) (fun q => absurd rfl q)

set_option maxRecDepth 100000 in
set_option maxHeartbeats 4000000 in
theorem z_visits {w1 w2 : WC} {x : Cy} {b L : Nat} {xs : Nat → Int32} (C : Lx w1 w2 x b L xs) (hS : Sv w1) (hX : Nx w1) {fz : Option Nat} (hJ : Jz w1 fz) {sa sv : Nat → Nat} (hT : Tx w1 sa sv) (hM : Md w2) (hL : L ≤ 3072) {i : Nat} (hi : i + 6 ≤ L) (k : ∀ μ ν, Rl μ ν → Lz w1 w2 x μ ν 1443 (lvL w1 w2 b i) []) {μ ν : Me} (h : Rl μ ν) : Lz w1 w2 x μ ν 305 (lvL w1 w2 b i) [] := by
  refine z_aload_n C dL_law_305 rfl rfl ?_
  refine z_arg (j := 1) C dL_law_306 dL_law_307 dL_law_308 dL_law_309 dL_law_310 ic_1 rfl rfl (by omega) hL rfl ?_
  refine z_i1 C dL_law_311 mi_X4_visits (c_X4_visits hS hX) rfl hS.1.1 hS.1.2 rfl ml_L_27 (rk_of2 rfl) rfl (Nat.le_of_ble_eq_true rfl) rfl (fun r1 u1 p1 => ?_)
  refine z_aload_n C dL_law_314 rfl rfl ?_
  refine z_arg (j := 1) C dL_law_315 dL_law_316 dL_law_317 dL_law_318 dL_law_319 ic_1 rfl rfl (by omega) hL rfl ?_
  refine z_i2 C dL_law_320 mi_X5_visits (c_X5_visits hM) rfl hM.1.1 hM.1.2 rfl ml_L_30 (rk_of2 rfl) rfl (Nat.le_of_ble_eq_true rfl) rfl (fun r2 u2 p2 => ?_)
  obtain ⟨e, hR⟩ := (Ag.px (ag_visits h)) _ _ _ _ p1 p2
  subst e
  exact z_icmp_eq C 1443 326 dL_law_323 (by decide) rfl (fun _ => k _ _ hR) (fun q => absurd rfl q)

set_option maxRecDepth 100000 in
set_option maxHeartbeats 4000000 in
theorem z_resident {w1 w2 : WC} {x : Cy} {b L : Nat} {xs : Nat → Int32} (C : Lx w1 w2 x b L xs) (hS : Sv w1) (hX : Nx w1) {fz : Option Nat} (hJ : Jz w1 fz) {sa sv : Nat → Nat} (hT : Tx w1 sa sv) (hM : Md w2) (hL : L ≤ 3072) {i : Nat} (hi : i + 6 ≤ L) (k : ∀ μ ν, Rl μ ν → Lz w1 w2 x μ ν 1443 (lvL w1 w2 b i) []) {μ ν : Me} (h : Rl μ ν) : Lz w1 w2 x μ ν 328 (lvL w1 w2 b i) [] := by
  refine z_aload_n C dL_law_328 rfl rfl ?_
  refine z_arg (j := 1) C dL_law_329 dL_law_330 dL_law_331 dL_law_332 dL_law_333 ic_1 rfl rfl (by omega) hL rfl ?_
  refine z_i1 C dL_law_334 mi_X4_resident (c_X4_resident hS hX h.1.1 h.1.2) rfl hS.1.1 hS.1.2 rfl ml_L_31 (rk_of2 rfl) rfl (Nat.le_of_ble_eq_true rfl) rfl (fun r1 u1 p1 => ?_)
  refine z_aload_n C dL_law_337 rfl rfl ?_
  refine z_arg (j := 1) C dL_law_338 dL_law_339 dL_law_340 dL_law_341 dL_law_342 ic_1 rfl rfl (by omega) hL rfl ?_
  refine z_i2 C dL_law_343 mi_X5_resident (c_X5_resident hM h.1.2) rfl hM.1.1 hM.1.2 rfl ml_L_34 (rk_of2 rfl) rfl (Nat.le_of_ble_eq_true rfl) rfl (fun r2 u2 p2 => ?_)
  obtain ⟨e, hR⟩ := (Ag.px (ag_resident h)) _ _ _ _ p1 p2
  subst e
  exact z_icmp_eq C 1443 349 dL_law_346 (by decide) rfl (fun _ => k _ _ hR) (fun q => absurd rfl q)

set_option maxRecDepth 100000 in
set_option maxHeartbeats 4000000 in
theorem z_of {w1 w2 : WC} {x : Cy} {b L : Nat} {xs : Nat → Int32} (C : Lx w1 w2 x b L xs) (hS : Sv w1) (hX : Nx w1) {fz : Option Nat} (hJ : Jz w1 fz) {sa sv : Nat → Nat} (hT : Tx w1 sa sv) (hM : Md w2) (hL : L ≤ 3072) {i : Nat} (hi : i + 6 ≤ L) (k : ∀ μ ν, Rl μ ν → Lz w1 w2 x μ ν 1443 (lvL w1 w2 b i) []) {μ ν : Me} (h : Rl μ ν) : Lz w1 w2 x μ ν 351 (lvL w1 w2 b i) [] := by
  refine z_aload_n C dL_law_351 rfl rfl ?_
  refine z_arg (j := 1) C dL_law_352 dL_law_353 dL_law_354 dL_law_355 dL_law_356 ic_1 rfl rfl (by omega) hL rfl ?_
  refine z_arg (j := 2) C dL_law_357 dL_law_358 dL_law_359 dL_law_360 dL_law_361 ic_2 rfl rfl (by omega) hL rfl ?_
  refine z_i1 C dL_law_362 mi_X4_of (c_X4_of hS hX h.1.1 h.1.2) rfl hS.1.1 hS.1.2 rfl ml_L_35 (rk_of2 rfl) rfl (Nat.le_of_ble_eq_true rfl) rfl (fun r1 u1 p1 => ?_)
  refine z_aload_n C dL_law_365 rfl rfl ?_
  refine z_arg (j := 1) C dL_law_366 dL_law_367 dL_law_368 dL_law_369 dL_law_370 ic_1 rfl rfl (by omega) hL rfl ?_
  refine z_arg (j := 2) C dL_law_371 dL_law_372 dL_law_373 dL_law_374 dL_law_375 ic_2 rfl rfl (by omega) hL rfl ?_
  refine z_i2 C dL_law_376 mi_X5_of (c_X5_of hM h.1.2) rfl hM.1.1 hM.1.2 rfl ml_L_38 (rk_of2 rfl) rfl (Nat.le_of_ble_eq_true rfl) rfl (fun r2 u2 p2 => ?_)
  obtain ⟨e, hR⟩ := (Ag.px (ag_of h)) _ _ _ _ p1 p2
  subst e
  exact z_icmp_eq C 1443 382 dL_law_379 (by decide) rfl (fun _ => k _ _ hR) (fun q => absurd rfl q)

set_option maxRecDepth 100000 in
set_option maxHeartbeats 4000000 in
theorem z_change {w1 w2 : WC} {x : Cy} {b L : Nat} {xs : Nat → Int32} (C : Lx w1 w2 x b L xs) (hS : Sv w1) (hX : Nx w1) {fz : Option Nat} (hJ : Jz w1 fz) {sa sv : Nat → Nat} (hT : Tx w1 sa sv) (hM : Md w2) (hL : L ≤ 3072) {i : Nat} (hi : i + 6 ≤ L) (k : ∀ μ ν, Rl μ ν → Lz w1 w2 x μ ν 1443 (lvL w1 w2 b i) []) {μ ν : Me} (h : Rl μ ν) : Lz w1 w2 x μ ν 384 (lvL w1 w2 b i) [] := by
  refine z_aload_n C dL_law_384 rfl rfl ?_
  refine z_arg (j := 1) C dL_law_385 dL_law_386 dL_law_387 dL_law_388 dL_law_389 ic_1 rfl rfl (by omega) hL rfl ?_
  refine z_arg (j := 2) C dL_law_390 dL_law_391 dL_law_392 dL_law_393 dL_law_394 ic_2 rfl rfl (by omega) hL rfl ?_
  refine z_arg (j := 3) C dL_law_395 dL_law_396 dL_law_397 dL_law_398 dL_law_399 ic_3 rfl rfl (by omega) hL rfl ?_
  refine z_i1 C dL_law_400 mi_X4_change (c_X4_change hS hX h.1.1 h.1.2) rfl hS.1.1 hS.1.2 rfl ml_L_39 (rk_of2 rfl) rfl (Nat.le_of_ble_eq_true rfl) rfl (fun r1 u1 p1 => ?_)
  refine z_aload_n C dL_law_403 rfl rfl ?_
  refine z_arg (j := 1) C dL_law_404 dL_law_405 dL_law_406 dL_law_407 dL_law_408 ic_1 rfl rfl (by omega) hL rfl ?_
  refine z_arg (j := 2) C dL_law_409 dL_law_410 dL_law_411 dL_law_412 dL_law_413 ic_2 rfl rfl (by omega) hL rfl ?_
  refine z_arg (j := 3) C dL_law_414 dL_law_415 dL_law_416 dL_law_417 dL_law_418 ic_3 rfl rfl (by omega) hL rfl ?_
  refine z_i2 C dL_law_419 mi_X5_change (c_X5_change hM h.1.2) rfl hM.1.1 hM.1.2 rfl ml_L_43 (rk_of2 rfl) rfl (Nat.le_of_ble_eq_true rfl) rfl (fun r2 u2 p2 => ?_)
  obtain ⟨e, hR⟩ := (Ag.px (ag_change h)) _ _ _ _ p1 p2
  subst e
  exact z_icmp_eq C 1443 425 dL_law_422 (by decide) rfl (fun _ => k _ _ hR) (fun q => absurd rfl q)

set_option maxRecDepth 100000 in
set_option maxHeartbeats 4000000 in
theorem z_go {w1 w2 : WC} {x : Cy} {b L : Nat} {xs : Nat → Int32} (C : Lx w1 w2 x b L xs) (hS : Sv w1) (hX : Nx w1) {fz : Option Nat} (hJ : Jz w1 fz) {sa sv : Nat → Nat} (hT : Tx w1 sa sv) (hM : Md w2) (hL : L ≤ 3072) {i : Nat} (hi : i + 6 ≤ L) (k : ∀ μ ν, Rl μ ν → Lz w1 w2 x μ ν 1443 (lvL w1 w2 b i) []) {μ ν : Me} (h : Rl μ ν) : Lz w1 w2 x μ ν 427 (lvL w1 w2 b i) [] := by
  refine z_aload_n C dL_law_427 rfl rfl ?_
  refine z_arg (j := 1) C dL_law_428 dL_law_429 dL_law_430 dL_law_431 dL_law_432 ic_1 rfl rfl (by omega) hL rfl ?_
  refine z_i1 C dL_law_433 mi_X4_go (c_X4_go hS hX h.1.1 h.1.2) rfl hS.1.1 hS.1.2 rfl ml_L_44 (rk_of2 rfl) rfl (Nat.le_of_ble_eq_true rfl) rfl (fun r1 u1 p1 => ?_)
  refine z_aload_n C dL_law_436 rfl rfl ?_
  refine z_arg (j := 1) C dL_law_437 dL_law_438 dL_law_439 dL_law_440 dL_law_441 ic_1 rfl rfl (by omega) hL rfl ?_
  refine z_i2 C dL_law_442 mi_X5_go (c_X5_go hM h.1.2) rfl hM.1.1 hM.1.2 rfl ml_L_47 (rk_of2 rfl) rfl (Nat.le_of_ble_eq_true rfl) rfl (fun r2 u2 p2 => ?_)
  obtain ⟨e, hR⟩ := (Ag.px (ag_go h)) _ _ _ _ p1 p2
  subst e
  exact z_icmp_eq C 1443 448 dL_law_445 (by decide) rfl (fun _ => k _ _ hR) (fun q => absurd rfl q)

set_option maxRecDepth 100000 in
set_option maxHeartbeats 4000000 in
theorem z_now {w1 w2 : WC} {x : Cy} {b L : Nat} {xs : Nat → Int32} (C : Lx w1 w2 x b L xs) (hS : Sv w1) (hX : Nx w1) {fz : Option Nat} (hJ : Jz w1 fz) {sa sv : Nat → Nat} (hT : Tx w1 sa sv) (hM : Md w2) (hL : L ≤ 3072) {i : Nat} (hi : i + 6 ≤ L) (k : ∀ μ ν, Rl μ ν → Lz w1 w2 x μ ν 1443 (lvL w1 w2 b i) []) {μ ν : Me} (h : Rl μ ν) : Lz w1 w2 x μ ν 450 (lvL w1 w2 b i) [] := by
  refine z_aload_n C dL_law_450 rfl rfl ?_
  refine z_arg (j := 1) C dL_law_451 dL_law_452 dL_law_453 dL_law_454 dL_law_455 ic_1 rfl rfl (by omega) hL rfl ?_
  refine z_i1 C dL_law_456 mi_X4_now (c_X4_now hS hX h.1.1 h.1.2) rfl hS.1.1 hS.1.2 rfl ml_L_48 (rk_of2 rfl) rfl (Nat.le_of_ble_eq_true rfl) rfl (fun r1 u1 p1 => ?_)
  refine z_aload_n C dL_law_459 rfl rfl ?_
  refine z_arg (j := 1) C dL_law_460 dL_law_461 dL_law_462 dL_law_463 dL_law_464 ic_1 rfl rfl (by omega) hL rfl ?_
  refine z_i2 C dL_law_465 mi_X5_now (c_X5_now hM h.1.2) rfl hM.1.1 hM.1.2 rfl ml_L_51 (rk_of2 rfl) rfl (Nat.le_of_ble_eq_true rfl) rfl (fun r2 u2 p2 => ?_)
  obtain ⟨e, hR⟩ := (Ag.px (ag_now h)) _ _ _ _ p1 p2
  subst e
  exact z_icmp_eq C 1443 471 dL_law_468 (by decide) rfl (fun _ => k _ _ hR) (fun q => absurd rfl q)

set_option maxRecDepth 100000 in
set_option maxHeartbeats 4000000 in
theorem z_ahead {w1 w2 : WC} {x : Cy} {b L : Nat} {xs : Nat → Int32} (C : Lx w1 w2 x b L xs) (hS : Sv w1) (hX : Nx w1) {fz : Option Nat} (hJ : Jz w1 fz) {sa sv : Nat → Nat} (hT : Tx w1 sa sv) (hM : Md w2) (hL : L ≤ 3072) {i : Nat} (hi : i + 6 ≤ L) (k : ∀ μ ν, Rl μ ν → Lz w1 w2 x μ ν 1443 (lvL w1 w2 b i) []) {μ ν : Me} (h : Rl μ ν) : Lz w1 w2 x μ ν 473 (lvL w1 w2 b i) [] := by
  refine z_aload_n C dL_law_473 rfl rfl ?_
  refine z_arg (j := 1) C dL_law_474 dL_law_475 dL_law_476 dL_law_477 dL_law_478 ic_1 rfl rfl (by omega) hL rfl ?_
  refine z_arg (j := 2) C dL_law_479 dL_law_480 dL_law_481 dL_law_482 dL_law_483 ic_2 rfl rfl (by omega) hL rfl ?_
  refine z_arg (j := 3) C dL_law_484 dL_law_485 dL_law_486 dL_law_487 dL_law_488 ic_3 rfl rfl (by omega) hL rfl ?_
  refine z_i1 C dL_law_489 mi_X4_ahead (c_X4_ahead hS hX h.1.1 h.1.2) rfl hS.1.1 hS.1.2 rfl ml_L_52 (rk_of2 rfl) rfl (Nat.le_of_ble_eq_true rfl) rfl (fun r1 u1 p1 => ?_)
  refine z_aload_n C dL_law_492 rfl rfl ?_
  refine z_arg (j := 1) C dL_law_493 dL_law_494 dL_law_495 dL_law_496 dL_law_497 ic_1 rfl rfl (by omega) hL rfl ?_
  refine z_arg (j := 2) C dL_law_498 dL_law_499 dL_law_500 dL_law_501 dL_law_502 ic_2 rfl rfl (by omega) hL rfl ?_
  refine z_arg (j := 3) C dL_law_503 dL_law_504 dL_law_505 dL_law_506 dL_law_507 ic_3 rfl rfl (by omega) hL rfl ?_
  refine z_i2 C dL_law_508 mi_X5_ahead (c_X5_ahead hM h.1.2) rfl hM.1.1 hM.1.2 rfl ml_L_55 (rk_of2 rfl) rfl (Nat.le_of_ble_eq_true rfl) rfl (fun r2 u2 p2 => ?_)
  obtain ⟨e, hR⟩ := (Ag.pt (ag_ahead h)) _ _ _ _ p1 p2
  subst e
  exact z_icmp_eq C 1443 514 dL_law_511 (by decide) rfl (fun _ => k _ _ hR) (fun q => absurd rfl q)

set_option maxRecDepth 100000 in
set_option maxHeartbeats 4000000 in
theorem z_glad {w1 w2 : WC} {x : Cy} {b L : Nat} {xs : Nat → Int32} (C : Lx w1 w2 x b L xs) (hS : Sv w1) (hX : Nx w1) {fz : Option Nat} (hJ : Jz w1 fz) {sa sv : Nat → Nat} (hT : Tx w1 sa sv) (hM : Md w2) (hL : L ≤ 3072) {i : Nat} (hi : i + 6 ≤ L) (k : ∀ μ ν, Rl μ ν → Lz w1 w2 x μ ν 1443 (lvL w1 w2 b i) []) {μ ν : Me} (h : Rl μ ν) : Lz w1 w2 x μ ν 516 (lvL w1 w2 b i) [] := by
  refine z_aload_n C dL_law_516 rfl rfl ?_
  refine z_arg (j := 1) C dL_law_517 dL_law_518 dL_law_519 dL_law_520 dL_law_521 ic_1 rfl rfl (by omega) hL rfl ?_
  refine z_arg (j := 2) C dL_law_522 dL_law_523 dL_law_524 dL_law_525 dL_law_526 ic_2 rfl rfl (by omega) hL rfl ?_
  refine z_i1 C dL_law_527 mi_X4_glad (c_X4_glad hS hX h.1.1 h.1.2) rfl hS.1.1 hS.1.2 rfl ml_L_56 (rk_of2 rfl) rfl (Nat.le_of_ble_eq_true rfl) rfl (fun r1 u1 p1 => ?_)
  refine z_aload_n C dL_law_530 rfl rfl ?_
  refine z_arg (j := 1) C dL_law_531 dL_law_532 dL_law_533 dL_law_534 dL_law_535 ic_1 rfl rfl (by omega) hL rfl ?_
  refine z_arg (j := 2) C dL_law_536 dL_law_537 dL_law_538 dL_law_539 dL_law_540 ic_2 rfl rfl (by omega) hL rfl ?_
  refine z_i2 C dL_law_541 mi_X5_glad (c_X5_glad hM h.1.2) rfl hM.1.1 hM.1.2 rfl ml_L_59 (rk_of2 rfl) rfl (Nat.le_of_ble_eq_true rfl) rfl (fun r2 u2 p2 => ?_)
  obtain ⟨e, hR⟩ := (ag_glad h) _ _ _ _ p1 p2
  subst e
  exact z_icmp_eq C 1443 547 dL_law_544 (by decide) rfl (fun _ => k _ _ hR) (fun q => absurd rfl q)

set_option maxRecDepth 100000 in
set_option maxHeartbeats 4000000 in
theorem z_sad {w1 w2 : WC} {x : Cy} {b L : Nat} {xs : Nat → Int32} (C : Lx w1 w2 x b L xs) (hS : Sv w1) (hX : Nx w1) {fz : Option Nat} (hJ : Jz w1 fz) {sa sv : Nat → Nat} (hT : Tx w1 sa sv) (hM : Md w2) (hL : L ≤ 3072) {i : Nat} (hi : i + 6 ≤ L) (k : ∀ μ ν, Rl μ ν → Lz w1 w2 x μ ν 1443 (lvL w1 w2 b i) []) {μ ν : Me} (h : Rl μ ν) : Lz w1 w2 x μ ν 549 (lvL w1 w2 b i) [] := by
  refine z_aload_n C dL_law_549 rfl rfl ?_
  refine z_arg (j := 1) C dL_law_550 dL_law_551 dL_law_552 dL_law_553 dL_law_554 ic_1 rfl rfl (by omega) hL rfl ?_
  refine z_arg (j := 2) C dL_law_555 dL_law_556 dL_law_557 dL_law_558 dL_law_559 ic_2 rfl rfl (by omega) hL rfl ?_
  refine z_i1 C dL_law_560 mi_X4_sad (c_X4_sad hS hX h.1.1 h.1.2) rfl hS.1.1 hS.1.2 rfl ml_L_60 (rk_of2 rfl) rfl (Nat.le_of_ble_eq_true rfl) rfl (fun r1 u1 p1 => ?_)
  refine z_aload_n C dL_law_563 rfl rfl ?_
  refine z_arg (j := 1) C dL_law_564 dL_law_565 dL_law_566 dL_law_567 dL_law_568 ic_1 rfl rfl (by omega) hL rfl ?_
  refine z_arg (j := 2) C dL_law_569 dL_law_570 dL_law_571 dL_law_572 dL_law_573 ic_2 rfl rfl (by omega) hL rfl ?_
  refine z_i2 C dL_law_574 mi_X5_sad (c_X5_sad hM h.1.2) rfl hM.1.1 hM.1.2 rfl ml_L_63 (rk_of2 rfl) rfl (Nat.le_of_ble_eq_true rfl) rfl (fun r2 u2 p2 => ?_)
  obtain ⟨e, hR⟩ := (ag_sad h) _ _ _ _ p1 p2
  subst e
  exact z_icmp_eq C 1443 580 dL_law_577 (by decide) rfl (fun _ => k _ _ hR) (fun q => absurd rfl q)

set_option maxRecDepth 100000 in
set_option maxHeartbeats 4000000 in
theorem z_when {w1 w2 : WC} {x : Cy} {b L : Nat} {xs : Nat → Int32} (C : Lx w1 w2 x b L xs) (hS : Sv w1) (hX : Nx w1) {fz : Option Nat} (hJ : Jz w1 fz) {sa sv : Nat → Nat} (hT : Tx w1 sa sv) (hM : Md w2) (hL : L ≤ 3072) {i : Nat} (hi : i + 6 ≤ L) (k : ∀ μ ν, Rl μ ν → Lz w1 w2 x μ ν 1443 (lvL w1 w2 b i) []) {μ ν : Me} (h : Rl μ ν) : Lz w1 w2 x μ ν 582 (lvL w1 w2 b i) [] := by
  refine z_aload_n C dL_law_582 rfl rfl ?_
  refine z_arg (j := 1) C dL_law_583 dL_law_584 dL_law_585 dL_law_586 dL_law_587 ic_1 rfl rfl (by omega) hL rfl ?_
  refine z_arg (j := 2) C dL_law_588 dL_law_589 dL_law_590 dL_law_591 dL_law_592 ic_2 rfl rfl (by omega) hL rfl ?_
  refine z_i1 C dL_law_593 mi_X4_when (c_X4_when hS hX h.1.1 h.1.2) rfl hS.1.1 hS.1.2 rfl ml_L_64 (rk_of2 rfl) rfl (Nat.le_of_ble_eq_true rfl) rfl (fun r1 u1 p1 => ?_)
  refine z_aload_n C dL_law_596 rfl rfl ?_
  refine z_arg (j := 1) C dL_law_597 dL_law_598 dL_law_599 dL_law_600 dL_law_601 ic_1 rfl rfl (by omega) hL rfl ?_
  refine z_arg (j := 2) C dL_law_602 dL_law_603 dL_law_604 dL_law_605 dL_law_606 ic_2 rfl rfl (by omega) hL rfl ?_
  refine z_i2 C dL_law_607 mi_X5_when (c_X5_when hM h.1.2) rfl hM.1.1 hM.1.2 rfl ml_L_67 (rk_of2 rfl) rfl (Nat.le_of_ble_eq_true rfl) rfl (fun r2 u2 p2 => ?_)
  obtain ⟨e, hR⟩ := (ag_when h) _ _ _ _ p1 p2
  subst e
  exact z_icmp_eq C 1443 613 dL_law_610 (by decide) rfl (fun _ => k _ _ hR) (fun q => absurd rfl q)

set_option maxRecDepth 100000 in
set_option maxHeartbeats 4000000 in
theorem z_well {w1 w2 : WC} {x : Cy} {b L : Nat} {xs : Nat → Int32} (C : Lx w1 w2 x b L xs) (hS : Sv w1) (hX : Nx w1) {fz : Option Nat} (hJ : Jz w1 fz) {sa sv : Nat → Nat} (hT : Tx w1 sa sv) (hM : Md w2) (hL : L ≤ 3072) {i : Nat} (hi : i + 6 ≤ L) (k : ∀ μ ν, Rl μ ν → Lz w1 w2 x μ ν 1443 (lvL w1 w2 b i) []) {μ ν : Me} (h : Rl μ ν) : Lz w1 w2 x μ ν 615 (lvL w1 w2 b i) [] := by
  refine z_aload_n C dL_law_615 rfl rfl ?_
  refine z_i1 C dL_law_616 mi_X4_well (c_X4_well hS hX h.1.1 h.1.2) rfl hS.1.1 hS.1.2 rfl ml_L_68 (rk_of2 rfl) rfl (Nat.le_of_ble_eq_true rfl) rfl (fun r1 u1 p1 => ?_)
  refine z_aload_n C dL_law_619 rfl rfl ?_
  refine z_i2 C dL_law_620 mi_X5_well (c_X5_well hM h.1.2) rfl hM.1.1 hM.1.2 rfl ml_L_72 (rk_of2 rfl) rfl (Nat.le_of_ble_eq_true rfl) rfl (fun r2 u2 p2 => ?_)
  obtain ⟨e, hR⟩ := (ag_well h) _ _ _ _ p1 p2
  subst e
  exact z_icmp_eq C 1443 626 dL_law_623 (by decide) rfl (fun _ => k _ _ hR) (fun q => absurd rfl q)

set_option maxRecDepth 100000 in
set_option maxHeartbeats 4000000 in
theorem z_longFor {w1 w2 : WC} {x : Cy} {b L : Nat} {xs : Nat → Int32} (C : Lx w1 w2 x b L xs) (hS : Sv w1) (hX : Nx w1) {fz : Option Nat} (hJ : Jz w1 fz) {sa sv : Nat → Nat} (hT : Tx w1 sa sv) (hM : Md w2) (hL : L ≤ 3072) {i : Nat} (hi : i + 6 ≤ L) (k : ∀ μ ν, Rl μ ν → Lz w1 w2 x μ ν 1443 (lvL w1 w2 b i) []) {μ ν : Me} (h : Rl μ ν) : Lz w1 w2 x μ ν 628 (lvL w1 w2 b i) [] := by
  refine z_aload_n C dL_law_628 rfl rfl ?_
  refine z_arg (j := 1) C dL_law_629 dL_law_630 dL_law_631 dL_law_632 dL_law_633 ic_1 rfl rfl (by omega) hL rfl ?_
  refine z_i1 C dL_law_634 mi_X4_longFor (c_X4_longFor hS hX h.1.1 h.1.2) rfl hS.1.1 hS.1.2 rfl ml_L_73 (rk_of2 rfl) rfl (Nat.le_of_ble_eq_true rfl) rfl (fun r1 u1 p1 => ?_)
  refine z_aload_n C dL_law_637 rfl rfl ?_
  refine z_arg (j := 1) C dL_law_638 dL_law_639 dL_law_640 dL_law_641 dL_law_642 ic_1 rfl rfl (by omega) hL rfl ?_
  refine z_i2 C dL_law_643 mi_X5_longFor (c_X5_longFor hM h.1.2) rfl hM.1.1 hM.1.2 rfl ml_L_76 (rk_of2 rfl) rfl (Nat.le_of_ble_eq_true rfl) rfl (fun r2 u2 p2 => ?_)
  obtain ⟨e, hR⟩ := (ag_longFor h) _ _ _ _ p1 p2
  subst e
  exact z_icmp_eq C 1443 649 dL_law_646 (by decide) rfl (fun _ => k _ _ hR) (fun q => absurd rfl q)

set_option maxRecDepth 100000 in
set_option maxHeartbeats 4000000 in
theorem z_chairsFor {w1 w2 : WC} {x : Cy} {b L : Nat} {xs : Nat → Int32} (C : Lx w1 w2 x b L xs) (hS : Sv w1) (hX : Nx w1) {fz : Option Nat} (hJ : Jz w1 fz) {sa sv : Nat → Nat} (hT : Tx w1 sa sv) (hM : Md w2) (hL : L ≤ 3072) {i : Nat} (hi : i + 6 ≤ L) (k : ∀ μ ν, Rl μ ν → Lz w1 w2 x μ ν 1443 (lvL w1 w2 b i) []) {μ ν : Me} (h : Rl μ ν) : Lz w1 w2 x μ ν 651 (lvL w1 w2 b i) [] := by
  refine z_aload_n C dL_law_651 rfl rfl ?_
  refine z_arg (j := 1) C dL_law_652 dL_law_653 dL_law_654 dL_law_655 dL_law_656 ic_1 rfl rfl (by omega) hL rfl ?_
  refine z_arg (j := 2) C dL_law_657 dL_law_658 dL_law_659 dL_law_660 dL_law_661 ic_2 rfl rfl (by omega) hL rfl ?_
  refine z_i1 C dL_law_662 mi_X4_chairsFor (c_X4_chairsFor hS hX h.1.1 h.1.2) rfl hS.1.1 hS.1.2 rfl ml_L_77 (rk_of2 rfl) rfl (Nat.le_of_ble_eq_true rfl) rfl (fun r1 u1 p1 => ?_)
  refine z_aload_n C dL_law_665 rfl rfl ?_
  refine z_arg (j := 1) C dL_law_666 dL_law_667 dL_law_668 dL_law_669 dL_law_670 ic_1 rfl rfl (by omega) hL rfl ?_
  refine z_arg (j := 2) C dL_law_671 dL_law_672 dL_law_673 dL_law_674 dL_law_675 ic_2 rfl rfl (by omega) hL rfl ?_
  refine z_i2 C dL_law_676 mi_X5_chairsFor (c_X5_chairsFor hM h.1.2) rfl hM.1.1 hM.1.2 rfl ml_L_80 (rk_of2 rfl) rfl (Nat.le_of_ble_eq_true rfl) rfl (fun r2 u2 p2 => ?_)
  obtain ⟨e, hR⟩ := (ag_chairsFor h) _ _ _ _ p1 p2
  subst e
  exact z_icmp_eq C 1443 682 dL_law_679 (by decide) rfl (fun _ => k _ _ hR) (fun q => absurd rfl q)

set_option maxRecDepth 100000 in
set_option maxHeartbeats 4000000 in
theorem z_volunteersFor {w1 w2 : WC} {x : Cy} {b L : Nat} {xs : Nat → Int32} (C : Lx w1 w2 x b L xs) (hS : Sv w1) (hX : Nx w1) {fz : Option Nat} (hJ : Jz w1 fz) {sa sv : Nat → Nat} (hT : Tx w1 sa sv) (hM : Md w2) (hL : L ≤ 3072) {i : Nat} (hi : i + 6 ≤ L) (k : ∀ μ ν, Rl μ ν → Lz w1 w2 x μ ν 1443 (lvL w1 w2 b i) []) {μ ν : Me} (h : Rl μ ν) : Lz w1 w2 x μ ν 684 (lvL w1 w2 b i) [] := by
  refine z_aload_n C dL_law_684 rfl rfl ?_
  refine z_arg (j := 1) C dL_law_685 dL_law_686 dL_law_687 dL_law_688 dL_law_689 ic_1 rfl rfl (by omega) hL rfl ?_
  refine z_arg (j := 2) C dL_law_690 dL_law_691 dL_law_692 dL_law_693 dL_law_694 ic_2 rfl rfl (by omega) hL rfl ?_
  refine z_i1 C dL_law_695 mi_X4_volunteersFor (c_X4_volunteersFor hS hX h.1.1 h.1.2) rfl hS.1.1 hS.1.2 rfl ml_L_81 (rk_of2 rfl) rfl (Nat.le_of_ble_eq_true rfl) rfl (fun r1 u1 p1 => ?_)
  refine z_aload_n C dL_law_698 rfl rfl ?_
  refine z_arg (j := 1) C dL_law_699 dL_law_700 dL_law_701 dL_law_702 dL_law_703 ic_1 rfl rfl (by omega) hL rfl ?_
  refine z_arg (j := 2) C dL_law_704 dL_law_705 dL_law_706 dL_law_707 dL_law_708 ic_2 rfl rfl (by omega) hL rfl ?_
  refine z_i2 C dL_law_709 mi_X5_volunteersFor (c_X5_volunteersFor hM h.1.2) rfl hM.1.1 hM.1.2 rfl ml_L_84 (rk_of2 rfl) rfl (Nat.le_of_ble_eq_true rfl) rfl (fun r2 u2 p2 => ?_)
  obtain ⟨e, hR⟩ := (ag_volunteersFor h) _ _ _ _ p1 p2
  subst e
  exact z_icmp_eq C 1443 715 dL_law_712 (by decide) rfl (fun _ => k _ _ hR) (fun q => absurd rfl q)

set_option maxRecDepth 100000 in
set_option maxHeartbeats 4000000 in
theorem z_comeOn {w1 w2 : WC} {x : Cy} {b L : Nat} {xs : Nat → Int32} (C : Lx w1 w2 x b L xs) (hS : Sv w1) (hX : Nx w1) {fz : Option Nat} (hJ : Jz w1 fz) {sa sv : Nat → Nat} (hT : Tx w1 sa sv) (hM : Md w2) (hL : L ≤ 3072) {i : Nat} (hi : i + 6 ≤ L) (k : ∀ μ ν, Rl μ ν → Lz w1 w2 x μ ν 1443 (lvL w1 w2 b i) []) {μ ν : Me} (h : Rl μ ν) : Lz w1 w2 x μ ν 717 (lvL w1 w2 b i) [] := by
  refine z_aload_n C dL_law_717 rfl rfl ?_
  refine z_arg (j := 1) C dL_law_718 dL_law_719 dL_law_720 dL_law_721 dL_law_722 ic_1 rfl rfl (by omega) hL rfl ?_
  refine z_arg (j := 2) C dL_law_723 dL_law_724 dL_law_725 dL_law_726 dL_law_727 ic_2 rfl rfl (by omega) hL rfl ?_
  refine z_i1 C dL_law_728 mi_X4_comeOn (c_X4_comeOn hS hX h.1.1 h.1.2) rfl hS.1.1 hS.1.2 rfl ml_L_85 (rk_of2 rfl) rfl (Nat.le_of_ble_eq_true rfl) rfl (fun r1 u1 p1 => ?_)
  refine z_aload_n C dL_law_731 rfl rfl ?_
  refine z_arg (j := 1) C dL_law_732 dL_law_733 dL_law_734 dL_law_735 dL_law_736 ic_1 rfl rfl (by omega) hL rfl ?_
  refine z_arg (j := 2) C dL_law_737 dL_law_738 dL_law_739 dL_law_740 dL_law_741 ic_2 rfl rfl (by omega) hL rfl ?_
  refine z_i2 C dL_law_742 mi_X5_comeOn (c_X5_comeOn hM h.1.2) rfl hM.1.1 hM.1.2 rfl ml_L_88 (rk_of2 rfl) rfl (Nat.le_of_ble_eq_true rfl) rfl (fun r2 u2 p2 => ?_)
  obtain ⟨e, hR⟩ := (ag_comeOn h) _ _ _ _ p1 p2
  subst e
  exact z_icmp_eq C 1443 748 dL_law_745 (by decide) rfl (fun _ => k _ _ hR) (fun q => absurd rfl q)

set_option maxRecDepth 100000 in
set_option maxHeartbeats 4000000 in
theorem z_kindFor {w1 w2 : WC} {x : Cy} {b L : Nat} {xs : Nat → Int32} (C : Lx w1 w2 x b L xs) (hS : Sv w1) (hX : Nx w1) {fz : Option Nat} (hJ : Jz w1 fz) {sa sv : Nat → Nat} (hT : Tx w1 sa sv) (hM : Md w2) (hL : L ≤ 3072) {i : Nat} (hi : i + 6 ≤ L) (k : ∀ μ ν, Rl μ ν → Lz w1 w2 x μ ν 1443 (lvL w1 w2 b i) []) {μ ν : Me} (h : Rl μ ν) : Lz w1 w2 x μ ν 750 (lvL w1 w2 b i) [] := by
  refine z_aload_n C dL_law_750 rfl rfl ?_
  refine z_arg (j := 1) C dL_law_751 dL_law_752 dL_law_753 dL_law_754 dL_law_755 ic_1 rfl rfl (by omega) hL rfl ?_
  refine z_arg (j := 2) C dL_law_756 dL_law_757 dL_law_758 dL_law_759 dL_law_760 ic_2 rfl rfl (by omega) hL rfl ?_
  refine z_i1 C dL_law_761 mi_X4_kindFor (c_X4_kindFor hS hX h.1.1 h.1.2) rfl hS.1.1 hS.1.2 rfl ml_L_89 (rk_of2 rfl) rfl (Nat.le_of_ble_eq_true rfl) rfl (fun r1 u1 p1 => ?_)
  refine z_aload_n C dL_law_764 rfl rfl ?_
  refine z_arg (j := 1) C dL_law_765 dL_law_766 dL_law_767 dL_law_768 dL_law_769 ic_1 rfl rfl (by omega) hL rfl ?_
  refine z_arg (j := 2) C dL_law_770 dL_law_771 dL_law_772 dL_law_773 dL_law_774 ic_2 rfl rfl (by omega) hL rfl ?_
  refine z_i2 C dL_law_775 mi_X5_kindFor (c_X5_kindFor hM h.1.2) rfl hM.1.1 hM.1.2 rfl ml_L_92 (rk_of2 rfl) rfl (Nat.le_of_ble_eq_true rfl) rfl (fun r2 u2 p2 => ?_)
  obtain ⟨e, hR⟩ := (ag_kindFor h) _ _ _ _ p1 p2
  subst e
  exact z_icmp_eq C 1443 781 dL_law_778 (by decide) rfl (fun _ => k _ _ hR) (fun q => absurd rfl q)

set_option maxRecDepth 100000 in
set_option maxHeartbeats 4000000 in
theorem z_friendFor {w1 w2 : WC} {x : Cy} {b L : Nat} {xs : Nat → Int32} (C : Lx w1 w2 x b L xs) (hS : Sv w1) (hX : Nx w1) {fz : Option Nat} (hJ : Jz w1 fz) {sa sv : Nat → Nat} (hT : Tx w1 sa sv) (hM : Md w2) (hL : L ≤ 3072) {i : Nat} (hi : i + 6 ≤ L) (k : ∀ μ ν, Rl μ ν → Lz w1 w2 x μ ν 1443 (lvL w1 w2 b i) []) {μ ν : Me} (h : Rl μ ν) : Lz w1 w2 x μ ν 783 (lvL w1 w2 b i) [] := by
  refine z_aload_n C dL_law_783 rfl rfl ?_
  refine z_arg (j := 1) C dL_law_784 dL_law_785 dL_law_786 dL_law_787 dL_law_788 ic_1 rfl rfl (by omega) hL rfl ?_
  refine z_arg (j := 2) C dL_law_789 dL_law_790 dL_law_791 dL_law_792 dL_law_793 ic_2 rfl rfl (by omega) hL rfl ?_
  refine z_i1 C dL_law_794 mi_X4_friendFor (c_X4_friendFor hS hX h.1.1 h.1.2) rfl hS.1.1 hS.1.2 rfl ml_L_93 (rk_of2 rfl) rfl (Nat.le_of_ble_eq_true rfl) rfl (fun r1 u1 p1 => ?_)
  refine z_aload_n C dL_law_797 rfl rfl ?_
  refine z_arg (j := 1) C dL_law_798 dL_law_799 dL_law_800 dL_law_801 dL_law_802 ic_1 rfl rfl (by omega) hL rfl ?_
  refine z_arg (j := 2) C dL_law_803 dL_law_804 dL_law_805 dL_law_806 dL_law_807 ic_2 rfl rfl (by omega) hL rfl ?_
  refine z_i2 C dL_law_808 mi_X5_friendFor (c_X5_friendFor hM h.1.2) rfl hM.1.1 hM.1.2 rfl ml_L_96 (rk_of2 rfl) rfl (Nat.le_of_ble_eq_true rfl) rfl (fun r2 u2 p2 => ?_)
  obtain ⟨e, hR⟩ := (ag_friendFor h) _ _ _ _ p1 p2
  subst e
  exact z_icmp_eq C 1443 814 dL_law_811 (by decide) rfl (fun _ => k _ _ hR) (fun q => absurd rfl q)

set_option maxRecDepth 100000 in
set_option maxHeartbeats 4000000 in
theorem z_away {w1 w2 : WC} {x : Cy} {b L : Nat} {xs : Nat → Int32} (C : Lx w1 w2 x b L xs) (hS : Sv w1) (hX : Nx w1) {fz : Option Nat} (hJ : Jz w1 fz) {sa sv : Nat → Nat} (hT : Tx w1 sa sv) (hM : Md w2) (hL : L ≤ 3072) {i : Nat} (hi : i + 6 ≤ L) (k : ∀ μ ν, Rl μ ν → Lz w1 w2 x μ ν 1443 (lvL w1 w2 b i) []) {μ ν : Me} (h : Rl μ ν) : Lz w1 w2 x μ ν 816 (lvL w1 w2 b i) [] := by
  refine z_aload_n C dL_law_816 rfl rfl ?_
  refine z_arg (j := 1) C dL_law_817 dL_law_818 dL_law_819 dL_law_820 dL_law_821 ic_1 rfl rfl (by omega) hL rfl ?_
  refine z_arg (j := 2) C dL_law_822 dL_law_823 dL_law_824 dL_law_825 dL_law_826 ic_2 rfl rfl (by omega) hL rfl ?_
  refine z_i1 C dL_law_827 mi_X4_away (c_X4_away hS hX h.1.1 h.1.2) rfl hS.1.1 hS.1.2 rfl ml_L_97 (rk_of2 rfl) rfl (Nat.le_of_ble_eq_true rfl) rfl (fun r1 u1 p1 => ?_)
  refine z_aload_n C dL_law_830 rfl rfl ?_
  refine z_arg (j := 1) C dL_law_831 dL_law_832 dL_law_833 dL_law_834 dL_law_835 ic_1 rfl rfl (by omega) hL rfl ?_
  refine z_arg (j := 2) C dL_law_836 dL_law_837 dL_law_838 dL_law_839 dL_law_840 ic_2 rfl rfl (by omega) hL rfl ?_
  refine z_i2 C dL_law_841 mi_X5_away (c_X5_away hM h.1.2) rfl hM.1.1 hM.1.2 rfl ml_L_100 (rk_of2 rfl) rfl (Nat.le_of_ble_eq_true rfl) rfl (fun r2 u2 p2 => ?_)
  obtain ⟨e, hR⟩ := (ag_away h) _ _ _ _ p1 p2
  subst e
  exact z_icmp_eq C 1443 847 dL_law_844 (by decide) rfl (fun _ => k _ _ hR) (fun q => absurd rfl q)
