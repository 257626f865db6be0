set_option maxHeartbeats 4000000 in
set_option maxRecDepth 100000 in
theorem ct_X6_written_186 (l : Launch) (D : va_G) (a0 : Nat) (x0 : Int32) (x1 : Int32) (x2 : Int32) (a1 : Nat) (a2 : Nat) (a3 : Nat) (a4 : Nat) (a5 : Nat) (a6 : Nat) (k0 : ClassId) (a7 : Nat) (a8 : Nat) (a9 : Nat) (a10 : Nat) (a11 : Nat) (a12 : Nat) (a13 : Nat) (a14 : Nat) (a15 : Nat) (a16 : Nat) (a17 : Nat) (a18 : Nat) (a19 : Nat) (a20 : Nat) (a21 : Nat) (a22 : Nat) (a23 : Nat) (a24 : Nat) : ka_R l D yX6_written wsX6_written 3 64 [.ref a0, .int x0, .int x1, .int x2] [(a0, .inr (6, [.ref a1, .ref a2, .ref a3, .ref a4, .int (-1), .int (-1), .int 0, .int 3, .int 3])), (a3, .inr (0, [.ref a5, .ref a6, .int 0])), (a5, .inl (k0, 6, .inr (.inr (.inr (.inr (va_up (va_up (va_up (va_up (va_up (va_up (fun _ => none) 0 (some a7)) 1 (some a8)) 2 (some a9)) 3 (some a10)) 4 (some a11)) 5 (some a12))))))), (a7, .inr (2, [.ref a13, .ref a14, .int 0, .null])), (a8, .inr (2, [.ref a15, .ref a16, .int 0, .null])), (a9, .inr (2, [.ref a17, .ref a18, .int 0, .null])), (a10, .inr (2, [.ref a19, .ref a20, .int 0, .null])), (a11, .inr (2, [.ref a21, .ref a22, .int 0, .null])), (a12, .inr (2, [.ref a23, .ref a24, .int 0, .null]))] [(k0, .object RX2)] (fun v => v = some (.int (-1))) := by
  refine ka_R_of (cc := cX6_written) (maxL := 5) (ret := (some .int)) (by decide) rfl (Nat.le_of_ble_eq_true rfl) ?_
  intro p e s m below meth c ls C hr hlk hP hK hE hN hl
  have hS : va_S (fun _ => False) s.heap s.heap [] := va_S.rf
  have C : CallFix p m c cX6_written 5 s [.ref a0, .int x0, .int x1, .int x2].toArray wsX6_written RX6 := C
  obtain ⟨hx, hb, hml, hown, hts⟩ := id C
  have hl : lv_has ls 5 [(0, .ref a0), (1, .int x0), (2, .int x1), (3, .int x2)] := hl
  have rx0 := ka_rng x0
  have rx1 := ka_rng x1
  have rx2 := ka_rng x2
  refine lv_aload_n hx hb dX6_written_0 rfl (lv_at hl 0 rfl) ?_
  refine lv_iload_n hx hb dX6_written_1 rfl (lv_at hl 1 rfl) ?_
  refine lv_iload_n hx hb dX6_written_2 rfl (lv_at hl 2 rfl) ?_
  refine ka_RV (n := 2) C (ct_X6_formulaAt_181 l D a0 x0 x1 a1 a2 a3 a4 a5 a6 k0 a7 a8 a9 a10 a11 a12 a13 a14 a15 a16 a17 a18 a19 a20 a21 a22 a23 a24) gX6_written_X6_formulaAt rfl (by decide +kernel) ⟨Nat.le_of_ble_eq_true rfl, Nat.le_of_ble_eq_true rfl⟩ hK hP hS hE hN [0, 1, 2, 3, 4, 5, 6, 7, 8] rfl [0] rfl (ci := 6) rfl rfl 0 rfl rfl hl.1 (rest := []) rfl (Nat.le_of_ble_eq_true rfl) dX6_written_3 ⟨Nat.le_of_ble_eq_true rfl, Nat.le_of_ble_eq_true rfl⟩ (fun v hv => ?_)
  subst hv
  refine ka_stk (w := [.null]) rfl ?_
  refine lv_astoreN (lv' := [(4, .null), (0, .ref a0), (1, .int x0), (2, .int x1), (3, .int x2)]) hx hb dX6_written_6 hl (by decide) rfl (fun ls hl => ?_)
  refine lv_aloadN hx hb dX6_written_8 (lv_at hl 0 rfl) ?_
  refine lv_ifnonnullN hx hb dX6_written_10 ?_
  refine lv_iconst (v := (-1)) hx hb dX6_written_13 (by decide) ?_
  exact ka_rRi C hr hlk rfl dX6_written_14
set_option maxHeartbeats 4000000 in
set_option maxRecDepth 100000 in
theorem ct_X7_written_187 (l : Launch) (D : va_G) (a0 : Nat) (x0 : Int32) (x1 : Int32) (x2 : Int32) (a1 : Nat) (a2 : Nat) (a3 : Nat) (a4 : Nat) (a5 : Nat) (a6 : Nat) (a7 : Nat) (a8 : Nat) (a9 : Nat) (a10 : Nat) (a11 : Nat) (a12 : Nat) (a13 : Nat) (a14 : Nat) (k0 : ClassId) (k1 : ClassId) : ka_R l D yX7_written wsX7_written 3 64 [.ref a0, .int x0, .int x1, .int x2] [(a0, .inr (7, [.ref a1, .int 0, .ref a2, .ref a3, .ref a4, .ref a5, .ref a6, .ref a7, .ref a8, .int (-1), .int 0, .int 3, .int 3, .int 0, .int 0, .int 0, .ref a9, .ref a10, .ref a11, .ref a12, .ref a13, .ref a14, .int 0, .int 0, .int 0, .int 0, .int (-1), .int 0])), (a5, .inl (k0, 6, .inl (fun _ => 0))), (a8, .inl (k1, 6, .inl (fun _ => 0)))] [(k0, .boolean), (k1, .int)] (fun v => v = some (.int (-1))) := by
  refine ka_R_of (cc := cX7_written) (maxL := 5) (ret := (some .int)) (by decide) rfl (Nat.le_of_ble_eq_true rfl) ?_
  intro p e s m below meth c ls C hr hlk hP hK hE hN hl
  have hS : va_S (fun _ => False) s.heap s.heap [] := va_S.rf
  have C : CallFix p m c cX7_written 5 s [.ref a0, .int x0, .int x1, .int x2].toArray wsX7_written RX7 := C
  obtain ⟨hx, hb, hml, hown, hts⟩ := id C
  have hl : lv_has ls 5 [(0, .ref a0), (1, .int x0), (2, .int x1), (3, .int x2)] := hl
  have rx0 := ka_rng x0
  have rx1 := ka_rng x1
  have rx2 := ka_rng x2
  refine lv_aload_n hx hb dX7_written_0 rfl (lv_at hl 0 rfl) ?_
  refine lv_iload_n hx hb dX7_written_1 rfl (lv_at hl 1 rfl) ?_
  refine lv_iload_n hx hb dX7_written_2 rfl (lv_at hl 2 rfl) ?_
  refine ka_RV (n := 2) C (ct_X7_formula_184 l D a0 x0 x1 a1 a2 a3 a4 a5 a6 a7 a8 a9 a10 a11 a12 a13 a14 k0 k1) gX7_written_X7_formula rfl (by decide +kernel) ⟨Nat.le_of_ble_eq_true rfl, Nat.le_of_ble_eq_true rfl⟩ hK hP hS hE hN [0, 1, 2] rfl [0, 1] rfl (ci := 7) rfl rfl 0 rfl rfl hl.1 (rest := []) rfl (Nat.le_of_ble_eq_true rfl) dX7_written_3 ⟨Nat.le_of_ble_eq_true rfl, Nat.le_of_ble_eq_true rfl⟩ (fun v hv => ?_)
  subst hv
  refine ka_stk (w := [.int (-1)]) rfl ?_
  refine lv_istore (lv' := [(4, .int (-1)), (0, .ref a0), (1, .int x0), (2, .int x1), (3, .int x2)]) hx hb dX7_written_6 hl (by decide) rfl (fun ls hl => ?_)
  refine lv_iload hx hb dX7_written_8 (lv_at hl 0 rfl) ?_
  refine lv_iconst (v := (-1)) hx hb dX7_written_10 (by decide) ?_
  refine lv_icmp_ne (tgt := 16) hx hb dX7_written_11 (by decide) (fun c_ => absurd (by decide) c_) (fun _ => ?_)
  refine lv_iconst (v := (-1)) hx hb dX7_written_14 (by decide) ?_
  exact ka_rRi C hr hlk rfl dX7_written_15
set_option maxHeartbeats 8000000 in
set_option maxRecDepth 100000 in
theorem lc_5 {p : Program} {l : Launch} {e : Env} {s : State} {m : MethodId} {below : List Frame} {meth : Method} {c : Code} {b : Nat} {xs : Nat → Int32} {D : va_G} {A : Nat → Prop} {H : Heap} {locs : List Loc} {ls : Array Slot} {q_1 : Nat} {q_386 : Nat} {q_387 : Nat} {q_388 : Nat} {q_389 : Nat} {q_390 : Nat} {k_391 : ClassId} {q_392 : Nat} {q_393 : Nat} {q_394 : Nat} {k_395 : ClassId} {q_396 : Nat} {q_397 : Nat} {q_398 : Nat} {q_399 : Nat} {q_400 : Nat} {q_401 : Nat} {k_402 : ClassId} {q_403 : Nat} {q_404 : Nat} {q_405 : Nat} {q_406 : Nat} {q_407 : Nat} {q_408 : Nat} {q_409 : Nat} {q_410 : Nat} {q_411 : Nat} {q_412 : Nat} {q_413 : Nat} {q_414 : Nat} {q_415 : Nat} {q_416 : Nat} {q_417 : Nat} {q_418 : Nat} {q_503 : Nat} {q_504 : Nat} {q_505 : Nat} {q_506 : Nat} {q_507 : Nat} {q_508 : Nat} {q_509 : Nat} {q_510 : Nat} {q_511 : Nat} {q_512 : Nat} {q_513 : Nat} {q_514 : Nat} {q_515 : Nat} {q_516 : Nat} {k_517 : ClassId} {k_518 : ClassId} {k_519 : ClassId} {k_520 : ClassId} {k_521 : ClassId} (C : CallFix p m c cL_law 4 s #[Value.ref b] wsL_law RL) (hr : meth.sig.returnType = ret) (hlk : meth.locks = false) (hX : va_X b 6 xs s s.heap) (hbl : b < s.heap.size) (hAe : A = fun q => s.heap.size ≤ q) (hK : va_K D vwCl [(k_391, .byte), (k_395, .object RX2), (k_402, .int), (k_517, .byte), (k_518, .boolean), (k_519, .boolean), (k_520, .boolean), (k_521, .int)] s) (hP : va_P D vwCl [(q_1, .inr (6, [.ref q_386, .ref q_387, .ref q_388, .ref q_389, .int (-1), .int (-1), .int 0, .int 3, .int 3])), (q_386, .inr (5, [.ref q_390, .int 0])), (q_390, .inl (k_391, 80, .inl (fun _ => 0))), (q_387, .inr (3, [.ref q_386, .ref q_392, .int 0, .int 0, .int 0, .int (-1), .int 3, .int 0])), (q_388, .inr (0, [.ref q_393, .ref q_394, .int 0])), (q_393, .inl (k_395, 6, .inr (.inr (.inr (.inr (va_up (va_up (va_up (va_up (va_up (va_up (fun _ => none) 0 (some q_396)) 1 (some q_397)) 2 (some q_398)) 3 (some q_399)) 4 (some q_400)) 5 (some q_401))))))), (q_394, .inl (k_402, 6, .inl (fun _ => 0))), (q_396, .inr (2, [.ref q_403, .ref q_404, .int 0, .null])), (q_397, .inr (2, [.ref q_405, .ref q_406, .int 0, .null])), (q_398, .inr (2, [.ref q_407, .ref q_408, .int 0, .null])), (q_399, .inr (2, [.ref q_409, .ref q_410, .int 0, .null])), (q_400, .inr (2, [.ref q_411, .ref q_412, .int 0, .null])), (q_401, .inr (2, [.ref q_413, .ref q_414, .int 0, .null])), (q_389, .inr (4, [.ref q_415, .ref q_416, .ref q_417, .int 0, .int 0, .int 0, .int 0, .int 0, .int 0])), (q_418, .inr (7, [.ref q_503, .int 0, .ref q_504, .ref q_505, .ref q_506, .ref q_507, .ref q_508, .ref q_509, .ref q_510, .int (-1), .int 0, .int 3, .int 3, .int 0, .int 0, .int 0, .ref q_511, .ref q_512, .ref q_513, .ref q_514, .ref q_515, .ref q_516, .int 0, .int 0, .int 0, .int 0, .int (-1), .int 0])), (q_503, .inl (k_517, 80, .inl (fun _ => 0))), (q_507, .inl (k_518, 6, .inl (fun _ => 0))), (q_508, .inl (k_519, 6, .inl (fun _ => 0))), (q_509, .inl (k_520, 36, .inl (fun _ => 0))), (q_510, .inl (k_521, 6, .inl (fun _ => 0)))] H) (hD : va_D A [(q_1, .inr (6, [.ref q_386, .ref q_387, .ref q_388, .ref q_389, .int (-1), .int (-1), .int 0, .int 3, .int 3])), (q_386, .inr (5, [.ref q_390, .int 0])), (q_390, .inl (k_391, 80, .inl (fun _ => 0))), (q_387, .inr (3, [.ref q_386, .ref q_392, .int 0, .int 0, .int 0, .int (-1), .int 3, .int 0])), (q_388, .inr (0, [.ref q_393, .ref q_394, .int 0])), (q_393, .inl (k_395, 6, .inr (.inr (.inr (.inr (va_up (va_up (va_up (va_up (va_up (va_up (fun _ => none) 0 (some q_396)) 1 (some q_397)) 2 (some q_398)) 3 (some q_399)) 4 (some q_400)) 5 (some q_401))))))), (q_394, .inl (k_402, 6, .inl (fun _ => 0))), (q_396, .inr (2, [.ref q_403, .ref q_404, .int 0, .null])), (q_397, .inr (2, [.ref q_405, .ref q_406, .int 0, .null])), (q_398, .inr (2, [.ref q_407, .ref q_408, .int 0, .null])), (q_399, .inr (2, [.ref q_409, .ref q_410, .int 0, .null])), (q_400, .inr (2, [.ref q_411, .ref q_412, .int 0, .null])), (q_401, .inr (2, [.ref q_413, .ref q_414, .int 0, .null])), (q_389, .inr (4, [.ref q_415, .ref q_416, .ref q_417, .int 0, .int 0, .int 0, .int 0, .int 0, .int 0])), (q_418, .inr (7, [.ref q_503, .int 0, .ref q_504, .ref q_505, .ref q_506, .ref q_507, .ref q_508, .ref q_509, .ref q_510, .int (-1), .int 0, .int 3, .int 3, .int 0, .int 0, .int 0, .ref q_511, .ref q_512, .ref q_513, .ref q_514, .ref q_515, .ref q_516, .int 0, .int 0, .int 0, .int 0, .int (-1), .int 0])), (q_503, .inl (k_517, 80, .inl (fun _ => 0))), (q_507, .inl (k_518, 6, .inl (fun _ => 0))), (q_508, .inl (k_519, 6, .inl (fun _ => 0))), (q_509, .inl (k_520, 36, .inl (fun _ => 0))), (q_510, .inl (k_521, 6, .inl (fun _ => 0)))]) (hS : va_S A s.heap H locs) (hE : ka_SE A s s.heap) (hN : ka_NW s) (hl : lv_has ls 4 [(3, .int 0), (2, .ref q_418), (1, .ref q_1), (0, .ref b)]) : W p l e room_1 s m #[Value.ref b] below meth c H locs 45 6605 (lw_Z below #[Value.ref b] s) (F0 m 317 ls []) := by
  obtain ⟨hx, hb, hml, hown, hts⟩ := id C
  have hA : ∀ q, s.heap.size ≤ q → A q := fun q h => by rw [hAe]; exact h
  have hbA : ¬ A b := by rw [hAe]; exact Nat.not_le.mpr hbl
  obtain ⟨z0, ez0⟩ : ∃ y : Int32, y = xs 0 := ⟨_, rfl⟩
  have rz0 := ka_rng z0
  obtain ⟨z1, ez1⟩ : ∃ y : Int32, y = xs 1 := ⟨_, rfl⟩
  have rz1 := ka_rng z1
  obtain ⟨z2, ez2⟩ : ∃ y : Int32, y = xs 2 := ⟨_, rfl⟩
  have rz2 := ka_rng z2
  obtain ⟨z3, ez3⟩ : ∃ y : Int32, y = xs 3 := ⟨_, rfl⟩
  have rz3 := ka_rng z3
  obtain ⟨z4, ez4⟩ : ∃ y : Int32, y = xs 4 := ⟨_, rfl⟩
  have rz4 := ka_rng z4
  obtain ⟨z5, ez5⟩ : ∃ y : Int32, y = xs 5 := ⟨_, rfl⟩
  have rz5 := ka_rng z5
  refine lv_aload_n hx hb dL_law_317 rfl (lv_at hl 2 rfl) ?_
  refine lv_aload_n hx hb dL_law_318 rfl (lv_at hl 3 rfl) ?_
  refine lv_iload_n hx hb dL_law_319 rfl (lv_at hl 0 rfl) ?_
  refine lv_iconst (v := 1) hx hb dL_law_320 (by decide) ?_
  refine lv_iadd hx hb dL_law_321 ?_
  refine ka_top (w := .int 1) (congrArg Value.int (by decide)) ?_
  refine va_sld hx hb hX hbl hbA hS (ka_in (by decide) (by decide)) dL_law_322 ?_
  refine ka_top (w := .int z1) (congrArg Value.int ez1.symm) ?_
  refine lv_aload_n hx hb dL_law_323 rfl (lv_at hl 3 rfl) ?_
  refine lv_iload_n hx hb dL_law_324 rfl (lv_at hl 0 rfl) ?_
  refine lv_iconst (v := 2) hx hb dL_law_325 (by decide) ?_
  refine lv_iadd hx hb dL_law_326 ?_
  refine ka_top (w := .int 2) (congrArg Value.int (by decide)) ?_
  refine va_sld hx hb hX hbl hbA hS (ka_in (by decide) (by decide)) dL_law_327 ?_
  refine ka_top (w := .int z2) (congrArg Value.int ez2.symm) ?_
  refine lv_aload_n hx hb dL_law_328 rfl (lv_at hl 3 rfl) ?_
  refine lv_iload_n hx hb dL_law_329 rfl (lv_at hl 0 rfl) ?_
  refine lv_iconst (v := 3) hx hb dL_law_330 (by decide) ?_
  refine lv_iadd hx hb dL_law_331 ?_
  refine ka_top (w := .int 3) (congrArg Value.int (by decide)) ?_
  refine va_sld hx hb hX hbl hbA hS (ka_in (by decide) (by decide)) dL_law_332 ?_
  refine ka_top (w := .int z3) (congrArg Value.int ez3.symm) ?_
  refine ka_RV (n := 3) C (ct_X6_written_186 l D q_1 z1 z2 z3 q_386 q_387 q_388 q_389 q_393 q_394 k_395 q_396 q_397 q_398 q_399 q_400 q_401 q_403 q_404 q_405 q_406 q_407 q_408 q_409 q_410 q_411 q_412 q_413 q_414) gL_law_X6_written rfl (by decide +kernel) ⟨Nat.le_of_ble_eq_true rfl, Nat.le_of_ble_eq_true rfl⟩ hK hP hS hE hN [0, 4, 5, 7, 8, 9, 10, 11, 12] rfl [1] rfl (ci := 6) rfl rfl 0 rfl rfl hl.1 (rest := []) rfl (Nat.le_of_ble_eq_true rfl) dL_law_333 ⟨Nat.le_of_ble_eq_true rfl, Nat.le_of_ble_eq_true rfl⟩ (fun v hv => ?_)
  subst hv
  refine ka_stk (w := [.int (-1)]) rfl ?_
  refine lv_aload_n hx hb dL_law_336 rfl (lv_at hl 1 rfl) ?_
  refine lv_aload_n hx hb dL_law_337 rfl (lv_at hl 3 rfl) ?_
  refine lv_iload_n hx hb dL_law_338 rfl (lv_at hl 0 rfl) ?_
  refine lv_iconst (v := 1) hx hb dL_law_339 (by decide) ?_
  refine lv_iadd hx hb dL_law_340 ?_
  refine ka_top (w := .int 1) (congrArg Value.int (by decide)) ?_
  refine va_sld hx hb hX hbl hbA hS (ka_in (by decide) (by decide)) dL_law_341 ?_
  refine ka_top (w := .int z1) (congrArg Value.int ez1.symm) ?_
  refine lv_aload_n hx hb dL_law_342 rfl (lv_at hl 3 rfl) ?_
  refine lv_iload_n hx hb dL_law_343 rfl (lv_at hl 0 rfl) ?_
  refine lv_iconst (v := 2) hx hb dL_law_344 (by decide) ?_
  refine lv_iadd hx hb dL_law_345 ?_
  refine ka_top (w := .int 2) (congrArg Value.int (by decide)) ?_
  refine va_sld hx hb hX hbl hbA hS (ka_in (by decide) (by decide)) dL_law_346 ?_
  refine ka_top (w := .int z2) (congrArg Value.int ez2.symm) ?_
  refine lv_aload_n hx hb dL_law_347 rfl (lv_at hl 3 rfl) ?_
  refine lv_iload_n hx hb dL_law_348 rfl (lv_at hl 0 rfl) ?_
  refine lv_iconst (v := 3) hx hb dL_law_349 (by decide) ?_
  refine lv_iadd hx hb dL_law_350 ?_
  refine ka_top (w := .int 3) (congrArg Value.int (by decide)) ?_
  refine va_sld hx hb hX hbl hbA hS (ka_in (by decide) (by decide)) dL_law_351 ?_
  refine ka_top (w := .int z3) (congrArg Value.int ez3.symm) ?_
  refine ka_RV (n := 3) C (ct_X7_written_187 l D q_418 z1 z2 z3 q_503 q_504 q_505 q_506 q_507 q_508 q_509 q_510 q_511 q_512 q_513 q_514 q_515 q_516 k_518 k_521) gL_law_X7_written rfl (by decide +kernel) ⟨Nat.le_of_ble_eq_true rfl, Nat.le_of_ble_eq_true rfl⟩ hK hP hS hE hN [14, 16, 19] rfl [4, 7] rfl (ci := 7) rfl rfl 14 rfl rfl hl.1 (rest := [.int (-1)]) rfl (Nat.le_of_ble_eq_true rfl) dL_law_352 ⟨Nat.le_of_ble_eq_true rfl, Nat.le_of_ble_eq_true rfl⟩ (fun v hv => ?_)
  subst hv
  refine ka_stk (w := [.int (-1), .int (-1)]) rfl ?_
  refine lv_icmp_eq (tgt := 725) hx hb dL_law_355 (by decide) (fun _ => ?_) (fun c_ => absurd (by decide) c_)
  refine lv_iinc (v := 6) (lv' := [(3, .int 6), (2, .ref q_418), (1, .ref q_1), (0, .ref b)]) hx hb dL_law_725 hl (k := 0) rfl (by decide) (by decide) rfl (fun ls hl => ?_)
  refine lv_goto (tgt := 18) hx hb dL_law_728 (by decide) ?_
  refine lv_iload_n hx hb dL_law_18 rfl (lv_at hl 0 rfl) ?_
  refine lv_aload_n hx hb dL_law_19 rfl (lv_at hl 3 rfl) ?_
  refine va_slen hx hb hX hbl hbA hS dL_law_20 ?_
  refine ka_top (w := .int 6) (congrArg Value.int rfl) ?_
  refine lv_bipush (v := 6) hx hb dL_law_21 (by decide) ?_
  refine lv_isub hx hb dL_law_23 ?_
  refine ka_top (w := .int 0) (congrArg Value.int (by decide)) ?_
  refine lv_icmp_gt (tgt := 731) hx hb dL_law_24 (by decide) (fun _ => ?_) (fun c_ => absurd (by decide) c_)
  refine lv_iconst (v := 1) hx hb dL_law_731 (by decide) ?_
  refine va_forget (fun q hq => by have h9 := hS.2.2 q hq; rw [hAe] at h9; exact h9) ?_
  refine W.widen (k := 600000) (n := 7302250) (Nat.le_of_ble_eq_true rfl) (Nat.le_of_ble_eq_true rfl) ?_
  exact lw_ret hx hb hr hlk dL_law_732
