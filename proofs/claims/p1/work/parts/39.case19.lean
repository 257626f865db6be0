set_option maxHeartbeats 4000000 in
set_option maxRecDepth 100000 in
theorem ct_X6_caseOf_545 (l : Launch) (D : va_G) (a0 : Nat) (x0 : Int32) (x1 : Int32) (a1 : Nat) (a2 : Nat) (a3 : Nat) (a4 : Nat) (a5 : Nat) (a6 : Nat) : ka_R l D yX6_caseOf wsX6_caseOf 4 84 [.ref a0, .int x0, .int x1] [(a0, .inr (6, [.ref a1, .ref a2, .ref a3, .ref a4, .int (-1), .int (-1), .int 0, .int 3, .int 3])), (a3, .inr (0, [.ref a5, .ref a6, .int 0]))] [] (fun v => v = some (.int (-1))) := by
  refine ka_R_of (cc := cX6_caseOf) (maxL := 4) (ret := (some .int)) (by decide) rfl (Nat.le_of_ble_eq_true rfl) ?_
  intro p e s m below meth c ls C hr hlk hP hK hE hN hl
  have hS : va_S (fun _ => False) s.heap s.heap [] := va_S.rf
  have C : CallFix p m c cX6_caseOf 4 s [.ref a0, .int x0, .int x1].toArray wsX6_caseOf RX6 := C
  obtain ⟨hx, hb, hml, hown, hts⟩ := id C
  have hl : lv_has ls 4 [(0, .ref a0), (1, .int x0), (2, .int x1)] := hl
  have rx0 := ka_rng x0
  have rx1 := ka_rng x1
  refine lv_aload_n hx hb dX6_caseOf_0 rfl (lv_at hl 0 rfl) ?_
  refine ka_RV (n := 0) C (ct_X6_begunLaw_523 l D a0 a1 a2 a3 a4 a5 a6) gX6_caseOf_X6_begunLaw rfl (by decide +kernel) ⟨Nat.le_of_ble_eq_true rfl, Nat.le_of_ble_eq_true rfl⟩ hK hP hS hE hN [0, 1] rfl [] rfl (ci := 6) rfl rfl 0 rfl rfl hl.1 (rest := []) rfl (Nat.le_of_ble_eq_true rfl) dX6_caseOf_1 ⟨Nat.le_of_ble_eq_true rfl, Nat.le_of_ble_eq_true rfl⟩ (fun v hv => ?_)
  subst hv
  refine ka_stk (w := [.null]) rfl ?_
  refine lv_astore_nN (lv' := [(3, .null), (0, .ref a0), (1, .int x0), (2, .int x1)]) hx hb dX6_caseOf_4 rfl hl (by decide) rfl (fun ls hl => ?_)
  refine lv_aload_nN hx hb dX6_caseOf_5 rfl (lv_at hl 0 rfl) ?_
  refine lv_ifnullN (tgt := 16) hx hb dX6_caseOf_6 (by decide) ?_
  refine lv_iconst (v := (-1)) hx hb dX6_caseOf_16 (by decide) ?_
  exact ka_rRi C hr hlk rfl dX6_caseOf_17
theorem lq_302 : ∀ w ∈ wsX70, w ∈ wsX7_caseOf := by decide +kernel
theorem lq_303 : Cond.fieldLink RX7 36 "AskedBackModel" "lesson" "I" ∈ wsX7_caseOf := by decide +kernel
set_option maxHeartbeats 4000000 in
set_option maxRecDepth 100000 in
theorem ct_X7_caseOf_546 (l : Launch) (D : va_G) (a0 : Nat) (x0 : Int32) (x1 : Int32) (a1 : Nat) (a2 : Nat) (a3 : Nat) (a4 : Nat) (a5 : Nat) (a6 : Nat) (a7 : Nat) (a8 : Nat) (a9 : Nat) (a10 : Nat) (a11 : Nat) (a12 : Nat) (a13 : Nat) (a14 : Nat) : ka_R l D yX7_caseOf wsX7_caseOf 0 0 [.ref a0, .int x0, .int x1] [(a0, .inr (7, [.ref a1, .int 0, .ref a2, .ref a3, .ref a4, .ref a5, .ref a6, .ref a7, .ref a8, .int (-1), .int 0, .int 3, .int 3, .int 0, .int 0, .int 0, .ref a9, .ref a10, .ref a11, .ref a12, .ref a13, .ref a14, .int 0, .int 0, .int 0, .int 0, .int (-1), .int 0]))] [] (fun v => v = some (.int (-1))) := by
  refine ka_R_of (cc := cX7_caseOf) (maxL := 3) (ret := (some .int)) (by decide) rfl (Nat.le_of_ble_eq_true rfl) ?_
  intro p e s m below meth c ls C hr hlk hP hK hE hN hl
  have hS : va_S (fun _ => False) s.heap s.heap [] := va_S.rf
  have C : CallFix p m c cX7_caseOf 3 s [.ref a0, .int x0, .int x1].toArray wsX7_caseOf RX7 := C
  obtain ⟨hx, hb, hml, hown, hts⟩ := id C
  have hl : lv_has ls 3 [(0, .ref a0), (1, .int x0), (2, .int x1)] := hl
  have rx0 := ka_rng x0
  have rx1 := ka_rng x1
  refine lv_aload_n hx hb dX7_caseOf_0 rfl (lv_at hl 0 rfl) ?_
  refine ka_get C lq_302 rfl hK hP 0 rfl 9 (by decide) lq_303 rfl dX7_caseOf_1 ?_
  refine lv_iconst (v := (-1)) hx hb dX7_caseOf_4 (by decide) ?_
  refine lv_icmp_eq (tgt := 15) hx hb dX7_caseOf_5 (by decide) (fun _ => ?_) (fun c_ => absurd (by decide) c_)
  refine lv_iconst (v := (-1)) hx hb dX7_caseOf_15 (by decide) ?_
  exact ka_rRi C hr hlk rfl dX7_caseOf_16
set_option maxHeartbeats 8000000 in
set_option maxRecDepth 100000 in
theorem lc_19 {p : Program} {l : Launch} {e : Env} {s : State} {m : MethodId} {below : List Frame} {meth : Method} {c : Code} {b : Nat} {xs : Nat → Int32} {D : va_G} {A : Nat → Prop} {H : Heap} {locs : List Loc} {ls : Array Slot} {q_1 : Nat} {q_386 : Nat} {q_387 : Nat} {q_388 : Nat} {q_389 : Nat} {q_390 : Nat} {k_391 : ClassId} {q_392 : Nat} {q_393 : Nat} {q_394 : Nat} {k_395 : ClassId} {q_396 : Nat} {q_397 : Nat} {q_398 : Nat} {q_399 : Nat} {q_400 : Nat} {q_401 : Nat} {k_402 : ClassId} {q_403 : Nat} {q_404 : Nat} {q_405 : Nat} {q_406 : Nat} {q_407 : Nat} {q_408 : Nat} {q_409 : Nat} {q_410 : Nat} {q_411 : Nat} {q_412 : Nat} {q_413 : Nat} {q_414 : Nat} {q_415 : Nat} {q_416 : Nat} {q_417 : Nat} {q_418 : Nat} {q_503 : Nat} {q_504 : Nat} {q_505 : Nat} {q_506 : Nat} {q_507 : Nat} {q_508 : Nat} {q_509 : Nat} {q_510 : Nat} {q_511 : Nat} {q_512 : Nat} {q_513 : Nat} {q_514 : Nat} {q_515 : Nat} {q_516 : Nat} {k_517 : ClassId} {k_518 : ClassId} {k_519 : ClassId} {k_520 : ClassId} {k_521 : ClassId} (C : CallFix p m c cL_law 4 s #[Value.ref b] wsL_law RL) (hr : meth.sig.returnType = ret) (hlk : meth.locks = false) (hX : va_X b 6 xs s s.heap) (hbl : b < s.heap.size) (hAe : A = fun q => s.heap.size ≤ q) (hK : va_K D vwCl [(k_391, .byte), (k_395, .object RX2), (k_402, .int), (k_517, .byte), (k_518, .boolean), (k_519, .boolean), (k_520, .boolean), (k_521, .int)] s) (hP : va_P D vwCl [(q_1, .inr (6, [.ref q_386, .ref q_387, .ref q_388, .ref q_389, .int (-1), .int (-1), .int 0, .int 3, .int 3])), (q_386, .inr (5, [.ref q_390, .int 0])), (q_390, .inl (k_391, 80, .inl (fun _ => 0))), (q_387, .inr (3, [.ref q_386, .ref q_392, .int 0, .int 0, .int 0, .int (-1), .int 3, .int 0])), (q_388, .inr (0, [.ref q_393, .ref q_394, .int 0])), (q_393, .inl (k_395, 6, .inr (.inr (.inr (.inr (va_up (va_up (va_up (va_up (va_up (va_up (fun _ => none) 0 (some q_396)) 1 (some q_397)) 2 (some q_398)) 3 (some q_399)) 4 (some q_400)) 5 (some q_401))))))), (q_394, .inl (k_402, 6, .inl (fun _ => 0))), (q_396, .inr (2, [.ref q_403, .ref q_404, .int 0, .null])), (q_397, .inr (2, [.ref q_405, .ref q_406, .int 0, .null])), (q_398, .inr (2, [.ref q_407, .ref q_408, .int 0, .null])), (q_399, .inr (2, [.ref q_409, .ref q_410, .int 0, .null])), (q_400, .inr (2, [.ref q_411, .ref q_412, .int 0, .null])), (q_401, .inr (2, [.ref q_413, .ref q_414, .int 0, .null])), (q_389, .inr (4, [.ref q_415, .ref q_416, .ref q_417, .int 0, .int 0, .int 0, .int 0, .int 0, .int 0])), (q_418, .inr (7, [.ref q_503, .int 0, .ref q_504, .ref q_505, .ref q_506, .ref q_507, .ref q_508, .ref q_509, .ref q_510, .int (-1), .int 0, .int 3, .int 3, .int 0, .int 0, .int 0, .ref q_511, .ref q_512, .ref q_513, .ref q_514, .ref q_515, .ref q_516, .int 0, .int 0, .int 0, .int 0, .int (-1), .int 0])), (q_503, .inl (k_517, 80, .inl (fun _ => 0))), (q_507, .inl (k_518, 6, .inl (fun _ => 0))), (q_508, .inl (k_519, 6, .inl (fun _ => 0))), (q_509, .inl (k_520, 36, .inl (fun _ => 0))), (q_510, .inl (k_521, 6, .inl (fun _ => 0)))] H) (hD : va_D A [(q_1, .inr (6, [.ref q_386, .ref q_387, .ref q_388, .ref q_389, .int (-1), .int (-1), .int 0, .int 3, .int 3])), (q_386, .inr (5, [.ref q_390, .int 0])), (q_390, .inl (k_391, 80, .inl (fun _ => 0))), (q_387, .inr (3, [.ref q_386, .ref q_392, .int 0, .int 0, .int 0, .int (-1), .int 3, .int 0])), (q_388, .inr (0, [.ref q_393, .ref q_394, .int 0])), (q_393, .inl (k_395, 6, .inr (.inr (.inr (.inr (va_up (va_up (va_up (va_up (va_up (va_up (fun _ => none) 0 (some q_396)) 1 (some q_397)) 2 (some q_398)) 3 (some q_399)) 4 (some q_400)) 5 (some q_401))))))), (q_394, .inl (k_402, 6, .inl (fun _ => 0))), (q_396, .inr (2, [.ref q_403, .ref q_404, .int 0, .null])), (q_397, .inr (2, [.ref q_405, .ref q_406, .int 0, .null])), (q_398, .inr (2, [.ref q_407, .ref q_408, .int 0, .null])), (q_399, .inr (2, [.ref q_409, .ref q_410, .int 0, .null])), (q_400, .inr (2, [.ref q_411, .ref q_412, .int 0, .null])), (q_401, .inr (2, [.ref q_413, .ref q_414, .int 0, .null])), (q_389, .inr (4, [.ref q_415, .ref q_416, .ref q_417, .int 0, .int 0, .int 0, .int 0, .int 0, .int 0])), (q_418, .inr (7, [.ref q_503, .int 0, .ref q_504, .ref q_505, .ref q_506, .ref q_507, .ref q_508, .ref q_509, .ref q_510, .int (-1), .int 0, .int 3, .int 3, .int 0, .int 0, .int 0, .ref q_511, .ref q_512, .ref q_513, .ref q_514, .ref q_515, .ref q_516, .int 0, .int 0, .int 0, .int 0, .int (-1), .int 0])), (q_503, .inl (k_517, 80, .inl (fun _ => 0))), (q_507, .inl (k_518, 6, .inl (fun _ => 0))), (q_508, .inl (k_519, 6, .inl (fun _ => 0))), (q_509, .inl (k_520, 36, .inl (fun _ => 0))), (q_510, .inl (k_521, 6, .inl (fun _ => 0)))]) (hS : va_S A s.heap H locs) (hE : ka_SE A s s.heap) (hN : ka_NW s) (hl : lv_has ls 4 [(3, .int 0), (2, .ref q_418), (1, .ref q_1), (0, .ref b)]) : W p l e room_1 s m #[Value.ref b] below meth c H locs 45 6605 (lw_Z below #[Value.ref b] s) (F0 m 669 ls []) := by
  obtain ⟨hx, hb, hml, hown, hts⟩ := id C
  have hA : ∀ q, s.heap.size ≤ q → A q := fun q h => by rw [hAe]; exact h
  have hbA : ¬ A b := by rw [hAe]; exact Nat.not_le.mpr hbl
  obtain ⟨z0, ez0⟩ : ∃ y : Int32, y = xs 0 := ⟨_, rfl⟩
  have rz0 := ka_rng z0
  obtain ⟨z1, ez1⟩ : ∃ y : Int32, y = xs 1 := ⟨_, rfl⟩
  have rz1 := ka_rng z1
  obtain ⟨z2, ez2⟩ : ∃ y : Int32, y = xs 2 := ⟨_, rfl⟩
  have rz2 := ka_rng z2
  obtain ⟨z3, ez3⟩ : ∃ y : Int32, y = xs 3 := ⟨_, rfl⟩
  have rz3 := ka_rng z3
  obtain ⟨z4, ez4⟩ : ∃ y : Int32, y = xs 4 := ⟨_, rfl⟩
  have rz4 := ka_rng z4
  obtain ⟨z5, ez5⟩ : ∃ y : Int32, y = xs 5 := ⟨_, rfl⟩
  have rz5 := ka_rng z5
  refine lv_aload_n hx hb dL_law_669 rfl (lv_at hl 2 rfl) ?_
  refine lv_aload_n hx hb dL_law_670 rfl (lv_at hl 3 rfl) ?_
  refine lv_iload_n hx hb dL_law_671 rfl (lv_at hl 0 rfl) ?_
  refine lv_iconst (v := 1) hx hb dL_law_672 (by decide) ?_
  refine lv_iadd hx hb dL_law_673 ?_
  refine ka_top (w := .int 1) (congrArg Value.int (by decide)) ?_
  refine va_sld hx hb hX hbl hbA hS (ka_in (by decide) (by decide)) dL_law_674 ?_
  refine ka_top (w := .int z1) (congrArg Value.int ez1.symm) ?_
  refine lv_aload_n hx hb dL_law_675 rfl (lv_at hl 3 rfl) ?_
  refine lv_iload_n hx hb dL_law_676 rfl (lv_at hl 0 rfl) ?_
  refine lv_iconst (v := 2) hx hb dL_law_677 (by decide) ?_
  refine lv_iadd hx hb dL_law_678 ?_
  refine ka_top (w := .int 2) (congrArg Value.int (by decide)) ?_
  refine va_sld hx hb hX hbl hbA hS (ka_in (by decide) (by decide)) dL_law_679 ?_
  refine ka_top (w := .int z2) (congrArg Value.int ez2.symm) ?_
  refine ka_RV (n := 2) C (ct_X6_caseOf_545 l D q_1 z1 z2 q_386 q_387 q_388 q_389 q_393 q_394) gL_law_X6_caseOf rfl (by decide +kernel) ⟨Nat.le_of_ble_eq_true rfl, Nat.le_of_ble_eq_true rfl⟩ hK hP hS hE hN [0, 4] rfl [] rfl (ci := 6) rfl rfl 0 rfl rfl hl.1 (rest := []) rfl (Nat.le_of_ble_eq_true rfl) dL_law_680 ⟨Nat.le_of_ble_eq_true rfl, Nat.le_of_ble_eq_true rfl⟩ (fun v hv => ?_)
  subst hv
  refine ka_stk (w := [.int (-1)]) rfl ?_
  refine lv_aload_n hx hb dL_law_683 rfl (lv_at hl 1 rfl) ?_
  refine lv_aload_n hx hb dL_law_684 rfl (lv_at hl 3 rfl) ?_
  refine lv_iload_n hx hb dL_law_685 rfl (lv_at hl 0 rfl) ?_
  refine lv_iconst (v := 1) hx hb dL_law_686 (by decide) ?_
  refine lv_iadd hx hb dL_law_687 ?_
  refine ka_top (w := .int 1) (congrArg Value.int (by decide)) ?_
  refine va_sld hx hb hX hbl hbA hS (ka_in (by decide) (by decide)) dL_law_688 ?_
  refine ka_top (w := .int z1) (congrArg Value.int ez1.symm) ?_
  refine lv_aload_n hx hb dL_law_689 rfl (lv_at hl 3 rfl) ?_
  refine lv_iload_n hx hb dL_law_690 rfl (lv_at hl 0 rfl) ?_
  refine lv_iconst (v := 2) hx hb dL_law_691 (by decide) ?_
  refine lv_iadd hx hb dL_law_692 ?_
  refine ka_top (w := .int 2) (congrArg Value.int (by decide)) ?_
  refine va_sld hx hb hX hbl hbA hS (ka_in (by decide) (by decide)) dL_law_693 ?_
  refine ka_top (w := .int z2) (congrArg Value.int ez2.symm) ?_
  refine ka_RV (n := 2) C (ct_X7_caseOf_546 l D q_418 z1 z2 q_503 q_504 q_505 q_506 q_507 q_508 q_509 q_510 q_511 q_512 q_513 q_514 q_515 q_516) gL_law_X7_caseOf rfl (by decide +kernel) ⟨Nat.le_of_ble_eq_true rfl, Nat.le_of_ble_eq_true rfl⟩ hK hP hS hE hN [14] rfl [] rfl (ci := 7) rfl rfl 14 rfl rfl hl.1 (rest := [.int (-1)]) rfl (Nat.le_of_ble_eq_true rfl) dL_law_694 ⟨Nat.le_of_ble_eq_true rfl, Nat.le_of_ble_eq_true rfl⟩ (fun v hv => ?_)
  subst hv
  refine ka_stk (w := [.int (-1), .int (-1)]) rfl ?_
  refine lv_icmp_eq (tgt := 725) hx hb dL_law_697 (by decide) (fun _ => ?_) (fun c_ => absurd (by decide) c_)
  refine lv_iinc (v := 6) (lv' := [(3, .int 6), (2, .ref q_418), (1, .ref q_1), (0, .ref b)]) hx hb dL_law_725 hl (k := 0) rfl (by decide) (by decide) rfl (fun ls hl => ?_)
  refine lv_goto (tgt := 18) hx hb dL_law_728 (by decide) ?_
  refine lv_iload_n hx hb dL_law_18 rfl (lv_at hl 0 rfl) ?_
  refine lv_aload_n hx hb dL_law_19 rfl (lv_at hl 3 rfl) ?_
  refine va_slen hx hb hX hbl hbA hS dL_law_20 ?_
  refine ka_top (w := .int 6) (congrArg Value.int rfl) ?_
  refine lv_bipush (v := 6) hx hb dL_law_21 (by decide) ?_
  refine lv_isub hx hb dL_law_23 ?_
  refine ka_top (w := .int 0) (congrArg Value.int (by decide)) ?_
  refine lv_icmp_gt (tgt := 731) hx hb dL_law_24 (by decide) (fun _ => ?_) (fun c_ => absurd (by decide) c_)
  refine lv_iconst (v := 1) hx hb dL_law_731 (by decide) ?_
  refine va_forget (fun q hq => by have h9 := hS.2.2 q hq; rw [hAe] at h9; exact h9) ?_
  refine W.widen (k := 600000) (n := 7302250) (Nat.le_of_ble_eq_true rfl) (Nat.le_of_ble_eq_true rfl) ?_
  exact lw_ret hx hb hr hlk dL_law_732
