set_option maxHeartbeats 4000000 in
set_option maxRecDepth 100000 in
theorem ct_X6_count_547 (l : Launch) (D : va_G) (a0 : Nat) (x0 : Int32) (hx0 : x0.toInt ≤ -1) : ka_R l D yX6_count wsX6_count 0 0 [.ref a0, .int x0] [] [] (fun v => v = some (.int (-1))) := by
  refine ka_R_of (cc := cX6_count) (maxL := 2) (ret := (some .int)) (by decide) rfl (Nat.le_of_ble_eq_true rfl) ?_
  intro p e s m below meth c ls C hr hlk hP hK hE hN hl
  have hS : va_S (fun _ => False) s.heap s.heap [] := va_S.rf
  have C : CallFix p m c cX6_count 2 s [.ref a0, .int x0].toArray wsX6_count RX6 := C
  obtain ⟨hx, hb, hml, hown, hts⟩ := id C
  have hl : lv_has ls 2 [(0, .ref a0), (1, .int x0)] := hl
  have rx0 := ka_rng x0
  refine lv_iload_n hx hb dX6_count_0 rfl (lv_at hl 1 rfl) ?_
  refine lv_tableOut (tgt := 132) hx hb dX6_count_1 (by omega) (by decide) ?_
  refine lv_iconst (v := (-1)) hx hb dX6_count_132 (by decide) ?_
  exact ka_rRi C hr hlk rfl dX6_count_133
set_option maxHeartbeats 4000000 in
set_option maxRecDepth 100000 in
theorem ct_X7_count_548 (l : Launch) (D : va_G) (a0 : Nat) (x0 : Int32) (hx0 : x0.toInt ≤ -1) : ka_R l D yX7_count wsX7_count 0 0 [.ref a0, .int x0] [] [] (fun v => v = some (.int (-1))) := by
  refine ka_R_of (cc := cX7_count) (maxL := 4) (ret := (some .int)) (by decide) rfl (Nat.le_of_ble_eq_true rfl) ?_
  intro p e s m below meth c ls C hr hlk hP hK hE hN hl
  have hS : va_S (fun _ => False) s.heap s.heap [] := va_S.rf
  have C : CallFix p m c cX7_count 4 s [.ref a0, .int x0].toArray wsX7_count RX7 := C
  obtain ⟨hx, hb, hml, hown, hts⟩ := id C
  have hl : lv_has ls 4 [(0, .ref a0), (1, .int x0)] := hl
  have rx0 := ka_rng x0
  refine lv_iload_n hx hb dX7_count_0 rfl (lv_at hl 1 rfl) ?_
  refine lv_tableOut (tgt := 151) hx hb dX7_count_1 (by omega) (by decide) ?_
  refine lv_iconst (v := (-1)) hx hb dX7_count_151 (by decide) ?_
  exact ka_rRi C hr hlk rfl dX7_count_152
theorem lq_304 : ∀ w ∈ wsX60, w ∈ wsX6_count := by decide +kernel
theorem lq_305 : Cond.fieldLink RX6 39 "AskedBack" "begun" "I" ∈ wsX6_count := by decide +kernel
set_option maxHeartbeats 4000000 in
set_option maxRecDepth 100000 in
theorem ct_X6_count_549 (l : Launch) (D : va_G) (a0 : Nat) (a1 : Nat) (a2 : Nat) (a3 : Nat) (a4 : Nat) : ka_R l D yX6_count wsX6_count 0 0 [.ref a0, .int 0] [(a0, .inr (6, [.ref a1, .ref a2, .ref a3, .ref a4, .int (-1), .int (-1), .int 0, .int 3, .int 3]))] [] (fun v => v = some (.int (-1))) := by
  refine ka_R_of (cc := cX6_count) (maxL := 2) (ret := (some .int)) (by decide) rfl (Nat.le_of_ble_eq_true rfl) ?_
  intro p e s m below meth c ls C hr hlk hP hK hE hN hl
  have hS : va_S (fun _ => False) s.heap s.heap [] := va_S.rf
  have C : CallFix p m c cX6_count 2 s [.ref a0, .int 0].toArray wsX6_count RX6 := C
  obtain ⟨hx, hb, hml, hown, hts⟩ := id C
  have hl : lv_has ls 2 [(0, .ref a0), (1, .int 0)] := hl
  refine lv_iload_n hx hb dX6_count_0 rfl (lv_at hl 1 rfl) ?_
  refine lv_tableIn (off := 47) (tgt := 48) hx hb dX6_count_1 (by decide) (by decide) (by decide) (by decide) ?_
  refine lv_aload_n hx hb dX6_count_48 rfl (lv_at hl 0 rfl) ?_
  refine ka_get C lq_304 rfl hK hP 0 rfl 4 (by decide) lq_305 rfl dX6_count_49 ?_
  exact ka_rRi C hr hlk rfl dX6_count_52
theorem lq_306 : ∀ w ∈ wsX70, w ∈ wsX7_count := by decide +kernel
theorem lq_307 : Cond.fieldLink RX7 36 "AskedBackModel" "lesson" "I" ∈ wsX7_count := by decide +kernel
set_option maxHeartbeats 4000000 in
set_option maxRecDepth 100000 in
theorem ct_X7_count_550 (l : Launch) (D : va_G) (a0 : Nat) (a1 : Nat) (a2 : Nat) (a3 : Nat) (a4 : Nat) (a5 : Nat) (a6 : Nat) (a7 : Nat) (a8 : Nat) (a9 : Nat) (a10 : Nat) (a11 : Nat) (a12 : Nat) (a13 : Nat) (a14 : Nat) : ka_R l D yX7_count wsX7_count 0 0 [.ref a0, .int 0] [(a0, .inr (7, [.ref a1, .int 0, .ref a2, .ref a3, .ref a4, .ref a5, .ref a6, .ref a7, .ref a8, .int (-1), .int 0, .int 3, .int 3, .int 0, .int 0, .int 0, .ref a9, .ref a10, .ref a11, .ref a12, .ref a13, .ref a14, .int 0, .int 0, .int 0, .int 0, .int (-1), .int 0]))] [] (fun v => v = some (.int (-1))) := by
  refine ka_R_of (cc := cX7_count) (maxL := 4) (ret := (some .int)) (by decide) rfl (Nat.le_of_ble_eq_true rfl) ?_
  intro p e s m below meth c ls C hr hlk hP hK hE hN hl
  have hS : va_S (fun _ => False) s.heap s.heap [] := va_S.rf
  have C : CallFix p m c cX7_count 4 s [.ref a0, .int 0].toArray wsX7_count RX7 := C
  obtain ⟨hx, hb, hml, hown, hts⟩ := id C
  have hl : lv_has ls 4 [(0, .ref a0), (1, .int 0)] := hl
  refine lv_iload_n hx hb dX7_count_0 rfl (lv_at hl 1 rfl) ?_
  refine lv_tableIn (off := 47) (tgt := 48) hx hb dX7_count_1 (by decide) (by decide) (by decide) (by decide) ?_
  refine lv_aload_n hx hb dX7_count_48 rfl (lv_at hl 0 rfl) ?_
  refine ka_get C lq_306 rfl hK hP 0 rfl 9 (by decide) lq_307 rfl dX7_count_49 ?_
  exact ka_rRi C hr hlk rfl dX7_count_52
theorem lq_308 : Cond.fieldLink RX6 35 "AskedBack" "talk" "LAskedBack$Talk;" ∈ wsX6_count := by decide +kernel
theorem lq_309 : ∀ w ∈ wsX40, w ∈ wsX6_count := by decide +kernel
theorem lq_310 : Cond.fieldLink RX6 132 "AskedBack$Talk" "answers" "I" ∈ wsX6_count := by decide +kernel
set_option maxHeartbeats 4000000 in
set_option maxRecDepth 100000 in
theorem ct_X6_count_551 (l : Launch) (D : va_G) (a0 : Nat) (a1 : Nat) (a2 : Nat) (a3 : Nat) (a4 : Nat) (a5 : Nat) (a6 : Nat) (a7 : Nat) : ka_R l D yX6_count wsX6_count 0 0 [.ref a0, .int 1] [(a0, .inr (6, [.ref a1, .ref a2, .ref a3, .ref a4, .int (-1), .int (-1), .int 0, .int 3, .int 3])), (a4, .inr (4, [.ref a5, .ref a6, .ref a7, .int 0, .int 0, .int 0, .int 0, .int 0, .int 0]))] [] (fun v => v = some (.int 0)) := by
  refine ka_R_of (cc := cX6_count) (maxL := 2) (ret := (some .int)) (by decide) rfl (Nat.le_of_ble_eq_true rfl) ?_
  intro p e s m below meth c ls C hr hlk hP hK hE hN hl
  have hS : va_S (fun _ => False) s.heap s.heap [] := va_S.rf
  have C : CallFix p m c cX6_count 2 s [.ref a0, .int 1].toArray wsX6_count RX6 := C
  obtain ⟨hx, hb, hml, hown, hts⟩ := id C
  have hl : lv_has ls 2 [(0, .ref a0), (1, .int 1)] := hl
  refine lv_iload_n hx hb dX6_count_0 rfl (lv_at hl 1 rfl) ?_
  refine lv_tableIn (off := 52) (tgt := 53) hx hb dX6_count_1 (by decide) (by decide) (by decide) (by decide) ?_
  refine lv_aload_n hx hb dX6_count_53 rfl (lv_at hl 0 rfl) ?_
  refine ka_get C lq_304 rfl hK hP 0 rfl 3 (by decide) lq_308 rfl dX6_count_54 ?_
  refine ka_get C lq_309 rfl hK hP 1 rfl 6 (by decide) lq_310 rfl dX6_count_57 ?_
  exact ka_rRi C hr hlk rfl dX6_count_60
theorem lq_311 : Cond.fieldLink RX7 169 "AskedBackModel" "answers" "I" ∈ wsX7_count := by decide +kernel
set_option maxHeartbeats 4000000 in
set_option maxRecDepth 100000 in
theorem ct_X7_count_552 (l : Launch) (D : va_G) (a0 : Nat) (a1 : Nat) (a2 : Nat) (a3 : Nat) (a4 : Nat) (a5 : Nat) (a6 : Nat) (a7 : Nat) (a8 : Nat) (a9 : Nat) (a10 : Nat) (a11 : Nat) (a12 : Nat) (a13 : Nat) (a14 : Nat) : ka_R l D yX7_count wsX7_count 0 0 [.ref a0, .int 1] [(a0, .inr (7, [.ref a1, .int 0, .ref a2, .ref a3, .ref a4, .ref a5, .ref a6, .ref a7, .ref a8, .int (-1), .int 0, .int 3, .int 3, .int 0, .int 0, .int 0, .ref a9, .ref a10, .ref a11, .ref a12, .ref a13, .ref a14, .int 0, .int 0, .int 0, .int 0, .int (-1), .int 0]))] [] (fun v => v = some (.int 0)) := by
  refine ka_R_of (cc := cX7_count) (maxL := 4) (ret := (some .int)) (by decide) rfl (Nat.le_of_ble_eq_true rfl) ?_
  intro p e s m below meth c ls C hr hlk hP hK hE hN hl
  have hS : va_S (fun _ => False) s.heap s.heap [] := va_S.rf
  have C : CallFix p m c cX7_count 4 s [.ref a0, .int 1].toArray wsX7_count RX7 := C
  obtain ⟨hx, hb, hml, hown, hts⟩ := id C
  have hl : lv_has ls 4 [(0, .ref a0), (1, .int 1)] := hl
  refine lv_iload_n hx hb dX7_count_0 rfl (lv_at hl 1 rfl) ?_
  refine lv_tableIn (off := 52) (tgt := 53) hx hb dX7_count_1 (by decide) (by decide) (by decide) (by decide) ?_
  refine lv_aload_n hx hb dX7_count_53 rfl (lv_at hl 0 rfl) ?_
  refine ka_get C lq_306 rfl hK hP 0 rfl 13 (by decide) lq_311 rfl dX7_count_54 ?_
  exact ka_rRi C hr hlk rfl dX7_count_57
theorem lq_312 : Cond.fieldLink RX6 204 "AskedBack$Talk" "rightAnswers" "I" ∈ wsX6_count := by decide +kernel
set_option maxHeartbeats 4000000 in
set_option maxRecDepth 100000 in
theorem ct_X6_count_553 (l : Launch) (D : va_G) (a0 : Nat) (a1 : Nat) (a2 : Nat) (a3 : Nat) (a4 : Nat) (a5 : Nat) (a6 : Nat) (a7 : Nat) : ka_R l D yX6_count wsX6_count 0 0 [.ref a0, .int 2] [(a0, .inr (6, [.ref a1, .ref a2, .ref a3, .ref a4, .int (-1), .int (-1), .int 0, .int 3, .int 3])), (a4, .inr (4, [.ref a5, .ref a6, .ref a7, .int 0, .int 0, .int 0, .int 0, .int 0, .int 0]))] [] (fun v => v = some (.int 0)) := by
  refine ka_R_of (cc := cX6_count) (maxL := 2) (ret := (some .int)) (by decide) rfl (Nat.le_of_ble_eq_true rfl) ?_
  intro p e s m below meth c ls C hr hlk hP hK hE hN hl
  have hS : va_S (fun _ => False) s.heap s.heap [] := va_S.rf
  have C : CallFix p m c cX6_count 2 s [.ref a0, .int 2].toArray wsX6_count RX6 := C
  obtain ⟨hx, hb, hml, hown, hts⟩ := id C
  have hl : lv_has ls 2 [(0, .ref a0), (1, .int 2)] := hl
  refine lv_iload_n hx hb dX6_count_0 rfl (lv_at hl 1 rfl) ?_
  refine lv_tableIn (off := 60) (tgt := 61) hx hb dX6_count_1 (by decide) (by decide) (by decide) (by decide) ?_
  refine lv_aload_n hx hb dX6_count_61 rfl (lv_at hl 0 rfl) ?_
  refine ka_get C lq_304 rfl hK hP 0 rfl 3 (by decide) lq_308 rfl dX6_count_62 ?_
  refine ka_get C lq_309 rfl hK hP 1 rfl 7 (by decide) lq_312 rfl dX6_count_65 ?_
  exact ka_rRi C hr hlk rfl dX6_count_68
theorem lq_313 : Cond.fieldLink RX7 172 "AskedBackModel" "rights" "I" ∈ wsX7_count := by decide +kernel
set_option maxHeartbeats 4000000 in
set_option maxRecDepth 100000 in
theorem ct_X7_count_554 (l : Launch) (D : va_G) (a0 : Nat) (a1 : Nat) (a2 : Nat) (a3 : Nat) (a4 : Nat) (a5 : Nat) (a6 : Nat) (a7 : Nat) (a8 : Nat) (a9 : Nat) (a10 : Nat) (a11 : Nat) (a12 : Nat) (a13 : Nat) (a14 : Nat) : ka_R l D yX7_count wsX7_count 0 0 [.ref a0, .int 2] [(a0, .inr (7, [.ref a1, .int 0, .ref a2, .ref a3, .ref a4, .ref a5, .ref a6, .ref a7, .ref a8, .int (-1), .int 0, .int 3, .int 3, .int 0, .int 0, .int 0, .ref a9, .ref a10, .ref a11, .ref a12, .ref a13, .ref a14, .int 0, .int 0, .int 0, .int 0, .int (-1), .int 0]))] [] (fun v => v = some (.int 0)) := by
  refine ka_R_of (cc := cX7_count) (maxL := 4) (ret := (some .int)) (by decide) rfl (Nat.le_of_ble_eq_true rfl) ?_
  intro p e s m below meth c ls C hr hlk hP hK hE hN hl
  have hS : va_S (fun _ => False) s.heap s.heap [] := va_S.rf
  have C : CallFix p m c cX7_count 4 s [.ref a0, .int 2].toArray wsX7_count RX7 := C
  obtain ⟨hx, hb, hml, hown, hts⟩ := id C
  have hl : lv_has ls 4 [(0, .ref a0), (1, .int 2)] := hl
  refine lv_iload_n hx hb dX7_count_0 rfl (lv_at hl 1 rfl) ?_
  refine lv_tableIn (off := 57) (tgt := 58) hx hb dX7_count_1 (by decide) (by decide) (by decide) (by decide) ?_
  refine lv_aload_n hx hb dX7_count_58 rfl (lv_at hl 0 rfl) ?_
  refine ka_get C lq_306 rfl hK hP 0 rfl 14 (by decide) lq_313 rfl dX7_count_59 ?_
  exact ka_rRi C hr hlk rfl dX7_count_62
theorem lq_314 : Cond.fieldLink RX6 167 "AskedBack$Talk" "saidCount" "I" ∈ wsX6_count := by decide +kernel
set_option maxHeartbeats 4000000 in
set_option maxRecDepth 100000 in
theorem ct_X6_count_555 (l : Launch) (D : va_G) (a0 : Nat) (a1 : Nat) (a2 : Nat) (a3 : Nat) (a4 : Nat) (a5 : Nat) (a6 : Nat) (a7 : Nat) : ka_R l D yX6_count wsX6_count 0 0 [.ref a0, .int 3] [(a0, .inr (6, [.ref a1, .ref a2, .ref a3, .ref a4, .int (-1), .int (-1), .int 0, .int 3, .int 3])), (a4, .inr (4, [.ref a5, .ref a6, .ref a7, .int 0, .int 0, .int 0, .int 0, .int 0, .int 0]))] [] (fun v => v = some (.int 0)) := by
  refine ka_R_of (cc := cX6_count) (maxL := 2) (ret := (some .int)) (by decide) rfl (Nat.le_of_ble_eq_true rfl) ?_
  intro p e s m below meth c ls C hr hlk hP hK hE hN hl
  have hS : va_S (fun _ => False) s.heap s.heap [] := va_S.rf
  have C : CallFix p m c cX6_count 2 s [.ref a0, .int 3].toArray wsX6_count RX6 := C
  obtain ⟨hx, hb, hml, hown, hts⟩ := id C
  have hl : lv_has ls 2 [(0, .ref a0), (1, .int 3)] := hl
  refine lv_iload_n hx hb dX6_count_0 rfl (lv_at hl 1 rfl) ?_
  refine lv_tableIn (off := 68) (tgt := 69) hx hb dX6_count_1 (by decide) (by decide) (by decide) (by decide) ?_
  refine lv_aload_n hx hb dX6_count_69 rfl (lv_at hl 0 rfl) ?_
  refine ka_get C lq_304 rfl hK hP 0 rfl 3 (by decide) lq_308 rfl dX6_count_70 ?_
  refine ka_get C lq_309 rfl hK hP 1 rfl 3 (by decide) lq_314 rfl dX6_count_73 ?_
  exact ka_rRi C hr hlk rfl dX6_count_76
theorem lq_315 : Cond.fieldLink RX7 175 "AskedBackModel" "said" "I" ∈ wsX7_count := by decide +kernel
set_option maxHeartbeats 4000000 in
set_option maxRecDepth 100000 in
theorem ct_X7_count_556 (l : Launch) (D : va_G) (a0 : Nat) (a1 : Nat) (a2 : Nat) (a3 : Nat) (a4 : Nat) (a5 : Nat) (a6 : Nat) (a7 : Nat) (a8 : Nat) (a9 : Nat) (a10 : Nat) (a11 : Nat) (a12 : Nat) (a13 : Nat) (a14 : Nat) : ka_R l D yX7_count wsX7_count 0 0 [.ref a0, .int 3] [(a0, .inr (7, [.ref a1, .int 0, .ref a2, .ref a3, .ref a4, .ref a5, .ref a6, .ref a7, .ref a8, .int (-1), .int 0, .int 3, .int 3, .int 0, .int 0, .int 0, .ref a9, .ref a10, .ref a11, .ref a12, .ref a13, .ref a14, .int 0, .int 0, .int 0, .int 0, .int (-1), .int 0]))] [] (fun v => v = some (.int 0)) := by
  refine ka_R_of (cc := cX7_count) (maxL := 4) (ret := (some .int)) (by decide) rfl (Nat.le_of_ble_eq_true rfl) ?_
  intro p e s m below meth c ls C hr hlk hP hK hE hN hl
  have hS : va_S (fun _ => False) s.heap s.heap [] := va_S.rf
  have C : CallFix p m c cX7_count 4 s [.ref a0, .int 3].toArray wsX7_count RX7 := C
  obtain ⟨hx, hb, hml, hown, hts⟩ := id C
  have hl : lv_has ls 4 [(0, .ref a0), (1, .int 3)] := hl
  refine lv_iload_n hx hb dX7_count_0 rfl (lv_at hl 1 rfl) ?_
  refine lv_tableIn (off := 62) (tgt := 63) hx hb dX7_count_1 (by decide) (by decide) (by decide) (by decide) ?_
  refine lv_aload_n hx hb dX7_count_63 rfl (lv_at hl 0 rfl) ?_
  refine ka_get C lq_306 rfl hK hP 0 rfl 15 (by decide) lq_315 rfl dX7_count_64 ?_
  exact ka_rRi C hr hlk rfl dX7_count_67
set_option maxHeartbeats 4000000 in
set_option maxRecDepth 100000 in
theorem ct_X6_leftOf_557 (l : Launch) (D : va_G) (a0 : Nat) : ka_R l D yX6_leftOf wsX6_leftOf 0 0 [.ref a0, .null] [] [] (fun v => v = some (.int 0)) := by
  refine ka_R_of (cc := cX6_leftOf) (maxL := 5) (ret := (some .int)) (by decide) rfl (Nat.le_of_ble_eq_true rfl) ?_
  intro p e s m below meth c ls C hr hlk hP hK hE hN hl
  have hS : va_S (fun _ => False) s.heap s.heap [] := va_S.rf
  have C : CallFix p m c cX6_leftOf 5 s [.ref a0, .null].toArray wsX6_leftOf RX6 := C
  obtain ⟨hx, hb, hml, hown, hts⟩ := id C
  have hl : lv_has ls 5 [(0, .ref a0), (1, .null)] := hl
  refine lv_aload_nN hx hb dX6_leftOf_0 rfl (lv_at hl 1 rfl) ?_
  refine lv_ifnonnullN hx hb dX6_leftOf_1 ?_
  refine lv_iconst (v := 0) hx hb dX6_leftOf_4 (by decide) ?_
  exact ka_rRi C hr hlk rfl dX6_leftOf_5
theorem lq_316 : Cond.constant RJ6 265 (1431655765) ∈ wsJ6_bitCount_0f7a4 := by decide +kernel
theorem lq_317 : Cond.constant RJ6 266 (858993459) ∈ wsJ6_bitCount_0f7a4 := by decide +kernel
theorem lq_318 : Cond.constant RJ6 267 (252645135) ∈ wsJ6_bitCount_0f7a4 := by decide +kernel
set_option maxHeartbeats 4000000 in
set_option maxRecDepth 100000 in
theorem ct_J6_bitCount_0f7a4_558 (l : Launch) (D : va_G) : ka_R l D yJ6_bitCount_0f7a4 wsJ6_bitCount_0f7a4 0 0 [.int 0] [] [] (fun v => v = some (.int 0)) := by
  refine ka_R_of (cc := cJ6_bitCount_0f7a4) (maxL := 1) (ret := (some .int)) (by decide) rfl (Nat.le_of_ble_eq_true rfl) ?_
  intro p e s m below meth c ls C hr hlk hP hK hE hN hl
  have hS : va_S (fun _ => False) s.heap s.heap [] := va_S.rf
  have C : CallFix p m c cJ6_bitCount_0f7a4 1 s [.int 0].toArray wsJ6_bitCount_0f7a4 RJ6 := C
  obtain ⟨hx, hb, hml, hown, hts⟩ := id C
  have hl : lv_has ls 1 [(0, .int 0)] := hl
  refine lv_iload_n hx hb dJ6_bitCount_0f7a4_0 rfl (lv_at hl 0 rfl) ?_
  refine lv_iload_n hx hb dJ6_bitCount_0f7a4_1 rfl (lv_at hl 0 rfl) ?_
  refine lv_iconst (v := 1) hx hb dJ6_bitCount_0f7a4_2 (by decide) ?_
  refine lv_iushr (v := 0) hx hb dJ6_bitCount_0f7a4_3 (by decide) ?_
  refine lv_ldcw (v := 1431655765) hx hb hown (hts _ lq_316) dJ6_bitCount_0f7a4_4 ?_
  refine lv_iand hx hb dJ6_bitCount_0f7a4_7 ?_
  refine ka_top (w := .int 0) (congrArg Value.int (by decide)) ?_
  refine lv_isub hx hb dJ6_bitCount_0f7a4_8 ?_
  refine ka_top (w := .int 0) (congrArg Value.int (by decide)) ?_
  refine lv_istore_n (lv' := [(0, .int 0)]) hx hb dJ6_bitCount_0f7a4_9 rfl hl (by decide) rfl (fun ls hl => ?_)
  refine lv_iload_n hx hb dJ6_bitCount_0f7a4_10 rfl (lv_at hl 0 rfl) ?_
  refine lv_ldcw (v := 858993459) hx hb hown (hts _ lq_317) dJ6_bitCount_0f7a4_11 ?_
  refine lv_iand hx hb dJ6_bitCount_0f7a4_14 ?_
  refine ka_top (w := .int 0) (congrArg Value.int (by decide)) ?_
  refine lv_iload_n hx hb dJ6_bitCount_0f7a4_15 rfl (lv_at hl 0 rfl) ?_
  refine lv_iconst (v := 2) hx hb dJ6_bitCount_0f7a4_16 (by decide) ?_
  refine lv_iushr (v := 0) hx hb dJ6_bitCount_0f7a4_17 (by decide) ?_
  refine lv_ldcw (v := 858993459) hx hb hown (hts _ lq_317) dJ6_bitCount_0f7a4_18 ?_
  refine lv_iand hx hb dJ6_bitCount_0f7a4_21 ?_
  refine ka_top (w := .int 0) (congrArg Value.int (by decide)) ?_
  refine lv_iadd hx hb dJ6_bitCount_0f7a4_22 ?_
  refine ka_top (w := .int 0) (congrArg Value.int (by decide)) ?_
  refine lv_istore_n (lv' := [(0, .int 0)]) hx hb dJ6_bitCount_0f7a4_23 rfl hl (by decide) rfl (fun ls hl => ?_)
  refine lv_iload_n hx hb dJ6_bitCount_0f7a4_24 rfl (lv_at hl 0 rfl) ?_
  refine lv_iload_n hx hb dJ6_bitCount_0f7a4_25 rfl (lv_at hl 0 rfl) ?_
  refine lv_iconst (v := 4) hx hb dJ6_bitCount_0f7a4_26 (by decide) ?_
  refine lv_iushr (v := 0) hx hb dJ6_bitCount_0f7a4_27 (by decide) ?_
  refine lv_iadd hx hb dJ6_bitCount_0f7a4_28 ?_
  refine ka_top (w := .int 0) (congrArg Value.int (by decide)) ?_
  refine lv_ldcw (v := 252645135) hx hb hown (hts _ lq_318) dJ6_bitCount_0f7a4_29 ?_
  refine lv_iand hx hb dJ6_bitCount_0f7a4_32 ?_
  refine ka_top (w := .int 0) (congrArg Value.int (by decide)) ?_
  refine lv_istore_n (lv' := [(0, .int 0)]) hx hb dJ6_bitCount_0f7a4_33 rfl hl (by decide) rfl (fun ls hl => ?_)
  refine lv_iload_n hx hb dJ6_bitCount_0f7a4_34 rfl (lv_at hl 0 rfl) ?_
  refine lv_iload_n hx hb dJ6_bitCount_0f7a4_35 rfl (lv_at hl 0 rfl) ?_
  refine lv_bipush (v := 8) hx hb dJ6_bitCount_0f7a4_36 (by decide) ?_
  refine lv_iushr (v := 0) hx hb dJ6_bitCount_0f7a4_38 (by decide) ?_
  refine lv_iadd hx hb dJ6_bitCount_0f7a4_39 ?_
  refine ka_top (w := .int 0) (congrArg Value.int (by decide)) ?_
  refine lv_istore_n (lv' := [(0, .int 0)]) hx hb dJ6_bitCount_0f7a4_40 rfl hl (by decide) rfl (fun ls hl => ?_)
  refine lv_iload_n hx hb dJ6_bitCount_0f7a4_41 rfl (lv_at hl 0 rfl) ?_
  refine lv_iload_n hx hb dJ6_bitCount_0f7a4_42 rfl (lv_at hl 0 rfl) ?_
  refine lv_bipush (v := 16) hx hb dJ6_bitCount_0f7a4_43 (by decide) ?_
  refine lv_iushr (v := 0) hx hb dJ6_bitCount_0f7a4_45 (by decide) ?_
  refine lv_iadd hx hb dJ6_bitCount_0f7a4_46 ?_
  refine ka_top (w := .int 0) (congrArg Value.int (by decide)) ?_
  refine lv_istore_n (lv' := [(0, .int 0)]) hx hb dJ6_bitCount_0f7a4_47 rfl hl (by decide) rfl (fun ls hl => ?_)
  refine lv_iload_n hx hb dJ6_bitCount_0f7a4_48 rfl (lv_at hl 0 rfl) ?_
  refine lv_bipush (v := 63) hx hb dJ6_bitCount_0f7a4_49 (by decide) ?_
  refine lv_iand hx hb dJ6_bitCount_0f7a4_51 ?_
  refine ka_top (w := .int 0) (congrArg Value.int (by decide)) ?_
  exact ka_rRi C hr hlk rfl dJ6_bitCount_0f7a4_52
theorem lq_319 : Cond.fieldLink RX6 28 "AskedBack" "course" "LAskedBack$Course;" ∈ wsX6_count := by decide +kernel
set_option maxHeartbeats 4000000 in
set_option maxRecDepth 100000 in
theorem ct_X6_count_559 (l : Launch) (D : va_G) (a0 : Nat) (a1 : Nat) (a2 : Nat) (a3 : Nat) (a4 : Nat) (a5 : Nat) (a6 : Nat) : ka_R l D yX6_count wsX6_count 2 41 [.ref a0, .int 4] [(a0, .inr (6, [.ref a1, .ref a2, .ref a3, .ref a4, .int (-1), .int (-1), .int 0, .int 3, .int 3])), (a3, .inr (0, [.ref a5, .ref a6, .int 0]))] [] (fun v => v = some (.int 0)) := by
  refine ka_R_of (cc := cX6_count) (maxL := 2) (ret := (some .int)) (by decide) rfl (Nat.le_of_ble_eq_true rfl) ?_
  intro p e s m below meth c ls C hr hlk hP hK hE hN hl
  have hS : va_S (fun _ => False) s.heap s.heap [] := va_S.rf
  have C : CallFix p m c cX6_count 2 s [.ref a0, .int 4].toArray wsX6_count RX6 := C
  obtain ⟨hx, hb, hml, hown, hts⟩ := id C
  have hl : lv_has ls 2 [(0, .ref a0), (1, .int 4)] := hl
  refine lv_iload_n hx hb dX6_count_0 rfl (lv_at hl 1 rfl) ?_
  refine lv_tableIn (off := 76) (tgt := 77) hx hb dX6_count_1 (by decide) (by decide) (by decide) (by decide) ?_
  refine lv_aload_n hx hb dX6_count_77 rfl (lv_at hl 0 rfl) ?_
  refine lv_aload_n hx hb dX6_count_78 rfl (lv_at hl 0 rfl) ?_
  refine ka_get C lq_304 rfl hK hP 0 rfl 2 (by decide) lq_319 rfl dX6_count_79 ?_
  refine lv_aload_n hx hb dX6_count_82 rfl (lv_at hl 0 rfl) ?_
  refine ka_get C lq_304 rfl hK hP 0 rfl 4 (by decide) lq_305 rfl dX6_count_83 ?_
  refine ka_RV (n := 1) C (ct_X0_lessonAt_521 l D a3) gX6_count_X0_lessonAt rfl (by decide +kernel) ⟨Nat.le_of_ble_eq_true rfl, Nat.le_of_ble_eq_true rfl⟩ hK hP hS hE hN [] rfl [] rfl (ci := 0) rfl rfl 1 rfl rfl hl.1 (rest := [.ref a0]) rfl (Nat.le_of_ble_eq_true rfl) dX6_count_86 ⟨Nat.le_of_ble_eq_true rfl, Nat.le_of_ble_eq_true rfl⟩ (fun v hv => ?_)
  subst hv
  refine ka_stk (w := [.null, .ref a0]) rfl ?_
  refine ka_RV (n := 1) C (ct_X6_leftOf_557 l D a0) gX6_count_X6_leftOf rfl (by decide +kernel) ⟨Nat.le_of_ble_eq_true rfl, Nat.le_of_ble_eq_true rfl⟩ hK hP hS hE hN [] rfl [] rfl (ci := 6) rfl rfl 0 rfl rfl hl.1 (rest := []) rfl (Nat.le_of_ble_eq_true rfl) dX6_count_89 ⟨Nat.le_of_ble_eq_true rfl, Nat.le_of_ble_eq_true rfl⟩ (fun v hv => ?_)
  subst hv
  refine ka_stk (w := [.int 0]) rfl ?_
  refine ka_RS (n := 1) C (ct_J6_bitCount_0f7a4_558 l D ) gX6_count_J6_bitCount_0f7a4 rfl (by decide +kernel) ⟨Nat.le_of_ble_eq_true rfl, Nat.le_of_ble_eq_true rfl⟩ hK hP hS hE hN [] rfl [] rfl rfl hl.1 (rest := []) rfl (Nat.le_of_ble_eq_true rfl) dX6_count_92 ⟨Nat.le_of_ble_eq_true rfl, Nat.le_of_ble_eq_true rfl⟩ (fun v hv => ?_)
  subst hv
  refine ka_stk (w := [.int 0]) rfl ?_
  exact ka_rRi C hr hlk rfl dX6_count_95
set_option maxHeartbeats 4000000 in
set_option maxRecDepth 100000 in
theorem ct_X7_count_560 (l : Launch) (D : va_G) (a0 : Nat) (a1 : Nat) (a2 : Nat) (a3 : Nat) (a4 : Nat) (a5 : Nat) (a6 : Nat) (a7 : Nat) (a8 : Nat) (a9 : Nat) (a10 : Nat) (a11 : Nat) (a12 : Nat) (a13 : Nat) (a14 : Nat) : ka_R l D yX7_count wsX7_count 0 0 [.ref a0, .int 4] [(a0, .inr (7, [.ref a1, .int 0, .ref a2, .ref a3, .ref a4, .ref a5, .ref a6, .ref a7, .ref a8, .int (-1), .int 0, .int 3, .int 3, .int 0, .int 0, .int 0, .ref a9, .ref a10, .ref a11, .ref a12, .ref a13, .ref a14, .int 0, .int 0, .int 0, .int 0, .int (-1), .int 0]))] [] (fun v => v = some (.int 0)) := by
  refine ka_R_of (cc := cX7_count) (maxL := 4) (ret := (some .int)) (by decide) rfl (Nat.le_of_ble_eq_true rfl) ?_
  intro p e s m below meth c ls C hr hlk hP hK hE hN hl
  have hS : va_S (fun _ => False) s.heap s.heap [] := va_S.rf
  have C : CallFix p m c cX7_count 4 s [.ref a0, .int 4].toArray wsX7_count RX7 := C
  obtain ⟨hx, hb, hml, hown, hts⟩ := id C
  have hl : lv_has ls 4 [(0, .ref a0), (1, .int 4)] := hl
  refine lv_iload_n hx hb dX7_count_0 rfl (lv_at hl 1 rfl) ?_
  refine lv_tableIn (off := 67) (tgt := 68) hx hb dX7_count_1 (by decide) (by decide) (by decide) (by decide) ?_
  refine lv_aload_n hx hb dX7_count_68 rfl (lv_at hl 0 rfl) ?_
  refine ka_get C lq_306 rfl hK hP 0 rfl 9 (by decide) lq_307 rfl dX7_count_69 ?_
  refine lv_iconst (v := (-1)) hx hb dX7_count_72 (by decide) ?_
  refine lv_icmp_ne (tgt := 80) hx hb dX7_count_73 (by decide) (fun c_ => absurd (by decide) c_) (fun _ => ?_)
  refine lv_iconst (v := 0) hx hb dX7_count_76 (by decide) ?_
  refine lv_goto (tgt := 87) hx hb dX7_count_77 (by decide) ?_
  exact ka_rRi C hr hlk rfl dX7_count_87
set_option maxHeartbeats 4000000 in
set_option maxRecDepth 100000 in
theorem ct_X0_isDone_561 (l : Launch) (D : va_G) (a0 : Nat) : ka_R l D yX0_isDone wsX0_isDone 1 20 [.ref a0, .int (-1)] [] [] (fun v => v = some (.int 0)) := by
  refine ka_R_of (cc := cX0_isDone) (maxL := 2) (ret := (some .boolean)) (by decide) rfl (Nat.le_of_ble_eq_true rfl) ?_
  intro p e s m below meth c ls C hr hlk hP hK hE hN hl
  have hS : va_S (fun _ => False) s.heap s.heap [] := va_S.rf
  have C : CallFix p m c cX0_isDone 2 s [.ref a0, .int (-1)].toArray wsX0_isDone RX0 := C
  obtain ⟨hx, hb, hml, hown, hts⟩ := id C
  have hl : lv_has ls 2 [(0, .ref a0), (1, .int (-1))] := hl
  refine lv_iload_n hx hb dX0_isDone_0 rfl (lv_at hl 1 rfl) ?_
  refine ka_RS (n := 1) C (ct_X0_isLesson_520 l D ) gX0_isDone_X0_isLesson rfl (by decide +kernel) ⟨Nat.le_of_ble_eq_true rfl, Nat.le_of_ble_eq_true rfl⟩ hK hP hS hE hN [] rfl [] rfl rfl hl.1 (rest := []) rfl (Nat.le_of_ble_eq_true rfl) dX0_isDone_1 ⟨Nat.le_of_ble_eq_true rfl, Nat.le_of_ble_eq_true rfl⟩ (fun v hv => ?_)
  subst hv
  refine ka_stk (w := [.int 0]) rfl ?_
  refine lv_if_eq (tgt := 23) hx hb dX0_isDone_4 (by decide) (fun _ => ?_) (fun c_ => absurd (by decide) c_)
  refine lv_iconst (v := 0) hx hb dX0_isDone_23 (by decide) ?_
  exact ka_rRz C hr hlk rfl rfl dX0_isDone_24
set_option maxHeartbeats 4000000 in
set_option maxRecDepth 100000 in
theorem ct_X6_count_562 (l : Launch) (D : va_G) (a0 : Nat) (a1 : Nat) (a2 : Nat) (a3 : Nat) (a4 : Nat) (a5 : Nat) (a6 : Nat) : ka_R l D yX6_count wsX6_count 2 41 [.ref a0, .int 5] [(a0, .inr (6, [.ref a1, .ref a2, .ref a3, .ref a4, .int (-1), .int (-1), .int 0, .int 3, .int 3])), (a3, .inr (0, [.ref a5, .ref a6, .int 0]))] [] (fun v => v = some (.int 0)) := by
  refine ka_R_of (cc := cX6_count) (maxL := 2) (ret := (some .int)) (by decide) rfl (Nat.le_of_ble_eq_true rfl) ?_
  intro p e s m below meth c ls C hr hlk hP hK hE hN hl
  have hS : va_S (fun _ => False) s.heap s.heap [] := va_S.rf
  have C : CallFix p m c cX6_count 2 s [.ref a0, .int 5].toArray wsX6_count RX6 := C
  obtain ⟨hx, hb, hml, hown, hts⟩ := id C
  have hl : lv_has ls 2 [(0, .ref a0), (1, .int 5)] := hl
  refine lv_iload_n hx hb dX6_count_0 rfl (lv_at hl 1 rfl) ?_
  refine lv_tableIn (off := 95) (tgt := 96) hx hb dX6_count_1 (by decide) (by decide) (by decide) (by decide) ?_
  refine lv_aload_n hx hb dX6_count_96 rfl (lv_at hl 0 rfl) ?_
  refine ka_get C lq_304 rfl hK hP 0 rfl 2 (by decide) lq_319 rfl dX6_count_97 ?_
  refine lv_aload_n hx hb dX6_count_100 rfl (lv_at hl 0 rfl) ?_
  refine ka_get C lq_304 rfl hK hP 0 rfl 4 (by decide) lq_305 rfl dX6_count_101 ?_
  refine ka_RV (n := 1) C (ct_X0_isDone_561 l D a3) gX6_count_X0_isDone rfl (by decide +kernel) ⟨Nat.le_of_ble_eq_true rfl, Nat.le_of_ble_eq_true rfl⟩ hK hP hS hE hN [] rfl [] rfl (ci := 0) rfl rfl 1 rfl rfl hl.1 (rest := []) rfl (Nat.le_of_ble_eq_true rfl) dX6_count_104 ⟨Nat.le_of_ble_eq_true rfl, Nat.le_of_ble_eq_true rfl⟩ (fun v hv => ?_)
  subst hv
  refine ka_stk (w := [.int 0]) rfl ?_
  refine lv_if_eq (tgt := 114) hx hb dX6_count_107 (by decide) (fun _ => ?_) (fun c_ => absurd (by decide) c_)
  refine lv_iconst (v := 0) hx hb dX6_count_114 (by decide) ?_
  exact ka_rRi C hr hlk rfl dX6_count_115
set_option maxHeartbeats 4000000 in
set_option maxRecDepth 100000 in
theorem ct_X7_count_563 (l : Launch) (D : va_G) (a0 : Nat) (a1 : Nat) (a2 : Nat) (a3 : Nat) (a4 : Nat) (a5 : Nat) (a6 : Nat) (a7 : Nat) (a8 : Nat) (a9 : Nat) (a10 : Nat) (a11 : Nat) (a12 : Nat) (a13 : Nat) (a14 : Nat) : ka_R l D yX7_count wsX7_count 0 0 [.ref a0, .int 5] [(a0, .inr (7, [.ref a1, .int 0, .ref a2, .ref a3, .ref a4, .ref a5, .ref a6, .ref a7, .ref a8, .int (-1), .int 0, .int 3, .int 3, .int 0, .int 0, .int 0, .ref a9, .ref a10, .ref a11, .ref a12, .ref a13, .ref a14, .int 0, .int 0, .int 0, .int 0, .int (-1), .int 0]))] [] (fun v => v = some (.int 0)) := by
  refine ka_R_of (cc := cX7_count) (maxL := 4) (ret := (some .int)) (by decide) rfl (Nat.le_of_ble_eq_true rfl) ?_
  intro p e s m below meth c ls C hr hlk hP hK hE hN hl
  have hS : va_S (fun _ => False) s.heap s.heap [] := va_S.rf
  have C : CallFix p m c cX7_count 4 s [.ref a0, .int 5].toArray wsX7_count RX7 := C
  obtain ⟨hx, hb, hml, hown, hts⟩ := id C
  have hl : lv_has ls 4 [(0, .ref a0), (1, .int 5)] := hl
  refine lv_iload_n hx hb dX7_count_0 rfl (lv_at hl 1 rfl) ?_
  refine lv_tableIn (off := 87) (tgt := 88) hx hb dX7_count_1 (by decide) (by decide) (by decide) (by decide) ?_
  refine lv_aload_n hx hb dX7_count_88 rfl (lv_at hl 0 rfl) ?_
  refine ka_get C lq_306 rfl hK hP 0 rfl 9 (by decide) lq_307 rfl dX7_count_89 ?_
  refine lv_iconst (v := (-1)) hx hb dX7_count_92 (by decide) ?_
  refine lv_icmp_ne (tgt := 100) hx hb dX7_count_93 (by decide) (fun c_ => absurd (by decide) c_) (fun _ => ?_)
  refine lv_iconst (v := 0) hx hb dX7_count_96 (by decide) ?_
  refine lv_goto (tgt := 112) hx hb dX7_count_97 (by decide) ?_
  exact ka_rRi C hr hlk rfl dX7_count_112
theorem lq_320 : ∀ w ∈ wsX00, w ∈ wsX6_count := by decide +kernel
theorem lq_321 : Cond.fieldLink RX6 207 "AskedBack$Course" "done" "I" ∈ wsX6_count := by decide +kernel
set_option maxHeartbeats 4000000 in
set_option maxRecDepth 100000 in
theorem ct_X6_count_564 (l : Launch) (D : va_G) (a0 : Nat) (a1 : Nat) (a2 : Nat) (a3 : Nat) (a4 : Nat) (a5 : Nat) (a6 : Nat) : ka_R l D yX6_count wsX6_count 0 0 [.ref a0, .int 6] [(a0, .inr (6, [.ref a1, .ref a2, .ref a3, .ref a4, .int (-1), .int (-1), .int 0, .int 3, .int 3])), (a3, .inr (0, [.ref a5, .ref a6, .int 0]))] [] (fun v => v = some (.int 0)) := by
  refine ka_R_of (cc := cX6_count) (maxL := 2) (ret := (some .int)) (by decide) rfl (Nat.le_of_ble_eq_true rfl) ?_
  intro p e s m below meth c ls C hr hlk hP hK hE hN hl
  have hS : va_S (fun _ => False) s.heap s.heap [] := va_S.rf
  have C : CallFix p m c cX6_count 2 s [.ref a0, .int 6].toArray wsX6_count RX6 := C
  obtain ⟨hx, hb, hml, hown, hts⟩ := id C
  have hl : lv_has ls 2 [(0, .ref a0), (1, .int 6)] := hl
  refine lv_iload_n hx hb dX6_count_0 rfl (lv_at hl 1 rfl) ?_
  refine lv_tableIn (off := 115) (tgt := 116) hx hb dX6_count_1 (by decide) (by decide) (by decide) (by decide) ?_
  refine lv_aload_n hx hb dX6_count_116 rfl (lv_at hl 0 rfl) ?_
  refine ka_get C lq_304 rfl hK hP 0 rfl 2 (by decide) lq_319 rfl dX6_count_117 ?_
  refine ka_get C lq_320 rfl hK hP 1 rfl 2 (by decide) lq_321 rfl dX6_count_120 ?_
  exact ka_rRi C hr hlk rfl dX6_count_123
theorem lq_322 : Cond.fieldLink RX7 27 "AskedBackModel" "isDone" "[Z" ∈ wsX7_count := by decide +kernel
set_option maxHeartbeats 4000000 in
set_option maxRecDepth 100000 in
theorem ct_X7_count_565 (l : Launch) (D : va_G) (a0 : Nat) (a1 : Nat) (a2 : Nat) (a3 : Nat) (a4 : Nat) (a5 : Nat) (a6 : Nat) (a7 : Nat) (a8 : Nat) (a9 : Nat) (a10 : Nat) (a11 : Nat) (a12 : Nat) (a13 : Nat) (a14 : Nat) (k0 : ClassId) : ka_R l D yX7_count wsX7_count 0 0 [.ref a0, .int 6] [(a0, .inr (7, [.ref a1, .int 0, .ref a2, .ref a3, .ref a4, .ref a5, .ref a6, .ref a7, .ref a8, .int (-1), .int 0, .int 3, .int 3, .int 0, .int 0, .int 0, .ref a9, .ref a10, .ref a11, .ref a12, .ref a13, .ref a14, .int 0, .int 0, .int 0, .int 0, .int (-1), .int 0])), (a6, .inl (k0, 6, .inl (fun _ => 0)))] [(k0, .boolean)] (fun v => v = some (.int 0)) := by
  refine ka_R_of (cc := cX7_count) (maxL := 4) (ret := (some .int)) (by decide) rfl (Nat.le_of_ble_eq_true rfl) ?_
  intro p e s m below meth c ls C hr hlk hP hK hE hN hl
  have hS : va_S (fun _ => False) s.heap s.heap [] := va_S.rf
  have C : CallFix p m c cX7_count 4 s [.ref a0, .int 6].toArray wsX7_count RX7 := C
  obtain ⟨hx, hb, hml, hown, hts⟩ := id C
  have hl : lv_has ls 4 [(0, .ref a0), (1, .int 6)] := hl
  refine lv_iload_n hx hb dX7_count_0 rfl (lv_at hl 1 rfl) ?_
  refine lv_tableIn (off := 112) (tgt := 113) hx hb dX7_count_1 (by decide) (by decide) (by decide) (by decide) ?_
  refine lv_iconst (v := 0) hx hb dX7_count_113 (by decide) ?_
  refine lv_istore_n (lv' := [(2, .int 0), (0, .ref a0), (1, .int 6)]) hx hb dX7_count_114 rfl hl (by decide) rfl (fun ls hl => ?_)
  refine lv_iconst (v := 0) hx hb dX7_count_115 (by decide) ?_
  refine lv_istore_n (lv' := [(3, .int 0), (2, .int 0), (0, .ref a0), (1, .int 6)]) hx hb dX7_count_116 rfl hl (by decide) rfl (fun ls hl => ?_)
  refine lv_iload_n hx hb dX7_count_117 rfl (lv_at hl 0 rfl) ?_
  refine lv_bipush (v := 6) hx hb dX7_count_118 (by decide) ?_
  refine lv_icmp_ge (tgt := 144) hx hb dX7_count_120 (by decide) (fun c_ => absurd c_ (by decide)) (fun _ => ?_)
  refine lv_aload_n hx hb dX7_count_123 rfl (lv_at hl 2 rfl) ?_
  refine ka_get C lq_306 rfl hK hP 0 rfl 6 (by decide) lq_322 rfl dX7_count_124 ?_
  refine lv_iload_n hx hb dX7_count_127 rfl (lv_at hl 0 rfl) ?_
  refine va_zald hx hb hK hP 1 0 rfl rfl (ka_in (by decide) (by decide)) dX7_count_128 ?_
  refine ka_top (w := .int 0) rfl ?_
  refine lv_if_eq (tgt := 138) hx hb dX7_count_129 (by decide) (fun _ => ?_) (fun c_ => absurd (by decide) c_)
  refine lv_iinc (v := 1) (lv' := [(3, .int 1), (2, .int 0), (0, .ref a0), (1, .int 6)]) hx hb dX7_count_138 hl (k := 0) rfl (by decide) (by decide) rfl (fun ls hl => ?_)
  refine lv_goto (tgt := 117) hx hb dX7_count_141 (by decide) ?_
  refine lv_iload_n hx hb dX7_count_117 rfl (lv_at hl 0 rfl) ?_
  refine lv_bipush (v := 6) hx hb dX7_count_118 (by decide) ?_
  refine lv_icmp_ge (tgt := 144) hx hb dX7_count_120 (by decide) (fun c_ => absurd c_ (by decide)) (fun _ => ?_)
  refine lv_aload_n hx hb dX7_count_123 rfl (lv_at hl 2 rfl) ?_
  refine ka_get C lq_306 rfl hK hP 0 rfl 6 (by decide) lq_322 rfl dX7_count_124 ?_
  refine lv_iload_n hx hb dX7_count_127 rfl (lv_at hl 0 rfl) ?_
  refine va_zald hx hb hK hP 1 0 rfl rfl (ka_in (by decide) (by decide)) dX7_count_128 ?_
  refine ka_top (w := .int 0) rfl ?_
  refine lv_if_eq (tgt := 138) hx hb dX7_count_129 (by decide) (fun _ => ?_) (fun c_ => absurd (by decide) c_)
  refine lv_iinc (v := 2) (lv' := [(3, .int 2), (2, .int 0), (0, .ref a0), (1, .int 6)]) hx hb dX7_count_138 hl (k := 0) rfl (by decide) (by decide) rfl (fun ls hl => ?_)
  refine lv_goto (tgt := 117) hx hb dX7_count_141 (by decide) ?_
  refine lv_iload_n hx hb dX7_count_117 rfl (lv_at hl 0 rfl) ?_
  refine lv_bipush (v := 6) hx hb dX7_count_118 (by decide) ?_
  refine lv_icmp_ge (tgt := 144) hx hb dX7_count_120 (by decide) (fun c_ => absurd c_ (by decide)) (fun _ => ?_)
  refine lv_aload_n hx hb dX7_count_123 rfl (lv_at hl 2 rfl) ?_
  refine ka_get C lq_306 rfl hK hP 0 rfl 6 (by decide) lq_322 rfl dX7_count_124 ?_
  refine lv_iload_n hx hb dX7_count_127 rfl (lv_at hl 0 rfl) ?_
  refine va_zald hx hb hK hP 1 0 rfl rfl (ka_in (by decide) (by decide)) dX7_count_128 ?_
  refine ka_top (w := .int 0) rfl ?_
  refine lv_if_eq (tgt := 138) hx hb dX7_count_129 (by decide) (fun _ => ?_) (fun c_ => absurd (by decide) c_)
  refine lv_iinc (v := 3) (lv' := [(3, .int 3), (2, .int 0), (0, .ref a0), (1, .int 6)]) hx hb dX7_count_138 hl (k := 0) rfl (by decide) (by decide) rfl (fun ls hl => ?_)
  refine lv_goto (tgt := 117) hx hb dX7_count_141 (by decide) ?_
  refine lv_iload_n hx hb dX7_count_117 rfl (lv_at hl 0 rfl) ?_
  refine lv_bipush (v := 6) hx hb dX7_count_118 (by decide) ?_
  refine lv_icmp_ge (tgt := 144) hx hb dX7_count_120 (by decide) (fun c_ => absurd c_ (by decide)) (fun _ => ?_)
  refine lv_aload_n hx hb dX7_count_123 rfl (lv_at hl 2 rfl) ?_
  refine ka_get C lq_306 rfl hK hP 0 rfl 6 (by decide) lq_322 rfl dX7_count_124 ?_
  refine lv_iload_n hx hb dX7_count_127 rfl (lv_at hl 0 rfl) ?_
  refine va_zald hx hb hK hP 1 0 rfl rfl (ka_in (by decide) (by decide)) dX7_count_128 ?_
  refine ka_top (w := .int 0) rfl ?_
  refine lv_if_eq (tgt := 138) hx hb dX7_count_129 (by decide) (fun _ => ?_) (fun c_ => absurd (by decide) c_)
  refine lv_iinc (v := 4) (lv' := [(3, .int 4), (2, .int 0), (0, .ref a0), (1, .int 6)]) hx hb dX7_count_138 hl (k := 0) rfl (by decide) (by decide) rfl (fun ls hl => ?_)
  refine lv_goto (tgt := 117) hx hb dX7_count_141 (by decide) ?_
  refine lv_iload_n hx hb dX7_count_117 rfl (lv_at hl 0 rfl) ?_
  refine lv_bipush (v := 6) hx hb dX7_count_118 (by decide) ?_
  refine lv_icmp_ge (tgt := 144) hx hb dX7_count_120 (by decide) (fun c_ => absurd c_ (by decide)) (fun _ => ?_)
  refine lv_aload_n hx hb dX7_count_123 rfl (lv_at hl 2 rfl) ?_
  refine ka_get C lq_306 rfl hK hP 0 rfl 6 (by decide) lq_322 rfl dX7_count_124 ?_
  refine lv_iload_n hx hb dX7_count_127 rfl (lv_at hl 0 rfl) ?_
  refine va_zald hx hb hK hP 1 0 rfl rfl (ka_in (by decide) (by decide)) dX7_count_128 ?_
  refine ka_top (w := .int 0) rfl ?_
  refine lv_if_eq (tgt := 138) hx hb dX7_count_129 (by decide) (fun _ => ?_) (fun c_ => absurd (by decide) c_)
  refine lv_iinc (v := 5) (lv' := [(3, .int 5), (2, .int 0), (0, .ref a0), (1, .int 6)]) hx hb dX7_count_138 hl (k := 0) rfl (by decide) (by decide) rfl (fun ls hl => ?_)
  refine lv_goto (tgt := 117) hx hb dX7_count_141 (by decide) ?_
  refine lv_iload_n hx hb dX7_count_117 rfl (lv_at hl 0 rfl) ?_
  refine lv_bipush (v := 6) hx hb dX7_count_118 (by decide) ?_
  refine lv_icmp_ge (tgt := 144) hx hb dX7_count_120 (by decide) (fun c_ => absurd c_ (by decide)) (fun _ => ?_)
  refine lv_aload_n hx hb dX7_count_123 rfl (lv_at hl 2 rfl) ?_
  refine ka_get C lq_306 rfl hK hP 0 rfl 6 (by decide) lq_322 rfl dX7_count_124 ?_
  refine lv_iload_n hx hb dX7_count_127 rfl (lv_at hl 0 rfl) ?_
  refine va_zald hx hb hK hP 1 0 rfl rfl (ka_in (by decide) (by decide)) dX7_count_128 ?_
  refine ka_top (w := .int 0) rfl ?_
  refine lv_if_eq (tgt := 138) hx hb dX7_count_129 (by decide) (fun _ => ?_) (fun c_ => absurd (by decide) c_)
  refine lv_iinc (v := 6) (lv' := [(3, .int 6), (2, .int 0), (0, .ref a0), (1, .int 6)]) hx hb dX7_count_138 hl (k := 0) rfl (by decide) (by decide) rfl (fun ls hl => ?_)
  refine lv_goto (tgt := 117) hx hb dX7_count_141 (by decide) ?_
  refine lv_iload_n hx hb dX7_count_117 rfl (lv_at hl 0 rfl) ?_
  refine lv_bipush (v := 6) hx hb dX7_count_118 (by decide) ?_
  refine lv_icmp_ge (tgt := 144) hx hb dX7_count_120 (by decide) (fun _ => ?_) (fun c_ => absurd (by decide) c_)
  refine lv_iload_n hx hb dX7_count_144 rfl (lv_at hl 1 rfl) ?_
  exact ka_rRi C hr hlk rfl dX7_count_145
theorem lq_323 : Cond.fieldLink RX6 10 "AskedBack" "tape" "LAskedBack$Tape;" ∈ wsX6_count := by decide +kernel
theorem lq_324 : ∀ w ∈ wsX50, w ∈ wsX6_count := by decide +kernel
theorem lq_325 : Cond.fieldLink RX6 55 "AskedBack$Tape" "length" "I" ∈ wsX6_count := by decide +kernel
set_option maxHeartbeats 4000000 in
set_option maxRecDepth 100000 in
theorem ct_X6_count_566 (l : Launch) (D : va_G) (a0 : Nat) (a1 : Nat) (a2 : Nat) (a3 : Nat) (a4 : Nat) (a5 : Nat) : ka_R l D yX6_count wsX6_count 0 0 [.ref a0, .int 7] [(a0, .inr (6, [.ref a1, .ref a2, .ref a3, .ref a4, .int (-1), .int (-1), .int 0, .int 3, .int 3])), (a1, .inr (5, [.ref a5, .int 0]))] [] (fun v => v = some (.int 0)) := by
  refine ka_R_of (cc := cX6_count) (maxL := 2) (ret := (some .int)) (by decide) rfl (Nat.le_of_ble_eq_true rfl) ?_
  intro p e s m below meth c ls C hr hlk hP hK hE hN hl
  have hS : va_S (fun _ => False) s.heap s.heap [] := va_S.rf
  have C : CallFix p m c cX6_count 2 s [.ref a0, .int 7].toArray wsX6_count RX6 := C
  obtain ⟨hx, hb, hml, hown, hts⟩ := id C
  have hl : lv_has ls 2 [(0, .ref a0), (1, .int 7)] := hl
  refine lv_iload_n hx hb dX6_count_0 rfl (lv_at hl 1 rfl) ?_
  refine lv_tableIn (off := 123) (tgt := 124) hx hb dX6_count_1 (by decide) (by decide) (by decide) (by decide) ?_
  refine lv_aload_n hx hb dX6_count_124 rfl (lv_at hl 0 rfl) ?_
  refine ka_get C lq_304 rfl hK hP 0 rfl 0 (by decide) lq_323 rfl dX6_count_125 ?_
  refine ka_get C lq_324 rfl hK hP 1 rfl 1 (by decide) lq_325 rfl dX6_count_128 ?_
  exact ka_rRi C hr hlk rfl dX6_count_131
theorem lq_326 : Cond.fieldLink RX7 71 "AskedBackModel" "taped" "I" ∈ wsX7_count := by decide +kernel
set_option maxHeartbeats 4000000 in
set_option maxRecDepth 100000 in
theorem ct_X7_count_567 (l : Launch) (D : va_G) (a0 : Nat) (a1 : Nat) (a2 : Nat) (a3 : Nat) (a4 : Nat) (a5 : Nat) (a6 : Nat) (a7 : Nat) (a8 : Nat) (a9 : Nat) (a10 : Nat) (a11 : Nat) (a12 : Nat) (a13 : Nat) (a14 : Nat) : ka_R l D yX7_count wsX7_count 0 0 [.ref a0, .int 7] [(a0, .inr (7, [.ref a1, .int 0, .ref a2, .ref a3, .ref a4, .ref a5, .ref a6, .ref a7, .ref a8, .int (-1), .int 0, .int 3, .int 3, .int 0, .int 0, .int 0, .ref a9, .ref a10, .ref a11, .ref a12, .ref a13, .ref a14, .int 0, .int 0, .int 0, .int 0, .int (-1), .int 0]))] [] (fun v => v = some (.int 0)) := by
  refine ka_R_of (cc := cX7_count) (maxL := 4) (ret := (some .int)) (by decide) rfl (Nat.le_of_ble_eq_true rfl) ?_
  intro p e s m below meth c ls C hr hlk hP hK hE hN hl
  have hS : va_S (fun _ => False) s.heap s.heap [] := va_S.rf
  have C : CallFix p m c cX7_count 4 s [.ref a0, .int 7].toArray wsX7_count RX7 := C
  obtain ⟨hx, hb, hml, hown, hts⟩ := id C
  have hl : lv_has ls 4 [(0, .ref a0), (1, .int 7)] := hl
  refine lv_iload_n hx hb dX7_count_0 rfl (lv_at hl 1 rfl) ?_
  refine lv_tableIn (off := 145) (tgt := 146) hx hb dX7_count_1 (by decide) (by decide) (by decide) (by decide) ?_
  refine lv_aload_n hx hb dX7_count_146 rfl (lv_at hl 0 rfl) ?_
  refine ka_get C lq_306 rfl hK hP 0 rfl 1 (by decide) lq_326 rfl dX7_count_147 ?_
  exact ka_rRi C hr hlk rfl dX7_count_150
set_option maxHeartbeats 4000000 in
set_option maxRecDepth 100000 in
theorem ct_X6_count_568 (l : Launch) (D : va_G) (a0 : Nat) (x0 : Int32) (hx0 : 8 ≤ x0.toInt) : ka_R l D yX6_count wsX6_count 0 0 [.ref a0, .int x0] [] [] (fun v => v = some (.int (-1))) := by
  refine ka_R_of (cc := cX6_count) (maxL := 2) (ret := (some .int)) (by decide) rfl (Nat.le_of_ble_eq_true rfl) ?_
  intro p e s m below meth c ls C hr hlk hP hK hE hN hl
  have hS : va_S (fun _ => False) s.heap s.heap [] := va_S.rf
  have C : CallFix p m c cX6_count 2 s [.ref a0, .int x0].toArray wsX6_count RX6 := C
  obtain ⟨hx, hb, hml, hown, hts⟩ := id C
  have hl : lv_has ls 2 [(0, .ref a0), (1, .int x0)] := hl
  have rx0 := ka_rng x0
  refine lv_iload_n hx hb dX6_count_0 rfl (lv_at hl 1 rfl) ?_
  refine lv_tableOut (tgt := 132) hx hb dX6_count_1 (by omega) (by decide) ?_
  refine lv_iconst (v := (-1)) hx hb dX6_count_132 (by decide) ?_
  exact ka_rRi C hr hlk rfl dX6_count_133
set_option maxHeartbeats 4000000 in
set_option maxRecDepth 100000 in
theorem ct_X7_count_569 (l : Launch) (D : va_G) (a0 : Nat) (x0 : Int32) (hx0 : 8 ≤ x0.toInt) : ka_R l D yX7_count wsX7_count 0 0 [.ref a0, .int x0] [] [] (fun v => v = some (.int (-1))) := by
  refine ka_R_of (cc := cX7_count) (maxL := 4) (ret := (some .int)) (by decide) rfl (Nat.le_of_ble_eq_true rfl) ?_
  intro p e s m below meth c ls C hr hlk hP hK hE hN hl
  have hS : va_S (fun _ => False) s.heap s.heap [] := va_S.rf
  have C : CallFix p m c cX7_count 4 s [.ref a0, .int x0].toArray wsX7_count RX7 := C
  obtain ⟨hx, hb, hml, hown, hts⟩ := id C
  have hl : lv_has ls 4 [(0, .ref a0), (1, .int x0)] := hl
  have rx0 := ka_rng x0
  refine lv_iload_n hx hb dX7_count_0 rfl (lv_at hl 1 rfl) ?_
  refine lv_tableOut (tgt := 151) hx hb dX7_count_1 (by omega) (by decide) ?_
  refine lv_iconst (v := (-1)) hx hb dX7_count_151 (by decide) ?_
  exact ka_rRi C hr hlk rfl dX7_count_152
set_option maxHeartbeats 8000000 in
set_option maxRecDepth 100000 in
theorem lc_20 {p : Program} {l : Launch} {e : Env} {s : State} {m : MethodId} {below : List Frame} {meth : Method} {c : Code} {b : Nat} {xs : Nat → Int32} {D : va_G} {A : Nat → Prop} {H : Heap} {locs : List Loc} {ls : Array Slot} {q_1 : Nat} {q_386 : Nat} {q_387 : Nat} {q_388 : Nat} {q_389 : Nat} {q_390 : Nat} {k_391 : ClassId} {q_392 : Nat} {q_393 : Nat} {q_394 : Nat} {k_395 : ClassId} {q_396 : Nat} {q_397 : Nat} {q_398 : Nat} {q_399 : Nat} {q_400 : Nat} {q_401 : Nat} {k_402 : ClassId} {q_403 : Nat} {q_404 : Nat} {q_405 : Nat} {q_406 : Nat} {q_407 : Nat} {q_408 : Nat} {q_409 : Nat} {q_410 : Nat} {q_411 : Nat} {q_412 : Nat} {q_413 : Nat} {q_414 : Nat} {q_415 : Nat} {q_416 : Nat} {q_417 : Nat} {q_418 : Nat} {q_503 : Nat} {q_504 : Nat} {q_505 : Nat} {q_506 : Nat} {q_507 : Nat} {q_508 : Nat} {q_509 : Nat} {q_510 : Nat} {q_511 : Nat} {q_512 : Nat} {q_513 : Nat} {q_514 : Nat} {q_515 : Nat} {q_516 : Nat} {k_517 : ClassId} {k_518 : ClassId} {k_519 : ClassId} {k_520 : ClassId} {k_521 : ClassId} (C : CallFix p m c cL_law 4 s #[Value.ref b] wsL_law RL) (hr : meth.sig.returnType = ret) (hlk : meth.locks = false) (hX : va_X b 6 xs s s.heap) (hbl : b < s.heap.size) (hAe : A = fun q => s.heap.size ≤ q) (hK : va_K D vwCl [(k_391, .byte), (k_395, .object RX2), (k_402, .int), (k_517, .byte), (k_518, .boolean), (k_519, .boolean), (k_520, .boolean), (k_521, .int)] s) (hP : va_P D vwCl [(q_1, .inr (6, [.ref q_386, .ref q_387, .ref q_388, .ref q_389, .int (-1), .int (-1), .int 0, .int 3, .int 3])), (q_386, .inr (5, [.ref q_390, .int 0])), (q_390, .inl (k_391, 80, .inl (fun _ => 0))), (q_387, .inr (3, [.ref q_386, .ref q_392, .int 0, .int 0, .int 0, .int (-1), .int 3, .int 0])), (q_388, .inr (0, [.ref q_393, .ref q_394, .int 0])), (q_393, .inl (k_395, 6, .inr (.inr (.inr (.inr (va_up (va_up (va_up (va_up (va_up (va_up (fun _ => none) 0 (some q_396)) 1 (some q_397)) 2 (some q_398)) 3 (some q_399)) 4 (some q_400)) 5 (some q_401))))))), (q_394, .inl (k_402, 6, .inl (fun _ => 0))), (q_396, .inr (2, [.ref q_403, .ref q_404, .int 0, .null])), (q_397, .inr (2, [.ref q_405, .ref q_406, .int 0, .null])), (q_398, .inr (2, [.ref q_407, .ref q_408, .int 0, .null])), (q_399, .inr (2, [.ref q_409, .ref q_410, .int 0, .null])), (q_400, .inr (2, [.ref q_411, .ref q_412, .int 0, .null])), (q_401, .inr (2, [.ref q_413, .ref q_414, .int 0, .null])), (q_389, .inr (4, [.ref q_415, .ref q_416, .ref q_417, .int 0, .int 0, .int 0, .int 0, .int 0, .int 0])), (q_418, .inr (7, [.ref q_503, .int 0, .ref q_504, .ref q_505, .ref q_506, .ref q_507, .ref q_508, .ref q_509, .ref q_510, .int (-1), .int 0, .int 3, .int 3, .int 0, .int 0, .int 0, .ref q_511, .ref q_512, .ref q_513, .ref q_514, .ref q_515, .ref q_516, .int 0, .int 0, .int 0, .int 0, .int (-1), .int 0])), (q_503, .inl (k_517, 80, .inl (fun _ => 0))), (q_507, .inl (k_518, 6, .inl (fun _ => 0))), (q_508, .inl (k_519, 6, .inl (fun _ => 0))), (q_509, .inl (k_520, 36, .inl (fun _ => 0))), (q_510, .inl (k_521, 6, .inl (fun _ => 0)))] H) (hD : va_D A [(q_1, .inr (6, [.ref q_386, .ref q_387, .ref q_388, .ref q_389, .int (-1), .int (-1), .int 0, .int 3, .int 3])), (q_386, .inr (5, [.ref q_390, .int 0])), (q_390, .inl (k_391, 80, .inl (fun _ => 0))), (q_387, .inr (3, [.ref q_386, .ref q_392, .int 0, .int 0, .int 0, .int (-1), .int 3, .int 0])), (q_388, .inr (0, [.ref q_393, .ref q_394, .int 0])), (q_393, .inl (k_395, 6, .inr (.inr (.inr (.inr (va_up (va_up (va_up (va_up (va_up (va_up (fun _ => none) 0 (some q_396)) 1 (some q_397)) 2 (some q_398)) 3 (some q_399)) 4 (some q_400)) 5 (some q_401))))))), (q_394, .inl (k_402, 6, .inl (fun _ => 0))), (q_396, .inr (2, [.ref q_403, .ref q_404, .int 0, .null])), (q_397, .inr (2, [.ref q_405, .ref q_406, .int 0, .null])), (q_398, .inr (2, [.ref q_407, .ref q_408, .int 0, .null])), (q_399, .inr (2, [.ref q_409, .ref q_410, .int 0, .null])), (q_400, .inr (2, [.ref q_411, .ref q_412, .int 0, .null])), (q_401, .inr (2, [.ref q_413, .ref q_414, .int 0, .null])), (q_389, .inr (4, [.ref q_415, .ref q_416, .ref q_417, .int 0, .int 0, .int 0, .int 0, .int 0, .int 0])), (q_418, .inr (7, [.ref q_503, .int 0, .ref q_504, .ref q_505, .ref q_506, .ref q_507, .ref q_508, .ref q_509, .ref q_510, .int (-1), .int 0, .int 3, .int 3, .int 0, .int 0, .int 0, .ref q_511, .ref q_512, .ref q_513, .ref q_514, .ref q_515, .ref q_516, .int 0, .int 0, .int 0, .int 0, .int (-1), .int 0])), (q_503, .inl (k_517, 80, .inl (fun _ => 0))), (q_507, .inl (k_518, 6, .inl (fun _ => 0))), (q_508, .inl (k_519, 6, .inl (fun _ => 0))), (q_509, .inl (k_520, 36, .inl (fun _ => 0))), (q_510, .inl (k_521, 6, .inl (fun _ => 0)))]) (hS : va_S A s.heap H locs) (hE : ka_SE A s s.heap) (hN : ka_NW s) (hl : lv_has ls 4 [(3, .int 0), (2, .ref q_418), (1, .ref q_1), (0, .ref b)]) : W p l e room_1 s m #[Value.ref b] below meth c H locs 45 6605 (lw_Z below #[Value.ref b] s) (F0 m 702 ls []) := by
  obtain ⟨hx, hb, hml, hown, hts⟩ := id C
  have hA : ∀ q, s.heap.size ≤ q → A q := fun q h => by rw [hAe]; exact h
  have hbA : ¬ A b := by rw [hAe]; exact Nat.not_le.mpr hbl
  obtain ⟨z0, ez0⟩ : ∃ y : Int32, y = xs 0 := ⟨_, rfl⟩
  have rz0 := ka_rng z0
  obtain ⟨z1, ez1⟩ : ∃ y : Int32, y = xs 1 := ⟨_, rfl⟩
  have rz1 := ka_rng z1
  obtain ⟨z2, ez2⟩ : ∃ y : Int32, y = xs 2 := ⟨_, rfl⟩
  have rz2 := ka_rng z2
  obtain ⟨z3, ez3⟩ : ∃ y : Int32, y = xs 3 := ⟨_, rfl⟩
  have rz3 := ka_rng z3
  obtain ⟨z4, ez4⟩ : ∃ y : Int32, y = xs 4 := ⟨_, rfl⟩
  have rz4 := ka_rng z4
  obtain ⟨z5, ez5⟩ : ∃ y : Int32, y = xs 5 := ⟨_, rfl⟩
  have rz5 := ka_rng z5
  rcases (show z1.toInt ≤ -1 ∨ z1.toInt = 0 ∨ z1.toInt = 1 ∨ z1.toInt = 2 ∨ z1.toInt = 3 ∨ z1.toInt = 4 ∨ z1.toInt = 5 ∨ z1.toInt = 6 ∨ z1.toInt = 7 ∨ 8 ≤ z1.toInt by omega) with y1 | y1 | y1 | y1 | y1 | y1 | y1 | y1 | y1 | y1
  · skip
    refine lv_aload_n hx hb dL_law_702 rfl (lv_at hl 2 rfl) ?_
    refine lv_aload_n hx hb dL_law_703 rfl (lv_at hl 3 rfl) ?_
    refine lv_iload_n hx hb dL_law_704 rfl (lv_at hl 0 rfl) ?_
    refine lv_iconst (v := 1) hx hb dL_law_705 (by decide) ?_
    refine lv_iadd hx hb dL_law_706 ?_
    refine ka_top (w := .int 1) (congrArg Value.int (by decide)) ?_
    refine va_sld hx hb hX hbl hbA hS (ka_in (by decide) (by decide)) dL_law_707 ?_
    refine ka_top (w := .int z1) (congrArg Value.int ez1.symm) ?_
    refine ka_RV (n := 1) C (ct_X6_count_547 l D q_1 z1 (by omega)) gL_law_X6_count rfl (by decide +kernel) ⟨Nat.le_of_ble_eq_true rfl, Nat.le_of_ble_eq_true rfl⟩ hK hP hS hE hN [] rfl [] rfl (ci := 6) rfl rfl 0 rfl rfl hl.1 (rest := []) rfl (Nat.le_of_ble_eq_true rfl) dL_law_708 ⟨Nat.le_of_ble_eq_true rfl, Nat.le_of_ble_eq_true rfl⟩ (fun v hv => ?_)
    subst hv
    refine ka_stk (w := [.int (-1)]) rfl ?_
    refine lv_aload_n hx hb dL_law_711 rfl (lv_at hl 1 rfl) ?_
    refine lv_aload_n hx hb dL_law_712 rfl (lv_at hl 3 rfl) ?_
    refine lv_iload_n hx hb dL_law_713 rfl (lv_at hl 0 rfl) ?_
    refine lv_iconst (v := 1) hx hb dL_law_714 (by decide) ?_
    refine lv_iadd hx hb dL_law_715 ?_
    refine ka_top (w := .int 1) (congrArg Value.int (by decide)) ?_
    refine va_sld hx hb hX hbl hbA hS (ka_in (by decide) (by decide)) dL_law_716 ?_
    refine ka_top (w := .int z1) (congrArg Value.int ez1.symm) ?_
    refine ka_RV (n := 1) C (ct_X7_count_548 l D q_418 z1 (by omega)) gL_law_X7_count rfl (by decide +kernel) ⟨Nat.le_of_ble_eq_true rfl, Nat.le_of_ble_eq_true rfl⟩ hK hP hS hE hN [] rfl [] rfl (ci := 7) rfl rfl 14 rfl rfl hl.1 (rest := [.int (-1)]) rfl (Nat.le_of_ble_eq_true rfl) dL_law_717 ⟨Nat.le_of_ble_eq_true rfl, Nat.le_of_ble_eq_true rfl⟩ (fun v hv => ?_)
    subst hv
    refine ka_stk (w := [.int (-1), .int (-1)]) rfl ?_
    refine lv_icmp_eq (tgt := 725) hx hb dL_law_720 (by decide) (fun _ => ?_) (fun c_ => absurd (by decide) c_)
    refine lv_iinc (v := 6) (lv' := [(3, .int 6), (2, .ref q_418), (1, .ref q_1), (0, .ref b)]) hx hb dL_law_725 hl (k := 0) rfl (by decide) (by decide) rfl (fun ls hl => ?_)
    refine lv_goto (tgt := 18) hx hb dL_law_728 (by decide) ?_
    refine lv_iload_n hx hb dL_law_18 rfl (lv_at hl 0 rfl) ?_
    refine lv_aload_n hx hb dL_law_19 rfl (lv_at hl 3 rfl) ?_
    refine va_slen hx hb hX hbl hbA hS dL_law_20 ?_
    refine ka_top (w := .int 6) (congrArg Value.int rfl) ?_
    refine lv_bipush (v := 6) hx hb dL_law_21 (by decide) ?_
    refine lv_isub hx hb dL_law_23 ?_
    refine ka_top (w := .int 0) (congrArg Value.int (by decide)) ?_
    refine lv_icmp_gt (tgt := 731) hx hb dL_law_24 (by decide) (fun _ => ?_) (fun c_ => absurd (by decide) c_)
    refine lv_iconst (v := 1) hx hb dL_law_731 (by decide) ?_
    refine va_forget (fun q hq => by have h9 := hS.2.2 q hq; rw [hAe] at h9; exact h9) ?_
    refine W.widen (k := 600000) (n := 7302250) (Nat.le_of_ble_eq_true rfl) (Nat.le_of_ble_eq_true rfl) ?_
    exact lw_ret hx hb hr hlk dL_law_732
  · obtain rfl : z1 = 0 := (ka_eq' _ _).mpr (y1.trans (by decide))
    refine lv_aload_n hx hb dL_law_702 rfl (lv_at hl 2 rfl) ?_
    refine lv_aload_n hx hb dL_law_703 rfl (lv_at hl 3 rfl) ?_
    refine lv_iload_n hx hb dL_law_704 rfl (lv_at hl 0 rfl) ?_
    refine lv_iconst (v := 1) hx hb dL_law_705 (by decide) ?_
    refine lv_iadd hx hb dL_law_706 ?_
    refine ka_top (w := .int 1) (congrArg Value.int (by decide)) ?_
    refine va_sld hx hb hX hbl hbA hS (ka_in (by decide) (by decide)) dL_law_707 ?_
    refine ka_top (w := .int 0) (congrArg Value.int ez1.symm) ?_
    refine ka_RV (n := 1) C (ct_X6_count_549 l D q_1 q_386 q_387 q_388 q_389) gL_law_X6_count rfl (by decide +kernel) ⟨Nat.le_of_ble_eq_true rfl, Nat.le_of_ble_eq_true rfl⟩ hK hP hS hE hN [0] rfl [] rfl (ci := 6) rfl rfl 0 rfl rfl hl.1 (rest := []) rfl (Nat.le_of_ble_eq_true rfl) dL_law_708 ⟨Nat.le_of_ble_eq_true rfl, Nat.le_of_ble_eq_true rfl⟩ (fun v hv => ?_)
    subst hv
    refine ka_stk (w := [.int (-1)]) rfl ?_
    refine lv_aload_n hx hb dL_law_711 rfl (lv_at hl 1 rfl) ?_
    refine lv_aload_n hx hb dL_law_712 rfl (lv_at hl 3 rfl) ?_
    refine lv_iload_n hx hb dL_law_713 rfl (lv_at hl 0 rfl) ?_
    refine lv_iconst (v := 1) hx hb dL_law_714 (by decide) ?_
    refine lv_iadd hx hb dL_law_715 ?_
    refine ka_top (w := .int 1) (congrArg Value.int (by decide)) ?_
    refine va_sld hx hb hX hbl hbA hS (ka_in (by decide) (by decide)) dL_law_716 ?_
    refine ka_top (w := .int 0) (congrArg Value.int ez1.symm) ?_
    refine ka_RV (n := 1) C (ct_X7_count_550 l D q_418 q_503 q_504 q_505 q_506 q_507 q_508 q_509 q_510 q_511 q_512 q_513 q_514 q_515 q_516) gL_law_X7_count rfl (by decide +kernel) ⟨Nat.le_of_ble_eq_true rfl, Nat.le_of_ble_eq_true rfl⟩ hK hP hS hE hN [14] rfl [] rfl (ci := 7) rfl rfl 14 rfl rfl hl.1 (rest := [.int (-1)]) rfl (Nat.le_of_ble_eq_true rfl) dL_law_717 ⟨Nat.le_of_ble_eq_true rfl, Nat.le_of_ble_eq_true rfl⟩ (fun v hv => ?_)
    subst hv
    refine ka_stk (w := [.int (-1), .int (-1)]) rfl ?_
    refine lv_icmp_eq (tgt := 725) hx hb dL_law_720 (by decide) (fun _ => ?_) (fun c_ => absurd (by decide) c_)
    refine lv_iinc (v := 6) (lv' := [(3, .int 6), (2, .ref q_418), (1, .ref q_1), (0, .ref b)]) hx hb dL_law_725 hl (k := 0) rfl (by decide) (by decide) rfl (fun ls hl => ?_)
    refine lv_goto (tgt := 18) hx hb dL_law_728 (by decide) ?_
    refine lv_iload_n hx hb dL_law_18 rfl (lv_at hl 0 rfl) ?_
    refine lv_aload_n hx hb dL_law_19 rfl (lv_at hl 3 rfl) ?_
    refine va_slen hx hb hX hbl hbA hS dL_law_20 ?_
    refine ka_top (w := .int 6) (congrArg Value.int rfl) ?_
    refine lv_bipush (v := 6) hx hb dL_law_21 (by decide) ?_
    refine lv_isub hx hb dL_law_23 ?_
    refine ka_top (w := .int 0) (congrArg Value.int (by decide)) ?_
    refine lv_icmp_gt (tgt := 731) hx hb dL_law_24 (by decide) (fun _ => ?_) (fun c_ => absurd (by decide) c_)
    refine lv_iconst (v := 1) hx hb dL_law_731 (by decide) ?_
    refine va_forget (fun q hq => by have h9 := hS.2.2 q hq; rw [hAe] at h9; exact h9) ?_
    refine W.widen (k := 600000) (n := 7302250) (Nat.le_of_ble_eq_true rfl) (Nat.le_of_ble_eq_true rfl) ?_
    exact lw_ret hx hb hr hlk dL_law_732
  · obtain rfl : z1 = 1 := (ka_eq' _ _).mpr (y1.trans (by decide))
    refine lv_aload_n hx hb dL_law_702 rfl (lv_at hl 2 rfl) ?_
    refine lv_aload_n hx hb dL_law_703 rfl (lv_at hl 3 rfl) ?_
    refine lv_iload_n hx hb dL_law_704 rfl (lv_at hl 0 rfl) ?_
    refine lv_iconst (v := 1) hx hb dL_law_705 (by decide) ?_
    refine lv_iadd hx hb dL_law_706 ?_
    refine ka_top (w := .int 1) (congrArg Value.int (by decide)) ?_
    refine va_sld hx hb hX hbl hbA hS (ka_in (by decide) (by decide)) dL_law_707 ?_
    refine ka_top (w := .int 1) (congrArg Value.int ez1.symm) ?_
    refine ka_RV (n := 1) C (ct_X6_count_551 l D q_1 q_386 q_387 q_388 q_389 q_415 q_416 q_417) gL_law_X6_count rfl (by decide +kernel) ⟨Nat.le_of_ble_eq_true rfl, Nat.le_of_ble_eq_true rfl⟩ hK hP hS hE hN [0, 13] rfl [] rfl (ci := 6) rfl rfl 0 rfl rfl hl.1 (rest := []) rfl (Nat.le_of_ble_eq_true rfl) dL_law_708 ⟨Nat.le_of_ble_eq_true rfl, Nat.le_of_ble_eq_true rfl⟩ (fun v hv => ?_)
    subst hv
    refine ka_stk (w := [.int 0]) rfl ?_
    refine lv_aload_n hx hb dL_law_711 rfl (lv_at hl 1 rfl) ?_
    refine lv_aload_n hx hb dL_law_712 rfl (lv_at hl 3 rfl) ?_
    refine lv_iload_n hx hb dL_law_713 rfl (lv_at hl 0 rfl) ?_
    refine lv_iconst (v := 1) hx hb dL_law_714 (by decide) ?_
    refine lv_iadd hx hb dL_law_715 ?_
    refine ka_top (w := .int 1) (congrArg Value.int (by decide)) ?_
    refine va_sld hx hb hX hbl hbA hS (ka_in (by decide) (by decide)) dL_law_716 ?_
    refine ka_top (w := .int 1) (congrArg Value.int ez1.symm) ?_
    refine ka_RV (n := 1) C (ct_X7_count_552 l D q_418 q_503 q_504 q_505 q_506 q_507 q_508 q_509 q_510 q_511 q_512 q_513 q_514 q_515 q_516) gL_law_X7_count rfl (by decide +kernel) ⟨Nat.le_of_ble_eq_true rfl, Nat.le_of_ble_eq_true rfl⟩ hK hP hS hE hN [14] rfl [] rfl (ci := 7) rfl rfl 14 rfl rfl hl.1 (rest := [.int 0]) rfl (Nat.le_of_ble_eq_true rfl) dL_law_717 ⟨Nat.le_of_ble_eq_true rfl, Nat.le_of_ble_eq_true rfl⟩ (fun v hv => ?_)
    subst hv
    refine ka_stk (w := [.int 0, .int 0]) rfl ?_
    refine lv_icmp_eq (tgt := 725) hx hb dL_law_720 (by decide) (fun _ => ?_) (fun c_ => absurd (by decide) c_)
    refine lv_iinc (v := 6) (lv' := [(3, .int 6), (2, .ref q_418), (1, .ref q_1), (0, .ref b)]) hx hb dL_law_725 hl (k := 0) rfl (by decide) (by decide) rfl (fun ls hl => ?_)
    refine lv_goto (tgt := 18) hx hb dL_law_728 (by decide) ?_
    refine lv_iload_n hx hb dL_law_18 rfl (lv_at hl 0 rfl) ?_
    refine lv_aload_n hx hb dL_law_19 rfl (lv_at hl 3 rfl) ?_
    refine va_slen hx hb hX hbl hbA hS dL_law_20 ?_
    refine ka_top (w := .int 6) (congrArg Value.int rfl) ?_
    refine lv_bipush (v := 6) hx hb dL_law_21 (by decide) ?_
    refine lv_isub hx hb dL_law_23 ?_
    refine ka_top (w := .int 0) (congrArg Value.int (by decide)) ?_
    refine lv_icmp_gt (tgt := 731) hx hb dL_law_24 (by decide) (fun _ => ?_) (fun c_ => absurd (by decide) c_)
    refine lv_iconst (v := 1) hx hb dL_law_731 (by decide) ?_
    refine va_forget (fun q hq => by have h9 := hS.2.2 q hq; rw [hAe] at h9; exact h9) ?_
    refine W.widen (k := 600000) (n := 7302250) (Nat.le_of_ble_eq_true rfl) (Nat.le_of_ble_eq_true rfl) ?_
    exact lw_ret hx hb hr hlk dL_law_732
  · obtain rfl : z1 = 2 := (ka_eq' _ _).mpr (y1.trans (by decide))
    refine lv_aload_n hx hb dL_law_702 rfl (lv_at hl 2 rfl) ?_
    refine lv_aload_n hx hb dL_law_703 rfl (lv_at hl 3 rfl) ?_
    refine lv_iload_n hx hb dL_law_704 rfl (lv_at hl 0 rfl) ?_
    refine lv_iconst (v := 1) hx hb dL_law_705 (by decide) ?_
    refine lv_iadd hx hb dL_law_706 ?_
    refine ka_top (w := .int 1) (congrArg Value.int (by decide)) ?_
    refine va_sld hx hb hX hbl hbA hS (ka_in (by decide) (by decide)) dL_law_707 ?_
    refine ka_top (w := .int 2) (congrArg Value.int ez1.symm) ?_
    refine ka_RV (n := 1) C (ct_X6_count_553 l D q_1 q_386 q_387 q_388 q_389 q_415 q_416 q_417) gL_law_X6_count rfl (by decide +kernel) ⟨Nat.le_of_ble_eq_true rfl, Nat.le_of_ble_eq_true rfl⟩ hK hP hS hE hN [0, 13] rfl [] rfl (ci := 6) rfl rfl 0 rfl rfl hl.1 (rest := []) rfl (Nat.le_of_ble_eq_true rfl) dL_law_708 ⟨Nat.le_of_ble_eq_true rfl, Nat.le_of_ble_eq_true rfl⟩ (fun v hv => ?_)
    subst hv
    refine ka_stk (w := [.int 0]) rfl ?_
    refine lv_aload_n hx hb dL_law_711 rfl (lv_at hl 1 rfl) ?_
    refine lv_aload_n hx hb dL_law_712 rfl (lv_at hl 3 rfl) ?_
    refine lv_iload_n hx hb dL_law_713 rfl (lv_at hl 0 rfl) ?_
    refine lv_iconst (v := 1) hx hb dL_law_714 (by decide) ?_
    refine lv_iadd hx hb dL_law_715 ?_
    refine ka_top (w := .int 1) (congrArg Value.int (by decide)) ?_
    refine va_sld hx hb hX hbl hbA hS (ka_in (by decide) (by decide)) dL_law_716 ?_
    refine ka_top (w := .int 2) (congrArg Value.int ez1.symm) ?_
    refine ka_RV (n := 1) C (ct_X7_count_554 l D q_418 q_503 q_504 q_505 q_506 q_507 q_508 q_509 q_510 q_511 q_512 q_513 q_514 q_515 q_516) gL_law_X7_count rfl (by decide +kernel) ⟨Nat.le_of_ble_eq_true rfl, Nat.le_of_ble_eq_true rfl⟩ hK hP hS hE hN [14] rfl [] rfl (ci := 7) rfl rfl 14 rfl rfl hl.1 (rest := [.int 0]) rfl (Nat.le_of_ble_eq_true rfl) dL_law_717 ⟨Nat.le_of_ble_eq_true rfl, Nat.le_of_ble_eq_true rfl⟩ (fun v hv => ?_)
    subst hv
    refine ka_stk (w := [.int 0, .int 0]) rfl ?_
    refine lv_icmp_eq (tgt := 725) hx hb dL_law_720 (by decide) (fun _ => ?_) (fun c_ => absurd (by decide) c_)
    refine lv_iinc (v := 6) (lv' := [(3, .int 6), (2, .ref q_418), (1, .ref q_1), (0, .ref b)]) hx hb dL_law_725 hl (k := 0) rfl (by decide) (by decide) rfl (fun ls hl => ?_)
    refine lv_goto (tgt := 18) hx hb dL_law_728 (by decide) ?_
    refine lv_iload_n hx hb dL_law_18 rfl (lv_at hl 0 rfl) ?_
    refine lv_aload_n hx hb dL_law_19 rfl (lv_at hl 3 rfl) ?_
    refine va_slen hx hb hX hbl hbA hS dL_law_20 ?_
    refine ka_top (w := .int 6) (congrArg Value.int rfl) ?_
    refine lv_bipush (v := 6) hx hb dL_law_21 (by decide) ?_
    refine lv_isub hx hb dL_law_23 ?_
    refine ka_top (w := .int 0) (congrArg Value.int (by decide)) ?_
    refine lv_icmp_gt (tgt := 731) hx hb dL_law_24 (by decide) (fun _ => ?_) (fun c_ => absurd (by decide) c_)
    refine lv_iconst (v := 1) hx hb dL_law_731 (by decide) ?_
    refine va_forget (fun q hq => by have h9 := hS.2.2 q hq; rw [hAe] at h9; exact h9) ?_
    refine W.widen (k := 600000) (n := 7302250) (Nat.le_of_ble_eq_true rfl) (Nat.le_of_ble_eq_true rfl) ?_
    exact lw_ret hx hb hr hlk dL_law_732
  · obtain rfl : z1 = 3 := (ka_eq' _ _).mpr (y1.trans (by decide))
    refine lv_aload_n hx hb dL_law_702 rfl (lv_at hl 2 rfl) ?_
    refine lv_aload_n hx hb dL_law_703 rfl (lv_at hl 3 rfl) ?_
    refine lv_iload_n hx hb dL_law_704 rfl (lv_at hl 0 rfl) ?_
    refine lv_iconst (v := 1) hx hb dL_law_705 (by decide) ?_
    refine lv_iadd hx hb dL_law_706 ?_
    refine ka_top (w := .int 1) (congrArg Value.int (by decide)) ?_
    refine va_sld hx hb hX hbl hbA hS (ka_in (by decide) (by decide)) dL_law_707 ?_
    refine ka_top (w := .int 3) (congrArg Value.int ez1.symm) ?_
    refine ka_RV (n := 1) C (ct_X6_count_555 l D q_1 q_386 q_387 q_388 q_389 q_415 q_416 q_417) gL_law_X6_count rfl (by decide +kernel) ⟨Nat.le_of_ble_eq_true rfl, Nat.le_of_ble_eq_true rfl⟩ hK hP hS hE hN [0, 13] rfl [] rfl (ci := 6) rfl rfl 0 rfl rfl hl.1 (rest := []) rfl (Nat.le_of_ble_eq_true rfl) dL_law_708 ⟨Nat.le_of_ble_eq_true rfl, Nat.le_of_ble_eq_true rfl⟩ (fun v hv => ?_)
    subst hv
    refine ka_stk (w := [.int 0]) rfl ?_
    refine lv_aload_n hx hb dL_law_711 rfl (lv_at hl 1 rfl) ?_
    refine lv_aload_n hx hb dL_law_712 rfl (lv_at hl 3 rfl) ?_
    refine lv_iload_n hx hb dL_law_713 rfl (lv_at hl 0 rfl) ?_
    refine lv_iconst (v := 1) hx hb dL_law_714 (by decide) ?_
    refine lv_iadd hx hb dL_law_715 ?_
    refine ka_top (w := .int 1) (congrArg Value.int (by decide)) ?_
    refine va_sld hx hb hX hbl hbA hS (ka_in (by decide) (by decide)) dL_law_716 ?_
    refine ka_top (w := .int 3) (congrArg Value.int ez1.symm) ?_
    refine ka_RV (n := 1) C (ct_X7_count_556 l D q_418 q_503 q_504 q_505 q_506 q_507 q_508 q_509 q_510 q_511 q_512 q_513 q_514 q_515 q_516) gL_law_X7_count rfl (by decide +kernel) ⟨Nat.le_of_ble_eq_true rfl, Nat.le_of_ble_eq_true rfl⟩ hK hP hS hE hN [14] rfl [] rfl (ci := 7) rfl rfl 14 rfl rfl hl.1 (rest := [.int 0]) rfl (Nat.le_of_ble_eq_true rfl) dL_law_717 ⟨Nat.le_of_ble_eq_true rfl, Nat.le_of_ble_eq_true rfl⟩ (fun v hv => ?_)
    subst hv
    refine ka_stk (w := [.int 0, .int 0]) rfl ?_
    refine lv_icmp_eq (tgt := 725) hx hb dL_law_720 (by decide) (fun _ => ?_) (fun c_ => absurd (by decide) c_)
    refine lv_iinc (v := 6) (lv' := [(3, .int 6), (2, .ref q_418), (1, .ref q_1), (0, .ref b)]) hx hb dL_law_725 hl (k := 0) rfl (by decide) (by decide) rfl (fun ls hl => ?_)
    refine lv_goto (tgt := 18) hx hb dL_law_728 (by decide) ?_
    refine lv_iload_n hx hb dL_law_18 rfl (lv_at hl 0 rfl) ?_
    refine lv_aload_n hx hb dL_law_19 rfl (lv_at hl 3 rfl) ?_
    refine va_slen hx hb hX hbl hbA hS dL_law_20 ?_
    refine ka_top (w := .int 6) (congrArg Value.int rfl) ?_
    refine lv_bipush (v := 6) hx hb dL_law_21 (by decide) ?_
    refine lv_isub hx hb dL_law_23 ?_
    refine ka_top (w := .int 0) (congrArg Value.int (by decide)) ?_
    refine lv_icmp_gt (tgt := 731) hx hb dL_law_24 (by decide) (fun _ => ?_) (fun c_ => absurd (by decide) c_)
    refine lv_iconst (v := 1) hx hb dL_law_731 (by decide) ?_
    refine va_forget (fun q hq => by have h9 := hS.2.2 q hq; rw [hAe] at h9; exact h9) ?_
    refine W.widen (k := 600000) (n := 7302250) (Nat.le_of_ble_eq_true rfl) (Nat.le_of_ble_eq_true rfl) ?_
    exact lw_ret hx hb hr hlk dL_law_732
  · obtain rfl : z1 = 4 := (ka_eq' _ _).mpr (y1.trans (by decide))
    refine lv_aload_n hx hb dL_law_702 rfl (lv_at hl 2 rfl) ?_
    refine lv_aload_n hx hb dL_law_703 rfl (lv_at hl 3 rfl) ?_
    refine lv_iload_n hx hb dL_law_704 rfl (lv_at hl 0 rfl) ?_
    refine lv_iconst (v := 1) hx hb dL_law_705 (by decide) ?_
    refine lv_iadd hx hb dL_law_706 ?_
    refine ka_top (w := .int 1) (congrArg Value.int (by decide)) ?_
    refine va_sld hx hb hX hbl hbA hS (ka_in (by decide) (by decide)) dL_law_707 ?_
    refine ka_top (w := .int 4) (congrArg Value.int ez1.symm) ?_
    refine ka_RV (n := 1) C (ct_X6_count_559 l D q_1 q_386 q_387 q_388 q_389 q_393 q_394) gL_law_X6_count rfl (by decide +kernel) ⟨Nat.le_of_ble_eq_true rfl, Nat.le_of_ble_eq_true rfl⟩ hK hP hS hE hN [0, 4] rfl [] rfl (ci := 6) rfl rfl 0 rfl rfl hl.1 (rest := []) rfl (Nat.le_of_ble_eq_true rfl) dL_law_708 ⟨Nat.le_of_ble_eq_true rfl, Nat.le_of_ble_eq_true rfl⟩ (fun v hv => ?_)
    subst hv
    refine ka_stk (w := [.int 0]) rfl ?_
    refine lv_aload_n hx hb dL_law_711 rfl (lv_at hl 1 rfl) ?_
    refine lv_aload_n hx hb dL_law_712 rfl (lv_at hl 3 rfl) ?_
    refine lv_iload_n hx hb dL_law_713 rfl (lv_at hl 0 rfl) ?_
    refine lv_iconst (v := 1) hx hb dL_law_714 (by decide) ?_
    refine lv_iadd hx hb dL_law_715 ?_
    refine ka_top (w := .int 1) (congrArg Value.int (by decide)) ?_
    refine va_sld hx hb hX hbl hbA hS (ka_in (by decide) (by decide)) dL_law_716 ?_
    refine ka_top (w := .int 4) (congrArg Value.int ez1.symm) ?_
    refine ka_RV (n := 1) C (ct_X7_count_560 l D q_418 q_503 q_504 q_505 q_506 q_507 q_508 q_509 q_510 q_511 q_512 q_513 q_514 q_515 q_516) gL_law_X7_count rfl (by decide +kernel) ⟨Nat.le_of_ble_eq_true rfl, Nat.le_of_ble_eq_true rfl⟩ hK hP hS hE hN [14] rfl [] rfl (ci := 7) rfl rfl 14 rfl rfl hl.1 (rest := [.int 0]) rfl (Nat.le_of_ble_eq_true rfl) dL_law_717 ⟨Nat.le_of_ble_eq_true rfl, Nat.le_of_ble_eq_true rfl⟩ (fun v hv => ?_)
    subst hv
    refine ka_stk (w := [.int 0, .int 0]) rfl ?_
    refine lv_icmp_eq (tgt := 725) hx hb dL_law_720 (by decide) (fun _ => ?_) (fun c_ => absurd (by decide) c_)
    refine lv_iinc (v := 6) (lv' := [(3, .int 6), (2, .ref q_418), (1, .ref q_1), (0, .ref b)]) hx hb dL_law_725 hl (k := 0) rfl (by decide) (by decide) rfl (fun ls hl => ?_)
    refine lv_goto (tgt := 18) hx hb dL_law_728 (by decide) ?_
    refine lv_iload_n hx hb dL_law_18 rfl (lv_at hl 0 rfl) ?_
    refine lv_aload_n hx hb dL_law_19 rfl (lv_at hl 3 rfl) ?_
    refine va_slen hx hb hX hbl hbA hS dL_law_20 ?_
    refine ka_top (w := .int 6) (congrArg Value.int rfl) ?_
    refine lv_bipush (v := 6) hx hb dL_law_21 (by decide) ?_
    refine lv_isub hx hb dL_law_23 ?_
    refine ka_top (w := .int 0) (congrArg Value.int (by decide)) ?_
    refine lv_icmp_gt (tgt := 731) hx hb dL_law_24 (by decide) (fun _ => ?_) (fun c_ => absurd (by decide) c_)
    refine lv_iconst (v := 1) hx hb dL_law_731 (by decide) ?_
    refine va_forget (fun q hq => by have h9 := hS.2.2 q hq; rw [hAe] at h9; exact h9) ?_
    refine W.widen (k := 600000) (n := 7302250) (Nat.le_of_ble_eq_true rfl) (Nat.le_of_ble_eq_true rfl) ?_
    exact lw_ret hx hb hr hlk dL_law_732
  · obtain rfl : z1 = 5 := (ka_eq' _ _).mpr (y1.trans (by decide))
    refine lv_aload_n hx hb dL_law_702 rfl (lv_at hl 2 rfl) ?_
    refine lv_aload_n hx hb dL_law_703 rfl (lv_at hl 3 rfl) ?_
    refine lv_iload_n hx hb dL_law_704 rfl (lv_at hl 0 rfl) ?_
    refine lv_iconst (v := 1) hx hb dL_law_705 (by decide) ?_
    refine lv_iadd hx hb dL_law_706 ?_
    refine ka_top (w := .int 1) (congrArg Value.int (by decide)) ?_
    refine va_sld hx hb hX hbl hbA hS (ka_in (by decide) (by decide)) dL_law_707 ?_
    refine ka_top (w := .int 5) (congrArg Value.int ez1.symm) ?_
    refine ka_RV (n := 1) C (ct_X6_count_562 l D q_1 q_386 q_387 q_388 q_389 q_393 q_394) gL_law_X6_count rfl (by decide +kernel) ⟨Nat.le_of_ble_eq_true rfl, Nat.le_of_ble_eq_true rfl⟩ hK hP hS hE hN [0, 4] rfl [] rfl (ci := 6) rfl rfl 0 rfl rfl hl.1 (rest := []) rfl (Nat.le_of_ble_eq_true rfl) dL_law_708 ⟨Nat.le_of_ble_eq_true rfl, Nat.le_of_ble_eq_true rfl⟩ (fun v hv => ?_)
    subst hv
    refine ka_stk (w := [.int 0]) rfl ?_
    refine lv_aload_n hx hb dL_law_711 rfl (lv_at hl 1 rfl) ?_
    refine lv_aload_n hx hb dL_law_712 rfl (lv_at hl 3 rfl) ?_
    refine lv_iload_n hx hb dL_law_713 rfl (lv_at hl 0 rfl) ?_
    refine lv_iconst (v := 1) hx hb dL_law_714 (by decide) ?_
    refine lv_iadd hx hb dL_law_715 ?_
    refine ka_top (w := .int 1) (congrArg Value.int (by decide)) ?_
    refine va_sld hx hb hX hbl hbA hS (ka_in (by decide) (by decide)) dL_law_716 ?_
    refine ka_top (w := .int 5) (congrArg Value.int ez1.symm) ?_
    refine ka_RV (n := 1) C (ct_X7_count_563 l D q_418 q_503 q_504 q_505 q_506 q_507 q_508 q_509 q_510 q_511 q_512 q_513 q_514 q_515 q_516) gL_law_X7_count rfl (by decide +kernel) ⟨Nat.le_of_ble_eq_true rfl, Nat.le_of_ble_eq_true rfl⟩ hK hP hS hE hN [14] rfl [] rfl (ci := 7) rfl rfl 14 rfl rfl hl.1 (rest := [.int 0]) rfl (Nat.le_of_ble_eq_true rfl) dL_law_717 ⟨Nat.le_of_ble_eq_true rfl, Nat.le_of_ble_eq_true rfl⟩ (fun v hv => ?_)
    subst hv
    refine ka_stk (w := [.int 0, .int 0]) rfl ?_
    refine lv_icmp_eq (tgt := 725) hx hb dL_law_720 (by decide) (fun _ => ?_) (fun c_ => absurd (by decide) c_)
    refine lv_iinc (v := 6) (lv' := [(3, .int 6), (2, .ref q_418), (1, .ref q_1), (0, .ref b)]) hx hb dL_law_725 hl (k := 0) rfl (by decide) (by decide) rfl (fun ls hl => ?_)
    refine lv_goto (tgt := 18) hx hb dL_law_728 (by decide) ?_
    refine lv_iload_n hx hb dL_law_18 rfl (lv_at hl 0 rfl) ?_
    refine lv_aload_n hx hb dL_law_19 rfl (lv_at hl 3 rfl) ?_
    refine va_slen hx hb hX hbl hbA hS dL_law_20 ?_
    refine ka_top (w := .int 6) (congrArg Value.int rfl) ?_
    refine lv_bipush (v := 6) hx hb dL_law_21 (by decide) ?_
    refine lv_isub hx hb dL_law_23 ?_
    refine ka_top (w := .int 0) (congrArg Value.int (by decide)) ?_
    refine lv_icmp_gt (tgt := 731) hx hb dL_law_24 (by decide) (fun _ => ?_) (fun c_ => absurd (by decide) c_)
    refine lv_iconst (v := 1) hx hb dL_law_731 (by decide) ?_
    refine va_forget (fun q hq => by have h9 := hS.2.2 q hq; rw [hAe] at h9; exact h9) ?_
    refine W.widen (k := 600000) (n := 7302250) (Nat.le_of_ble_eq_true rfl) (Nat.le_of_ble_eq_true rfl) ?_
    exact lw_ret hx hb hr hlk dL_law_732
  · obtain rfl : z1 = 6 := (ka_eq' _ _).mpr (y1.trans (by decide))
    refine lv_aload_n hx hb dL_law_702 rfl (lv_at hl 2 rfl) ?_
    refine lv_aload_n hx hb dL_law_703 rfl (lv_at hl 3 rfl) ?_
    refine lv_iload_n hx hb dL_law_704 rfl (lv_at hl 0 rfl) ?_
    refine lv_iconst (v := 1) hx hb dL_law_705 (by decide) ?_
    refine lv_iadd hx hb dL_law_706 ?_
    refine ka_top (w := .int 1) (congrArg Value.int (by decide)) ?_
    refine va_sld hx hb hX hbl hbA hS (ka_in (by decide) (by decide)) dL_law_707 ?_
    refine ka_top (w := .int 6) (congrArg Value.int ez1.symm) ?_
    refine ka_RV (n := 1) C (ct_X6_count_564 l D q_1 q_386 q_387 q_388 q_389 q_393 q_394) gL_law_X6_count rfl (by decide +kernel) ⟨Nat.le_of_ble_eq_true rfl, Nat.le_of_ble_eq_true rfl⟩ hK hP hS hE hN [0, 4] rfl [] rfl (ci := 6) rfl rfl 0 rfl rfl hl.1 (rest := []) rfl (Nat.le_of_ble_eq_true rfl) dL_law_708 ⟨Nat.le_of_ble_eq_true rfl, Nat.le_of_ble_eq_true rfl⟩ (fun v hv => ?_)
    subst hv
    refine ka_stk (w := [.int 0]) rfl ?_
    refine lv_aload_n hx hb dL_law_711 rfl (lv_at hl 1 rfl) ?_
    refine lv_aload_n hx hb dL_law_712 rfl (lv_at hl 3 rfl) ?_
    refine lv_iload_n hx hb dL_law_713 rfl (lv_at hl 0 rfl) ?_
    refine lv_iconst (v := 1) hx hb dL_law_714 (by decide) ?_
    refine lv_iadd hx hb dL_law_715 ?_
    refine ka_top (w := .int 1) (congrArg Value.int (by decide)) ?_
    refine va_sld hx hb hX hbl hbA hS (ka_in (by decide) (by decide)) dL_law_716 ?_
    refine ka_top (w := .int 6) (congrArg Value.int ez1.symm) ?_
    refine ka_RV (n := 1) C (ct_X7_count_565 l D q_418 q_503 q_504 q_505 q_506 q_507 q_508 q_509 q_510 q_511 q_512 q_513 q_514 q_515 q_516 k_519) gL_law_X7_count rfl (by decide +kernel) ⟨Nat.le_of_ble_eq_true rfl, Nat.le_of_ble_eq_true rfl⟩ hK hP hS hE hN [14, 17] rfl [5] rfl (ci := 7) rfl rfl 14 rfl rfl hl.1 (rest := [.int 0]) rfl (Nat.le_of_ble_eq_true rfl) dL_law_717 ⟨Nat.le_of_ble_eq_true rfl, Nat.le_of_ble_eq_true rfl⟩ (fun v hv => ?_)
    subst hv
    refine ka_stk (w := [.int 0, .int 0]) rfl ?_
    refine lv_icmp_eq (tgt := 725) hx hb dL_law_720 (by decide) (fun _ => ?_) (fun c_ => absurd (by decide) c_)
    refine lv_iinc (v := 6) (lv' := [(3, .int 6), (2, .ref q_418), (1, .ref q_1), (0, .ref b)]) hx hb dL_law_725 hl (k := 0) rfl (by decide) (by decide) rfl (fun ls hl => ?_)
    refine lv_goto (tgt := 18) hx hb dL_law_728 (by decide) ?_
    refine lv_iload_n hx hb dL_law_18 rfl (lv_at hl 0 rfl) ?_
    refine lv_aload_n hx hb dL_law_19 rfl (lv_at hl 3 rfl) ?_
    refine va_slen hx hb hX hbl hbA hS dL_law_20 ?_
    refine ka_top (w := .int 6) (congrArg Value.int rfl) ?_
    refine lv_bipush (v := 6) hx hb dL_law_21 (by decide) ?_
    refine lv_isub hx hb dL_law_23 ?_
    refine ka_top (w := .int 0) (congrArg Value.int (by decide)) ?_
    refine lv_icmp_gt (tgt := 731) hx hb dL_law_24 (by decide) (fun _ => ?_) (fun c_ => absurd (by decide) c_)
    refine lv_iconst (v := 1) hx hb dL_law_731 (by decide) ?_
    refine va_forget (fun q hq => by have h9 := hS.2.2 q hq; rw [hAe] at h9; exact h9) ?_
    refine W.widen (k := 600000) (n := 7302250) (Nat.le_of_ble_eq_true rfl) (Nat.le_of_ble_eq_true rfl) ?_
    exact lw_ret hx hb hr hlk dL_law_732
  · obtain rfl : z1 = 7 := (ka_eq' _ _).mpr (y1.trans (by decide))
    refine lv_aload_n hx hb dL_law_702 rfl (lv_at hl 2 rfl) ?_
    refine lv_aload_n hx hb dL_law_703 rfl (lv_at hl 3 rfl) ?_
    refine lv_iload_n hx hb dL_law_704 rfl (lv_at hl 0 rfl) ?_
    refine lv_iconst (v := 1) hx hb dL_law_705 (by decide) ?_
    refine lv_iadd hx hb dL_law_706 ?_
    refine ka_top (w := .int 1) (congrArg Value.int (by decide)) ?_
    refine va_sld hx hb hX hbl hbA hS (ka_in (by decide) (by decide)) dL_law_707 ?_
    refine ka_top (w := .int 7) (congrArg Value.int ez1.symm) ?_
    refine ka_RV (n := 1) C (ct_X6_count_566 l D q_1 q_386 q_387 q_388 q_389 q_390) gL_law_X6_count rfl (by decide +kernel) ⟨Nat.le_of_ble_eq_true rfl, Nat.le_of_ble_eq_true rfl⟩ hK hP hS hE hN [0, 1] rfl [] rfl (ci := 6) rfl rfl 0 rfl rfl hl.1 (rest := []) rfl (Nat.le_of_ble_eq_true rfl) dL_law_708 ⟨Nat.le_of_ble_eq_true rfl, Nat.le_of_ble_eq_true rfl⟩ (fun v hv => ?_)
    subst hv
    refine ka_stk (w := [.int 0]) rfl ?_
    refine lv_aload_n hx hb dL_law_711 rfl (lv_at hl 1 rfl) ?_
    refine lv_aload_n hx hb dL_law_712 rfl (lv_at hl 3 rfl) ?_
    refine lv_iload_n hx hb dL_law_713 rfl (lv_at hl 0 rfl) ?_
    refine lv_iconst (v := 1) hx hb dL_law_714 (by decide) ?_
    refine lv_iadd hx hb dL_law_715 ?_
    refine ka_top (w := .int 1) (congrArg Value.int (by decide)) ?_
    refine va_sld hx hb hX hbl hbA hS (ka_in (by decide) (by decide)) dL_law_716 ?_
    refine ka_top (w := .int 7) (congrArg Value.int ez1.symm) ?_
    refine ka_RV (n := 1) C (ct_X7_count_567 l D q_418 q_503 q_504 q_505 q_506 q_507 q_508 q_509 q_510 q_511 q_512 q_513 q_514 q_515 q_516) gL_law_X7_count rfl (by decide +kernel) ⟨Nat.le_of_ble_eq_true rfl, Nat.le_of_ble_eq_true rfl⟩ hK hP hS hE hN [14] rfl [] rfl (ci := 7) rfl rfl 14 rfl rfl hl.1 (rest := [.int 0]) rfl (Nat.le_of_ble_eq_true rfl) dL_law_717 ⟨Nat.le_of_ble_eq_true rfl, Nat.le_of_ble_eq_true rfl⟩ (fun v hv => ?_)
    subst hv
    refine ka_stk (w := [.int 0, .int 0]) rfl ?_
    refine lv_icmp_eq (tgt := 725) hx hb dL_law_720 (by decide) (fun _ => ?_) (fun c_ => absurd (by decide) c_)
    refine lv_iinc (v := 6) (lv' := [(3, .int 6), (2, .ref q_418), (1, .ref q_1), (0, .ref b)]) hx hb dL_law_725 hl (k := 0) rfl (by decide) (by decide) rfl (fun ls hl => ?_)
    refine lv_goto (tgt := 18) hx hb dL_law_728 (by decide) ?_
    refine lv_iload_n hx hb dL_law_18 rfl (lv_at hl 0 rfl) ?_
    refine lv_aload_n hx hb dL_law_19 rfl (lv_at hl 3 rfl) ?_
    refine va_slen hx hb hX hbl hbA hS dL_law_20 ?_
    refine ka_top (w := .int 6) (congrArg Value.int rfl) ?_
    refine lv_bipush (v := 6) hx hb dL_law_21 (by decide) ?_
    refine lv_isub hx hb dL_law_23 ?_
    refine ka_top (w := .int 0) (congrArg Value.int (by decide)) ?_
    refine lv_icmp_gt (tgt := 731) hx hb dL_law_24 (by decide) (fun _ => ?_) (fun c_ => absurd (by decide) c_)
    refine lv_iconst (v := 1) hx hb dL_law_731 (by decide) ?_
    refine va_forget (fun q hq => by have h9 := hS.2.2 q hq; rw [hAe] at h9; exact h9) ?_
    refine W.widen (k := 600000) (n := 7302250) (Nat.le_of_ble_eq_true rfl) (Nat.le_of_ble_eq_true rfl) ?_
    exact lw_ret hx hb hr hlk dL_law_732
  · skip
    refine lv_aload_n hx hb dL_law_702 rfl (lv_at hl 2 rfl) ?_
    refine lv_aload_n hx hb dL_law_703 rfl (lv_at hl 3 rfl) ?_
    refine lv_iload_n hx hb dL_law_704 rfl (lv_at hl 0 rfl) ?_
    refine lv_iconst (v := 1) hx hb dL_law_705 (by decide) ?_
    refine lv_iadd hx hb dL_law_706 ?_
    refine ka_top (w := .int 1) (congrArg Value.int (by decide)) ?_
    refine va_sld hx hb hX hbl hbA hS (ka_in (by decide) (by decide)) dL_law_707 ?_
    refine ka_top (w := .int z1) (congrArg Value.int ez1.symm) ?_
    refine ka_RV (n := 1) C (ct_X6_count_568 l D q_1 z1 (by omega)) gL_law_X6_count rfl (by decide +kernel) ⟨Nat.le_of_ble_eq_true rfl, Nat.le_of_ble_eq_true rfl⟩ hK hP hS hE hN [] rfl [] rfl (ci := 6) rfl rfl 0 rfl rfl hl.1 (rest := []) rfl (Nat.le_of_ble_eq_true rfl) dL_law_708 ⟨Nat.le_of_ble_eq_true rfl, Nat.le_of_ble_eq_true rfl⟩ (fun v hv => ?_)
    subst hv
    refine ka_stk (w := [.int (-1)]) rfl ?_
    refine lv_aload_n hx hb dL_law_711 rfl (lv_at hl 1 rfl) ?_
    refine lv_aload_n hx hb dL_law_712 rfl (lv_at hl 3 rfl) ?_
    refine lv_iload_n hx hb dL_law_713 rfl (lv_at hl 0 rfl) ?_
    refine lv_iconst (v := 1) hx hb dL_law_714 (by decide) ?_
    refine lv_iadd hx hb dL_law_715 ?_
    refine ka_top (w := .int 1) (congrArg Value.int (by decide)) ?_
    refine va_sld hx hb hX hbl hbA hS (ka_in (by decide) (by decide)) dL_law_716 ?_
    refine ka_top (w := .int z1) (congrArg Value.int ez1.symm) ?_
    refine ka_RV (n := 1) C (ct_X7_count_569 l D q_418 z1 (by omega)) gL_law_X7_count rfl (by decide +kernel) ⟨Nat.le_of_ble_eq_true rfl, Nat.le_of_ble_eq_true rfl⟩ hK hP hS hE hN [] rfl [] rfl (ci := 7) rfl rfl 14 rfl rfl hl.1 (rest := [.int (-1)]) rfl (Nat.le_of_ble_eq_true rfl) dL_law_717 ⟨Nat.le_of_ble_eq_true rfl, Nat.le_of_ble_eq_true rfl⟩ (fun v hv => ?_)
    subst hv
    refine ka_stk (w := [.int (-1), .int (-1)]) rfl ?_
    refine lv_icmp_eq (tgt := 725) hx hb dL_law_720 (by decide) (fun _ => ?_) (fun c_ => absurd (by decide) c_)
    refine lv_iinc (v := 6) (lv' := [(3, .int 6), (2, .ref q_418), (1, .ref q_1), (0, .ref b)]) hx hb dL_law_725 hl (k := 0) rfl (by decide) (by decide) rfl (fun ls hl => ?_)
    refine lv_goto (tgt := 18) hx hb dL_law_728 (by decide) ?_
    refine lv_iload_n hx hb dL_law_18 rfl (lv_at hl 0 rfl) ?_
    refine lv_aload_n hx hb dL_law_19 rfl (lv_at hl 3 rfl) ?_
    refine va_slen hx hb hX hbl hbA hS dL_law_20 ?_
    refine ka_top (w := .int 6) (congrArg Value.int rfl) ?_
    refine lv_bipush (v := 6) hx hb dL_law_21 (by decide) ?_
    refine lv_isub hx hb dL_law_23 ?_
    refine ka_top (w := .int 0) (congrArg Value.int (by decide)) ?_
    refine lv_icmp_gt (tgt := 731) hx hb dL_law_24 (by decide) (fun _ => ?_) (fun c_ => absurd (by decide) c_)
    refine lv_iconst (v := 1) hx hb dL_law_731 (by decide) ?_
    refine va_forget (fun q hq => by have h9 := hS.2.2 q hq; rw [hAe] at h9; exact h9) ?_
    refine W.widen (k := 600000) (n := 7302250) (Nat.le_of_ble_eq_true rfl) (Nat.le_of_ble_eq_true rfl) ?_
    exact lw_ret hx hb hr hlk dL_law_732
