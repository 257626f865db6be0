set_option maxHeartbeats 4000000 in
set_option maxRecDepth 100000 in
theorem ct_X6_picture_128 (l : Launch) (D : va_G) (a0 : Nat) (x0 : Int32) (x1 : Int32) (a1 : Nat) (a2 : Nat) (a3 : Nat) (a4 : Nat) (a5 : Nat) (a6 : Nat) (hx0 : x0.toInt ≤ -1) (hx1 : x1.toInt ≤ -1) : ka_R l D yX6_picture wsX6_picture 3 62 [.ref a0, .int x0, .int x1] [(a0, .inr (6, [.ref a1, .ref a2, .ref a3, .ref a4, .int (-1), .int (-1), .int 0, .int 3, .int 3])), (a3, .inr (0, [.ref a5, .ref a6, .int 0]))] [] (fun v => v = some (.int (-2))) := by
  refine ka_R_of (cc := cX6_picture) (maxL := 4) (ret := (some .int)) (by decide) rfl (Nat.le_of_ble_eq_true rfl) ?_
  intro p e s m below meth c ls C hr hlk hP hK hE hN hl
  have hS : va_S (fun _ => False) s.heap s.heap [] := va_S.rf
  have C : CallFix p m c cX6_picture 4 s [.ref a0, .int x0, .int x1].toArray wsX6_picture RX6 := C
  obtain ⟨hx, hb, hml, hown, hts⟩ := id C
  have hl : lv_has ls 4 [(0, .ref a0), (1, .int x0), (2, .int x1)] := hl
  have rx0 := ka_rng x0
  have rx1 := ka_rng x1
  refine lv_aload_n hx hb dX6_picture_0 rfl (lv_at hl 0 rfl) ?_
  refine lv_iload_n hx hb dX6_picture_1 rfl (lv_at hl 1 rfl) ?_
  refine ka_RV (n := 1) C (ct_X6_changeable_23 l D a0 x0 a1 a2 a3 a4 a5 a6 (by omega)) gX6_picture_X6_changeable rfl (by decide +kernel) ⟨Nat.le_of_ble_eq_true rfl, Nat.le_of_ble_eq_true rfl⟩ hK hP hS hE hN [0, 1] rfl [] rfl (ci := 6) rfl rfl 0 rfl rfl hl.1 (rest := []) rfl (Nat.le_of_ble_eq_true rfl) dX6_picture_2 ⟨Nat.le_of_ble_eq_true rfl, Nat.le_of_ble_eq_true rfl⟩ (fun v hv => ?_)
  subst hv
  refine ka_stk (w := [.null]) rfl ?_
  refine lv_astore_nN (lv' := [(3, .null), (0, .ref a0), (1, .int x0), (2, .int x1)]) hx hb dX6_picture_5 rfl hl (by decide) rfl (fun ls hl => ?_)
  refine lv_aload_nN hx hb dX6_picture_6 rfl (lv_at hl 0 rfl) ?_
  refine lv_ifnullN (tgt := 30) hx hb dX6_picture_7 (by decide) ?_
  refine lv_bipush (v := (-2)) hx hb dX6_picture_30 (by decide) ?_
  exact ka_rRi C hr hlk rfl dX6_picture_32
set_option maxHeartbeats 4000000 in
set_option maxRecDepth 100000 in
theorem ct_X7_picture_129 (l : Launch) (D : va_G) (a0 : Nat) (x0 : Int32) (x1 : Int32) (a1 : Nat) (a2 : Nat) (a3 : Nat) (a4 : Nat) (a5 : Nat) (a6 : Nat) (a7 : Nat) (a8 : Nat) (a9 : Nat) (a10 : Nat) (a11 : Nat) (a12 : Nat) (a13 : Nat) (a14 : Nat) (hx0 : x0.toInt ≤ -1) (hx1 : x1.toInt ≤ -1) : ka_R l D yX7_picture wsX7_picture 3 64 [.ref a0, .int x0, .int x1] [(a0, .inr (7, [.ref a1, .int 0, .ref a2, .ref a3, .ref a4, .ref a5, .ref a6, .ref a7, .ref a8, .int (-1), .int 0, .int 3, .int 3, .int 0, .int 0, .int 0, .ref a9, .ref a10, .ref a11, .ref a12, .ref a13, .ref a14, .int 0, .int 0, .int 0, .int 0, .int (-1), .int 0]))] [] (fun v => v = some (.int (-2))) := by
  refine ka_R_of (cc := cX7_picture) (maxL := 3) (ret := (some .int)) (by decide) rfl (Nat.le_of_ble_eq_true rfl) ?_
  intro p e s m below meth c ls C hr hlk hP hK hE hN hl
  have hS : va_S (fun _ => False) s.heap s.heap [] := va_S.rf
  have C : CallFix p m c cX7_picture 3 s [.ref a0, .int x0, .int x1].toArray wsX7_picture RX7 := C
  obtain ⟨hx, hb, hml, hown, hts⟩ := id C
  have hl : lv_has ls 3 [(0, .ref a0), (1, .int x0), (2, .int x1)] := hl
  have rx0 := ka_rng x0
  have rx1 := ka_rng x1
  refine lv_aload_n hx hb dX7_picture_0 rfl (lv_at hl 0 rfl) ?_
  refine lv_iload_n hx hb dX7_picture_1 rfl (lv_at hl 1 rfl) ?_
  refine lv_iload_n hx hb dX7_picture_2 rfl (lv_at hl 2 rfl) ?_
  refine ka_RV (n := 2) C (ct_X7_isOpenFor_75 l D a0 x0 x1 (by omega) (by omega)) gX7_picture_X7_isOpenFor rfl (by decide +kernel) ⟨Nat.le_of_ble_eq_true rfl, Nat.le_of_ble_eq_true rfl⟩ hK hP hS hE hN [] rfl [] rfl (ci := 7) rfl rfl 0 rfl rfl hl.1 (rest := []) rfl (Nat.le_of_ble_eq_true rfl) dX7_picture_3 ⟨Nat.le_of_ble_eq_true rfl, Nat.le_of_ble_eq_true rfl⟩ (fun v hv => ?_)
  subst hv
  refine ka_stk (w := [.int 0]) rfl ?_
  refine lv_if_eq (tgt := 20) hx hb dX7_picture_6 (by decide) (fun _ => ?_) (fun c_ => absurd (by decide) c_)
  refine lv_bipush (v := (-2)) hx hb dX7_picture_20 (by decide) ?_
  exact ka_rRi C hr hlk rfl dX7_picture_22
set_option maxHeartbeats 4000000 in
set_option maxRecDepth 100000 in
theorem ct_X6_picture_130 (l : Launch) (D : va_G) (a0 : Nat) (x0 : Int32) (a1 : Nat) (a2 : Nat) (a3 : Nat) (a4 : Nat) (a5 : Nat) (a6 : Nat) (hx0 : x0.toInt ≤ -1) : ka_R l D yX6_picture wsX6_picture 3 62 [.ref a0, .int x0, .int 0] [(a0, .inr (6, [.ref a1, .ref a2, .ref a3, .ref a4, .int (-1), .int (-1), .int 0, .int 3, .int 3])), (a3, .inr (0, [.ref a5, .ref a6, .int 0]))] [] (fun v => v = some (.int (-2))) := by
  refine ka_R_of (cc := cX6_picture) (maxL := 4) (ret := (some .int)) (by decide) rfl (Nat.le_of_ble_eq_true rfl) ?_
  intro p e s m below meth c ls C hr hlk hP hK hE hN hl
  have hS : va_S (fun _ => False) s.heap s.heap [] := va_S.rf
  have C : CallFix p m c cX6_picture 4 s [.ref a0, .int x0, .int 0].toArray wsX6_picture RX6 := C
  obtain ⟨hx, hb, hml, hown, hts⟩ := id C
  have hl : lv_has ls 4 [(0, .ref a0), (1, .int x0), (2, .int 0)] := hl
  have rx0 := ka_rng x0
  refine lv_aload_n hx hb dX6_picture_0 rfl (lv_at hl 0 rfl) ?_
  refine lv_iload_n hx hb dX6_picture_1 rfl (lv_at hl 1 rfl) ?_
  refine ka_RV (n := 1) C (ct_X6_changeable_23 l D a0 x0 a1 a2 a3 a4 a5 a6 (by omega)) gX6_picture_X6_changeable rfl (by decide +kernel) ⟨Nat.le_of_ble_eq_true rfl, Nat.le_of_ble_eq_true rfl⟩ hK hP hS hE hN [0, 1] rfl [] rfl (ci := 6) rfl rfl 0 rfl rfl hl.1 (rest := []) rfl (Nat.le_of_ble_eq_true rfl) dX6_picture_2 ⟨Nat.le_of_ble_eq_true rfl, Nat.le_of_ble_eq_true rfl⟩ (fun v hv => ?_)
  subst hv
  refine ka_stk (w := [.null]) rfl ?_
  refine lv_astore_nN (lv' := [(3, .null), (0, .ref a0), (1, .int x0), (2, .int 0)]) hx hb dX6_picture_5 rfl hl (by decide) rfl (fun ls hl => ?_)
  refine lv_aload_nN hx hb dX6_picture_6 rfl (lv_at hl 0 rfl) ?_
  refine lv_ifnullN (tgt := 30) hx hb dX6_picture_7 (by decide) ?_
  refine lv_bipush (v := (-2)) hx hb dX6_picture_30 (by decide) ?_
  exact ka_rRi C hr hlk rfl dX6_picture_32
set_option maxHeartbeats 4000000 in
set_option maxRecDepth 100000 in
theorem ct_X7_picture_131 (l : Launch) (D : va_G) (a0 : Nat) (x0 : Int32) (a1 : Nat) (a2 : Nat) (a3 : Nat) (a4 : Nat) (a5 : Nat) (a6 : Nat) (a7 : Nat) (a8 : Nat) (a9 : Nat) (a10 : Nat) (a11 : Nat) (a12 : Nat) (a13 : Nat) (a14 : Nat) (hx0 : x0.toInt ≤ -1) : ka_R l D yX7_picture wsX7_picture 3 64 [.ref a0, .int x0, .int 0] [(a0, .inr (7, [.ref a1, .int 0, .ref a2, .ref a3, .ref a4, .ref a5, .ref a6, .ref a7, .ref a8, .int (-1), .int 0, .int 3, .int 3, .int 0, .int 0, .int 0, .ref a9, .ref a10, .ref a11, .ref a12, .ref a13, .ref a14, .int 0, .int 0, .int 0, .int 0, .int (-1), .int 0]))] [] (fun v => v = some (.int (-2))) := by
  refine ka_R_of (cc := cX7_picture) (maxL := 3) (ret := (some .int)) (by decide) rfl (Nat.le_of_ble_eq_true rfl) ?_
  intro p e s m below meth c ls C hr hlk hP hK hE hN hl
  have hS : va_S (fun _ => False) s.heap s.heap [] := va_S.rf
  have C : CallFix p m c cX7_picture 3 s [.ref a0, .int x0, .int 0].toArray wsX7_picture RX7 := C
  obtain ⟨hx, hb, hml, hown, hts⟩ := id C
  have hl : lv_has ls 3 [(0, .ref a0), (1, .int x0), (2, .int 0)] := hl
  have rx0 := ka_rng x0
  refine lv_aload_n hx hb dX7_picture_0 rfl (lv_at hl 0 rfl) ?_
  refine lv_iload_n hx hb dX7_picture_1 rfl (lv_at hl 1 rfl) ?_
  refine lv_iload_n hx hb dX7_picture_2 rfl (lv_at hl 2 rfl) ?_
  refine ka_RV (n := 2) C (ct_X7_isOpenFor_76 l D a0 x0 (by omega)) gX7_picture_X7_isOpenFor rfl (by decide +kernel) ⟨Nat.le_of_ble_eq_true rfl, Nat.le_of_ble_eq_true rfl⟩ hK hP hS hE hN [] rfl [] rfl (ci := 7) rfl rfl 0 rfl rfl hl.1 (rest := []) rfl (Nat.le_of_ble_eq_true rfl) dX7_picture_3 ⟨Nat.le_of_ble_eq_true rfl, Nat.le_of_ble_eq_true rfl⟩ (fun v hv => ?_)
  subst hv
  refine ka_stk (w := [.int 0]) rfl ?_
  refine lv_if_eq (tgt := 20) hx hb dX7_picture_6 (by decide) (fun _ => ?_) (fun c_ => absurd (by decide) c_)
  refine lv_bipush (v := (-2)) hx hb dX7_picture_20 (by decide) ?_
  exact ka_rRi C hr hlk rfl dX7_picture_22
set_option maxHeartbeats 4000000 in
set_option maxRecDepth 100000 in
theorem ct_X6_picture_132 (l : Launch) (D : va_G) (a0 : Nat) (x0 : Int32) (x1 : Int32) (a1 : Nat) (a2 : Nat) (a3 : Nat) (a4 : Nat) (a5 : Nat) (a6 : Nat) (hx0 : x0.toInt ≤ -1) (hx1 : 1 ≤ x1.toInt) : ka_R l D yX6_picture wsX6_picture 3 62 [.ref a0, .int x0, .int x1] [(a0, .inr (6, [.ref a1, .ref a2, .ref a3, .ref a4, .int (-1), .int (-1), .int 0, .int 3, .int 3])), (a3, .inr (0, [.ref a5, .ref a6, .int 0]))] [] (fun v => v = some (.int (-2))) := by
  refine ka_R_of (cc := cX6_picture) (maxL := 4) (ret := (some .int)) (by decide) rfl (Nat.le_of_ble_eq_true rfl) ?_
  intro p e s m below meth c ls C hr hlk hP hK hE hN hl
  have hS : va_S (fun _ => False) s.heap s.heap [] := va_S.rf
  have C : CallFix p m c cX6_picture 4 s [.ref a0, .int x0, .int x1].toArray wsX6_picture RX6 := C
  obtain ⟨hx, hb, hml, hown, hts⟩ := id C
  have hl : lv_has ls 4 [(0, .ref a0), (1, .int x0), (2, .int x1)] := hl
  have rx0 := ka_rng x0
  have rx1 := ka_rng x1
  refine lv_aload_n hx hb dX6_picture_0 rfl (lv_at hl 0 rfl) ?_
  refine lv_iload_n hx hb dX6_picture_1 rfl (lv_at hl 1 rfl) ?_
  refine ka_RV (n := 1) C (ct_X6_changeable_23 l D a0 x0 a1 a2 a3 a4 a5 a6 (by omega)) gX6_picture_X6_changeable rfl (by decide +kernel) ⟨Nat.le_of_ble_eq_true rfl, Nat.le_of_ble_eq_true rfl⟩ hK hP hS hE hN [0, 1] rfl [] rfl (ci := 6) rfl rfl 0 rfl rfl hl.1 (rest := []) rfl (Nat.le_of_ble_eq_true rfl) dX6_picture_2 ⟨Nat.le_of_ble_eq_true rfl, Nat.le_of_ble_eq_true rfl⟩ (fun v hv => ?_)
  subst hv
  refine ka_stk (w := [.null]) rfl ?_
  refine lv_astore_nN (lv' := [(3, .null), (0, .ref a0), (1, .int x0), (2, .int x1)]) hx hb dX6_picture_5 rfl hl (by decide) rfl (fun ls hl => ?_)
  refine lv_aload_nN hx hb dX6_picture_6 rfl (lv_at hl 0 rfl) ?_
  refine lv_ifnullN (tgt := 30) hx hb dX6_picture_7 (by decide) ?_
  refine lv_bipush (v := (-2)) hx hb dX6_picture_30 (by decide) ?_
  exact ka_rRi C hr hlk rfl dX6_picture_32
set_option maxHeartbeats 4000000 in
set_option maxRecDepth 100000 in
theorem ct_X7_picture_133 (l : Launch) (D : va_G) (a0 : Nat) (x0 : Int32) (x1 : Int32) (a1 : Nat) (a2 : Nat) (a3 : Nat) (a4 : Nat) (a5 : Nat) (a6 : Nat) (a7 : Nat) (a8 : Nat) (a9 : Nat) (a10 : Nat) (a11 : Nat) (a12 : Nat) (a13 : Nat) (a14 : Nat) (hx0 : x0.toInt ≤ -1) (hx1 : 1 ≤ x1.toInt) : ka_R l D yX7_picture wsX7_picture 3 64 [.ref a0, .int x0, .int x1] [(a0, .inr (7, [.ref a1, .int 0, .ref a2, .ref a3, .ref a4, .ref a5, .ref a6, .ref a7, .ref a8, .int (-1), .int 0, .int 3, .int 3, .int 0, .int 0, .int 0, .ref a9, .ref a10, .ref a11, .ref a12, .ref a13, .ref a14, .int 0, .int 0, .int 0, .int 0, .int (-1), .int 0]))] [] (fun v => v = some (.int (-2))) := by
  refine ka_R_of (cc := cX7_picture) (maxL := 3) (ret := (some .int)) (by decide) rfl (Nat.le_of_ble_eq_true rfl) ?_
  intro p e s m below meth c ls C hr hlk hP hK hE hN hl
  have hS : va_S (fun _ => False) s.heap s.heap [] := va_S.rf
  have C : CallFix p m c cX7_picture 3 s [.ref a0, .int x0, .int x1].toArray wsX7_picture RX7 := C
  obtain ⟨hx, hb, hml, hown, hts⟩ := id C
  have hl : lv_has ls 3 [(0, .ref a0), (1, .int x0), (2, .int x1)] := hl
  have rx0 := ka_rng x0
  have rx1 := ka_rng x1
  refine lv_aload_n hx hb dX7_picture_0 rfl (lv_at hl 0 rfl) ?_
  refine lv_iload_n hx hb dX7_picture_1 rfl (lv_at hl 1 rfl) ?_
  refine lv_iload_n hx hb dX7_picture_2 rfl (lv_at hl 2 rfl) ?_
  refine ka_RV (n := 2) C (ct_X7_isOpenFor_77 l D a0 x0 x1 (by omega) (by omega)) gX7_picture_X7_isOpenFor rfl (by decide +kernel) ⟨Nat.le_of_ble_eq_true rfl, Nat.le_of_ble_eq_true rfl⟩ hK hP hS hE hN [] rfl [] rfl (ci := 7) rfl rfl 0 rfl rfl hl.1 (rest := []) rfl (Nat.le_of_ble_eq_true rfl) dX7_picture_3 ⟨Nat.le_of_ble_eq_true rfl, Nat.le_of_ble_eq_true rfl⟩ (fun v hv => ?_)
  subst hv
  refine ka_stk (w := [.int 0]) rfl ?_
  refine lv_if_eq (tgt := 20) hx hb dX7_picture_6 (by decide) (fun _ => ?_) (fun c_ => absurd (by decide) c_)
  refine lv_bipush (v := (-2)) hx hb dX7_picture_20 (by decide) ?_
  exact ka_rRi C hr hlk rfl dX7_picture_22
theorem lq_213 : ∀ w ∈ wsX20, w ∈ wsX6_picture := by decide +kernel
theorem lq_214 : Cond.fieldLink RX6 83 "AskedBack$Lesson" "pictureCount" "I" ∈ wsX6_picture := by decide +kernel
theorem lq_215 : ∀ w ∈ wsX60, w ∈ wsX6_picture := by decide +kernel
theorem lq_216 : Cond.fieldLink RX6 10 "AskedBack" "tape" "LAskedBack$Tape;" ∈ wsX6_picture := by decide +kernel
set_option maxHeartbeats 4000000 in
set_option maxRecDepth 100000 in
theorem ct_X6_picture_134 (l : Launch) (D : va_G) (a0 : Nat) (x0 : Int32) (a1 : Nat) (a2 : Nat) (a3 : Nat) (a4 : Nat) (a5 : Nat) (a6 : Nat) (a7 : Nat) (k0 : ClassId) (a8 : Nat) (a9 : Nat) (a10 : Nat) (a11 : Nat) (a12 : Nat) (a13 : Nat) (a14 : Nat) (a15 : Nat) (hx0 : x0.toInt ≤ -1) : ka_R l D yX6_picture wsX6_picture 3 63 [.ref a0, .int 0, .int x0] [(a0, .inr (6, [.ref a1, .ref a2, .ref a3, .ref a4, .int (-1), .int (-1), .int 0, .int 3, .int 3])), (a1, .inr (5, [.ref a5, .int 0])), (a3, .inr (0, [.ref a6, .ref a7, .int 0])), (a6, .inl (k0, 6, .inr (.inr (.inr (.inr (va_up (va_up (va_up (va_up (va_up (va_up (fun _ => none) 0 (some a8)) 1 (some a9)) 2 (some a10)) 3 (some a11)) 4 (some a12)) 5 (some a13))))))), (a8, .inr (2, [.ref a14, .ref a15, .int 0, .null]))] [(k0, .object RX2)] (fun v => v = some (.int (-2))) := by
  refine ka_R_of (cc := cX6_picture) (maxL := 4) (ret := (some .int)) (by decide) rfl (Nat.le_of_ble_eq_true rfl) ?_
  intro p e s m below meth c ls C hr hlk hP hK hE hN hl
  have hS : va_S (fun _ => False) s.heap s.heap [] := va_S.rf
  have C : CallFix p m c cX6_picture 4 s [.ref a0, .int 0, .int x0].toArray wsX6_picture RX6 := C
  obtain ⟨hx, hb, hml, hown, hts⟩ := id C
  have hl : lv_has ls 4 [(0, .ref a0), (1, .int 0), (2, .int x0)] := hl
  have rx0 := ka_rng x0
  refine lv_aload_n hx hb dX6_picture_0 rfl (lv_at hl 0 rfl) ?_
  refine lv_iload_n hx hb dX6_picture_1 rfl (lv_at hl 1 rfl) ?_
  refine ka_RV (n := 1) C (ct_X6_changeable_27 l D a0 a1 a2 a3 a4 a6 a7 k0 a8 a9 a10 a11 a12 a13) gX6_picture_X6_changeable rfl (by decide +kernel) ⟨Nat.le_of_ble_eq_true rfl, Nat.le_of_ble_eq_true rfl⟩ hK hP hS hE hN [0, 2, 3] rfl [0] rfl (ci := 6) rfl rfl 0 rfl rfl hl.1 (rest := []) rfl (Nat.le_of_ble_eq_true rfl) dX6_picture_2 ⟨Nat.le_of_ble_eq_true rfl, Nat.le_of_ble_eq_true rfl⟩ (fun v hv => ?_)
  subst hv
  refine ka_stk (w := [.ref a8]) rfl ?_
  refine lv_astore_n (lv' := [(3, .ref a8), (0, .ref a0), (1, .int 0), (2, .int x0)]) hx hb dX6_picture_5 rfl hl (by decide) rfl (fun ls hl => ?_)
  refine lv_aload_n hx hb dX6_picture_6 rfl (lv_at hl 0 rfl) ?_
  refine lv_ifnull hx hb dX6_picture_7 ?_
  refine lv_aload_n hx hb dX6_picture_10 rfl (lv_at hl 0 rfl) ?_
  refine ka_get C lq_213 rfl hK hP 4 rfl 2 (by decide) lq_214 rfl dX6_picture_11 ?_
  refine lv_bipush (v := 12) hx hb dX6_picture_14 (by decide) ?_
  refine lv_icmp_ge (tgt := 30) hx hb dX6_picture_16 (by decide) (fun c_ => absurd c_ (by decide)) (fun _ => ?_)
  refine lv_aload_n hx hb dX6_picture_19 rfl (lv_at hl 1 rfl) ?_
  refine ka_get C lq_215 rfl hK hP 0 rfl 0 (by decide) lq_216 rfl dX6_picture_20 ?_
  refine lv_iload_n hx hb dX6_picture_23 rfl (lv_at hl 3 rfl) ?_
  refine ka_RV (n := 1) C (ct_X5_offers_28 l D a1 x0 (by omega)) gX6_picture_X5_offers rfl (by decide +kernel) ⟨Nat.le_of_ble_eq_true rfl, Nat.le_of_ble_eq_true rfl⟩ hK hP hS hE hN [] rfl [] rfl (ci := 5) rfl rfl 1 rfl rfl hl.1 (rest := []) rfl (Nat.le_of_ble_eq_true rfl) dX6_picture_24 ⟨Nat.le_of_ble_eq_true rfl, Nat.le_of_ble_eq_true rfl⟩ (fun v hv => ?_)
  subst hv
  refine ka_stk (w := [.int 0]) rfl ?_
  refine lv_if_ne (tgt := 33) hx hb dX6_picture_27 (by decide) (fun c_ => absurd (by decide) c_) (fun _ => ?_)
  refine lv_bipush (v := (-2)) hx hb dX6_picture_30 (by decide) ?_
  exact ka_rRi C hr hlk rfl dX6_picture_32
set_option maxHeartbeats 4000000 in
set_option maxRecDepth 100000 in
theorem ct_X7_picture_135 (l : Launch) (D : va_G) (a0 : Nat) (x0 : Int32) (a1 : Nat) (a2 : Nat) (a3 : Nat) (a4 : Nat) (a5 : Nat) (a6 : Nat) (a7 : Nat) (a8 : Nat) (a9 : Nat) (a10 : Nat) (a11 : Nat) (a12 : Nat) (a13 : Nat) (a14 : Nat) (k0 : ClassId) (hx0 : x0.toInt ≤ -1) : ka_R l D yX7_picture wsX7_picture 3 65 [.ref a0, .int 0, .int x0] [(a0, .inr (7, [.ref a1, .int 0, .ref a2, .ref a3, .ref a4, .ref a5, .ref a6, .ref a7, .ref a8, .int (-1), .int 0, .int 3, .int 3, .int 0, .int 0, .int 0, .ref a9, .ref a10, .ref a11, .ref a12, .ref a13, .ref a14, .int 0, .int 0, .int 0, .int 0, .int (-1), .int 0])), (a6, .inl (k0, 6, .inl (fun _ => 0)))] [(k0, .boolean)] (fun v => v = some (.int (-2))) := by
  refine ka_R_of (cc := cX7_picture) (maxL := 3) (ret := (some .int)) (by decide) rfl (Nat.le_of_ble_eq_true rfl) ?_
  intro p e s m below meth c ls C hr hlk hP hK hE hN hl
  have hS : va_S (fun _ => False) s.heap s.heap [] := va_S.rf
  have C : CallFix p m c cX7_picture 3 s [.ref a0, .int 0, .int x0].toArray wsX7_picture RX7 := C
  obtain ⟨hx, hb, hml, hown, hts⟩ := id C
  have hl : lv_has ls 3 [(0, .ref a0), (1, .int 0), (2, .int x0)] := hl
  have rx0 := ka_rng x0
  refine lv_aload_n hx hb dX7_picture_0 rfl (lv_at hl 0 rfl) ?_
  refine lv_iload_n hx hb dX7_picture_1 rfl (lv_at hl 1 rfl) ?_
  refine lv_iload_n hx hb dX7_picture_2 rfl (lv_at hl 2 rfl) ?_
  refine ka_RV (n := 2) C (ct_X7_isOpenFor_82 l D a0 x0 a1 a2 a3 a4 a5 a6 a7 a8 a9 a10 a11 a12 a13 a14 k0 (by omega)) gX7_picture_X7_isOpenFor rfl (by decide +kernel) ⟨Nat.le_of_ble_eq_true rfl, Nat.le_of_ble_eq_true rfl⟩ hK hP hS hE hN [0, 1] rfl [0] rfl (ci := 7) rfl rfl 0 rfl rfl hl.1 (rest := []) rfl (Nat.le_of_ble_eq_true rfl) dX7_picture_3 ⟨Nat.le_of_ble_eq_true rfl, Nat.le_of_ble_eq_true rfl⟩ (fun v hv => ?_)
  subst hv
  refine ka_stk (w := [.int 0]) rfl ?_
  refine lv_if_eq (tgt := 20) hx hb dX7_picture_6 (by decide) (fun _ => ?_) (fun c_ => absurd (by decide) c_)
  refine lv_bipush (v := (-2)) hx hb dX7_picture_20 (by decide) ?_
  exact ka_rRi C hr hlk rfl dX7_picture_22
set_option maxHeartbeats 4000000 in
set_option maxRecDepth 100000 in
theorem ct_X6_picture_136 (l : Launch) (D : va_G) (a0 : Nat) (a1 : Nat) (a2 : Nat) (a3 : Nat) (a4 : Nat) (a5 : Nat) (a6 : Nat) (a7 : Nat) (a8 : Nat) (k0 : ClassId) (a9 : Nat) (a10 : Nat) (a11 : Nat) (a12 : Nat) (a13 : Nat) (a14 : Nat) (a15 : Nat) (a16 : Nat) : ka_E (S := Unit) l D yX6_picture wsX6_picture 11 256 0 0 [.ref a0, .int 0, .int 0] [(a0, .inr (6, [.ref a1, .ref a2, .ref a3, .ref a4, .int (-1), .int (-1), .int 0, .int 3, .int 3])), (a1, .inr (5, [.ref a5, .int 0])), (a2, .inr (3, [.ref a1, .ref a6, .int 0, .int 0, .int 0, .int (-1), .int 3, .int 0])), (a3, .inr (0, [.ref a7, .ref a8, .int 0])), (a7, .inl (k0, 6, .inr (.inr (.inr (.inr (va_up (va_up (va_up (va_up (va_up (va_up (fun _ => none) 0 (some a9)) 1 (some a10)) 2 (some a11)) 3 (some a12)) 4 (some a13)) 5 (some a14))))))), (a9, .inr (2, [.ref a15, .ref a16, .int 0, .null]))] [(k0, .object RX2)] (fun u => some (.int (-1))) (fun _ => True) (fun u => []) (fun u => []) := by
  refine ka_E_of (cc := cX6_picture) (maxL := 4) (ret := (some .int)) (by decide) rfl (Nat.le_of_ble_eq_true rfl) ?_
  intro p e s m below meth c ls A C hr hlk hin hP hK hD hS hA hE hN hl
  have C : CallFix p m c cX6_picture 4 s [.ref a0, .int 0, .int 0].toArray wsX6_picture RX6 := C
  obtain ⟨hx, hb, hml, hown, hts⟩ := id C
  have hl : lv_has ls 4 [(0, .ref a0), (1, .int 0), (2, .int 0)] := hl
  refine lv_aload_n hx hb dX6_picture_0 rfl (lv_at hl 0 rfl) ?_
  refine lv_iload_n hx hb dX6_picture_1 rfl (lv_at hl 1 rfl) ?_
  refine ka_RV (n := 1) C (ct_X6_changeable_27 l D a0 a1 a2 a3 a4 a7 a8 k0 a9 a10 a11 a12 a13 a14) gX6_picture_X6_changeable rfl (by decide +kernel) ⟨Nat.le_of_ble_eq_true rfl, Nat.le_of_ble_eq_true rfl⟩ hK hP hS hE hN [0, 3, 4] rfl [0] rfl (ci := 6) rfl rfl 0 rfl rfl hl.1 (rest := []) rfl (Nat.le_of_ble_eq_true rfl) dX6_picture_2 ⟨Nat.le_of_ble_eq_true rfl, Nat.le_of_ble_eq_true rfl⟩ (fun v hv => ?_)
  subst hv
  refine ka_stk (w := [.ref a9]) rfl ?_
  refine lv_astore_n (lv' := [(3, .ref a9), (0, .ref a0), (1, .int 0), (2, .int 0)]) hx hb dX6_picture_5 rfl hl (by decide) rfl (fun ls hl => ?_)
  refine lv_aload_n hx hb dX6_picture_6 rfl (lv_at hl 0 rfl) ?_
  refine lv_ifnull hx hb dX6_picture_7 ?_
  refine lv_aload_n hx hb dX6_picture_10 rfl (lv_at hl 0 rfl) ?_
  refine ka_get C lq_213 rfl hK hP 5 rfl 2 (by decide) lq_214 rfl dX6_picture_11 ?_
  refine lv_bipush (v := 12) hx hb dX6_picture_14 (by decide) ?_
  refine lv_icmp_ge (tgt := 30) hx hb dX6_picture_16 (by decide) (fun c_ => absurd c_ (by decide)) (fun _ => ?_)
  refine lv_aload_n hx hb dX6_picture_19 rfl (lv_at hl 1 rfl) ?_
  refine ka_get C lq_215 rfl hK hP 0 rfl 0 (by decide) lq_216 rfl dX6_picture_20 ?_
  refine lv_iload_n hx hb dX6_picture_23 rfl (lv_at hl 3 rfl) ?_
  refine ka_RV (n := 1) C (ct_X5_offers_29 l D a1 a5) gX6_picture_X5_offers rfl (by decide +kernel) ⟨Nat.le_of_ble_eq_true rfl, Nat.le_of_ble_eq_true rfl⟩ hK hP hS hE hN [1] rfl [] rfl (ci := 5) rfl rfl 1 rfl rfl hl.1 (rest := []) rfl (Nat.le_of_ble_eq_true rfl) dX6_picture_24 ⟨Nat.le_of_ble_eq_true rfl, Nat.le_of_ble_eq_true rfl⟩ (fun v hv => ?_)
  subst hv
  refine ka_stk (w := [.int 1]) rfl ?_
  refine lv_if_ne (tgt := 33) hx hb dX6_picture_27 (by decide) (fun _ => ?_) (fun c_ => absurd c_ (by decide))
  refine lv_aload_n hx hb dX6_picture_33 rfl (lv_at hl 1 rfl) ?_
  refine lv_iload_n hx hb dX6_picture_34 rfl (lv_at hl 3 rfl) ?_
  refine ka_EV (n := 1) (wr := [(a3, .inr (0, [.ref a7, .ref a8, .int 0])), (a7, .inl (k0, 6, .inr (.inr (.inr (.inr (va_up (va_up (va_up (va_up (va_up (va_up (fun _ => none) 0 (some a9)) 1 (some a10)) 2 (some a11)) 3 (some a12)) 4 (some a13)) 5 (some a14))))))), (a9, .inr (2, [.ref a15, .ref a16, .int 0, .null]))]) C (ct_X6_readTape_46 l D a0 a1 a2 a3 a4 a5 a6) gX6_picture_X6_readTape rfl (by decide +kernel) ⟨Nat.le_of_ble_eq_true rfl, Nat.le_of_ble_eq_true rfl⟩ hK hP hD hS hA hE hN [0, 1, 2] rfl (by decide) [3, 4, 5] rfl (by decide) (by decide) [] rfl (ci := 6) rfl rfl 0 rfl rfl hl.1 (rest := []) rfl (Nat.le_of_ble_eq_true rfl) dX6_picture_35 ⟨Nat.le_of_ble_eq_true rfl, Nat.le_of_ble_eq_true rfl⟩ (fun u H locs _ hP hD hK hS => ?_)
  have hP : va_P D vwCl [(a3, .inr (0, [.ref a7, .ref a8, .int 0])), (a7, .inl (k0, 6, .inr (.inr (.inr (.inr (va_up (va_up (va_up (va_up (va_up (va_up (fun _ => none) 0 (some a9)) 1 (some a10)) 2 (some a11)) 3 (some a12)) 4 (some a13)) 5 (some a14))))))), (a9, .inr (2, [.ref a15, .ref a16, .int 0, .null])), (a0, .inr (6, [.ref a1, .ref a2, .ref a3, .ref a4, .int (-1), .int 0, .int 0, .int 3, .int 3])), (a2, .inr (3, [.ref a1, .ref a6, .int 0, .int 0, .int 0, .int 0, .int 3, .int 0])), (a1, .inr (5, [.ref a5, .int 0]))] H := hP
  have hD : va_D A [(a3, .inr (0, [.ref a7, .ref a8, .int 0])), (a7, .inl (k0, 6, .inr (.inr (.inr (.inr (va_up (va_up (va_up (va_up (va_up (va_up (fun _ => none) 0 (some a9)) 1 (some a10)) 2 (some a11)) 3 (some a12)) 4 (some a13)) 5 (some a14))))))), (a9, .inr (2, [.ref a15, .ref a16, .int 0, .null])), (a0, .inr (6, [.ref a1, .ref a2, .ref a3, .ref a4, .int (-1), .int 0, .int 0, .int 3, .int 3])), (a2, .inr (3, [.ref a1, .ref a6, .int 0, .int 0, .int 0, .int 0, .int 3, .int 0])), (a1, .inr (5, [.ref a5, .int 0]))] := hD
  have hK : va_K D vwCl [(k0, .object RX2)] s := hK
  refine ka_stk (w := [.int 0]) rfl ?_
  refine lv_if_eq (tgt := 55) hx hb dX6_picture_38 (by decide) (fun _ => ?_) (fun c_ => absurd (by decide) c_)
  refine lv_iconst (v := (-1)) hx hb dX6_picture_55 (by decide) ?_
  exact ka_rEi C hr hlk (Nat.le_of_ble_eq_true rfl) (Nat.le_of_ble_eq_true rfl) hS (ka_qE () rfl trivial hK hP hD hS [] (by decide) rfl [] rfl) dX6_picture_56
theorem lq_217 : ∀ w ∈ wsX70, w ∈ wsX7_picture := by decide +kernel
theorem lq_218 : Cond.fieldLink RX7 33 "AskedBackModel" "pictures" "[I" ∈ wsX7_picture := by decide +kernel
set_option maxHeartbeats 4000000 in
set_option maxRecDepth 100000 in
theorem ct_X7_picture_137 (l : Launch) (D : va_G) (a0 : Nat) (a1 : Nat) (a2 : Nat) (a3 : Nat) (a4 : Nat) (a5 : Nat) (a6 : Nat) (a7 : Nat) (a8 : Nat) (a9 : Nat) (a10 : Nat) (a11 : Nat) (a12 : Nat) (a13 : Nat) (a14 : Nat) (k0 : ClassId) (k1 : ClassId) : ka_E (S := Unit) l D yX7_picture wsX7_picture 6 137 0 0 [.ref a0, .int 0, .int 0] [(a0, .inr (7, [.ref a1, .int 0, .ref a2, .ref a3, .ref a4, .ref a5, .ref a6, .ref a7, .ref a8, .int (-1), .int 0, .int 3, .int 3, .int 0, .int 0, .int 0, .ref a9, .ref a10, .ref a11, .ref a12, .ref a13, .ref a14, .int 0, .int 0, .int 0, .int 0, .int (-1), .int 0])), (a6, .inl (k0, 6, .inl (fun _ => 0))), (a8, .inl (k1, 6, .inl (fun _ => 0)))] [(k0, .boolean), (k1, .int)] (fun u => some (.int (-1))) (fun _ => True) (fun u => []) (fun u => []) := by
  refine ka_E_of (cc := cX7_picture) (maxL := 3) (ret := (some .int)) (by decide) rfl (Nat.le_of_ble_eq_true rfl) ?_
  intro p e s m below meth c ls A C hr hlk hin hP hK hD hS hA hE hN hl
  have C : CallFix p m c cX7_picture 3 s [.ref a0, .int 0, .int 0].toArray wsX7_picture RX7 := C
  obtain ⟨hx, hb, hml, hown, hts⟩ := id C
  have hl : lv_has ls 3 [(0, .ref a0), (1, .int 0), (2, .int 0)] := hl
  refine lv_aload_n hx hb dX7_picture_0 rfl (lv_at hl 0 rfl) ?_
  refine lv_iload_n hx hb dX7_picture_1 rfl (lv_at hl 1 rfl) ?_
  refine lv_iload_n hx hb dX7_picture_2 rfl (lv_at hl 2 rfl) ?_
  refine ka_RV (n := 2) C (ct_X7_isOpenFor_85 l D a0 a1 a2 a3 a4 a5 a6 a7 a8 a9 a10 a11 a12 a13 a14 k0) gX7_picture_X7_isOpenFor rfl (by decide +kernel) ⟨Nat.le_of_ble_eq_true rfl, Nat.le_of_ble_eq_true rfl⟩ hK hP hS hE hN [0, 1] rfl [0] rfl (ci := 7) rfl rfl 0 rfl rfl hl.1 (rest := []) rfl (Nat.le_of_ble_eq_true rfl) dX7_picture_3 ⟨Nat.le_of_ble_eq_true rfl, Nat.le_of_ble_eq_true rfl⟩ (fun v hv => ?_)
  subst hv
  refine ka_stk (w := [.int 1]) rfl ?_
  refine lv_if_eq (tgt := 20) hx hb dX7_picture_6 (by decide) (fun c_ => absurd c_ (by decide)) (fun _ => ?_)
  refine lv_aload_n hx hb dX7_picture_9 rfl (lv_at hl 0 rfl) ?_
  refine ka_get C lq_217 rfl hK hP 0 rfl 8 (by decide) lq_218 rfl dX7_picture_10 ?_
  refine lv_iload_n hx hb dX7_picture_13 rfl (lv_at hl 1 rfl) ?_
  refine va_iald hx hb hK hP 2 1 rfl rfl (ka_in (by decide) (by decide)) dX7_picture_14 ?_
  refine ka_top (w := .int 0) rfl ?_
  refine lv_bipush (v := 12) hx hb dX7_picture_15 (by decide) ?_
  refine lv_icmp_ne (tgt := 23) hx hb dX7_picture_17 (by decide) (fun _ => ?_) (fun c_ => absurd c_ (by decide))
  refine lv_aload_n hx hb dX7_picture_23 rfl (lv_at hl 0 rfl) ?_
  refine lv_iload_n hx hb dX7_picture_24 rfl (lv_at hl 2 rfl) ?_
  refine ka_EV (n := 1) (wr := [(a6, .inl (k0, 6, .inl (fun _ => 0))), (a8, .inl (k1, 6, .inl (fun _ => 0)))]) C (ct_X7_reads_93 l D a0 a1 a2 a3 a4 a5 a6 a7 a8 a9 a10 a11 a12 a13 a14) gX7_picture_X7_reads rfl (by decide +kernel) ⟨Nat.le_of_ble_eq_true rfl, Nat.le_of_ble_eq_true rfl⟩ hK hP hD hS hA hE hN [0] rfl (by decide) [1, 2] rfl (by decide) (by decide) [] rfl (ci := 7) rfl rfl 0 rfl rfl hl.1 (rest := []) rfl (Nat.le_of_ble_eq_true rfl) dX7_picture_25 ⟨Nat.le_of_ble_eq_true rfl, Nat.le_of_ble_eq_true rfl⟩ (fun u H locs _ hP hD hK hS => ?_)
  have hP : va_P D vwCl [(a6, .inl (k0, 6, .inl (fun _ => 0))), (a8, .inl (k1, 6, .inl (fun _ => 0))), (a0, .inr (7, [.ref a1, .int 0, .ref a2, .ref a3, .ref a4, .ref a5, .ref a6, .ref a7, .ref a8, .int (-1), .int 0, .int 3, .int 3, .int 0, .int 0, .int 0, .ref a9, .ref a10, .ref a11, .ref a12, .ref a13, .ref a14, .int 0, .int 0, .int 0, .int 0, .int 0, .int 1]))] H := hP
  have hD : va_D A [(a6, .inl (k0, 6, .inl (fun _ => 0))), (a8, .inl (k1, 6, .inl (fun _ => 0))), (a0, .inr (7, [.ref a1, .int 0, .ref a2, .ref a3, .ref a4, .ref a5, .ref a6, .ref a7, .ref a8, .int (-1), .int 0, .int 3, .int 3, .int 0, .int 0, .int 0, .ref a9, .ref a10, .ref a11, .ref a12, .ref a13, .ref a14, .int 0, .int 0, .int 0, .int 0, .int 0, .int 1]))] := hD
  have hK : va_K D vwCl [(k0, .boolean), (k1, .int)] s := hK
  refine ka_stk (w := [.int 0]) rfl ?_
  refine lv_if_ne (tgt := 33) hx hb dX7_picture_28 (by decide) (fun c_ => absurd (by decide) c_) (fun _ => ?_)
  refine lv_iconst (v := (-1)) hx hb dX7_picture_31 (by decide) ?_
  exact ka_rEi C hr hlk (Nat.le_of_ble_eq_true rfl) (Nat.le_of_ble_eq_true rfl) hS (ka_qE () rfl trivial hK hP hD hS [] (by decide) rfl [] rfl) dX7_picture_32
set_option maxHeartbeats 4000000 in
set_option maxRecDepth 100000 in
theorem ct_X6_picture_138 (l : Launch) (D : va_G) (a0 : Nat) (x0 : Int32) (a1 : Nat) (a2 : Nat) (a3 : Nat) (a4 : Nat) (a5 : Nat) (a6 : Nat) (a7 : Nat) (k0 : ClassId) (a8 : Nat) (a9 : Nat) (a10 : Nat) (a11 : Nat) (a12 : Nat) (a13 : Nat) (a14 : Nat) (a15 : Nat) (hx0 : 1 ≤ x0.toInt) : ka_R l D yX6_picture wsX6_picture 3 63 [.ref a0, .int 0, .int x0] [(a0, .inr (6, [.ref a1, .ref a2, .ref a3, .ref a4, .int (-1), .int (-1), .int 0, .int 3, .int 3])), (a1, .inr (5, [.ref a5, .int 0])), (a3, .inr (0, [.ref a6, .ref a7, .int 0])), (a6, .inl (k0, 6, .inr (.inr (.inr (.inr (va_up (va_up (va_up (va_up (va_up (va_up (fun _ => none) 0 (some a8)) 1 (some a9)) 2 (some a10)) 3 (some a11)) 4 (some a12)) 5 (some a13))))))), (a8, .inr (2, [.ref a14, .ref a15, .int 0, .null]))] [(k0, .object RX2)] (fun v => v = some (.int (-2))) := by
  refine ka_R_of (cc := cX6_picture) (maxL := 4) (ret := (some .int)) (by decide) rfl (Nat.le_of_ble_eq_true rfl) ?_
  intro p e s m below meth c ls C hr hlk hP hK hE hN hl
  have hS : va_S (fun _ => False) s.heap s.heap [] := va_S.rf
  have C : CallFix p m c cX6_picture 4 s [.ref a0, .int 0, .int x0].toArray wsX6_picture RX6 := C
  obtain ⟨hx, hb, hml, hown, hts⟩ := id C
  have hl : lv_has ls 4 [(0, .ref a0), (1, .int 0), (2, .int x0)] := hl
  have rx0 := ka_rng x0
  refine lv_aload_n hx hb dX6_picture_0 rfl (lv_at hl 0 rfl) ?_
  refine lv_iload_n hx hb dX6_picture_1 rfl (lv_at hl 1 rfl) ?_
  refine ka_RV (n := 1) C (ct_X6_changeable_27 l D a0 a1 a2 a3 a4 a6 a7 k0 a8 a9 a10 a11 a12 a13) gX6_picture_X6_changeable rfl (by decide +kernel) ⟨Nat.le_of_ble_eq_true rfl, Nat.le_of_ble_eq_true rfl⟩ hK hP hS hE hN [0, 2, 3] rfl [0] rfl (ci := 6) rfl rfl 0 rfl rfl hl.1 (rest := []) rfl (Nat.le_of_ble_eq_true rfl) dX6_picture_2 ⟨Nat.le_of_ble_eq_true rfl, Nat.le_of_ble_eq_true rfl⟩ (fun v hv => ?_)
  subst hv
  refine ka_stk (w := [.ref a8]) rfl ?_
  refine lv_astore_n (lv' := [(3, .ref a8), (0, .ref a0), (1, .int 0), (2, .int x0)]) hx hb dX6_picture_5 rfl hl (by decide) rfl (fun ls hl => ?_)
  refine lv_aload_n hx hb dX6_picture_6 rfl (lv_at hl 0 rfl) ?_
  refine lv_ifnull hx hb dX6_picture_7 ?_
  refine lv_aload_n hx hb dX6_picture_10 rfl (lv_at hl 0 rfl) ?_
  refine ka_get C lq_213 rfl hK hP 4 rfl 2 (by decide) lq_214 rfl dX6_picture_11 ?_
  refine lv_bipush (v := 12) hx hb dX6_picture_14 (by decide) ?_
  refine lv_icmp_ge (tgt := 30) hx hb dX6_picture_16 (by decide) (fun c_ => absurd c_ (by decide)) (fun _ => ?_)
  refine lv_aload_n hx hb dX6_picture_19 rfl (lv_at hl 1 rfl) ?_
  refine ka_get C lq_215 rfl hK hP 0 rfl 0 (by decide) lq_216 rfl dX6_picture_20 ?_
  refine lv_iload_n hx hb dX6_picture_23 rfl (lv_at hl 3 rfl) ?_
  refine ka_RV (n := 1) C (ct_X5_offers_47 l D a1 x0 a5 (by omega)) gX6_picture_X5_offers rfl (by decide +kernel) ⟨Nat.le_of_ble_eq_true rfl, Nat.le_of_ble_eq_true rfl⟩ hK hP hS hE hN [1] rfl [] rfl (ci := 5) rfl rfl 1 rfl rfl hl.1 (rest := []) rfl (Nat.le_of_ble_eq_true rfl) dX6_picture_24 ⟨Nat.le_of_ble_eq_true rfl, Nat.le_of_ble_eq_true rfl⟩ (fun v hv => ?_)
  subst hv
  refine ka_stk (w := [.int 0]) rfl ?_
  refine lv_if_ne (tgt := 33) hx hb dX6_picture_27 (by decide) (fun c_ => absurd (by decide) c_) (fun _ => ?_)
  refine lv_bipush (v := (-2)) hx hb dX6_picture_30 (by decide) ?_
  exact ka_rRi C hr hlk rfl dX6_picture_32
set_option maxHeartbeats 4000000 in
set_option maxRecDepth 100000 in
theorem ct_X7_picture_139 (l : Launch) (D : va_G) (a0 : Nat) (x0 : Int32) (a1 : Nat) (a2 : Nat) (a3 : Nat) (a4 : Nat) (a5 : Nat) (a6 : Nat) (a7 : Nat) (a8 : Nat) (a9 : Nat) (a10 : Nat) (a11 : Nat) (a12 : Nat) (a13 : Nat) (a14 : Nat) (k0 : ClassId) (hx0 : 1 ≤ x0.toInt) : ka_R l D yX7_picture wsX7_picture 3 65 [.ref a0, .int 0, .int x0] [(a0, .inr (7, [.ref a1, .int 0, .ref a2, .ref a3, .ref a4, .ref a5, .ref a6, .ref a7, .ref a8, .int (-1), .int 0, .int 3, .int 3, .int 0, .int 0, .int 0, .ref a9, .ref a10, .ref a11, .ref a12, .ref a13, .ref a14, .int 0, .int 0, .int 0, .int 0, .int (-1), .int 0])), (a6, .inl (k0, 6, .inl (fun _ => 0)))] [(k0, .boolean)] (fun v => v = some (.int (-2))) := by
  refine ka_R_of (cc := cX7_picture) (maxL := 3) (ret := (some .int)) (by decide) rfl (Nat.le_of_ble_eq_true rfl) ?_
  intro p e s m below meth c ls C hr hlk hP hK hE hN hl
  have hS : va_S (fun _ => False) s.heap s.heap [] := va_S.rf
  have C : CallFix p m c cX7_picture 3 s [.ref a0, .int 0, .int x0].toArray wsX7_picture RX7 := C
  obtain ⟨hx, hb, hml, hown, hts⟩ := id C
  have hl : lv_has ls 3 [(0, .ref a0), (1, .int 0), (2, .int x0)] := hl
  have rx0 := ka_rng x0
  refine lv_aload_n hx hb dX7_picture_0 rfl (lv_at hl 0 rfl) ?_
  refine lv_iload_n hx hb dX7_picture_1 rfl (lv_at hl 1 rfl) ?_
  refine lv_iload_n hx hb dX7_picture_2 rfl (lv_at hl 2 rfl) ?_
  refine ka_RV (n := 2) C (ct_X7_isOpenFor_96 l D a0 x0 a1 a2 a3 a4 a5 a6 a7 a8 a9 a10 a11 a12 a13 a14 k0 (by omega)) gX7_picture_X7_isOpenFor rfl (by decide +kernel) ⟨Nat.le_of_ble_eq_true rfl, Nat.le_of_ble_eq_true rfl⟩ hK hP hS hE hN [0, 1] rfl [0] rfl (ci := 7) rfl rfl 0 rfl rfl hl.1 (rest := []) rfl (Nat.le_of_ble_eq_true rfl) dX7_picture_3 ⟨Nat.le_of_ble_eq_true rfl, Nat.le_of_ble_eq_true rfl⟩ (fun v hv => ?_)
  subst hv
  refine ka_stk (w := [.int 0]) rfl ?_
  refine lv_if_eq (tgt := 20) hx hb dX7_picture_6 (by decide) (fun _ => ?_) (fun c_ => absurd (by decide) c_)
  refine lv_bipush (v := (-2)) hx hb dX7_picture_20 (by decide) ?_
  exact ka_rRi C hr hlk rfl dX7_picture_22
set_option maxHeartbeats 4000000 in
set_option maxRecDepth 100000 in
theorem ct_X6_picture_140 (l : Launch) (D : va_G) (a0 : Nat) (x0 : Int32) (a1 : Nat) (a2 : Nat) (a3 : Nat) (a4 : Nat) (a5 : Nat) (a6 : Nat) (a7 : Nat) (k0 : ClassId) (a8 : Nat) (a9 : Nat) (a10 : Nat) (a11 : Nat) (a12 : Nat) (a13 : Nat) (a14 : Nat) (a15 : Nat) (hx0 : x0.toInt ≤ -1) : ka_R l D yX6_picture wsX6_picture 3 63 [.ref a0, .int 1, .int x0] [(a0, .inr (6, [.ref a1, .ref a2, .ref a3, .ref a4, .int (-1), .int (-1), .int 0, .int 3, .int 3])), (a1, .inr (5, [.ref a5, .int 0])), (a3, .inr (0, [.ref a6, .ref a7, .int 0])), (a6, .inl (k0, 6, .inr (.inr (.inr (.inr (va_up (va_up (va_up (va_up (va_up (va_up (fun _ => none) 0 (some a8)) 1 (some a9)) 2 (some a10)) 3 (some a11)) 4 (some a12)) 5 (some a13))))))), (a9, .inr (2, [.ref a14, .ref a15, .int 0, .null]))] [(k0, .object RX2)] (fun v => v = some (.int (-2))) := by
  refine ka_R_of (cc := cX6_picture) (maxL := 4) (ret := (some .int)) (by decide) rfl (Nat.le_of_ble_eq_true rfl) ?_
  intro p e s m below meth c ls C hr hlk hP hK hE hN hl
  have hS : va_S (fun _ => False) s.heap s.heap [] := va_S.rf
  have C : CallFix p m c cX6_picture 4 s [.ref a0, .int 1, .int x0].toArray wsX6_picture RX6 := C
  obtain ⟨hx, hb, hml, hown, hts⟩ := id C
  have hl : lv_has ls 4 [(0, .ref a0), (1, .int 1), (2, .int x0)] := hl
  have rx0 := ka_rng x0
  refine lv_aload_n hx hb dX6_picture_0 rfl (lv_at hl 0 rfl) ?_
  refine lv_iload_n hx hb dX6_picture_1 rfl (lv_at hl 1 rfl) ?_
  refine ka_RV (n := 1) C (ct_X6_changeable_51 l D a0 a1 a2 a3 a4 a6 a7 k0 a8 a9 a10 a11 a12 a13) gX6_picture_X6_changeable rfl (by decide +kernel) ⟨Nat.le_of_ble_eq_true rfl, Nat.le_of_ble_eq_true rfl⟩ hK hP hS hE hN [0, 2, 3] rfl [0] rfl (ci := 6) rfl rfl 0 rfl rfl hl.1 (rest := []) rfl (Nat.le_of_ble_eq_true rfl) dX6_picture_2 ⟨Nat.le_of_ble_eq_true rfl, Nat.le_of_ble_eq_true rfl⟩ (fun v hv => ?_)
  subst hv
  refine ka_stk (w := [.ref a9]) rfl ?_
  refine lv_astore_n (lv' := [(3, .ref a9), (0, .ref a0), (1, .int 1), (2, .int x0)]) hx hb dX6_picture_5 rfl hl (by decide) rfl (fun ls hl => ?_)
  refine lv_aload_n hx hb dX6_picture_6 rfl (lv_at hl 0 rfl) ?_
  refine lv_ifnull hx hb dX6_picture_7 ?_
  refine lv_aload_n hx hb dX6_picture_10 rfl (lv_at hl 0 rfl) ?_
  refine ka_get C lq_213 rfl hK hP 4 rfl 2 (by decide) lq_214 rfl dX6_picture_11 ?_
  refine lv_bipush (v := 12) hx hb dX6_picture_14 (by decide) ?_
  refine lv_icmp_ge (tgt := 30) hx hb dX6_picture_16 (by decide) (fun c_ => absurd c_ (by decide)) (fun _ => ?_)
  refine lv_aload_n hx hb dX6_picture_19 rfl (lv_at hl 1 rfl) ?_
  refine ka_get C lq_215 rfl hK hP 0 rfl 0 (by decide) lq_216 rfl dX6_picture_20 ?_
  refine lv_iload_n hx hb dX6_picture_23 rfl (lv_at hl 3 rfl) ?_
  refine ka_RV (n := 1) C (ct_X5_offers_28 l D a1 x0 (by omega)) gX6_picture_X5_offers rfl (by decide +kernel) ⟨Nat.le_of_ble_eq_true rfl, Nat.le_of_ble_eq_true rfl⟩ hK hP hS hE hN [] rfl [] rfl (ci := 5) rfl rfl 1 rfl rfl hl.1 (rest := []) rfl (Nat.le_of_ble_eq_true rfl) dX6_picture_24 ⟨Nat.le_of_ble_eq_true rfl, Nat.le_of_ble_eq_true rfl⟩ (fun v hv => ?_)
  subst hv
  refine ka_stk (w := [.int 0]) rfl ?_
  refine lv_if_ne (tgt := 33) hx hb dX6_picture_27 (by decide) (fun c_ => absurd (by decide) c_) (fun _ => ?_)
  refine lv_bipush (v := (-2)) hx hb dX6_picture_30 (by decide) ?_
  exact ka_rRi C hr hlk rfl dX6_picture_32
set_option maxHeartbeats 4000000 in
set_option maxRecDepth 100000 in
theorem ct_X7_picture_141 (l : Launch) (D : va_G) (a0 : Nat) (x0 : Int32) (a1 : Nat) (a2 : Nat) (a3 : Nat) (a4 : Nat) (a5 : Nat) (a6 : Nat) (a7 : Nat) (a8 : Nat) (a9 : Nat) (a10 : Nat) (a11 : Nat) (a12 : Nat) (a13 : Nat) (a14 : Nat) (k0 : ClassId) (hx0 : x0.toInt ≤ -1) : ka_R l D yX7_picture wsX7_picture 3 65 [.ref a0, .int 1, .int x0] [(a0, .inr (7, [.ref a1, .int 0, .ref a2, .ref a3, .ref a4, .ref a5, .ref a6, .ref a7, .ref a8, .int (-1), .int 0, .int 3, .int 3, .int 0, .int 0, .int 0, .ref a9, .ref a10, .ref a11, .ref a12, .ref a13, .ref a14, .int 0, .int 0, .int 0, .int 0, .int (-1), .int 0])), (a6, .inl (k0, 6, .inl (fun _ => 0)))] [(k0, .boolean)] (fun v => v = some (.int (-2))) := by
  refine ka_R_of (cc := cX7_picture) (maxL := 3) (ret := (some .int)) (by decide) rfl (Nat.le_of_ble_eq_true rfl) ?_
  intro p e s m below meth c ls C hr hlk hP hK hE hN hl
  have hS : va_S (fun _ => False) s.heap s.heap [] := va_S.rf
  have C : CallFix p m c cX7_picture 3 s [.ref a0, .int 1, .int x0].toArray wsX7_picture RX7 := C
  obtain ⟨hx, hb, hml, hown, hts⟩ := id C
  have hl : lv_has ls 3 [(0, .ref a0), (1, .int 1), (2, .int x0)] := hl
  have rx0 := ka_rng x0
  refine lv_aload_n hx hb dX7_picture_0 rfl (lv_at hl 0 rfl) ?_
  refine lv_iload_n hx hb dX7_picture_1 rfl (lv_at hl 1 rfl) ?_
  refine lv_iload_n hx hb dX7_picture_2 rfl (lv_at hl 2 rfl) ?_
  refine ka_RV (n := 2) C (ct_X7_isOpenFor_99 l D a0 x0 a1 a2 a3 a4 a5 a6 a7 a8 a9 a10 a11 a12 a13 a14 k0 (by omega)) gX7_picture_X7_isOpenFor rfl (by decide +kernel) ⟨Nat.le_of_ble_eq_true rfl, Nat.le_of_ble_eq_true rfl⟩ hK hP hS hE hN [0, 1] rfl [0] rfl (ci := 7) rfl rfl 0 rfl rfl hl.1 (rest := []) rfl (Nat.le_of_ble_eq_true rfl) dX7_picture_3 ⟨Nat.le_of_ble_eq_true rfl, Nat.le_of_ble_eq_true rfl⟩ (fun v hv => ?_)
  subst hv
  refine ka_stk (w := [.int 0]) rfl ?_
  refine lv_if_eq (tgt := 20) hx hb dX7_picture_6 (by decide) (fun _ => ?_) (fun c_ => absurd (by decide) c_)
  refine lv_bipush (v := (-2)) hx hb dX7_picture_20 (by decide) ?_
  exact ka_rRi C hr hlk rfl dX7_picture_22
set_option maxHeartbeats 4000000 in
set_option maxRecDepth 100000 in
theorem ct_X6_picture_142 (l : Launch) (D : va_G) (a0 : Nat) (a1 : Nat) (a2 : Nat) (a3 : Nat) (a4 : Nat) (a5 : Nat) (a6 : Nat) (a7 : Nat) (a8 : Nat) (k0 : ClassId) (a9 : Nat) (a10 : Nat) (a11 : Nat) (a12 : Nat) (a13 : Nat) (a14 : Nat) (a15 : Nat) (a16 : Nat) : ka_E (S := Unit) l D yX6_picture wsX6_picture 11 256 0 0 [.ref a0, .int 1, .int 0] [(a0, .inr (6, [.ref a1, .ref a2, .ref a3, .ref a4, .int (-1), .int (-1), .int 0, .int 3, .int 3])), (a1, .inr (5, [.ref a5, .int 0])), (a2, .inr (3, [.ref a1, .ref a6, .int 0, .int 0, .int 0, .int (-1), .int 3, .int 0])), (a3, .inr (0, [.ref a7, .ref a8, .int 0])), (a7, .inl (k0, 6, .inr (.inr (.inr (.inr (va_up (va_up (va_up (va_up (va_up (va_up (fun _ => none) 0 (some a9)) 1 (some a10)) 2 (some a11)) 3 (some a12)) 4 (some a13)) 5 (some a14))))))), (a10, .inr (2, [.ref a15, .ref a16, .int 0, .null]))] [(k0, .object RX2)] (fun u => some (.int (-1))) (fun _ => True) (fun u => []) (fun u => []) := by
  refine ka_E_of (cc := cX6_picture) (maxL := 4) (ret := (some .int)) (by decide) rfl (Nat.le_of_ble_eq_true rfl) ?_
  intro p e s m below meth c ls A C hr hlk hin hP hK hD hS hA hE hN hl
  have C : CallFix p m c cX6_picture 4 s [.ref a0, .int 1, .int 0].toArray wsX6_picture RX6 := C
  obtain ⟨hx, hb, hml, hown, hts⟩ := id C
  have hl : lv_has ls 4 [(0, .ref a0), (1, .int 1), (2, .int 0)] := hl
  refine lv_aload_n hx hb dX6_picture_0 rfl (lv_at hl 0 rfl) ?_
  refine lv_iload_n hx hb dX6_picture_1 rfl (lv_at hl 1 rfl) ?_
  refine ka_RV (n := 1) C (ct_X6_changeable_51 l D a0 a1 a2 a3 a4 a7 a8 k0 a9 a10 a11 a12 a13 a14) gX6_picture_X6_changeable rfl (by decide +kernel) ⟨Nat.le_of_ble_eq_true rfl, Nat.le_of_ble_eq_true rfl⟩ hK hP hS hE hN [0, 3, 4] rfl [0] rfl (ci := 6) rfl rfl 0 rfl rfl hl.1 (rest := []) rfl (Nat.le_of_ble_eq_true rfl) dX6_picture_2 ⟨Nat.le_of_ble_eq_true rfl, Nat.le_of_ble_eq_true rfl⟩ (fun v hv => ?_)
  subst hv
  refine ka_stk (w := [.ref a10]) rfl ?_
  refine lv_astore_n (lv' := [(3, .ref a10), (0, .ref a0), (1, .int 1), (2, .int 0)]) hx hb dX6_picture_5 rfl hl (by decide) rfl (fun ls hl => ?_)
  refine lv_aload_n hx hb dX6_picture_6 rfl (lv_at hl 0 rfl) ?_
  refine lv_ifnull hx hb dX6_picture_7 ?_
  refine lv_aload_n hx hb dX6_picture_10 rfl (lv_at hl 0 rfl) ?_
  refine ka_get C lq_213 rfl hK hP 5 rfl 2 (by decide) lq_214 rfl dX6_picture_11 ?_
  refine lv_bipush (v := 12) hx hb dX6_picture_14 (by decide) ?_
  refine lv_icmp_ge (tgt := 30) hx hb dX6_picture_16 (by decide) (fun c_ => absurd c_ (by decide)) (fun _ => ?_)
  refine lv_aload_n hx hb dX6_picture_19 rfl (lv_at hl 1 rfl) ?_
  refine ka_get C lq_215 rfl hK hP 0 rfl 0 (by decide) lq_216 rfl dX6_picture_20 ?_
  refine lv_iload_n hx hb dX6_picture_23 rfl (lv_at hl 3 rfl) ?_
  refine ka_RV (n := 1) C (ct_X5_offers_29 l D a1 a5) gX6_picture_X5_offers rfl (by decide +kernel) ⟨Nat.le_of_ble_eq_true rfl, Nat.le_of_ble_eq_true rfl⟩ hK hP hS hE hN [1] rfl [] rfl (ci := 5) rfl rfl 1 rfl rfl hl.1 (rest := []) rfl (Nat.le_of_ble_eq_true rfl) dX6_picture_24 ⟨Nat.le_of_ble_eq_true rfl, Nat.le_of_ble_eq_true rfl⟩ (fun v hv => ?_)
  subst hv
  refine ka_stk (w := [.int 1]) rfl ?_
  refine lv_if_ne (tgt := 33) hx hb dX6_picture_27 (by decide) (fun _ => ?_) (fun c_ => absurd c_ (by decide))
  refine lv_aload_n hx hb dX6_picture_33 rfl (lv_at hl 1 rfl) ?_
  refine lv_iload_n hx hb dX6_picture_34 rfl (lv_at hl 3 rfl) ?_
  refine ka_EV (n := 1) (wr := [(a3, .inr (0, [.ref a7, .ref a8, .int 0])), (a7, .inl (k0, 6, .inr (.inr (.inr (.inr (va_up (va_up (va_up (va_up (va_up (va_up (fun _ => none) 0 (some a9)) 1 (some a10)) 2 (some a11)) 3 (some a12)) 4 (some a13)) 5 (some a14))))))), (a10, .inr (2, [.ref a15, .ref a16, .int 0, .null]))]) C (ct_X6_readTape_46 l D a0 a1 a2 a3 a4 a5 a6) gX6_picture_X6_readTape rfl (by decide +kernel) ⟨Nat.le_of_ble_eq_true rfl, Nat.le_of_ble_eq_true rfl⟩ hK hP hD hS hA hE hN [0, 1, 2] rfl (by decide) [3, 4, 5] rfl (by decide) (by decide) [] rfl (ci := 6) rfl rfl 0 rfl rfl hl.1 (rest := []) rfl (Nat.le_of_ble_eq_true rfl) dX6_picture_35 ⟨Nat.le_of_ble_eq_true rfl, Nat.le_of_ble_eq_true rfl⟩ (fun u H locs _ hP hD hK hS => ?_)
  have hP : va_P D vwCl [(a3, .inr (0, [.ref a7, .ref a8, .int 0])), (a7, .inl (k0, 6, .inr (.inr (.inr (.inr (va_up (va_up (va_up (va_up (va_up (va_up (fun _ => none) 0 (some a9)) 1 (some a10)) 2 (some a11)) 3 (some a12)) 4 (some a13)) 5 (some a14))))))), (a10, .inr (2, [.ref a15, .ref a16, .int 0, .null])), (a0, .inr (6, [.ref a1, .ref a2, .ref a3, .ref a4, .int (-1), .int 0, .int 0, .int 3, .int 3])), (a2, .inr (3, [.ref a1, .ref a6, .int 0, .int 0, .int 0, .int 0, .int 3, .int 0])), (a1, .inr (5, [.ref a5, .int 0]))] H := hP
  have hD : va_D A [(a3, .inr (0, [.ref a7, .ref a8, .int 0])), (a7, .inl (k0, 6, .inr (.inr (.inr (.inr (va_up (va_up (va_up (va_up (va_up (va_up (fun _ => none) 0 (some a9)) 1 (some a10)) 2 (some a11)) 3 (some a12)) 4 (some a13)) 5 (some a14))))))), (a10, .inr (2, [.ref a15, .ref a16, .int 0, .null])), (a0, .inr (6, [.ref a1, .ref a2, .ref a3, .ref a4, .int (-1), .int 0, .int 0, .int 3, .int 3])), (a2, .inr (3, [.ref a1, .ref a6, .int 0, .int 0, .int 0, .int 0, .int 3, .int 0])), (a1, .inr (5, [.ref a5, .int 0]))] := hD
  have hK : va_K D vwCl [(k0, .object RX2)] s := hK
  refine ka_stk (w := [.int 0]) rfl ?_
  refine lv_if_eq (tgt := 55) hx hb dX6_picture_38 (by decide) (fun _ => ?_) (fun c_ => absurd (by decide) c_)
  refine lv_iconst (v := (-1)) hx hb dX6_picture_55 (by decide) ?_
  exact ka_rEi C hr hlk (Nat.le_of_ble_eq_true rfl) (Nat.le_of_ble_eq_true rfl) hS (ka_qE () rfl trivial hK hP hD hS [] (by decide) rfl [] rfl) dX6_picture_56
set_option maxHeartbeats 4000000 in
set_option maxRecDepth 100000 in
theorem ct_X7_picture_143 (l : Launch) (D : va_G) (a0 : Nat) (a1 : Nat) (a2 : Nat) (a3 : Nat) (a4 : Nat) (a5 : Nat) (a6 : Nat) (a7 : Nat) (a8 : Nat) (a9 : Nat) (a10 : Nat) (a11 : Nat) (a12 : Nat) (a13 : Nat) (a14 : Nat) (k0 : ClassId) (k1 : ClassId) : ka_E (S := Unit) l D yX7_picture wsX7_picture 6 137 0 0 [.ref a0, .int 1, .int 0] [(a0, .inr (7, [.ref a1, .int 0, .ref a2, .ref a3, .ref a4, .ref a5, .ref a6, .ref a7, .ref a8, .int (-1), .int 0, .int 3, .int 3, .int 0, .int 0, .int 0, .ref a9, .ref a10, .ref a11, .ref a12, .ref a13, .ref a14, .int 0, .int 0, .int 0, .int 0, .int (-1), .int 0])), (a6, .inl (k0, 6, .inl (fun _ => 0))), (a8, .inl (k1, 6, .inl (fun _ => 0)))] [(k0, .boolean), (k1, .int)] (fun u => some (.int (-1))) (fun _ => True) (fun u => []) (fun u => []) := by
  refine ka_E_of (cc := cX7_picture) (maxL := 3) (ret := (some .int)) (by decide) rfl (Nat.le_of_ble_eq_true rfl) ?_
  intro p e s m below meth c ls A C hr hlk hin hP hK hD hS hA hE hN hl
  have C : CallFix p m c cX7_picture 3 s [.ref a0, .int 1, .int 0].toArray wsX7_picture RX7 := C
  obtain ⟨hx, hb, hml, hown, hts⟩ := id C
  have hl : lv_has ls 3 [(0, .ref a0), (1, .int 1), (2, .int 0)] := hl
  refine lv_aload_n hx hb dX7_picture_0 rfl (lv_at hl 0 rfl) ?_
  refine lv_iload_n hx hb dX7_picture_1 rfl (lv_at hl 1 rfl) ?_
  refine lv_iload_n hx hb dX7_picture_2 rfl (lv_at hl 2 rfl) ?_
  refine ka_RV (n := 2) C (ct_X7_isOpenFor_100 l D a0 a1 a2 a3 a4 a5 a6 a7 a8 a9 a10 a11 a12 a13 a14 k0) gX7_picture_X7_isOpenFor rfl (by decide +kernel) ⟨Nat.le_of_ble_eq_true rfl, Nat.le_of_ble_eq_true rfl⟩ hK hP hS hE hN [0, 1] rfl [0] rfl (ci := 7) rfl rfl 0 rfl rfl hl.1 (rest := []) rfl (Nat.le_of_ble_eq_true rfl) dX7_picture_3 ⟨Nat.le_of_ble_eq_true rfl, Nat.le_of_ble_eq_true rfl⟩ (fun v hv => ?_)
  subst hv
  refine ka_stk (w := [.int 1]) rfl ?_
  refine lv_if_eq (tgt := 20) hx hb dX7_picture_6 (by decide) (fun c_ => absurd c_ (by decide)) (fun _ => ?_)
  refine lv_aload_n hx hb dX7_picture_9 rfl (lv_at hl 0 rfl) ?_
  refine ka_get C lq_217 rfl hK hP 0 rfl 8 (by decide) lq_218 rfl dX7_picture_10 ?_
  refine lv_iload_n hx hb dX7_picture_13 rfl (lv_at hl 1 rfl) ?_
  refine va_iald hx hb hK hP 2 1 rfl rfl (ka_in (by decide) (by decide)) dX7_picture_14 ?_
  refine ka_top (w := .int 0) rfl ?_
  refine lv_bipush (v := 12) hx hb dX7_picture_15 (by decide) ?_
  refine lv_icmp_ne (tgt := 23) hx hb dX7_picture_17 (by decide) (fun _ => ?_) (fun c_ => absurd c_ (by decide))
  refine lv_aload_n hx hb dX7_picture_23 rfl (lv_at hl 0 rfl) ?_
  refine lv_iload_n hx hb dX7_picture_24 rfl (lv_at hl 2 rfl) ?_
  refine ka_EV (n := 1) (wr := [(a6, .inl (k0, 6, .inl (fun _ => 0))), (a8, .inl (k1, 6, .inl (fun _ => 0)))]) C (ct_X7_reads_93 l D a0 a1 a2 a3 a4 a5 a6 a7 a8 a9 a10 a11 a12 a13 a14) gX7_picture_X7_reads rfl (by decide +kernel) ⟨Nat.le_of_ble_eq_true rfl, Nat.le_of_ble_eq_true rfl⟩ hK hP hD hS hA hE hN [0] rfl (by decide) [1, 2] rfl (by decide) (by decide) [] rfl (ci := 7) rfl rfl 0 rfl rfl hl.1 (rest := []) rfl (Nat.le_of_ble_eq_true rfl) dX7_picture_25 ⟨Nat.le_of_ble_eq_true rfl, Nat.le_of_ble_eq_true rfl⟩ (fun u H locs _ hP hD hK hS => ?_)
  have hP : va_P D vwCl [(a6, .inl (k0, 6, .inl (fun _ => 0))), (a8, .inl (k1, 6, .inl (fun _ => 0))), (a0, .inr (7, [.ref a1, .int 0, .ref a2, .ref a3, .ref a4, .ref a5, .ref a6, .ref a7, .ref a8, .int (-1), .int 0, .int 3, .int 3, .int 0, .int 0, .int 0, .ref a9, .ref a10, .ref a11, .ref a12, .ref a13, .ref a14, .int 0, .int 0, .int 0, .int 0, .int 0, .int 1]))] H := hP
  have hD : va_D A [(a6, .inl (k0, 6, .inl (fun _ => 0))), (a8, .inl (k1, 6, .inl (fun _ => 0))), (a0, .inr (7, [.ref a1, .int 0, .ref a2, .ref a3, .ref a4, .ref a5, .ref a6, .ref a7, .ref a8, .int (-1), .int 0, .int 3, .int 3, .int 0, .int 0, .int 0, .ref a9, .ref a10, .ref a11, .ref a12, .ref a13, .ref a14, .int 0, .int 0, .int 0, .int 0, .int 0, .int 1]))] := hD
  have hK : va_K D vwCl [(k0, .boolean), (k1, .int)] s := hK
  refine ka_stk (w := [.int 0]) rfl ?_
  refine lv_if_ne (tgt := 33) hx hb dX7_picture_28 (by decide) (fun c_ => absurd (by decide) c_) (fun _ => ?_)
  refine lv_iconst (v := (-1)) hx hb dX7_picture_31 (by decide) ?_
  exact ka_rEi C hr hlk (Nat.le_of_ble_eq_true rfl) (Nat.le_of_ble_eq_true rfl) hS (ka_qE () rfl trivial hK hP hD hS [] (by decide) rfl [] rfl) dX7_picture_32
set_option maxHeartbeats 4000000 in
set_option maxRecDepth 100000 in
theorem ct_X6_picture_144 (l : Launch) (D : va_G) (a0 : Nat) (x0 : Int32) (a1 : Nat) (a2 : Nat) (a3 : Nat) (a4 : Nat) (a5 : Nat) (a6 : Nat) (a7 : Nat) (k0 : ClassId) (a8 : Nat) (a9 : Nat) (a10 : Nat) (a11 : Nat) (a12 : Nat) (a13 : Nat) (a14 : Nat) (a15 : Nat) (hx0 : 1 ≤ x0.toInt) : ka_R l D yX6_picture wsX6_picture 3 63 [.ref a0, .int 1, .int x0] [(a0, .inr (6, [.ref a1, .ref a2, .ref a3, .ref a4, .int (-1), .int (-1), .int 0, .int 3, .int 3])), (a1, .inr (5, [.ref a5, .int 0])), (a3, .inr (0, [.ref a6, .ref a7, .int 0])), (a6, .inl (k0, 6, .inr (.inr (.inr (.inr (va_up (va_up (va_up (va_up (va_up (va_up (fun _ => none) 0 (some a8)) 1 (some a9)) 2 (some a10)) 3 (some a11)) 4 (some a12)) 5 (some a13))))))), (a9, .inr (2, [.ref a14, .ref a15, .int 0, .null]))] [(k0, .object RX2)] (fun v => v = some (.int (-2))) := by
  refine ka_R_of (cc := cX6_picture) (maxL := 4) (ret := (some .int)) (by decide) rfl (Nat.le_of_ble_eq_true rfl) ?_
  intro p e s m below meth c ls C hr hlk hP hK hE hN hl
  have hS : va_S (fun _ => False) s.heap s.heap [] := va_S.rf
  have C : CallFix p m c cX6_picture 4 s [.ref a0, .int 1, .int x0].toArray wsX6_picture RX6 := C
  obtain ⟨hx, hb, hml, hown, hts⟩ := id C
  have hl : lv_has ls 4 [(0, .ref a0), (1, .int 1), (2, .int x0)] := hl
  have rx0 := ka_rng x0
  refine lv_aload_n hx hb dX6_picture_0 rfl (lv_at hl 0 rfl) ?_
  refine lv_iload_n hx hb dX6_picture_1 rfl (lv_at hl 1 rfl) ?_
  refine ka_RV (n := 1) C (ct_X6_changeable_51 l D a0 a1 a2 a3 a4 a6 a7 k0 a8 a9 a10 a11 a12 a13) gX6_picture_X6_changeable rfl (by decide +kernel) ⟨Nat.le_of_ble_eq_true rfl, Nat.le_of_ble_eq_true rfl⟩ hK hP hS hE hN [0, 2, 3] rfl [0] rfl (ci := 6) rfl rfl 0 rfl rfl hl.1 (rest := []) rfl (Nat.le_of_ble_eq_true rfl) dX6_picture_2 ⟨Nat.le_of_ble_eq_true rfl, Nat.le_of_ble_eq_true rfl⟩ (fun v hv => ?_)
  subst hv
  refine ka_stk (w := [.ref a9]) rfl ?_
  refine lv_astore_n (lv' := [(3, .ref a9), (0, .ref a0), (1, .int 1), (2, .int x0)]) hx hb dX6_picture_5 rfl hl (by decide) rfl (fun ls hl => ?_)
  refine lv_aload_n hx hb dX6_picture_6 rfl (lv_at hl 0 rfl) ?_
  refine lv_ifnull hx hb dX6_picture_7 ?_
  refine lv_aload_n hx hb dX6_picture_10 rfl (lv_at hl 0 rfl) ?_
  refine ka_get C lq_213 rfl hK hP 4 rfl 2 (by decide) lq_214 rfl dX6_picture_11 ?_
  refine lv_bipush (v := 12) hx hb dX6_picture_14 (by decide) ?_
  refine lv_icmp_ge (tgt := 30) hx hb dX6_picture_16 (by decide) (fun c_ => absurd c_ (by decide)) (fun _ => ?_)
  refine lv_aload_n hx hb dX6_picture_19 rfl (lv_at hl 1 rfl) ?_
  refine ka_get C lq_215 rfl hK hP 0 rfl 0 (by decide) lq_216 rfl dX6_picture_20 ?_
  refine lv_iload_n hx hb dX6_picture_23 rfl (lv_at hl 3 rfl) ?_
  refine ka_RV (n := 1) C (ct_X5_offers_47 l D a1 x0 a5 (by omega)) gX6_picture_X5_offers rfl (by decide +kernel) ⟨Nat.le_of_ble_eq_true rfl, Nat.le_of_ble_eq_true rfl⟩ hK hP hS hE hN [1] rfl [] rfl (ci := 5) rfl rfl 1 rfl rfl hl.1 (rest := []) rfl (Nat.le_of_ble_eq_true rfl) dX6_picture_24 ⟨Nat.le_of_ble_eq_true rfl, Nat.le_of_ble_eq_true rfl⟩ (fun v hv => ?_)
  subst hv
  refine ka_stk (w := [.int 0]) rfl ?_
  refine lv_if_ne (tgt := 33) hx hb dX6_picture_27 (by decide) (fun c_ => absurd (by decide) c_) (fun _ => ?_)
  refine lv_bipush (v := (-2)) hx hb dX6_picture_30 (by decide) ?_
  exact ka_rRi C hr hlk rfl dX6_picture_32
set_option maxHeartbeats 4000000 in
set_option maxRecDepth 100000 in
theorem ct_X7_picture_145 (l : Launch) (D : va_G) (a0 : Nat) (x0 : Int32) (a1 : Nat) (a2 : Nat) (a3 : Nat) (a4 : Nat) (a5 : Nat) (a6 : Nat) (a7 : Nat) (a8 : Nat) (a9 : Nat) (a10 : Nat) (a11 : Nat) (a12 : Nat) (a13 : Nat) (a14 : Nat) (k0 : ClassId) (hx0 : 1 ≤ x0.toInt) : ka_R l D yX7_picture wsX7_picture 3 65 [.ref a0, .int 1, .int x0] [(a0, .inr (7, [.ref a1, .int 0, .ref a2, .ref a3, .ref a4, .ref a5, .ref a6, .ref a7, .ref a8, .int (-1), .int 0, .int 3, .int 3, .int 0, .int 0, .int 0, .ref a9, .ref a10, .ref a11, .ref a12, .ref a13, .ref a14, .int 0, .int 0, .int 0, .int 0, .int (-1), .int 0])), (a6, .inl (k0, 6, .inl (fun _ => 0)))] [(k0, .boolean)] (fun v => v = some (.int (-2))) := by
  refine ka_R_of (cc := cX7_picture) (maxL := 3) (ret := (some .int)) (by decide) rfl (Nat.le_of_ble_eq_true rfl) ?_
  intro p e s m below meth c ls C hr hlk hP hK hE hN hl
  have hS : va_S (fun _ => False) s.heap s.heap [] := va_S.rf
  have C : CallFix p m c cX7_picture 3 s [.ref a0, .int 1, .int x0].toArray wsX7_picture RX7 := C
  obtain ⟨hx, hb, hml, hown, hts⟩ := id C
  have hl : lv_has ls 3 [(0, .ref a0), (1, .int 1), (2, .int x0)] := hl
  have rx0 := ka_rng x0
  refine lv_aload_n hx hb dX7_picture_0 rfl (lv_at hl 0 rfl) ?_
  refine lv_iload_n hx hb dX7_picture_1 rfl (lv_at hl 1 rfl) ?_
  refine lv_iload_n hx hb dX7_picture_2 rfl (lv_at hl 2 rfl) ?_
  refine ka_RV (n := 2) C (ct_X7_isOpenFor_101 l D a0 x0 a1 a2 a3 a4 a5 a6 a7 a8 a9 a10 a11 a12 a13 a14 k0 (by omega)) gX7_picture_X7_isOpenFor rfl (by decide +kernel) ⟨Nat.le_of_ble_eq_true rfl, Nat.le_of_ble_eq_true rfl⟩ hK hP hS hE hN [0, 1] rfl [0] rfl (ci := 7) rfl rfl 0 rfl rfl hl.1 (rest := []) rfl (Nat.le_of_ble_eq_true rfl) dX7_picture_3 ⟨Nat.le_of_ble_eq_true rfl, Nat.le_of_ble_eq_true rfl⟩ (fun v hv => ?_)
  subst hv
  refine ka_stk (w := [.int 0]) rfl ?_
  refine lv_if_eq (tgt := 20) hx hb dX7_picture_6 (by decide) (fun _ => ?_) (fun c_ => absurd (by decide) c_)
  refine lv_bipush (v := (-2)) hx hb dX7_picture_20 (by decide) ?_
  exact ka_rRi C hr hlk rfl dX7_picture_22
set_option maxHeartbeats 4000000 in
set_option maxRecDepth 100000 in
theorem ct_X6_picture_146 (l : Launch) (D : va_G) (a0 : Nat) (x0 : Int32) (a1 : Nat) (a2 : Nat) (a3 : Nat) (a4 : Nat) (a5 : Nat) (a6 : Nat) (a7 : Nat) (k0 : ClassId) (a8 : Nat) (a9 : Nat) (a10 : Nat) (a11 : Nat) (a12 : Nat) (a13 : Nat) (a14 : Nat) (a15 : Nat) (hx0 : x0.toInt ≤ -1) : ka_R l D yX6_picture wsX6_picture 3 63 [.ref a0, .int 2, .int x0] [(a0, .inr (6, [.ref a1, .ref a2, .ref a3, .ref a4, .int (-1), .int (-1), .int 0, .int 3, .int 3])), (a1, .inr (5, [.ref a5, .int 0])), (a3, .inr (0, [.ref a6, .ref a7, .int 0])), (a6, .inl (k0, 6, .inr (.inr (.inr (.inr (va_up (va_up (va_up (va_up (va_up (va_up (fun _ => none) 0 (some a8)) 1 (some a9)) 2 (some a10)) 3 (some a11)) 4 (some a12)) 5 (some a13))))))), (a10, .inr (2, [.ref a14, .ref a15, .int 0, .null]))] [(k0, .object RX2)] (fun v => v = some (.int (-2))) := by
  refine ka_R_of (cc := cX6_picture) (maxL := 4) (ret := (some .int)) (by decide) rfl (Nat.le_of_ble_eq_true rfl) ?_
  intro p e s m below meth c ls C hr hlk hP hK hE hN hl
  have hS : va_S (fun _ => False) s.heap s.heap [] := va_S.rf
  have C : CallFix p m c cX6_picture 4 s [.ref a0, .int 2, .int x0].toArray wsX6_picture RX6 := C
  obtain ⟨hx, hb, hml, hown, hts⟩ := id C
  have hl : lv_has ls 4 [(0, .ref a0), (1, .int 2), (2, .int x0)] := hl
  have rx0 := ka_rng x0
  refine lv_aload_n hx hb dX6_picture_0 rfl (lv_at hl 0 rfl) ?_
  refine lv_iload_n hx hb dX6_picture_1 rfl (lv_at hl 1 rfl) ?_
  refine ka_RV (n := 1) C (ct_X6_changeable_55 l D a0 a1 a2 a3 a4 a6 a7 k0 a8 a9 a10 a11 a12 a13) gX6_picture_X6_changeable rfl (by decide +kernel) ⟨Nat.le_of_ble_eq_true rfl, Nat.le_of_ble_eq_true rfl⟩ hK hP hS hE hN [0, 2, 3] rfl [0] rfl (ci := 6) rfl rfl 0 rfl rfl hl.1 (rest := []) rfl (Nat.le_of_ble_eq_true rfl) dX6_picture_2 ⟨Nat.le_of_ble_eq_true rfl, Nat.le_of_ble_eq_true rfl⟩ (fun v hv => ?_)
  subst hv
  refine ka_stk (w := [.ref a10]) rfl ?_
  refine lv_astore_n (lv' := [(3, .ref a10), (0, .ref a0), (1, .int 2), (2, .int x0)]) hx hb dX6_picture_5 rfl hl (by decide) rfl (fun ls hl => ?_)
  refine lv_aload_n hx hb dX6_picture_6 rfl (lv_at hl 0 rfl) ?_
  refine lv_ifnull hx hb dX6_picture_7 ?_
  refine lv_aload_n hx hb dX6_picture_10 rfl (lv_at hl 0 rfl) ?_
  refine ka_get C lq_213 rfl hK hP 4 rfl 2 (by decide) lq_214 rfl dX6_picture_11 ?_
  refine lv_bipush (v := 12) hx hb dX6_picture_14 (by decide) ?_
  refine lv_icmp_ge (tgt := 30) hx hb dX6_picture_16 (by decide) (fun c_ => absurd c_ (by decide)) (fun _ => ?_)
  refine lv_aload_n hx hb dX6_picture_19 rfl (lv_at hl 1 rfl) ?_
  refine ka_get C lq_215 rfl hK hP 0 rfl 0 (by decide) lq_216 rfl dX6_picture_20 ?_
  refine lv_iload_n hx hb dX6_picture_23 rfl (lv_at hl 3 rfl) ?_
  refine ka_RV (n := 1) C (ct_X5_offers_28 l D a1 x0 (by omega)) gX6_picture_X5_offers rfl (by decide +kernel) ⟨Nat.le_of_ble_eq_true rfl, Nat.le_of_ble_eq_true rfl⟩ hK hP hS hE hN [] rfl [] rfl (ci := 5) rfl rfl 1 rfl rfl hl.1 (rest := []) rfl (Nat.le_of_ble_eq_true rfl) dX6_picture_24 ⟨Nat.le_of_ble_eq_true rfl, Nat.le_of_ble_eq_true rfl⟩ (fun v hv => ?_)
  subst hv
  refine ka_stk (w := [.int 0]) rfl ?_
  refine lv_if_ne (tgt := 33) hx hb dX6_picture_27 (by decide) (fun c_ => absurd (by decide) c_) (fun _ => ?_)
  refine lv_bipush (v := (-2)) hx hb dX6_picture_30 (by decide) ?_
  exact ka_rRi C hr hlk rfl dX6_picture_32
set_option maxHeartbeats 4000000 in
set_option maxRecDepth 100000 in
theorem ct_X7_picture_147 (l : Launch) (D : va_G) (a0 : Nat) (x0 : Int32) (a1 : Nat) (a2 : Nat) (a3 : Nat) (a4 : Nat) (a5 : Nat) (a6 : Nat) (a7 : Nat) (a8 : Nat) (a9 : Nat) (a10 : Nat) (a11 : Nat) (a12 : Nat) (a13 : Nat) (a14 : Nat) (k0 : ClassId) (hx0 : x0.toInt ≤ -1) : ka_R l D yX7_picture wsX7_picture 3 65 [.ref a0, .int 2, .int x0] [(a0, .inr (7, [.ref a1, .int 0, .ref a2, .ref a3, .ref a4, .ref a5, .ref a6, .ref a7, .ref a8, .int (-1), .int 0, .int 3, .int 3, .int 0, .int 0, .int 0, .ref a9, .ref a10, .ref a11, .ref a12, .ref a13, .ref a14, .int 0, .int 0, .int 0, .int 0, .int (-1), .int 0])), (a6, .inl (k0, 6, .inl (fun _ => 0)))] [(k0, .boolean)] (fun v => v = some (.int (-2))) := by
  refine ka_R_of (cc := cX7_picture) (maxL := 3) (ret := (some .int)) (by decide) rfl (Nat.le_of_ble_eq_true rfl) ?_
  intro p e s m below meth c ls C hr hlk hP hK hE hN hl
  have hS : va_S (fun _ => False) s.heap s.heap [] := va_S.rf
  have C : CallFix p m c cX7_picture 3 s [.ref a0, .int 2, .int x0].toArray wsX7_picture RX7 := C
  obtain ⟨hx, hb, hml, hown, hts⟩ := id C
  have hl : lv_has ls 3 [(0, .ref a0), (1, .int 2), (2, .int x0)] := hl
  have rx0 := ka_rng x0
  refine lv_aload_n hx hb dX7_picture_0 rfl (lv_at hl 0 rfl) ?_
  refine lv_iload_n hx hb dX7_picture_1 rfl (lv_at hl 1 rfl) ?_
  refine lv_iload_n hx hb dX7_picture_2 rfl (lv_at hl 2 rfl) ?_
  refine ka_RV (n := 2) C (ct_X7_isOpenFor_104 l D a0 x0 a1 a2 a3 a4 a5 a6 a7 a8 a9 a10 a11 a12 a13 a14 k0 (by omega)) gX7_picture_X7_isOpenFor rfl (by decide +kernel) ⟨Nat.le_of_ble_eq_true rfl, Nat.le_of_ble_eq_true rfl⟩ hK hP hS hE hN [0, 1] rfl [0] rfl (ci := 7) rfl rfl 0 rfl rfl hl.1 (rest := []) rfl (Nat.le_of_ble_eq_true rfl) dX7_picture_3 ⟨Nat.le_of_ble_eq_true rfl, Nat.le_of_ble_eq_true rfl⟩ (fun v hv => ?_)
  subst hv
  refine ka_stk (w := [.int 0]) rfl ?_
  refine lv_if_eq (tgt := 20) hx hb dX7_picture_6 (by decide) (fun _ => ?_) (fun c_ => absurd (by decide) c_)
  refine lv_bipush (v := (-2)) hx hb dX7_picture_20 (by decide) ?_
  exact ka_rRi C hr hlk rfl dX7_picture_22
set_option maxHeartbeats 4000000 in
set_option maxRecDepth 100000 in
theorem ct_X6_picture_148 (l : Launch) (D : va_G) (a0 : Nat) (a1 : Nat) (a2 : Nat) (a3 : Nat) (a4 : Nat) (a5 : Nat) (a6 : Nat) (a7 : Nat) (a8 : Nat) (k0 : ClassId) (a9 : Nat) (a10 : Nat) (a11 : Nat) (a12 : Nat) (a13 : Nat) (a14 : Nat) (a15 : Nat) (a16 : Nat) : ka_E (S := Unit) l D yX6_picture wsX6_picture 11 256 0 0 [.ref a0, .int 2, .int 0] [(a0, .inr (6, [.ref a1, .ref a2, .ref a3, .ref a4, .int (-1), .int (-1), .int 0, .int 3, .int 3])), (a1, .inr (5, [.ref a5, .int 0])), (a2, .inr (3, [.ref a1, .ref a6, .int 0, .int 0, .int 0, .int (-1), .int 3, .int 0])), (a3, .inr (0, [.ref a7, .ref a8, .int 0])), (a7, .inl (k0, 6, .inr (.inr (.inr (.inr (va_up (va_up (va_up (va_up (va_up (va_up (fun _ => none) 0 (some a9)) 1 (some a10)) 2 (some a11)) 3 (some a12)) 4 (some a13)) 5 (some a14))))))), (a11, .inr (2, [.ref a15, .ref a16, .int 0, .null]))] [(k0, .object RX2)] (fun u => some (.int (-1))) (fun _ => True) (fun u => []) (fun u => []) := by
  refine ka_E_of (cc := cX6_picture) (maxL := 4) (ret := (some .int)) (by decide) rfl (Nat.le_of_ble_eq_true rfl) ?_
  intro p e s m below meth c ls A C hr hlk hin hP hK hD hS hA hE hN hl
  have C : CallFix p m c cX6_picture 4 s [.ref a0, .int 2, .int 0].toArray wsX6_picture RX6 := C
  obtain ⟨hx, hb, hml, hown, hts⟩ := id C
  have hl : lv_has ls 4 [(0, .ref a0), (1, .int 2), (2, .int 0)] := hl
  refine lv_aload_n hx hb dX6_picture_0 rfl (lv_at hl 0 rfl) ?_
  refine lv_iload_n hx hb dX6_picture_1 rfl (lv_at hl 1 rfl) ?_
  refine ka_RV (n := 1) C (ct_X6_changeable_55 l D a0 a1 a2 a3 a4 a7 a8 k0 a9 a10 a11 a12 a13 a14) gX6_picture_X6_changeable rfl (by decide +kernel) ⟨Nat.le_of_ble_eq_true rfl, Nat.le_of_ble_eq_true rfl⟩ hK hP hS hE hN [0, 3, 4] rfl [0] rfl (ci := 6) rfl rfl 0 rfl rfl hl.1 (rest := []) rfl (Nat.le_of_ble_eq_true rfl) dX6_picture_2 ⟨Nat.le_of_ble_eq_true rfl, Nat.le_of_ble_eq_true rfl⟩ (fun v hv => ?_)
  subst hv
  refine ka_stk (w := [.ref a11]) rfl ?_
  refine lv_astore_n (lv' := [(3, .ref a11), (0, .ref a0), (1, .int 2), (2, .int 0)]) hx hb dX6_picture_5 rfl hl (by decide) rfl (fun ls hl => ?_)
  refine lv_aload_n hx hb dX6_picture_6 rfl (lv_at hl 0 rfl) ?_
  refine lv_ifnull hx hb dX6_picture_7 ?_
  refine lv_aload_n hx hb dX6_picture_10 rfl (lv_at hl 0 rfl) ?_
  refine ka_get C lq_213 rfl hK hP 5 rfl 2 (by decide) lq_214 rfl dX6_picture_11 ?_
  refine lv_bipush (v := 12) hx hb dX6_picture_14 (by decide) ?_
  refine lv_icmp_ge (tgt := 30) hx hb dX6_picture_16 (by decide) (fun c_ => absurd c_ (by decide)) (fun _ => ?_)
  refine lv_aload_n hx hb dX6_picture_19 rfl (lv_at hl 1 rfl) ?_
  refine ka_get C lq_215 rfl hK hP 0 rfl 0 (by decide) lq_216 rfl dX6_picture_20 ?_
  refine lv_iload_n hx hb dX6_picture_23 rfl (lv_at hl 3 rfl) ?_
  refine ka_RV (n := 1) C (ct_X5_offers_29 l D a1 a5) gX6_picture_X5_offers rfl (by decide +kernel) ⟨Nat.le_of_ble_eq_true rfl, Nat.le_of_ble_eq_true rfl⟩ hK hP hS hE hN [1] rfl [] rfl (ci := 5) rfl rfl 1 rfl rfl hl.1 (rest := []) rfl (Nat.le_of_ble_eq_true rfl) dX6_picture_24 ⟨Nat.le_of_ble_eq_true rfl, Nat.le_of_ble_eq_true rfl⟩ (fun v hv => ?_)
  subst hv
  refine ka_stk (w := [.int 1]) rfl ?_
  refine lv_if_ne (tgt := 33) hx hb dX6_picture_27 (by decide) (fun _ => ?_) (fun c_ => absurd c_ (by decide))
  refine lv_aload_n hx hb dX6_picture_33 rfl (lv_at hl 1 rfl) ?_
  refine lv_iload_n hx hb dX6_picture_34 rfl (lv_at hl 3 rfl) ?_
  refine ka_EV (n := 1) (wr := [(a3, .inr (0, [.ref a7, .ref a8, .int 0])), (a7, .inl (k0, 6, .inr (.inr (.inr (.inr (va_up (va_up (va_up (va_up (va_up (va_up (fun _ => none) 0 (some a9)) 1 (some a10)) 2 (some a11)) 3 (some a12)) 4 (some a13)) 5 (some a14))))))), (a11, .inr (2, [.ref a15, .ref a16, .int 0, .null]))]) C (ct_X6_readTape_46 l D a0 a1 a2 a3 a4 a5 a6) gX6_picture_X6_readTape rfl (by decide +kernel) ⟨Nat.le_of_ble_eq_true rfl, Nat.le_of_ble_eq_true rfl⟩ hK hP hD hS hA hE hN [0, 1, 2] rfl (by decide) [3, 4, 5] rfl (by decide) (by decide) [] rfl (ci := 6) rfl rfl 0 rfl rfl hl.1 (rest := []) rfl (Nat.le_of_ble_eq_true rfl) dX6_picture_35 ⟨Nat.le_of_ble_eq_true rfl, Nat.le_of_ble_eq_true rfl⟩ (fun u H locs _ hP hD hK hS => ?_)
  have hP : va_P D vwCl [(a3, .inr (0, [.ref a7, .ref a8, .int 0])), (a7, .inl (k0, 6, .inr (.inr (.inr (.inr (va_up (va_up (va_up (va_up (va_up (va_up (fun _ => none) 0 (some a9)) 1 (some a10)) 2 (some a11)) 3 (some a12)) 4 (some a13)) 5 (some a14))))))), (a11, .inr (2, [.ref a15, .ref a16, .int 0, .null])), (a0, .inr (6, [.ref a1, .ref a2, .ref a3, .ref a4, .int (-1), .int 0, .int 0, .int 3, .int 3])), (a2, .inr (3, [.ref a1, .ref a6, .int 0, .int 0, .int 0, .int 0, .int 3, .int 0])), (a1, .inr (5, [.ref a5, .int 0]))] H := hP
  have hD : va_D A [(a3, .inr (0, [.ref a7, .ref a8, .int 0])), (a7, .inl (k0, 6, .inr (.inr (.inr (.inr (va_up (va_up (va_up (va_up (va_up (va_up (fun _ => none) 0 (some a9)) 1 (some a10)) 2 (some a11)) 3 (some a12)) 4 (some a13)) 5 (some a14))))))), (a11, .inr (2, [.ref a15, .ref a16, .int 0, .null])), (a0, .inr (6, [.ref a1, .ref a2, .ref a3, .ref a4, .int (-1), .int 0, .int 0, .int 3, .int 3])), (a2, .inr (3, [.ref a1, .ref a6, .int 0, .int 0, .int 0, .int 0, .int 3, .int 0])), (a1, .inr (5, [.ref a5, .int 0]))] := hD
  have hK : va_K D vwCl [(k0, .object RX2)] s := hK
  refine ka_stk (w := [.int 0]) rfl ?_
  refine lv_if_eq (tgt := 55) hx hb dX6_picture_38 (by decide) (fun _ => ?_) (fun c_ => absurd (by decide) c_)
  refine lv_iconst (v := (-1)) hx hb dX6_picture_55 (by decide) ?_
  exact ka_rEi C hr hlk (Nat.le_of_ble_eq_true rfl) (Nat.le_of_ble_eq_true rfl) hS (ka_qE () rfl trivial hK hP hD hS [] (by decide) rfl [] rfl) dX6_picture_56
set_option maxHeartbeats 4000000 in
set_option maxRecDepth 100000 in
theorem ct_X7_picture_149 (l : Launch) (D : va_G) (a0 : Nat) (a1 : Nat) (a2 : Nat) (a3 : Nat) (a4 : Nat) (a5 : Nat) (a6 : Nat) (a7 : Nat) (a8 : Nat) (a9 : Nat) (a10 : Nat) (a11 : Nat) (a12 : Nat) (a13 : Nat) (a14 : Nat) (k0 : ClassId) (k1 : ClassId) : ka_E (S := Unit) l D yX7_picture wsX7_picture 6 137 0 0 [.ref a0, .int 2, .int 0] [(a0, .inr (7, [.ref a1, .int 0, .ref a2, .ref a3, .ref a4, .ref a5, .ref a6, .ref a7, .ref a8, .int (-1), .int 0, .int 3, .int 3, .int 0, .int 0, .int 0, .ref a9, .ref a10, .ref a11, .ref a12, .ref a13, .ref a14, .int 0, .int 0, .int 0, .int 0, .int (-1), .int 0])), (a6, .inl (k0, 6, .inl (fun _ => 0))), (a8, .inl (k1, 6, .inl (fun _ => 0)))] [(k0, .boolean), (k1, .int)] (fun u => some (.int (-1))) (fun _ => True) (fun u => []) (fun u => []) := by
  refine ka_E_of (cc := cX7_picture) (maxL := 3) (ret := (some .int)) (by decide) rfl (Nat.le_of_ble_eq_true rfl) ?_
  intro p e s m below meth c ls A C hr hlk hin hP hK hD hS hA hE hN hl
  have C : CallFix p m c cX7_picture 3 s [.ref a0, .int 2, .int 0].toArray wsX7_picture RX7 := C
  obtain ⟨hx, hb, hml, hown, hts⟩ := id C
  have hl : lv_has ls 3 [(0, .ref a0), (1, .int 2), (2, .int 0)] := hl
  refine lv_aload_n hx hb dX7_picture_0 rfl (lv_at hl 0 rfl) ?_
  refine lv_iload_n hx hb dX7_picture_1 rfl (lv_at hl 1 rfl) ?_
  refine lv_iload_n hx hb dX7_picture_2 rfl (lv_at hl 2 rfl) ?_
  refine ka_RV (n := 2) C (ct_X7_isOpenFor_105 l D a0 a1 a2 a3 a4 a5 a6 a7 a8 a9 a10 a11 a12 a13 a14 k0) gX7_picture_X7_isOpenFor rfl (by decide +kernel) ⟨Nat.le_of_ble_eq_true rfl, Nat.le_of_ble_eq_true rfl⟩ hK hP hS hE hN [0, 1] rfl [0] rfl (ci := 7) rfl rfl 0 rfl rfl hl.1 (rest := []) rfl (Nat.le_of_ble_eq_true rfl) dX7_picture_3 ⟨Nat.le_of_ble_eq_true rfl, Nat.le_of_ble_eq_true rfl⟩ (fun v hv => ?_)
  subst hv
  refine ka_stk (w := [.int 1]) rfl ?_
  refine lv_if_eq (tgt := 20) hx hb dX7_picture_6 (by decide) (fun c_ => absurd c_ (by decide)) (fun _ => ?_)
  refine lv_aload_n hx hb dX7_picture_9 rfl (lv_at hl 0 rfl) ?_
  refine ka_get C lq_217 rfl hK hP 0 rfl 8 (by decide) lq_218 rfl dX7_picture_10 ?_
  refine lv_iload_n hx hb dX7_picture_13 rfl (lv_at hl 1 rfl) ?_
  refine va_iald hx hb hK hP 2 1 rfl rfl (ka_in (by decide) (by decide)) dX7_picture_14 ?_
  refine ka_top (w := .int 0) rfl ?_
  refine lv_bipush (v := 12) hx hb dX7_picture_15 (by decide) ?_
  refine lv_icmp_ne (tgt := 23) hx hb dX7_picture_17 (by decide) (fun _ => ?_) (fun c_ => absurd c_ (by decide))
  refine lv_aload_n hx hb dX7_picture_23 rfl (lv_at hl 0 rfl) ?_
  refine lv_iload_n hx hb dX7_picture_24 rfl (lv_at hl 2 rfl) ?_
  refine ka_EV (n := 1) (wr := [(a6, .inl (k0, 6, .inl (fun _ => 0))), (a8, .inl (k1, 6, .inl (fun _ => 0)))]) C (ct_X7_reads_93 l D a0 a1 a2 a3 a4 a5 a6 a7 a8 a9 a10 a11 a12 a13 a14) gX7_picture_X7_reads rfl (by decide +kernel) ⟨Nat.le_of_ble_eq_true rfl, Nat.le_of_ble_eq_true rfl⟩ hK hP hD hS hA hE hN [0] rfl (by decide) [1, 2] rfl (by decide) (by decide) [] rfl (ci := 7) rfl rfl 0 rfl rfl hl.1 (rest := []) rfl (Nat.le_of_ble_eq_true rfl) dX7_picture_25 ⟨Nat.le_of_ble_eq_true rfl, Nat.le_of_ble_eq_true rfl⟩ (fun u H locs _ hP hD hK hS => ?_)
  have hP : va_P D vwCl [(a6, .inl (k0, 6, .inl (fun _ => 0))), (a8, .inl (k1, 6, .inl (fun _ => 0))), (a0, .inr (7, [.ref a1, .int 0, .ref a2, .ref a3, .ref a4, .ref a5, .ref a6, .ref a7, .ref a8, .int (-1), .int 0, .int 3, .int 3, .int 0, .int 0, .int 0, .ref a9, .ref a10, .ref a11, .ref a12, .ref a13, .ref a14, .int 0, .int 0, .int 0, .int 0, .int 0, .int 1]))] H := hP
  have hD : va_D A [(a6, .inl (k0, 6, .inl (fun _ => 0))), (a8, .inl (k1, 6, .inl (fun _ => 0))), (a0, .inr (7, [.ref a1, .int 0, .ref a2, .ref a3, .ref a4, .ref a5, .ref a6, .ref a7, .ref a8, .int (-1), .int 0, .int 3, .int 3, .int 0, .int 0, .int 0, .ref a9, .ref a10, .ref a11, .ref a12, .ref a13, .ref a14, .int 0, .int 0, .int 0, .int 0, .int 0, .int 1]))] := hD
  have hK : va_K D vwCl [(k0, .boolean), (k1, .int)] s := hK
  refine ka_stk (w := [.int 0]) rfl ?_
  refine lv_if_ne (tgt := 33) hx hb dX7_picture_28 (by decide) (fun c_ => absurd (by decide) c_) (fun _ => ?_)
  refine lv_iconst (v := (-1)) hx hb dX7_picture_31 (by decide) ?_
  exact ka_rEi C hr hlk (Nat.le_of_ble_eq_true rfl) (Nat.le_of_ble_eq_true rfl) hS (ka_qE () rfl trivial hK hP hD hS [] (by decide) rfl [] rfl) dX7_picture_32
set_option maxHeartbeats 4000000 in
set_option maxRecDepth 100000 in
theorem ct_X6_picture_150 (l : Launch) (D : va_G) (a0 : Nat) (x0 : Int32) (a1 : Nat) (a2 : Nat) (a3 : Nat) (a4 : Nat) (a5 : Nat) (a6 : Nat) (a7 : Nat) (k0 : ClassId) (a8 : Nat) (a9 : Nat) (a10 : Nat) (a11 : Nat) (a12 : Nat) (a13 : Nat) (a14 : Nat) (a15 : Nat) (hx0 : 1 ≤ x0.toInt) : ka_R l D yX6_picture wsX6_picture 3 63 [.ref a0, .int 2, .int x0] [(a0, .inr (6, [.ref a1, .ref a2, .ref a3, .ref a4, .int (-1), .int (-1), .int 0, .int 3, .int 3])), (a1, .inr (5, [.ref a5, .int 0])), (a3, .inr (0, [.ref a6, .ref a7, .int 0])), (a6, .inl (k0, 6, .inr (.inr (.inr (.inr (va_up (va_up (va_up (va_up (va_up (va_up (fun _ => none) 0 (some a8)) 1 (some a9)) 2 (some a10)) 3 (some a11)) 4 (some a12)) 5 (some a13))))))), (a10, .inr (2, [.ref a14, .ref a15, .int 0, .null]))] [(k0, .object RX2)] (fun v => v = some (.int (-2))) := by
  refine ka_R_of (cc := cX6_picture) (maxL := 4) (ret := (some .int)) (by decide) rfl (Nat.le_of_ble_eq_true rfl) ?_
  intro p e s m below meth c ls C hr hlk hP hK hE hN hl
  have hS : va_S (fun _ => False) s.heap s.heap [] := va_S.rf
  have C : CallFix p m c cX6_picture 4 s [.ref a0, .int 2, .int x0].toArray wsX6_picture RX6 := C
  obtain ⟨hx, hb, hml, hown, hts⟩ := id C
  have hl : lv_has ls 4 [(0, .ref a0), (1, .int 2), (2, .int x0)] := hl
  have rx0 := ka_rng x0
  refine lv_aload_n hx hb dX6_picture_0 rfl (lv_at hl 0 rfl) ?_
  refine lv_iload_n hx hb dX6_picture_1 rfl (lv_at hl 1 rfl) ?_
  refine ka_RV (n := 1) C (ct_X6_changeable_55 l D a0 a1 a2 a3 a4 a6 a7 k0 a8 a9 a10 a11 a12 a13) gX6_picture_X6_changeable rfl (by decide +kernel) ⟨Nat.le_of_ble_eq_true rfl, Nat.le_of_ble_eq_true rfl⟩ hK hP hS hE hN [0, 2, 3] rfl [0] rfl (ci := 6) rfl rfl 0 rfl rfl hl.1 (rest := []) rfl (Nat.le_of_ble_eq_true rfl) dX6_picture_2 ⟨Nat.le_of_ble_eq_true rfl, Nat.le_of_ble_eq_true rfl⟩ (fun v hv => ?_)
  subst hv
  refine ka_stk (w := [.ref a10]) rfl ?_
  refine lv_astore_n (lv' := [(3, .ref a10), (0, .ref a0), (1, .int 2), (2, .int x0)]) hx hb dX6_picture_5 rfl hl (by decide) rfl (fun ls hl => ?_)
  refine lv_aload_n hx hb dX6_picture_6 rfl (lv_at hl 0 rfl) ?_
  refine lv_ifnull hx hb dX6_picture_7 ?_
  refine lv_aload_n hx hb dX6_picture_10 rfl (lv_at hl 0 rfl) ?_
  refine ka_get C lq_213 rfl hK hP 4 rfl 2 (by decide) lq_214 rfl dX6_picture_11 ?_
  refine lv_bipush (v := 12) hx hb dX6_picture_14 (by decide) ?_
  refine lv_icmp_ge (tgt := 30) hx hb dX6_picture_16 (by decide) (fun c_ => absurd c_ (by decide)) (fun _ => ?_)
  refine lv_aload_n hx hb dX6_picture_19 rfl (lv_at hl 1 rfl) ?_
  refine ka_get C lq_215 rfl hK hP 0 rfl 0 (by decide) lq_216 rfl dX6_picture_20 ?_
  refine lv_iload_n hx hb dX6_picture_23 rfl (lv_at hl 3 rfl) ?_
  refine ka_RV (n := 1) C (ct_X5_offers_47 l D a1 x0 a5 (by omega)) gX6_picture_X5_offers rfl (by decide +kernel) ⟨Nat.le_of_ble_eq_true rfl, Nat.le_of_ble_eq_true rfl⟩ hK hP hS hE hN [1] rfl [] rfl (ci := 5) rfl rfl 1 rfl rfl hl.1 (rest := []) rfl (Nat.le_of_ble_eq_true rfl) dX6_picture_24 ⟨Nat.le_of_ble_eq_true rfl, Nat.le_of_ble_eq_true rfl⟩ (fun v hv => ?_)
  subst hv
  refine ka_stk (w := [.int 0]) rfl ?_
  refine lv_if_ne (tgt := 33) hx hb dX6_picture_27 (by decide) (fun c_ => absurd (by decide) c_) (fun _ => ?_)
  refine lv_bipush (v := (-2)) hx hb dX6_picture_30 (by decide) ?_
  exact ka_rRi C hr hlk rfl dX6_picture_32
set_option maxHeartbeats 4000000 in
set_option maxRecDepth 100000 in
theorem ct_X7_picture_151 (l : Launch) (D : va_G) (a0 : Nat) (x0 : Int32) (a1 : Nat) (a2 : Nat) (a3 : Nat) (a4 : Nat) (a5 : Nat) (a6 : Nat) (a7 : Nat) (a8 : Nat) (a9 : Nat) (a10 : Nat) (a11 : Nat) (a12 : Nat) (a13 : Nat) (a14 : Nat) (k0 : ClassId) (hx0 : 1 ≤ x0.toInt) : ka_R l D yX7_picture wsX7_picture 3 65 [.ref a0, .int 2, .int x0] [(a0, .inr (7, [.ref a1, .int 0, .ref a2, .ref a3, .ref a4, .ref a5, .ref a6, .ref a7, .ref a8, .int (-1), .int 0, .int 3, .int 3, .int 0, .int 0, .int 0, .ref a9, .ref a10, .ref a11, .ref a12, .ref a13, .ref a14, .int 0, .int 0, .int 0, .int 0, .int (-1), .int 0])), (a6, .inl (k0, 6, .inl (fun _ => 0)))] [(k0, .boolean)] (fun v => v = some (.int (-2))) := by
  refine ka_R_of (cc := cX7_picture) (maxL := 3) (ret := (some .int)) (by decide) rfl (Nat.le_of_ble_eq_true rfl) ?_
  intro p e s m below meth c ls C hr hlk hP hK hE hN hl
  have hS : va_S (fun _ => False) s.heap s.heap [] := va_S.rf
  have C : CallFix p m c cX7_picture 3 s [.ref a0, .int 2, .int x0].toArray wsX7_picture RX7 := C
  obtain ⟨hx, hb, hml, hown, hts⟩ := id C
  have hl : lv_has ls 3 [(0, .ref a0), (1, .int 2), (2, .int x0)] := hl
  have rx0 := ka_rng x0
  refine lv_aload_n hx hb dX7_picture_0 rfl (lv_at hl 0 rfl) ?_
  refine lv_iload_n hx hb dX7_picture_1 rfl (lv_at hl 1 rfl) ?_
  refine lv_iload_n hx hb dX7_picture_2 rfl (lv_at hl 2 rfl) ?_
  refine ka_RV (n := 2) C (ct_X7_isOpenFor_106 l D a0 x0 a1 a2 a3 a4 a5 a6 a7 a8 a9 a10 a11 a12 a13 a14 k0 (by omega)) gX7_picture_X7_isOpenFor rfl (by decide +kernel) ⟨Nat.le_of_ble_eq_true rfl, Nat.le_of_ble_eq_true rfl⟩ hK hP hS hE hN [0, 1] rfl [0] rfl (ci := 7) rfl rfl 0 rfl rfl hl.1 (rest := []) rfl (Nat.le_of_ble_eq_true rfl) dX7_picture_3 ⟨Nat.le_of_ble_eq_true rfl, Nat.le_of_ble_eq_true rfl⟩ (fun v hv => ?_)
  subst hv
  refine ka_stk (w := [.int 0]) rfl ?_
  refine lv_if_eq (tgt := 20) hx hb dX7_picture_6 (by decide) (fun _ => ?_) (fun c_ => absurd (by decide) c_)
  refine lv_bipush (v := (-2)) hx hb dX7_picture_20 (by decide) ?_
  exact ka_rRi C hr hlk rfl dX7_picture_22
set_option maxHeartbeats 4000000 in
set_option maxRecDepth 100000 in
theorem ct_X6_picture_152 (l : Launch) (D : va_G) (a0 : Nat) (x0 : Int32) (a1 : Nat) (a2 : Nat) (a3 : Nat) (a4 : Nat) (a5 : Nat) (a6 : Nat) (a7 : Nat) (k0 : ClassId) (a8 : Nat) (a9 : Nat) (a10 : Nat) (a11 : Nat) (a12 : Nat) (a13 : Nat) (a14 : Nat) (a15 : Nat) (hx0 : x0.toInt ≤ -1) : ka_R l D yX6_picture wsX6_picture 3 63 [.ref a0, .int 3, .int x0] [(a0, .inr (6, [.ref a1, .ref a2, .ref a3, .ref a4, .int (-1), .int (-1), .int 0, .int 3, .int 3])), (a1, .inr (5, [.ref a5, .int 0])), (a3, .inr (0, [.ref a6, .ref a7, .int 0])), (a6, .inl (k0, 6, .inr (.inr (.inr (.inr (va_up (va_up (va_up (va_up (va_up (va_up (fun _ => none) 0 (some a8)) 1 (some a9)) 2 (some a10)) 3 (some a11)) 4 (some a12)) 5 (some a13))))))), (a11, .inr (2, [.ref a14, .ref a15, .int 0, .null]))] [(k0, .object RX2)] (fun v => v = some (.int (-2))) := by
  refine ka_R_of (cc := cX6_picture) (maxL := 4) (ret := (some .int)) (by decide) rfl (Nat.le_of_ble_eq_true rfl) ?_
  intro p e s m below meth c ls C hr hlk hP hK hE hN hl
  have hS : va_S (fun _ => False) s.heap s.heap [] := va_S.rf
  have C : CallFix p m c cX6_picture 4 s [.ref a0, .int 3, .int x0].toArray wsX6_picture RX6 := C
  obtain ⟨hx, hb, hml, hown, hts⟩ := id C
  have hl : lv_has ls 4 [(0, .ref a0), (1, .int 3), (2, .int x0)] := hl
  have rx0 := ka_rng x0
  refine lv_aload_n hx hb dX6_picture_0 rfl (lv_at hl 0 rfl) ?_
  refine lv_iload_n hx hb dX6_picture_1 rfl (lv_at hl 1 rfl) ?_
  refine ka_RV (n := 1) C (ct_X6_changeable_59 l D a0 a1 a2 a3 a4 a6 a7 k0 a8 a9 a10 a11 a12 a13) gX6_picture_X6_changeable rfl (by decide +kernel) ⟨Nat.le_of_ble_eq_true rfl, Nat.le_of_ble_eq_true rfl⟩ hK hP hS hE hN [0, 2, 3] rfl [0] rfl (ci := 6) rfl rfl 0 rfl rfl hl.1 (rest := []) rfl (Nat.le_of_ble_eq_true rfl) dX6_picture_2 ⟨Nat.le_of_ble_eq_true rfl, Nat.le_of_ble_eq_true rfl⟩ (fun v hv => ?_)
  subst hv
  refine ka_stk (w := [.ref a11]) rfl ?_
  refine lv_astore_n (lv' := [(3, .ref a11), (0, .ref a0), (1, .int 3), (2, .int x0)]) hx hb dX6_picture_5 rfl hl (by decide) rfl (fun ls hl => ?_)
  refine lv_aload_n hx hb dX6_picture_6 rfl (lv_at hl 0 rfl) ?_
  refine lv_ifnull hx hb dX6_picture_7 ?_
  refine lv_aload_n hx hb dX6_picture_10 rfl (lv_at hl 0 rfl) ?_
  refine ka_get C lq_213 rfl hK hP 4 rfl 2 (by decide) lq_214 rfl dX6_picture_11 ?_
  refine lv_bipush (v := 12) hx hb dX6_picture_14 (by decide) ?_
  refine lv_icmp_ge (tgt := 30) hx hb dX6_picture_16 (by decide) (fun c_ => absurd c_ (by decide)) (fun _ => ?_)
  refine lv_aload_n hx hb dX6_picture_19 rfl (lv_at hl 1 rfl) ?_
  refine ka_get C lq_215 rfl hK hP 0 rfl 0 (by decide) lq_216 rfl dX6_picture_20 ?_
  refine lv_iload_n hx hb dX6_picture_23 rfl (lv_at hl 3 rfl) ?_
  refine ka_RV (n := 1) C (ct_X5_offers_28 l D a1 x0 (by omega)) gX6_picture_X5_offers rfl (by decide +kernel) ⟨Nat.le_of_ble_eq_true rfl, Nat.le_of_ble_eq_true rfl⟩ hK hP hS hE hN [] rfl [] rfl (ci := 5) rfl rfl 1 rfl rfl hl.1 (rest := []) rfl (Nat.le_of_ble_eq_true rfl) dX6_picture_24 ⟨Nat.le_of_ble_eq_true rfl, Nat.le_of_ble_eq_true rfl⟩ (fun v hv => ?_)
  subst hv
  refine ka_stk (w := [.int 0]) rfl ?_
  refine lv_if_ne (tgt := 33) hx hb dX6_picture_27 (by decide) (fun c_ => absurd (by decide) c_) (fun _ => ?_)
  refine lv_bipush (v := (-2)) hx hb dX6_picture_30 (by decide) ?_
  exact ka_rRi C hr hlk rfl dX6_picture_32
set_option maxHeartbeats 4000000 in
set_option maxRecDepth 100000 in
theorem ct_X7_picture_153 (l : Launch) (D : va_G) (a0 : Nat) (x0 : Int32) (a1 : Nat) (a2 : Nat) (a3 : Nat) (a4 : Nat) (a5 : Nat) (a6 : Nat) (a7 : Nat) (a8 : Nat) (a9 : Nat) (a10 : Nat) (a11 : Nat) (a12 : Nat) (a13 : Nat) (a14 : Nat) (k0 : ClassId) (hx0 : x0.toInt ≤ -1) : ka_R l D yX7_picture wsX7_picture 3 65 [.ref a0, .int 3, .int x0] [(a0, .inr (7, [.ref a1, .int 0, .ref a2, .ref a3, .ref a4, .ref a5, .ref a6, .ref a7, .ref a8, .int (-1), .int 0, .int 3, .int 3, .int 0, .int 0, .int 0, .ref a9, .ref a10, .ref a11, .ref a12, .ref a13, .ref a14, .int 0, .int 0, .int 0, .int 0, .int (-1), .int 0])), (a6, .inl (k0, 6, .inl (fun _ => 0)))] [(k0, .boolean)] (fun v => v = some (.int (-2))) := by
  refine ka_R_of (cc := cX7_picture) (maxL := 3) (ret := (some .int)) (by decide) rfl (Nat.le_of_ble_eq_true rfl) ?_
  intro p e s m below meth c ls C hr hlk hP hK hE hN hl
  have hS : va_S (fun _ => False) s.heap s.heap [] := va_S.rf
  have C : CallFix p m c cX7_picture 3 s [.ref a0, .int 3, .int x0].toArray wsX7_picture RX7 := C
  obtain ⟨hx, hb, hml, hown, hts⟩ := id C
  have hl : lv_has ls 3 [(0, .ref a0), (1, .int 3), (2, .int x0)] := hl
  have rx0 := ka_rng x0
  refine lv_aload_n hx hb dX7_picture_0 rfl (lv_at hl 0 rfl) ?_
  refine lv_iload_n hx hb dX7_picture_1 rfl (lv_at hl 1 rfl) ?_
  refine lv_iload_n hx hb dX7_picture_2 rfl (lv_at hl 2 rfl) ?_
  refine ka_RV (n := 2) C (ct_X7_isOpenFor_109 l D a0 x0 a1 a2 a3 a4 a5 a6 a7 a8 a9 a10 a11 a12 a13 a14 k0 (by omega)) gX7_picture_X7_isOpenFor rfl (by decide +kernel) ⟨Nat.le_of_ble_eq_true rfl, Nat.le_of_ble_eq_true rfl⟩ hK hP hS hE hN [0, 1] rfl [0] rfl (ci := 7) rfl rfl 0 rfl rfl hl.1 (rest := []) rfl (Nat.le_of_ble_eq_true rfl) dX7_picture_3 ⟨Nat.le_of_ble_eq_true rfl, Nat.le_of_ble_eq_true rfl⟩ (fun v hv => ?_)
  subst hv
  refine ka_stk (w := [.int 0]) rfl ?_
  refine lv_if_eq (tgt := 20) hx hb dX7_picture_6 (by decide) (fun _ => ?_) (fun c_ => absurd (by decide) c_)
  refine lv_bipush (v := (-2)) hx hb dX7_picture_20 (by decide) ?_
  exact ka_rRi C hr hlk rfl dX7_picture_22
set_option maxHeartbeats 4000000 in
set_option maxRecDepth 100000 in
theorem ct_X6_picture_154 (l : Launch) (D : va_G) (a0 : Nat) (a1 : Nat) (a2 : Nat) (a3 : Nat) (a4 : Nat) (a5 : Nat) (a6 : Nat) (a7 : Nat) (a8 : Nat) (k0 : ClassId) (a9 : Nat) (a10 : Nat) (a11 : Nat) (a12 : Nat) (a13 : Nat) (a14 : Nat) (a15 : Nat) (a16 : Nat) : ka_E (S := Unit) l D yX6_picture wsX6_picture 11 256 0 0 [.ref a0, .int 3, .int 0] [(a0, .inr (6, [.ref a1, .ref a2, .ref a3, .ref a4, .int (-1), .int (-1), .int 0, .int 3, .int 3])), (a1, .inr (5, [.ref a5, .int 0])), (a2, .inr (3, [.ref a1, .ref a6, .int 0, .int 0, .int 0, .int (-1), .int 3, .int 0])), (a3, .inr (0, [.ref a7, .ref a8, .int 0])), (a7, .inl (k0, 6, .inr (.inr (.inr (.inr (va_up (va_up (va_up (va_up (va_up (va_up (fun _ => none) 0 (some a9)) 1 (some a10)) 2 (some a11)) 3 (some a12)) 4 (some a13)) 5 (some a14))))))), (a12, .inr (2, [.ref a15, .ref a16, .int 0, .null]))] [(k0, .object RX2)] (fun u => some (.int (-1))) (fun _ => True) (fun u => []) (fun u => []) := by
  refine ka_E_of (cc := cX6_picture) (maxL := 4) (ret := (some .int)) (by decide) rfl (Nat.le_of_ble_eq_true rfl) ?_
  intro p e s m below meth c ls A C hr hlk hin hP hK hD hS hA hE hN hl
  have C : CallFix p m c cX6_picture 4 s [.ref a0, .int 3, .int 0].toArray wsX6_picture RX6 := C
  obtain ⟨hx, hb, hml, hown, hts⟩ := id C
  have hl : lv_has ls 4 [(0, .ref a0), (1, .int 3), (2, .int 0)] := hl
  refine lv_aload_n hx hb dX6_picture_0 rfl (lv_at hl 0 rfl) ?_
  refine lv_iload_n hx hb dX6_picture_1 rfl (lv_at hl 1 rfl) ?_
  refine ka_RV (n := 1) C (ct_X6_changeable_59 l D a0 a1 a2 a3 a4 a7 a8 k0 a9 a10 a11 a12 a13 a14) gX6_picture_X6_changeable rfl (by decide +kernel) ⟨Nat.le_of_ble_eq_true rfl, Nat.le_of_ble_eq_true rfl⟩ hK hP hS hE hN [0, 3, 4] rfl [0] rfl (ci := 6) rfl rfl 0 rfl rfl hl.1 (rest := []) rfl (Nat.le_of_ble_eq_true rfl) dX6_picture_2 ⟨Nat.le_of_ble_eq_true rfl, Nat.le_of_ble_eq_true rfl⟩ (fun v hv => ?_)
  subst hv
  refine ka_stk (w := [.ref a12]) rfl ?_
  refine lv_astore_n (lv' := [(3, .ref a12), (0, .ref a0), (1, .int 3), (2, .int 0)]) hx hb dX6_picture_5 rfl hl (by decide) rfl (fun ls hl => ?_)
  refine lv_aload_n hx hb dX6_picture_6 rfl (lv_at hl 0 rfl) ?_
  refine lv_ifnull hx hb dX6_picture_7 ?_
  refine lv_aload_n hx hb dX6_picture_10 rfl (lv_at hl 0 rfl) ?_
  refine ka_get C lq_213 rfl hK hP 5 rfl 2 (by decide) lq_214 rfl dX6_picture_11 ?_
  refine lv_bipush (v := 12) hx hb dX6_picture_14 (by decide) ?_
  refine lv_icmp_ge (tgt := 30) hx hb dX6_picture_16 (by decide) (fun c_ => absurd c_ (by decide)) (fun _ => ?_)
  refine lv_aload_n hx hb dX6_picture_19 rfl (lv_at hl 1 rfl) ?_
  refine ka_get C lq_215 rfl hK hP 0 rfl 0 (by decide) lq_216 rfl dX6_picture_20 ?_
  refine lv_iload_n hx hb dX6_picture_23 rfl (lv_at hl 3 rfl) ?_
  refine ka_RV (n := 1) C (ct_X5_offers_29 l D a1 a5) gX6_picture_X5_offers rfl (by decide +kernel) ⟨Nat.le_of_ble_eq_true rfl, Nat.le_of_ble_eq_true rfl⟩ hK hP hS hE hN [1] rfl [] rfl (ci := 5) rfl rfl 1 rfl rfl hl.1 (rest := []) rfl (Nat.le_of_ble_eq_true rfl) dX6_picture_24 ⟨Nat.le_of_ble_eq_true rfl, Nat.le_of_ble_eq_true rfl⟩ (fun v hv => ?_)
  subst hv
  refine ka_stk (w := [.int 1]) rfl ?_
  refine lv_if_ne (tgt := 33) hx hb dX6_picture_27 (by decide) (fun _ => ?_) (fun c_ => absurd c_ (by decide))
  refine lv_aload_n hx hb dX6_picture_33 rfl (lv_at hl 1 rfl) ?_
  refine lv_iload_n hx hb dX6_picture_34 rfl (lv_at hl 3 rfl) ?_
  refine ka_EV (n := 1) (wr := [(a3, .inr (0, [.ref a7, .ref a8, .int 0])), (a7, .inl (k0, 6, .inr (.inr (.inr (.inr (va_up (va_up (va_up (va_up (va_up (va_up (fun _ => none) 0 (some a9)) 1 (some a10)) 2 (some a11)) 3 (some a12)) 4 (some a13)) 5 (some a14))))))), (a12, .inr (2, [.ref a15, .ref a16, .int 0, .null]))]) C (ct_X6_readTape_46 l D a0 a1 a2 a3 a4 a5 a6) gX6_picture_X6_readTape rfl (by decide +kernel) ⟨Nat.le_of_ble_eq_true rfl, Nat.le_of_ble_eq_true rfl⟩ hK hP hD hS hA hE hN [0, 1, 2] rfl (by decide) [3, 4, 5] rfl (by decide) (by decide) [] rfl (ci := 6) rfl rfl 0 rfl rfl hl.1 (rest := []) rfl (Nat.le_of_ble_eq_true rfl) dX6_picture_35 ⟨Nat.le_of_ble_eq_true rfl, Nat.le_of_ble_eq_true rfl⟩ (fun u H locs _ hP hD hK hS => ?_)
  have hP : va_P D vwCl [(a3, .inr (0, [.ref a7, .ref a8, .int 0])), (a7, .inl (k0, 6, .inr (.inr (.inr (.inr (va_up (va_up (va_up (va_up (va_up (va_up (fun _ => none) 0 (some a9)) 1 (some a10)) 2 (some a11)) 3 (some a12)) 4 (some a13)) 5 (some a14))))))), (a12, .inr (2, [.ref a15, .ref a16, .int 0, .null])), (a0, .inr (6, [.ref a1, .ref a2, .ref a3, .ref a4, .int (-1), .int 0, .int 0, .int 3, .int 3])), (a2, .inr (3, [.ref a1, .ref a6, .int 0, .int 0, .int 0, .int 0, .int 3, .int 0])), (a1, .inr (5, [.ref a5, .int 0]))] H := hP
  have hD : va_D A [(a3, .inr (0, [.ref a7, .ref a8, .int 0])), (a7, .inl (k0, 6, .inr (.inr (.inr (.inr (va_up (va_up (va_up (va_up (va_up (va_up (fun _ => none) 0 (some a9)) 1 (some a10)) 2 (some a11)) 3 (some a12)) 4 (some a13)) 5 (some a14))))))), (a12, .inr (2, [.ref a15, .ref a16, .int 0, .null])), (a0, .inr (6, [.ref a1, .ref a2, .ref a3, .ref a4, .int (-1), .int 0, .int 0, .int 3, .int 3])), (a2, .inr (3, [.ref a1, .ref a6, .int 0, .int 0, .int 0, .int 0, .int 3, .int 0])), (a1, .inr (5, [.ref a5, .int 0]))] := hD
  have hK : va_K D vwCl [(k0, .object RX2)] s := hK
  refine ka_stk (w := [.int 0]) rfl ?_
  refine lv_if_eq (tgt := 55) hx hb dX6_picture_38 (by decide) (fun _ => ?_) (fun c_ => absurd (by decide) c_)
  refine lv_iconst (v := (-1)) hx hb dX6_picture_55 (by decide) ?_
  exact ka_rEi C hr hlk (Nat.le_of_ble_eq_true rfl) (Nat.le_of_ble_eq_true rfl) hS (ka_qE () rfl trivial hK hP hD hS [] (by decide) rfl [] rfl) dX6_picture_56
set_option maxHeartbeats 4000000 in
set_option maxRecDepth 100000 in
theorem ct_X7_picture_155 (l : Launch) (D : va_G) (a0 : Nat) (a1 : Nat) (a2 : Nat) (a3 : Nat) (a4 : Nat) (a5 : Nat) (a6 : Nat) (a7 : Nat) (a8 : Nat) (a9 : Nat) (a10 : Nat) (a11 : Nat) (a12 : Nat) (a13 : Nat) (a14 : Nat) (k0 : ClassId) (k1 : ClassId) : ka_E (S := Unit) l D yX7_picture wsX7_picture 6 137 0 0 [.ref a0, .int 3, .int 0] [(a0, .inr (7, [.ref a1, .int 0, .ref a2, .ref a3, .ref a4, .ref a5, .ref a6, .ref a7, .ref a8, .int (-1), .int 0, .int 3, .int 3, .int 0, .int 0, .int 0, .ref a9, .ref a10, .ref a11, .ref a12, .ref a13, .ref a14, .int 0, .int 0, .int 0, .int 0, .int (-1), .int 0])), (a6, .inl (k0, 6, .inl (fun _ => 0))), (a8, .inl (k1, 6, .inl (fun _ => 0)))] [(k0, .boolean), (k1, .int)] (fun u => some (.int (-1))) (fun _ => True) (fun u => []) (fun u => []) := by
  refine ka_E_of (cc := cX7_picture) (maxL := 3) (ret := (some .int)) (by decide) rfl (Nat.le_of_ble_eq_true rfl) ?_
  intro p e s m below meth c ls A C hr hlk hin hP hK hD hS hA hE hN hl
  have C : CallFix p m c cX7_picture 3 s [.ref a0, .int 3, .int 0].toArray wsX7_picture RX7 := C
  obtain ⟨hx, hb, hml, hown, hts⟩ := id C
  have hl : lv_has ls 3 [(0, .ref a0), (1, .int 3), (2, .int 0)] := hl
  refine lv_aload_n hx hb dX7_picture_0 rfl (lv_at hl 0 rfl) ?_
  refine lv_iload_n hx hb dX7_picture_1 rfl (lv_at hl 1 rfl) ?_
  refine lv_iload_n hx hb dX7_picture_2 rfl (lv_at hl 2 rfl) ?_
  refine ka_RV (n := 2) C (ct_X7_isOpenFor_110 l D a0 a1 a2 a3 a4 a5 a6 a7 a8 a9 a10 a11 a12 a13 a14 k0) gX7_picture_X7_isOpenFor rfl (by decide +kernel) ⟨Nat.le_of_ble_eq_true rfl, Nat.le_of_ble_eq_true rfl⟩ hK hP hS hE hN [0, 1] rfl [0] rfl (ci := 7) rfl rfl 0 rfl rfl hl.1 (rest := []) rfl (Nat.le_of_ble_eq_true rfl) dX7_picture_3 ⟨Nat.le_of_ble_eq_true rfl, Nat.le_of_ble_eq_true rfl⟩ (fun v hv => ?_)
  subst hv
  refine ka_stk (w := [.int 1]) rfl ?_
  refine lv_if_eq (tgt := 20) hx hb dX7_picture_6 (by decide) (fun c_ => absurd c_ (by decide)) (fun _ => ?_)
  refine lv_aload_n hx hb dX7_picture_9 rfl (lv_at hl 0 rfl) ?_
  refine ka_get C lq_217 rfl hK hP 0 rfl 8 (by decide) lq_218 rfl dX7_picture_10 ?_
  refine lv_iload_n hx hb dX7_picture_13 rfl (lv_at hl 1 rfl) ?_
  refine va_iald hx hb hK hP 2 1 rfl rfl (ka_in (by decide) (by decide)) dX7_picture_14 ?_
  refine ka_top (w := .int 0) rfl ?_
  refine lv_bipush (v := 12) hx hb dX7_picture_15 (by decide) ?_
  refine lv_icmp_ne (tgt := 23) hx hb dX7_picture_17 (by decide) (fun _ => ?_) (fun c_ => absurd c_ (by decide))
  refine lv_aload_n hx hb dX7_picture_23 rfl (lv_at hl 0 rfl) ?_
  refine lv_iload_n hx hb dX7_picture_24 rfl (lv_at hl 2 rfl) ?_
  refine ka_EV (n := 1) (wr := [(a6, .inl (k0, 6, .inl (fun _ => 0))), (a8, .inl (k1, 6, .inl (fun _ => 0)))]) C (ct_X7_reads_93 l D a0 a1 a2 a3 a4 a5 a6 a7 a8 a9 a10 a11 a12 a13 a14) gX7_picture_X7_reads rfl (by decide +kernel) ⟨Nat.le_of_ble_eq_true rfl, Nat.le_of_ble_eq_true rfl⟩ hK hP hD hS hA hE hN [0] rfl (by decide) [1, 2] rfl (by decide) (by decide) [] rfl (ci := 7) rfl rfl 0 rfl rfl hl.1 (rest := []) rfl (Nat.le_of_ble_eq_true rfl) dX7_picture_25 ⟨Nat.le_of_ble_eq_true rfl, Nat.le_of_ble_eq_true rfl⟩ (fun u H locs _ hP hD hK hS => ?_)
  have hP : va_P D vwCl [(a6, .inl (k0, 6, .inl (fun _ => 0))), (a8, .inl (k1, 6, .inl (fun _ => 0))), (a0, .inr (7, [.ref a1, .int 0, .ref a2, .ref a3, .ref a4, .ref a5, .ref a6, .ref a7, .ref a8, .int (-1), .int 0, .int 3, .int 3, .int 0, .int 0, .int 0, .ref a9, .ref a10, .ref a11, .ref a12, .ref a13, .ref a14, .int 0, .int 0, .int 0, .int 0, .int 0, .int 1]))] H := hP
  have hD : va_D A [(a6, .inl (k0, 6, .inl (fun _ => 0))), (a8, .inl (k1, 6, .inl (fun _ => 0))), (a0, .inr (7, [.ref a1, .int 0, .ref a2, .ref a3, .ref a4, .ref a5, .ref a6, .ref a7, .ref a8, .int (-1), .int 0, .int 3, .int 3, .int 0, .int 0, .int 0, .ref a9, .ref a10, .ref a11, .ref a12, .ref a13, .ref a14, .int 0, .int 0, .int 0, .int 0, .int 0, .int 1]))] := hD
  have hK : va_K D vwCl [(k0, .boolean), (k1, .int)] s := hK
  refine ka_stk (w := [.int 0]) rfl ?_
  refine lv_if_ne (tgt := 33) hx hb dX7_picture_28 (by decide) (fun c_ => absurd (by decide) c_) (fun _ => ?_)
  refine lv_iconst (v := (-1)) hx hb dX7_picture_31 (by decide) ?_
  exact ka_rEi C hr hlk (Nat.le_of_ble_eq_true rfl) (Nat.le_of_ble_eq_true rfl) hS (ka_qE () rfl trivial hK hP hD hS [] (by decide) rfl [] rfl) dX7_picture_32
set_option maxHeartbeats 4000000 in
set_option maxRecDepth 100000 in
theorem ct_X6_picture_156 (l : Launch) (D : va_G) (a0 : Nat) (x0 : Int32) (a1 : Nat) (a2 : Nat) (a3 : Nat) (a4 : Nat) (a5 : Nat) (a6 : Nat) (a7 : Nat) (k0 : ClassId) (a8 : Nat) (a9 : Nat) (a10 : Nat) (a11 : Nat) (a12 : Nat) (a13 : Nat) (a14 : Nat) (a15 : Nat) (hx0 : 1 ≤ x0.toInt) : ka_R l D yX6_picture wsX6_picture 3 63 [.ref a0, .int 3, .int x0] [(a0, .inr (6, [.ref a1, .ref a2, .ref a3, .ref a4, .int (-1), .int (-1), .int 0, .int 3, .int 3])), (a1, .inr (5, [.ref a5, .int 0])), (a3, .inr (0, [.ref a6, .ref a7, .int 0])), (a6, .inl (k0, 6, .inr (.inr (.inr (.inr (va_up (va_up (va_up (va_up (va_up (va_up (fun _ => none) 0 (some a8)) 1 (some a9)) 2 (some a10)) 3 (some a11)) 4 (some a12)) 5 (some a13))))))), (a11, .inr (2, [.ref a14, .ref a15, .int 0, .null]))] [(k0, .object RX2)] (fun v => v = some (.int (-2))) := by
  refine ka_R_of (cc := cX6_picture) (maxL := 4) (ret := (some .int)) (by decide) rfl (Nat.le_of_ble_eq_true rfl) ?_
  intro p e s m below meth c ls C hr hlk hP hK hE hN hl
  have hS : va_S (fun _ => False) s.heap s.heap [] := va_S.rf
  have C : CallFix p m c cX6_picture 4 s [.ref a0, .int 3, .int x0].toArray wsX6_picture RX6 := C
  obtain ⟨hx, hb, hml, hown, hts⟩ := id C
  have hl : lv_has ls 4 [(0, .ref a0), (1, .int 3), (2, .int x0)] := hl
  have rx0 := ka_rng x0
  refine lv_aload_n hx hb dX6_picture_0 rfl (lv_at hl 0 rfl) ?_
  refine lv_iload_n hx hb dX6_picture_1 rfl (lv_at hl 1 rfl) ?_
  refine ka_RV (n := 1) C (ct_X6_changeable_59 l D a0 a1 a2 a3 a4 a6 a7 k0 a8 a9 a10 a11 a12 a13) gX6_picture_X6_changeable rfl (by decide +kernel) ⟨Nat.le_of_ble_eq_true rfl, Nat.le_of_ble_eq_true rfl⟩ hK hP hS hE hN [0, 2, 3] rfl [0] rfl (ci := 6) rfl rfl 0 rfl rfl hl.1 (rest := []) rfl (Nat.le_of_ble_eq_true rfl) dX6_picture_2 ⟨Nat.le_of_ble_eq_true rfl, Nat.le_of_ble_eq_true rfl⟩ (fun v hv => ?_)
  subst hv
  refine ka_stk (w := [.ref a11]) rfl ?_
  refine lv_astore_n (lv' := [(3, .ref a11), (0, .ref a0), (1, .int 3), (2, .int x0)]) hx hb dX6_picture_5 rfl hl (by decide) rfl (fun ls hl => ?_)
  refine lv_aload_n hx hb dX6_picture_6 rfl (lv_at hl 0 rfl) ?_
  refine lv_ifnull hx hb dX6_picture_7 ?_
  refine lv_aload_n hx hb dX6_picture_10 rfl (lv_at hl 0 rfl) ?_
  refine ka_get C lq_213 rfl hK hP 4 rfl 2 (by decide) lq_214 rfl dX6_picture_11 ?_
  refine lv_bipush (v := 12) hx hb dX6_picture_14 (by decide) ?_
  refine lv_icmp_ge (tgt := 30) hx hb dX6_picture_16 (by decide) (fun c_ => absurd c_ (by decide)) (fun _ => ?_)
  refine lv_aload_n hx hb dX6_picture_19 rfl (lv_at hl 1 rfl) ?_
  refine ka_get C lq_215 rfl hK hP 0 rfl 0 (by decide) lq_216 rfl dX6_picture_20 ?_
  refine lv_iload_n hx hb dX6_picture_23 rfl (lv_at hl 3 rfl) ?_
  refine ka_RV (n := 1) C (ct_X5_offers_47 l D a1 x0 a5 (by omega)) gX6_picture_X5_offers rfl (by decide +kernel) ⟨Nat.le_of_ble_eq_true rfl, Nat.le_of_ble_eq_true rfl⟩ hK hP hS hE hN [1] rfl [] rfl (ci := 5) rfl rfl 1 rfl rfl hl.1 (rest := []) rfl (Nat.le_of_ble_eq_true rfl) dX6_picture_24 ⟨Nat.le_of_ble_eq_true rfl, Nat.le_of_ble_eq_true rfl⟩ (fun v hv => ?_)
  subst hv
  refine ka_stk (w := [.int 0]) rfl ?_
  refine lv_if_ne (tgt := 33) hx hb dX6_picture_27 (by decide) (fun c_ => absurd (by decide) c_) (fun _ => ?_)
  refine lv_bipush (v := (-2)) hx hb dX6_picture_30 (by decide) ?_
  exact ka_rRi C hr hlk rfl dX6_picture_32
set_option maxHeartbeats 4000000 in
set_option maxRecDepth 100000 in
theorem ct_X7_picture_157 (l : Launch) (D : va_G) (a0 : Nat) (x0 : Int32) (a1 : Nat) (a2 : Nat) (a3 : Nat) (a4 : Nat) (a5 : Nat) (a6 : Nat) (a7 : Nat) (a8 : Nat) (a9 : Nat) (a10 : Nat) (a11 : Nat) (a12 : Nat) (a13 : Nat) (a14 : Nat) (k0 : ClassId) (hx0 : 1 ≤ x0.toInt) : ka_R l D yX7_picture wsX7_picture 3 65 [.ref a0, .int 3, .int x0] [(a0, .inr (7, [.ref a1, .int 0, .ref a2, .ref a3, .ref a4, .ref a5, .ref a6, .ref a7, .ref a8, .int (-1), .int 0, .int 3, .int 3, .int 0, .int 0, .int 0, .ref a9, .ref a10, .ref a11, .ref a12, .ref a13, .ref a14, .int 0, .int 0, .int 0, .int 0, .int (-1), .int 0])), (a6, .inl (k0, 6, .inl (fun _ => 0)))] [(k0, .boolean)] (fun v => v = some (.int (-2))) := by
  refine ka_R_of (cc := cX7_picture) (maxL := 3) (ret := (some .int)) (by decide) rfl (Nat.le_of_ble_eq_true rfl) ?_
  intro p e s m below meth c ls C hr hlk hP hK hE hN hl
  have hS : va_S (fun _ => False) s.heap s.heap [] := va_S.rf
  have C : CallFix p m c cX7_picture 3 s [.ref a0, .int 3, .int x0].toArray wsX7_picture RX7 := C
  obtain ⟨hx, hb, hml, hown, hts⟩ := id C
  have hl : lv_has ls 3 [(0, .ref a0), (1, .int 3), (2, .int x0)] := hl
  have rx0 := ka_rng x0
  refine lv_aload_n hx hb dX7_picture_0 rfl (lv_at hl 0 rfl) ?_
  refine lv_iload_n hx hb dX7_picture_1 rfl (lv_at hl 1 rfl) ?_
  refine lv_iload_n hx hb dX7_picture_2 rfl (lv_at hl 2 rfl) ?_
  refine ka_RV (n := 2) C (ct_X7_isOpenFor_111 l D a0 x0 a1 a2 a3 a4 a5 a6 a7 a8 a9 a10 a11 a12 a13 a14 k0 (by omega)) gX7_picture_X7_isOpenFor rfl (by decide +kernel) ⟨Nat.le_of_ble_eq_true rfl, Nat.le_of_ble_eq_true rfl⟩ hK hP hS hE hN [0, 1] rfl [0] rfl (ci := 7) rfl rfl 0 rfl rfl hl.1 (rest := []) rfl (Nat.le_of_ble_eq_true rfl) dX7_picture_3 ⟨Nat.le_of_ble_eq_true rfl, Nat.le_of_ble_eq_true rfl⟩ (fun v hv => ?_)
  subst hv
  refine ka_stk (w := [.int 0]) rfl ?_
  refine lv_if_eq (tgt := 20) hx hb dX7_picture_6 (by decide) (fun _ => ?_) (fun c_ => absurd (by decide) c_)
  refine lv_bipush (v := (-2)) hx hb dX7_picture_20 (by decide) ?_
  exact ka_rRi C hr hlk rfl dX7_picture_22
set_option maxHeartbeats 4000000 in
set_option maxRecDepth 100000 in
theorem ct_X6_picture_158 (l : Launch) (D : va_G) (a0 : Nat) (x0 : Int32) (a1 : Nat) (a2 : Nat) (a3 : Nat) (a4 : Nat) (a5 : Nat) (a6 : Nat) (a7 : Nat) (k0 : ClassId) (a8 : Nat) (a9 : Nat) (a10 : Nat) (a11 : Nat) (a12 : Nat) (a13 : Nat) (a14 : Nat) (a15 : Nat) (hx0 : x0.toInt ≤ -1) : ka_R l D yX6_picture wsX6_picture 3 63 [.ref a0, .int 4, .int x0] [(a0, .inr (6, [.ref a1, .ref a2, .ref a3, .ref a4, .int (-1), .int (-1), .int 0, .int 3, .int 3])), (a1, .inr (5, [.ref a5, .int 0])), (a3, .inr (0, [.ref a6, .ref a7, .int 0])), (a6, .inl (k0, 6, .inr (.inr (.inr (.inr (va_up (va_up (va_up (va_up (va_up (va_up (fun _ => none) 0 (some a8)) 1 (some a9)) 2 (some a10)) 3 (some a11)) 4 (some a12)) 5 (some a13))))))), (a12, .inr (2, [.ref a14, .ref a15, .int 0, .null]))] [(k0, .object RX2)] (fun v => v = some (.int (-2))) := by
  refine ka_R_of (cc := cX6_picture) (maxL := 4) (ret := (some .int)) (by decide) rfl (Nat.le_of_ble_eq_true rfl) ?_
  intro p e s m below meth c ls C hr hlk hP hK hE hN hl
  have hS : va_S (fun _ => False) s.heap s.heap [] := va_S.rf
  have C : CallFix p m c cX6_picture 4 s [.ref a0, .int 4, .int x0].toArray wsX6_picture RX6 := C
  obtain ⟨hx, hb, hml, hown, hts⟩ := id C
  have hl : lv_has ls 4 [(0, .ref a0), (1, .int 4), (2, .int x0)] := hl
  have rx0 := ka_rng x0
  refine lv_aload_n hx hb dX6_picture_0 rfl (lv_at hl 0 rfl) ?_
  refine lv_iload_n hx hb dX6_picture_1 rfl (lv_at hl 1 rfl) ?_
  refine ka_RV (n := 1) C (ct_X6_changeable_63 l D a0 a1 a2 a3 a4 a6 a7 k0 a8 a9 a10 a11 a12 a13) gX6_picture_X6_changeable rfl (by decide +kernel) ⟨Nat.le_of_ble_eq_true rfl, Nat.le_of_ble_eq_true rfl⟩ hK hP hS hE hN [0, 2, 3] rfl [0] rfl (ci := 6) rfl rfl 0 rfl rfl hl.1 (rest := []) rfl (Nat.le_of_ble_eq_true rfl) dX6_picture_2 ⟨Nat.le_of_ble_eq_true rfl, Nat.le_of_ble_eq_true rfl⟩ (fun v hv => ?_)
  subst hv
  refine ka_stk (w := [.ref a12]) rfl ?_
  refine lv_astore_n (lv' := [(3, .ref a12), (0, .ref a0), (1, .int 4), (2, .int x0)]) hx hb dX6_picture_5 rfl hl (by decide) rfl (fun ls hl => ?_)
  refine lv_aload_n hx hb dX6_picture_6 rfl (lv_at hl 0 rfl) ?_
  refine lv_ifnull hx hb dX6_picture_7 ?_
  refine lv_aload_n hx hb dX6_picture_10 rfl (lv_at hl 0 rfl) ?_
  refine ka_get C lq_213 rfl hK hP 4 rfl 2 (by decide) lq_214 rfl dX6_picture_11 ?_
  refine lv_bipush (v := 12) hx hb dX6_picture_14 (by decide) ?_
  refine lv_icmp_ge (tgt := 30) hx hb dX6_picture_16 (by decide) (fun c_ => absurd c_ (by decide)) (fun _ => ?_)
  refine lv_aload_n hx hb dX6_picture_19 rfl (lv_at hl 1 rfl) ?_
  refine ka_get C lq_215 rfl hK hP 0 rfl 0 (by decide) lq_216 rfl dX6_picture_20 ?_
  refine lv_iload_n hx hb dX6_picture_23 rfl (lv_at hl 3 rfl) ?_
  refine ka_RV (n := 1) C (ct_X5_offers_28 l D a1 x0 (by omega)) gX6_picture_X5_offers rfl (by decide +kernel) ⟨Nat.le_of_ble_eq_true rfl, Nat.le_of_ble_eq_true rfl⟩ hK hP hS hE hN [] rfl [] rfl (ci := 5) rfl rfl 1 rfl rfl hl.1 (rest := []) rfl (Nat.le_of_ble_eq_true rfl) dX6_picture_24 ⟨Nat.le_of_ble_eq_true rfl, Nat.le_of_ble_eq_true rfl⟩ (fun v hv => ?_)
  subst hv
  refine ka_stk (w := [.int 0]) rfl ?_
  refine lv_if_ne (tgt := 33) hx hb dX6_picture_27 (by decide) (fun c_ => absurd (by decide) c_) (fun _ => ?_)
  refine lv_bipush (v := (-2)) hx hb dX6_picture_30 (by decide) ?_
  exact ka_rRi C hr hlk rfl dX6_picture_32
set_option maxHeartbeats 4000000 in
set_option maxRecDepth 100000 in
theorem ct_X7_picture_159 (l : Launch) (D : va_G) (a0 : Nat) (x0 : Int32) (a1 : Nat) (a2 : Nat) (a3 : Nat) (a4 : Nat) (a5 : Nat) (a6 : Nat) (a7 : Nat) (a8 : Nat) (a9 : Nat) (a10 : Nat) (a11 : Nat) (a12 : Nat) (a13 : Nat) (a14 : Nat) (k0 : ClassId) (hx0 : x0.toInt ≤ -1) : ka_R l D yX7_picture wsX7_picture 3 65 [.ref a0, .int 4, .int x0] [(a0, .inr (7, [.ref a1, .int 0, .ref a2, .ref a3, .ref a4, .ref a5, .ref a6, .ref a7, .ref a8, .int (-1), .int 0, .int 3, .int 3, .int 0, .int 0, .int 0, .ref a9, .ref a10, .ref a11, .ref a12, .ref a13, .ref a14, .int 0, .int 0, .int 0, .int 0, .int (-1), .int 0])), (a6, .inl (k0, 6, .inl (fun _ => 0)))] [(k0, .boolean)] (fun v => v = some (.int (-2))) := by
  refine ka_R_of (cc := cX7_picture) (maxL := 3) (ret := (some .int)) (by decide) rfl (Nat.le_of_ble_eq_true rfl) ?_
  intro p e s m below meth c ls C hr hlk hP hK hE hN hl
  have hS : va_S (fun _ => False) s.heap s.heap [] := va_S.rf
  have C : CallFix p m c cX7_picture 3 s [.ref a0, .int 4, .int x0].toArray wsX7_picture RX7 := C
  obtain ⟨hx, hb, hml, hown, hts⟩ := id C
  have hl : lv_has ls 3 [(0, .ref a0), (1, .int 4), (2, .int x0)] := hl
  have rx0 := ka_rng x0
  refine lv_aload_n hx hb dX7_picture_0 rfl (lv_at hl 0 rfl) ?_
  refine lv_iload_n hx hb dX7_picture_1 rfl (lv_at hl 1 rfl) ?_
  refine lv_iload_n hx hb dX7_picture_2 rfl (lv_at hl 2 rfl) ?_
  refine ka_RV (n := 2) C (ct_X7_isOpenFor_114 l D a0 x0 a1 a2 a3 a4 a5 a6 a7 a8 a9 a10 a11 a12 a13 a14 k0 (by omega)) gX7_picture_X7_isOpenFor rfl (by decide +kernel) ⟨Nat.le_of_ble_eq_true rfl, Nat.le_of_ble_eq_true rfl⟩ hK hP hS hE hN [0, 1] rfl [0] rfl (ci := 7) rfl rfl 0 rfl rfl hl.1 (rest := []) rfl (Nat.le_of_ble_eq_true rfl) dX7_picture_3 ⟨Nat.le_of_ble_eq_true rfl, Nat.le_of_ble_eq_true rfl⟩ (fun v hv => ?_)
  subst hv
  refine ka_stk (w := [.int 0]) rfl ?_
  refine lv_if_eq (tgt := 20) hx hb dX7_picture_6 (by decide) (fun _ => ?_) (fun c_ => absurd (by decide) c_)
  refine lv_bipush (v := (-2)) hx hb dX7_picture_20 (by decide) ?_
  exact ka_rRi C hr hlk rfl dX7_picture_22
set_option maxHeartbeats 4000000 in
set_option maxRecDepth 100000 in
theorem ct_X6_picture_160 (l : Launch) (D : va_G) (a0 : Nat) (a1 : Nat) (a2 : Nat) (a3 : Nat) (a4 : Nat) (a5 : Nat) (a6 : Nat) (a7 : Nat) (a8 : Nat) (k0 : ClassId) (a9 : Nat) (a10 : Nat) (a11 : Nat) (a12 : Nat) (a13 : Nat) (a14 : Nat) (a15 : Nat) (a16 : Nat) : ka_E (S := Unit) l D yX6_picture wsX6_picture 11 256 0 0 [.ref a0, .int 4, .int 0] [(a0, .inr (6, [.ref a1, .ref a2, .ref a3, .ref a4, .int (-1), .int (-1), .int 0, .int 3, .int 3])), (a1, .inr (5, [.ref a5, .int 0])), (a2, .inr (3, [.ref a1, .ref a6, .int 0, .int 0, .int 0, .int (-1), .int 3, .int 0])), (a3, .inr (0, [.ref a7, .ref a8, .int 0])), (a7, .inl (k0, 6, .inr (.inr (.inr (.inr (va_up (va_up (va_up (va_up (va_up (va_up (fun _ => none) 0 (some a9)) 1 (some a10)) 2 (some a11)) 3 (some a12)) 4 (some a13)) 5 (some a14))))))), (a13, .inr (2, [.ref a15, .ref a16, .int 0, .null]))] [(k0, .object RX2)] (fun u => some (.int (-1))) (fun _ => True) (fun u => []) (fun u => []) := by
  refine ka_E_of (cc := cX6_picture) (maxL := 4) (ret := (some .int)) (by decide) rfl (Nat.le_of_ble_eq_true rfl) ?_
  intro p e s m below meth c ls A C hr hlk hin hP hK hD hS hA hE hN hl
  have C : CallFix p m c cX6_picture 4 s [.ref a0, .int 4, .int 0].toArray wsX6_picture RX6 := C
  obtain ⟨hx, hb, hml, hown, hts⟩ := id C
  have hl : lv_has ls 4 [(0, .ref a0), (1, .int 4), (2, .int 0)] := hl
  refine lv_aload_n hx hb dX6_picture_0 rfl (lv_at hl 0 rfl) ?_
  refine lv_iload_n hx hb dX6_picture_1 rfl (lv_at hl 1 rfl) ?_
  refine ka_RV (n := 1) C (ct_X6_changeable_63 l D a0 a1 a2 a3 a4 a7 a8 k0 a9 a10 a11 a12 a13 a14) gX6_picture_X6_changeable rfl (by decide +kernel) ⟨Nat.le_of_ble_eq_true rfl, Nat.le_of_ble_eq_true rfl⟩ hK hP hS hE hN [0, 3, 4] rfl [0] rfl (ci := 6) rfl rfl 0 rfl rfl hl.1 (rest := []) rfl (Nat.le_of_ble_eq_true rfl) dX6_picture_2 ⟨Nat.le_of_ble_eq_true rfl, Nat.le_of_ble_eq_true rfl⟩ (fun v hv => ?_)
  subst hv
  refine ka_stk (w := [.ref a13]) rfl ?_
  refine lv_astore_n (lv' := [(3, .ref a13), (0, .ref a0), (1, .int 4), (2, .int 0)]) hx hb dX6_picture_5 rfl hl (by decide) rfl (fun ls hl => ?_)
  refine lv_aload_n hx hb dX6_picture_6 rfl (lv_at hl 0 rfl) ?_
  refine lv_ifnull hx hb dX6_picture_7 ?_
  refine lv_aload_n hx hb dX6_picture_10 rfl (lv_at hl 0 rfl) ?_
  refine ka_get C lq_213 rfl hK hP 5 rfl 2 (by decide) lq_214 rfl dX6_picture_11 ?_
  refine lv_bipush (v := 12) hx hb dX6_picture_14 (by decide) ?_
  refine lv_icmp_ge (tgt := 30) hx hb dX6_picture_16 (by decide) (fun c_ => absurd c_ (by decide)) (fun _ => ?_)
  refine lv_aload_n hx hb dX6_picture_19 rfl (lv_at hl 1 rfl) ?_
  refine ka_get C lq_215 rfl hK hP 0 rfl 0 (by decide) lq_216 rfl dX6_picture_20 ?_
  refine lv_iload_n hx hb dX6_picture_23 rfl (lv_at hl 3 rfl) ?_
  refine ka_RV (n := 1) C (ct_X5_offers_29 l D a1 a5) gX6_picture_X5_offers rfl (by decide +kernel) ⟨Nat.le_of_ble_eq_true rfl, Nat.le_of_ble_eq_true rfl⟩ hK hP hS hE hN [1] rfl [] rfl (ci := 5) rfl rfl 1 rfl rfl hl.1 (rest := []) rfl (Nat.le_of_ble_eq_true rfl) dX6_picture_24 ⟨Nat.le_of_ble_eq_true rfl, Nat.le_of_ble_eq_true rfl⟩ (fun v hv => ?_)
  subst hv
  refine ka_stk (w := [.int 1]) rfl ?_
  refine lv_if_ne (tgt := 33) hx hb dX6_picture_27 (by decide) (fun _ => ?_) (fun c_ => absurd c_ (by decide))
  refine lv_aload_n hx hb dX6_picture_33 rfl (lv_at hl 1 rfl) ?_
  refine lv_iload_n hx hb dX6_picture_34 rfl (lv_at hl 3 rfl) ?_
  refine ka_EV (n := 1) (wr := [(a3, .inr (0, [.ref a7, .ref a8, .int 0])), (a7, .inl (k0, 6, .inr (.inr (.inr (.inr (va_up (va_up (va_up (va_up (va_up (va_up (fun _ => none) 0 (some a9)) 1 (some a10)) 2 (some a11)) 3 (some a12)) 4 (some a13)) 5 (some a14))))))), (a13, .inr (2, [.ref a15, .ref a16, .int 0, .null]))]) C (ct_X6_readTape_46 l D a0 a1 a2 a3 a4 a5 a6) gX6_picture_X6_readTape rfl (by decide +kernel) ⟨Nat.le_of_ble_eq_true rfl, Nat.le_of_ble_eq_true rfl⟩ hK hP hD hS hA hE hN [0, 1, 2] rfl (by decide) [3, 4, 5] rfl (by decide) (by decide) [] rfl (ci := 6) rfl rfl 0 rfl rfl hl.1 (rest := []) rfl (Nat.le_of_ble_eq_true rfl) dX6_picture_35 ⟨Nat.le_of_ble_eq_true rfl, Nat.le_of_ble_eq_true rfl⟩ (fun u H locs _ hP hD hK hS => ?_)
  have hP : va_P D vwCl [(a3, .inr (0, [.ref a7, .ref a8, .int 0])), (a7, .inl (k0, 6, .inr (.inr (.inr (.inr (va_up (va_up (va_up (va_up (va_up (va_up (fun _ => none) 0 (some a9)) 1 (some a10)) 2 (some a11)) 3 (some a12)) 4 (some a13)) 5 (some a14))))))), (a13, .inr (2, [.ref a15, .ref a16, .int 0, .null])), (a0, .inr (6, [.ref a1, .ref a2, .ref a3, .ref a4, .int (-1), .int 0, .int 0, .int 3, .int 3])), (a2, .inr (3, [.ref a1, .ref a6, .int 0, .int 0, .int 0, .int 0, .int 3, .int 0])), (a1, .inr (5, [.ref a5, .int 0]))] H := hP
  have hD : va_D A [(a3, .inr (0, [.ref a7, .ref a8, .int 0])), (a7, .inl (k0, 6, .inr (.inr (.inr (.inr (va_up (va_up (va_up (va_up (va_up (va_up (fun _ => none) 0 (some a9)) 1 (some a10)) 2 (some a11)) 3 (some a12)) 4 (some a13)) 5 (some a14))))))), (a13, .inr (2, [.ref a15, .ref a16, .int 0, .null])), (a0, .inr (6, [.ref a1, .ref a2, .ref a3, .ref a4, .int (-1), .int 0, .int 0, .int 3, .int 3])), (a2, .inr (3, [.ref a1, .ref a6, .int 0, .int 0, .int 0, .int 0, .int 3, .int 0])), (a1, .inr (5, [.ref a5, .int 0]))] := hD
  have hK : va_K D vwCl [(k0, .object RX2)] s := hK
  refine ka_stk (w := [.int 0]) rfl ?_
  refine lv_if_eq (tgt := 55) hx hb dX6_picture_38 (by decide) (fun _ => ?_) (fun c_ => absurd (by decide) c_)
  refine lv_iconst (v := (-1)) hx hb dX6_picture_55 (by decide) ?_
  exact ka_rEi C hr hlk (Nat.le_of_ble_eq_true rfl) (Nat.le_of_ble_eq_true rfl) hS (ka_qE () rfl trivial hK hP hD hS [] (by decide) rfl [] rfl) dX6_picture_56
set_option maxHeartbeats 4000000 in
set_option maxRecDepth 100000 in
theorem ct_X7_picture_161 (l : Launch) (D : va_G) (a0 : Nat) (a1 : Nat) (a2 : Nat) (a3 : Nat) (a4 : Nat) (a5 : Nat) (a6 : Nat) (a7 : Nat) (a8 : Nat) (a9 : Nat) (a10 : Nat) (a11 : Nat) (a12 : Nat) (a13 : Nat) (a14 : Nat) (k0 : ClassId) (k1 : ClassId) : ka_E (S := Unit) l D yX7_picture wsX7_picture 6 137 0 0 [.ref a0, .int 4, .int 0] [(a0, .inr (7, [.ref a1, .int 0, .ref a2, .ref a3, .ref a4, .ref a5, .ref a6, .ref a7, .ref a8, .int (-1), .int 0, .int 3, .int 3, .int 0, .int 0, .int 0, .ref a9, .ref a10, .ref a11, .ref a12, .ref a13, .ref a14, .int 0, .int 0, .int 0, .int 0, .int (-1), .int 0])), (a6, .inl (k0, 6, .inl (fun _ => 0))), (a8, .inl (k1, 6, .inl (fun _ => 0)))] [(k0, .boolean), (k1, .int)] (fun u => some (.int (-1))) (fun _ => True) (fun u => []) (fun u => []) := by
  refine ka_E_of (cc := cX7_picture) (maxL := 3) (ret := (some .int)) (by decide) rfl (Nat.le_of_ble_eq_true rfl) ?_
  intro p e s m below meth c ls A C hr hlk hin hP hK hD hS hA hE hN hl
  have C : CallFix p m c cX7_picture 3 s [.ref a0, .int 4, .int 0].toArray wsX7_picture RX7 := C
  obtain ⟨hx, hb, hml, hown, hts⟩ := id C
  have hl : lv_has ls 3 [(0, .ref a0), (1, .int 4), (2, .int 0)] := hl
  refine lv_aload_n hx hb dX7_picture_0 rfl (lv_at hl 0 rfl) ?_
  refine lv_iload_n hx hb dX7_picture_1 rfl (lv_at hl 1 rfl) ?_
  refine lv_iload_n hx hb dX7_picture_2 rfl (lv_at hl 2 rfl) ?_
  refine ka_RV (n := 2) C (ct_X7_isOpenFor_115 l D a0 a1 a2 a3 a4 a5 a6 a7 a8 a9 a10 a11 a12 a13 a14 k0) gX7_picture_X7_isOpenFor rfl (by decide +kernel) ⟨Nat.le_of_ble_eq_true rfl, Nat.le_of_ble_eq_true rfl⟩ hK hP hS hE hN [0, 1] rfl [0] rfl (ci := 7) rfl rfl 0 rfl rfl hl.1 (rest := []) rfl (Nat.le_of_ble_eq_true rfl) dX7_picture_3 ⟨Nat.le_of_ble_eq_true rfl, Nat.le_of_ble_eq_true rfl⟩ (fun v hv => ?_)
  subst hv
  refine ka_stk (w := [.int 1]) rfl ?_
  refine lv_if_eq (tgt := 20) hx hb dX7_picture_6 (by decide) (fun c_ => absurd c_ (by decide)) (fun _ => ?_)
  refine lv_aload_n hx hb dX7_picture_9 rfl (lv_at hl 0 rfl) ?_
  refine ka_get C lq_217 rfl hK hP 0 rfl 8 (by decide) lq_218 rfl dX7_picture_10 ?_
  refine lv_iload_n hx hb dX7_picture_13 rfl (lv_at hl 1 rfl) ?_
  refine va_iald hx hb hK hP 2 1 rfl rfl (ka_in (by decide) (by decide)) dX7_picture_14 ?_
  refine ka_top (w := .int 0) rfl ?_
  refine lv_bipush (v := 12) hx hb dX7_picture_15 (by decide) ?_
  refine lv_icmp_ne (tgt := 23) hx hb dX7_picture_17 (by decide) (fun _ => ?_) (fun c_ => absurd c_ (by decide))
  refine lv_aload_n hx hb dX7_picture_23 rfl (lv_at hl 0 rfl) ?_
  refine lv_iload_n hx hb dX7_picture_24 rfl (lv_at hl 2 rfl) ?_
  refine ka_EV (n := 1) (wr := [(a6, .inl (k0, 6, .inl (fun _ => 0))), (a8, .inl (k1, 6, .inl (fun _ => 0)))]) C (ct_X7_reads_93 l D a0 a1 a2 a3 a4 a5 a6 a7 a8 a9 a10 a11 a12 a13 a14) gX7_picture_X7_reads rfl (by decide +kernel) ⟨Nat.le_of_ble_eq_true rfl, Nat.le_of_ble_eq_true rfl⟩ hK hP hD hS hA hE hN [0] rfl (by decide) [1, 2] rfl (by decide) (by decide) [] rfl (ci := 7) rfl rfl 0 rfl rfl hl.1 (rest := []) rfl (Nat.le_of_ble_eq_true rfl) dX7_picture_25 ⟨Nat.le_of_ble_eq_true rfl, Nat.le_of_ble_eq_true rfl⟩ (fun u H locs _ hP hD hK hS => ?_)
  have hP : va_P D vwCl [(a6, .inl (k0, 6, .inl (fun _ => 0))), (a8, .inl (k1, 6, .inl (fun _ => 0))), (a0, .inr (7, [.ref a1, .int 0, .ref a2, .ref a3, .ref a4, .ref a5, .ref a6, .ref a7, .ref a8, .int (-1), .int 0, .int 3, .int 3, .int 0, .int 0, .int 0, .ref a9, .ref a10, .ref a11, .ref a12, .ref a13, .ref a14, .int 0, .int 0, .int 0, .int 0, .int 0, .int 1]))] H := hP
  have hD : va_D A [(a6, .inl (k0, 6, .inl (fun _ => 0))), (a8, .inl (k1, 6, .inl (fun _ => 0))), (a0, .inr (7, [.ref a1, .int 0, .ref a2, .ref a3, .ref a4, .ref a5, .ref a6, .ref a7, .ref a8, .int (-1), .int 0, .int 3, .int 3, .int 0, .int 0, .int 0, .ref a9, .ref a10, .ref a11, .ref a12, .ref a13, .ref a14, .int 0, .int 0, .int 0, .int 0, .int 0, .int 1]))] := hD
  have hK : va_K D vwCl [(k0, .boolean), (k1, .int)] s := hK
  refine ka_stk (w := [.int 0]) rfl ?_
  refine lv_if_ne (tgt := 33) hx hb dX7_picture_28 (by decide) (fun c_ => absurd (by decide) c_) (fun _ => ?_)
  refine lv_iconst (v := (-1)) hx hb dX7_picture_31 (by decide) ?_
  exact ka_rEi C hr hlk (Nat.le_of_ble_eq_true rfl) (Nat.le_of_ble_eq_true rfl) hS (ka_qE () rfl trivial hK hP hD hS [] (by decide) rfl [] rfl) dX7_picture_32
set_option maxHeartbeats 4000000 in
set_option maxRecDepth 100000 in
theorem ct_X6_picture_162 (l : Launch) (D : va_G) (a0 : Nat) (x0 : Int32) (a1 : Nat) (a2 : Nat) (a3 : Nat) (a4 : Nat) (a5 : Nat) (a6 : Nat) (a7 : Nat) (k0 : ClassId) (a8 : Nat) (a9 : Nat) (a10 : Nat) (a11 : Nat) (a12 : Nat) (a13 : Nat) (a14 : Nat) (a15 : Nat) (hx0 : 1 ≤ x0.toInt) : ka_R l D yX6_picture wsX6_picture 3 63 [.ref a0, .int 4, .int x0] [(a0, .inr (6, [.ref a1, .ref a2, .ref a3, .ref a4, .int (-1), .int (-1), .int 0, .int 3, .int 3])), (a1, .inr (5, [.ref a5, .int 0])), (a3, .inr (0, [.ref a6, .ref a7, .int 0])), (a6, .inl (k0, 6, .inr (.inr (.inr (.inr (va_up (va_up (va_up (va_up (va_up (va_up (fun _ => none) 0 (some a8)) 1 (some a9)) 2 (some a10)) 3 (some a11)) 4 (some a12)) 5 (some a13))))))), (a12, .inr (2, [.ref a14, .ref a15, .int 0, .null]))] [(k0, .object RX2)] (fun v => v = some (.int (-2))) := by
  refine ka_R_of (cc := cX6_picture) (maxL := 4) (ret := (some .int)) (by decide) rfl (Nat.le_of_ble_eq_true rfl) ?_
  intro p e s m below meth c ls C hr hlk hP hK hE hN hl
  have hS : va_S (fun _ => False) s.heap s.heap [] := va_S.rf
  have C : CallFix p m c cX6_picture 4 s [.ref a0, .int 4, .int x0].toArray wsX6_picture RX6 := C
  obtain ⟨hx, hb, hml, hown, hts⟩ := id C
  have hl : lv_has ls 4 [(0, .ref a0), (1, .int 4), (2, .int x0)] := hl
  have rx0 := ka_rng x0
  refine lv_aload_n hx hb dX6_picture_0 rfl (lv_at hl 0 rfl) ?_
  refine lv_iload_n hx hb dX6_picture_1 rfl (lv_at hl 1 rfl) ?_
  refine ka_RV (n := 1) C (ct_X6_changeable_63 l D a0 a1 a2 a3 a4 a6 a7 k0 a8 a9 a10 a11 a12 a13) gX6_picture_X6_changeable rfl (by decide +kernel) ⟨Nat.le_of_ble_eq_true rfl, Nat.le_of_ble_eq_true rfl⟩ hK hP hS hE hN [0, 2, 3] rfl [0] rfl (ci := 6) rfl rfl 0 rfl rfl hl.1 (rest := []) rfl (Nat.le_of_ble_eq_true rfl) dX6_picture_2 ⟨Nat.le_of_ble_eq_true rfl, Nat.le_of_ble_eq_true rfl⟩ (fun v hv => ?_)
  subst hv
  refine ka_stk (w := [.ref a12]) rfl ?_
  refine lv_astore_n (lv' := [(3, .ref a12), (0, .ref a0), (1, .int 4), (2, .int x0)]) hx hb dX6_picture_5 rfl hl (by decide) rfl (fun ls hl => ?_)
  refine lv_aload_n hx hb dX6_picture_6 rfl (lv_at hl 0 rfl) ?_
  refine lv_ifnull hx hb dX6_picture_7 ?_
  refine lv_aload_n hx hb dX6_picture_10 rfl (lv_at hl 0 rfl) ?_
  refine ka_get C lq_213 rfl hK hP 4 rfl 2 (by decide) lq_214 rfl dX6_picture_11 ?_
  refine lv_bipush (v := 12) hx hb dX6_picture_14 (by decide) ?_
  refine lv_icmp_ge (tgt := 30) hx hb dX6_picture_16 (by decide) (fun c_ => absurd c_ (by decide)) (fun _ => ?_)
  refine lv_aload_n hx hb dX6_picture_19 rfl (lv_at hl 1 rfl) ?_
  refine ka_get C lq_215 rfl hK hP 0 rfl 0 (by decide) lq_216 rfl dX6_picture_20 ?_
  refine lv_iload_n hx hb dX6_picture_23 rfl (lv_at hl 3 rfl) ?_
  refine ka_RV (n := 1) C (ct_X5_offers_47 l D a1 x0 a5 (by omega)) gX6_picture_X5_offers rfl (by decide +kernel) ⟨Nat.le_of_ble_eq_true rfl, Nat.le_of_ble_eq_true rfl⟩ hK hP hS hE hN [1] rfl [] rfl (ci := 5) rfl rfl 1 rfl rfl hl.1 (rest := []) rfl (Nat.le_of_ble_eq_true rfl) dX6_picture_24 ⟨Nat.le_of_ble_eq_true rfl, Nat.le_of_ble_eq_true rfl⟩ (fun v hv => ?_)
  subst hv
  refine ka_stk (w := [.int 0]) rfl ?_
  refine lv_if_ne (tgt := 33) hx hb dX6_picture_27 (by decide) (fun c_ => absurd (by decide) c_) (fun _ => ?_)
  refine lv_bipush (v := (-2)) hx hb dX6_picture_30 (by decide) ?_
  exact ka_rRi C hr hlk rfl dX6_picture_32
set_option maxHeartbeats 4000000 in
set_option maxRecDepth 100000 in
theorem ct_X7_picture_163 (l : Launch) (D : va_G) (a0 : Nat) (x0 : Int32) (a1 : Nat) (a2 : Nat) (a3 : Nat) (a4 : Nat) (a5 : Nat) (a6 : Nat) (a7 : Nat) (a8 : Nat) (a9 : Nat) (a10 : Nat) (a11 : Nat) (a12 : Nat) (a13 : Nat) (a14 : Nat) (k0 : ClassId) (hx0 : 1 ≤ x0.toInt) : ka_R l D yX7_picture wsX7_picture 3 65 [.ref a0, .int 4, .int x0] [(a0, .inr (7, [.ref a1, .int 0, .ref a2, .ref a3, .ref a4, .ref a5, .ref a6, .ref a7, .ref a8, .int (-1), .int 0, .int 3, .int 3, .int 0, .int 0, .int 0, .ref a9, .ref a10, .ref a11, .ref a12, .ref a13, .ref a14, .int 0, .int 0, .int 0, .int 0, .int (-1), .int 0])), (a6, .inl (k0, 6, .inl (fun _ => 0)))] [(k0, .boolean)] (fun v => v = some (.int (-2))) := by
  refine ka_R_of (cc := cX7_picture) (maxL := 3) (ret := (some .int)) (by decide) rfl (Nat.le_of_ble_eq_true rfl) ?_
  intro p e s m below meth c ls C hr hlk hP hK hE hN hl
  have hS : va_S (fun _ => False) s.heap s.heap [] := va_S.rf
  have C : CallFix p m c cX7_picture 3 s [.ref a0, .int 4, .int x0].toArray wsX7_picture RX7 := C
  obtain ⟨hx, hb, hml, hown, hts⟩ := id C
  have hl : lv_has ls 3 [(0, .ref a0), (1, .int 4), (2, .int x0)] := hl
  have rx0 := ka_rng x0
  refine lv_aload_n hx hb dX7_picture_0 rfl (lv_at hl 0 rfl) ?_
  refine lv_iload_n hx hb dX7_picture_1 rfl (lv_at hl 1 rfl) ?_
  refine lv_iload_n hx hb dX7_picture_2 rfl (lv_at hl 2 rfl) ?_
  refine ka_RV (n := 2) C (ct_X7_isOpenFor_116 l D a0 x0 a1 a2 a3 a4 a5 a6 a7 a8 a9 a10 a11 a12 a13 a14 k0 (by omega)) gX7_picture_X7_isOpenFor rfl (by decide +kernel) ⟨Nat.le_of_ble_eq_true rfl, Nat.le_of_ble_eq_true rfl⟩ hK hP hS hE hN [0, 1] rfl [0] rfl (ci := 7) rfl rfl 0 rfl rfl hl.1 (rest := []) rfl (Nat.le_of_ble_eq_true rfl) dX7_picture_3 ⟨Nat.le_of_ble_eq_true rfl, Nat.le_of_ble_eq_true rfl⟩ (fun v hv => ?_)
  subst hv
  refine ka_stk (w := [.int 0]) rfl ?_
  refine lv_if_eq (tgt := 20) hx hb dX7_picture_6 (by decide) (fun _ => ?_) (fun c_ => absurd (by decide) c_)
  refine lv_bipush (v := (-2)) hx hb dX7_picture_20 (by decide) ?_
  exact ka_rRi C hr hlk rfl dX7_picture_22
set_option maxHeartbeats 4000000 in
set_option maxRecDepth 100000 in
theorem ct_X6_picture_164 (l : Launch) (D : va_G) (a0 : Nat) (x0 : Int32) (a1 : Nat) (a2 : Nat) (a3 : Nat) (a4 : Nat) (a5 : Nat) (a6 : Nat) (a7 : Nat) (k0 : ClassId) (a8 : Nat) (a9 : Nat) (a10 : Nat) (a11 : Nat) (a12 : Nat) (a13 : Nat) (a14 : Nat) (a15 : Nat) (hx0 : x0.toInt ≤ -1) : ka_R l D yX6_picture wsX6_picture 3 63 [.ref a0, .int 5, .int x0] [(a0, .inr (6, [.ref a1, .ref a2, .ref a3, .ref a4, .int (-1), .int (-1), .int 0, .int 3, .int 3])), (a1, .inr (5, [.ref a5, .int 0])), (a3, .inr (0, [.ref a6, .ref a7, .int 0])), (a6, .inl (k0, 6, .inr (.inr (.inr (.inr (va_up (va_up (va_up (va_up (va_up (va_up (fun _ => none) 0 (some a8)) 1 (some a9)) 2 (some a10)) 3 (some a11)) 4 (some a12)) 5 (some a13))))))), (a13, .inr (2, [.ref a14, .ref a15, .int 0, .null]))] [(k0, .object RX2)] (fun v => v = some (.int (-2))) := by
  refine ka_R_of (cc := cX6_picture) (maxL := 4) (ret := (some .int)) (by decide) rfl (Nat.le_of_ble_eq_true rfl) ?_
  intro p e s m below meth c ls C hr hlk hP hK hE hN hl
  have hS : va_S (fun _ => False) s.heap s.heap [] := va_S.rf
  have C : CallFix p m c cX6_picture 4 s [.ref a0, .int 5, .int x0].toArray wsX6_picture RX6 := C
  obtain ⟨hx, hb, hml, hown, hts⟩ := id C
  have hl : lv_has ls 4 [(0, .ref a0), (1, .int 5), (2, .int x0)] := hl
  have rx0 := ka_rng x0
  refine lv_aload_n hx hb dX6_picture_0 rfl (lv_at hl 0 rfl) ?_
  refine lv_iload_n hx hb dX6_picture_1 rfl (lv_at hl 1 rfl) ?_
  refine ka_RV (n := 1) C (ct_X6_changeable_67 l D a0 a1 a2 a3 a4 a6 a7 k0 a8 a9 a10 a11 a12 a13) gX6_picture_X6_changeable rfl (by decide +kernel) ⟨Nat.le_of_ble_eq_true rfl, Nat.le_of_ble_eq_true rfl⟩ hK hP hS hE hN [0, 2, 3] rfl [0] rfl (ci := 6) rfl rfl 0 rfl rfl hl.1 (rest := []) rfl (Nat.le_of_ble_eq_true rfl) dX6_picture_2 ⟨Nat.le_of_ble_eq_true rfl, Nat.le_of_ble_eq_true rfl⟩ (fun v hv => ?_)
  subst hv
  refine ka_stk (w := [.ref a13]) rfl ?_
  refine lv_astore_n (lv' := [(3, .ref a13), (0, .ref a0), (1, .int 5), (2, .int x0)]) hx hb dX6_picture_5 rfl hl (by decide) rfl (fun ls hl => ?_)
  refine lv_aload_n hx hb dX6_picture_6 rfl (lv_at hl 0 rfl) ?_
  refine lv_ifnull hx hb dX6_picture_7 ?_
  refine lv_aload_n hx hb dX6_picture_10 rfl (lv_at hl 0 rfl) ?_
  refine ka_get C lq_213 rfl hK hP 4 rfl 2 (by decide) lq_214 rfl dX6_picture_11 ?_
  refine lv_bipush (v := 12) hx hb dX6_picture_14 (by decide) ?_
  refine lv_icmp_ge (tgt := 30) hx hb dX6_picture_16 (by decide) (fun c_ => absurd c_ (by decide)) (fun _ => ?_)
  refine lv_aload_n hx hb dX6_picture_19 rfl (lv_at hl 1 rfl) ?_
  refine ka_get C lq_215 rfl hK hP 0 rfl 0 (by decide) lq_216 rfl dX6_picture_20 ?_
  refine lv_iload_n hx hb dX6_picture_23 rfl (lv_at hl 3 rfl) ?_
  refine ka_RV (n := 1) C (ct_X5_offers_28 l D a1 x0 (by omega)) gX6_picture_X5_offers rfl (by decide +kernel) ⟨Nat.le_of_ble_eq_true rfl, Nat.le_of_ble_eq_true rfl⟩ hK hP hS hE hN [] rfl [] rfl (ci := 5) rfl rfl 1 rfl rfl hl.1 (rest := []) rfl (Nat.le_of_ble_eq_true rfl) dX6_picture_24 ⟨Nat.le_of_ble_eq_true rfl, Nat.le_of_ble_eq_true rfl⟩ (fun v hv => ?_)
  subst hv
  refine ka_stk (w := [.int 0]) rfl ?_
  refine lv_if_ne (tgt := 33) hx hb dX6_picture_27 (by decide) (fun c_ => absurd (by decide) c_) (fun _ => ?_)
  refine lv_bipush (v := (-2)) hx hb dX6_picture_30 (by decide) ?_
  exact ka_rRi C hr hlk rfl dX6_picture_32
set_option maxHeartbeats 4000000 in
set_option maxRecDepth 100000 in
theorem ct_X7_picture_165 (l : Launch) (D : va_G) (a0 : Nat) (x0 : Int32) (a1 : Nat) (a2 : Nat) (a3 : Nat) (a4 : Nat) (a5 : Nat) (a6 : Nat) (a7 : Nat) (a8 : Nat) (a9 : Nat) (a10 : Nat) (a11 : Nat) (a12 : Nat) (a13 : Nat) (a14 : Nat) (k0 : ClassId) (hx0 : x0.toInt ≤ -1) : ka_R l D yX7_picture wsX7_picture 3 65 [.ref a0, .int 5, .int x0] [(a0, .inr (7, [.ref a1, .int 0, .ref a2, .ref a3, .ref a4, .ref a5, .ref a6, .ref a7, .ref a8, .int (-1), .int 0, .int 3, .int 3, .int 0, .int 0, .int 0, .ref a9, .ref a10, .ref a11, .ref a12, .ref a13, .ref a14, .int 0, .int 0, .int 0, .int 0, .int (-1), .int 0])), (a6, .inl (k0, 6, .inl (fun _ => 0)))] [(k0, .boolean)] (fun v => v = some (.int (-2))) := by
  refine ka_R_of (cc := cX7_picture) (maxL := 3) (ret := (some .int)) (by decide) rfl (Nat.le_of_ble_eq_true rfl) ?_
  intro p e s m below meth c ls C hr hlk hP hK hE hN hl
  have hS : va_S (fun _ => False) s.heap s.heap [] := va_S.rf
  have C : CallFix p m c cX7_picture 3 s [.ref a0, .int 5, .int x0].toArray wsX7_picture RX7 := C
  obtain ⟨hx, hb, hml, hown, hts⟩ := id C
  have hl : lv_has ls 3 [(0, .ref a0), (1, .int 5), (2, .int x0)] := hl
  have rx0 := ka_rng x0
  refine lv_aload_n hx hb dX7_picture_0 rfl (lv_at hl 0 rfl) ?_
  refine lv_iload_n hx hb dX7_picture_1 rfl (lv_at hl 1 rfl) ?_
  refine lv_iload_n hx hb dX7_picture_2 rfl (lv_at hl 2 rfl) ?_
  refine ka_RV (n := 2) C (ct_X7_isOpenFor_119 l D a0 x0 a1 a2 a3 a4 a5 a6 a7 a8 a9 a10 a11 a12 a13 a14 k0 (by omega)) gX7_picture_X7_isOpenFor rfl (by decide +kernel) ⟨Nat.le_of_ble_eq_true rfl, Nat.le_of_ble_eq_true rfl⟩ hK hP hS hE hN [0, 1] rfl [0] rfl (ci := 7) rfl rfl 0 rfl rfl hl.1 (rest := []) rfl (Nat.le_of_ble_eq_true rfl) dX7_picture_3 ⟨Nat.le_of_ble_eq_true rfl, Nat.le_of_ble_eq_true rfl⟩ (fun v hv => ?_)
  subst hv
  refine ka_stk (w := [.int 0]) rfl ?_
  refine lv_if_eq (tgt := 20) hx hb dX7_picture_6 (by decide) (fun _ => ?_) (fun c_ => absurd (by decide) c_)
  refine lv_bipush (v := (-2)) hx hb dX7_picture_20 (by decide) ?_
  exact ka_rRi C hr hlk rfl dX7_picture_22
set_option maxHeartbeats 4000000 in
set_option maxRecDepth 100000 in
theorem ct_X6_picture_166 (l : Launch) (D : va_G) (a0 : Nat) (a1 : Nat) (a2 : Nat) (a3 : Nat) (a4 : Nat) (a5 : Nat) (a6 : Nat) (a7 : Nat) (a8 : Nat) (k0 : ClassId) (a9 : Nat) (a10 : Nat) (a11 : Nat) (a12 : Nat) (a13 : Nat) (a14 : Nat) (a15 : Nat) (a16 : Nat) : ka_E (S := Unit) l D yX6_picture wsX6_picture 11 256 0 0 [.ref a0, .int 5, .int 0] [(a0, .inr (6, [.ref a1, .ref a2, .ref a3, .ref a4, .int (-1), .int (-1), .int 0, .int 3, .int 3])), (a1, .inr (5, [.ref a5, .int 0])), (a2, .inr (3, [.ref a1, .ref a6, .int 0, .int 0, .int 0, .int (-1), .int 3, .int 0])), (a3, .inr (0, [.ref a7, .ref a8, .int 0])), (a7, .inl (k0, 6, .inr (.inr (.inr (.inr (va_up (va_up (va_up (va_up (va_up (va_up (fun _ => none) 0 (some a9)) 1 (some a10)) 2 (some a11)) 3 (some a12)) 4 (some a13)) 5 (some a14))))))), (a14, .inr (2, [.ref a15, .ref a16, .int 0, .null]))] [(k0, .object RX2)] (fun u => some (.int (-1))) (fun _ => True) (fun u => []) (fun u => []) := by
  refine ka_E_of (cc := cX6_picture) (maxL := 4) (ret := (some .int)) (by decide) rfl (Nat.le_of_ble_eq_true rfl) ?_
  intro p e s m below meth c ls A C hr hlk hin hP hK hD hS hA hE hN hl
  have C : CallFix p m c cX6_picture 4 s [.ref a0, .int 5, .int 0].toArray wsX6_picture RX6 := C
  obtain ⟨hx, hb, hml, hown, hts⟩ := id C
  have hl : lv_has ls 4 [(0, .ref a0), (1, .int 5), (2, .int 0)] := hl
  refine lv_aload_n hx hb dX6_picture_0 rfl (lv_at hl 0 rfl) ?_
  refine lv_iload_n hx hb dX6_picture_1 rfl (lv_at hl 1 rfl) ?_
  refine ka_RV (n := 1) C (ct_X6_changeable_67 l D a0 a1 a2 a3 a4 a7 a8 k0 a9 a10 a11 a12 a13 a14) gX6_picture_X6_changeable rfl (by decide +kernel) ⟨Nat.le_of_ble_eq_true rfl, Nat.le_of_ble_eq_true rfl⟩ hK hP hS hE hN [0, 3, 4] rfl [0] rfl (ci := 6) rfl rfl 0 rfl rfl hl.1 (rest := []) rfl (Nat.le_of_ble_eq_true rfl) dX6_picture_2 ⟨Nat.le_of_ble_eq_true rfl, Nat.le_of_ble_eq_true rfl⟩ (fun v hv => ?_)
  subst hv
  refine ka_stk (w := [.ref a14]) rfl ?_
  refine lv_astore_n (lv' := [(3, .ref a14), (0, .ref a0), (1, .int 5), (2, .int 0)]) hx hb dX6_picture_5 rfl hl (by decide) rfl (fun ls hl => ?_)
  refine lv_aload_n hx hb dX6_picture_6 rfl (lv_at hl 0 rfl) ?_
  refine lv_ifnull hx hb dX6_picture_7 ?_
  refine lv_aload_n hx hb dX6_picture_10 rfl (lv_at hl 0 rfl) ?_
  refine ka_get C lq_213 rfl hK hP 5 rfl 2 (by decide) lq_214 rfl dX6_picture_11 ?_
  refine lv_bipush (v := 12) hx hb dX6_picture_14 (by decide) ?_
  refine lv_icmp_ge (tgt := 30) hx hb dX6_picture_16 (by decide) (fun c_ => absurd c_ (by decide)) (fun _ => ?_)
  refine lv_aload_n hx hb dX6_picture_19 rfl (lv_at hl 1 rfl) ?_
  refine ka_get C lq_215 rfl hK hP 0 rfl 0 (by decide) lq_216 rfl dX6_picture_20 ?_
  refine lv_iload_n hx hb dX6_picture_23 rfl (lv_at hl 3 rfl) ?_
  refine ka_RV (n := 1) C (ct_X5_offers_29 l D a1 a5) gX6_picture_X5_offers rfl (by decide +kernel) ⟨Nat.le_of_ble_eq_true rfl, Nat.le_of_ble_eq_true rfl⟩ hK hP hS hE hN [1] rfl [] rfl (ci := 5) rfl rfl 1 rfl rfl hl.1 (rest := []) rfl (Nat.le_of_ble_eq_true rfl) dX6_picture_24 ⟨Nat.le_of_ble_eq_true rfl, Nat.le_of_ble_eq_true rfl⟩ (fun v hv => ?_)
  subst hv
  refine ka_stk (w := [.int 1]) rfl ?_
  refine lv_if_ne (tgt := 33) hx hb dX6_picture_27 (by decide) (fun _ => ?_) (fun c_ => absurd c_ (by decide))
  refine lv_aload_n hx hb dX6_picture_33 rfl (lv_at hl 1 rfl) ?_
  refine lv_iload_n hx hb dX6_picture_34 rfl (lv_at hl 3 rfl) ?_
  refine ka_EV (n := 1) (wr := [(a3, .inr (0, [.ref a7, .ref a8, .int 0])), (a7, .inl (k0, 6, .inr (.inr (.inr (.inr (va_up (va_up (va_up (va_up (va_up (va_up (fun _ => none) 0 (some a9)) 1 (some a10)) 2 (some a11)) 3 (some a12)) 4 (some a13)) 5 (some a14))))))), (a14, .inr (2, [.ref a15, .ref a16, .int 0, .null]))]) C (ct_X6_readTape_46 l D a0 a1 a2 a3 a4 a5 a6) gX6_picture_X6_readTape rfl (by decide +kernel) ⟨Nat.le_of_ble_eq_true rfl, Nat.le_of_ble_eq_true rfl⟩ hK hP hD hS hA hE hN [0, 1, 2] rfl (by decide) [3, 4, 5] rfl (by decide) (by decide) [] rfl (ci := 6) rfl rfl 0 rfl rfl hl.1 (rest := []) rfl (Nat.le_of_ble_eq_true rfl) dX6_picture_35 ⟨Nat.le_of_ble_eq_true rfl, Nat.le_of_ble_eq_true rfl⟩ (fun u H locs _ hP hD hK hS => ?_)
  have hP : va_P D vwCl [(a3, .inr (0, [.ref a7, .ref a8, .int 0])), (a7, .inl (k0, 6, .inr (.inr (.inr (.inr (va_up (va_up (va_up (va_up (va_up (va_up (fun _ => none) 0 (some a9)) 1 (some a10)) 2 (some a11)) 3 (some a12)) 4 (some a13)) 5 (some a14))))))), (a14, .inr (2, [.ref a15, .ref a16, .int 0, .null])), (a0, .inr (6, [.ref a1, .ref a2, .ref a3, .ref a4, .int (-1), .int 0, .int 0, .int 3, .int 3])), (a2, .inr (3, [.ref a1, .ref a6, .int 0, .int 0, .int 0, .int 0, .int 3, .int 0])), (a1, .inr (5, [.ref a5, .int 0]))] H := hP
  have hD : va_D A [(a3, .inr (0, [.ref a7, .ref a8, .int 0])), (a7, .inl (k0, 6, .inr (.inr (.inr (.inr (va_up (va_up (va_up (va_up (va_up (va_up (fun _ => none) 0 (some a9)) 1 (some a10)) 2 (some a11)) 3 (some a12)) 4 (some a13)) 5 (some a14))))))), (a14, .inr (2, [.ref a15, .ref a16, .int 0, .null])), (a0, .inr (6, [.ref a1, .ref a2, .ref a3, .ref a4, .int (-1), .int 0, .int 0, .int 3, .int 3])), (a2, .inr (3, [.ref a1, .ref a6, .int 0, .int 0, .int 0, .int 0, .int 3, .int 0])), (a1, .inr (5, [.ref a5, .int 0]))] := hD
  have hK : va_K D vwCl [(k0, .object RX2)] s := hK
  refine ka_stk (w := [.int 0]) rfl ?_
  refine lv_if_eq (tgt := 55) hx hb dX6_picture_38 (by decide) (fun _ => ?_) (fun c_ => absurd (by decide) c_)
  refine lv_iconst (v := (-1)) hx hb dX6_picture_55 (by decide) ?_
  exact ka_rEi C hr hlk (Nat.le_of_ble_eq_true rfl) (Nat.le_of_ble_eq_true rfl) hS (ka_qE () rfl trivial hK hP hD hS [] (by decide) rfl [] rfl) dX6_picture_56
set_option maxHeartbeats 4000000 in
set_option maxRecDepth 100000 in
theorem ct_X7_picture_167 (l : Launch) (D : va_G) (a0 : Nat) (a1 : Nat) (a2 : Nat) (a3 : Nat) (a4 : Nat) (a5 : Nat) (a6 : Nat) (a7 : Nat) (a8 : Nat) (a9 : Nat) (a10 : Nat) (a11 : Nat) (a12 : Nat) (a13 : Nat) (a14 : Nat) (k0 : ClassId) (k1 : ClassId) : ka_E (S := Unit) l D yX7_picture wsX7_picture 6 137 0 0 [.ref a0, .int 5, .int 0] [(a0, .inr (7, [.ref a1, .int 0, .ref a2, .ref a3, .ref a4, .ref a5, .ref a6, .ref a7, .ref a8, .int (-1), .int 0, .int 3, .int 3, .int 0, .int 0, .int 0, .ref a9, .ref a10, .ref a11, .ref a12, .ref a13, .ref a14, .int 0, .int 0, .int 0, .int 0, .int (-1), .int 0])), (a6, .inl (k0, 6, .inl (fun _ => 0))), (a8, .inl (k1, 6, .inl (fun _ => 0)))] [(k0, .boolean), (k1, .int)] (fun u => some (.int (-1))) (fun _ => True) (fun u => []) (fun u => []) := by
  refine ka_E_of (cc := cX7_picture) (maxL := 3) (ret := (some .int)) (by decide) rfl (Nat.le_of_ble_eq_true rfl) ?_
  intro p e s m below meth c ls A C hr hlk hin hP hK hD hS hA hE hN hl
  have C : CallFix p m c cX7_picture 3 s [.ref a0, .int 5, .int 0].toArray wsX7_picture RX7 := C
  obtain ⟨hx, hb, hml, hown, hts⟩ := id C
  have hl : lv_has ls 3 [(0, .ref a0), (1, .int 5), (2, .int 0)] := hl
  refine lv_aload_n hx hb dX7_picture_0 rfl (lv_at hl 0 rfl) ?_
  refine lv_iload_n hx hb dX7_picture_1 rfl (lv_at hl 1 rfl) ?_
  refine lv_iload_n hx hb dX7_picture_2 rfl (lv_at hl 2 rfl) ?_
  refine ka_RV (n := 2) C (ct_X7_isOpenFor_120 l D a0 a1 a2 a3 a4 a5 a6 a7 a8 a9 a10 a11 a12 a13 a14 k0) gX7_picture_X7_isOpenFor rfl (by decide +kernel) ⟨Nat.le_of_ble_eq_true rfl, Nat.le_of_ble_eq_true rfl⟩ hK hP hS hE hN [0, 1] rfl [0] rfl (ci := 7) rfl rfl 0 rfl rfl hl.1 (rest := []) rfl (Nat.le_of_ble_eq_true rfl) dX7_picture_3 ⟨Nat.le_of_ble_eq_true rfl, Nat.le_of_ble_eq_true rfl⟩ (fun v hv => ?_)
  subst hv
  refine ka_stk (w := [.int 1]) rfl ?_
  refine lv_if_eq (tgt := 20) hx hb dX7_picture_6 (by decide) (fun c_ => absurd c_ (by decide)) (fun _ => ?_)
  refine lv_aload_n hx hb dX7_picture_9 rfl (lv_at hl 0 rfl) ?_
  refine ka_get C lq_217 rfl hK hP 0 rfl 8 (by decide) lq_218 rfl dX7_picture_10 ?_
  refine lv_iload_n hx hb dX7_picture_13 rfl (lv_at hl 1 rfl) ?_
  refine va_iald hx hb hK hP 2 1 rfl rfl (ka_in (by decide) (by decide)) dX7_picture_14 ?_
  refine ka_top (w := .int 0) rfl ?_
  refine lv_bipush (v := 12) hx hb dX7_picture_15 (by decide) ?_
  refine lv_icmp_ne (tgt := 23) hx hb dX7_picture_17 (by decide) (fun _ => ?_) (fun c_ => absurd c_ (by decide))
  refine lv_aload_n hx hb dX7_picture_23 rfl (lv_at hl 0 rfl) ?_
  refine lv_iload_n hx hb dX7_picture_24 rfl (lv_at hl 2 rfl) ?_
  refine ka_EV (n := 1) (wr := [(a6, .inl (k0, 6, .inl (fun _ => 0))), (a8, .inl (k1, 6, .inl (fun _ => 0)))]) C (ct_X7_reads_93 l D a0 a1 a2 a3 a4 a5 a6 a7 a8 a9 a10 a11 a12 a13 a14) gX7_picture_X7_reads rfl (by decide +kernel) ⟨Nat.le_of_ble_eq_true rfl, Nat.le_of_ble_eq_true rfl⟩ hK hP hD hS hA hE hN [0] rfl (by decide) [1, 2] rfl (by decide) (by decide) [] rfl (ci := 7) rfl rfl 0 rfl rfl hl.1 (rest := []) rfl (Nat.le_of_ble_eq_true rfl) dX7_picture_25 ⟨Nat.le_of_ble_eq_true rfl, Nat.le_of_ble_eq_true rfl⟩ (fun u H locs _ hP hD hK hS => ?_)
  have hP : va_P D vwCl [(a6, .inl (k0, 6, .inl (fun _ => 0))), (a8, .inl (k1, 6, .inl (fun _ => 0))), (a0, .inr (7, [.ref a1, .int 0, .ref a2, .ref a3, .ref a4, .ref a5, .ref a6, .ref a7, .ref a8, .int (-1), .int 0, .int 3, .int 3, .int 0, .int 0, .int 0, .ref a9, .ref a10, .ref a11, .ref a12, .ref a13, .ref a14, .int 0, .int 0, .int 0, .int 0, .int 0, .int 1]))] H := hP
  have hD : va_D A [(a6, .inl (k0, 6, .inl (fun _ => 0))), (a8, .inl (k1, 6, .inl (fun _ => 0))), (a0, .inr (7, [.ref a1, .int 0, .ref a2, .ref a3, .ref a4, .ref a5, .ref a6, .ref a7, .ref a8, .int (-1), .int 0, .int 3, .int 3, .int 0, .int 0, .int 0, .ref a9, .ref a10, .ref a11, .ref a12, .ref a13, .ref a14, .int 0, .int 0, .int 0, .int 0, .int 0, .int 1]))] := hD
  have hK : va_K D vwCl [(k0, .boolean), (k1, .int)] s := hK
  refine ka_stk (w := [.int 0]) rfl ?_
  refine lv_if_ne (tgt := 33) hx hb dX7_picture_28 (by decide) (fun c_ => absurd (by decide) c_) (fun _ => ?_)
  refine lv_iconst (v := (-1)) hx hb dX7_picture_31 (by decide) ?_
  exact ka_rEi C hr hlk (Nat.le_of_ble_eq_true rfl) (Nat.le_of_ble_eq_true rfl) hS (ka_qE () rfl trivial hK hP hD hS [] (by decide) rfl [] rfl) dX7_picture_32
set_option maxHeartbeats 4000000 in
set_option maxRecDepth 100000 in
theorem ct_X6_picture_168 (l : Launch) (D : va_G) (a0 : Nat) (x0 : Int32) (a1 : Nat) (a2 : Nat) (a3 : Nat) (a4 : Nat) (a5 : Nat) (a6 : Nat) (a7 : Nat) (k0 : ClassId) (a8 : Nat) (a9 : Nat) (a10 : Nat) (a11 : Nat) (a12 : Nat) (a13 : Nat) (a14 : Nat) (a15 : Nat) (hx0 : 1 ≤ x0.toInt) : ka_R l D yX6_picture wsX6_picture 3 63 [.ref a0, .int 5, .int x0] [(a0, .inr (6, [.ref a1, .ref a2, .ref a3, .ref a4, .int (-1), .int (-1), .int 0, .int 3, .int 3])), (a1, .inr (5, [.ref a5, .int 0])), (a3, .inr (0, [.ref a6, .ref a7, .int 0])), (a6, .inl (k0, 6, .inr (.inr (.inr (.inr (va_up (va_up (va_up (va_up (va_up (va_up (fun _ => none) 0 (some a8)) 1 (some a9)) 2 (some a10)) 3 (some a11)) 4 (some a12)) 5 (some a13))))))), (a13, .inr (2, [.ref a14, .ref a15, .int 0, .null]))] [(k0, .object RX2)] (fun v => v = some (.int (-2))) := by
  refine ka_R_of (cc := cX6_picture) (maxL := 4) (ret := (some .int)) (by decide) rfl (Nat.le_of_ble_eq_true rfl) ?_
  intro p e s m below meth c ls C hr hlk hP hK hE hN hl
  have hS : va_S (fun _ => False) s.heap s.heap [] := va_S.rf
  have C : CallFix p m c cX6_picture 4 s [.ref a0, .int 5, .int x0].toArray wsX6_picture RX6 := C
  obtain ⟨hx, hb, hml, hown, hts⟩ := id C
  have hl : lv_has ls 4 [(0, .ref a0), (1, .int 5), (2, .int x0)] := hl
  have rx0 := ka_rng x0
  refine lv_aload_n hx hb dX6_picture_0 rfl (lv_at hl 0 rfl) ?_
  refine lv_iload_n hx hb dX6_picture_1 rfl (lv_at hl 1 rfl) ?_
  refine ka_RV (n := 1) C (ct_X6_changeable_67 l D a0 a1 a2 a3 a4 a6 a7 k0 a8 a9 a10 a11 a12 a13) gX6_picture_X6_changeable rfl (by decide +kernel) ⟨Nat.le_of_ble_eq_true rfl, Nat.le_of_ble_eq_true rfl⟩ hK hP hS hE hN [0, 2, 3] rfl [0] rfl (ci := 6) rfl rfl 0 rfl rfl hl.1 (rest := []) rfl (Nat.le_of_ble_eq_true rfl) dX6_picture_2 ⟨Nat.le_of_ble_eq_true rfl, Nat.le_of_ble_eq_true rfl⟩ (fun v hv => ?_)
  subst hv
  refine ka_stk (w := [.ref a13]) rfl ?_
  refine lv_astore_n (lv' := [(3, .ref a13), (0, .ref a0), (1, .int 5), (2, .int x0)]) hx hb dX6_picture_5 rfl hl (by decide) rfl (fun ls hl => ?_)
  refine lv_aload_n hx hb dX6_picture_6 rfl (lv_at hl 0 rfl) ?_
  refine lv_ifnull hx hb dX6_picture_7 ?_
  refine lv_aload_n hx hb dX6_picture_10 rfl (lv_at hl 0 rfl) ?_
  refine ka_get C lq_213 rfl hK hP 4 rfl 2 (by decide) lq_214 rfl dX6_picture_11 ?_
  refine lv_bipush (v := 12) hx hb dX6_picture_14 (by decide) ?_
  refine lv_icmp_ge (tgt := 30) hx hb dX6_picture_16 (by decide) (fun c_ => absurd c_ (by decide)) (fun _ => ?_)
  refine lv_aload_n hx hb dX6_picture_19 rfl (lv_at hl 1 rfl) ?_
  refine ka_get C lq_215 rfl hK hP 0 rfl 0 (by decide) lq_216 rfl dX6_picture_20 ?_
  refine lv_iload_n hx hb dX6_picture_23 rfl (lv_at hl 3 rfl) ?_
  refine ka_RV (n := 1) C (ct_X5_offers_47 l D a1 x0 a5 (by omega)) gX6_picture_X5_offers rfl (by decide +kernel) ⟨Nat.le_of_ble_eq_true rfl, Nat.le_of_ble_eq_true rfl⟩ hK hP hS hE hN [1] rfl [] rfl (ci := 5) rfl rfl 1 rfl rfl hl.1 (rest := []) rfl (Nat.le_of_ble_eq_true rfl) dX6_picture_24 ⟨Nat.le_of_ble_eq_true rfl, Nat.le_of_ble_eq_true rfl⟩ (fun v hv => ?_)
  subst hv
  refine ka_stk (w := [.int 0]) rfl ?_
  refine lv_if_ne (tgt := 33) hx hb dX6_picture_27 (by decide) (fun c_ => absurd (by decide) c_) (fun _ => ?_)
  refine lv_bipush (v := (-2)) hx hb dX6_picture_30 (by decide) ?_
  exact ka_rRi C hr hlk rfl dX6_picture_32
set_option maxHeartbeats 4000000 in
set_option maxRecDepth 100000 in
theorem ct_X7_picture_169 (l : Launch) (D : va_G) (a0 : Nat) (x0 : Int32) (a1 : Nat) (a2 : Nat) (a3 : Nat) (a4 : Nat) (a5 : Nat) (a6 : Nat) (a7 : Nat) (a8 : Nat) (a9 : Nat) (a10 : Nat) (a11 : Nat) (a12 : Nat) (a13 : Nat) (a14 : Nat) (k0 : ClassId) (hx0 : 1 ≤ x0.toInt) : ka_R l D yX7_picture wsX7_picture 3 65 [.ref a0, .int 5, .int x0] [(a0, .inr (7, [.ref a1, .int 0, .ref a2, .ref a3, .ref a4, .ref a5, .ref a6, .ref a7, .ref a8, .int (-1), .int 0, .int 3, .int 3, .int 0, .int 0, .int 0, .ref a9, .ref a10, .ref a11, .ref a12, .ref a13, .ref a14, .int 0, .int 0, .int 0, .int 0, .int (-1), .int 0])), (a6, .inl (k0, 6, .inl (fun _ => 0)))] [(k0, .boolean)] (fun v => v = some (.int (-2))) := by
  refine ka_R_of (cc := cX7_picture) (maxL := 3) (ret := (some .int)) (by decide) rfl (Nat.le_of_ble_eq_true rfl) ?_
  intro p e s m below meth c ls C hr hlk hP hK hE hN hl
  have hS : va_S (fun _ => False) s.heap s.heap [] := va_S.rf
  have C : CallFix p m c cX7_picture 3 s [.ref a0, .int 5, .int x0].toArray wsX7_picture RX7 := C
  obtain ⟨hx, hb, hml, hown, hts⟩ := id C
  have hl : lv_has ls 3 [(0, .ref a0), (1, .int 5), (2, .int x0)] := hl
  have rx0 := ka_rng x0
  refine lv_aload_n hx hb dX7_picture_0 rfl (lv_at hl 0 rfl) ?_
  refine lv_iload_n hx hb dX7_picture_1 rfl (lv_at hl 1 rfl) ?_
  refine lv_iload_n hx hb dX7_picture_2 rfl (lv_at hl 2 rfl) ?_
  refine ka_RV (n := 2) C (ct_X7_isOpenFor_121 l D a0 x0 a1 a2 a3 a4 a5 a6 a7 a8 a9 a10 a11 a12 a13 a14 k0 (by omega)) gX7_picture_X7_isOpenFor rfl (by decide +kernel) ⟨Nat.le_of_ble_eq_true rfl, Nat.le_of_ble_eq_true rfl⟩ hK hP hS hE hN [0, 1] rfl [0] rfl (ci := 7) rfl rfl 0 rfl rfl hl.1 (rest := []) rfl (Nat.le_of_ble_eq_true rfl) dX7_picture_3 ⟨Nat.le_of_ble_eq_true rfl, Nat.le_of_ble_eq_true rfl⟩ (fun v hv => ?_)
  subst hv
  refine ka_stk (w := [.int 0]) rfl ?_
  refine lv_if_eq (tgt := 20) hx hb dX7_picture_6 (by decide) (fun _ => ?_) (fun c_ => absurd (by decide) c_)
  refine lv_bipush (v := (-2)) hx hb dX7_picture_20 (by decide) ?_
  exact ka_rRi C hr hlk rfl dX7_picture_22
set_option maxHeartbeats 4000000 in
set_option maxRecDepth 100000 in
theorem ct_X6_picture_170 (l : Launch) (D : va_G) (a0 : Nat) (x0 : Int32) (x1 : Int32) (a1 : Nat) (a2 : Nat) (a3 : Nat) (a4 : Nat) (a5 : Nat) (a6 : Nat) (hx0 : 6 ≤ x0.toInt) (hx1 : x1.toInt ≤ -1) : ka_R l D yX6_picture wsX6_picture 3 62 [.ref a0, .int x0, .int x1] [(a0, .inr (6, [.ref a1, .ref a2, .ref a3, .ref a4, .int (-1), .int (-1), .int 0, .int 3, .int 3])), (a3, .inr (0, [.ref a5, .ref a6, .int 0]))] [] (fun v => v = some (.int (-2))) := by
  refine ka_R_of (cc := cX6_picture) (maxL := 4) (ret := (some .int)) (by decide) rfl (Nat.le_of_ble_eq_true rfl) ?_
  intro p e s m below meth c ls C hr hlk hP hK hE hN hl
  have hS : va_S (fun _ => False) s.heap s.heap [] := va_S.rf
  have C : CallFix p m c cX6_picture 4 s [.ref a0, .int x0, .int x1].toArray wsX6_picture RX6 := C
  obtain ⟨hx, hb, hml, hown, hts⟩ := id C
  have hl : lv_has ls 4 [(0, .ref a0), (1, .int x0), (2, .int x1)] := hl
  have rx0 := ka_rng x0
  have rx1 := ka_rng x1
  refine lv_aload_n hx hb dX6_picture_0 rfl (lv_at hl 0 rfl) ?_
  refine lv_iload_n hx hb dX6_picture_1 rfl (lv_at hl 1 rfl) ?_
  refine ka_RV (n := 1) C (ct_X6_changeable_71 l D a0 x0 a1 a2 a3 a4 a5 a6 (by omega)) gX6_picture_X6_changeable rfl (by decide +kernel) ⟨Nat.le_of_ble_eq_true rfl, Nat.le_of_ble_eq_true rfl⟩ hK hP hS hE hN [0, 1] rfl [] rfl (ci := 6) rfl rfl 0 rfl rfl hl.1 (rest := []) rfl (Nat.le_of_ble_eq_true rfl) dX6_picture_2 ⟨Nat.le_of_ble_eq_true rfl, Nat.le_of_ble_eq_true rfl⟩ (fun v hv => ?_)
  subst hv
  refine ka_stk (w := [.null]) rfl ?_
  refine lv_astore_nN (lv' := [(3, .null), (0, .ref a0), (1, .int x0), (2, .int x1)]) hx hb dX6_picture_5 rfl hl (by decide) rfl (fun ls hl => ?_)
  refine lv_aload_nN hx hb dX6_picture_6 rfl (lv_at hl 0 rfl) ?_
  refine lv_ifnullN (tgt := 30) hx hb dX6_picture_7 (by decide) ?_
  refine lv_bipush (v := (-2)) hx hb dX6_picture_30 (by decide) ?_
  exact ka_rRi C hr hlk rfl dX6_picture_32
set_option maxHeartbeats 4000000 in
set_option maxRecDepth 100000 in
theorem ct_X7_picture_171 (l : Launch) (D : va_G) (a0 : Nat) (x0 : Int32) (x1 : Int32) (a1 : Nat) (a2 : Nat) (a3 : Nat) (a4 : Nat) (a5 : Nat) (a6 : Nat) (a7 : Nat) (a8 : Nat) (a9 : Nat) (a10 : Nat) (a11 : Nat) (a12 : Nat) (a13 : Nat) (a14 : Nat) (hx0 : 6 ≤ x0.toInt) (hx1 : x1.toInt ≤ -1) : ka_R l D yX7_picture wsX7_picture 3 64 [.ref a0, .int x0, .int x1] [(a0, .inr (7, [.ref a1, .int 0, .ref a2, .ref a3, .ref a4, .ref a5, .ref a6, .ref a7, .ref a8, .int (-1), .int 0, .int 3, .int 3, .int 0, .int 0, .int 0, .ref a9, .ref a10, .ref a11, .ref a12, .ref a13, .ref a14, .int 0, .int 0, .int 0, .int 0, .int (-1), .int 0]))] [] (fun v => v = some (.int (-2))) := by
  refine ka_R_of (cc := cX7_picture) (maxL := 3) (ret := (some .int)) (by decide) rfl (Nat.le_of_ble_eq_true rfl) ?_
  intro p e s m below meth c ls C hr hlk hP hK hE hN hl
  have hS : va_S (fun _ => False) s.heap s.heap [] := va_S.rf
  have C : CallFix p m c cX7_picture 3 s [.ref a0, .int x0, .int x1].toArray wsX7_picture RX7 := C
  obtain ⟨hx, hb, hml, hown, hts⟩ := id C
  have hl : lv_has ls 3 [(0, .ref a0), (1, .int x0), (2, .int x1)] := hl
  have rx0 := ka_rng x0
  have rx1 := ka_rng x1
  refine lv_aload_n hx hb dX7_picture_0 rfl (lv_at hl 0 rfl) ?_
  refine lv_iload_n hx hb dX7_picture_1 rfl (lv_at hl 1 rfl) ?_
  refine lv_iload_n hx hb dX7_picture_2 rfl (lv_at hl 2 rfl) ?_
  refine ka_RV (n := 2) C (ct_X7_isOpenFor_124 l D a0 x0 x1 (by omega) (by omega)) gX7_picture_X7_isOpenFor rfl (by decide +kernel) ⟨Nat.le_of_ble_eq_true rfl, Nat.le_of_ble_eq_true rfl⟩ hK hP hS hE hN [] rfl [] rfl (ci := 7) rfl rfl 0 rfl rfl hl.1 (rest := []) rfl (Nat.le_of_ble_eq_true rfl) dX7_picture_3 ⟨Nat.le_of_ble_eq_true rfl, Nat.le_of_ble_eq_true rfl⟩ (fun v hv => ?_)
  subst hv
  refine ka_stk (w := [.int 0]) rfl ?_
  refine lv_if_eq (tgt := 20) hx hb dX7_picture_6 (by decide) (fun _ => ?_) (fun c_ => absurd (by decide) c_)
  refine lv_bipush (v := (-2)) hx hb dX7_picture_20 (by decide) ?_
  exact ka_rRi C hr hlk rfl dX7_picture_22
set_option maxHeartbeats 4000000 in
set_option maxRecDepth 100000 in
theorem ct_X6_picture_172 (l : Launch) (D : va_G) (a0 : Nat) (x0 : Int32) (a1 : Nat) (a2 : Nat) (a3 : Nat) (a4 : Nat) (a5 : Nat) (a6 : Nat) (hx0 : 6 ≤ x0.toInt) : ka_R l D yX6_picture wsX6_picture 3 62 [.ref a0, .int x0, .int 0] [(a0, .inr (6, [.ref a1, .ref a2, .ref a3, .ref a4, .int (-1), .int (-1), .int 0, .int 3, .int 3])), (a3, .inr (0, [.ref a5, .ref a6, .int 0]))] [] (fun v => v = some (.int (-2))) := by
  refine ka_R_of (cc := cX6_picture) (maxL := 4) (ret := (some .int)) (by decide) rfl (Nat.le_of_ble_eq_true rfl) ?_
  intro p e s m below meth c ls C hr hlk hP hK hE hN hl
  have hS : va_S (fun _ => False) s.heap s.heap [] := va_S.rf
  have C : CallFix p m c cX6_picture 4 s [.ref a0, .int x0, .int 0].toArray wsX6_picture RX6 := C
  obtain ⟨hx, hb, hml, hown, hts⟩ := id C
  have hl : lv_has ls 4 [(0, .ref a0), (1, .int x0), (2, .int 0)] := hl
  have rx0 := ka_rng x0
  refine lv_aload_n hx hb dX6_picture_0 rfl (lv_at hl 0 rfl) ?_
  refine lv_iload_n hx hb dX6_picture_1 rfl (lv_at hl 1 rfl) ?_
  refine ka_RV (n := 1) C (ct_X6_changeable_71 l D a0 x0 a1 a2 a3 a4 a5 a6 (by omega)) gX6_picture_X6_changeable rfl (by decide +kernel) ⟨Nat.le_of_ble_eq_true rfl, Nat.le_of_ble_eq_true rfl⟩ hK hP hS hE hN [0, 1] rfl [] rfl (ci := 6) rfl rfl 0 rfl rfl hl.1 (rest := []) rfl (Nat.le_of_ble_eq_true rfl) dX6_picture_2 ⟨Nat.le_of_ble_eq_true rfl, Nat.le_of_ble_eq_true rfl⟩ (fun v hv => ?_)
  subst hv
  refine ka_stk (w := [.null]) rfl ?_
  refine lv_astore_nN (lv' := [(3, .null), (0, .ref a0), (1, .int x0), (2, .int 0)]) hx hb dX6_picture_5 rfl hl (by decide) rfl (fun ls hl => ?_)
  refine lv_aload_nN hx hb dX6_picture_6 rfl (lv_at hl 0 rfl) ?_
  refine lv_ifnullN (tgt := 30) hx hb dX6_picture_7 (by decide) ?_
  refine lv_bipush (v := (-2)) hx hb dX6_picture_30 (by decide) ?_
  exact ka_rRi C hr hlk rfl dX6_picture_32
set_option maxHeartbeats 4000000 in
set_option maxRecDepth 100000 in
theorem ct_X7_picture_173 (l : Launch) (D : va_G) (a0 : Nat) (x0 : Int32) (a1 : Nat) (a2 : Nat) (a3 : Nat) (a4 : Nat) (a5 : Nat) (a6 : Nat) (a7 : Nat) (a8 : Nat) (a9 : Nat) (a10 : Nat) (a11 : Nat) (a12 : Nat) (a13 : Nat) (a14 : Nat) (hx0 : 6 ≤ x0.toInt) : ka_R l D yX7_picture wsX7_picture 3 64 [.ref a0, .int x0, .int 0] [(a0, .inr (7, [.ref a1, .int 0, .ref a2, .ref a3, .ref a4, .ref a5, .ref a6, .ref a7, .ref a8, .int (-1), .int 0, .int 3, .int 3, .int 0, .int 0, .int 0, .ref a9, .ref a10, .ref a11, .ref a12, .ref a13, .ref a14, .int 0, .int 0, .int 0, .int 0, .int (-1), .int 0]))] [] (fun v => v = some (.int (-2))) := by
  refine ka_R_of (cc := cX7_picture) (maxL := 3) (ret := (some .int)) (by decide) rfl (Nat.le_of_ble_eq_true rfl) ?_
  intro p e s m below meth c ls C hr hlk hP hK hE hN hl
  have hS : va_S (fun _ => False) s.heap s.heap [] := va_S.rf
  have C : CallFix p m c cX7_picture 3 s [.ref a0, .int x0, .int 0].toArray wsX7_picture RX7 := C
  obtain ⟨hx, hb, hml, hown, hts⟩ := id C
  have hl : lv_has ls 3 [(0, .ref a0), (1, .int x0), (2, .int 0)] := hl
  have rx0 := ka_rng x0
  refine lv_aload_n hx hb dX7_picture_0 rfl (lv_at hl 0 rfl) ?_
  refine lv_iload_n hx hb dX7_picture_1 rfl (lv_at hl 1 rfl) ?_
  refine lv_iload_n hx hb dX7_picture_2 rfl (lv_at hl 2 rfl) ?_
  refine ka_RV (n := 2) C (ct_X7_isOpenFor_125 l D a0 x0 (by omega)) gX7_picture_X7_isOpenFor rfl (by decide +kernel) ⟨Nat.le_of_ble_eq_true rfl, Nat.le_of_ble_eq_true rfl⟩ hK hP hS hE hN [] rfl [] rfl (ci := 7) rfl rfl 0 rfl rfl hl.1 (rest := []) rfl (Nat.le_of_ble_eq_true rfl) dX7_picture_3 ⟨Nat.le_of_ble_eq_true rfl, Nat.le_of_ble_eq_true rfl⟩ (fun v hv => ?_)
  subst hv
  refine ka_stk (w := [.int 0]) rfl ?_
  refine lv_if_eq (tgt := 20) hx hb dX7_picture_6 (by decide) (fun _ => ?_) (fun c_ => absurd (by decide) c_)
  refine lv_bipush (v := (-2)) hx hb dX7_picture_20 (by decide) ?_
  exact ka_rRi C hr hlk rfl dX7_picture_22
set_option maxHeartbeats 4000000 in
set_option maxRecDepth 100000 in
theorem ct_X6_picture_174 (l : Launch) (D : va_G) (a0 : Nat) (x0 : Int32) (x1 : Int32) (a1 : Nat) (a2 : Nat) (a3 : Nat) (a4 : Nat) (a5 : Nat) (a6 : Nat) (hx0 : 6 ≤ x0.toInt) (hx1 : 1 ≤ x1.toInt) : ka_R l D yX6_picture wsX6_picture 3 62 [.ref a0, .int x0, .int x1] [(a0, .inr (6, [.ref a1, .ref a2, .ref a3, .ref a4, .int (-1), .int (-1), .int 0, .int 3, .int 3])), (a3, .inr (0, [.ref a5, .ref a6, .int 0]))] [] (fun v => v = some (.int (-2))) := by
  refine ka_R_of (cc := cX6_picture) (maxL := 4) (ret := (some .int)) (by decide) rfl (Nat.le_of_ble_eq_true rfl) ?_
  intro p e s m below meth c ls C hr hlk hP hK hE hN hl
  have hS : va_S (fun _ => False) s.heap s.heap [] := va_S.rf
  have C : CallFix p m c cX6_picture 4 s [.ref a0, .int x0, .int x1].toArray wsX6_picture RX6 := C
  obtain ⟨hx, hb, hml, hown, hts⟩ := id C
  have hl : lv_has ls 4 [(0, .ref a0), (1, .int x0), (2, .int x1)] := hl
  have rx0 := ka_rng x0
  have rx1 := ka_rng x1
  refine lv_aload_n hx hb dX6_picture_0 rfl (lv_at hl 0 rfl) ?_
  refine lv_iload_n hx hb dX6_picture_1 rfl (lv_at hl 1 rfl) ?_
  refine ka_RV (n := 1) C (ct_X6_changeable_71 l D a0 x0 a1 a2 a3 a4 a5 a6 (by omega)) gX6_picture_X6_changeable rfl (by decide +kernel) ⟨Nat.le_of_ble_eq_true rfl, Nat.le_of_ble_eq_true rfl⟩ hK hP hS hE hN [0, 1] rfl [] rfl (ci := 6) rfl rfl 0 rfl rfl hl.1 (rest := []) rfl (Nat.le_of_ble_eq_true rfl) dX6_picture_2 ⟨Nat.le_of_ble_eq_true rfl, Nat.le_of_ble_eq_true rfl⟩ (fun v hv => ?_)
  subst hv
  refine ka_stk (w := [.null]) rfl ?_
  refine lv_astore_nN (lv' := [(3, .null), (0, .ref a0), (1, .int x0), (2, .int x1)]) hx hb dX6_picture_5 rfl hl (by decide) rfl (fun ls hl => ?_)
  refine lv_aload_nN hx hb dX6_picture_6 rfl (lv_at hl 0 rfl) ?_
  refine lv_ifnullN (tgt := 30) hx hb dX6_picture_7 (by decide) ?_
  refine lv_bipush (v := (-2)) hx hb dX6_picture_30 (by decide) ?_
  exact ka_rRi C hr hlk rfl dX6_picture_32
set_option maxHeartbeats 4000000 in
set_option maxRecDepth 100000 in
theorem ct_X7_picture_175 (l : Launch) (D : va_G) (a0 : Nat) (x0 : Int32) (x1 : Int32) (a1 : Nat) (a2 : Nat) (a3 : Nat) (a4 : Nat) (a5 : Nat) (a6 : Nat) (a7 : Nat) (a8 : Nat) (a9 : Nat) (a10 : Nat) (a11 : Nat) (a12 : Nat) (a13 : Nat) (a14 : Nat) (hx0 : 6 ≤ x0.toInt) (hx1 : 1 ≤ x1.toInt) : ka_R l D yX7_picture wsX7_picture 3 64 [.ref a0, .int x0, .int x1] [(a0, .inr (7, [.ref a1, .int 0, .ref a2, .ref a3, .ref a4, .ref a5, .ref a6, .ref a7, .ref a8, .int (-1), .int 0, .int 3, .int 3, .int 0, .int 0, .int 0, .ref a9, .ref a10, .ref a11, .ref a12, .ref a13, .ref a14, .int 0, .int 0, .int 0, .int 0, .int (-1), .int 0]))] [] (fun v => v = some (.int (-2))) := by
  refine ka_R_of (cc := cX7_picture) (maxL := 3) (ret := (some .int)) (by decide) rfl (Nat.le_of_ble_eq_true rfl) ?_
  intro p e s m below meth c ls C hr hlk hP hK hE hN hl
  have hS : va_S (fun _ => False) s.heap s.heap [] := va_S.rf
  have C : CallFix p m c cX7_picture 3 s [.ref a0, .int x0, .int x1].toArray wsX7_picture RX7 := C
  obtain ⟨hx, hb, hml, hown, hts⟩ := id C
  have hl : lv_has ls 3 [(0, .ref a0), (1, .int x0), (2, .int x1)] := hl
  have rx0 := ka_rng x0
  have rx1 := ka_rng x1
  refine lv_aload_n hx hb dX7_picture_0 rfl (lv_at hl 0 rfl) ?_
  refine lv_iload_n hx hb dX7_picture_1 rfl (lv_at hl 1 rfl) ?_
  refine lv_iload_n hx hb dX7_picture_2 rfl (lv_at hl 2 rfl) ?_
  refine ka_RV (n := 2) C (ct_X7_isOpenFor_126 l D a0 x0 x1 (by omega) (by omega)) gX7_picture_X7_isOpenFor rfl (by decide +kernel) ⟨Nat.le_of_ble_eq_true rfl, Nat.le_of_ble_eq_true rfl⟩ hK hP hS hE hN [] rfl [] rfl (ci := 7) rfl rfl 0 rfl rfl hl.1 (rest := []) rfl (Nat.le_of_ble_eq_true rfl) dX7_picture_3 ⟨Nat.le_of_ble_eq_true rfl, Nat.le_of_ble_eq_true rfl⟩ (fun v hv => ?_)
  subst hv
  refine ka_stk (w := [.int 0]) rfl ?_
  refine lv_if_eq (tgt := 20) hx hb dX7_picture_6 (by decide) (fun _ => ?_) (fun c_ => absurd (by decide) c_)
  refine lv_bipush (v := (-2)) hx hb dX7_picture_20 (by decide) ?_
  exact ka_rRi C hr hlk rfl dX7_picture_22
set_option maxHeartbeats 8000000 in
set_option maxRecDepth 100000 in
theorem lc_2 {p : Program} {l : Launch} {e : Env} {s : State} {m : MethodId} {below : List Frame} {meth : Method} {c : Code} {b : Nat} {xs : Nat → Int32} {D : va_G} {A : Nat → Prop} {H : Heap} {locs : List Loc} {ls : Array Slot} {q_1 : Nat} {q_386 : Nat} {q_387 : Nat} {q_388 : Nat} {q_389 : Nat} {q_390 : Nat} {k_391 : ClassId} {q_392 : Nat} {q_393 : Nat} {q_394 : Nat} {k_395 : ClassId} {q_396 : Nat} {q_397 : Nat} {q_398 : Nat} {q_399 : Nat} {q_400 : Nat} {q_401 : Nat} {k_402 : ClassId} {q_403 : Nat} {q_404 : Nat} {q_405 : Nat} {q_406 : Nat} {q_407 : Nat} {q_408 : Nat} {q_409 : Nat} {q_410 : Nat} {q_411 : Nat} {q_412 : Nat} {q_413 : Nat} {q_414 : Nat} {q_415 : Nat} {q_416 : Nat} {q_417 : Nat} {q_418 : Nat} {q_503 : Nat} {q_504 : Nat} {q_505 : Nat} {q_506 : Nat} {q_507 : Nat} {q_508 : Nat} {q_509 : Nat} {q_510 : Nat} {q_511 : Nat} {q_512 : Nat} {q_513 : Nat} {q_514 : Nat} {q_515 : Nat} {q_516 : Nat} {k_517 : ClassId} {k_518 : ClassId} {k_519 : ClassId} {k_520 : ClassId} {k_521 : ClassId} (C : CallFix p m c cL_law 4 s #[Value.ref b] wsL_law RL) (hr : meth.sig.returnType = ret) (hlk : meth.locks = false) (hX : va_X b 6 xs s s.heap) (hbl : b < s.heap.size) (hAe : A = fun q => s.heap.size ≤ q) (hK : va_K D vwCl [(k_391, .byte), (k_395, .object RX2), (k_402, .int), (k_517, .byte), (k_518, .boolean), (k_519, .boolean), (k_520, .boolean), (k_521, .int)] s) (hP : va_P D vwCl [(q_1, .inr (6, [.ref q_386, .ref q_387, .ref q_388, .ref q_389, .int (-1), .int (-1), .int 0, .int 3, .int 3])), (q_386, .inr (5, [.ref q_390, .int 0])), (q_390, .inl (k_391, 80, .inl (fun _ => 0))), (q_387, .inr (3, [.ref q_386, .ref q_392, .int 0, .int 0, .int 0, .int (-1), .int 3, .int 0])), (q_388, .inr (0, [.ref q_393, .ref q_394, .int 0])), (q_393, .inl (k_395, 6, .inr (.inr (.inr (.inr (va_up (va_up (va_up (va_up (va_up (va_up (fun _ => none) 0 (some q_396)) 1 (some q_397)) 2 (some q_398)) 3 (some q_399)) 4 (some q_400)) 5 (some q_401))))))), (q_394, .inl (k_402, 6, .inl (fun _ => 0))), (q_396, .inr (2, [.ref q_403, .ref q_404, .int 0, .null])), (q_397, .inr (2, [.ref q_405, .ref q_406, .int 0, .null])), (q_398, .inr (2, [.ref q_407, .ref q_408, .int 0, .null])), (q_399, .inr (2, [.ref q_409, .ref q_410, .int 0, .null])), (q_400, .inr (2, [.ref q_411, .ref q_412, .int 0, .null])), (q_401, .inr (2, [.ref q_413, .ref q_414, .int 0, .null])), (q_389, .inr (4, [.ref q_415, .ref q_416, .ref q_417, .int 0, .int 0, .int 0, .int 0, .int 0, .int 0])), (q_418, .inr (7, [.ref q_503, .int 0, .ref q_504, .ref q_505, .ref q_506, .ref q_507, .ref q_508, .ref q_509, .ref q_510, .int (-1), .int 0, .int 3, .int 3, .int 0, .int 0, .int 0, .ref q_511, .ref q_512, .ref q_513, .ref q_514, .ref q_515, .ref q_516, .int 0, .int 0, .int 0, .int 0, .int (-1), .int 0])), (q_503, .inl (k_517, 80, .inl (fun _ => 0))), (q_507, .inl (k_518, 6, .inl (fun _ => 0))), (q_508, .inl (k_519, 6, .inl (fun _ => 0))), (q_509, .inl (k_520, 36, .inl (fun _ => 0))), (q_510, .inl (k_521, 6, .inl (fun _ => 0)))] H) (hD : va_D A [(q_1, .inr (6, [.ref q_386, .ref q_387, .ref q_388, .ref q_389, .int (-1), .int (-1), .int 0, .int 3, .int 3])), (q_386, .inr (5, [.ref q_390, .int 0])), (q_390, .inl (k_391, 80, .inl (fun _ => 0))), (q_387, .inr (3, [.ref q_386, .ref q_392, .int 0, .int 0, .int 0, .int (-1), .int 3, .int 0])), (q_388, .inr (0, [.ref q_393, .ref q_394, .int 0])), (q_393, .inl (k_395, 6, .inr (.inr (.inr (.inr (va_up (va_up (va_up (va_up (va_up (va_up (fun _ => none) 0 (some q_396)) 1 (some q_397)) 2 (some q_398)) 3 (some q_399)) 4 (some q_400)) 5 (some q_401))))))), (q_394, .inl (k_402, 6, .inl (fun _ => 0))), (q_396, .inr (2, [.ref q_403, .ref q_404, .int 0, .null])), (q_397, .inr (2, [.ref q_405, .ref q_406, .int 0, .null])), (q_398, .inr (2, [.ref q_407, .ref q_408, .int 0, .null])), (q_399, .inr (2, [.ref q_409, .ref q_410, .int 0, .null])), (q_400, .inr (2, [.ref q_411, .ref q_412, .int 0, .null])), (q_401, .inr (2, [.ref q_413, .ref q_414, .int 0, .null])), (q_389, .inr (4, [.ref q_415, .ref q_416, .ref q_417, .int 0, .int 0, .int 0, .int 0, .int 0, .int 0])), (q_418, .inr (7, [.ref q_503, .int 0, .ref q_504, .ref q_505, .ref q_506, .ref q_507, .ref q_508, .ref q_509, .ref q_510, .int (-1), .int 0, .int 3, .int 3, .int 0, .int 0, .int 0, .ref q_511, .ref q_512, .ref q_513, .ref q_514, .ref q_515, .ref q_516, .int 0, .int 0, .int 0, .int 0, .int (-1), .int 0])), (q_503, .inl (k_517, 80, .inl (fun _ => 0))), (q_507, .inl (k_518, 6, .inl (fun _ => 0))), (q_508, .inl (k_519, 6, .inl (fun _ => 0))), (q_509, .inl (k_520, 36, .inl (fun _ => 0))), (q_510, .inl (k_521, 6, .inl (fun _ => 0)))]) (hS : va_S A s.heap H locs) (hE : ka_SE A s s.heap) (hN : ka_NW s) (hl : lv_has ls 4 [(3, .int 0), (2, .ref q_418), (1, .ref q_1), (0, .ref b)]) : W p l e room_1 s m #[Value.ref b] below meth c H locs 45 6605 (lw_Z below #[Value.ref b] s) (F0 m 228 ls []) := by
  obtain ⟨hx, hb, hml, hown, hts⟩ := id C
  have hA : ∀ q, s.heap.size ≤ q → A q := fun q h => by rw [hAe]; exact h
  have hbA : ¬ A b := by rw [hAe]; exact Nat.not_le.mpr hbl
  obtain ⟨z0, ez0⟩ : ∃ y : Int32, y = xs 0 := ⟨_, rfl⟩
  have rz0 := ka_rng z0
  obtain ⟨z1, ez1⟩ : ∃ y : Int32, y = xs 1 := ⟨_, rfl⟩
  have rz1 := ka_rng z1
  obtain ⟨z2, ez2⟩ : ∃ y : Int32, y = xs 2 := ⟨_, rfl⟩
  have rz2 := ka_rng z2
  obtain ⟨z3, ez3⟩ : ∃ y : Int32, y = xs 3 := ⟨_, rfl⟩
  have rz3 := ka_rng z3
  obtain ⟨z4, ez4⟩ : ∃ y : Int32, y = xs 4 := ⟨_, rfl⟩
  have rz4 := ka_rng z4
  obtain ⟨z5, ez5⟩ : ∃ y : Int32, y = xs 5 := ⟨_, rfl⟩
  have rz5 := ka_rng z5
  rcases (show z1.toInt ≤ -1 ∨ z1.toInt = 0 ∨ z1.toInt = 1 ∨ z1.toInt = 2 ∨ z1.toInt = 3 ∨ z1.toInt = 4 ∨ z1.toInt = 5 ∨ 6 ≤ z1.toInt by omega) with y1 | y1 | y1 | y1 | y1 | y1 | y1 | y1
  · skip
    rcases (show z2.toInt ≤ -1 ∨ z2.toInt = 0 ∨ 1 ≤ z2.toInt by omega) with y2 | y2 | y2
    · skip
      refine lv_aload_n hx hb dL_law_228 rfl (lv_at hl 2 rfl) ?_
      refine lv_aload_n hx hb dL_law_229 rfl (lv_at hl 3 rfl) ?_
      refine lv_iload_n hx hb dL_law_230 rfl (lv_at hl 0 rfl) ?_
      refine lv_iconst (v := 1) hx hb dL_law_231 (by decide) ?_
      refine lv_iadd hx hb dL_law_232 ?_
      refine ka_top (w := .int 1) (congrArg Value.int (by decide)) ?_
      refine va_sld hx hb hX hbl hbA hS (ka_in (by decide) (by decide)) dL_law_233 ?_
      refine ka_top (w := .int z1) (congrArg Value.int ez1.symm) ?_
      refine lv_aload_n hx hb dL_law_234 rfl (lv_at hl 3 rfl) ?_
      refine lv_iload_n hx hb dL_law_235 rfl (lv_at hl 0 rfl) ?_
      refine lv_iconst (v := 2) hx hb dL_law_236 (by decide) ?_
      refine lv_iadd hx hb dL_law_237 ?_
      refine ka_top (w := .int 2) (congrArg Value.int (by decide)) ?_
      refine va_sld hx hb hX hbl hbA hS (ka_in (by decide) (by decide)) dL_law_238 ?_
      refine ka_top (w := .int z2) (congrArg Value.int ez2.symm) ?_
      refine ka_RV (n := 2) C (ct_X6_picture_128 l D q_1 z1 z2 q_386 q_387 q_388 q_389 q_393 q_394 (by omega) (by omega)) gL_law_X6_picture rfl (by decide +kernel) ⟨Nat.le_of_ble_eq_true rfl, Nat.le_of_ble_eq_true rfl⟩ hK hP hS hE hN [0, 4] rfl [] rfl (ci := 6) rfl rfl 0 rfl rfl hl.1 (rest := []) rfl (Nat.le_of_ble_eq_true rfl) dL_law_239 ⟨Nat.le_of_ble_eq_true rfl, Nat.le_of_ble_eq_true rfl⟩ (fun v hv => ?_)
      subst hv
      refine ka_stk (w := [.int (-2)]) rfl ?_
      refine lv_aload_n hx hb dL_law_242 rfl (lv_at hl 1 rfl) ?_
      refine lv_aload_n hx hb dL_law_243 rfl (lv_at hl 3 rfl) ?_
      refine lv_iload_n hx hb dL_law_244 rfl (lv_at hl 0 rfl) ?_
      refine lv_iconst (v := 1) hx hb dL_law_245 (by decide) ?_
      refine lv_iadd hx hb dL_law_246 ?_
      refine ka_top (w := .int 1) (congrArg Value.int (by decide)) ?_
      refine va_sld hx hb hX hbl hbA hS (ka_in (by decide) (by decide)) dL_law_247 ?_
      refine ka_top (w := .int z1) (congrArg Value.int ez1.symm) ?_
      refine lv_aload_n hx hb dL_law_248 rfl (lv_at hl 3 rfl) ?_
      refine lv_iload_n hx hb dL_law_249 rfl (lv_at hl 0 rfl) ?_
      refine lv_iconst (v := 2) hx hb dL_law_250 (by decide) ?_
      refine lv_iadd hx hb dL_law_251 ?_
      refine ka_top (w := .int 2) (congrArg Value.int (by decide)) ?_
      refine va_sld hx hb hX hbl hbA hS (ka_in (by decide) (by decide)) dL_law_252 ?_
      refine ka_top (w := .int z2) (congrArg Value.int ez2.symm) ?_
      refine ka_RV (n := 2) C (ct_X7_picture_129 l D q_418 z1 z2 q_503 q_504 q_505 q_506 q_507 q_508 q_509 q_510 q_511 q_512 q_513 q_514 q_515 q_516 (by omega) (by omega)) gL_law_X7_picture rfl (by decide +kernel) ⟨Nat.le_of_ble_eq_true rfl, Nat.le_of_ble_eq_true rfl⟩ hK hP hS hE hN [14] rfl [] rfl (ci := 7) rfl rfl 14 rfl rfl hl.1 (rest := [.int (-2)]) rfl (Nat.le_of_ble_eq_true rfl) dL_law_253 ⟨Nat.le_of_ble_eq_true rfl, Nat.le_of_ble_eq_true rfl⟩ (fun v hv => ?_)
      subst hv
      refine ka_stk (w := [.int (-2), .int (-2)]) rfl ?_
      refine lv_icmp_eq (tgt := 725) hx hb dL_law_256 (by decide) (fun _ => ?_) (fun c_ => absurd (by decide) c_)
      refine lv_iinc (v := 6) (lv' := [(3, .int 6), (2, .ref q_418), (1, .ref q_1), (0, .ref b)]) hx hb dL_law_725 hl (k := 0) rfl (by decide) (by decide) rfl (fun ls hl => ?_)
      refine lv_goto (tgt := 18) hx hb dL_law_728 (by decide) ?_
      refine lv_iload_n hx hb dL_law_18 rfl (lv_at hl 0 rfl) ?_
      refine lv_aload_n hx hb dL_law_19 rfl (lv_at hl 3 rfl) ?_
      refine va_slen hx hb hX hbl hbA hS dL_law_20 ?_
      refine ka_top (w := .int 6) (congrArg Value.int rfl) ?_
      refine lv_bipush (v := 6) hx hb dL_law_21 (by decide) ?_
      refine lv_isub hx hb dL_law_23 ?_
      refine ka_top (w := .int 0) (congrArg Value.int (by decide)) ?_
      refine lv_icmp_gt (tgt := 731) hx hb dL_law_24 (by decide) (fun _ => ?_) (fun c_ => absurd (by decide) c_)
      refine lv_iconst (v := 1) hx hb dL_law_731 (by decide) ?_
      refine va_forget (fun q hq => by have h9 := hS.2.2 q hq; rw [hAe] at h9; exact h9) ?_
      refine W.widen (k := 600000) (n := 7302250) (Nat.le_of_ble_eq_true rfl) (Nat.le_of_ble_eq_true rfl) ?_
      exact lw_ret hx hb hr hlk dL_law_732
    · obtain rfl : z2 = 0 := (ka_eq' _ _).mpr (y2.trans (by decide))
      refine lv_aload_n hx hb dL_law_228 rfl (lv_at hl 2 rfl) ?_
      refine lv_aload_n hx hb dL_law_229 rfl (lv_at hl 3 rfl) ?_
      refine lv_iload_n hx hb dL_law_230 rfl (lv_at hl 0 rfl) ?_
      refine lv_iconst (v := 1) hx hb dL_law_231 (by decide) ?_
      refine lv_iadd hx hb dL_law_232 ?_
      refine ka_top (w := .int 1) (congrArg Value.int (by decide)) ?_
      refine va_sld hx hb hX hbl hbA hS (ka_in (by decide) (by decide)) dL_law_233 ?_
      refine ka_top (w := .int z1) (congrArg Value.int ez1.symm) ?_
      refine lv_aload_n hx hb dL_law_234 rfl (lv_at hl 3 rfl) ?_
      refine lv_iload_n hx hb dL_law_235 rfl (lv_at hl 0 rfl) ?_
      refine lv_iconst (v := 2) hx hb dL_law_236 (by decide) ?_
      refine lv_iadd hx hb dL_law_237 ?_
      refine ka_top (w := .int 2) (congrArg Value.int (by decide)) ?_
      refine va_sld hx hb hX hbl hbA hS (ka_in (by decide) (by decide)) dL_law_238 ?_
      refine ka_top (w := .int 0) (congrArg Value.int ez2.symm) ?_
      refine ka_RV (n := 2) C (ct_X6_picture_130 l D q_1 z1 q_386 q_387 q_388 q_389 q_393 q_394 (by omega)) gL_law_X6_picture rfl (by decide +kernel) ⟨Nat.le_of_ble_eq_true rfl, Nat.le_of_ble_eq_true rfl⟩ hK hP hS hE hN [0, 4] rfl [] rfl (ci := 6) rfl rfl 0 rfl rfl hl.1 (rest := []) rfl (Nat.le_of_ble_eq_true rfl) dL_law_239 ⟨Nat.le_of_ble_eq_true rfl, Nat.le_of_ble_eq_true rfl⟩ (fun v hv => ?_)
      subst hv
      refine ka_stk (w := [.int (-2)]) rfl ?_
      refine lv_aload_n hx hb dL_law_242 rfl (lv_at hl 1 rfl) ?_
      refine lv_aload_n hx hb dL_law_243 rfl (lv_at hl 3 rfl) ?_
      refine lv_iload_n hx hb dL_law_244 rfl (lv_at hl 0 rfl) ?_
      refine lv_iconst (v := 1) hx hb dL_law_245 (by decide) ?_
      refine lv_iadd hx hb dL_law_246 ?_
      refine ka_top (w := .int 1) (congrArg Value.int (by decide)) ?_
      refine va_sld hx hb hX hbl hbA hS (ka_in (by decide) (by decide)) dL_law_247 ?_
      refine ka_top (w := .int z1) (congrArg Value.int ez1.symm) ?_
      refine lv_aload_n hx hb dL_law_248 rfl (lv_at hl 3 rfl) ?_
      refine lv_iload_n hx hb dL_law_249 rfl (lv_at hl 0 rfl) ?_
      refine lv_iconst (v := 2) hx hb dL_law_250 (by decide) ?_
      refine lv_iadd hx hb dL_law_251 ?_
      refine ka_top (w := .int 2) (congrArg Value.int (by decide)) ?_
      refine va_sld hx hb hX hbl hbA hS (ka_in (by decide) (by decide)) dL_law_252 ?_
      refine ka_top (w := .int 0) (congrArg Value.int ez2.symm) ?_
      refine ka_RV (n := 2) C (ct_X7_picture_131 l D q_418 z1 q_503 q_504 q_505 q_506 q_507 q_508 q_509 q_510 q_511 q_512 q_513 q_514 q_515 q_516 (by omega)) gL_law_X7_picture rfl (by decide +kernel) ⟨Nat.le_of_ble_eq_true rfl, Nat.le_of_ble_eq_true rfl⟩ hK hP hS hE hN [14] rfl [] rfl (ci := 7) rfl rfl 14 rfl rfl hl.1 (rest := [.int (-2)]) rfl (Nat.le_of_ble_eq_true rfl) dL_law_253 ⟨Nat.le_of_ble_eq_true rfl, Nat.le_of_ble_eq_true rfl⟩ (fun v hv => ?_)
      subst hv
      refine ka_stk (w := [.int (-2), .int (-2)]) rfl ?_
      refine lv_icmp_eq (tgt := 725) hx hb dL_law_256 (by decide) (fun _ => ?_) (fun c_ => absurd (by decide) c_)
      refine lv_iinc (v := 6) (lv' := [(3, .int 6), (2, .ref q_418), (1, .ref q_1), (0, .ref b)]) hx hb dL_law_725 hl (k := 0) rfl (by decide) (by decide) rfl (fun ls hl => ?_)
      refine lv_goto (tgt := 18) hx hb dL_law_728 (by decide) ?_
      refine lv_iload_n hx hb dL_law_18 rfl (lv_at hl 0 rfl) ?_
      refine lv_aload_n hx hb dL_law_19 rfl (lv_at hl 3 rfl) ?_
      refine va_slen hx hb hX hbl hbA hS dL_law_20 ?_
      refine ka_top (w := .int 6) (congrArg Value.int rfl) ?_
      refine lv_bipush (v := 6) hx hb dL_law_21 (by decide) ?_
      refine lv_isub hx hb dL_law_23 ?_
      refine ka_top (w := .int 0) (congrArg Value.int (by decide)) ?_
      refine lv_icmp_gt (tgt := 731) hx hb dL_law_24 (by decide) (fun _ => ?_) (fun c_ => absurd (by decide) c_)
      refine lv_iconst (v := 1) hx hb dL_law_731 (by decide) ?_
      refine va_forget (fun q hq => by have h9 := hS.2.2 q hq; rw [hAe] at h9; exact h9) ?_
      refine W.widen (k := 600000) (n := 7302250) (Nat.le_of_ble_eq_true rfl) (Nat.le_of_ble_eq_true rfl) ?_
      exact lw_ret hx hb hr hlk dL_law_732
    · skip
      refine lv_aload_n hx hb dL_law_228 rfl (lv_at hl 2 rfl) ?_
      refine lv_aload_n hx hb dL_law_229 rfl (lv_at hl 3 rfl) ?_
      refine lv_iload_n hx hb dL_law_230 rfl (lv_at hl 0 rfl) ?_
      refine lv_iconst (v := 1) hx hb dL_law_231 (by decide) ?_
      refine lv_iadd hx hb dL_law_232 ?_
      refine ka_top (w := .int 1) (congrArg Value.int (by decide)) ?_
      refine va_sld hx hb hX hbl hbA hS (ka_in (by decide) (by decide)) dL_law_233 ?_
      refine ka_top (w := .int z1) (congrArg Value.int ez1.symm) ?_
      refine lv_aload_n hx hb dL_law_234 rfl (lv_at hl 3 rfl) ?_
      refine lv_iload_n hx hb dL_law_235 rfl (lv_at hl 0 rfl) ?_
      refine lv_iconst (v := 2) hx hb dL_law_236 (by decide) ?_
      refine lv_iadd hx hb dL_law_237 ?_
      refine ka_top (w := .int 2) (congrArg Value.int (by decide)) ?_
      refine va_sld hx hb hX hbl hbA hS (ka_in (by decide) (by decide)) dL_law_238 ?_
      refine ka_top (w := .int z2) (congrArg Value.int ez2.symm) ?_
      refine ka_RV (n := 2) C (ct_X6_picture_132 l D q_1 z1 z2 q_386 q_387 q_388 q_389 q_393 q_394 (by omega) (by omega)) gL_law_X6_picture rfl (by decide +kernel) ⟨Nat.le_of_ble_eq_true rfl, Nat.le_of_ble_eq_true rfl⟩ hK hP hS hE hN [0, 4] rfl [] rfl (ci := 6) rfl rfl 0 rfl rfl hl.1 (rest := []) rfl (Nat.le_of_ble_eq_true rfl) dL_law_239 ⟨Nat.le_of_ble_eq_true rfl, Nat.le_of_ble_eq_true rfl⟩ (fun v hv => ?_)
      subst hv
      refine ka_stk (w := [.int (-2)]) rfl ?_
      refine lv_aload_n hx hb dL_law_242 rfl (lv_at hl 1 rfl) ?_
      refine lv_aload_n hx hb dL_law_243 rfl (lv_at hl 3 rfl) ?_
      refine lv_iload_n hx hb dL_law_244 rfl (lv_at hl 0 rfl) ?_
      refine lv_iconst (v := 1) hx hb dL_law_245 (by decide) ?_
      refine lv_iadd hx hb dL_law_246 ?_
      refine ka_top (w := .int 1) (congrArg Value.int (by decide)) ?_
      refine va_sld hx hb hX hbl hbA hS (ka_in (by decide) (by decide)) dL_law_247 ?_
      refine ka_top (w := .int z1) (congrArg Value.int ez1.symm) ?_
      refine lv_aload_n hx hb dL_law_248 rfl (lv_at hl 3 rfl) ?_
      refine lv_iload_n hx hb dL_law_249 rfl (lv_at hl 0 rfl) ?_
      refine lv_iconst (v := 2) hx hb dL_law_250 (by decide) ?_
      refine lv_iadd hx hb dL_law_251 ?_
      refine ka_top (w := .int 2) (congrArg Value.int (by decide)) ?_
      refine va_sld hx hb hX hbl hbA hS (ka_in (by decide) (by decide)) dL_law_252 ?_
      refine ka_top (w := .int z2) (congrArg Value.int ez2.symm) ?_
      refine ka_RV (n := 2) C (ct_X7_picture_133 l D q_418 z1 z2 q_503 q_504 q_505 q_506 q_507 q_508 q_509 q_510 q_511 q_512 q_513 q_514 q_515 q_516 (by omega) (by omega)) gL_law_X7_picture rfl (by decide +kernel) ⟨Nat.le_of_ble_eq_true rfl, Nat.le_of_ble_eq_true rfl⟩ hK hP hS hE hN [14] rfl [] rfl (ci := 7) rfl rfl 14 rfl rfl hl.1 (rest := [.int (-2)]) rfl (Nat.le_of_ble_eq_true rfl) dL_law_253 ⟨Nat.le_of_ble_eq_true rfl, Nat.le_of_ble_eq_true rfl⟩ (fun v hv => ?_)
      subst hv
      refine ka_stk (w := [.int (-2), .int (-2)]) rfl ?_
      refine lv_icmp_eq (tgt := 725) hx hb dL_law_256 (by decide) (fun _ => ?_) (fun c_ => absurd (by decide) c_)
      refine lv_iinc (v := 6) (lv' := [(3, .int 6), (2, .ref q_418), (1, .ref q_1), (0, .ref b)]) hx hb dL_law_725 hl (k := 0) rfl (by decide) (by decide) rfl (fun ls hl => ?_)
      refine lv_goto (tgt := 18) hx hb dL_law_728 (by decide) ?_
      refine lv_iload_n hx hb dL_law_18 rfl (lv_at hl 0 rfl) ?_
      refine lv_aload_n hx hb dL_law_19 rfl (lv_at hl 3 rfl) ?_
      refine va_slen hx hb hX hbl hbA hS dL_law_20 ?_
      refine ka_top (w := .int 6) (congrArg Value.int rfl) ?_
      refine lv_bipush (v := 6) hx hb dL_law_21 (by decide) ?_
      refine lv_isub hx hb dL_law_23 ?_
      refine ka_top (w := .int 0) (congrArg Value.int (by decide)) ?_
      refine lv_icmp_gt (tgt := 731) hx hb dL_law_24 (by decide) (fun _ => ?_) (fun c_ => absurd (by decide) c_)
      refine lv_iconst (v := 1) hx hb dL_law_731 (by decide) ?_
      refine va_forget (fun q hq => by have h9 := hS.2.2 q hq; rw [hAe] at h9; exact h9) ?_
      refine W.widen (k := 600000) (n := 7302250) (Nat.le_of_ble_eq_true rfl) (Nat.le_of_ble_eq_true rfl) ?_
      exact lw_ret hx hb hr hlk dL_law_732
  · obtain rfl : z1 = 0 := (ka_eq' _ _).mpr (y1.trans (by decide))
    rcases (show z2.toInt ≤ -1 ∨ z2.toInt = 0 ∨ 1 ≤ z2.toInt by omega) with y2 | y2 | y2
    · skip
      refine lv_aload_n hx hb dL_law_228 rfl (lv_at hl 2 rfl) ?_
      refine lv_aload_n hx hb dL_law_229 rfl (lv_at hl 3 rfl) ?_
      refine lv_iload_n hx hb dL_law_230 rfl (lv_at hl 0 rfl) ?_
      refine lv_iconst (v := 1) hx hb dL_law_231 (by decide) ?_
      refine lv_iadd hx hb dL_law_232 ?_
      refine ka_top (w := .int 1) (congrArg Value.int (by decide)) ?_
      refine va_sld hx hb hX hbl hbA hS (ka_in (by decide) (by decide)) dL_law_233 ?_
      refine ka_top (w := .int 0) (congrArg Value.int ez1.symm) ?_
      refine lv_aload_n hx hb dL_law_234 rfl (lv_at hl 3 rfl) ?_
      refine lv_iload_n hx hb dL_law_235 rfl (lv_at hl 0 rfl) ?_
      refine lv_iconst (v := 2) hx hb dL_law_236 (by decide) ?_
      refine lv_iadd hx hb dL_law_237 ?_
      refine ka_top (w := .int 2) (congrArg Value.int (by decide)) ?_
      refine va_sld hx hb hX hbl hbA hS (ka_in (by decide) (by decide)) dL_law_238 ?_
      refine ka_top (w := .int z2) (congrArg Value.int ez2.symm) ?_
      refine ka_RV (n := 2) C (ct_X6_picture_134 l D q_1 z2 q_386 q_387 q_388 q_389 q_390 q_393 q_394 k_395 q_396 q_397 q_398 q_399 q_400 q_401 q_403 q_404 (by omega)) gL_law_X6_picture rfl (by decide +kernel) ⟨Nat.le_of_ble_eq_true rfl, Nat.le_of_ble_eq_true rfl⟩ hK hP hS hE hN [0, 1, 4, 5, 7] rfl [1] rfl (ci := 6) rfl rfl 0 rfl rfl hl.1 (rest := []) rfl (Nat.le_of_ble_eq_true rfl) dL_law_239 ⟨Nat.le_of_ble_eq_true rfl, Nat.le_of_ble_eq_true rfl⟩ (fun v hv => ?_)
      subst hv
      refine ka_stk (w := [.int (-2)]) rfl ?_
      refine lv_aload_n hx hb dL_law_242 rfl (lv_at hl 1 rfl) ?_
      refine lv_aload_n hx hb dL_law_243 rfl (lv_at hl 3 rfl) ?_
      refine lv_iload_n hx hb dL_law_244 rfl (lv_at hl 0 rfl) ?_
      refine lv_iconst (v := 1) hx hb dL_law_245 (by decide) ?_
      refine lv_iadd hx hb dL_law_246 ?_
      refine ka_top (w := .int 1) (congrArg Value.int (by decide)) ?_
      refine va_sld hx hb hX hbl hbA hS (ka_in (by decide) (by decide)) dL_law_247 ?_
      refine ka_top (w := .int 0) (congrArg Value.int ez1.symm) ?_
      refine lv_aload_n hx hb dL_law_248 rfl (lv_at hl 3 rfl) ?_
      refine lv_iload_n hx hb dL_law_249 rfl (lv_at hl 0 rfl) ?_
      refine lv_iconst (v := 2) hx hb dL_law_250 (by decide) ?_
      refine lv_iadd hx hb dL_law_251 ?_
      refine ka_top (w := .int 2) (congrArg Value.int (by decide)) ?_
      refine va_sld hx hb hX hbl hbA hS (ka_in (by decide) (by decide)) dL_law_252 ?_
      refine ka_top (w := .int z2) (congrArg Value.int ez2.symm) ?_
      refine ka_RV (n := 2) C (ct_X7_picture_135 l D q_418 z2 q_503 q_504 q_505 q_506 q_507 q_508 q_509 q_510 q_511 q_512 q_513 q_514 q_515 q_516 k_519 (by omega)) gL_law_X7_picture rfl (by decide +kernel) ⟨Nat.le_of_ble_eq_true rfl, Nat.le_of_ble_eq_true rfl⟩ hK hP hS hE hN [14, 17] rfl [5] rfl (ci := 7) rfl rfl 14 rfl rfl hl.1 (rest := [.int (-2)]) rfl (Nat.le_of_ble_eq_true rfl) dL_law_253 ⟨Nat.le_of_ble_eq_true rfl, Nat.le_of_ble_eq_true rfl⟩ (fun v hv => ?_)
      subst hv
      refine ka_stk (w := [.int (-2), .int (-2)]) rfl ?_
      refine lv_icmp_eq (tgt := 725) hx hb dL_law_256 (by decide) (fun _ => ?_) (fun c_ => absurd (by decide) c_)
      refine lv_iinc (v := 6) (lv' := [(3, .int 6), (2, .ref q_418), (1, .ref q_1), (0, .ref b)]) hx hb dL_law_725 hl (k := 0) rfl (by decide) (by decide) rfl (fun ls hl => ?_)
      refine lv_goto (tgt := 18) hx hb dL_law_728 (by decide) ?_
      refine lv_iload_n hx hb dL_law_18 rfl (lv_at hl 0 rfl) ?_
      refine lv_aload_n hx hb dL_law_19 rfl (lv_at hl 3 rfl) ?_
      refine va_slen hx hb hX hbl hbA hS dL_law_20 ?_
      refine ka_top (w := .int 6) (congrArg Value.int rfl) ?_
      refine lv_bipush (v := 6) hx hb dL_law_21 (by decide) ?_
      refine lv_isub hx hb dL_law_23 ?_
      refine ka_top (w := .int 0) (congrArg Value.int (by decide)) ?_
      refine lv_icmp_gt (tgt := 731) hx hb dL_law_24 (by decide) (fun _ => ?_) (fun c_ => absurd (by decide) c_)
      refine lv_iconst (v := 1) hx hb dL_law_731 (by decide) ?_
      refine va_forget (fun q hq => by have h9 := hS.2.2 q hq; rw [hAe] at h9; exact h9) ?_
      refine W.widen (k := 600000) (n := 7302250) (Nat.le_of_ble_eq_true rfl) (Nat.le_of_ble_eq_true rfl) ?_
      exact lw_ret hx hb hr hlk dL_law_732
    · obtain rfl : z2 = 0 := (ka_eq' _ _).mpr (y2.trans (by decide))
      refine lv_aload_n hx hb dL_law_228 rfl (lv_at hl 2 rfl) ?_
      refine lv_aload_n hx hb dL_law_229 rfl (lv_at hl 3 rfl) ?_
      refine lv_iload_n hx hb dL_law_230 rfl (lv_at hl 0 rfl) ?_
      refine lv_iconst (v := 1) hx hb dL_law_231 (by decide) ?_
      refine lv_iadd hx hb dL_law_232 ?_
      refine ka_top (w := .int 1) (congrArg Value.int (by decide)) ?_
      refine va_sld hx hb hX hbl hbA hS (ka_in (by decide) (by decide)) dL_law_233 ?_
      refine ka_top (w := .int 0) (congrArg Value.int ez1.symm) ?_
      refine lv_aload_n hx hb dL_law_234 rfl (lv_at hl 3 rfl) ?_
      refine lv_iload_n hx hb dL_law_235 rfl (lv_at hl 0 rfl) ?_
      refine lv_iconst (v := 2) hx hb dL_law_236 (by decide) ?_
      refine lv_iadd hx hb dL_law_237 ?_
      refine ka_top (w := .int 2) (congrArg Value.int (by decide)) ?_
      refine va_sld hx hb hX hbl hbA hS (ka_in (by decide) (by decide)) dL_law_238 ?_
      refine ka_top (w := .int 0) (congrArg Value.int ez2.symm) ?_
      refine ka_EV (n := 2) (wr := [(q_390, .inl (k_391, 80, .inl (fun _ => 0))), (q_394, .inl (k_402, 6, .inl (fun _ => 0))), (q_397, .inr (2, [.ref q_405, .ref q_406, .int 0, .null])), (q_398, .inr (2, [.ref q_407, .ref q_408, .int 0, .null])), (q_399, .inr (2, [.ref q_409, .ref q_410, .int 0, .null])), (q_400, .inr (2, [.ref q_411, .ref q_412, .int 0, .null])), (q_401, .inr (2, [.ref q_413, .ref q_414, .int 0, .null])), (q_389, .inr (4, [.ref q_415, .ref q_416, .ref q_417, .int 0, .int 0, .int 0, .int 0, .int 0, .int 0])), (q_418, .inr (7, [.ref q_503, .int 0, .ref q_504, .ref q_505, .ref q_506, .ref q_507, .ref q_508, .ref q_509, .ref q_510, .int (-1), .int 0, .int 3, .int 3, .int 0, .int 0, .int 0, .ref q_511, .ref q_512, .ref q_513, .ref q_514, .ref q_515, .ref q_516, .int 0, .int 0, .int 0, .int 0, .int (-1), .int 0])), (q_503, .inl (k_517, 80, .inl (fun _ => 0))), (q_507, .inl (k_518, 6, .inl (fun _ => 0))), (q_508, .inl (k_519, 6, .inl (fun _ => 0))), (q_509, .inl (k_520, 36, .inl (fun _ => 0))), (q_510, .inl (k_521, 6, .inl (fun _ => 0)))]) C (ct_X6_picture_136 l D q_1 q_386 q_387 q_388 q_389 q_390 q_392 q_393 q_394 k_395 q_396 q_397 q_398 q_399 q_400 q_401 q_403 q_404) gL_law_X6_picture rfl (by decide +kernel) ⟨Nat.le_of_ble_eq_true rfl, Nat.le_of_ble_eq_true rfl⟩ hK hP hD hS hA hE hN [0, 1, 3, 4, 5, 7] rfl (by decide) [2, 6, 8, 9, 10, 11, 12, 13, 14, 15, 16, 17, 18, 19] rfl (by decide) (by decide) [1] rfl (ci := 6) rfl rfl 0 rfl rfl hl.1 (rest := []) rfl (Nat.le_of_ble_eq_true rfl) dL_law_239 ⟨Nat.le_of_ble_eq_true rfl, Nat.le_of_ble_eq_true rfl⟩ (fun u H locs _ hP hD hK hS => ?_)
      have hP : va_P D vwCl [(q_390, .inl (k_391, 80, .inl (fun _ => 0))), (q_394, .inl (k_402, 6, .inl (fun _ => 0))), (q_397, .inr (2, [.ref q_405, .ref q_406, .int 0, .null])), (q_398, .inr (2, [.ref q_407, .ref q_408, .int 0, .null])), (q_399, .inr (2, [.ref q_409, .ref q_410, .int 0, .null])), (q_400, .inr (2, [.ref q_411, .ref q_412, .int 0, .null])), (q_401, .inr (2, [.ref q_413, .ref q_414, .int 0, .null])), (q_389, .inr (4, [.ref q_415, .ref q_416, .ref q_417, .int 0, .int 0, .int 0, .int 0, .int 0, .int 0])), (q_418, .inr (7, [.ref q_503, .int 0, .ref q_504, .ref q_505, .ref q_506, .ref q_507, .ref q_508, .ref q_509, .ref q_510, .int (-1), .int 0, .int 3, .int 3, .int 0, .int 0, .int 0, .ref q_511, .ref q_512, .ref q_513, .ref q_514, .ref q_515, .ref q_516, .int 0, .int 0, .int 0, .int 0, .int (-1), .int 0])), (q_503, .inl (k_517, 80, .inl (fun _ => 0))), (q_507, .inl (k_518, 6, .inl (fun _ => 0))), (q_508, .inl (k_519, 6, .inl (fun _ => 0))), (q_509, .inl (k_520, 36, .inl (fun _ => 0))), (q_510, .inl (k_521, 6, .inl (fun _ => 0)))] H := hP
      have hD : va_D A [(q_390, .inl (k_391, 80, .inl (fun _ => 0))), (q_394, .inl (k_402, 6, .inl (fun _ => 0))), (q_397, .inr (2, [.ref q_405, .ref q_406, .int 0, .null])), (q_398, .inr (2, [.ref q_407, .ref q_408, .int 0, .null])), (q_399, .inr (2, [.ref q_409, .ref q_410, .int 0, .null])), (q_400, .inr (2, [.ref q_411, .ref q_412, .int 0, .null])), (q_401, .inr (2, [.ref q_413, .ref q_414, .int 0, .null])), (q_389, .inr (4, [.ref q_415, .ref q_416, .ref q_417, .int 0, .int 0, .int 0, .int 0, .int 0, .int 0])), (q_418, .inr (7, [.ref q_503, .int 0, .ref q_504, .ref q_505, .ref q_506, .ref q_507, .ref q_508, .ref q_509, .ref q_510, .int (-1), .int 0, .int 3, .int 3, .int 0, .int 0, .int 0, .ref q_511, .ref q_512, .ref q_513, .ref q_514, .ref q_515, .ref q_516, .int 0, .int 0, .int 0, .int 0, .int (-1), .int 0])), (q_503, .inl (k_517, 80, .inl (fun _ => 0))), (q_507, .inl (k_518, 6, .inl (fun _ => 0))), (q_508, .inl (k_519, 6, .inl (fun _ => 0))), (q_509, .inl (k_520, 36, .inl (fun _ => 0))), (q_510, .inl (k_521, 6, .inl (fun _ => 0)))] := hD
      have hK : va_K D vwCl [(k_391, .byte), (k_395, .object RX2), (k_402, .int), (k_517, .byte), (k_518, .boolean), (k_519, .boolean), (k_520, .boolean), (k_521, .int)] s := hK
      refine ka_stk (w := [.int (-1)]) rfl ?_
      refine lv_aload_n hx hb dL_law_242 rfl (lv_at hl 1 rfl) ?_
      refine lv_aload_n hx hb dL_law_243 rfl (lv_at hl 3 rfl) ?_
      refine lv_iload_n hx hb dL_law_244 rfl (lv_at hl 0 rfl) ?_
      refine lv_iconst (v := 1) hx hb dL_law_245 (by decide) ?_
      refine lv_iadd hx hb dL_law_246 ?_
      refine ka_top (w := .int 1) (congrArg Value.int (by decide)) ?_
      refine va_sld hx hb hX hbl hbA hS (ka_in (by decide) (by decide)) dL_law_247 ?_
      refine ka_top (w := .int 0) (congrArg Value.int ez1.symm) ?_
      refine lv_aload_n hx hb dL_law_248 rfl (lv_at hl 3 rfl) ?_
      refine lv_iload_n hx hb dL_law_249 rfl (lv_at hl 0 rfl) ?_
      refine lv_iconst (v := 2) hx hb dL_law_250 (by decide) ?_
      refine lv_iadd hx hb dL_law_251 ?_
      refine ka_top (w := .int 2) (congrArg Value.int (by decide)) ?_
      refine va_sld hx hb hX hbl hbA hS (ka_in (by decide) (by decide)) dL_law_252 ?_
      refine ka_top (w := .int 0) (congrArg Value.int ez2.symm) ?_
      refine ka_EV (n := 2) (wr := [(q_390, .inl (k_391, 80, .inl (fun _ => 0))), (q_394, .inl (k_402, 6, .inl (fun _ => 0))), (q_397, .inr (2, [.ref q_405, .ref q_406, .int 0, .null])), (q_398, .inr (2, [.ref q_407, .ref q_408, .int 0, .null])), (q_399, .inr (2, [.ref q_409, .ref q_410, .int 0, .null])), (q_400, .inr (2, [.ref q_411, .ref q_412, .int 0, .null])), (q_401, .inr (2, [.ref q_413, .ref q_414, .int 0, .null])), (q_389, .inr (4, [.ref q_415, .ref q_416, .ref q_417, .int 0, .int 0, .int 0, .int 0, .int 0, .int 0])), (q_503, .inl (k_517, 80, .inl (fun _ => 0))), (q_507, .inl (k_518, 6, .inl (fun _ => 0))), (q_509, .inl (k_520, 36, .inl (fun _ => 0)))]) C (ct_X7_picture_137 l D q_418 q_503 q_504 q_505 q_506 q_507 q_508 q_509 q_510 q_511 q_512 q_513 q_514 q_515 q_516 k_519 k_521) gL_law_X7_picture rfl (by decide +kernel) ⟨Nat.le_of_ble_eq_true rfl, Nat.le_of_ble_eq_true rfl⟩ hK hP hD hS hA hE hN [8, 11, 13] rfl (by decide) [0, 1, 2, 3, 4, 5, 6, 7, 9, 10, 12] rfl (by decide) (by decide) [5, 7] rfl (ci := 7) rfl rfl 8 rfl rfl hl.1 (rest := [.int (-1)]) rfl (Nat.le_of_ble_eq_true rfl) dL_law_253 ⟨Nat.le_of_ble_eq_true rfl, Nat.le_of_ble_eq_true rfl⟩ (fun u H locs _ hP hD hK hS => ?_)
      have hP : va_P D vwCl [(q_390, .inl (k_391, 80, .inl (fun _ => 0))), (q_394, .inl (k_402, 6, .inl (fun _ => 0))), (q_397, .inr (2, [.ref q_405, .ref q_406, .int 0, .null])), (q_398, .inr (2, [.ref q_407, .ref q_408, .int 0, .null])), (q_399, .inr (2, [.ref q_409, .ref q_410, .int 0, .null])), (q_400, .inr (2, [.ref q_411, .ref q_412, .int 0, .null])), (q_401, .inr (2, [.ref q_413, .ref q_414, .int 0, .null])), (q_389, .inr (4, [.ref q_415, .ref q_416, .ref q_417, .int 0, .int 0, .int 0, .int 0, .int 0, .int 0])), (q_503, .inl (k_517, 80, .inl (fun _ => 0))), (q_507, .inl (k_518, 6, .inl (fun _ => 0))), (q_509, .inl (k_520, 36, .inl (fun _ => 0)))] H := hP
      have hD : va_D A [(q_390, .inl (k_391, 80, .inl (fun _ => 0))), (q_394, .inl (k_402, 6, .inl (fun _ => 0))), (q_397, .inr (2, [.ref q_405, .ref q_406, .int 0, .null])), (q_398, .inr (2, [.ref q_407, .ref q_408, .int 0, .null])), (q_399, .inr (2, [.ref q_409, .ref q_410, .int 0, .null])), (q_400, .inr (2, [.ref q_411, .ref q_412, .int 0, .null])), (q_401, .inr (2, [.ref q_413, .ref q_414, .int 0, .null])), (q_389, .inr (4, [.ref q_415, .ref q_416, .ref q_417, .int 0, .int 0, .int 0, .int 0, .int 0, .int 0])), (q_503, .inl (k_517, 80, .inl (fun _ => 0))), (q_507, .inl (k_518, 6, .inl (fun _ => 0))), (q_509, .inl (k_520, 36, .inl (fun _ => 0)))] := hD
      have hK : va_K D vwCl [(k_391, .byte), (k_395, .object RX2), (k_402, .int), (k_517, .byte), (k_518, .boolean), (k_519, .boolean), (k_520, .boolean), (k_521, .int)] s := hK
      refine ka_stk (w := [.int (-1), .int (-1)]) rfl ?_
      refine lv_icmp_eq (tgt := 725) hx hb dL_law_256 (by decide) (fun _ => ?_) (fun c_ => absurd (by decide) c_)
      refine lv_iinc (v := 6) (lv' := [(3, .int 6), (2, .ref q_418), (1, .ref q_1), (0, .ref b)]) hx hb dL_law_725 hl (k := 0) rfl (by decide) (by decide) rfl (fun ls hl => ?_)
      refine lv_goto (tgt := 18) hx hb dL_law_728 (by decide) ?_
      refine lv_iload_n hx hb dL_law_18 rfl (lv_at hl 0 rfl) ?_
      refine lv_aload_n hx hb dL_law_19 rfl (lv_at hl 3 rfl) ?_
      refine va_slen hx hb hX hbl hbA hS dL_law_20 ?_
      refine ka_top (w := .int 6) (congrArg Value.int rfl) ?_
      refine lv_bipush (v := 6) hx hb dL_law_21 (by decide) ?_
      refine lv_isub hx hb dL_law_23 ?_
      refine ka_top (w := .int 0) (congrArg Value.int (by decide)) ?_
      refine lv_icmp_gt (tgt := 731) hx hb dL_law_24 (by decide) (fun _ => ?_) (fun c_ => absurd (by decide) c_)
      refine lv_iconst (v := 1) hx hb dL_law_731 (by decide) ?_
      refine va_forget (fun q hq => by have h9 := hS.2.2 q hq; rw [hAe] at h9; exact h9) ?_
      refine W.widen (k := 600000) (n := 7302250) (Nat.le_of_ble_eq_true rfl) (Nat.le_of_ble_eq_true rfl) ?_
      exact lw_ret hx hb hr hlk dL_law_732
    · skip
      refine lv_aload_n hx hb dL_law_228 rfl (lv_at hl 2 rfl) ?_
      refine lv_aload_n hx hb dL_law_229 rfl (lv_at hl 3 rfl) ?_
      refine lv_iload_n hx hb dL_law_230 rfl (lv_at hl 0 rfl) ?_
      refine lv_iconst (v := 1) hx hb dL_law_231 (by decide) ?_
      refine lv_iadd hx hb dL_law_232 ?_
      refine ka_top (w := .int 1) (congrArg Value.int (by decide)) ?_
      refine va_sld hx hb hX hbl hbA hS (ka_in (by decide) (by decide)) dL_law_233 ?_
      refine ka_top (w := .int 0) (congrArg Value.int ez1.symm) ?_
      refine lv_aload_n hx hb dL_law_234 rfl (lv_at hl 3 rfl) ?_
      refine lv_iload_n hx hb dL_law_235 rfl (lv_at hl 0 rfl) ?_
      refine lv_iconst (v := 2) hx hb dL_law_236 (by decide) ?_
      refine lv_iadd hx hb dL_law_237 ?_
      refine ka_top (w := .int 2) (congrArg Value.int (by decide)) ?_
      refine va_sld hx hb hX hbl hbA hS (ka_in (by decide) (by decide)) dL_law_238 ?_
      refine ka_top (w := .int z2) (congrArg Value.int ez2.symm) ?_
      refine ka_RV (n := 2) C (ct_X6_picture_138 l D q_1 z2 q_386 q_387 q_388 q_389 q_390 q_393 q_394 k_395 q_396 q_397 q_398 q_399 q_400 q_401 q_403 q_404 (by omega)) gL_law_X6_picture rfl (by decide +kernel) ⟨Nat.le_of_ble_eq_true rfl, Nat.le_of_ble_eq_true rfl⟩ hK hP hS hE hN [0, 1, 4, 5, 7] rfl [1] rfl (ci := 6) rfl rfl 0 rfl rfl hl.1 (rest := []) rfl (Nat.le_of_ble_eq_true rfl) dL_law_239 ⟨Nat.le_of_ble_eq_true rfl, Nat.le_of_ble_eq_true rfl⟩ (fun v hv => ?_)
      subst hv
      refine ka_stk (w := [.int (-2)]) rfl ?_
      refine lv_aload_n hx hb dL_law_242 rfl (lv_at hl 1 rfl) ?_
      refine lv_aload_n hx hb dL_law_243 rfl (lv_at hl 3 rfl) ?_
      refine lv_iload_n hx hb dL_law_244 rfl (lv_at hl 0 rfl) ?_
      refine lv_iconst (v := 1) hx hb dL_law_245 (by decide) ?_
      refine lv_iadd hx hb dL_law_246 ?_
      refine ka_top (w := .int 1) (congrArg Value.int (by decide)) ?_
      refine va_sld hx hb hX hbl hbA hS (ka_in (by decide) (by decide)) dL_law_247 ?_
      refine ka_top (w := .int 0) (congrArg Value.int ez1.symm) ?_
      refine lv_aload_n hx hb dL_law_248 rfl (lv_at hl 3 rfl) ?_
      refine lv_iload_n hx hb dL_law_249 rfl (lv_at hl 0 rfl) ?_
      refine lv_iconst (v := 2) hx hb dL_law_250 (by decide) ?_
      refine lv_iadd hx hb dL_law_251 ?_
      refine ka_top (w := .int 2) (congrArg Value.int (by decide)) ?_
      refine va_sld hx hb hX hbl hbA hS (ka_in (by decide) (by decide)) dL_law_252 ?_
      refine ka_top (w := .int z2) (congrArg Value.int ez2.symm) ?_
      refine ka_RV (n := 2) C (ct_X7_picture_139 l D q_418 z2 q_503 q_504 q_505 q_506 q_507 q_508 q_509 q_510 q_511 q_512 q_513 q_514 q_515 q_516 k_519 (by omega)) gL_law_X7_picture rfl (by decide +kernel) ⟨Nat.le_of_ble_eq_true rfl, Nat.le_of_ble_eq_true rfl⟩ hK hP hS hE hN [14, 17] rfl [5] rfl (ci := 7) rfl rfl 14 rfl rfl hl.1 (rest := [.int (-2)]) rfl (Nat.le_of_ble_eq_true rfl) dL_law_253 ⟨Nat.le_of_ble_eq_true rfl, Nat.le_of_ble_eq_true rfl⟩ (fun v hv => ?_)
      subst hv
      refine ka_stk (w := [.int (-2), .int (-2)]) rfl ?_
      refine lv_icmp_eq (tgt := 725) hx hb dL_law_256 (by decide) (fun _ => ?_) (fun c_ => absurd (by decide) c_)
      refine lv_iinc (v := 6) (lv' := [(3, .int 6), (2, .ref q_418), (1, .ref q_1), (0, .ref b)]) hx hb dL_law_725 hl (k := 0) rfl (by decide) (by decide) rfl (fun ls hl => ?_)
      refine lv_goto (tgt := 18) hx hb dL_law_728 (by decide) ?_
      refine lv_iload_n hx hb dL_law_18 rfl (lv_at hl 0 rfl) ?_
      refine lv_aload_n hx hb dL_law_19 rfl (lv_at hl 3 rfl) ?_
      refine va_slen hx hb hX hbl hbA hS dL_law_20 ?_
      refine ka_top (w := .int 6) (congrArg Value.int rfl) ?_
      refine lv_bipush (v := 6) hx hb dL_law_21 (by decide) ?_
      refine lv_isub hx hb dL_law_23 ?_
      refine ka_top (w := .int 0) (congrArg Value.int (by decide)) ?_
      refine lv_icmp_gt (tgt := 731) hx hb dL_law_24 (by decide) (fun _ => ?_) (fun c_ => absurd (by decide) c_)
      refine lv_iconst (v := 1) hx hb dL_law_731 (by decide) ?_
      refine va_forget (fun q hq => by have h9 := hS.2.2 q hq; rw [hAe] at h9; exact h9) ?_
      refine W.widen (k := 600000) (n := 7302250) (Nat.le_of_ble_eq_true rfl) (Nat.le_of_ble_eq_true rfl) ?_
      exact lw_ret hx hb hr hlk dL_law_732
  · obtain rfl : z1 = 1 := (ka_eq' _ _).mpr (y1.trans (by decide))
    rcases (show z2.toInt ≤ -1 ∨ z2.toInt = 0 ∨ 1 ≤ z2.toInt by omega) with y2 | y2 | y2
    · skip
      refine lv_aload_n hx hb dL_law_228 rfl (lv_at hl 2 rfl) ?_
      refine lv_aload_n hx hb dL_law_229 rfl (lv_at hl 3 rfl) ?_
      refine lv_iload_n hx hb dL_law_230 rfl (lv_at hl 0 rfl) ?_
      refine lv_iconst (v := 1) hx hb dL_law_231 (by decide) ?_
      refine lv_iadd hx hb dL_law_232 ?_
      refine ka_top (w := .int 1) (congrArg Value.int (by decide)) ?_
      refine va_sld hx hb hX hbl hbA hS (ka_in (by decide) (by decide)) dL_law_233 ?_
      refine ka_top (w := .int 1) (congrArg Value.int ez1.symm) ?_
      refine lv_aload_n hx hb dL_law_234 rfl (lv_at hl 3 rfl) ?_
      refine lv_iload_n hx hb dL_law_235 rfl (lv_at hl 0 rfl) ?_
      refine lv_iconst (v := 2) hx hb dL_law_236 (by decide) ?_
      refine lv_iadd hx hb dL_law_237 ?_
      refine ka_top (w := .int 2) (congrArg Value.int (by decide)) ?_
      refine va_sld hx hb hX hbl hbA hS (ka_in (by decide) (by decide)) dL_law_238 ?_
      refine ka_top (w := .int z2) (congrArg Value.int ez2.symm) ?_
      refine ka_RV (n := 2) C (ct_X6_picture_140 l D q_1 z2 q_386 q_387 q_388 q_389 q_390 q_393 q_394 k_395 q_396 q_397 q_398 q_399 q_400 q_401 q_405 q_406 (by omega)) gL_law_X6_picture rfl (by decide +kernel) ⟨Nat.le_of_ble_eq_true rfl, Nat.le_of_ble_eq_true rfl⟩ hK hP hS hE hN [0, 1, 4, 5, 8] rfl [1] rfl (ci := 6) rfl rfl 0 rfl rfl hl.1 (rest := []) rfl (Nat.le_of_ble_eq_true rfl) dL_law_239 ⟨Nat.le_of_ble_eq_true rfl, Nat.le_of_ble_eq_true rfl⟩ (fun v hv => ?_)
      subst hv
      refine ka_stk (w := [.int (-2)]) rfl ?_
      refine lv_aload_n hx hb dL_law_242 rfl (lv_at hl 1 rfl) ?_
      refine lv_aload_n hx hb dL_law_243 rfl (lv_at hl 3 rfl) ?_
      refine lv_iload_n hx hb dL_law_244 rfl (lv_at hl 0 rfl) ?_
      refine lv_iconst (v := 1) hx hb dL_law_245 (by decide) ?_
      refine lv_iadd hx hb dL_law_246 ?_
      refine ka_top (w := .int 1) (congrArg Value.int (by decide)) ?_
      refine va_sld hx hb hX hbl hbA hS (ka_in (by decide) (by decide)) dL_law_247 ?_
      refine ka_top (w := .int 1) (congrArg Value.int ez1.symm) ?_
      refine lv_aload_n hx hb dL_law_248 rfl (lv_at hl 3 rfl) ?_
      refine lv_iload_n hx hb dL_law_249 rfl (lv_at hl 0 rfl) ?_
      refine lv_iconst (v := 2) hx hb dL_law_250 (by decide) ?_
      refine lv_iadd hx hb dL_law_251 ?_
      refine ka_top (w := .int 2) (congrArg Value.int (by decide)) ?_
      refine va_sld hx hb hX hbl hbA hS (ka_in (by decide) (by decide)) dL_law_252 ?_
      refine ka_top (w := .int z2) (congrArg Value.int ez2.symm) ?_
      refine ka_RV (n := 2) C (ct_X7_picture_141 l D q_418 z2 q_503 q_504 q_505 q_506 q_507 q_508 q_509 q_510 q_511 q_512 q_513 q_514 q_515 q_516 k_519 (by omega)) gL_law_X7_picture rfl (by decide +kernel) ⟨Nat.le_of_ble_eq_true rfl, Nat.le_of_ble_eq_true rfl⟩ hK hP hS hE hN [14, 17] rfl [5] rfl (ci := 7) rfl rfl 14 rfl rfl hl.1 (rest := [.int (-2)]) rfl (Nat.le_of_ble_eq_true rfl) dL_law_253 ⟨Nat.le_of_ble_eq_true rfl, Nat.le_of_ble_eq_true rfl⟩ (fun v hv => ?_)
      subst hv
      refine ka_stk (w := [.int (-2), .int (-2)]) rfl ?_
      refine lv_icmp_eq (tgt := 725) hx hb dL_law_256 (by decide) (fun _ => ?_) (fun c_ => absurd (by decide) c_)
      refine lv_iinc (v := 6) (lv' := [(3, .int 6), (2, .ref q_418), (1, .ref q_1), (0, .ref b)]) hx hb dL_law_725 hl (k := 0) rfl (by decide) (by decide) rfl (fun ls hl => ?_)
      refine lv_goto (tgt := 18) hx hb dL_law_728 (by decide) ?_
      refine lv_iload_n hx hb dL_law_18 rfl (lv_at hl 0 rfl) ?_
      refine lv_aload_n hx hb dL_law_19 rfl (lv_at hl 3 rfl) ?_
      refine va_slen hx hb hX hbl hbA hS dL_law_20 ?_
      refine ka_top (w := .int 6) (congrArg Value.int rfl) ?_
      refine lv_bipush (v := 6) hx hb dL_law_21 (by decide) ?_
      refine lv_isub hx hb dL_law_23 ?_
      refine ka_top (w := .int 0) (congrArg Value.int (by decide)) ?_
      refine lv_icmp_gt (tgt := 731) hx hb dL_law_24 (by decide) (fun _ => ?_) (fun c_ => absurd (by decide) c_)
      refine lv_iconst (v := 1) hx hb dL_law_731 (by decide) ?_
      refine va_forget (fun q hq => by have h9 := hS.2.2 q hq; rw [hAe] at h9; exact h9) ?_
      refine W.widen (k := 600000) (n := 7302250) (Nat.le_of_ble_eq_true rfl) (Nat.le_of_ble_eq_true rfl) ?_
      exact lw_ret hx hb hr hlk dL_law_732
    · obtain rfl : z2 = 0 := (ka_eq' _ _).mpr (y2.trans (by decide))
      refine lv_aload_n hx hb dL_law_228 rfl (lv_at hl 2 rfl) ?_
      refine lv_aload_n hx hb dL_law_229 rfl (lv_at hl 3 rfl) ?_
      refine lv_iload_n hx hb dL_law_230 rfl (lv_at hl 0 rfl) ?_
      refine lv_iconst (v := 1) hx hb dL_law_231 (by decide) ?_
      refine lv_iadd hx hb dL_law_232 ?_
      refine ka_top (w := .int 1) (congrArg Value.int (by decide)) ?_
      refine va_sld hx hb hX hbl hbA hS (ka_in (by decide) (by decide)) dL_law_233 ?_
      refine ka_top (w := .int 1) (congrArg Value.int ez1.symm) ?_
      refine lv_aload_n hx hb dL_law_234 rfl (lv_at hl 3 rfl) ?_
      refine lv_iload_n hx hb dL_law_235 rfl (lv_at hl 0 rfl) ?_
      refine lv_iconst (v := 2) hx hb dL_law_236 (by decide) ?_
      refine lv_iadd hx hb dL_law_237 ?_
      refine ka_top (w := .int 2) (congrArg Value.int (by decide)) ?_
      refine va_sld hx hb hX hbl hbA hS (ka_in (by decide) (by decide)) dL_law_238 ?_
      refine ka_top (w := .int 0) (congrArg Value.int ez2.symm) ?_
      refine ka_EV (n := 2) (wr := [(q_390, .inl (k_391, 80, .inl (fun _ => 0))), (q_394, .inl (k_402, 6, .inl (fun _ => 0))), (q_396, .inr (2, [.ref q_403, .ref q_404, .int 0, .null])), (q_398, .inr (2, [.ref q_407, .ref q_408, .int 0, .null])), (q_399, .inr (2, [.ref q_409, .ref q_410, .int 0, .null])), (q_400, .inr (2, [.ref q_411, .ref q_412, .int 0, .null])), (q_401, .inr (2, [.ref q_413, .ref q_414, .int 0, .null])), (q_389, .inr (4, [.ref q_415, .ref q_416, .ref q_417, .int 0, .int 0, .int 0, .int 0, .int 0, .int 0])), (q_418, .inr (7, [.ref q_503, .int 0, .ref q_504, .ref q_505, .ref q_506, .ref q_507, .ref q_508, .ref q_509, .ref q_510, .int (-1), .int 0, .int 3, .int 3, .int 0, .int 0, .int 0, .ref q_511, .ref q_512, .ref q_513, .ref q_514, .ref q_515, .ref q_516, .int 0, .int 0, .int 0, .int 0, .int (-1), .int 0])), (q_503, .inl (k_517, 80, .inl (fun _ => 0))), (q_507, .inl (k_518, 6, .inl (fun _ => 0))), (q_508, .inl (k_519, 6, .inl (fun _ => 0))), (q_509, .inl (k_520, 36, .inl (fun _ => 0))), (q_510, .inl (k_521, 6, .inl (fun _ => 0)))]) C (ct_X6_picture_142 l D q_1 q_386 q_387 q_388 q_389 q_390 q_392 q_393 q_394 k_395 q_396 q_397 q_398 q_399 q_400 q_401 q_405 q_406) gL_law_X6_picture rfl (by decide +kernel) ⟨Nat.le_of_ble_eq_true rfl, Nat.le_of_ble_eq_true rfl⟩ hK hP hD hS hA hE hN [0, 1, 3, 4, 5, 8] rfl (by decide) [2, 6, 7, 9, 10, 11, 12, 13, 14, 15, 16, 17, 18, 19] rfl (by decide) (by decide) [1] rfl (ci := 6) rfl rfl 0 rfl rfl hl.1 (rest := []) rfl (Nat.le_of_ble_eq_true rfl) dL_law_239 ⟨Nat.le_of_ble_eq_true rfl, Nat.le_of_ble_eq_true rfl⟩ (fun u H locs _ hP hD hK hS => ?_)
      have hP : va_P D vwCl [(q_390, .inl (k_391, 80, .inl (fun _ => 0))), (q_394, .inl (k_402, 6, .inl (fun _ => 0))), (q_396, .inr (2, [.ref q_403, .ref q_404, .int 0, .null])), (q_398, .inr (2, [.ref q_407, .ref q_408, .int 0, .null])), (q_399, .inr (2, [.ref q_409, .ref q_410, .int 0, .null])), (q_400, .inr (2, [.ref q_411, .ref q_412, .int 0, .null])), (q_401, .inr (2, [.ref q_413, .ref q_414, .int 0, .null])), (q_389, .inr (4, [.ref q_415, .ref q_416, .ref q_417, .int 0, .int 0, .int 0, .int 0, .int 0, .int 0])), (q_418, .inr (7, [.ref q_503, .int 0, .ref q_504, .ref q_505, .ref q_506, .ref q_507, .ref q_508, .ref q_509, .ref q_510, .int (-1), .int 0, .int 3, .int 3, .int 0, .int 0, .int 0, .ref q_511, .ref q_512, .ref q_513, .ref q_514, .ref q_515, .ref q_516, .int 0, .int 0, .int 0, .int 0, .int (-1), .int 0])), (q_503, .inl (k_517, 80, .inl (fun _ => 0))), (q_507, .inl (k_518, 6, .inl (fun _ => 0))), (q_508, .inl (k_519, 6, .inl (fun _ => 0))), (q_509, .inl (k_520, 36, .inl (fun _ => 0))), (q_510, .inl (k_521, 6, .inl (fun _ => 0)))] H := hP
      have hD : va_D A [(q_390, .inl (k_391, 80, .inl (fun _ => 0))), (q_394, .inl (k_402, 6, .inl (fun _ => 0))), (q_396, .inr (2, [.ref q_403, .ref q_404, .int 0, .null])), (q_398, .inr (2, [.ref q_407, .ref q_408, .int 0, .null])), (q_399, .inr (2, [.ref q_409, .ref q_410, .int 0, .null])), (q_400, .inr (2, [.ref q_411, .ref q_412, .int 0, .null])), (q_401, .inr (2, [.ref q_413, .ref q_414, .int 0, .null])), (q_389, .inr (4, [.ref q_415, .ref q_416, .ref q_417, .int 0, .int 0, .int 0, .int 0, .int 0, .int 0])), (q_418, .inr (7, [.ref q_503, .int 0, .ref q_504, .ref q_505, .ref q_506, .ref q_507, .ref q_508, .ref q_509, .ref q_510, .int (-1), .int 0, .int 3, .int 3, .int 0, .int 0, .int 0, .ref q_511, .ref q_512, .ref q_513, .ref q_514, .ref q_515, .ref q_516, .int 0, .int 0, .int 0, .int 0, .int (-1), .int 0])), (q_503, .inl (k_517, 80, .inl (fun _ => 0))), (q_507, .inl (k_518, 6, .inl (fun _ => 0))), (q_508, .inl (k_519, 6, .inl (fun _ => 0))), (q_509, .inl (k_520, 36, .inl (fun _ => 0))), (q_510, .inl (k_521, 6, .inl (fun _ => 0)))] := hD
      have hK : va_K D vwCl [(k_391, .byte), (k_395, .object RX2), (k_402, .int), (k_517, .byte), (k_518, .boolean), (k_519, .boolean), (k_520, .boolean), (k_521, .int)] s := hK
      refine ka_stk (w := [.int (-1)]) rfl ?_
      refine lv_aload_n hx hb dL_law_242 rfl (lv_at hl 1 rfl) ?_
      refine lv_aload_n hx hb dL_law_243 rfl (lv_at hl 3 rfl) ?_
      refine lv_iload_n hx hb dL_law_244 rfl (lv_at hl 0 rfl) ?_
      refine lv_iconst (v := 1) hx hb dL_law_245 (by decide) ?_
      refine lv_iadd hx hb dL_law_246 ?_
      refine ka_top (w := .int 1) (congrArg Value.int (by decide)) ?_
      refine va_sld hx hb hX hbl hbA hS (ka_in (by decide) (by decide)) dL_law_247 ?_
      refine ka_top (w := .int 1) (congrArg Value.int ez1.symm) ?_
      refine lv_aload_n hx hb dL_law_248 rfl (lv_at hl 3 rfl) ?_
      refine lv_iload_n hx hb dL_law_249 rfl (lv_at hl 0 rfl) ?_
      refine lv_iconst (v := 2) hx hb dL_law_250 (by decide) ?_
      refine lv_iadd hx hb dL_law_251 ?_
      refine ka_top (w := .int 2) (congrArg Value.int (by decide)) ?_
      refine va_sld hx hb hX hbl hbA hS (ka_in (by decide) (by decide)) dL_law_252 ?_
      refine ka_top (w := .int 0) (congrArg Value.int ez2.symm) ?_
      refine ka_EV (n := 2) (wr := [(q_390, .inl (k_391, 80, .inl (fun _ => 0))), (q_394, .inl (k_402, 6, .inl (fun _ => 0))), (q_396, .inr (2, [.ref q_403, .ref q_404, .int 0, .null])), (q_398, .inr (2, [.ref q_407, .ref q_408, .int 0, .null])), (q_399, .inr (2, [.ref q_409, .ref q_410, .int 0, .null])), (q_400, .inr (2, [.ref q_411, .ref q_412, .int 0, .null])), (q_401, .inr (2, [.ref q_413, .ref q_414, .int 0, .null])), (q_389, .inr (4, [.ref q_415, .ref q_416, .ref q_417, .int 0, .int 0, .int 0, .int 0, .int 0, .int 0])), (q_503, .inl (k_517, 80, .inl (fun _ => 0))), (q_507, .inl (k_518, 6, .inl (fun _ => 0))), (q_509, .inl (k_520, 36, .inl (fun _ => 0)))]) C (ct_X7_picture_143 l D q_418 q_503 q_504 q_505 q_506 q_507 q_508 q_509 q_510 q_511 q_512 q_513 q_514 q_515 q_516 k_519 k_521) gL_law_X7_picture rfl (by decide +kernel) ⟨Nat.le_of_ble_eq_true rfl, Nat.le_of_ble_eq_true rfl⟩ hK hP hD hS hA hE hN [8, 11, 13] rfl (by decide) [0, 1, 2, 3, 4, 5, 6, 7, 9, 10, 12] rfl (by decide) (by decide) [5, 7] rfl (ci := 7) rfl rfl 8 rfl rfl hl.1 (rest := [.int (-1)]) rfl (Nat.le_of_ble_eq_true rfl) dL_law_253 ⟨Nat.le_of_ble_eq_true rfl, Nat.le_of_ble_eq_true rfl⟩ (fun u H locs _ hP hD hK hS => ?_)
      have hP : va_P D vwCl [(q_390, .inl (k_391, 80, .inl (fun _ => 0))), (q_394, .inl (k_402, 6, .inl (fun _ => 0))), (q_396, .inr (2, [.ref q_403, .ref q_404, .int 0, .null])), (q_398, .inr (2, [.ref q_407, .ref q_408, .int 0, .null])), (q_399, .inr (2, [.ref q_409, .ref q_410, .int 0, .null])), (q_400, .inr (2, [.ref q_411, .ref q_412, .int 0, .null])), (q_401, .inr (2, [.ref q_413, .ref q_414, .int 0, .null])), (q_389, .inr (4, [.ref q_415, .ref q_416, .ref q_417, .int 0, .int 0, .int 0, .int 0, .int 0, .int 0])), (q_503, .inl (k_517, 80, .inl (fun _ => 0))), (q_507, .inl (k_518, 6, .inl (fun _ => 0))), (q_509, .inl (k_520, 36, .inl (fun _ => 0)))] H := hP
      have hD : va_D A [(q_390, .inl (k_391, 80, .inl (fun _ => 0))), (q_394, .inl (k_402, 6, .inl (fun _ => 0))), (q_396, .inr (2, [.ref q_403, .ref q_404, .int 0, .null])), (q_398, .inr (2, [.ref q_407, .ref q_408, .int 0, .null])), (q_399, .inr (2, [.ref q_409, .ref q_410, .int 0, .null])), (q_400, .inr (2, [.ref q_411, .ref q_412, .int 0, .null])), (q_401, .inr (2, [.ref q_413, .ref q_414, .int 0, .null])), (q_389, .inr (4, [.ref q_415, .ref q_416, .ref q_417, .int 0, .int 0, .int 0, .int 0, .int 0, .int 0])), (q_503, .inl (k_517, 80, .inl (fun _ => 0))), (q_507, .inl (k_518, 6, .inl (fun _ => 0))), (q_509, .inl (k_520, 36, .inl (fun _ => 0)))] := hD
      have hK : va_K D vwCl [(k_391, .byte), (k_395, .object RX2), (k_402, .int), (k_517, .byte), (k_518, .boolean), (k_519, .boolean), (k_520, .boolean), (k_521, .int)] s := hK
      refine ka_stk (w := [.int (-1), .int (-1)]) rfl ?_
      refine lv_icmp_eq (tgt := 725) hx hb dL_law_256 (by decide) (fun _ => ?_) (fun c_ => absurd (by decide) c_)
      refine lv_iinc (v := 6) (lv' := [(3, .int 6), (2, .ref q_418), (1, .ref q_1), (0, .ref b)]) hx hb dL_law_725 hl (k := 0) rfl (by decide) (by decide) rfl (fun ls hl => ?_)
      refine lv_goto (tgt := 18) hx hb dL_law_728 (by decide) ?_
      refine lv_iload_n hx hb dL_law_18 rfl (lv_at hl 0 rfl) ?_
      refine lv_aload_n hx hb dL_law_19 rfl (lv_at hl 3 rfl) ?_
      refine va_slen hx hb hX hbl hbA hS dL_law_20 ?_
      refine ka_top (w := .int 6) (congrArg Value.int rfl) ?_
      refine lv_bipush (v := 6) hx hb dL_law_21 (by decide) ?_
      refine lv_isub hx hb dL_law_23 ?_
      refine ka_top (w := .int 0) (congrArg Value.int (by decide)) ?_
      refine lv_icmp_gt (tgt := 731) hx hb dL_law_24 (by decide) (fun _ => ?_) (fun c_ => absurd (by decide) c_)
      refine lv_iconst (v := 1) hx hb dL_law_731 (by decide) ?_
      refine va_forget (fun q hq => by have h9 := hS.2.2 q hq; rw [hAe] at h9; exact h9) ?_
      refine W.widen (k := 600000) (n := 7302250) (Nat.le_of_ble_eq_true rfl) (Nat.le_of_ble_eq_true rfl) ?_
      exact lw_ret hx hb hr hlk dL_law_732
    · skip
      refine lv_aload_n hx hb dL_law_228 rfl (lv_at hl 2 rfl) ?_
      refine lv_aload_n hx hb dL_law_229 rfl (lv_at hl 3 rfl) ?_
      refine lv_iload_n hx hb dL_law_230 rfl (lv_at hl 0 rfl) ?_
      refine lv_iconst (v := 1) hx hb dL_law_231 (by decide) ?_
      refine lv_iadd hx hb dL_law_232 ?_
      refine ka_top (w := .int 1) (congrArg Value.int (by decide)) ?_
      refine va_sld hx hb hX hbl hbA hS (ka_in (by decide) (by decide)) dL_law_233 ?_
      refine ka_top (w := .int 1) (congrArg Value.int ez1.symm) ?_
      refine lv_aload_n hx hb dL_law_234 rfl (lv_at hl 3 rfl) ?_
      refine lv_iload_n hx hb dL_law_235 rfl (lv_at hl 0 rfl) ?_
      refine lv_iconst (v := 2) hx hb dL_law_236 (by decide) ?_
      refine lv_iadd hx hb dL_law_237 ?_
      refine ka_top (w := .int 2) (congrArg Value.int (by decide)) ?_
      refine va_sld hx hb hX hbl hbA hS (ka_in (by decide) (by decide)) dL_law_238 ?_
      refine ka_top (w := .int z2) (congrArg Value.int ez2.symm) ?_
      refine ka_RV (n := 2) C (ct_X6_picture_144 l D q_1 z2 q_386 q_387 q_388 q_389 q_390 q_393 q_394 k_395 q_396 q_397 q_398 q_399 q_400 q_401 q_405 q_406 (by omega)) gL_law_X6_picture rfl (by decide +kernel) ⟨Nat.le_of_ble_eq_true rfl, Nat.le_of_ble_eq_true rfl⟩ hK hP hS hE hN [0, 1, 4, 5, 8] rfl [1] rfl (ci := 6) rfl rfl 0 rfl rfl hl.1 (rest := []) rfl (Nat.le_of_ble_eq_true rfl) dL_law_239 ⟨Nat.le_of_ble_eq_true rfl, Nat.le_of_ble_eq_true rfl⟩ (fun v hv => ?_)
      subst hv
      refine ka_stk (w := [.int (-2)]) rfl ?_
      refine lv_aload_n hx hb dL_law_242 rfl (lv_at hl 1 rfl) ?_
      refine lv_aload_n hx hb dL_law_243 rfl (lv_at hl 3 rfl) ?_
      refine lv_iload_n hx hb dL_law_244 rfl (lv_at hl 0 rfl) ?_
      refine lv_iconst (v := 1) hx hb dL_law_245 (by decide) ?_
      refine lv_iadd hx hb dL_law_246 ?_
      refine ka_top (w := .int 1) (congrArg Value.int (by decide)) ?_
      refine va_sld hx hb hX hbl hbA hS (ka_in (by decide) (by decide)) dL_law_247 ?_
      refine ka_top (w := .int 1) (congrArg Value.int ez1.symm) ?_
      refine lv_aload_n hx hb dL_law_248 rfl (lv_at hl 3 rfl) ?_
      refine lv_iload_n hx hb dL_law_249 rfl (lv_at hl 0 rfl) ?_
      refine lv_iconst (v := 2) hx hb dL_law_250 (by decide) ?_
      refine lv_iadd hx hb dL_law_251 ?_
      refine ka_top (w := .int 2) (congrArg Value.int (by decide)) ?_
      refine va_sld hx hb hX hbl hbA hS (ka_in (by decide) (by decide)) dL_law_252 ?_
      refine ka_top (w := .int z2) (congrArg Value.int ez2.symm) ?_
      refine ka_RV (n := 2) C (ct_X7_picture_145 l D q_418 z2 q_503 q_504 q_505 q_506 q_507 q_508 q_509 q_510 q_511 q_512 q_513 q_514 q_515 q_516 k_519 (by omega)) gL_law_X7_picture rfl (by decide +kernel) ⟨Nat.le_of_ble_eq_true rfl, Nat.le_of_ble_eq_true rfl⟩ hK hP hS hE hN [14, 17] rfl [5] rfl (ci := 7) rfl rfl 14 rfl rfl hl.1 (rest := [.int (-2)]) rfl (Nat.le_of_ble_eq_true rfl) dL_law_253 ⟨Nat.le_of_ble_eq_true rfl, Nat.le_of_ble_eq_true rfl⟩ (fun v hv => ?_)
      subst hv
      refine ka_stk (w := [.int (-2), .int (-2)]) rfl ?_
      refine lv_icmp_eq (tgt := 725) hx hb dL_law_256 (by decide) (fun _ => ?_) (fun c_ => absurd (by decide) c_)
      refine lv_iinc (v := 6) (lv' := [(3, .int 6), (2, .ref q_418), (1, .ref q_1), (0, .ref b)]) hx hb dL_law_725 hl (k := 0) rfl (by decide) (by decide) rfl (fun ls hl => ?_)
      refine lv_goto (tgt := 18) hx hb dL_law_728 (by decide) ?_
      refine lv_iload_n hx hb dL_law_18 rfl (lv_at hl 0 rfl) ?_
      refine lv_aload_n hx hb dL_law_19 rfl (lv_at hl 3 rfl) ?_
      refine va_slen hx hb hX hbl hbA hS dL_law_20 ?_
      refine ka_top (w := .int 6) (congrArg Value.int rfl) ?_
      refine lv_bipush (v := 6) hx hb dL_law_21 (by decide) ?_
      refine lv_isub hx hb dL_law_23 ?_
      refine ka_top (w := .int 0) (congrArg Value.int (by decide)) ?_
      refine lv_icmp_gt (tgt := 731) hx hb dL_law_24 (by decide) (fun _ => ?_) (fun c_ => absurd (by decide) c_)
      refine lv_iconst (v := 1) hx hb dL_law_731 (by decide) ?_
      refine va_forget (fun q hq => by have h9 := hS.2.2 q hq; rw [hAe] at h9; exact h9) ?_
      refine W.widen (k := 600000) (n := 7302250) (Nat.le_of_ble_eq_true rfl) (Nat.le_of_ble_eq_true rfl) ?_
      exact lw_ret hx hb hr hlk dL_law_732
  · obtain rfl : z1 = 2 := (ka_eq' _ _).mpr (y1.trans (by decide))
    rcases (show z2.toInt ≤ -1 ∨ z2.toInt = 0 ∨ 1 ≤ z2.toInt by omega) with y2 | y2 | y2
    · skip
      refine lv_aload_n hx hb dL_law_228 rfl (lv_at hl 2 rfl) ?_
      refine lv_aload_n hx hb dL_law_229 rfl (lv_at hl 3 rfl) ?_
      refine lv_iload_n hx hb dL_law_230 rfl (lv_at hl 0 rfl) ?_
      refine lv_iconst (v := 1) hx hb dL_law_231 (by decide) ?_
      refine lv_iadd hx hb dL_law_232 ?_
      refine ka_top (w := .int 1) (congrArg Value.int (by decide)) ?_
      refine va_sld hx hb hX hbl hbA hS (ka_in (by decide) (by decide)) dL_law_233 ?_
      refine ka_top (w := .int 2) (congrArg Value.int ez1.symm) ?_
      refine lv_aload_n hx hb dL_law_234 rfl (lv_at hl 3 rfl) ?_
      refine lv_iload_n hx hb dL_law_235 rfl (lv_at hl 0 rfl) ?_
      refine lv_iconst (v := 2) hx hb dL_law_236 (by decide) ?_
      refine lv_iadd hx hb dL_law_237 ?_
      refine ka_top (w := .int 2) (congrArg Value.int (by decide)) ?_
      refine va_sld hx hb hX hbl hbA hS (ka_in (by decide) (by decide)) dL_law_238 ?_
      refine ka_top (w := .int z2) (congrArg Value.int ez2.symm) ?_
      refine ka_RV (n := 2) C (ct_X6_picture_146 l D q_1 z2 q_386 q_387 q_388 q_389 q_390 q_393 q_394 k_395 q_396 q_397 q_398 q_399 q_400 q_401 q_407 q_408 (by omega)) gL_law_X6_picture rfl (by decide +kernel) ⟨Nat.le_of_ble_eq_true rfl, Nat.le_of_ble_eq_true rfl⟩ hK hP hS hE hN [0, 1, 4, 5, 9] rfl [1] rfl (ci := 6) rfl rfl 0 rfl rfl hl.1 (rest := []) rfl (Nat.le_of_ble_eq_true rfl) dL_law_239 ⟨Nat.le_of_ble_eq_true rfl, Nat.le_of_ble_eq_true rfl⟩ (fun v hv => ?_)
      subst hv
      refine ka_stk (w := [.int (-2)]) rfl ?_
      refine lv_aload_n hx hb dL_law_242 rfl (lv_at hl 1 rfl) ?_
      refine lv_aload_n hx hb dL_law_243 rfl (lv_at hl 3 rfl) ?_
      refine lv_iload_n hx hb dL_law_244 rfl (lv_at hl 0 rfl) ?_
      refine lv_iconst (v := 1) hx hb dL_law_245 (by decide) ?_
      refine lv_iadd hx hb dL_law_246 ?_
      refine ka_top (w := .int 1) (congrArg Value.int (by decide)) ?_
      refine va_sld hx hb hX hbl hbA hS (ka_in (by decide) (by decide)) dL_law_247 ?_
      refine ka_top (w := .int 2) (congrArg Value.int ez1.symm) ?_
      refine lv_aload_n hx hb dL_law_248 rfl (lv_at hl 3 rfl) ?_
      refine lv_iload_n hx hb dL_law_249 rfl (lv_at hl 0 rfl) ?_
      refine lv_iconst (v := 2) hx hb dL_law_250 (by decide) ?_
      refine lv_iadd hx hb dL_law_251 ?_
      refine ka_top (w := .int 2) (congrArg Value.int (by decide)) ?_
      refine va_sld hx hb hX hbl hbA hS (ka_in (by decide) (by decide)) dL_law_252 ?_
      refine ka_top (w := .int z2) (congrArg Value.int ez2.symm) ?_
      refine ka_RV (n := 2) C (ct_X7_picture_147 l D q_418 z2 q_503 q_504 q_505 q_506 q_507 q_508 q_509 q_510 q_511 q_512 q_513 q_514 q_515 q_516 k_519 (by omega)) gL_law_X7_picture rfl (by decide +kernel) ⟨Nat.le_of_ble_eq_true rfl, Nat.le_of_ble_eq_true rfl⟩ hK hP hS hE hN [14, 17] rfl [5] rfl (ci := 7) rfl rfl 14 rfl rfl hl.1 (rest := [.int (-2)]) rfl (Nat.le_of_ble_eq_true rfl) dL_law_253 ⟨Nat.le_of_ble_eq_true rfl, Nat.le_of_ble_eq_true rfl⟩ (fun v hv => ?_)
      subst hv
      refine ka_stk (w := [.int (-2), .int (-2)]) rfl ?_
      refine lv_icmp_eq (tgt := 725) hx hb dL_law_256 (by decide) (fun _ => ?_) (fun c_ => absurd (by decide) c_)
      refine lv_iinc (v := 6) (lv' := [(3, .int 6), (2, .ref q_418), (1, .ref q_1), (0, .ref b)]) hx hb dL_law_725 hl (k := 0) rfl (by decide) (by decide) rfl (fun ls hl => ?_)
      refine lv_goto (tgt := 18) hx hb dL_law_728 (by decide) ?_
      refine lv_iload_n hx hb dL_law_18 rfl (lv_at hl 0 rfl) ?_
      refine lv_aload_n hx hb dL_law_19 rfl (lv_at hl 3 rfl) ?_
      refine va_slen hx hb hX hbl hbA hS dL_law_20 ?_
      refine ka_top (w := .int 6) (congrArg Value.int rfl) ?_
      refine lv_bipush (v := 6) hx hb dL_law_21 (by decide) ?_
      refine lv_isub hx hb dL_law_23 ?_
      refine ka_top (w := .int 0) (congrArg Value.int (by decide)) ?_
      refine lv_icmp_gt (tgt := 731) hx hb dL_law_24 (by decide) (fun _ => ?_) (fun c_ => absurd (by decide) c_)
      refine lv_iconst (v := 1) hx hb dL_law_731 (by decide) ?_
      refine va_forget (fun q hq => by have h9 := hS.2.2 q hq; rw [hAe] at h9; exact h9) ?_
      refine W.widen (k := 600000) (n := 7302250) (Nat.le_of_ble_eq_true rfl) (Nat.le_of_ble_eq_true rfl) ?_
      exact lw_ret hx hb hr hlk dL_law_732
    · obtain rfl : z2 = 0 := (ka_eq' _ _).mpr (y2.trans (by decide))
      refine lv_aload_n hx hb dL_law_228 rfl (lv_at hl 2 rfl) ?_
      refine lv_aload_n hx hb dL_law_229 rfl (lv_at hl 3 rfl) ?_
      refine lv_iload_n hx hb dL_law_230 rfl (lv_at hl 0 rfl) ?_
      refine lv_iconst (v := 1) hx hb dL_law_231 (by decide) ?_
      refine lv_iadd hx hb dL_law_232 ?_
      refine ka_top (w := .int 1) (congrArg Value.int (by decide)) ?_
      refine va_sld hx hb hX hbl hbA hS (ka_in (by decide) (by decide)) dL_law_233 ?_
      refine ka_top (w := .int 2) (congrArg Value.int ez1.symm) ?_
      refine lv_aload_n hx hb dL_law_234 rfl (lv_at hl 3 rfl) ?_
      refine lv_iload_n hx hb dL_law_235 rfl (lv_at hl 0 rfl) ?_
      refine lv_iconst (v := 2) hx hb dL_law_236 (by decide) ?_
      refine lv_iadd hx hb dL_law_237 ?_
      refine ka_top (w := .int 2) (congrArg Value.int (by decide)) ?_
      refine va_sld hx hb hX hbl hbA hS (ka_in (by decide) (by decide)) dL_law_238 ?_
      refine ka_top (w := .int 0) (congrArg Value.int ez2.symm) ?_
      refine ka_EV (n := 2) (wr := [(q_390, .inl (k_391, 80, .inl (fun _ => 0))), (q_394, .inl (k_402, 6, .inl (fun _ => 0))), (q_396, .inr (2, [.ref q_403, .ref q_404, .int 0, .null])), (q_397, .inr (2, [.ref q_405, .ref q_406, .int 0, .null])), (q_399, .inr (2, [.ref q_409, .ref q_410, .int 0, .null])), (q_400, .inr (2, [.ref q_411, .ref q_412, .int 0, .null])), (q_401, .inr (2, [.ref q_413, .ref q_414, .int 0, .null])), (q_389, .inr (4, [.ref q_415, .ref q_416, .ref q_417, .int 0, .int 0, .int 0, .int 0, .int 0, .int 0])), (q_418, .inr (7, [.ref q_503, .int 0, .ref q_504, .ref q_505, .ref q_506, .ref q_507, .ref q_508, .ref q_509, .ref q_510, .int (-1), .int 0, .int 3, .int 3, .int 0, .int 0, .int 0, .ref q_511, .ref q_512, .ref q_513, .ref q_514, .ref q_515, .ref q_516, .int 0, .int 0, .int 0, .int 0, .int (-1), .int 0])), (q_503, .inl (k_517, 80, .inl (fun _ => 0))), (q_507, .inl (k_518, 6, .inl (fun _ => 0))), (q_508, .inl (k_519, 6, .inl (fun _ => 0))), (q_509, .inl (k_520, 36, .inl (fun _ => 0))), (q_510, .inl (k_521, 6, .inl (fun _ => 0)))]) C (ct_X6_picture_148 l D q_1 q_386 q_387 q_388 q_389 q_390 q_392 q_393 q_394 k_395 q_396 q_397 q_398 q_399 q_400 q_401 q_407 q_408) gL_law_X6_picture rfl (by decide +kernel) ⟨Nat.le_of_ble_eq_true rfl, Nat.le_of_ble_eq_true rfl⟩ hK hP hD hS hA hE hN [0, 1, 3, 4, 5, 9] rfl (by decide) [2, 6, 7, 8, 10, 11, 12, 13, 14, 15, 16, 17, 18, 19] rfl (by decide) (by decide) [1] rfl (ci := 6) rfl rfl 0 rfl rfl hl.1 (rest := []) rfl (Nat.le_of_ble_eq_true rfl) dL_law_239 ⟨Nat.le_of_ble_eq_true rfl, Nat.le_of_ble_eq_true rfl⟩ (fun u H locs _ hP hD hK hS => ?_)
      have hP : va_P D vwCl [(q_390, .inl (k_391, 80, .inl (fun _ => 0))), (q_394, .inl (k_402, 6, .inl (fun _ => 0))), (q_396, .inr (2, [.ref q_403, .ref q_404, .int 0, .null])), (q_397, .inr (2, [.ref q_405, .ref q_406, .int 0, .null])), (q_399, .inr (2, [.ref q_409, .ref q_410, .int 0, .null])), (q_400, .inr (2, [.ref q_411, .ref q_412, .int 0, .null])), (q_401, .inr (2, [.ref q_413, .ref q_414, .int 0, .null])), (q_389, .inr (4, [.ref q_415, .ref q_416, .ref q_417, .int 0, .int 0, .int 0, .int 0, .int 0, .int 0])), (q_418, .inr (7, [.ref q_503, .int 0, .ref q_504, .ref q_505, .ref q_506, .ref q_507, .ref q_508, .ref q_509, .ref q_510, .int (-1), .int 0, .int 3, .int 3, .int 0, .int 0, .int 0, .ref q_511, .ref q_512, .ref q_513, .ref q_514, .ref q_515, .ref q_516, .int 0, .int 0, .int 0, .int 0, .int (-1), .int 0])), (q_503, .inl (k_517, 80, .inl (fun _ => 0))), (q_507, .inl (k_518, 6, .inl (fun _ => 0))), (q_508, .inl (k_519, 6, .inl (fun _ => 0))), (q_509, .inl (k_520, 36, .inl (fun _ => 0))), (q_510, .inl (k_521, 6, .inl (fun _ => 0)))] H := hP
      have hD : va_D A [(q_390, .inl (k_391, 80, .inl (fun _ => 0))), (q_394, .inl (k_402, 6, .inl (fun _ => 0))), (q_396, .inr (2, [.ref q_403, .ref q_404, .int 0, .null])), (q_397, .inr (2, [.ref q_405, .ref q_406, .int 0, .null])), (q_399, .inr (2, [.ref q_409, .ref q_410, .int 0, .null])), (q_400, .inr (2, [.ref q_411, .ref q_412, .int 0, .null])), (q_401, .inr (2, [.ref q_413, .ref q_414, .int 0, .null])), (q_389, .inr (4, [.ref q_415, .ref q_416, .ref q_417, .int 0, .int 0, .int 0, .int 0, .int 0, .int 0])), (q_418, .inr (7, [.ref q_503, .int 0, .ref q_504, .ref q_505, .ref q_506, .ref q_507, .ref q_508, .ref q_509, .ref q_510, .int (-1), .int 0, .int 3, .int 3, .int 0, .int 0, .int 0, .ref q_511, .ref q_512, .ref q_513, .ref q_514, .ref q_515, .ref q_516, .int 0, .int 0, .int 0, .int 0, .int (-1), .int 0])), (q_503, .inl (k_517, 80, .inl (fun _ => 0))), (q_507, .inl (k_518, 6, .inl (fun _ => 0))), (q_508, .inl (k_519, 6, .inl (fun _ => 0))), (q_509, .inl (k_520, 36, .inl (fun _ => 0))), (q_510, .inl (k_521, 6, .inl (fun _ => 0)))] := hD
      have hK : va_K D vwCl [(k_391, .byte), (k_395, .object RX2), (k_402, .int), (k_517, .byte), (k_518, .boolean), (k_519, .boolean), (k_520, .boolean), (k_521, .int)] s := hK
      refine ka_stk (w := [.int (-1)]) rfl ?_
      refine lv_aload_n hx hb dL_law_242 rfl (lv_at hl 1 rfl) ?_
      refine lv_aload_n hx hb dL_law_243 rfl (lv_at hl 3 rfl) ?_
      refine lv_iload_n hx hb dL_law_244 rfl (lv_at hl 0 rfl) ?_
      refine lv_iconst (v := 1) hx hb dL_law_245 (by decide) ?_
      refine lv_iadd hx hb dL_law_246 ?_
      refine ka_top (w := .int 1) (congrArg Value.int (by decide)) ?_
      refine va_sld hx hb hX hbl hbA hS (ka_in (by decide) (by decide)) dL_law_247 ?_
      refine ka_top (w := .int 2) (congrArg Value.int ez1.symm) ?_
      refine lv_aload_n hx hb dL_law_248 rfl (lv_at hl 3 rfl) ?_
      refine lv_iload_n hx hb dL_law_249 rfl (lv_at hl 0 rfl) ?_
      refine lv_iconst (v := 2) hx hb dL_law_250 (by decide) ?_
      refine lv_iadd hx hb dL_law_251 ?_
      refine ka_top (w := .int 2) (congrArg Value.int (by decide)) ?_
      refine va_sld hx hb hX hbl hbA hS (ka_in (by decide) (by decide)) dL_law_252 ?_
      refine ka_top (w := .int 0) (congrArg Value.int ez2.symm) ?_
      refine ka_EV (n := 2) (wr := [(q_390, .inl (k_391, 80, .inl (fun _ => 0))), (q_394, .inl (k_402, 6, .inl (fun _ => 0))), (q_396, .inr (2, [.ref q_403, .ref q_404, .int 0, .null])), (q_397, .inr (2, [.ref q_405, .ref q_406, .int 0, .null])), (q_399, .inr (2, [.ref q_409, .ref q_410, .int 0, .null])), (q_400, .inr (2, [.ref q_411, .ref q_412, .int 0, .null])), (q_401, .inr (2, [.ref q_413, .ref q_414, .int 0, .null])), (q_389, .inr (4, [.ref q_415, .ref q_416, .ref q_417, .int 0, .int 0, .int 0, .int 0, .int 0, .int 0])), (q_503, .inl (k_517, 80, .inl (fun _ => 0))), (q_507, .inl (k_518, 6, .inl (fun _ => 0))), (q_509, .inl (k_520, 36, .inl (fun _ => 0)))]) C (ct_X7_picture_149 l D q_418 q_503 q_504 q_505 q_506 q_507 q_508 q_509 q_510 q_511 q_512 q_513 q_514 q_515 q_516 k_519 k_521) gL_law_X7_picture rfl (by decide +kernel) ⟨Nat.le_of_ble_eq_true rfl, Nat.le_of_ble_eq_true rfl⟩ hK hP hD hS hA hE hN [8, 11, 13] rfl (by decide) [0, 1, 2, 3, 4, 5, 6, 7, 9, 10, 12] rfl (by decide) (by decide) [5, 7] rfl (ci := 7) rfl rfl 8 rfl rfl hl.1 (rest := [.int (-1)]) rfl (Nat.le_of_ble_eq_true rfl) dL_law_253 ⟨Nat.le_of_ble_eq_true rfl, Nat.le_of_ble_eq_true rfl⟩ (fun u H locs _ hP hD hK hS => ?_)
      have hP : va_P D vwCl [(q_390, .inl (k_391, 80, .inl (fun _ => 0))), (q_394, .inl (k_402, 6, .inl (fun _ => 0))), (q_396, .inr (2, [.ref q_403, .ref q_404, .int 0, .null])), (q_397, .inr (2, [.ref q_405, .ref q_406, .int 0, .null])), (q_399, .inr (2, [.ref q_409, .ref q_410, .int 0, .null])), (q_400, .inr (2, [.ref q_411, .ref q_412, .int 0, .null])), (q_401, .inr (2, [.ref q_413, .ref q_414, .int 0, .null])), (q_389, .inr (4, [.ref q_415, .ref q_416, .ref q_417, .int 0, .int 0, .int 0, .int 0, .int 0, .int 0])), (q_503, .inl (k_517, 80, .inl (fun _ => 0))), (q_507, .inl (k_518, 6, .inl (fun _ => 0))), (q_509, .inl (k_520, 36, .inl (fun _ => 0)))] H := hP
      have hD : va_D A [(q_390, .inl (k_391, 80, .inl (fun _ => 0))), (q_394, .inl (k_402, 6, .inl (fun _ => 0))), (q_396, .inr (2, [.ref q_403, .ref q_404, .int 0, .null])), (q_397, .inr (2, [.ref q_405, .ref q_406, .int 0, .null])), (q_399, .inr (2, [.ref q_409, .ref q_410, .int 0, .null])), (q_400, .inr (2, [.ref q_411, .ref q_412, .int 0, .null])), (q_401, .inr (2, [.ref q_413, .ref q_414, .int 0, .null])), (q_389, .inr (4, [.ref q_415, .ref q_416, .ref q_417, .int 0, .int 0, .int 0, .int 0, .int 0, .int 0])), (q_503, .inl (k_517, 80, .inl (fun _ => 0))), (q_507, .inl (k_518, 6, .inl (fun _ => 0))), (q_509, .inl (k_520, 36, .inl (fun _ => 0)))] := hD
      have hK : va_K D vwCl [(k_391, .byte), (k_395, .object RX2), (k_402, .int), (k_517, .byte), (k_518, .boolean), (k_519, .boolean), (k_520, .boolean), (k_521, .int)] s := hK
      refine ka_stk (w := [.int (-1), .int (-1)]) rfl ?_
      refine lv_icmp_eq (tgt := 725) hx hb dL_law_256 (by decide) (fun _ => ?_) (fun c_ => absurd (by decide) c_)
      refine lv_iinc (v := 6) (lv' := [(3, .int 6), (2, .ref q_418), (1, .ref q_1), (0, .ref b)]) hx hb dL_law_725 hl (k := 0) rfl (by decide) (by decide) rfl (fun ls hl => ?_)
      refine lv_goto (tgt := 18) hx hb dL_law_728 (by decide) ?_
      refine lv_iload_n hx hb dL_law_18 rfl (lv_at hl 0 rfl) ?_
      refine lv_aload_n hx hb dL_law_19 rfl (lv_at hl 3 rfl) ?_
      refine va_slen hx hb hX hbl hbA hS dL_law_20 ?_
      refine ka_top (w := .int 6) (congrArg Value.int rfl) ?_
      refine lv_bipush (v := 6) hx hb dL_law_21 (by decide) ?_
      refine lv_isub hx hb dL_law_23 ?_
      refine ka_top (w := .int 0) (congrArg Value.int (by decide)) ?_
      refine lv_icmp_gt (tgt := 731) hx hb dL_law_24 (by decide) (fun _ => ?_) (fun c_ => absurd (by decide) c_)
      refine lv_iconst (v := 1) hx hb dL_law_731 (by decide) ?_
      refine va_forget (fun q hq => by have h9 := hS.2.2 q hq; rw [hAe] at h9; exact h9) ?_
      refine W.widen (k := 600000) (n := 7302250) (Nat.le_of_ble_eq_true rfl) (Nat.le_of_ble_eq_true rfl) ?_
      exact lw_ret hx hb hr hlk dL_law_732
    · skip
      refine lv_aload_n hx hb dL_law_228 rfl (lv_at hl 2 rfl) ?_
      refine lv_aload_n hx hb dL_law_229 rfl (lv_at hl 3 rfl) ?_
      refine lv_iload_n hx hb dL_law_230 rfl (lv_at hl 0 rfl) ?_
      refine lv_iconst (v := 1) hx hb dL_law_231 (by decide) ?_
      refine lv_iadd hx hb dL_law_232 ?_
      refine ka_top (w := .int 1) (congrArg Value.int (by decide)) ?_
      refine va_sld hx hb hX hbl hbA hS (ka_in (by decide) (by decide)) dL_law_233 ?_
      refine ka_top (w := .int 2) (congrArg Value.int ez1.symm) ?_
      refine lv_aload_n hx hb dL_law_234 rfl (lv_at hl 3 rfl) ?_
      refine lv_iload_n hx hb dL_law_235 rfl (lv_at hl 0 rfl) ?_
      refine lv_iconst (v := 2) hx hb dL_law_236 (by decide) ?_
      refine lv_iadd hx hb dL_law_237 ?_
      refine ka_top (w := .int 2) (congrArg Value.int (by decide)) ?_
      refine va_sld hx hb hX hbl hbA hS (ka_in (by decide) (by decide)) dL_law_238 ?_
      refine ka_top (w := .int z2) (congrArg Value.int ez2.symm) ?_
      refine ka_RV (n := 2) C (ct_X6_picture_150 l D q_1 z2 q_386 q_387 q_388 q_389 q_390 q_393 q_394 k_395 q_396 q_397 q_398 q_399 q_400 q_401 q_407 q_408 (by omega)) gL_law_X6_picture rfl (by decide +kernel) ⟨Nat.le_of_ble_eq_true rfl, Nat.le_of_ble_eq_true rfl⟩ hK hP hS hE hN [0, 1, 4, 5, 9] rfl [1] rfl (ci := 6) rfl rfl 0 rfl rfl hl.1 (rest := []) rfl (Nat.le_of_ble_eq_true rfl) dL_law_239 ⟨Nat.le_of_ble_eq_true rfl, Nat.le_of_ble_eq_true rfl⟩ (fun v hv => ?_)
      subst hv
      refine ka_stk (w := [.int (-2)]) rfl ?_
      refine lv_aload_n hx hb dL_law_242 rfl (lv_at hl 1 rfl) ?_
      refine lv_aload_n hx hb dL_law_243 rfl (lv_at hl 3 rfl) ?_
      refine lv_iload_n hx hb dL_law_244 rfl (lv_at hl 0 rfl) ?_
      refine lv_iconst (v := 1) hx hb dL_law_245 (by decide) ?_
      refine lv_iadd hx hb dL_law_246 ?_
      refine ka_top (w := .int 1) (congrArg Value.int (by decide)) ?_
      refine va_sld hx hb hX hbl hbA hS (ka_in (by decide) (by decide)) dL_law_247 ?_
      refine ka_top (w := .int 2) (congrArg Value.int ez1.symm) ?_
      refine lv_aload_n hx hb dL_law_248 rfl (lv_at hl 3 rfl) ?_
      refine lv_iload_n hx hb dL_law_249 rfl (lv_at hl 0 rfl) ?_
      refine lv_iconst (v := 2) hx hb dL_law_250 (by decide) ?_
      refine lv_iadd hx hb dL_law_251 ?_
      refine ka_top (w := .int 2) (congrArg Value.int (by decide)) ?_
      refine va_sld hx hb hX hbl hbA hS (ka_in (by decide) (by decide)) dL_law_252 ?_
      refine ka_top (w := .int z2) (congrArg Value.int ez2.symm) ?_
      refine ka_RV (n := 2) C (ct_X7_picture_151 l D q_418 z2 q_503 q_504 q_505 q_506 q_507 q_508 q_509 q_510 q_511 q_512 q_513 q_514 q_515 q_516 k_519 (by omega)) gL_law_X7_picture rfl (by decide +kernel) ⟨Nat.le_of_ble_eq_true rfl, Nat.le_of_ble_eq_true rfl⟩ hK hP hS hE hN [14, 17] rfl [5] rfl (ci := 7) rfl rfl 14 rfl rfl hl.1 (rest := [.int (-2)]) rfl (Nat.le_of_ble_eq_true rfl) dL_law_253 ⟨Nat.le_of_ble_eq_true rfl, Nat.le_of_ble_eq_true rfl⟩ (fun v hv => ?_)
      subst hv
      refine ka_stk (w := [.int (-2), .int (-2)]) rfl ?_
      refine lv_icmp_eq (tgt := 725) hx hb dL_law_256 (by decide) (fun _ => ?_) (fun c_ => absurd (by decide) c_)
      refine lv_iinc (v := 6) (lv' := [(3, .int 6), (2, .ref q_418), (1, .ref q_1), (0, .ref b)]) hx hb dL_law_725 hl (k := 0) rfl (by decide) (by decide) rfl (fun ls hl => ?_)
      refine lv_goto (tgt := 18) hx hb dL_law_728 (by decide) ?_
      refine lv_iload_n hx hb dL_law_18 rfl (lv_at hl 0 rfl) ?_
      refine lv_aload_n hx hb dL_law_19 rfl (lv_at hl 3 rfl) ?_
      refine va_slen hx hb hX hbl hbA hS dL_law_20 ?_
      refine ka_top (w := .int 6) (congrArg Value.int rfl) ?_
      refine lv_bipush (v := 6) hx hb dL_law_21 (by decide) ?_
      refine lv_isub hx hb dL_law_23 ?_
      refine ka_top (w := .int 0) (congrArg Value.int (by decide)) ?_
      refine lv_icmp_gt (tgt := 731) hx hb dL_law_24 (by decide) (fun _ => ?_) (fun c_ => absurd (by decide) c_)
      refine lv_iconst (v := 1) hx hb dL_law_731 (by decide) ?_
      refine va_forget (fun q hq => by have h9 := hS.2.2 q hq; rw [hAe] at h9; exact h9) ?_
      refine W.widen (k := 600000) (n := 7302250) (Nat.le_of_ble_eq_true rfl) (Nat.le_of_ble_eq_true rfl) ?_
      exact lw_ret hx hb hr hlk dL_law_732
  · obtain rfl : z1 = 3 := (ka_eq' _ _).mpr (y1.trans (by decide))
    rcases (show z2.toInt ≤ -1 ∨ z2.toInt = 0 ∨ 1 ≤ z2.toInt by omega) with y2 | y2 | y2
    · skip
      refine lv_aload_n hx hb dL_law_228 rfl (lv_at hl 2 rfl) ?_
      refine lv_aload_n hx hb dL_law_229 rfl (lv_at hl 3 rfl) ?_
      refine lv_iload_n hx hb dL_law_230 rfl (lv_at hl 0 rfl) ?_
      refine lv_iconst (v := 1) hx hb dL_law_231 (by decide) ?_
      refine lv_iadd hx hb dL_law_232 ?_
      refine ka_top (w := .int 1) (congrArg Value.int (by decide)) ?_
      refine va_sld hx hb hX hbl hbA hS (ka_in (by decide) (by decide)) dL_law_233 ?_
      refine ka_top (w := .int 3) (congrArg Value.int ez1.symm) ?_
      refine lv_aload_n hx hb dL_law_234 rfl (lv_at hl 3 rfl) ?_
      refine lv_iload_n hx hb dL_law_235 rfl (lv_at hl 0 rfl) ?_
      refine lv_iconst (v := 2) hx hb dL_law_236 (by decide) ?_
      refine lv_iadd hx hb dL_law_237 ?_
      refine ka_top (w := .int 2) (congrArg Value.int (by decide)) ?_
      refine va_sld hx hb hX hbl hbA hS (ka_in (by decide) (by decide)) dL_law_238 ?_
      refine ka_top (w := .int z2) (congrArg Value.int ez2.symm) ?_
      refine ka_RV (n := 2) C (ct_X6_picture_152 l D q_1 z2 q_386 q_387 q_388 q_389 q_390 q_393 q_394 k_395 q_396 q_397 q_398 q_399 q_400 q_401 q_409 q_410 (by omega)) gL_law_X6_picture rfl (by decide +kernel) ⟨Nat.le_of_ble_eq_true rfl, Nat.le_of_ble_eq_true rfl⟩ hK hP hS hE hN [0, 1, 4, 5, 10] rfl [1] rfl (ci := 6) rfl rfl 0 rfl rfl hl.1 (rest := []) rfl (Nat.le_of_ble_eq_true rfl) dL_law_239 ⟨Nat.le_of_ble_eq_true rfl, Nat.le_of_ble_eq_true rfl⟩ (fun v hv => ?_)
      subst hv
      refine ka_stk (w := [.int (-2)]) rfl ?_
      refine lv_aload_n hx hb dL_law_242 rfl (lv_at hl 1 rfl) ?_
      refine lv_aload_n hx hb dL_law_243 rfl (lv_at hl 3 rfl) ?_
      refine lv_iload_n hx hb dL_law_244 rfl (lv_at hl 0 rfl) ?_
      refine lv_iconst (v := 1) hx hb dL_law_245 (by decide) ?_
      refine lv_iadd hx hb dL_law_246 ?_
      refine ka_top (w := .int 1) (congrArg Value.int (by decide)) ?_
      refine va_sld hx hb hX hbl hbA hS (ka_in (by decide) (by decide)) dL_law_247 ?_
      refine ka_top (w := .int 3) (congrArg Value.int ez1.symm) ?_
      refine lv_aload_n hx hb dL_law_248 rfl (lv_at hl 3 rfl) ?_
      refine lv_iload_n hx hb dL_law_249 rfl (lv_at hl 0 rfl) ?_
      refine lv_iconst (v := 2) hx hb dL_law_250 (by decide) ?_
      refine lv_iadd hx hb dL_law_251 ?_
      refine ka_top (w := .int 2) (congrArg Value.int (by decide)) ?_
      refine va_sld hx hb hX hbl hbA hS (ka_in (by decide) (by decide)) dL_law_252 ?_
      refine ka_top (w := .int z2) (congrArg Value.int ez2.symm) ?_
      refine ka_RV (n := 2) C (ct_X7_picture_153 l D q_418 z2 q_503 q_504 q_505 q_506 q_507 q_508 q_509 q_510 q_511 q_512 q_513 q_514 q_515 q_516 k_519 (by omega)) gL_law_X7_picture rfl (by decide +kernel) ⟨Nat.le_of_ble_eq_true rfl, Nat.le_of_ble_eq_true rfl⟩ hK hP hS hE hN [14, 17] rfl [5] rfl (ci := 7) rfl rfl 14 rfl rfl hl.1 (rest := [.int (-2)]) rfl (Nat.le_of_ble_eq_true rfl) dL_law_253 ⟨Nat.le_of_ble_eq_true rfl, Nat.le_of_ble_eq_true rfl⟩ (fun v hv => ?_)
      subst hv
      refine ka_stk (w := [.int (-2), .int (-2)]) rfl ?_
      refine lv_icmp_eq (tgt := 725) hx hb dL_law_256 (by decide) (fun _ => ?_) (fun c_ => absurd (by decide) c_)
      refine lv_iinc (v := 6) (lv' := [(3, .int 6), (2, .ref q_418), (1, .ref q_1), (0, .ref b)]) hx hb dL_law_725 hl (k := 0) rfl (by decide) (by decide) rfl (fun ls hl => ?_)
      refine lv_goto (tgt := 18) hx hb dL_law_728 (by decide) ?_
      refine lv_iload_n hx hb dL_law_18 rfl (lv_at hl 0 rfl) ?_
      refine lv_aload_n hx hb dL_law_19 rfl (lv_at hl 3 rfl) ?_
      refine va_slen hx hb hX hbl hbA hS dL_law_20 ?_
      refine ka_top (w := .int 6) (congrArg Value.int rfl) ?_
      refine lv_bipush (v := 6) hx hb dL_law_21 (by decide) ?_
      refine lv_isub hx hb dL_law_23 ?_
      refine ka_top (w := .int 0) (congrArg Value.int (by decide)) ?_
      refine lv_icmp_gt (tgt := 731) hx hb dL_law_24 (by decide) (fun _ => ?_) (fun c_ => absurd (by decide) c_)
      refine lv_iconst (v := 1) hx hb dL_law_731 (by decide) ?_
      refine va_forget (fun q hq => by have h9 := hS.2.2 q hq; rw [hAe] at h9; exact h9) ?_
      refine W.widen (k := 600000) (n := 7302250) (Nat.le_of_ble_eq_true rfl) (Nat.le_of_ble_eq_true rfl) ?_
      exact lw_ret hx hb hr hlk dL_law_732
    · obtain rfl : z2 = 0 := (ka_eq' _ _).mpr (y2.trans (by decide))
      refine lv_aload_n hx hb dL_law_228 rfl (lv_at hl 2 rfl) ?_
      refine lv_aload_n hx hb dL_law_229 rfl (lv_at hl 3 rfl) ?_
      refine lv_iload_n hx hb dL_law_230 rfl (lv_at hl 0 rfl) ?_
      refine lv_iconst (v := 1) hx hb dL_law_231 (by decide) ?_
      refine lv_iadd hx hb dL_law_232 ?_
      refine ka_top (w := .int 1) (congrArg Value.int (by decide)) ?_
      refine va_sld hx hb hX hbl hbA hS (ka_in (by decide) (by decide)) dL_law_233 ?_
      refine ka_top (w := .int 3) (congrArg Value.int ez1.symm) ?_
      refine lv_aload_n hx hb dL_law_234 rfl (lv_at hl 3 rfl) ?_
      refine lv_iload_n hx hb dL_law_235 rfl (lv_at hl 0 rfl) ?_
      refine lv_iconst (v := 2) hx hb dL_law_236 (by decide) ?_
      refine lv_iadd hx hb dL_law_237 ?_
      refine ka_top (w := .int 2) (congrArg Value.int (by decide)) ?_
      refine va_sld hx hb hX hbl hbA hS (ka_in (by decide) (by decide)) dL_law_238 ?_
      refine ka_top (w := .int 0) (congrArg Value.int ez2.symm) ?_
      refine ka_EV (n := 2) (wr := [(q_390, .inl (k_391, 80, .inl (fun _ => 0))), (q_394, .inl (k_402, 6, .inl (fun _ => 0))), (q_396, .inr (2, [.ref q_403, .ref q_404, .int 0, .null])), (q_397, .inr (2, [.ref q_405, .ref q_406, .int 0, .null])), (q_398, .inr (2, [.ref q_407, .ref q_408, .int 0, .null])), (q_400, .inr (2, [.ref q_411, .ref q_412, .int 0, .null])), (q_401, .inr (2, [.ref q_413, .ref q_414, .int 0, .null])), (q_389, .inr (4, [.ref q_415, .ref q_416, .ref q_417, .int 0, .int 0, .int 0, .int 0, .int 0, .int 0])), (q_418, .inr (7, [.ref q_503, .int 0, .ref q_504, .ref q_505, .ref q_506, .ref q_507, .ref q_508, .ref q_509, .ref q_510, .int (-1), .int 0, .int 3, .int 3, .int 0, .int 0, .int 0, .ref q_511, .ref q_512, .ref q_513, .ref q_514, .ref q_515, .ref q_516, .int 0, .int 0, .int 0, .int 0, .int (-1), .int 0])), (q_503, .inl (k_517, 80, .inl (fun _ => 0))), (q_507, .inl (k_518, 6, .inl (fun _ => 0))), (q_508, .inl (k_519, 6, .inl (fun _ => 0))), (q_509, .inl (k_520, 36, .inl (fun _ => 0))), (q_510, .inl (k_521, 6, .inl (fun _ => 0)))]) C (ct_X6_picture_154 l D q_1 q_386 q_387 q_388 q_389 q_390 q_392 q_393 q_394 k_395 q_396 q_397 q_398 q_399 q_400 q_401 q_409 q_410) gL_law_X6_picture rfl (by decide +kernel) ⟨Nat.le_of_ble_eq_true rfl, Nat.le_of_ble_eq_true rfl⟩ hK hP hD hS hA hE hN [0, 1, 3, 4, 5, 10] rfl (by decide) [2, 6, 7, 8, 9, 11, 12, 13, 14, 15, 16, 17, 18, 19] rfl (by decide) (by decide) [1] rfl (ci := 6) rfl rfl 0 rfl rfl hl.1 (rest := []) rfl (Nat.le_of_ble_eq_true rfl) dL_law_239 ⟨Nat.le_of_ble_eq_true rfl, Nat.le_of_ble_eq_true rfl⟩ (fun u H locs _ hP hD hK hS => ?_)
      have hP : va_P D vwCl [(q_390, .inl (k_391, 80, .inl (fun _ => 0))), (q_394, .inl (k_402, 6, .inl (fun _ => 0))), (q_396, .inr (2, [.ref q_403, .ref q_404, .int 0, .null])), (q_397, .inr (2, [.ref q_405, .ref q_406, .int 0, .null])), (q_398, .inr (2, [.ref q_407, .ref q_408, .int 0, .null])), (q_400, .inr (2, [.ref q_411, .ref q_412, .int 0, .null])), (q_401, .inr (2, [.ref q_413, .ref q_414, .int 0, .null])), (q_389, .inr (4, [.ref q_415, .ref q_416, .ref q_417, .int 0, .int 0, .int 0, .int 0, .int 0, .int 0])), (q_418, .inr (7, [.ref q_503, .int 0, .ref q_504, .ref q_505, .ref q_506, .ref q_507, .ref q_508, .ref q_509, .ref q_510, .int (-1), .int 0, .int 3, .int 3, .int 0, .int 0, .int 0, .ref q_511, .ref q_512, .ref q_513, .ref q_514, .ref q_515, .ref q_516, .int 0, .int 0, .int 0, .int 0, .int (-1), .int 0])), (q_503, .inl (k_517, 80, .inl (fun _ => 0))), (q_507, .inl (k_518, 6, .inl (fun _ => 0))), (q_508, .inl (k_519, 6, .inl (fun _ => 0))), (q_509, .inl (k_520, 36, .inl (fun _ => 0))), (q_510, .inl (k_521, 6, .inl (fun _ => 0)))] H := hP
      have hD : va_D A [(q_390, .inl (k_391, 80, .inl (fun _ => 0))), (q_394, .inl (k_402, 6, .inl (fun _ => 0))), (q_396, .inr (2, [.ref q_403, .ref q_404, .int 0, .null])), (q_397, .inr (2, [.ref q_405, .ref q_406, .int 0, .null])), (q_398, .inr (2, [.ref q_407, .ref q_408, .int 0, .null])), (q_400, .inr (2, [.ref q_411, .ref q_412, .int 0, .null])), (q_401, .inr (2, [.ref q_413, .ref q_414, .int 0, .null])), (q_389, .inr (4, [.ref q_415, .ref q_416, .ref q_417, .int 0, .int 0, .int 0, .int 0, .int 0, .int 0])), (q_418, .inr (7, [.ref q_503, .int 0, .ref q_504, .ref q_505, .ref q_506, .ref q_507, .ref q_508, .ref q_509, .ref q_510, .int (-1), .int 0, .int 3, .int 3, .int 0, .int 0, .int 0, .ref q_511, .ref q_512, .ref q_513, .ref q_514, .ref q_515, .ref q_516, .int 0, .int 0, .int 0, .int 0, .int (-1), .int 0])), (q_503, .inl (k_517, 80, .inl (fun _ => 0))), (q_507, .inl (k_518, 6, .inl (fun _ => 0))), (q_508, .inl (k_519, 6, .inl (fun _ => 0))), (q_509, .inl (k_520, 36, .inl (fun _ => 0))), (q_510, .inl (k_521, 6, .inl (fun _ => 0)))] := hD
      have hK : va_K D vwCl [(k_391, .byte), (k_395, .object RX2), (k_402, .int), (k_517, .byte), (k_518, .boolean), (k_519, .boolean), (k_520, .boolean), (k_521, .int)] s := hK
      refine ka_stk (w := [.int (-1)]) rfl ?_
      refine lv_aload_n hx hb dL_law_242 rfl (lv_at hl 1 rfl) ?_
      refine lv_aload_n hx hb dL_law_243 rfl (lv_at hl 3 rfl) ?_
      refine lv_iload_n hx hb dL_law_244 rfl (lv_at hl 0 rfl) ?_
      refine lv_iconst (v := 1) hx hb dL_law_245 (by decide) ?_
      refine lv_iadd hx hb dL_law_246 ?_
      refine ka_top (w := .int 1) (congrArg Value.int (by decide)) ?_
      refine va_sld hx hb hX hbl hbA hS (ka_in (by decide) (by decide)) dL_law_247 ?_
      refine ka_top (w := .int 3) (congrArg Value.int ez1.symm) ?_
      refine lv_aload_n hx hb dL_law_248 rfl (lv_at hl 3 rfl) ?_
      refine lv_iload_n hx hb dL_law_249 rfl (lv_at hl 0 rfl) ?_
      refine lv_iconst (v := 2) hx hb dL_law_250 (by decide) ?_
      refine lv_iadd hx hb dL_law_251 ?_
      refine ka_top (w := .int 2) (congrArg Value.int (by decide)) ?_
      refine va_sld hx hb hX hbl hbA hS (ka_in (by decide) (by decide)) dL_law_252 ?_
      refine ka_top (w := .int 0) (congrArg Value.int ez2.symm) ?_
      refine ka_EV (n := 2) (wr := [(q_390, .inl (k_391, 80, .inl (fun _ => 0))), (q_394, .inl (k_402, 6, .inl (fun _ => 0))), (q_396, .inr (2, [.ref q_403, .ref q_404, .int 0, .null])), (q_397, .inr (2, [.ref q_405, .ref q_406, .int 0, .null])), (q_398, .inr (2, [.ref q_407, .ref q_408, .int 0, .null])), (q_400, .inr (2, [.ref q_411, .ref q_412, .int 0, .null])), (q_401, .inr (2, [.ref q_413, .ref q_414, .int 0, .null])), (q_389, .inr (4, [.ref q_415, .ref q_416, .ref q_417, .int 0, .int 0, .int 0, .int 0, .int 0, .int 0])), (q_503, .inl (k_517, 80, .inl (fun _ => 0))), (q_507, .inl (k_518, 6, .inl (fun _ => 0))), (q_509, .inl (k_520, 36, .inl (fun _ => 0)))]) C (ct_X7_picture_155 l D q_418 q_503 q_504 q_505 q_506 q_507 q_508 q_509 q_510 q_511 q_512 q_513 q_514 q_515 q_516 k_519 k_521) gL_law_X7_picture rfl (by decide +kernel) ⟨Nat.le_of_ble_eq_true rfl, Nat.le_of_ble_eq_true rfl⟩ hK hP hD hS hA hE hN [8, 11, 13] rfl (by decide) [0, 1, 2, 3, 4, 5, 6, 7, 9, 10, 12] rfl (by decide) (by decide) [5, 7] rfl (ci := 7) rfl rfl 8 rfl rfl hl.1 (rest := [.int (-1)]) rfl (Nat.le_of_ble_eq_true rfl) dL_law_253 ⟨Nat.le_of_ble_eq_true rfl, Nat.le_of_ble_eq_true rfl⟩ (fun u H locs _ hP hD hK hS => ?_)
      have hP : va_P D vwCl [(q_390, .inl (k_391, 80, .inl (fun _ => 0))), (q_394, .inl (k_402, 6, .inl (fun _ => 0))), (q_396, .inr (2, [.ref q_403, .ref q_404, .int 0, .null])), (q_397, .inr (2, [.ref q_405, .ref q_406, .int 0, .null])), (q_398, .inr (2, [.ref q_407, .ref q_408, .int 0, .null])), (q_400, .inr (2, [.ref q_411, .ref q_412, .int 0, .null])), (q_401, .inr (2, [.ref q_413, .ref q_414, .int 0, .null])), (q_389, .inr (4, [.ref q_415, .ref q_416, .ref q_417, .int 0, .int 0, .int 0, .int 0, .int 0, .int 0])), (q_503, .inl (k_517, 80, .inl (fun _ => 0))), (q_507, .inl (k_518, 6, .inl (fun _ => 0))), (q_509, .inl (k_520, 36, .inl (fun _ => 0)))] H := hP
      have hD : va_D A [(q_390, .inl (k_391, 80, .inl (fun _ => 0))), (q_394, .inl (k_402, 6, .inl (fun _ => 0))), (q_396, .inr (2, [.ref q_403, .ref q_404, .int 0, .null])), (q_397, .inr (2, [.ref q_405, .ref q_406, .int 0, .null])), (q_398, .inr (2, [.ref q_407, .ref q_408, .int 0, .null])), (q_400, .inr (2, [.ref q_411, .ref q_412, .int 0, .null])), (q_401, .inr (2, [.ref q_413, .ref q_414, .int 0, .null])), (q_389, .inr (4, [.ref q_415, .ref q_416, .ref q_417, .int 0, .int 0, .int 0, .int 0, .int 0, .int 0])), (q_503, .inl (k_517, 80, .inl (fun _ => 0))), (q_507, .inl (k_518, 6, .inl (fun _ => 0))), (q_509, .inl (k_520, 36, .inl (fun _ => 0)))] := hD
      have hK : va_K D vwCl [(k_391, .byte), (k_395, .object RX2), (k_402, .int), (k_517, .byte), (k_518, .boolean), (k_519, .boolean), (k_520, .boolean), (k_521, .int)] s := hK
      refine ka_stk (w := [.int (-1), .int (-1)]) rfl ?_
      refine lv_icmp_eq (tgt := 725) hx hb dL_law_256 (by decide) (fun _ => ?_) (fun c_ => absurd (by decide) c_)
      refine lv_iinc (v := 6) (lv' := [(3, .int 6), (2, .ref q_418), (1, .ref q_1), (0, .ref b)]) hx hb dL_law_725 hl (k := 0) rfl (by decide) (by decide) rfl (fun ls hl => ?_)
      refine lv_goto (tgt := 18) hx hb dL_law_728 (by decide) ?_
      refine lv_iload_n hx hb dL_law_18 rfl (lv_at hl 0 rfl) ?_
      refine lv_aload_n hx hb dL_law_19 rfl (lv_at hl 3 rfl) ?_
      refine va_slen hx hb hX hbl hbA hS dL_law_20 ?_
      refine ka_top (w := .int 6) (congrArg Value.int rfl) ?_
      refine lv_bipush (v := 6) hx hb dL_law_21 (by decide) ?_
      refine lv_isub hx hb dL_law_23 ?_
      refine ka_top (w := .int 0) (congrArg Value.int (by decide)) ?_
      refine lv_icmp_gt (tgt := 731) hx hb dL_law_24 (by decide) (fun _ => ?_) (fun c_ => absurd (by decide) c_)
      refine lv_iconst (v := 1) hx hb dL_law_731 (by decide) ?_
      refine va_forget (fun q hq => by have h9 := hS.2.2 q hq; rw [hAe] at h9; exact h9) ?_
      refine W.widen (k := 600000) (n := 7302250) (Nat.le_of_ble_eq_true rfl) (Nat.le_of_ble_eq_true rfl) ?_
      exact lw_ret hx hb hr hlk dL_law_732
    · skip
      refine lv_aload_n hx hb dL_law_228 rfl (lv_at hl 2 rfl) ?_
      refine lv_aload_n hx hb dL_law_229 rfl (lv_at hl 3 rfl) ?_
      refine lv_iload_n hx hb dL_law_230 rfl (lv_at hl 0 rfl) ?_
      refine lv_iconst (v := 1) hx hb dL_law_231 (by decide) ?_
      refine lv_iadd hx hb dL_law_232 ?_
      refine ka_top (w := .int 1) (congrArg Value.int (by decide)) ?_
      refine va_sld hx hb hX hbl hbA hS (ka_in (by decide) (by decide)) dL_law_233 ?_
      refine ka_top (w := .int 3) (congrArg Value.int ez1.symm) ?_
      refine lv_aload_n hx hb dL_law_234 rfl (lv_at hl 3 rfl) ?_
      refine lv_iload_n hx hb dL_law_235 rfl (lv_at hl 0 rfl) ?_
      refine lv_iconst (v := 2) hx hb dL_law_236 (by decide) ?_
      refine lv_iadd hx hb dL_law_237 ?_
      refine ka_top (w := .int 2) (congrArg Value.int (by decide)) ?_
      refine va_sld hx hb hX hbl hbA hS (ka_in (by decide) (by decide)) dL_law_238 ?_
      refine ka_top (w := .int z2) (congrArg Value.int ez2.symm) ?_
      refine ka_RV (n := 2) C (ct_X6_picture_156 l D q_1 z2 q_386 q_387 q_388 q_389 q_390 q_393 q_394 k_395 q_396 q_397 q_398 q_399 q_400 q_401 q_409 q_410 (by omega)) gL_law_X6_picture rfl (by decide +kernel) ⟨Nat.le_of_ble_eq_true rfl, Nat.le_of_ble_eq_true rfl⟩ hK hP hS hE hN [0, 1, 4, 5, 10] rfl [1] rfl (ci := 6) rfl rfl 0 rfl rfl hl.1 (rest := []) rfl (Nat.le_of_ble_eq_true rfl) dL_law_239 ⟨Nat.le_of_ble_eq_true rfl, Nat.le_of_ble_eq_true rfl⟩ (fun v hv => ?_)
      subst hv
      refine ka_stk (w := [.int (-2)]) rfl ?_
      refine lv_aload_n hx hb dL_law_242 rfl (lv_at hl 1 rfl) ?_
      refine lv_aload_n hx hb dL_law_243 rfl (lv_at hl 3 rfl) ?_
      refine lv_iload_n hx hb dL_law_244 rfl (lv_at hl 0 rfl) ?_
      refine lv_iconst (v := 1) hx hb dL_law_245 (by decide) ?_
      refine lv_iadd hx hb dL_law_246 ?_
      refine ka_top (w := .int 1) (congrArg Value.int (by decide)) ?_
      refine va_sld hx hb hX hbl hbA hS (ka_in (by decide) (by decide)) dL_law_247 ?_
      refine ka_top (w := .int 3) (congrArg Value.int ez1.symm) ?_
      refine lv_aload_n hx hb dL_law_248 rfl (lv_at hl 3 rfl) ?_
      refine lv_iload_n hx hb dL_law_249 rfl (lv_at hl 0 rfl) ?_
      refine lv_iconst (v := 2) hx hb dL_law_250 (by decide) ?_
      refine lv_iadd hx hb dL_law_251 ?_
      refine ka_top (w := .int 2) (congrArg Value.int (by decide)) ?_
      refine va_sld hx hb hX hbl hbA hS (ka_in (by decide) (by decide)) dL_law_252 ?_
      refine ka_top (w := .int z2) (congrArg Value.int ez2.symm) ?_
      refine ka_RV (n := 2) C (ct_X7_picture_157 l D q_418 z2 q_503 q_504 q_505 q_506 q_507 q_508 q_509 q_510 q_511 q_512 q_513 q_514 q_515 q_516 k_519 (by omega)) gL_law_X7_picture rfl (by decide +kernel) ⟨Nat.le_of_ble_eq_true rfl, Nat.le_of_ble_eq_true rfl⟩ hK hP hS hE hN [14, 17] rfl [5] rfl (ci := 7) rfl rfl 14 rfl rfl hl.1 (rest := [.int (-2)]) rfl (Nat.le_of_ble_eq_true rfl) dL_law_253 ⟨Nat.le_of_ble_eq_true rfl, Nat.le_of_ble_eq_true rfl⟩ (fun v hv => ?_)
      subst hv
      refine ka_stk (w := [.int (-2), .int (-2)]) rfl ?_
      refine lv_icmp_eq (tgt := 725) hx hb dL_law_256 (by decide) (fun _ => ?_) (fun c_ => absurd (by decide) c_)
      refine lv_iinc (v := 6) (lv' := [(3, .int 6), (2, .ref q_418), (1, .ref q_1), (0, .ref b)]) hx hb dL_law_725 hl (k := 0) rfl (by decide) (by decide) rfl (fun ls hl => ?_)
      refine lv_goto (tgt := 18) hx hb dL_law_728 (by decide) ?_
      refine lv_iload_n hx hb dL_law_18 rfl (lv_at hl 0 rfl) ?_
      refine lv_aload_n hx hb dL_law_19 rfl (lv_at hl 3 rfl) ?_
      refine va_slen hx hb hX hbl hbA hS dL_law_20 ?_
      refine ka_top (w := .int 6) (congrArg Value.int rfl) ?_
      refine lv_bipush (v := 6) hx hb dL_law_21 (by decide) ?_
      refine lv_isub hx hb dL_law_23 ?_
      refine ka_top (w := .int 0) (congrArg Value.int (by decide)) ?_
      refine lv_icmp_gt (tgt := 731) hx hb dL_law_24 (by decide) (fun _ => ?_) (fun c_ => absurd (by decide) c_)
      refine lv_iconst (v := 1) hx hb dL_law_731 (by decide) ?_
      refine va_forget (fun q hq => by have h9 := hS.2.2 q hq; rw [hAe] at h9; exact h9) ?_
      refine W.widen (k := 600000) (n := 7302250) (Nat.le_of_ble_eq_true rfl) (Nat.le_of_ble_eq_true rfl) ?_
      exact lw_ret hx hb hr hlk dL_law_732
  · obtain rfl : z1 = 4 := (ka_eq' _ _).mpr (y1.trans (by decide))
    rcases (show z2.toInt ≤ -1 ∨ z2.toInt = 0 ∨ 1 ≤ z2.toInt by omega) with y2 | y2 | y2
    · skip
      refine lv_aload_n hx hb dL_law_228 rfl (lv_at hl 2 rfl) ?_
      refine lv_aload_n hx hb dL_law_229 rfl (lv_at hl 3 rfl) ?_
      refine lv_iload_n hx hb dL_law_230 rfl (lv_at hl 0 rfl) ?_
      refine lv_iconst (v := 1) hx hb dL_law_231 (by decide) ?_
      refine lv_iadd hx hb dL_law_232 ?_
      refine ka_top (w := .int 1) (congrArg Value.int (by decide)) ?_
      refine va_sld hx hb hX hbl hbA hS (ka_in (by decide) (by decide)) dL_law_233 ?_
      refine ka_top (w := .int 4) (congrArg Value.int ez1.symm) ?_
      refine lv_aload_n hx hb dL_law_234 rfl (lv_at hl 3 rfl) ?_
      refine lv_iload_n hx hb dL_law_235 rfl (lv_at hl 0 rfl) ?_
      refine lv_iconst (v := 2) hx hb dL_law_236 (by decide) ?_
      refine lv_iadd hx hb dL_law_237 ?_
      refine ka_top (w := .int 2) (congrArg Value.int (by decide)) ?_
      refine va_sld hx hb hX hbl hbA hS (ka_in (by decide) (by decide)) dL_law_238 ?_
      refine ka_top (w := .int z2) (congrArg Value.int ez2.symm) ?_
      refine ka_RV (n := 2) C (ct_X6_picture_158 l D q_1 z2 q_386 q_387 q_388 q_389 q_390 q_393 q_394 k_395 q_396 q_397 q_398 q_399 q_400 q_401 q_411 q_412 (by omega)) gL_law_X6_picture rfl (by decide +kernel) ⟨Nat.le_of_ble_eq_true rfl, Nat.le_of_ble_eq_true rfl⟩ hK hP hS hE hN [0, 1, 4, 5, 11] rfl [1] rfl (ci := 6) rfl rfl 0 rfl rfl hl.1 (rest := []) rfl (Nat.le_of_ble_eq_true rfl) dL_law_239 ⟨Nat.le_of_ble_eq_true rfl, Nat.le_of_ble_eq_true rfl⟩ (fun v hv => ?_)
      subst hv
      refine ka_stk (w := [.int (-2)]) rfl ?_
      refine lv_aload_n hx hb dL_law_242 rfl (lv_at hl 1 rfl) ?_
      refine lv_aload_n hx hb dL_law_243 rfl (lv_at hl 3 rfl) ?_
      refine lv_iload_n hx hb dL_law_244 rfl (lv_at hl 0 rfl) ?_
      refine lv_iconst (v := 1) hx hb dL_law_245 (by decide) ?_
      refine lv_iadd hx hb dL_law_246 ?_
      refine ka_top (w := .int 1) (congrArg Value.int (by decide)) ?_
      refine va_sld hx hb hX hbl hbA hS (ka_in (by decide) (by decide)) dL_law_247 ?_
      refine ka_top (w := .int 4) (congrArg Value.int ez1.symm) ?_
      refine lv_aload_n hx hb dL_law_248 rfl (lv_at hl 3 rfl) ?_
      refine lv_iload_n hx hb dL_law_249 rfl (lv_at hl 0 rfl) ?_
      refine lv_iconst (v := 2) hx hb dL_law_250 (by decide) ?_
      refine lv_iadd hx hb dL_law_251 ?_
      refine ka_top (w := .int 2) (congrArg Value.int (by decide)) ?_
      refine va_sld hx hb hX hbl hbA hS (ka_in (by decide) (by decide)) dL_law_252 ?_
      refine ka_top (w := .int z2) (congrArg Value.int ez2.symm) ?_
      refine ka_RV (n := 2) C (ct_X7_picture_159 l D q_418 z2 q_503 q_504 q_505 q_506 q_507 q_508 q_509 q_510 q_511 q_512 q_513 q_514 q_515 q_516 k_519 (by omega)) gL_law_X7_picture rfl (by decide +kernel) ⟨Nat.le_of_ble_eq_true rfl, Nat.le_of_ble_eq_true rfl⟩ hK hP hS hE hN [14, 17] rfl [5] rfl (ci := 7) rfl rfl 14 rfl rfl hl.1 (rest := [.int (-2)]) rfl (Nat.le_of_ble_eq_true rfl) dL_law_253 ⟨Nat.le_of_ble_eq_true rfl, Nat.le_of_ble_eq_true rfl⟩ (fun v hv => ?_)
      subst hv
      refine ka_stk (w := [.int (-2), .int (-2)]) rfl ?_
      refine lv_icmp_eq (tgt := 725) hx hb dL_law_256 (by decide) (fun _ => ?_) (fun c_ => absurd (by decide) c_)
      refine lv_iinc (v := 6) (lv' := [(3, .int 6), (2, .ref q_418), (1, .ref q_1), (0, .ref b)]) hx hb dL_law_725 hl (k := 0) rfl (by decide) (by decide) rfl (fun ls hl => ?_)
      refine lv_goto (tgt := 18) hx hb dL_law_728 (by decide) ?_
      refine lv_iload_n hx hb dL_law_18 rfl (lv_at hl 0 rfl) ?_
      refine lv_aload_n hx hb dL_law_19 rfl (lv_at hl 3 rfl) ?_
      refine va_slen hx hb hX hbl hbA hS dL_law_20 ?_
      refine ka_top (w := .int 6) (congrArg Value.int rfl) ?_
      refine lv_bipush (v := 6) hx hb dL_law_21 (by decide) ?_
      refine lv_isub hx hb dL_law_23 ?_
      refine ka_top (w := .int 0) (congrArg Value.int (by decide)) ?_
      refine lv_icmp_gt (tgt := 731) hx hb dL_law_24 (by decide) (fun _ => ?_) (fun c_ => absurd (by decide) c_)
      refine lv_iconst (v := 1) hx hb dL_law_731 (by decide) ?_
      refine va_forget (fun q hq => by have h9 := hS.2.2 q hq; rw [hAe] at h9; exact h9) ?_
      refine W.widen (k := 600000) (n := 7302250) (Nat.le_of_ble_eq_true rfl) (Nat.le_of_ble_eq_true rfl) ?_
      exact lw_ret hx hb hr hlk dL_law_732
    · obtain rfl : z2 = 0 := (ka_eq' _ _).mpr (y2.trans (by decide))
      refine lv_aload_n hx hb dL_law_228 rfl (lv_at hl 2 rfl) ?_
      refine lv_aload_n hx hb dL_law_229 rfl (lv_at hl 3 rfl) ?_
      refine lv_iload_n hx hb dL_law_230 rfl (lv_at hl 0 rfl) ?_
      refine lv_iconst (v := 1) hx hb dL_law_231 (by decide) ?_
      refine lv_iadd hx hb dL_law_232 ?_
      refine ka_top (w := .int 1) (congrArg Value.int (by decide)) ?_
      refine va_sld hx hb hX hbl hbA hS (ka_in (by decide) (by decide)) dL_law_233 ?_
      refine ka_top (w := .int 4) (congrArg Value.int ez1.symm) ?_
      refine lv_aload_n hx hb dL_law_234 rfl (lv_at hl 3 rfl) ?_
      refine lv_iload_n hx hb dL_law_235 rfl (lv_at hl 0 rfl) ?_
      refine lv_iconst (v := 2) hx hb dL_law_236 (by decide) ?_
      refine lv_iadd hx hb dL_law_237 ?_
      refine ka_top (w := .int 2) (congrArg Value.int (by decide)) ?_
      refine va_sld hx hb hX hbl hbA hS (ka_in (by decide) (by decide)) dL_law_238 ?_
      refine ka_top (w := .int 0) (congrArg Value.int ez2.symm) ?_
      refine ka_EV (n := 2) (wr := [(q_390, .inl (k_391, 80, .inl (fun _ => 0))), (q_394, .inl (k_402, 6, .inl (fun _ => 0))), (q_396, .inr (2, [.ref q_403, .ref q_404, .int 0, .null])), (q_397, .inr (2, [.ref q_405, .ref q_406, .int 0, .null])), (q_398, .inr (2, [.ref q_407, .ref q_408, .int 0, .null])), (q_399, .inr (2, [.ref q_409, .ref q_410, .int 0, .null])), (q_401, .inr (2, [.ref q_413, .ref q_414, .int 0, .null])), (q_389, .inr (4, [.ref q_415, .ref q_416, .ref q_417, .int 0, .int 0, .int 0, .int 0, .int 0, .int 0])), (q_418, .inr (7, [.ref q_503, .int 0, .ref q_504, .ref q_505, .ref q_506, .ref q_507, .ref q_508, .ref q_509, .ref q_510, .int (-1), .int 0, .int 3, .int 3, .int 0, .int 0, .int 0, .ref q_511, .ref q_512, .ref q_513, .ref q_514, .ref q_515, .ref q_516, .int 0, .int 0, .int 0, .int 0, .int (-1), .int 0])), (q_503, .inl (k_517, 80, .inl (fun _ => 0))), (q_507, .inl (k_518, 6, .inl (fun _ => 0))), (q_508, .inl (k_519, 6, .inl (fun _ => 0))), (q_509, .inl (k_520, 36, .inl (fun _ => 0))), (q_510, .inl (k_521, 6, .inl (fun _ => 0)))]) C (ct_X6_picture_160 l D q_1 q_386 q_387 q_388 q_389 q_390 q_392 q_393 q_394 k_395 q_396 q_397 q_398 q_399 q_400 q_401 q_411 q_412) gL_law_X6_picture rfl (by decide +kernel) ⟨Nat.le_of_ble_eq_true rfl, Nat.le_of_ble_eq_true rfl⟩ hK hP hD hS hA hE hN [0, 1, 3, 4, 5, 11] rfl (by decide) [2, 6, 7, 8, 9, 10, 12, 13, 14, 15, 16, 17, 18, 19] rfl (by decide) (by decide) [1] rfl (ci := 6) rfl rfl 0 rfl rfl hl.1 (rest := []) rfl (Nat.le_of_ble_eq_true rfl) dL_law_239 ⟨Nat.le_of_ble_eq_true rfl, Nat.le_of_ble_eq_true rfl⟩ (fun u H locs _ hP hD hK hS => ?_)
      have hP : va_P D vwCl [(q_390, .inl (k_391, 80, .inl (fun _ => 0))), (q_394, .inl (k_402, 6, .inl (fun _ => 0))), (q_396, .inr (2, [.ref q_403, .ref q_404, .int 0, .null])), (q_397, .inr (2, [.ref q_405, .ref q_406, .int 0, .null])), (q_398, .inr (2, [.ref q_407, .ref q_408, .int 0, .null])), (q_399, .inr (2, [.ref q_409, .ref q_410, .int 0, .null])), (q_401, .inr (2, [.ref q_413, .ref q_414, .int 0, .null])), (q_389, .inr (4, [.ref q_415, .ref q_416, .ref q_417, .int 0, .int 0, .int 0, .int 0, .int 0, .int 0])), (q_418, .inr (7, [.ref q_503, .int 0, .ref q_504, .ref q_505, .ref q_506, .ref q_507, .ref q_508, .ref q_509, .ref q_510, .int (-1), .int 0, .int 3, .int 3, .int 0, .int 0, .int 0, .ref q_511, .ref q_512, .ref q_513, .ref q_514, .ref q_515, .ref q_516, .int 0, .int 0, .int 0, .int 0, .int (-1), .int 0])), (q_503, .inl (k_517, 80, .inl (fun _ => 0))), (q_507, .inl (k_518, 6, .inl (fun _ => 0))), (q_508, .inl (k_519, 6, .inl (fun _ => 0))), (q_509, .inl (k_520, 36, .inl (fun _ => 0))), (q_510, .inl (k_521, 6, .inl (fun _ => 0)))] H := hP
      have hD : va_D A [(q_390, .inl (k_391, 80, .inl (fun _ => 0))), (q_394, .inl (k_402, 6, .inl (fun _ => 0))), (q_396, .inr (2, [.ref q_403, .ref q_404, .int 0, .null])), (q_397, .inr (2, [.ref q_405, .ref q_406, .int 0, .null])), (q_398, .inr (2, [.ref q_407, .ref q_408, .int 0, .null])), (q_399, .inr (2, [.ref q_409, .ref q_410, .int 0, .null])), (q_401, .inr (2, [.ref q_413, .ref q_414, .int 0, .null])), (q_389, .inr (4, [.ref q_415, .ref q_416, .ref q_417, .int 0, .int 0, .int 0, .int 0, .int 0, .int 0])), (q_418, .inr (7, [.ref q_503, .int 0, .ref q_504, .ref q_505, .ref q_506, .ref q_507, .ref q_508, .ref q_509, .ref q_510, .int (-1), .int 0, .int 3, .int 3, .int 0, .int 0, .int 0, .ref q_511, .ref q_512, .ref q_513, .ref q_514, .ref q_515, .ref q_516, .int 0, .int 0, .int 0, .int 0, .int (-1), .int 0])), (q_503, .inl (k_517, 80, .inl (fun _ => 0))), (q_507, .inl (k_518, 6, .inl (fun _ => 0))), (q_508, .inl (k_519, 6, .inl (fun _ => 0))), (q_509, .inl (k_520, 36, .inl (fun _ => 0))), (q_510, .inl (k_521, 6, .inl (fun _ => 0)))] := hD
      have hK : va_K D vwCl [(k_391, .byte), (k_395, .object RX2), (k_402, .int), (k_517, .byte), (k_518, .boolean), (k_519, .boolean), (k_520, .boolean), (k_521, .int)] s := hK
      refine ka_stk (w := [.int (-1)]) rfl ?_
      refine lv_aload_n hx hb dL_law_242 rfl (lv_at hl 1 rfl) ?_
      refine lv_aload_n hx hb dL_law_243 rfl (lv_at hl 3 rfl) ?_
      refine lv_iload_n hx hb dL_law_244 rfl (lv_at hl 0 rfl) ?_
      refine lv_iconst (v := 1) hx hb dL_law_245 (by decide) ?_
      refine lv_iadd hx hb dL_law_246 ?_
      refine ka_top (w := .int 1) (congrArg Value.int (by decide)) ?_
      refine va_sld hx hb hX hbl hbA hS (ka_in (by decide) (by decide)) dL_law_247 ?_
      refine ka_top (w := .int 4) (congrArg Value.int ez1.symm) ?_
      refine lv_aload_n hx hb dL_law_248 rfl (lv_at hl 3 rfl) ?_
      refine lv_iload_n hx hb dL_law_249 rfl (lv_at hl 0 rfl) ?_
      refine lv_iconst (v := 2) hx hb dL_law_250 (by decide) ?_
      refine lv_iadd hx hb dL_law_251 ?_
      refine ka_top (w := .int 2) (congrArg Value.int (by decide)) ?_
      refine va_sld hx hb hX hbl hbA hS (ka_in (by decide) (by decide)) dL_law_252 ?_
      refine ka_top (w := .int 0) (congrArg Value.int ez2.symm) ?_
      refine ka_EV (n := 2) (wr := [(q_390, .inl (k_391, 80, .inl (fun _ => 0))), (q_394, .inl (k_402, 6, .inl (fun _ => 0))), (q_396, .inr (2, [.ref q_403, .ref q_404, .int 0, .null])), (q_397, .inr (2, [.ref q_405, .ref q_406, .int 0, .null])), (q_398, .inr (2, [.ref q_407, .ref q_408, .int 0, .null])), (q_399, .inr (2, [.ref q_409, .ref q_410, .int 0, .null])), (q_401, .inr (2, [.ref q_413, .ref q_414, .int 0, .null])), (q_389, .inr (4, [.ref q_415, .ref q_416, .ref q_417, .int 0, .int 0, .int 0, .int 0, .int 0, .int 0])), (q_503, .inl (k_517, 80, .inl (fun _ => 0))), (q_507, .inl (k_518, 6, .inl (fun _ => 0))), (q_509, .inl (k_520, 36, .inl (fun _ => 0)))]) C (ct_X7_picture_161 l D q_418 q_503 q_504 q_505 q_506 q_507 q_508 q_509 q_510 q_511 q_512 q_513 q_514 q_515 q_516 k_519 k_521) gL_law_X7_picture rfl (by decide +kernel) ⟨Nat.le_of_ble_eq_true rfl, Nat.le_of_ble_eq_true rfl⟩ hK hP hD hS hA hE hN [8, 11, 13] rfl (by decide) [0, 1, 2, 3, 4, 5, 6, 7, 9, 10, 12] rfl (by decide) (by decide) [5, 7] rfl (ci := 7) rfl rfl 8 rfl rfl hl.1 (rest := [.int (-1)]) rfl (Nat.le_of_ble_eq_true rfl) dL_law_253 ⟨Nat.le_of_ble_eq_true rfl, Nat.le_of_ble_eq_true rfl⟩ (fun u H locs _ hP hD hK hS => ?_)
      have hP : va_P D vwCl [(q_390, .inl (k_391, 80, .inl (fun _ => 0))), (q_394, .inl (k_402, 6, .inl (fun _ => 0))), (q_396, .inr (2, [.ref q_403, .ref q_404, .int 0, .null])), (q_397, .inr (2, [.ref q_405, .ref q_406, .int 0, .null])), (q_398, .inr (2, [.ref q_407, .ref q_408, .int 0, .null])), (q_399, .inr (2, [.ref q_409, .ref q_410, .int 0, .null])), (q_401, .inr (2, [.ref q_413, .ref q_414, .int 0, .null])), (q_389, .inr (4, [.ref q_415, .ref q_416, .ref q_417, .int 0, .int 0, .int 0, .int 0, .int 0, .int 0])), (q_503, .inl (k_517, 80, .inl (fun _ => 0))), (q_507, .inl (k_518, 6, .inl (fun _ => 0))), (q_509, .inl (k_520, 36, .inl (fun _ => 0)))] H := hP
      have hD : va_D A [(q_390, .inl (k_391, 80, .inl (fun _ => 0))), (q_394, .inl (k_402, 6, .inl (fun _ => 0))), (q_396, .inr (2, [.ref q_403, .ref q_404, .int 0, .null])), (q_397, .inr (2, [.ref q_405, .ref q_406, .int 0, .null])), (q_398, .inr (2, [.ref q_407, .ref q_408, .int 0, .null])), (q_399, .inr (2, [.ref q_409, .ref q_410, .int 0, .null])), (q_401, .inr (2, [.ref q_413, .ref q_414, .int 0, .null])), (q_389, .inr (4, [.ref q_415, .ref q_416, .ref q_417, .int 0, .int 0, .int 0, .int 0, .int 0, .int 0])), (q_503, .inl (k_517, 80, .inl (fun _ => 0))), (q_507, .inl (k_518, 6, .inl (fun _ => 0))), (q_509, .inl (k_520, 36, .inl (fun _ => 0)))] := hD
      have hK : va_K D vwCl [(k_391, .byte), (k_395, .object RX2), (k_402, .int), (k_517, .byte), (k_518, .boolean), (k_519, .boolean), (k_520, .boolean), (k_521, .int)] s := hK
      refine ka_stk (w := [.int (-1), .int (-1)]) rfl ?_
      refine lv_icmp_eq (tgt := 725) hx hb dL_law_256 (by decide) (fun _ => ?_) (fun c_ => absurd (by decide) c_)
      refine lv_iinc (v := 6) (lv' := [(3, .int 6), (2, .ref q_418), (1, .ref q_1), (0, .ref b)]) hx hb dL_law_725 hl (k := 0) rfl (by decide) (by decide) rfl (fun ls hl => ?_)
      refine lv_goto (tgt := 18) hx hb dL_law_728 (by decide) ?_
      refine lv_iload_n hx hb dL_law_18 rfl (lv_at hl 0 rfl) ?_
      refine lv_aload_n hx hb dL_law_19 rfl (lv_at hl 3 rfl) ?_
      refine va_slen hx hb hX hbl hbA hS dL_law_20 ?_
      refine ka_top (w := .int 6) (congrArg Value.int rfl) ?_
      refine lv_bipush (v := 6) hx hb dL_law_21 (by decide) ?_
      refine lv_isub hx hb dL_law_23 ?_
      refine ka_top (w := .int 0) (congrArg Value.int (by decide)) ?_
      refine lv_icmp_gt (tgt := 731) hx hb dL_law_24 (by decide) (fun _ => ?_) (fun c_ => absurd (by decide) c_)
      refine lv_iconst (v := 1) hx hb dL_law_731 (by decide) ?_
      refine va_forget (fun q hq => by have h9 := hS.2.2 q hq; rw [hAe] at h9; exact h9) ?_
      refine W.widen (k := 600000) (n := 7302250) (Nat.le_of_ble_eq_true rfl) (Nat.le_of_ble_eq_true rfl) ?_
      exact lw_ret hx hb hr hlk dL_law_732
    · skip
      refine lv_aload_n hx hb dL_law_228 rfl (lv_at hl 2 rfl) ?_
      refine lv_aload_n hx hb dL_law_229 rfl (lv_at hl 3 rfl) ?_
      refine lv_iload_n hx hb dL_law_230 rfl (lv_at hl 0 rfl) ?_
      refine lv_iconst (v := 1) hx hb dL_law_231 (by decide) ?_
      refine lv_iadd hx hb dL_law_232 ?_
      refine ka_top (w := .int 1) (congrArg Value.int (by decide)) ?_
      refine va_sld hx hb hX hbl hbA hS (ka_in (by decide) (by decide)) dL_law_233 ?_
      refine ka_top (w := .int 4) (congrArg Value.int ez1.symm) ?_
      refine lv_aload_n hx hb dL_law_234 rfl (lv_at hl 3 rfl) ?_
      refine lv_iload_n hx hb dL_law_235 rfl (lv_at hl 0 rfl) ?_
      refine lv_iconst (v := 2) hx hb dL_law_236 (by decide) ?_
      refine lv_iadd hx hb dL_law_237 ?_
      refine ka_top (w := .int 2) (congrArg Value.int (by decide)) ?_
      refine va_sld hx hb hX hbl hbA hS (ka_in (by decide) (by decide)) dL_law_238 ?_
      refine ka_top (w := .int z2) (congrArg Value.int ez2.symm) ?_
      refine ka_RV (n := 2) C (ct_X6_picture_162 l D q_1 z2 q_386 q_387 q_388 q_389 q_390 q_393 q_394 k_395 q_396 q_397 q_398 q_399 q_400 q_401 q_411 q_412 (by omega)) gL_law_X6_picture rfl (by decide +kernel) ⟨Nat.le_of_ble_eq_true rfl, Nat.le_of_ble_eq_true rfl⟩ hK hP hS hE hN [0, 1, 4, 5, 11] rfl [1] rfl (ci := 6) rfl rfl 0 rfl rfl hl.1 (rest := []) rfl (Nat.le_of_ble_eq_true rfl) dL_law_239 ⟨Nat.le_of_ble_eq_true rfl, Nat.le_of_ble_eq_true rfl⟩ (fun v hv => ?_)
      subst hv
      refine ka_stk (w := [.int (-2)]) rfl ?_
      refine lv_aload_n hx hb dL_law_242 rfl (lv_at hl 1 rfl) ?_
      refine lv_aload_n hx hb dL_law_243 rfl (lv_at hl 3 rfl) ?_
      refine lv_iload_n hx hb dL_law_244 rfl (lv_at hl 0 rfl) ?_
      refine lv_iconst (v := 1) hx hb dL_law_245 (by decide) ?_
      refine lv_iadd hx hb dL_law_246 ?_
      refine ka_top (w := .int 1) (congrArg Value.int (by decide)) ?_
      refine va_sld hx hb hX hbl hbA hS (ka_in (by decide) (by decide)) dL_law_247 ?_
      refine ka_top (w := .int 4) (congrArg Value.int ez1.symm) ?_
      refine lv_aload_n hx hb dL_law_248 rfl (lv_at hl 3 rfl) ?_
      refine lv_iload_n hx hb dL_law_249 rfl (lv_at hl 0 rfl) ?_
      refine lv_iconst (v := 2) hx hb dL_law_250 (by decide) ?_
      refine lv_iadd hx hb dL_law_251 ?_
      refine ka_top (w := .int 2) (congrArg Value.int (by decide)) ?_
      refine va_sld hx hb hX hbl hbA hS (ka_in (by decide) (by decide)) dL_law_252 ?_
      refine ka_top (w := .int z2) (congrArg Value.int ez2.symm) ?_
      refine ka_RV (n := 2) C (ct_X7_picture_163 l D q_418 z2 q_503 q_504 q_505 q_506 q_507 q_508 q_509 q_510 q_511 q_512 q_513 q_514 q_515 q_516 k_519 (by omega)) gL_law_X7_picture rfl (by decide +kernel) ⟨Nat.le_of_ble_eq_true rfl, Nat.le_of_ble_eq_true rfl⟩ hK hP hS hE hN [14, 17] rfl [5] rfl (ci := 7) rfl rfl 14 rfl rfl hl.1 (rest := [.int (-2)]) rfl (Nat.le_of_ble_eq_true rfl) dL_law_253 ⟨Nat.le_of_ble_eq_true rfl, Nat.le_of_ble_eq_true rfl⟩ (fun v hv => ?_)
      subst hv
      refine ka_stk (w := [.int (-2), .int (-2)]) rfl ?_
      refine lv_icmp_eq (tgt := 725) hx hb dL_law_256 (by decide) (fun _ => ?_) (fun c_ => absurd (by decide) c_)
      refine lv_iinc (v := 6) (lv' := [(3, .int 6), (2, .ref q_418), (1, .ref q_1), (0, .ref b)]) hx hb dL_law_725 hl (k := 0) rfl (by decide) (by decide) rfl (fun ls hl => ?_)
      refine lv_goto (tgt := 18) hx hb dL_law_728 (by decide) ?_
      refine lv_iload_n hx hb dL_law_18 rfl (lv_at hl 0 rfl) ?_
      refine lv_aload_n hx hb dL_law_19 rfl (lv_at hl 3 rfl) ?_
      refine va_slen hx hb hX hbl hbA hS dL_law_20 ?_
      refine ka_top (w := .int 6) (congrArg Value.int rfl) ?_
      refine lv_bipush (v := 6) hx hb dL_law_21 (by decide) ?_
      refine lv_isub hx hb dL_law_23 ?_
      refine ka_top (w := .int 0) (congrArg Value.int (by decide)) ?_
      refine lv_icmp_gt (tgt := 731) hx hb dL_law_24 (by decide) (fun _ => ?_) (fun c_ => absurd (by decide) c_)
      refine lv_iconst (v := 1) hx hb dL_law_731 (by decide) ?_
      refine va_forget (fun q hq => by have h9 := hS.2.2 q hq; rw [hAe] at h9; exact h9) ?_
      refine W.widen (k := 600000) (n := 7302250) (Nat.le_of_ble_eq_true rfl) (Nat.le_of_ble_eq_true rfl) ?_
      exact lw_ret hx hb hr hlk dL_law_732
  · obtain rfl : z1 = 5 := (ka_eq' _ _).mpr (y1.trans (by decide))
    rcases (show z2.toInt ≤ -1 ∨ z2.toInt = 0 ∨ 1 ≤ z2.toInt by omega) with y2 | y2 | y2
    · skip
      refine lv_aload_n hx hb dL_law_228 rfl (lv_at hl 2 rfl) ?_
      refine lv_aload_n hx hb dL_law_229 rfl (lv_at hl 3 rfl) ?_
      refine lv_iload_n hx hb dL_law_230 rfl (lv_at hl 0 rfl) ?_
      refine lv_iconst (v := 1) hx hb dL_law_231 (by decide) ?_
      refine lv_iadd hx hb dL_law_232 ?_
      refine ka_top (w := .int 1) (congrArg Value.int (by decide)) ?_
      refine va_sld hx hb hX hbl hbA hS (ka_in (by decide) (by decide)) dL_law_233 ?_
      refine ka_top (w := .int 5) (congrArg Value.int ez1.symm) ?_
      refine lv_aload_n hx hb dL_law_234 rfl (lv_at hl 3 rfl) ?_
      refine lv_iload_n hx hb dL_law_235 rfl (lv_at hl 0 rfl) ?_
      refine lv_iconst (v := 2) hx hb dL_law_236 (by decide) ?_
      refine lv_iadd hx hb dL_law_237 ?_
      refine ka_top (w := .int 2) (congrArg Value.int (by decide)) ?_
      refine va_sld hx hb hX hbl hbA hS (ka_in (by decide) (by decide)) dL_law_238 ?_
      refine ka_top (w := .int z2) (congrArg Value.int ez2.symm) ?_
      refine ka_RV (n := 2) C (ct_X6_picture_164 l D q_1 z2 q_386 q_387 q_388 q_389 q_390 q_393 q_394 k_395 q_396 q_397 q_398 q_399 q_400 q_401 q_413 q_414 (by omega)) gL_law_X6_picture rfl (by decide +kernel) ⟨Nat.le_of_ble_eq_true rfl, Nat.le_of_ble_eq_true rfl⟩ hK hP hS hE hN [0, 1, 4, 5, 12] rfl [1] rfl (ci := 6) rfl rfl 0 rfl rfl hl.1 (rest := []) rfl (Nat.le_of_ble_eq_true rfl) dL_law_239 ⟨Nat.le_of_ble_eq_true rfl, Nat.le_of_ble_eq_true rfl⟩ (fun v hv => ?_)
      subst hv
      refine ka_stk (w := [.int (-2)]) rfl ?_
      refine lv_aload_n hx hb dL_law_242 rfl (lv_at hl 1 rfl) ?_
      refine lv_aload_n hx hb dL_law_243 rfl (lv_at hl 3 rfl) ?_
      refine lv_iload_n hx hb dL_law_244 rfl (lv_at hl 0 rfl) ?_
      refine lv_iconst (v := 1) hx hb dL_law_245 (by decide) ?_
      refine lv_iadd hx hb dL_law_246 ?_
      refine ka_top (w := .int 1) (congrArg Value.int (by decide)) ?_
      refine va_sld hx hb hX hbl hbA hS (ka_in (by decide) (by decide)) dL_law_247 ?_
      refine ka_top (w := .int 5) (congrArg Value.int ez1.symm) ?_
      refine lv_aload_n hx hb dL_law_248 rfl (lv_at hl 3 rfl) ?_
      refine lv_iload_n hx hb dL_law_249 rfl (lv_at hl 0 rfl) ?_
      refine lv_iconst (v := 2) hx hb dL_law_250 (by decide) ?_
      refine lv_iadd hx hb dL_law_251 ?_
      refine ka_top (w := .int 2) (congrArg Value.int (by decide)) ?_
      refine va_sld hx hb hX hbl hbA hS (ka_in (by decide) (by decide)) dL_law_252 ?_
      refine ka_top (w := .int z2) (congrArg Value.int ez2.symm) ?_
      refine ka_RV (n := 2) C (ct_X7_picture_165 l D q_418 z2 q_503 q_504 q_505 q_506 q_507 q_508 q_509 q_510 q_511 q_512 q_513 q_514 q_515 q_516 k_519 (by omega)) gL_law_X7_picture rfl (by decide +kernel) ⟨Nat.le_of_ble_eq_true rfl, Nat.le_of_ble_eq_true rfl⟩ hK hP hS hE hN [14, 17] rfl [5] rfl (ci := 7) rfl rfl 14 rfl rfl hl.1 (rest := [.int (-2)]) rfl (Nat.le_of_ble_eq_true rfl) dL_law_253 ⟨Nat.le_of_ble_eq_true rfl, Nat.le_of_ble_eq_true rfl⟩ (fun v hv => ?_)
      subst hv
      refine ka_stk (w := [.int (-2), .int (-2)]) rfl ?_
      refine lv_icmp_eq (tgt := 725) hx hb dL_law_256 (by decide) (fun _ => ?_) (fun c_ => absurd (by decide) c_)
      refine lv_iinc (v := 6) (lv' := [(3, .int 6), (2, .ref q_418), (1, .ref q_1), (0, .ref b)]) hx hb dL_law_725 hl (k := 0) rfl (by decide) (by decide) rfl (fun ls hl => ?_)
      refine lv_goto (tgt := 18) hx hb dL_law_728 (by decide) ?_
      refine lv_iload_n hx hb dL_law_18 rfl (lv_at hl 0 rfl) ?_
      refine lv_aload_n hx hb dL_law_19 rfl (lv_at hl 3 rfl) ?_
      refine va_slen hx hb hX hbl hbA hS dL_law_20 ?_
      refine ka_top (w := .int 6) (congrArg Value.int rfl) ?_
      refine lv_bipush (v := 6) hx hb dL_law_21 (by decide) ?_
      refine lv_isub hx hb dL_law_23 ?_
      refine ka_top (w := .int 0) (congrArg Value.int (by decide)) ?_
      refine lv_icmp_gt (tgt := 731) hx hb dL_law_24 (by decide) (fun _ => ?_) (fun c_ => absurd (by decide) c_)
      refine lv_iconst (v := 1) hx hb dL_law_731 (by decide) ?_
      refine va_forget (fun q hq => by have h9 := hS.2.2 q hq; rw [hAe] at h9; exact h9) ?_
      refine W.widen (k := 600000) (n := 7302250) (Nat.le_of_ble_eq_true rfl) (Nat.le_of_ble_eq_true rfl) ?_
      exact lw_ret hx hb hr hlk dL_law_732
    · obtain rfl : z2 = 0 := (ka_eq' _ _).mpr (y2.trans (by decide))
      refine lv_aload_n hx hb dL_law_228 rfl (lv_at hl 2 rfl) ?_
      refine lv_aload_n hx hb dL_law_229 rfl (lv_at hl 3 rfl) ?_
      refine lv_iload_n hx hb dL_law_230 rfl (lv_at hl 0 rfl) ?_
      refine lv_iconst (v := 1) hx hb dL_law_231 (by decide) ?_
      refine lv_iadd hx hb dL_law_232 ?_
      refine ka_top (w := .int 1) (congrArg Value.int (by decide)) ?_
      refine va_sld hx hb hX hbl hbA hS (ka_in (by decide) (by decide)) dL_law_233 ?_
      refine ka_top (w := .int 5) (congrArg Value.int ez1.symm) ?_
      refine lv_aload_n hx hb dL_law_234 rfl (lv_at hl 3 rfl) ?_
      refine lv_iload_n hx hb dL_law_235 rfl (lv_at hl 0 rfl) ?_
      refine lv_iconst (v := 2) hx hb dL_law_236 (by decide) ?_
      refine lv_iadd hx hb dL_law_237 ?_
      refine ka_top (w := .int 2) (congrArg Value.int (by decide)) ?_
      refine va_sld hx hb hX hbl hbA hS (ka_in (by decide) (by decide)) dL_law_238 ?_
      refine ka_top (w := .int 0) (congrArg Value.int ez2.symm) ?_
      refine ka_EV (n := 2) (wr := [(q_390, .inl (k_391, 80, .inl (fun _ => 0))), (q_394, .inl (k_402, 6, .inl (fun _ => 0))), (q_396, .inr (2, [.ref q_403, .ref q_404, .int 0, .null])), (q_397, .inr (2, [.ref q_405, .ref q_406, .int 0, .null])), (q_398, .inr (2, [.ref q_407, .ref q_408, .int 0, .null])), (q_399, .inr (2, [.ref q_409, .ref q_410, .int 0, .null])), (q_400, .inr (2, [.ref q_411, .ref q_412, .int 0, .null])), (q_389, .inr (4, [.ref q_415, .ref q_416, .ref q_417, .int 0, .int 0, .int 0, .int 0, .int 0, .int 0])), (q_418, .inr (7, [.ref q_503, .int 0, .ref q_504, .ref q_505, .ref q_506, .ref q_507, .ref q_508, .ref q_509, .ref q_510, .int (-1), .int 0, .int 3, .int 3, .int 0, .int 0, .int 0, .ref q_511, .ref q_512, .ref q_513, .ref q_514, .ref q_515, .ref q_516, .int 0, .int 0, .int 0, .int 0, .int (-1), .int 0])), (q_503, .inl (k_517, 80, .inl (fun _ => 0))), (q_507, .inl (k_518, 6, .inl (fun _ => 0))), (q_508, .inl (k_519, 6, .inl (fun _ => 0))), (q_509, .inl (k_520, 36, .inl (fun _ => 0))), (q_510, .inl (k_521, 6, .inl (fun _ => 0)))]) C (ct_X6_picture_166 l D q_1 q_386 q_387 q_388 q_389 q_390 q_392 q_393 q_394 k_395 q_396 q_397 q_398 q_399 q_400 q_401 q_413 q_414) gL_law_X6_picture rfl (by decide +kernel) ⟨Nat.le_of_ble_eq_true rfl, Nat.le_of_ble_eq_true rfl⟩ hK hP hD hS hA hE hN [0, 1, 3, 4, 5, 12] rfl (by decide) [2, 6, 7, 8, 9, 10, 11, 13, 14, 15, 16, 17, 18, 19] rfl (by decide) (by decide) [1] rfl (ci := 6) rfl rfl 0 rfl rfl hl.1 (rest := []) rfl (Nat.le_of_ble_eq_true rfl) dL_law_239 ⟨Nat.le_of_ble_eq_true rfl, Nat.le_of_ble_eq_true rfl⟩ (fun u H locs _ hP hD hK hS => ?_)
      have hP : va_P D vwCl [(q_390, .inl (k_391, 80, .inl (fun _ => 0))), (q_394, .inl (k_402, 6, .inl (fun _ => 0))), (q_396, .inr (2, [.ref q_403, .ref q_404, .int 0, .null])), (q_397, .inr (2, [.ref q_405, .ref q_406, .int 0, .null])), (q_398, .inr (2, [.ref q_407, .ref q_408, .int 0, .null])), (q_399, .inr (2, [.ref q_409, .ref q_410, .int 0, .null])), (q_400, .inr (2, [.ref q_411, .ref q_412, .int 0, .null])), (q_389, .inr (4, [.ref q_415, .ref q_416, .ref q_417, .int 0, .int 0, .int 0, .int 0, .int 0, .int 0])), (q_418, .inr (7, [.ref q_503, .int 0, .ref q_504, .ref q_505, .ref q_506, .ref q_507, .ref q_508, .ref q_509, .ref q_510, .int (-1), .int 0, .int 3, .int 3, .int 0, .int 0, .int 0, .ref q_511, .ref q_512, .ref q_513, .ref q_514, .ref q_515, .ref q_516, .int 0, .int 0, .int 0, .int 0, .int (-1), .int 0])), (q_503, .inl (k_517, 80, .inl (fun _ => 0))), (q_507, .inl (k_518, 6, .inl (fun _ => 0))), (q_508, .inl (k_519, 6, .inl (fun _ => 0))), (q_509, .inl (k_520, 36, .inl (fun _ => 0))), (q_510, .inl (k_521, 6, .inl (fun _ => 0)))] H := hP
      have hD : va_D A [(q_390, .inl (k_391, 80, .inl (fun _ => 0))), (q_394, .inl (k_402, 6, .inl (fun _ => 0))), (q_396, .inr (2, [.ref q_403, .ref q_404, .int 0, .null])), (q_397, .inr (2, [.ref q_405, .ref q_406, .int 0, .null])), (q_398, .inr (2, [.ref q_407, .ref q_408, .int 0, .null])), (q_399, .inr (2, [.ref q_409, .ref q_410, .int 0, .null])), (q_400, .inr (2, [.ref q_411, .ref q_412, .int 0, .null])), (q_389, .inr (4, [.ref q_415, .ref q_416, .ref q_417, .int 0, .int 0, .int 0, .int 0, .int 0, .int 0])), (q_418, .inr (7, [.ref q_503, .int 0, .ref q_504, .ref q_505, .ref q_506, .ref q_507, .ref q_508, .ref q_509, .ref q_510, .int (-1), .int 0, .int 3, .int 3, .int 0, .int 0, .int 0, .ref q_511, .ref q_512, .ref q_513, .ref q_514, .ref q_515, .ref q_516, .int 0, .int 0, .int 0, .int 0, .int (-1), .int 0])), (q_503, .inl (k_517, 80, .inl (fun _ => 0))), (q_507, .inl (k_518, 6, .inl (fun _ => 0))), (q_508, .inl (k_519, 6, .inl (fun _ => 0))), (q_509, .inl (k_520, 36, .inl (fun _ => 0))), (q_510, .inl (k_521, 6, .inl (fun _ => 0)))] := hD
      have hK : va_K D vwCl [(k_391, .byte), (k_395, .object RX2), (k_402, .int), (k_517, .byte), (k_518, .boolean), (k_519, .boolean), (k_520, .boolean), (k_521, .int)] s := hK
      refine ka_stk (w := [.int (-1)]) rfl ?_
      refine lv_aload_n hx hb dL_law_242 rfl (lv_at hl 1 rfl) ?_
      refine lv_aload_n hx hb dL_law_243 rfl (lv_at hl 3 rfl) ?_
      refine lv_iload_n hx hb dL_law_244 rfl (lv_at hl 0 rfl) ?_
      refine lv_iconst (v := 1) hx hb dL_law_245 (by decide) ?_
      refine lv_iadd hx hb dL_law_246 ?_
      refine ka_top (w := .int 1) (congrArg Value.int (by decide)) ?_
      refine va_sld hx hb hX hbl hbA hS (ka_in (by decide) (by decide)) dL_law_247 ?_
      refine ka_top (w := .int 5) (congrArg Value.int ez1.symm) ?_
      refine lv_aload_n hx hb dL_law_248 rfl (lv_at hl 3 rfl) ?_
      refine lv_iload_n hx hb dL_law_249 rfl (lv_at hl 0 rfl) ?_
      refine lv_iconst (v := 2) hx hb dL_law_250 (by decide) ?_
      refine lv_iadd hx hb dL_law_251 ?_
      refine ka_top (w := .int 2) (congrArg Value.int (by decide)) ?_
      refine va_sld hx hb hX hbl hbA hS (ka_in (by decide) (by decide)) dL_law_252 ?_
      refine ka_top (w := .int 0) (congrArg Value.int ez2.symm) ?_
      refine ka_EV (n := 2) (wr := [(q_390, .inl (k_391, 80, .inl (fun _ => 0))), (q_394, .inl (k_402, 6, .inl (fun _ => 0))), (q_396, .inr (2, [.ref q_403, .ref q_404, .int 0, .null])), (q_397, .inr (2, [.ref q_405, .ref q_406, .int 0, .null])), (q_398, .inr (2, [.ref q_407, .ref q_408, .int 0, .null])), (q_399, .inr (2, [.ref q_409, .ref q_410, .int 0, .null])), (q_400, .inr (2, [.ref q_411, .ref q_412, .int 0, .null])), (q_389, .inr (4, [.ref q_415, .ref q_416, .ref q_417, .int 0, .int 0, .int 0, .int 0, .int 0, .int 0])), (q_503, .inl (k_517, 80, .inl (fun _ => 0))), (q_507, .inl (k_518, 6, .inl (fun _ => 0))), (q_509, .inl (k_520, 36, .inl (fun _ => 0)))]) C (ct_X7_picture_167 l D q_418 q_503 q_504 q_505 q_506 q_507 q_508 q_509 q_510 q_511 q_512 q_513 q_514 q_515 q_516 k_519 k_521) gL_law_X7_picture rfl (by decide +kernel) ⟨Nat.le_of_ble_eq_true rfl, Nat.le_of_ble_eq_true rfl⟩ hK hP hD hS hA hE hN [8, 11, 13] rfl (by decide) [0, 1, 2, 3, 4, 5, 6, 7, 9, 10, 12] rfl (by decide) (by decide) [5, 7] rfl (ci := 7) rfl rfl 8 rfl rfl hl.1 (rest := [.int (-1)]) rfl (Nat.le_of_ble_eq_true rfl) dL_law_253 ⟨Nat.le_of_ble_eq_true rfl, Nat.le_of_ble_eq_true rfl⟩ (fun u H locs _ hP hD hK hS => ?_)
      have hP : va_P D vwCl [(q_390, .inl (k_391, 80, .inl (fun _ => 0))), (q_394, .inl (k_402, 6, .inl (fun _ => 0))), (q_396, .inr (2, [.ref q_403, .ref q_404, .int 0, .null])), (q_397, .inr (2, [.ref q_405, .ref q_406, .int 0, .null])), (q_398, .inr (2, [.ref q_407, .ref q_408, .int 0, .null])), (q_399, .inr (2, [.ref q_409, .ref q_410, .int 0, .null])), (q_400, .inr (2, [.ref q_411, .ref q_412, .int 0, .null])), (q_389, .inr (4, [.ref q_415, .ref q_416, .ref q_417, .int 0, .int 0, .int 0, .int 0, .int 0, .int 0])), (q_503, .inl (k_517, 80, .inl (fun _ => 0))), (q_507, .inl (k_518, 6, .inl (fun _ => 0))), (q_509, .inl (k_520, 36, .inl (fun _ => 0)))] H := hP
      have hD : va_D A [(q_390, .inl (k_391, 80, .inl (fun _ => 0))), (q_394, .inl (k_402, 6, .inl (fun _ => 0))), (q_396, .inr (2, [.ref q_403, .ref q_404, .int 0, .null])), (q_397, .inr (2, [.ref q_405, .ref q_406, .int 0, .null])), (q_398, .inr (2, [.ref q_407, .ref q_408, .int 0, .null])), (q_399, .inr (2, [.ref q_409, .ref q_410, .int 0, .null])), (q_400, .inr (2, [.ref q_411, .ref q_412, .int 0, .null])), (q_389, .inr (4, [.ref q_415, .ref q_416, .ref q_417, .int 0, .int 0, .int 0, .int 0, .int 0, .int 0])), (q_503, .inl (k_517, 80, .inl (fun _ => 0))), (q_507, .inl (k_518, 6, .inl (fun _ => 0))), (q_509, .inl (k_520, 36, .inl (fun _ => 0)))] := hD
      have hK : va_K D vwCl [(k_391, .byte), (k_395, .object RX2), (k_402, .int), (k_517, .byte), (k_518, .boolean), (k_519, .boolean), (k_520, .boolean), (k_521, .int)] s := hK
      refine ka_stk (w := [.int (-1), .int (-1)]) rfl ?_
      refine lv_icmp_eq (tgt := 725) hx hb dL_law_256 (by decide) (fun _ => ?_) (fun c_ => absurd (by decide) c_)
      refine lv_iinc (v := 6) (lv' := [(3, .int 6), (2, .ref q_418), (1, .ref q_1), (0, .ref b)]) hx hb dL_law_725 hl (k := 0) rfl (by decide) (by decide) rfl (fun ls hl => ?_)
      refine lv_goto (tgt := 18) hx hb dL_law_728 (by decide) ?_
      refine lv_iload_n hx hb dL_law_18 rfl (lv_at hl 0 rfl) ?_
      refine lv_aload_n hx hb dL_law_19 rfl (lv_at hl 3 rfl) ?_
      refine va_slen hx hb hX hbl hbA hS dL_law_20 ?_
      refine ka_top (w := .int 6) (congrArg Value.int rfl) ?_
      refine lv_bipush (v := 6) hx hb dL_law_21 (by decide) ?_
      refine lv_isub hx hb dL_law_23 ?_
      refine ka_top (w := .int 0) (congrArg Value.int (by decide)) ?_
      refine lv_icmp_gt (tgt := 731) hx hb dL_law_24 (by decide) (fun _ => ?_) (fun c_ => absurd (by decide) c_)
      refine lv_iconst (v := 1) hx hb dL_law_731 (by decide) ?_
      refine va_forget (fun q hq => by have h9 := hS.2.2 q hq; rw [hAe] at h9; exact h9) ?_
      refine W.widen (k := 600000) (n := 7302250) (Nat.le_of_ble_eq_true rfl) (Nat.le_of_ble_eq_true rfl) ?_
      exact lw_ret hx hb hr hlk dL_law_732
    · skip
      refine lv_aload_n hx hb dL_law_228 rfl (lv_at hl 2 rfl) ?_
      refine lv_aload_n hx hb dL_law_229 rfl (lv_at hl 3 rfl) ?_
      refine lv_iload_n hx hb dL_law_230 rfl (lv_at hl 0 rfl) ?_
      refine lv_iconst (v := 1) hx hb dL_law_231 (by decide) ?_
      refine lv_iadd hx hb dL_law_232 ?_
      refine ka_top (w := .int 1) (congrArg Value.int (by decide)) ?_
      refine va_sld hx hb hX hbl hbA hS (ka_in (by decide) (by decide)) dL_law_233 ?_
      refine ka_top (w := .int 5) (congrArg Value.int ez1.symm) ?_
      refine lv_aload_n hx hb dL_law_234 rfl (lv_at hl 3 rfl) ?_
      refine lv_iload_n hx hb dL_law_235 rfl (lv_at hl 0 rfl) ?_
      refine lv_iconst (v := 2) hx hb dL_law_236 (by decide) ?_
      refine lv_iadd hx hb dL_law_237 ?_
      refine ka_top (w := .int 2) (congrArg Value.int (by decide)) ?_
      refine va_sld hx hb hX hbl hbA hS (ka_in (by decide) (by decide)) dL_law_238 ?_
      refine ka_top (w := .int z2) (congrArg Value.int ez2.symm) ?_
      refine ka_RV (n := 2) C (ct_X6_picture_168 l D q_1 z2 q_386 q_387 q_388 q_389 q_390 q_393 q_394 k_395 q_396 q_397 q_398 q_399 q_400 q_401 q_413 q_414 (by omega)) gL_law_X6_picture rfl (by decide +kernel) ⟨Nat.le_of_ble_eq_true rfl, Nat.le_of_ble_eq_true rfl⟩ hK hP hS hE hN [0, 1, 4, 5, 12] rfl [1] rfl (ci := 6) rfl rfl 0 rfl rfl hl.1 (rest := []) rfl (Nat.le_of_ble_eq_true rfl) dL_law_239 ⟨Nat.le_of_ble_eq_true rfl, Nat.le_of_ble_eq_true rfl⟩ (fun v hv => ?_)
      subst hv
      refine ka_stk (w := [.int (-2)]) rfl ?_
      refine lv_aload_n hx hb dL_law_242 rfl (lv_at hl 1 rfl) ?_
      refine lv_aload_n hx hb dL_law_243 rfl (lv_at hl 3 rfl) ?_
      refine lv_iload_n hx hb dL_law_244 rfl (lv_at hl 0 rfl) ?_
      refine lv_iconst (v := 1) hx hb dL_law_245 (by decide) ?_
      refine lv_iadd hx hb dL_law_246 ?_
      refine ka_top (w := .int 1) (congrArg Value.int (by decide)) ?_
      refine va_sld hx hb hX hbl hbA hS (ka_in (by decide) (by decide)) dL_law_247 ?_
      refine ka_top (w := .int 5) (congrArg Value.int ez1.symm) ?_
      refine lv_aload_n hx hb dL_law_248 rfl (lv_at hl 3 rfl) ?_
      refine lv_iload_n hx hb dL_law_249 rfl (lv_at hl 0 rfl) ?_
      refine lv_iconst (v := 2) hx hb dL_law_250 (by decide) ?_
      refine lv_iadd hx hb dL_law_251 ?_
      refine ka_top (w := .int 2) (congrArg Value.int (by decide)) ?_
      refine va_sld hx hb hX hbl hbA hS (ka_in (by decide) (by decide)) dL_law_252 ?_
      refine ka_top (w := .int z2) (congrArg Value.int ez2.symm) ?_
      refine ka_RV (n := 2) C (ct_X7_picture_169 l D q_418 z2 q_503 q_504 q_505 q_506 q_507 q_508 q_509 q_510 q_511 q_512 q_513 q_514 q_515 q_516 k_519 (by omega)) gL_law_X7_picture rfl (by decide +kernel) ⟨Nat.le_of_ble_eq_true rfl, Nat.le_of_ble_eq_true rfl⟩ hK hP hS hE hN [14, 17] rfl [5] rfl (ci := 7) rfl rfl 14 rfl rfl hl.1 (rest := [.int (-2)]) rfl (Nat.le_of_ble_eq_true rfl) dL_law_253 ⟨Nat.le_of_ble_eq_true rfl, Nat.le_of_ble_eq_true rfl⟩ (fun v hv => ?_)
      subst hv
      refine ka_stk (w := [.int (-2), .int (-2)]) rfl ?_
      refine lv_icmp_eq (tgt := 725) hx hb dL_law_256 (by decide) (fun _ => ?_) (fun c_ => absurd (by decide) c_)
      refine lv_iinc (v := 6) (lv' := [(3, .int 6), (2, .ref q_418), (1, .ref q_1), (0, .ref b)]) hx hb dL_law_725 hl (k := 0) rfl (by decide) (by decide) rfl (fun ls hl => ?_)
      refine lv_goto (tgt := 18) hx hb dL_law_728 (by decide) ?_
      refine lv_iload_n hx hb dL_law_18 rfl (lv_at hl 0 rfl) ?_
      refine lv_aload_n hx hb dL_law_19 rfl (lv_at hl 3 rfl) ?_
      refine va_slen hx hb hX hbl hbA hS dL_law_20 ?_
      refine ka_top (w := .int 6) (congrArg Value.int rfl) ?_
      refine lv_bipush (v := 6) hx hb dL_law_21 (by decide) ?_
      refine lv_isub hx hb dL_law_23 ?_
      refine ka_top (w := .int 0) (congrArg Value.int (by decide)) ?_
      refine lv_icmp_gt (tgt := 731) hx hb dL_law_24 (by decide) (fun _ => ?_) (fun c_ => absurd (by decide) c_)
      refine lv_iconst (v := 1) hx hb dL_law_731 (by decide) ?_
      refine va_forget (fun q hq => by have h9 := hS.2.2 q hq; rw [hAe] at h9; exact h9) ?_
      refine W.widen (k := 600000) (n := 7302250) (Nat.le_of_ble_eq_true rfl) (Nat.le_of_ble_eq_true rfl) ?_
      exact lw_ret hx hb hr hlk dL_law_732
  · skip
    rcases (show z2.toInt ≤ -1 ∨ z2.toInt = 0 ∨ 1 ≤ z2.toInt by omega) with y2 | y2 | y2
    · skip
      refine lv_aload_n hx hb dL_law_228 rfl (lv_at hl 2 rfl) ?_
      refine lv_aload_n hx hb dL_law_229 rfl (lv_at hl 3 rfl) ?_
      refine lv_iload_n hx hb dL_law_230 rfl (lv_at hl 0 rfl) ?_
      refine lv_iconst (v := 1) hx hb dL_law_231 (by decide) ?_
      refine lv_iadd hx hb dL_law_232 ?_
      refine ka_top (w := .int 1) (congrArg Value.int (by decide)) ?_
      refine va_sld hx hb hX hbl hbA hS (ka_in (by decide) (by decide)) dL_law_233 ?_
      refine ka_top (w := .int z1) (congrArg Value.int ez1.symm) ?_
      refine lv_aload_n hx hb dL_law_234 rfl (lv_at hl 3 rfl) ?_
      refine lv_iload_n hx hb dL_law_235 rfl (lv_at hl 0 rfl) ?_
      refine lv_iconst (v := 2) hx hb dL_law_236 (by decide) ?_
      refine lv_iadd hx hb dL_law_237 ?_
      refine ka_top (w := .int 2) (congrArg Value.int (by decide)) ?_
      refine va_sld hx hb hX hbl hbA hS (ka_in (by decide) (by decide)) dL_law_238 ?_
      refine ka_top (w := .int z2) (congrArg Value.int ez2.symm) ?_
      refine ka_RV (n := 2) C (ct_X6_picture_170 l D q_1 z1 z2 q_386 q_387 q_388 q_389 q_393 q_394 (by omega) (by omega)) gL_law_X6_picture rfl (by decide +kernel) ⟨Nat.le_of_ble_eq_true rfl, Nat.le_of_ble_eq_true rfl⟩ hK hP hS hE hN [0, 4] rfl [] rfl (ci := 6) rfl rfl 0 rfl rfl hl.1 (rest := []) rfl (Nat.le_of_ble_eq_true rfl) dL_law_239 ⟨Nat.le_of_ble_eq_true rfl, Nat.le_of_ble_eq_true rfl⟩ (fun v hv => ?_)
      subst hv
      refine ka_stk (w := [.int (-2)]) rfl ?_
      refine lv_aload_n hx hb dL_law_242 rfl (lv_at hl 1 rfl) ?_
      refine lv_aload_n hx hb dL_law_243 rfl (lv_at hl 3 rfl) ?_
      refine lv_iload_n hx hb dL_law_244 rfl (lv_at hl 0 rfl) ?_
      refine lv_iconst (v := 1) hx hb dL_law_245 (by decide) ?_
      refine lv_iadd hx hb dL_law_246 ?_
      refine ka_top (w := .int 1) (congrArg Value.int (by decide)) ?_
      refine va_sld hx hb hX hbl hbA hS (ka_in (by decide) (by decide)) dL_law_247 ?_
      refine ka_top (w := .int z1) (congrArg Value.int ez1.symm) ?_
      refine lv_aload_n hx hb dL_law_248 rfl (lv_at hl 3 rfl) ?_
      refine lv_iload_n hx hb dL_law_249 rfl (lv_at hl 0 rfl) ?_
      refine lv_iconst (v := 2) hx hb dL_law_250 (by decide) ?_
      refine lv_iadd hx hb dL_law_251 ?_
      refine ka_top (w := .int 2) (congrArg Value.int (by decide)) ?_
      refine va_sld hx hb hX hbl hbA hS (ka_in (by decide) (by decide)) dL_law_252 ?_
      refine ka_top (w := .int z2) (congrArg Value.int ez2.symm) ?_
      refine ka_RV (n := 2) C (ct_X7_picture_171 l D q_418 z1 z2 q_503 q_504 q_505 q_506 q_507 q_508 q_509 q_510 q_511 q_512 q_513 q_514 q_515 q_516 (by omega) (by omega)) gL_law_X7_picture rfl (by decide +kernel) ⟨Nat.le_of_ble_eq_true rfl, Nat.le_of_ble_eq_true rfl⟩ hK hP hS hE hN [14] rfl [] rfl (ci := 7) rfl rfl 14 rfl rfl hl.1 (rest := [.int (-2)]) rfl (Nat.le_of_ble_eq_true rfl) dL_law_253 ⟨Nat.le_of_ble_eq_true rfl, Nat.le_of_ble_eq_true rfl⟩ (fun v hv => ?_)
      subst hv
      refine ka_stk (w := [.int (-2), .int (-2)]) rfl ?_
      refine lv_icmp_eq (tgt := 725) hx hb dL_law_256 (by decide) (fun _ => ?_) (fun c_ => absurd (by decide) c_)
      refine lv_iinc (v := 6) (lv' := [(3, .int 6), (2, .ref q_418), (1, .ref q_1), (0, .ref b)]) hx hb dL_law_725 hl (k := 0) rfl (by decide) (by decide) rfl (fun ls hl => ?_)
      refine lv_goto (tgt := 18) hx hb dL_law_728 (by decide) ?_
      refine lv_iload_n hx hb dL_law_18 rfl (lv_at hl 0 rfl) ?_
      refine lv_aload_n hx hb dL_law_19 rfl (lv_at hl 3 rfl) ?_
      refine va_slen hx hb hX hbl hbA hS dL_law_20 ?_
      refine ka_top (w := .int 6) (congrArg Value.int rfl) ?_
      refine lv_bipush (v := 6) hx hb dL_law_21 (by decide) ?_
      refine lv_isub hx hb dL_law_23 ?_
      refine ka_top (w := .int 0) (congrArg Value.int (by decide)) ?_
      refine lv_icmp_gt (tgt := 731) hx hb dL_law_24 (by decide) (fun _ => ?_) (fun c_ => absurd (by decide) c_)
      refine lv_iconst (v := 1) hx hb dL_law_731 (by decide) ?_
      refine va_forget (fun q hq => by have h9 := hS.2.2 q hq; rw [hAe] at h9; exact h9) ?_
      refine W.widen (k := 600000) (n := 7302250) (Nat.le_of_ble_eq_true rfl) (Nat.le_of_ble_eq_true rfl) ?_
      exact lw_ret hx hb hr hlk dL_law_732
    · obtain rfl : z2 = 0 := (ka_eq' _ _).mpr (y2.trans (by decide))
      refine lv_aload_n hx hb dL_law_228 rfl (lv_at hl 2 rfl) ?_
      refine lv_aload_n hx hb dL_law_229 rfl (lv_at hl 3 rfl) ?_
      refine lv_iload_n hx hb dL_law_230 rfl (lv_at hl 0 rfl) ?_
      refine lv_iconst (v := 1) hx hb dL_law_231 (by decide) ?_
      refine lv_iadd hx hb dL_law_232 ?_
      refine ka_top (w := .int 1) (congrArg Value.int (by decide)) ?_
      refine va_sld hx hb hX hbl hbA hS (ka_in (by decide) (by decide)) dL_law_233 ?_
      refine ka_top (w := .int z1) (congrArg Value.int ez1.symm) ?_
      refine lv_aload_n hx hb dL_law_234 rfl (lv_at hl 3 rfl) ?_
      refine lv_iload_n hx hb dL_law_235 rfl (lv_at hl 0 rfl) ?_
      refine lv_iconst (v := 2) hx hb dL_law_236 (by decide) ?_
      refine lv_iadd hx hb dL_law_237 ?_
      refine ka_top (w := .int 2) (congrArg Value.int (by decide)) ?_
      refine va_sld hx hb hX hbl hbA hS (ka_in (by decide) (by decide)) dL_law_238 ?_
      refine ka_top (w := .int 0) (congrArg Value.int ez2.symm) ?_
      refine ka_RV (n := 2) C (ct_X6_picture_172 l D q_1 z1 q_386 q_387 q_388 q_389 q_393 q_394 (by omega)) gL_law_X6_picture rfl (by decide +kernel) ⟨Nat.le_of_ble_eq_true rfl, Nat.le_of_ble_eq_true rfl⟩ hK hP hS hE hN [0, 4] rfl [] rfl (ci := 6) rfl rfl 0 rfl rfl hl.1 (rest := []) rfl (Nat.le_of_ble_eq_true rfl) dL_law_239 ⟨Nat.le_of_ble_eq_true rfl, Nat.le_of_ble_eq_true rfl⟩ (fun v hv => ?_)
      subst hv
      refine ka_stk (w := [.int (-2)]) rfl ?_
      refine lv_aload_n hx hb dL_law_242 rfl (lv_at hl 1 rfl) ?_
      refine lv_aload_n hx hb dL_law_243 rfl (lv_at hl 3 rfl) ?_
      refine lv_iload_n hx hb dL_law_244 rfl (lv_at hl 0 rfl) ?_
      refine lv_iconst (v := 1) hx hb dL_law_245 (by decide) ?_
      refine lv_iadd hx hb dL_law_246 ?_
      refine ka_top (w := .int 1) (congrArg Value.int (by decide)) ?_
      refine va_sld hx hb hX hbl hbA hS (ka_in (by decide) (by decide)) dL_law_247 ?_
      refine ka_top (w := .int z1) (congrArg Value.int ez1.symm) ?_
      refine lv_aload_n hx hb dL_law_248 rfl (lv_at hl 3 rfl) ?_
      refine lv_iload_n hx hb dL_law_249 rfl (lv_at hl 0 rfl) ?_
      refine lv_iconst (v := 2) hx hb dL_law_250 (by decide) ?_
      refine lv_iadd hx hb dL_law_251 ?_
      refine ka_top (w := .int 2) (congrArg Value.int (by decide)) ?_
      refine va_sld hx hb hX hbl hbA hS (ka_in (by decide) (by decide)) dL_law_252 ?_
      refine ka_top (w := .int 0) (congrArg Value.int ez2.symm) ?_
      refine ka_RV (n := 2) C (ct_X7_picture_173 l D q_418 z1 q_503 q_504 q_505 q_506 q_507 q_508 q_509 q_510 q_511 q_512 q_513 q_514 q_515 q_516 (by omega)) gL_law_X7_picture rfl (by decide +kernel) ⟨Nat.le_of_ble_eq_true rfl, Nat.le_of_ble_eq_true rfl⟩ hK hP hS hE hN [14] rfl [] rfl (ci := 7) rfl rfl 14 rfl rfl hl.1 (rest := [.int (-2)]) rfl (Nat.le_of_ble_eq_true rfl) dL_law_253 ⟨Nat.le_of_ble_eq_true rfl, Nat.le_of_ble_eq_true rfl⟩ (fun v hv => ?_)
      subst hv
      refine ka_stk (w := [.int (-2), .int (-2)]) rfl ?_
      refine lv_icmp_eq (tgt := 725) hx hb dL_law_256 (by decide) (fun _ => ?_) (fun c_ => absurd (by decide) c_)
      refine lv_iinc (v := 6) (lv' := [(3, .int 6), (2, .ref q_418), (1, .ref q_1), (0, .ref b)]) hx hb dL_law_725 hl (k := 0) rfl (by decide) (by decide) rfl (fun ls hl => ?_)
      refine lv_goto (tgt := 18) hx hb dL_law_728 (by decide) ?_
      refine lv_iload_n hx hb dL_law_18 rfl (lv_at hl 0 rfl) ?_
      refine lv_aload_n hx hb dL_law_19 rfl (lv_at hl 3 rfl) ?_
      refine va_slen hx hb hX hbl hbA hS dL_law_20 ?_
      refine ka_top (w := .int 6) (congrArg Value.int rfl) ?_
      refine lv_bipush (v := 6) hx hb dL_law_21 (by decide) ?_
      refine lv_isub hx hb dL_law_23 ?_
      refine ka_top (w := .int 0) (congrArg Value.int (by decide)) ?_
      refine lv_icmp_gt (tgt := 731) hx hb dL_law_24 (by decide) (fun _ => ?_) (fun c_ => absurd (by decide) c_)
      refine lv_iconst (v := 1) hx hb dL_law_731 (by decide) ?_
      refine va_forget (fun q hq => by have h9 := hS.2.2 q hq; rw [hAe] at h9; exact h9) ?_
      refine W.widen (k := 600000) (n := 7302250) (Nat.le_of_ble_eq_true rfl) (Nat.le_of_ble_eq_true rfl) ?_
      exact lw_ret hx hb hr hlk dL_law_732
    · skip
      refine lv_aload_n hx hb dL_law_228 rfl (lv_at hl 2 rfl) ?_
      refine lv_aload_n hx hb dL_law_229 rfl (lv_at hl 3 rfl) ?_
      refine lv_iload_n hx hb dL_law_230 rfl (lv_at hl 0 rfl) ?_
      refine lv_iconst (v := 1) hx hb dL_law_231 (by decide) ?_
      refine lv_iadd hx hb dL_law_232 ?_
      refine ka_top (w := .int 1) (congrArg Value.int (by decide)) ?_
      refine va_sld hx hb hX hbl hbA hS (ka_in (by decide) (by decide)) dL_law_233 ?_
      refine ka_top (w := .int z1) (congrArg Value.int ez1.symm) ?_
      refine lv_aload_n hx hb dL_law_234 rfl (lv_at hl 3 rfl) ?_
      refine lv_iload_n hx hb dL_law_235 rfl (lv_at hl 0 rfl) ?_
      refine lv_iconst (v := 2) hx hb dL_law_236 (by decide) ?_
      refine lv_iadd hx hb dL_law_237 ?_
      refine ka_top (w := .int 2) (congrArg Value.int (by decide)) ?_
      refine va_sld hx hb hX hbl hbA hS (ka_in (by decide) (by decide)) dL_law_238 ?_
      refine ka_top (w := .int z2) (congrArg Value.int ez2.symm) ?_
      refine ka_RV (n := 2) C (ct_X6_picture_174 l D q_1 z1 z2 q_386 q_387 q_388 q_389 q_393 q_394 (by omega) (by omega)) gL_law_X6_picture rfl (by decide +kernel) ⟨Nat.le_of_ble_eq_true rfl, Nat.le_of_ble_eq_true rfl⟩ hK hP hS hE hN [0, 4] rfl [] rfl (ci := 6) rfl rfl 0 rfl rfl hl.1 (rest := []) rfl (Nat.le_of_ble_eq_true rfl) dL_law_239 ⟨Nat.le_of_ble_eq_true rfl, Nat.le_of_ble_eq_true rfl⟩ (fun v hv => ?_)
      subst hv
      refine ka_stk (w := [.int (-2)]) rfl ?_
      refine lv_aload_n hx hb dL_law_242 rfl (lv_at hl 1 rfl) ?_
      refine lv_aload_n hx hb dL_law_243 rfl (lv_at hl 3 rfl) ?_
      refine lv_iload_n hx hb dL_law_244 rfl (lv_at hl 0 rfl) ?_
      refine lv_iconst (v := 1) hx hb dL_law_245 (by decide) ?_
      refine lv_iadd hx hb dL_law_246 ?_
      refine ka_top (w := .int 1) (congrArg Value.int (by decide)) ?_
      refine va_sld hx hb hX hbl hbA hS (ka_in (by decide) (by decide)) dL_law_247 ?_
      refine ka_top (w := .int z1) (congrArg Value.int ez1.symm) ?_
      refine lv_aload_n hx hb dL_law_248 rfl (lv_at hl 3 rfl) ?_
      refine lv_iload_n hx hb dL_law_249 rfl (lv_at hl 0 rfl) ?_
      refine lv_iconst (v := 2) hx hb dL_law_250 (by decide) ?_
      refine lv_iadd hx hb dL_law_251 ?_
      refine ka_top (w := .int 2) (congrArg Value.int (by decide)) ?_
      refine va_sld hx hb hX hbl hbA hS (ka_in (by decide) (by decide)) dL_law_252 ?_
      refine ka_top (w := .int z2) (congrArg Value.int ez2.symm) ?_
      refine ka_RV (n := 2) C (ct_X7_picture_175 l D q_418 z1 z2 q_503 q_504 q_505 q_506 q_507 q_508 q_509 q_510 q_511 q_512 q_513 q_514 q_515 q_516 (by omega) (by omega)) gL_law_X7_picture rfl (by decide +kernel) ⟨Nat.le_of_ble_eq_true rfl, Nat.le_of_ble_eq_true rfl⟩ hK hP hS hE hN [14] rfl [] rfl (ci := 7) rfl rfl 14 rfl rfl hl.1 (rest := [.int (-2)]) rfl (Nat.le_of_ble_eq_true rfl) dL_law_253 ⟨Nat.le_of_ble_eq_true rfl, Nat.le_of_ble_eq_true rfl⟩ (fun v hv => ?_)
      subst hv
      refine ka_stk (w := [.int (-2), .int (-2)]) rfl ?_
      refine lv_icmp_eq (tgt := 725) hx hb dL_law_256 (by decide) (fun _ => ?_) (fun c_ => absurd (by decide) c_)
      refine lv_iinc (v := 6) (lv' := [(3, .int 6), (2, .ref q_418), (1, .ref q_1), (0, .ref b)]) hx hb dL_law_725 hl (k := 0) rfl (by decide) (by decide) rfl (fun ls hl => ?_)
      refine lv_goto (tgt := 18) hx hb dL_law_728 (by decide) ?_
      refine lv_iload_n hx hb dL_law_18 rfl (lv_at hl 0 rfl) ?_
      refine lv_aload_n hx hb dL_law_19 rfl (lv_at hl 3 rfl) ?_
      refine va_slen hx hb hX hbl hbA hS dL_law_20 ?_
      refine ka_top (w := .int 6) (congrArg Value.int rfl) ?_
      refine lv_bipush (v := 6) hx hb dL_law_21 (by decide) ?_
      refine lv_isub hx hb dL_law_23 ?_
      refine ka_top (w := .int 0) (congrArg Value.int (by decide)) ?_
      refine lv_icmp_gt (tgt := 731) hx hb dL_law_24 (by decide) (fun _ => ?_) (fun c_ => absurd (by decide) c_)
      refine lv_iconst (v := 1) hx hb dL_law_731 (by decide) ?_
      refine va_forget (fun q hq => by have h9 := hS.2.2 q hq; rw [hAe] at h9; exact h9) ?_
      refine W.widen (k := 600000) (n := 7302250) (Nat.le_of_ble_eq_true rfl) (Nat.le_of_ble_eq_true rfl) ?_
      exact lw_ret hx hb hr hlk dL_law_732
