set_option maxHeartbeats 4000000 in
set_option maxRecDepth 100000 in
theorem ct_X0_isLesson_20 (l : Launch) (D : va_G) (x0 : Int32) (hx0 : x0.toInt ≤ -2) : ka_R l D yX0_isLesson wsX0_isLesson 0 0 [.int x0] [] [] (fun v => v = some (.int 0)) := by
  refine ka_R_of (cc := cX0_isLesson) (maxL := 1) (ret := (some .boolean)) (by decide) rfl (Nat.le_of_ble_eq_true rfl) ?_
  intro p e s m below meth c ls C hr hlk hP hK hE hN hl
  have hS : va_S (fun _ => False) s.heap s.heap [] := va_S.rf
  have C : CallFix p m c cX0_isLesson 1 s [.int x0].toArray wsX0_isLesson RX0 := C
  obtain ⟨hx, hb, hml, hown, hts⟩ := id C
  have hl : lv_has ls 1 [(0, .int x0)] := hl
  have rx0 := ka_rng x0
  refine lv_iload_n hx hb dX0_isLesson_0 rfl (lv_at hl 0 rfl) ?_
  refine lv_if_lt (tgt := 14) hx hb dX0_isLesson_1 (by decide) (fun _ => ?_) (fun c_ => absurd (by rw [ka_lt', show ((0 : Int32)).toInt = 0 from by decide]; omega) c_)
  refine lv_iconst (v := 0) hx hb dX0_isLesson_14 (by decide) ?_
  exact ka_rRz C hr hlk rfl rfl dX0_isLesson_15
set_option maxHeartbeats 4000000 in
set_option maxRecDepth 100000 in
theorem ct_X0_isDone_21 (l : Launch) (D : va_G) (a0 : Nat) (x0 : Int32) (hx0 : x0.toInt ≤ -2) : ka_R l D yX0_isDone wsX0_isDone 1 20 [.ref a0, .int x0] [] [] (fun v => v = some (.int 0)) := by
  refine ka_R_of (cc := cX0_isDone) (maxL := 2) (ret := (some .boolean)) (by decide) rfl (Nat.le_of_ble_eq_true rfl) ?_
  intro p e s m below meth c ls C hr hlk hP hK hE hN hl
  have hS : va_S (fun _ => False) s.heap s.heap [] := va_S.rf
  have C : CallFix p m c cX0_isDone 2 s [.ref a0, .int x0].toArray wsX0_isDone RX0 := C
  obtain ⟨hx, hb, hml, hown, hts⟩ := id C
  have hl : lv_has ls 2 [(0, .ref a0), (1, .int x0)] := hl
  have rx0 := ka_rng x0
  refine lv_iload_n hx hb dX0_isDone_0 rfl (lv_at hl 1 rfl) ?_
  refine ka_RS (n := 1) C (ct_X0_isLesson_20 l D x0 (by omega)) gX0_isDone_X0_isLesson rfl (by decide +kernel) ⟨Nat.le_of_ble_eq_true rfl, Nat.le_of_ble_eq_true rfl⟩ hK hP hS hE hN [] rfl [] rfl rfl hl.1 (rest := []) rfl (Nat.le_of_ble_eq_true rfl) dX0_isDone_1 ⟨Nat.le_of_ble_eq_true rfl, Nat.le_of_ble_eq_true rfl⟩ (fun v hv => ?_)
  subst hv
  refine ka_stk (w := [.int 0]) rfl ?_
  refine lv_if_eq (tgt := 23) hx hb dX0_isDone_4 (by decide) (fun _ => ?_) (fun c_ => absurd (by decide) c_)
  refine lv_iconst (v := 0) hx hb dX0_isDone_23 (by decide) ?_
  exact ka_rRz C hr hlk rfl rfl dX0_isDone_24
set_option maxHeartbeats 4000000 in
set_option maxRecDepth 100000 in
theorem ct_X0_lessonAt_22 (l : Launch) (D : va_G) (a0 : Nat) (x0 : Int32) (hx0 : x0.toInt ≤ -2) : ka_R l D yX0_lessonAt wsX0_lessonAt 1 20 [.ref a0, .int x0] [] [] (fun v => v = some (.null)) := by
  refine ka_R_of (cc := cX0_lessonAt) (maxL := 2) (ret := (some (.object "AskedBack$Lesson"))) (by decide) rfl (Nat.le_of_ble_eq_true rfl) ?_
  intro p e s m below meth c ls C hr hlk hP hK hE hN hl
  have hS : va_S (fun _ => False) s.heap s.heap [] := va_S.rf
  have C : CallFix p m c cX0_lessonAt 2 s [.ref a0, .int x0].toArray wsX0_lessonAt RX0 := C
  obtain ⟨hx, hb, hml, hown, hts⟩ := id C
  have hl : lv_has ls 2 [(0, .ref a0), (1, .int x0)] := hl
  have rx0 := ka_rng x0
  refine lv_iload_n hx hb dX0_lessonAt_0 rfl (lv_at hl 1 rfl) ?_
  refine ka_RS (n := 1) C (ct_X0_isLesson_20 l D x0 (by omega)) gX0_lessonAt_X0_isLesson rfl (by decide +kernel) ⟨Nat.le_of_ble_eq_true rfl, Nat.le_of_ble_eq_true rfl⟩ hK hP hS hE hN [] rfl [] rfl rfl hl.1 (rest := []) rfl (Nat.le_of_ble_eq_true rfl) dX0_lessonAt_1 ⟨Nat.le_of_ble_eq_true rfl, Nat.le_of_ble_eq_true rfl⟩ (fun v hv => ?_)
  subst hv
  refine ka_stk (w := [.int 0]) rfl ?_
  refine lv_if_eq (tgt := 16) hx hb dX0_lessonAt_4 (by decide) (fun _ => ?_) (fun c_ => absurd (by decide) c_)
  refine lv_null hx hb dX0_lessonAt_16 ?_
  exact ka_rRa C hr hlk (Or.inl ⟨_, rfl⟩) (Or.inl rfl) rfl dX0_lessonAt_17
theorem lq_147 : ∀ w ∈ wsX60, w ∈ wsX6_changeable := by decide +kernel
theorem lq_148 : Cond.fieldLink RX6 39 "AskedBack" "begun" "I" ∈ wsX6_changeable := by decide +kernel
theorem lq_149 : Cond.fieldLink RX6 28 "AskedBack" "course" "LAskedBack$Course;" ∈ wsX6_changeable := by decide +kernel
set_option maxHeartbeats 4000000 in
set_option maxRecDepth 100000 in
theorem ct_X6_changeable_23 (l : Launch) (D : va_G) (a0 : Nat) (x0 : Int32) (a1 : Nat) (a2 : Nat) (a3 : Nat) (a4 : Nat) (a5 : Nat) (a6 : Nat) (hx0 : x0.toInt ≤ -1) : ka_R l D yX6_changeable wsX6_changeable 2 41 [.ref a0, .int x0] [(a0, .inr (6, [.ref a1, .ref a2, .ref a3, .ref a4, .int (-1), .int (-1), .int 0, .int 3, .int 3])), (a3, .inr (0, [.ref a5, .ref a6, .int 0]))] [] (fun v => v = some (.null)) := by
  refine ka_R_of (cc := cX6_changeable) (maxL := 2) (ret := (some (.object "AskedBack$Lesson"))) (by decide) rfl (Nat.le_of_ble_eq_true rfl) ?_
  intro p e s m below meth c ls C hr hlk hP hK hE hN hl
  have hS : va_S (fun _ => False) s.heap s.heap [] := va_S.rf
  have C : CallFix p m c cX6_changeable 2 s [.ref a0, .int x0].toArray wsX6_changeable RX6 := C
  obtain ⟨hx, hb, hml, hown, hts⟩ := id C
  have hl : lv_has ls 2 [(0, .ref a0), (1, .int x0)] := hl
  have rx0 := ka_rng x0
  refine lv_iload_n hx hb dX6_changeable_0 rfl (lv_at hl 1 rfl) ?_
  refine lv_aload_n hx hb dX6_changeable_1 rfl (lv_at hl 0 rfl) ?_
  refine ka_get C lq_147 rfl hK hP 0 rfl 4 (by decide) lq_148 rfl dX6_changeable_2 ?_
  refine lv_icmp_eq (tgt := 19) hx hb dX6_changeable_5 (by decide) (fun c_1156 => ?_) (fun c_1156 => ?_)
  · have c_1156 : x0.toInt = -1 := by rw [ka_eq', show ((-1 : Int32)).toInt = -1 from by decide] at c_1156; exact c_1156
    refine lv_null hx hb dX6_changeable_19 ?_
    refine lv_goto (tgt := 31) hx hb dX6_changeable_20 (by decide) ?_
    exact ka_rRa C hr hlk (Or.inl ⟨_, rfl⟩) (Or.inl rfl) rfl dX6_changeable_31
  · have c_1156 : ¬ x0.toInt = -1 := by rw [ka_eq', show ((-1 : Int32)).toInt = -1 from by decide] at c_1156; exact c_1156
    refine lv_aload_n hx hb dX6_changeable_8 rfl (lv_at hl 0 rfl) ?_
    refine ka_get C lq_147 rfl hK hP 0 rfl 2 (by decide) lq_149 rfl dX6_changeable_9 ?_
    refine lv_iload_n hx hb dX6_changeable_12 rfl (lv_at hl 1 rfl) ?_
    refine ka_RV (n := 1) C (ct_X0_isDone_21 l D a3 x0 (by omega)) gX6_changeable_X0_isDone rfl (by decide +kernel) ⟨Nat.le_of_ble_eq_true rfl, Nat.le_of_ble_eq_true rfl⟩ hK hP hS hE hN [] rfl [] rfl (ci := 0) rfl rfl 1 rfl rfl hl.1 (rest := []) rfl (Nat.le_of_ble_eq_true rfl) dX6_changeable_13 ⟨Nat.le_of_ble_eq_true rfl, Nat.le_of_ble_eq_true rfl⟩ (fun v hv => ?_)
    subst hv
    refine ka_stk (w := [.int 0]) rfl ?_
    refine lv_if_eq (tgt := 23) hx hb dX6_changeable_16 (by decide) (fun _ => ?_) (fun c_ => absurd (by decide) c_)
    refine lv_aload_n hx hb dX6_changeable_23 rfl (lv_at hl 0 rfl) ?_
    refine ka_get C lq_147 rfl hK hP 0 rfl 2 (by decide) lq_149 rfl dX6_changeable_24 ?_
    refine lv_iload_n hx hb dX6_changeable_27 rfl (lv_at hl 1 rfl) ?_
    refine ka_RV (n := 1) C (ct_X0_lessonAt_22 l D a3 x0 (by omega)) gX6_changeable_X0_lessonAt rfl (by decide +kernel) ⟨Nat.le_of_ble_eq_true rfl, Nat.le_of_ble_eq_true rfl⟩ hK hP hS hE hN [] rfl [] rfl (ci := 0) rfl rfl 1 rfl rfl hl.1 (rest := []) rfl (Nat.le_of_ble_eq_true rfl) dX6_changeable_28 ⟨Nat.le_of_ble_eq_true rfl, Nat.le_of_ble_eq_true rfl⟩ (fun v hv => ?_)
    subst hv
    refine ka_stk (w := [.null]) rfl ?_
    exact ka_rRa C hr hlk (Or.inl ⟨_, rfl⟩) (Or.inl rfl) rfl dX6_changeable_31
set_option maxHeartbeats 4000000 in
set_option maxRecDepth 100000 in
theorem ct_X0_isLesson_24 (l : Launch) (D : va_G) : ka_R l D yX0_isLesson wsX0_isLesson 0 0 [.int 0] [] [] (fun v => v = some (.int 1)) := by
  refine ka_R_of (cc := cX0_isLesson) (maxL := 1) (ret := (some .boolean)) (by decide) rfl (Nat.le_of_ble_eq_true rfl) ?_
  intro p e s m below meth c ls C hr hlk hP hK hE hN hl
  have hS : va_S (fun _ => False) s.heap s.heap [] := va_S.rf
  have C : CallFix p m c cX0_isLesson 1 s [.int 0].toArray wsX0_isLesson RX0 := C
  obtain ⟨hx, hb, hml, hown, hts⟩ := id C
  have hl : lv_has ls 1 [(0, .int 0)] := hl
  refine lv_iload_n hx hb dX0_isLesson_0 rfl (lv_at hl 0 rfl) ?_
  refine lv_if_lt (tgt := 14) hx hb dX0_isLesson_1 (by decide) (fun c_ => absurd c_ (by decide)) (fun _ => ?_)
  refine lv_iload_n hx hb dX0_isLesson_4 rfl (lv_at hl 0 rfl) ?_
  refine lv_bipush (v := 6) hx hb dX0_isLesson_5 (by decide) ?_
  refine lv_icmp_ge (tgt := 14) hx hb dX0_isLesson_7 (by decide) (fun c_ => absurd c_ (by decide)) (fun _ => ?_)
  refine lv_iconst (v := 1) hx hb dX0_isLesson_10 (by decide) ?_
  refine lv_goto (tgt := 15) hx hb dX0_isLesson_11 (by decide) ?_
  exact ka_rRz C hr hlk rfl rfl dX0_isLesson_15
theorem lq_150 : ∀ w ∈ wsX00, w ∈ wsX0_isDone := by decide +kernel
theorem lq_151 : Cond.fieldLink RX0 21 "AskedBack$Course" "done" "I" ∈ wsX0_isDone := by decide +kernel
theorem lq_152 : Cond.initialized RX6 ∈ wsX0_isDone := by decide +kernel
theorem lq_153 : Cond.static yX6_bitAt ∈ wsX0_isDone := by decide +kernel
set_option maxHeartbeats 4000000 in
set_option maxRecDepth 100000 in
theorem ct_X0_isDone_25 (l : Launch) (D : va_G) (a0 : Nat) (a1 : Nat) (a2 : Nat) : ka_R l D yX0_isDone wsX0_isDone 1 21 [.ref a0, .int 0] [(a0, .inr (0, [.ref a1, .ref a2, .int 0]))] [] (fun v => v = some (.int 0)) := by
  refine ka_R_of (cc := cX0_isDone) (maxL := 2) (ret := (some .boolean)) (by decide) rfl (Nat.le_of_ble_eq_true rfl) ?_
  intro p e s m below meth c ls C hr hlk hP hK hE hN hl
  have hS : va_S (fun _ => False) s.heap s.heap [] := va_S.rf
  have C : CallFix p m c cX0_isDone 2 s [.ref a0, .int 0].toArray wsX0_isDone RX0 := C
  obtain ⟨hx, hb, hml, hown, hts⟩ := id C
  have hl : lv_has ls 2 [(0, .ref a0), (1, .int 0)] := hl
  refine lv_iload_n hx hb dX0_isDone_0 rfl (lv_at hl 1 rfl) ?_
  refine ka_RS (n := 1) C (ct_X0_isLesson_24 l D ) gX0_isDone_X0_isLesson rfl (by decide +kernel) ⟨Nat.le_of_ble_eq_true rfl, Nat.le_of_ble_eq_true rfl⟩ hK hP hS hE hN [] rfl [] rfl rfl hl.1 (rest := []) rfl (Nat.le_of_ble_eq_true rfl) dX0_isDone_1 ⟨Nat.le_of_ble_eq_true rfl, Nat.le_of_ble_eq_true rfl⟩ (fun v hv => ?_)
  subst hv
  refine ka_stk (w := [.int 1]) rfl ?_
  refine lv_if_eq (tgt := 23) hx hb dX0_isDone_4 (by decide) (fun c_ => absurd c_ (by decide)) (fun _ => ?_)
  refine lv_aload_n hx hb dX0_isDone_7 rfl (lv_at hl 0 rfl) ?_
  refine ka_get C lq_150 rfl hK hP 0 rfl 2 (by decide) lq_151 rfl dX0_isDone_8 ?_
  refine lv_iload_n hx hb dX0_isDone_11 rfl (lv_at hl 1 rfl) ?_
  refine ka_RN (n := 2) C (ka_c_bitAt l D 0 0) gX0_isDone_X6_bitAt_n30 rfl hN.2.2.2.1 lq_152 lq_153 (by decide +kernel) ⟨Nat.le_of_ble_eq_true rfl, Nat.le_of_ble_eq_true rfl⟩ hK hP hS hE hN [] rfl [] rfl rfl hl.1 (rest := []) rfl (Nat.le_of_ble_eq_true rfl) dX0_isDone_12 ⟨Nat.le_of_ble_eq_true rfl, Nat.le_of_ble_eq_true rfl⟩ (fun v hv => ?_)
  subst hv
  refine ka_stk (w := [.int 0]) (congrArg (fun z => Value.int z :: []) (show ka_bit 0 0 = 0 from by decide)) ?_
  refine lv_iconst (v := 1) hx hb dX0_isDone_15 (by decide) ?_
  refine lv_icmp_ne (tgt := 23) hx hb dX0_isDone_16 (by decide) (fun _ => ?_) (fun c_ => absurd c_ (by decide))
  refine lv_iconst (v := 0) hx hb dX0_isDone_23 (by decide) ?_
  exact ka_rRz C hr hlk rfl rfl dX0_isDone_24
theorem lq_154 : ∀ w ∈ wsX00, w ∈ wsX0_lessonAt := by decide +kernel
theorem lq_155 : Cond.fieldLink RX0 11 "AskedBack$Course" "lessons" "[LAskedBack$Lesson;" ∈ wsX0_lessonAt := by decide +kernel
set_option maxHeartbeats 4000000 in
set_option maxRecDepth 100000 in
theorem ct_X0_lessonAt_26 (l : Launch) (D : va_G) (a0 : Nat) (a1 : Nat) (a2 : Nat) (k0 : ClassId) (a3 : Nat) (a4 : Nat) (a5 : Nat) (a6 : Nat) (a7 : Nat) (a8 : Nat) : ka_R l D yX0_lessonAt wsX0_lessonAt 1 20 [.ref a0, .int 0] [(a0, .inr (0, [.ref a1, .ref a2, .int 0])), (a1, .inl (k0, 6, .inr (.inr (.inr (.inr (va_up (va_up (va_up (va_up (va_up (va_up (fun _ => none) 0 (some a3)) 1 (some a4)) 2 (some a5)) 3 (some a6)) 4 (some a7)) 5 (some a8)))))))] [(k0, .object RX2)] (fun v => v = some (.ref a3)) := by
  refine ka_R_of (cc := cX0_lessonAt) (maxL := 2) (ret := (some (.object "AskedBack$Lesson"))) (by decide) rfl (Nat.le_of_ble_eq_true rfl) ?_
  intro p e s m below meth c ls C hr hlk hP hK hE hN hl
  have hS : va_S (fun _ => False) s.heap s.heap [] := va_S.rf
  have C : CallFix p m c cX0_lessonAt 2 s [.ref a0, .int 0].toArray wsX0_lessonAt RX0 := C
  obtain ⟨hx, hb, hml, hown, hts⟩ := id C
  have hl : lv_has ls 2 [(0, .ref a0), (1, .int 0)] := hl
  refine lv_iload_n hx hb dX0_lessonAt_0 rfl (lv_at hl 1 rfl) ?_
  refine ka_RS (n := 1) C (ct_X0_isLesson_24 l D ) gX0_lessonAt_X0_isLesson rfl (by decide +kernel) ⟨Nat.le_of_ble_eq_true rfl, Nat.le_of_ble_eq_true rfl⟩ hK hP hS hE hN [] rfl [] rfl rfl hl.1 (rest := []) rfl (Nat.le_of_ble_eq_true rfl) dX0_lessonAt_1 ⟨Nat.le_of_ble_eq_true rfl, Nat.le_of_ble_eq_true rfl⟩ (fun v hv => ?_)
  subst hv
  refine ka_stk (w := [.int 1]) rfl ?_
  refine lv_if_eq (tgt := 16) hx hb dX0_lessonAt_4 (by decide) (fun c_ => absurd c_ (by decide)) (fun _ => ?_)
  refine lv_aload_n hx hb dX0_lessonAt_7 rfl (lv_at hl 0 rfl) ?_
  refine ka_get C lq_154 rfl hK hP 0 rfl 0 (by decide) lq_155 rfl dX0_lessonAt_8 ?_
  refine lv_iload_n hx hb dX0_lessonAt_11 rfl (lv_at hl 1 rfl) ?_
  refine va_aldq hx hb hK hP 1 0 rfl rfl (ka_in (by decide) (by decide)) dX0_lessonAt_12 ?_
  refine ka_top (w := .ref a3) rfl ?_
  refine lv_goto (tgt := 17) hx hb dX0_lessonAt_13 (by decide) ?_
  exact ka_rRa C hr hlk (Or.inl ⟨_, rfl⟩) (Or.inr ⟨_, rfl⟩) rfl dX0_lessonAt_17
set_option maxHeartbeats 4000000 in
set_option maxRecDepth 100000 in
theorem ct_X6_changeable_27 (l : Launch) (D : va_G) (a0 : Nat) (a1 : Nat) (a2 : Nat) (a3 : Nat) (a4 : Nat) (a5 : Nat) (a6 : Nat) (k0 : ClassId) (a7 : Nat) (a8 : Nat) (a9 : Nat) (a10 : Nat) (a11 : Nat) (a12 : Nat) : ka_R l D yX6_changeable wsX6_changeable 2 42 [.ref a0, .int 0] [(a0, .inr (6, [.ref a1, .ref a2, .ref a3, .ref a4, .int (-1), .int (-1), .int 0, .int 3, .int 3])), (a3, .inr (0, [.ref a5, .ref a6, .int 0])), (a5, .inl (k0, 6, .inr (.inr (.inr (.inr (va_up (va_up (va_up (va_up (va_up (va_up (fun _ => none) 0 (some a7)) 1 (some a8)) 2 (some a9)) 3 (some a10)) 4 (some a11)) 5 (some a12)))))))] [(k0, .object RX2)] (fun v => v = some (.ref a7)) := by
  refine ka_R_of (cc := cX6_changeable) (maxL := 2) (ret := (some (.object "AskedBack$Lesson"))) (by decide) rfl (Nat.le_of_ble_eq_true rfl) ?_
  intro p e s m below meth c ls C hr hlk hP hK hE hN hl
  have hS : va_S (fun _ => False) s.heap s.heap [] := va_S.rf
  have C : CallFix p m c cX6_changeable 2 s [.ref a0, .int 0].toArray wsX6_changeable RX6 := C
  obtain ⟨hx, hb, hml, hown, hts⟩ := id C
  have hl : lv_has ls 2 [(0, .ref a0), (1, .int 0)] := hl
  refine lv_iload_n hx hb dX6_changeable_0 rfl (lv_at hl 1 rfl) ?_
  refine lv_aload_n hx hb dX6_changeable_1 rfl (lv_at hl 0 rfl) ?_
  refine ka_get C lq_147 rfl hK hP 0 rfl 4 (by decide) lq_148 rfl dX6_changeable_2 ?_
  refine lv_icmp_eq (tgt := 19) hx hb dX6_changeable_5 (by decide) (fun c_ => absurd c_ (by decide)) (fun _ => ?_)
  refine lv_aload_n hx hb dX6_changeable_8 rfl (lv_at hl 0 rfl) ?_
  refine ka_get C lq_147 rfl hK hP 0 rfl 2 (by decide) lq_149 rfl dX6_changeable_9 ?_
  refine lv_iload_n hx hb dX6_changeable_12 rfl (lv_at hl 1 rfl) ?_
  refine ka_RV (n := 1) C (ct_X0_isDone_25 l D a3 a5 a6) gX6_changeable_X0_isDone rfl (by decide +kernel) ⟨Nat.le_of_ble_eq_true rfl, Nat.le_of_ble_eq_true rfl⟩ hK hP hS hE hN [1] rfl [] rfl (ci := 0) rfl rfl 1 rfl rfl hl.1 (rest := []) rfl (Nat.le_of_ble_eq_true rfl) dX6_changeable_13 ⟨Nat.le_of_ble_eq_true rfl, Nat.le_of_ble_eq_true rfl⟩ (fun v hv => ?_)
  subst hv
  refine ka_stk (w := [.int 0]) rfl ?_
  refine lv_if_eq (tgt := 23) hx hb dX6_changeable_16 (by decide) (fun _ => ?_) (fun c_ => absurd (by decide) c_)
  refine lv_aload_n hx hb dX6_changeable_23 rfl (lv_at hl 0 rfl) ?_
  refine ka_get C lq_147 rfl hK hP 0 rfl 2 (by decide) lq_149 rfl dX6_changeable_24 ?_
  refine lv_iload_n hx hb dX6_changeable_27 rfl (lv_at hl 1 rfl) ?_
  refine ka_RV (n := 1) C (ct_X0_lessonAt_26 l D a3 a5 a6 k0 a7 a8 a9 a10 a11 a12) gX6_changeable_X0_lessonAt rfl (by decide +kernel) ⟨Nat.le_of_ble_eq_true rfl, Nat.le_of_ble_eq_true rfl⟩ hK hP hS hE hN [1, 2] rfl [0] rfl (ci := 0) rfl rfl 1 rfl rfl hl.1 (rest := []) rfl (Nat.le_of_ble_eq_true rfl) dX6_changeable_28 ⟨Nat.le_of_ble_eq_true rfl, Nat.le_of_ble_eq_true rfl⟩ (fun v hv => ?_)
  subst hv
  refine ka_stk (w := [.ref a7]) rfl ?_
  exact ka_rRa C hr hlk (Or.inl ⟨_, rfl⟩) (Or.inr ⟨_, rfl⟩) rfl dX6_changeable_31
set_option maxHeartbeats 4000000 in
set_option maxRecDepth 100000 in
theorem ct_X5_offers_28 (l : Launch) (D : va_G) (a0 : Nat) (x0 : Int32) (hx0 : x0.toInt ≤ -1) : ka_R l D yX5_offers wsX5_offers 0 0 [.ref a0, .int x0] [] [] (fun v => v = some (.int 0)) := by
  refine ka_R_of (cc := cX5_offers) (maxL := 2) (ret := (some .boolean)) (by decide) rfl (Nat.le_of_ble_eq_true rfl) ?_
  intro p e s m below meth c ls C hr hlk hP hK hE hN hl
  have hS : va_S (fun _ => False) s.heap s.heap [] := va_S.rf
  have C : CallFix p m c cX5_offers 2 s [.ref a0, .int x0].toArray wsX5_offers RX5 := C
  obtain ⟨hx, hb, hml, hown, hts⟩ := id C
  have hl : lv_has ls 2 [(0, .ref a0), (1, .int x0)] := hl
  have rx0 := ka_rng x0
  refine lv_iload_n hx hb dX5_offers_0 rfl (lv_at hl 1 rfl) ?_
  refine lv_if_lt (tgt := 22) hx hb dX5_offers_1 (by decide) (fun _ => ?_) (fun c_ => absurd (by rw [ka_lt', show ((0 : Int32)).toInt = 0 from by decide]; omega) c_)
  refine lv_iconst (v := 0) hx hb dX5_offers_22 (by decide) ?_
  exact ka_rRz C hr hlk rfl rfl dX5_offers_23
theorem lq_156 : ∀ w ∈ wsX50, w ∈ wsX5_offers := by decide +kernel
theorem lq_157 : Cond.fieldLink RX5 15 "AskedBack$Tape" "length" "I" ∈ wsX5_offers := by decide +kernel
set_option maxHeartbeats 4000000 in
set_option maxRecDepth 100000 in
theorem ct_X5_offers_29 (l : Launch) (D : va_G) (a0 : Nat) (a1 : Nat) : ka_R l D yX5_offers wsX5_offers 0 0 [.ref a0, .int 0] [(a0, .inr (5, [.ref a1, .int 0]))] [] (fun v => v = some (.int 1)) := by
  refine ka_R_of (cc := cX5_offers) (maxL := 2) (ret := (some .boolean)) (by decide) rfl (Nat.le_of_ble_eq_true rfl) ?_
  intro p e s m below meth c ls C hr hlk hP hK hE hN hl
  have hS : va_S (fun _ => False) s.heap s.heap [] := va_S.rf
  have C : CallFix p m c cX5_offers 2 s [.ref a0, .int 0].toArray wsX5_offers RX5 := C
  obtain ⟨hx, hb, hml, hown, hts⟩ := id C
  have hl : lv_has ls 2 [(0, .ref a0), (1, .int 0)] := hl
  refine lv_iload_n hx hb dX5_offers_0 rfl (lv_at hl 1 rfl) ?_
  refine lv_if_lt (tgt := 22) hx hb dX5_offers_1 (by decide) (fun c_ => absurd c_ (by decide)) (fun _ => ?_)
  refine lv_iload_n hx hb dX5_offers_4 rfl (lv_at hl 1 rfl) ?_
  refine lv_bipush (v := 60) hx hb dX5_offers_5 (by decide) ?_
  refine lv_icmp_gt (tgt := 22) hx hb dX5_offers_7 (by decide) (fun c_ => absurd c_ (by decide)) (fun _ => ?_)
  refine lv_iload_n hx hb dX5_offers_10 rfl (lv_at hl 1 rfl) ?_
  refine lv_aload_n hx hb dX5_offers_11 rfl (lv_at hl 0 rfl) ?_
  refine ka_get C lq_156 rfl hK hP 0 rfl 1 (by decide) lq_157 rfl dX5_offers_12 ?_
  refine lv_icmp_gt (tgt := 22) hx hb dX5_offers_15 (by decide) (fun c_ => absurd c_ (by decide)) (fun _ => ?_)
  refine lv_iconst (v := 1) hx hb dX5_offers_18 (by decide) ?_
  refine lv_goto (tgt := 23) hx hb dX5_offers_19 (by decide) ?_
  exact ka_rRz C hr hlk rfl rfl dX5_offers_23
theorem lq_158 : ∀ w ∈ wsX30, w ∈ wsX3_look := by decide +kernel
theorem lq_159 : Cond.fieldLink RX3 22 "AskedBack$Reader" "place" "I" ∈ wsX3_look := by decide +kernel
theorem lq_160 : Cond.fieldLink RX3 19 "AskedBack$Reader" "end" "I" ∈ wsX3_look := by decide +kernel
set_option maxHeartbeats 4000000 in
set_option maxRecDepth 100000 in
theorem ct_X3_look_30 (l : Launch) (D : va_G) (a0 : Nat) (a1 : Nat) (a2 : Nat) : ka_R l D yX3_look wsX3_look 0 0 [.ref a0] [(a0, .inr (3, [.ref a1, .ref a2, .int 0, .int 0, .int 0, .int (-1), .int 3, .int 0]))] [] (fun v => v = some (.int (-1))) := by
  refine ka_R_of (cc := cX3_look) (maxL := 1) (ret := (some .int)) (by decide) rfl (Nat.le_of_ble_eq_true rfl) ?_
  intro p e s m below meth c ls C hr hlk hP hK hE hN hl
  have hS : va_S (fun _ => False) s.heap s.heap [] := va_S.rf
  have C : CallFix p m c cX3_look 1 s [.ref a0].toArray wsX3_look RX3 := C
  obtain ⟨hx, hb, hml, hown, hts⟩ := id C
  have hl : lv_has ls 1 [(0, .ref a0)] := hl
  refine lv_aload_n hx hb dX3_look_0 rfl (lv_at hl 0 rfl) ?_
  refine ka_get C lq_158 rfl hK hP 0 rfl 4 (by decide) lq_159 rfl dX3_look_1 ?_
  refine lv_aload_n hx hb dX3_look_4 rfl (lv_at hl 0 rfl) ?_
  refine ka_get C lq_158 rfl hK hP 0 rfl 3 (by decide) lq_160 rfl dX3_look_5 ?_
  refine lv_icmp_ge (tgt := 41) hx hb dX3_look_8 (by decide) (fun _ => ?_) (fun c_ => absurd (by decide) c_)
  refine lv_aload_n hx hb dX3_look_41 rfl (lv_at hl 0 rfl) ?_
  refine ka_get C lq_158 rfl hK hP 0 rfl 4 (by decide) lq_159 rfl dX3_look_42 ?_
  refine lv_aload_n hx hb dX3_look_45 rfl (lv_at hl 0 rfl) ?_
  refine ka_get C lq_158 rfl hK hP 0 rfl 3 (by decide) lq_160 rfl dX3_look_46 ?_
  refine lv_icmp_ge (tgt := 66) hx hb dX3_look_49 (by decide) (fun _ => ?_) (fun c_ => absurd (by decide) c_)
  refine lv_iconst (v := (-1)) hx hb dX3_look_66 (by decide) ?_
  exact ka_rRi C hr hlk rfl dX3_look_67
theorem lq_161 : ∀ w ∈ wsX30, w ∈ wsX3_fail := by decide +kernel
theorem lq_162 : Cond.fieldLink RX3 25 "AskedBack$Reader" "faultPlace" "I" ∈ wsX3_fail := by decide +kernel
theorem lq_163 : Cond.fieldLink RX3 22 "AskedBack$Reader" "place" "I" ∈ wsX3_fail := by decide +kernel
theorem lq_164 : Cond.fieldLink RX3 19 "AskedBack$Reader" "end" "I" ∈ wsX3_fail := by decide +kernel
set_option maxHeartbeats 4000000 in
set_option maxRecDepth 100000 in
theorem ct_X3_fail_31 (l : Launch) (D : va_G) (a0 : Nat) (a1 : Nat) (a2 : Nat) : ka_E (S := Unit) l D yX3_fail wsX3_fail 0 0 0 0 [.ref a0] [(a0, .inr (3, [.ref a1, .ref a2, .int 0, .int 0, .int 0, .int (-1), .int 3, .int 0]))] [] (fun u => none) (fun _ => True) (fun u => [(a0, .inr (3, [.ref a1, .ref a2, .int 0, .int 0, .int 0, .int 0, .int 3, .int 0]))]) (fun u => []) := by
  refine ka_E_of (cc := cX3_fail) (maxL := 1) (ret := none) (by decide) rfl (Nat.le_of_ble_eq_true rfl) ?_
  intro p e s m below meth c ls A C hr hlk hin hP hK hD hS hA hE hN hl
  have C : CallFix p m c cX3_fail 1 s [.ref a0].toArray wsX3_fail RX3 := C
  obtain ⟨hx, hb, hml, hown, hts⟩ := id C
  have hl : lv_has ls 1 [(0, .ref a0)] := hl
  refine lv_aload_n hx hb dX3_fail_0 rfl (lv_at hl 0 rfl) ?_
  refine ka_get C lq_161 rfl hK hP 0 rfl 5 (by decide) lq_162 rfl dX3_fail_1 ?_
  refine lv_iconst (v := (-1)) hx hb dX3_fail_4 (by decide) ?_
  refine lv_icmp_ne (tgt := 16) hx hb dX3_fail_5 (by decide) (fun c_ => absurd (by decide) c_) (fun _ => ?_)
  refine lv_aload_n hx hb dX3_fail_8 rfl (lv_at hl 0 rfl) ?_
  refine lv_aload_n hx hb dX3_fail_9 rfl (lv_at hl 0 rfl) ?_
  refine ka_get C lq_161 rfl hK hP 0 rfl 4 (by decide) lq_163 rfl dX3_fail_10 ?_
  refine ka_put C lq_161 tyX3 tyX3_ok nmX3 rfl hK hP hD hS 0 rfl 5 (by decide) lq_162 rfl rfl rfl (Nat.le_of_ble_eq_true rfl) dX3_fail_13 (fun H locs hP hD hS => ?_)
  have hP : va_P D vwCl [(a0, .inr (3, [.ref a1, .ref a2, .int 0, .int 0, .int 0, .int 0, .int 3, .int 0]))] H := hP
  have hD : va_D A [(a0, .inr (3, [.ref a1, .ref a2, .int 0, .int 0, .int 0, .int 0, .int 3, .int 0]))] := hD
  refine lv_aload_n hx hb dX3_fail_16 rfl (lv_at hl 0 rfl) ?_
  refine lv_aload_n hx hb dX3_fail_17 rfl (lv_at hl 0 rfl) ?_
  refine ka_get C lq_161 rfl hK hP 0 rfl 3 (by decide) lq_164 rfl dX3_fail_18 ?_
  refine ka_put C lq_161 tyX3 tyX3_ok nmX3 rfl hK hP hD hS 0 rfl 4 (by decide) lq_163 rfl rfl rfl (Nat.le_of_ble_eq_true rfl) dX3_fail_21 (fun H locs hP hD hS => ?_)
  have hP : va_P D vwCl [(a0, .inr (3, [.ref a1, .ref a2, .int 0, .int 0, .int 0, .int 0, .int 3, .int 0]))] H := hP
  have hD : va_D A [(a0, .inr (3, [.ref a1, .ref a2, .int 0, .int 0, .int 0, .int 0, .int 3, .int 0]))] := hD
  exact ka_rEv C hr hlk (Nat.le_of_ble_eq_true rfl) (Nat.le_of_ble_eq_true rfl) hS (ka_qE () rfl trivial hK hP hD hS [0] (by decide) rfl [] rfl) dX3_fail_24
theorem lq_165 : ∀ w ∈ wsX30, w ∈ wsX3_readAtom := by decide +kernel
theorem lq_166 : Cond.fieldLink RX3 28 "AskedBack$Reader" "binding" "I" ∈ wsX3_readAtom := by decide +kernel
set_option maxHeartbeats 4000000 in
set_option maxRecDepth 100000 in
theorem ct_X3_readAtom_32 (l : Launch) (D : va_G) (a0 : Nat) (a1 : Nat) (a2 : Nat) : ka_E (S := Unit) l D yX3_readAtom wsX3_readAtom 1 20 0 0 [.ref a0, .int 0] [(a0, .inr (3, [.ref a1, .ref a2, .int 0, .int 0, .int 0, .int (-1), .int 3, .int 0]))] [] (fun u => some (.int 0)) (fun _ => True) (fun u => [(a0, .inr (3, [.ref a1, .ref a2, .int 0, .int 0, .int 0, .int 0, .int 3, .int 0]))]) (fun u => []) := by
  refine ka_E_of (cc := cX3_readAtom) (maxL := 4) (ret := (some .int)) (by decide) rfl (Nat.le_of_ble_eq_true rfl) ?_
  intro p e s m below meth c ls A C hr hlk hin hP hK hD hS hA hE hN hl
  have C : CallFix p m c cX3_readAtom 4 s [.ref a0, .int 0].toArray wsX3_readAtom RX3 := C
  obtain ⟨hx, hb, hml, hown, hts⟩ := id C
  have hl : lv_has ls 4 [(0, .ref a0), (1, .int 0)] := hl
  refine lv_aload_n hx hb dX3_readAtom_0 rfl (lv_at hl 0 rfl) ?_
  refine ka_RV (n := 0) C (ct_X3_look_30 l D a0 a1 a2) gX3_readAtom_X3_look rfl (by decide +kernel) ⟨Nat.le_of_ble_eq_true rfl, Nat.le_of_ble_eq_true rfl⟩ hK hP hS hE hN [0] rfl [] rfl (ci := 3) rfl rfl 0 rfl rfl hl.1 (rest := []) rfl (Nat.le_of_ble_eq_true rfl) dX3_readAtom_1 ⟨Nat.le_of_ble_eq_true rfl, Nat.le_of_ble_eq_true rfl⟩ (fun v hv => ?_)
  subst hv
  refine ka_stk (w := [.int (-1)]) rfl ?_
  refine lv_istore_n (lv' := [(2, .int (-1)), (0, .ref a0), (1, .int 0)]) hx hb dX3_readAtom_4 rfl hl (by decide) rfl (fun ls hl => ?_)
  refine lv_iload_n hx hb dX3_readAtom_5 rfl (lv_at hl 0 rfl) ?_
  refine lv_bipush (v := 40) hx hb dX3_readAtom_6 (by decide) ?_
  refine lv_icmp_ne (tgt := 25) hx hb dX3_readAtom_8 (by decide) (fun _ => ?_) (fun c_ => absurd c_ (by decide))
  refine lv_aload_n hx hb dX3_readAtom_25 rfl (lv_at hl 1 rfl) ?_
  refine lv_iconst (v := 3) hx hb dX3_readAtom_26 (by decide) ?_
  refine ka_put C lq_165 tyX3 tyX3_ok nmX3 rfl hK hP hD hS 0 rfl 6 (by decide) lq_166 rfl rfl rfl (Nat.le_of_ble_eq_true rfl) dX3_readAtom_27 (fun H locs hP hD hS => ?_)
  have hP : va_P D vwCl [(a0, .inr (3, [.ref a1, .ref a2, .int 0, .int 0, .int 0, .int (-1), .int 3, .int 0]))] H := hP
  have hD : va_D A [(a0, .inr (3, [.ref a1, .ref a2, .int 0, .int 0, .int 0, .int (-1), .int 3, .int 0]))] := hD
  refine lv_iload_n hx hb dX3_readAtom_30 rfl (lv_at hl 0 rfl) ?_
  refine lv_bipush (v := 97) hx hb dX3_readAtom_31 (by decide) ?_
  refine lv_isub hx hb dX3_readAtom_33 ?_
  refine ka_top (w := .int (-98)) (congrArg Value.int (by decide)) ?_
  refine lv_istore_n (lv' := [(3, .int (-98)), (2, .int (-1)), (0, .ref a0), (1, .int 0)]) hx hb dX3_readAtom_34 rfl hl (by decide) rfl (fun ls hl => ?_)
  refine lv_iload_n hx hb dX3_readAtom_35 rfl (lv_at hl 0 rfl) ?_
  refine lv_if_lt (tgt := 57) hx hb dX3_readAtom_36 (by decide) (fun _ => ?_) (fun c_ => absurd (by decide) c_)
  refine lv_iload_n hx hb dX3_readAtom_57 rfl (lv_at hl 1 rfl) ?_
  refine lv_bipush (v := 48) hx hb dX3_readAtom_58 (by decide) ?_
  refine lv_icmp_eq (tgt := 69) hx hb dX3_readAtom_60 (by decide) (fun c_ => absurd c_ (by decide)) (fun _ => ?_)
  refine lv_iload_n hx hb dX3_readAtom_63 rfl (lv_at hl 1 rfl) ?_
  refine lv_bipush (v := 49) hx hb dX3_readAtom_64 (by decide) ?_
  refine lv_icmp_ne (tgt := 85) hx hb dX3_readAtom_66 (by decide) (fun _ => ?_) (fun c_ => absurd c_ (by decide))
  refine lv_aload_n hx hb dX3_readAtom_85 rfl (lv_at hl 2 rfl) ?_
  refine ka_EV (n := 0) (wr := []) C (ct_X3_fail_31 l D a0 a1 a2) gX3_readAtom_X3_fail rfl (by decide +kernel) ⟨Nat.le_of_ble_eq_true rfl, Nat.le_of_ble_eq_true rfl⟩ hK hP hD hS hA hE hN [0] rfl (by decide) [] rfl (by decide) (by decide) [] rfl (ci := 3) rfl rfl 0 rfl rfl hl.1 (rest := []) rfl (Nat.le_of_ble_eq_true rfl) dX3_readAtom_86 ⟨Nat.le_of_ble_eq_true rfl, Nat.le_of_ble_eq_true rfl⟩ (fun u H locs _ hP hD hK hS => ?_)
  have hP : va_P D vwCl [(a0, .inr (3, [.ref a1, .ref a2, .int 0, .int 0, .int 0, .int 0, .int 3, .int 0]))] H := hP
  have hD : va_D A [(a0, .inr (3, [.ref a1, .ref a2, .int 0, .int 0, .int 0, .int 0, .int 3, .int 0]))] := hD
  have hK : va_K D vwCl [] s := hK
  refine ka_stk (w := []) rfl ?_
  refine lv_iconst (v := 0) hx hb dX3_readAtom_89 (by decide) ?_
  exact ka_rEi C hr hlk (Nat.le_of_ble_eq_true rfl) (Nat.le_of_ble_eq_true rfl) hS (ka_qE () rfl trivial hK hP hD hS [0] (by decide) rfl [] rfl) dX3_readAtom_90
theorem lq_167 : ∀ w ∈ wsX30, w ∈ wsX3_readNots := by decide +kernel
theorem lq_168 : Cond.fieldLink RX3 15 "AskedBack$Reader" "outLength" "I" ∈ wsX3_readNots := by decide +kernel
set_option maxHeartbeats 4000000 in
set_option maxRecDepth 100000 in
theorem ct_X3_readNots_33 (l : Launch) (D : va_G) (a0 : Nat) (a1 : Nat) (a2 : Nat) : ka_E (S := Unit) l D yX3_readNots wsX3_readNots 2 43 0 0 [.ref a0, .int 0] [(a0, .inr (3, [.ref a1, .ref a2, .int 0, .int 0, .int 0, .int (-1), .int 3, .int 0]))] [] (fun u => some (.int 0)) (fun _ => True) (fun u => [(a0, .inr (3, [.ref a1, .ref a2, .int 0, .int 0, .int 0, .int 0, .int 3, .int 0]))]) (fun u => []) := by
  refine ka_E_of (cc := cX3_readNots) (maxL := 5) (ret := (some .int)) (by decide) rfl (Nat.le_of_ble_eq_true rfl) ?_
  intro p e s m below meth c ls A C hr hlk hin hP hK hD hS hA hE hN hl
  have C : CallFix p m c cX3_readNots 5 s [.ref a0, .int 0].toArray wsX3_readNots RX3 := C
  obtain ⟨hx, hb, hml, hown, hts⟩ := id C
  have hl : lv_has ls 5 [(0, .ref a0), (1, .int 0)] := hl
  refine lv_iconst (v := 0) hx hb dX3_readNots_0 (by decide) ?_
  refine lv_istore_n (lv' := [(2, .int 0), (0, .ref a0), (1, .int 0)]) hx hb dX3_readNots_1 rfl hl (by decide) rfl (fun ls hl => ?_)
  refine lv_iload_n hx hb dX3_readNots_2 rfl (lv_at hl 0 rfl) ?_
  refine lv_bipush (v := 8) hx hb dX3_readNots_3 (by decide) ?_
  refine lv_icmp_ge (tgt := 27) hx hb dX3_readNots_5 (by decide) (fun c_ => absurd c_ (by decide)) (fun _ => ?_)
  refine lv_aload_n hx hb dX3_readNots_8 rfl (lv_at hl 1 rfl) ?_
  refine ka_RV (n := 0) C (ct_X3_look_30 l D a0 a1 a2) gX3_readNots_X3_look rfl (by decide +kernel) ⟨Nat.le_of_ble_eq_true rfl, Nat.le_of_ble_eq_true rfl⟩ hK hP hS hE hN [0] rfl [] rfl (ci := 3) rfl rfl 0 rfl rfl hl.1 (rest := []) rfl (Nat.le_of_ble_eq_true rfl) dX3_readNots_9 ⟨Nat.le_of_ble_eq_true rfl, Nat.le_of_ble_eq_true rfl⟩ (fun v hv => ?_)
  subst hv
  refine ka_stk (w := [.int (-1)]) rfl ?_
  refine lv_bipush (v := 33) hx hb dX3_readNots_12 (by decide) ?_
  refine lv_icmp_ne (tgt := 27) hx hb dX3_readNots_14 (by decide) (fun _ => ?_) (fun c_ => absurd c_ (by decide))
  refine lv_aload_n hx hb dX3_readNots_27 rfl (lv_at hl 1 rfl) ?_
  refine ka_get C lq_167 rfl hK hP 0 rfl 2 (by decide) lq_168 rfl dX3_readNots_28 ?_
  refine lv_istore_n (lv' := [(3, .int 0), (2, .int 0), (0, .ref a0), (1, .int 0)]) hx hb dX3_readNots_31 rfl hl (by decide) rfl (fun ls hl => ?_)
  refine lv_aload_n hx hb dX3_readNots_32 rfl (lv_at hl 2 rfl) ?_
  refine lv_iload_n hx hb dX3_readNots_33 rfl (lv_at hl 3 rfl) ?_
  refine ka_EV (n := 1) (wr := []) C (ct_X3_readAtom_32 l D a0 a1 a2) gX3_readNots_X3_readAtom rfl (by decide +kernel) ⟨Nat.le_of_ble_eq_true rfl, Nat.le_of_ble_eq_true rfl⟩ hK hP hD hS hA hE hN [0] rfl (by decide) [] rfl (by decide) (by decide) [] rfl (ci := 3) rfl rfl 0 rfl rfl hl.1 (rest := []) rfl (Nat.le_of_ble_eq_true rfl) dX3_readNots_34 ⟨Nat.le_of_ble_eq_true rfl, Nat.le_of_ble_eq_true rfl⟩ (fun u H locs _ hP hD hK hS => ?_)
  have hP : va_P D vwCl [(a0, .inr (3, [.ref a1, .ref a2, .int 0, .int 0, .int 0, .int 0, .int 3, .int 0]))] H := hP
  have hD : va_D A [(a0, .inr (3, [.ref a1, .ref a2, .int 0, .int 0, .int 0, .int 0, .int 3, .int 0]))] := hD
  have hK : va_K D vwCl [] s := hK
  refine ka_stk (w := [.int 0]) rfl ?_
  refine lv_istore (lv' := [(4, .int 0), (3, .int 0), (2, .int 0), (0, .ref a0), (1, .int 0)]) hx hb dX3_readNots_37 hl (by decide) rfl (fun ls hl => ?_)
  refine lv_iload_n hx hb dX3_readNots_39 rfl (lv_at hl 2 rfl) ?_
  refine lv_if_le (tgt := 54) hx hb dX3_readNots_40 (by decide) (fun _ => ?_) (fun c_ => absurd (by decide) c_)
  refine lv_iload_n hx hb dX3_readNots_54 rfl (lv_at hl 2 rfl) ?_
  refine lv_iconst (v := 2) hx hb dX3_readNots_55 (by decide) ?_
  refine lv_irem hx hb dX3_readNots_56 (by decide) ?_
  refine ka_top (w := .int 0) (congrArg Value.int (by decide)) ?_
  refine lv_if_ne (tgt := 65) hx hb dX3_readNots_57 (by decide) (fun c_ => absurd (by decide) c_) (fun _ => ?_)
  refine lv_iload hx hb dX3_readNots_60 (lv_at hl 0 rfl) ?_
  refine lv_goto (tgt := 69) hx hb dX3_readNots_62 (by decide) ?_
  exact ka_rEi C hr hlk (Nat.le_of_ble_eq_true rfl) (Nat.le_of_ble_eq_true rfl) hS (ka_qE () rfl trivial hK hP hD hS [0] (by decide) rfl [] rfl) dX3_readNots_69
set_option maxHeartbeats 4000000 in
set_option maxRecDepth 100000 in
theorem ct_X3_readPart_34 (l : Launch) (D : va_G) (a0 : Nat) (a1 : Nat) (a2 : Nat) : ka_E (S := Unit) l D yX3_readPart wsX3_readPart 3 67 0 0 [.ref a0, .int 2, .int 0] [(a0, .inr (3, [.ref a1, .ref a2, .int 0, .int 0, .int 0, .int (-1), .int 3, .int 0]))] [] (fun u => some (.int 0)) (fun _ => True) (fun u => [(a0, .inr (3, [.ref a1, .ref a2, .int 0, .int 0, .int 0, .int 0, .int 3, .int 0]))]) (fun u => []) := by
  refine ka_E_of (cc := cX3_readPart) (maxL := 3) (ret := (some .int)) (by decide) rfl (Nat.le_of_ble_eq_true rfl) ?_
  intro p e s m below meth c ls A C hr hlk hin hP hK hD hS hA hE hN hl
  have C : CallFix p m c cX3_readPart 3 s [.ref a0, .int 2, .int 0].toArray wsX3_readPart RX3 := C
  obtain ⟨hx, hb, hml, hown, hts⟩ := id C
  have hl : lv_has ls 3 [(0, .ref a0), (1, .int 2), (2, .int 0)] := hl
  refine lv_iload_n hx hb dX3_readPart_0 rfl (lv_at hl 1 rfl) ?_
  refine lv_iconst (v := 2) hx hb dX3_readPart_1 (by decide) ?_
  refine lv_icmp_lt (tgt := 13) hx hb dX3_readPart_2 (by decide) (fun c_ => absurd c_ (by decide)) (fun _ => ?_)
  refine lv_aload_n hx hb dX3_readPart_5 rfl (lv_at hl 0 rfl) ?_
  refine lv_iload_n hx hb dX3_readPart_6 rfl (lv_at hl 2 rfl) ?_
  refine ka_EV (n := 1) (wr := []) C (ct_X3_readNots_33 l D a0 a1 a2) gX3_readPart_X3_readNots rfl (by decide +kernel) ⟨Nat.le_of_ble_eq_true rfl, Nat.le_of_ble_eq_true rfl⟩ hK hP hD hS hA hE hN [0] rfl (by decide) [] rfl (by decide) (by decide) [] rfl (ci := 3) rfl rfl 0 rfl rfl hl.1 (rest := []) rfl (Nat.le_of_ble_eq_true rfl) dX3_readPart_7 ⟨Nat.le_of_ble_eq_true rfl, Nat.le_of_ble_eq_true rfl⟩ (fun u H locs _ hP hD hK hS => ?_)
  have hP : va_P D vwCl [(a0, .inr (3, [.ref a1, .ref a2, .int 0, .int 0, .int 0, .int 0, .int 3, .int 0]))] H := hP
  have hD : va_D A [(a0, .inr (3, [.ref a1, .ref a2, .int 0, .int 0, .int 0, .int 0, .int 3, .int 0]))] := hD
  have hK : va_K D vwCl [] s := hK
  refine ka_stk (w := [.int 0]) rfl ?_
  refine lv_goto (tgt := 21) hx hb dX3_readPart_10 (by decide) ?_
  exact ka_rEi C hr hlk (Nat.le_of_ble_eq_true rfl) (Nat.le_of_ble_eq_true rfl) hS (ka_qE () rfl trivial hK hP hD hS [0] (by decide) rfl [] rfl) dX3_readPart_21
set_option maxHeartbeats 4000000 in
set_option maxRecDepth 100000 in
theorem ct_X3_look_35 (l : Launch) (D : va_G) (a0 : Nat) (a1 : Nat) (a2 : Nat) : ka_R l D yX3_look wsX3_look 0 0 [.ref a0] [(a0, .inr (3, [.ref a1, .ref a2, .int 0, .int 0, .int 0, .int 0, .int 3, .int 0]))] [] (fun v => v = some (.int (-1))) := by
  refine ka_R_of (cc := cX3_look) (maxL := 1) (ret := (some .int)) (by decide) rfl (Nat.le_of_ble_eq_true rfl) ?_
  intro p e s m below meth c ls C hr hlk hP hK hE hN hl
  have hS : va_S (fun _ => False) s.heap s.heap [] := va_S.rf
  have C : CallFix p m c cX3_look 1 s [.ref a0].toArray wsX3_look RX3 := C
  obtain ⟨hx, hb, hml, hown, hts⟩ := id C
  have hl : lv_has ls 1 [(0, .ref a0)] := hl
  refine lv_aload_n hx hb dX3_look_0 rfl (lv_at hl 0 rfl) ?_
  refine ka_get C lq_158 rfl hK hP 0 rfl 4 (by decide) lq_159 rfl dX3_look_1 ?_
  refine lv_aload_n hx hb dX3_look_4 rfl (lv_at hl 0 rfl) ?_
  refine ka_get C lq_158 rfl hK hP 0 rfl 3 (by decide) lq_160 rfl dX3_look_5 ?_
  refine lv_icmp_ge (tgt := 41) hx hb dX3_look_8 (by decide) (fun _ => ?_) (fun c_ => absurd (by decide) c_)
  refine lv_aload_n hx hb dX3_look_41 rfl (lv_at hl 0 rfl) ?_
  refine ka_get C lq_158 rfl hK hP 0 rfl 4 (by decide) lq_159 rfl dX3_look_42 ?_
  refine lv_aload_n hx hb dX3_look_45 rfl (lv_at hl 0 rfl) ?_
  refine ka_get C lq_158 rfl hK hP 0 rfl 3 (by decide) lq_160 rfl dX3_look_46 ?_
  refine lv_icmp_ge (tgt := 66) hx hb dX3_look_49 (by decide) (fun _ => ?_) (fun c_ => absurd (by decide) c_)
  refine lv_iconst (v := (-1)) hx hb dX3_look_66 (by decide) ?_
  exact ka_rRi C hr hlk rfl dX3_look_67
theorem lq_169 : Cond.fieldLink RX3 111 "AskedBack$Reader" "SIGNS" "[C" ∈ wsX3_signOf := by decide +kernel
set_option maxHeartbeats 4000000 in
set_option maxRecDepth 100000 in
theorem ct_X3_signOf_36 (l : Launch) (D : va_G) : ka_R l D yX3_signOf wsX3_signOf 0 0 [.int 2] [] [] (fun v => v = some (.int 38)) := by
  refine ka_R_of (cc := cX3_signOf) (maxL := 1) (ret := (some .int)) (by decide) rfl (Nat.le_of_ble_eq_true rfl) ?_
  intro p e s m below meth c ls C hr hlk hP hK hE hN hl
  have hS : va_S (fun _ => False) s.heap s.heap [] := va_S.rf
  have C : CallFix p m c cX3_signOf 1 s [.int 2].toArray wsX3_signOf RX3 := C
  obtain ⟨hx, hb, hml, hown, hts⟩ := id C
  have hl : lv_has ls 1 [(0, .int 2)] := hl
  obtain ⟨ts_1, ts_2, hZ1, hT1, hZ2, hT2⟩ := id hE
  refine lv_iload_n hx hb dX3_signOf_0 rfl (lv_at hl 0 rfl) ?_
  refine lv_if_lt (tgt := 20) hx hb dX3_signOf_1 (by decide) (fun c_ => absurd c_ (by decide)) (fun _ => ?_)
  refine lv_iload_n hx hb dX3_signOf_4 rfl (lv_at hl 0 rfl) ?_
  refine va_gets hx hb hZ1 hS hown (hts _ lq_169) (fun _ h9 => h9) dX3_signOf_5 ?_
  refine va_tlen hx hb hT1 hS (v := 3) (by decide) dX3_signOf_8 ?_
  refine lv_icmp_ge (tgt := 20) hx hb dX3_signOf_9 (by decide) (fun c_ => absurd c_ (by decide)) (fun _ => ?_)
  refine va_gets hx hb hZ1 hS hown (hts _ lq_169) (fun _ h9 => h9) dX3_signOf_12 ?_
  refine lv_iload_n hx hb dX3_signOf_15 rfl (lv_at hl 0 rfl) ?_
  refine va_tc hx hb hT1 hS (ka_in (by decide) (by decide)) (v := .int 38) rfl dX3_signOf_16 ?_
  refine lv_goto (tgt := 22) hx hb dX3_signOf_17 (by decide) ?_
  exact ka_rRi C hr hlk rfl dX3_signOf_22
theorem lq_170 : ∀ w ∈ wsX30, w ∈ wsX3_readRow := by decide +kernel
theorem lq_171 : Cond.fieldLink RX3 15 "AskedBack$Reader" "outLength" "I" ∈ wsX3_readRow := by decide +kernel
set_option maxHeartbeats 4000000 in
set_option maxRecDepth 100000 in
theorem ct_X3_readRow_37 (l : Launch) (D : va_G) (a0 : Nat) (a1 : Nat) (a2 : Nat) : ka_E (S := Unit) l D yX3_readRow wsX3_readRow 4 89 0 0 [.ref a0, .int 2, .int 0] [(a0, .inr (3, [.ref a1, .ref a2, .int 0, .int 0, .int 0, .int (-1), .int 3, .int 0]))] [] (fun u => some (.int 0)) (fun _ => True) (fun u => [(a0, .inr (3, [.ref a1, .ref a2, .int 0, .int 0, .int 0, .int 0, .int 3, .int 0]))]) (fun u => []) := by
  refine ka_E_of (cc := cX3_readRow) (maxL := 8) (ret := (some .int)) (by decide) rfl (Nat.le_of_ble_eq_true rfl) ?_
  intro p e s m below meth c ls A C hr hlk hin hP hK hD hS hA hE hN hl
  have C : CallFix p m c cX3_readRow 8 s [.ref a0, .int 2, .int 0].toArray wsX3_readRow RX3 := C
  obtain ⟨hx, hb, hml, hown, hts⟩ := id C
  have hl : lv_has ls 8 [(0, .ref a0), (1, .int 2), (2, .int 0)] := hl
  refine lv_aload_n hx hb dX3_readRow_0 rfl (lv_at hl 0 rfl) ?_
  refine ka_get C lq_170 rfl hK hP 0 rfl 2 (by decide) lq_171 rfl dX3_readRow_1 ?_
  refine lv_istore_n (lv' := [(3, .int 0), (0, .ref a0), (1, .int 2), (2, .int 0)]) hx hb dX3_readRow_4 rfl hl (by decide) rfl (fun ls hl => ?_)
  refine lv_aload_n hx hb dX3_readRow_5 rfl (lv_at hl 1 rfl) ?_
  refine lv_iload_n hx hb dX3_readRow_6 rfl (lv_at hl 2 rfl) ?_
  refine lv_iload_n hx hb dX3_readRow_7 rfl (lv_at hl 3 rfl) ?_
  refine ka_EV (n := 2) (wr := []) C (ct_X3_readPart_34 l D a0 a1 a2) gX3_readRow_X3_readPart rfl (by decide +kernel) ⟨Nat.le_of_ble_eq_true rfl, Nat.le_of_ble_eq_true rfl⟩ hK hP hD hS hA hE hN [0] rfl (by decide) [] rfl (by decide) (by decide) [] rfl (ci := 3) rfl rfl 0 rfl rfl hl.1 (rest := []) rfl (Nat.le_of_ble_eq_true rfl) dX3_readRow_8 ⟨Nat.le_of_ble_eq_true rfl, Nat.le_of_ble_eq_true rfl⟩ (fun u H locs _ hP hD hK hS => ?_)
  have hP : va_P D vwCl [(a0, .inr (3, [.ref a1, .ref a2, .int 0, .int 0, .int 0, .int 0, .int 3, .int 0]))] H := hP
  have hD : va_D A [(a0, .inr (3, [.ref a1, .ref a2, .int 0, .int 0, .int 0, .int 0, .int 3, .int 0]))] := hD
  have hK : va_K D vwCl [] s := hK
  refine ka_stk (w := [.int 0]) rfl ?_
  refine lv_istore (lv' := [(4, .int 0), (3, .int 0), (0, .ref a0), (1, .int 2), (2, .int 0)]) hx hb dX3_readRow_11 hl (by decide) rfl (fun ls hl => ?_)
  refine lv_iconst (v := 0) hx hb dX3_readRow_13 (by decide) ?_
  refine lv_istore (lv' := [(5, .int 0), (4, .int 0), (3, .int 0), (0, .ref a0), (1, .int 2), (2, .int 0)]) hx hb dX3_readRow_14 hl (by decide) rfl (fun ls hl => ?_)
  refine lv_iload hx hb dX3_readRow_16 (lv_at hl 0 rfl) ?_
  refine lv_bipush (v := 60) hx hb dX3_readRow_18 (by decide) ?_
  refine lv_icmp_ge (tgt := 86) hx hb dX3_readRow_20 (by decide) (fun c_ => absurd c_ (by decide)) (fun _ => ?_)
  refine lv_aload_n hx hb dX3_readRow_23 rfl (lv_at hl 3 rfl) ?_
  refine ka_RV (n := 0) C (ct_X3_look_35 l D a0 a1 a2) gX3_readRow_X3_look rfl (by decide +kernel) ⟨Nat.le_of_ble_eq_true rfl, Nat.le_of_ble_eq_true rfl⟩ hK hP hS hE hN [0] rfl [] rfl (ci := 3) rfl rfl 0 rfl rfl hl.1 (rest := []) rfl (Nat.le_of_ble_eq_true rfl) dX3_readRow_24 ⟨Nat.le_of_ble_eq_true rfl, Nat.le_of_ble_eq_true rfl⟩ (fun v hv => ?_)
  subst hv
  refine ka_stk (w := [.int (-1)]) rfl ?_
  refine lv_iload_n hx hb dX3_readRow_27 rfl (lv_at hl 4 rfl) ?_
  refine ka_RS (n := 1) C (ct_X3_signOf_36 l D ) gX3_readRow_X3_signOf rfl (by decide +kernel) ⟨Nat.le_of_ble_eq_true rfl, Nat.le_of_ble_eq_true rfl⟩ hK hP hS hE hN [] rfl [] rfl rfl hl.1 (rest := [.int (-1)]) rfl (Nat.le_of_ble_eq_true rfl) dX3_readRow_28 ⟨Nat.le_of_ble_eq_true rfl, Nat.le_of_ble_eq_true rfl⟩ (fun v hv => ?_)
  subst hv
  refine ka_stk (w := [.int 38, .int (-1)]) rfl ?_
  refine lv_icmp_ne (tgt := 86) hx hb dX3_readRow_31 (by decide) (fun _ => ?_) (fun c_ => absurd c_ (by decide))
  refine lv_iload hx hb dX3_readRow_86 (lv_at hl 1 rfl) ?_
  exact ka_rEi C hr hlk (Nat.le_of_ble_eq_true rfl) (Nat.le_of_ble_eq_true rfl) hS (ka_qE () rfl trivial hK hP hD hS [0] (by decide) rfl [] rfl) dX3_readRow_88
set_option maxHeartbeats 4000000 in
set_option maxRecDepth 100000 in
theorem ct_X3_readPart_38 (l : Launch) (D : va_G) (a0 : Nat) (a1 : Nat) (a2 : Nat) : ka_E (S := Unit) l D yX3_readPart wsX3_readPart 5 116 0 0 [.ref a0, .int 1, .int 0] [(a0, .inr (3, [.ref a1, .ref a2, .int 0, .int 0, .int 0, .int (-1), .int 3, .int 0]))] [] (fun u => some (.int 0)) (fun _ => True) (fun u => [(a0, .inr (3, [.ref a1, .ref a2, .int 0, .int 0, .int 0, .int 0, .int 3, .int 0]))]) (fun u => []) := by
  refine ka_E_of (cc := cX3_readPart) (maxL := 3) (ret := (some .int)) (by decide) rfl (Nat.le_of_ble_eq_true rfl) ?_
  intro p e s m below meth c ls A C hr hlk hin hP hK hD hS hA hE hN hl
  have C : CallFix p m c cX3_readPart 3 s [.ref a0, .int 1, .int 0].toArray wsX3_readPart RX3 := C
  obtain ⟨hx, hb, hml, hown, hts⟩ := id C
  have hl : lv_has ls 3 [(0, .ref a0), (1, .int 1), (2, .int 0)] := hl
  refine lv_iload_n hx hb dX3_readPart_0 rfl (lv_at hl 1 rfl) ?_
  refine lv_iconst (v := 2) hx hb dX3_readPart_1 (by decide) ?_
  refine lv_icmp_lt (tgt := 13) hx hb dX3_readPart_2 (by decide) (fun _ => ?_) (fun c_ => absurd (by decide) c_)
  refine lv_aload_n hx hb dX3_readPart_13 rfl (lv_at hl 0 rfl) ?_
  refine lv_iload_n hx hb dX3_readPart_14 rfl (lv_at hl 1 rfl) ?_
  refine lv_iconst (v := 1) hx hb dX3_readPart_15 (by decide) ?_
  refine lv_iadd hx hb dX3_readPart_16 ?_
  refine ka_top (w := .int 2) (congrArg Value.int (by decide)) ?_
  refine lv_iload_n hx hb dX3_readPart_17 rfl (lv_at hl 2 rfl) ?_
  refine ka_EV (n := 2) (wr := []) C (ct_X3_readRow_37 l D a0 a1 a2) gX3_readPart_X3_readRow rfl (by decide +kernel) ⟨Nat.le_of_ble_eq_true rfl, Nat.le_of_ble_eq_true rfl⟩ hK hP hD hS hA hE hN [0] rfl (by decide) [] rfl (by decide) (by decide) [] rfl (ci := 3) rfl rfl 0 rfl rfl hl.1 (rest := []) rfl (Nat.le_of_ble_eq_true rfl) dX3_readPart_18 ⟨Nat.le_of_ble_eq_true rfl, Nat.le_of_ble_eq_true rfl⟩ (fun u H locs _ hP hD hK hS => ?_)
  have hP : va_P D vwCl [(a0, .inr (3, [.ref a1, .ref a2, .int 0, .int 0, .int 0, .int 0, .int 3, .int 0]))] H := hP
  have hD : va_D A [(a0, .inr (3, [.ref a1, .ref a2, .int 0, .int 0, .int 0, .int 0, .int 3, .int 0]))] := hD
  have hK : va_K D vwCl [] s := hK
  refine ka_stk (w := [.int 0]) rfl ?_
  exact ka_rEi C hr hlk (Nat.le_of_ble_eq_true rfl) (Nat.le_of_ble_eq_true rfl) hS (ka_qE () rfl trivial hK hP hD hS [0] (by decide) rfl [] rfl) dX3_readPart_21
set_option maxHeartbeats 4000000 in
set_option maxRecDepth 100000 in
theorem ct_X3_signOf_39 (l : Launch) (D : va_G) : ka_R l D yX3_signOf wsX3_signOf 0 0 [.int 1] [] [] (fun v => v = some (.int 94)) := by
  refine ka_R_of (cc := cX3_signOf) (maxL := 1) (ret := (some .int)) (by decide) rfl (Nat.le_of_ble_eq_true rfl) ?_
  intro p e s m below meth c ls C hr hlk hP hK hE hN hl
  have hS : va_S (fun _ => False) s.heap s.heap [] := va_S.rf
  have C : CallFix p m c cX3_signOf 1 s [.int 1].toArray wsX3_signOf RX3 := C
  obtain ⟨hx, hb, hml, hown, hts⟩ := id C
  have hl : lv_has ls 1 [(0, .int 1)] := hl
  obtain ⟨ts_1, ts_2, hZ1, hT1, hZ2, hT2⟩ := id hE
  refine lv_iload_n hx hb dX3_signOf_0 rfl (lv_at hl 0 rfl) ?_
  refine lv_if_lt (tgt := 20) hx hb dX3_signOf_1 (by decide) (fun c_ => absurd c_ (by decide)) (fun _ => ?_)
  refine lv_iload_n hx hb dX3_signOf_4 rfl (lv_at hl 0 rfl) ?_
  refine va_gets hx hb hZ1 hS hown (hts _ lq_169) (fun _ h9 => h9) dX3_signOf_5 ?_
  refine va_tlen hx hb hT1 hS (v := 3) (by decide) dX3_signOf_8 ?_
  refine lv_icmp_ge (tgt := 20) hx hb dX3_signOf_9 (by decide) (fun c_ => absurd c_ (by decide)) (fun _ => ?_)
  refine va_gets hx hb hZ1 hS hown (hts _ lq_169) (fun _ h9 => h9) dX3_signOf_12 ?_
  refine lv_iload_n hx hb dX3_signOf_15 rfl (lv_at hl 0 rfl) ?_
  refine va_tc hx hb hT1 hS (ka_in (by decide) (by decide)) (v := .int 94) rfl dX3_signOf_16 ?_
  refine lv_goto (tgt := 22) hx hb dX3_signOf_17 (by decide) ?_
  exact ka_rRi C hr hlk rfl dX3_signOf_22
set_option maxHeartbeats 4000000 in
set_option maxRecDepth 100000 in
theorem ct_X3_readRow_40 (l : Launch) (D : va_G) (a0 : Nat) (a1 : Nat) (a2 : Nat) : ka_E (S := Unit) l D yX3_readRow wsX3_readRow 6 138 0 0 [.ref a0, .int 1, .int 0] [(a0, .inr (3, [.ref a1, .ref a2, .int 0, .int 0, .int 0, .int (-1), .int 3, .int 0]))] [] (fun u => some (.int 0)) (fun _ => True) (fun u => [(a0, .inr (3, [.ref a1, .ref a2, .int 0, .int 0, .int 0, .int 0, .int 3, .int 0]))]) (fun u => []) := by
  refine ka_E_of (cc := cX3_readRow) (maxL := 8) (ret := (some .int)) (by decide) rfl (Nat.le_of_ble_eq_true rfl) ?_
  intro p e s m below meth c ls A C hr hlk hin hP hK hD hS hA hE hN hl
  have C : CallFix p m c cX3_readRow 8 s [.ref a0, .int 1, .int 0].toArray wsX3_readRow RX3 := C
  obtain ⟨hx, hb, hml, hown, hts⟩ := id C
  have hl : lv_has ls 8 [(0, .ref a0), (1, .int 1), (2, .int 0)] := hl
  refine lv_aload_n hx hb dX3_readRow_0 rfl (lv_at hl 0 rfl) ?_
  refine ka_get C lq_170 rfl hK hP 0 rfl 2 (by decide) lq_171 rfl dX3_readRow_1 ?_
  refine lv_istore_n (lv' := [(3, .int 0), (0, .ref a0), (1, .int 1), (2, .int 0)]) hx hb dX3_readRow_4 rfl hl (by decide) rfl (fun ls hl => ?_)
  refine lv_aload_n hx hb dX3_readRow_5 rfl (lv_at hl 1 rfl) ?_
  refine lv_iload_n hx hb dX3_readRow_6 rfl (lv_at hl 2 rfl) ?_
  refine lv_iload_n hx hb dX3_readRow_7 rfl (lv_at hl 3 rfl) ?_
  refine ka_EV (n := 2) (wr := []) C (ct_X3_readPart_38 l D a0 a1 a2) gX3_readRow_X3_readPart rfl (by decide +kernel) ⟨Nat.le_of_ble_eq_true rfl, Nat.le_of_ble_eq_true rfl⟩ hK hP hD hS hA hE hN [0] rfl (by decide) [] rfl (by decide) (by decide) [] rfl (ci := 3) rfl rfl 0 rfl rfl hl.1 (rest := []) rfl (Nat.le_of_ble_eq_true rfl) dX3_readRow_8 ⟨Nat.le_of_ble_eq_true rfl, Nat.le_of_ble_eq_true rfl⟩ (fun u H locs _ hP hD hK hS => ?_)
  have hP : va_P D vwCl [(a0, .inr (3, [.ref a1, .ref a2, .int 0, .int 0, .int 0, .int 0, .int 3, .int 0]))] H := hP
  have hD : va_D A [(a0, .inr (3, [.ref a1, .ref a2, .int 0, .int 0, .int 0, .int 0, .int 3, .int 0]))] := hD
  have hK : va_K D vwCl [] s := hK
  refine ka_stk (w := [.int 0]) rfl ?_
  refine lv_istore (lv' := [(4, .int 0), (3, .int 0), (0, .ref a0), (1, .int 1), (2, .int 0)]) hx hb dX3_readRow_11 hl (by decide) rfl (fun ls hl => ?_)
  refine lv_iconst (v := 0) hx hb dX3_readRow_13 (by decide) ?_
  refine lv_istore (lv' := [(5, .int 0), (4, .int 0), (3, .int 0), (0, .ref a0), (1, .int 1), (2, .int 0)]) hx hb dX3_readRow_14 hl (by decide) rfl (fun ls hl => ?_)
  refine lv_iload hx hb dX3_readRow_16 (lv_at hl 0 rfl) ?_
  refine lv_bipush (v := 60) hx hb dX3_readRow_18 (by decide) ?_
  refine lv_icmp_ge (tgt := 86) hx hb dX3_readRow_20 (by decide) (fun c_ => absurd c_ (by decide)) (fun _ => ?_)
  refine lv_aload_n hx hb dX3_readRow_23 rfl (lv_at hl 3 rfl) ?_
  refine ka_RV (n := 0) C (ct_X3_look_35 l D a0 a1 a2) gX3_readRow_X3_look rfl (by decide +kernel) ⟨Nat.le_of_ble_eq_true rfl, Nat.le_of_ble_eq_true rfl⟩ hK hP hS hE hN [0] rfl [] rfl (ci := 3) rfl rfl 0 rfl rfl hl.1 (rest := []) rfl (Nat.le_of_ble_eq_true rfl) dX3_readRow_24 ⟨Nat.le_of_ble_eq_true rfl, Nat.le_of_ble_eq_true rfl⟩ (fun v hv => ?_)
  subst hv
  refine ka_stk (w := [.int (-1)]) rfl ?_
  refine lv_iload_n hx hb dX3_readRow_27 rfl (lv_at hl 4 rfl) ?_
  refine ka_RS (n := 1) C (ct_X3_signOf_39 l D ) gX3_readRow_X3_signOf rfl (by decide +kernel) ⟨Nat.le_of_ble_eq_true rfl, Nat.le_of_ble_eq_true rfl⟩ hK hP hS hE hN [] rfl [] rfl rfl hl.1 (rest := [.int (-1)]) rfl (Nat.le_of_ble_eq_true rfl) dX3_readRow_28 ⟨Nat.le_of_ble_eq_true rfl, Nat.le_of_ble_eq_true rfl⟩ (fun v hv => ?_)
  subst hv
  refine ka_stk (w := [.int 94, .int (-1)]) rfl ?_
  refine lv_icmp_ne (tgt := 86) hx hb dX3_readRow_31 (by decide) (fun _ => ?_) (fun c_ => absurd c_ (by decide))
  refine lv_iload hx hb dX3_readRow_86 (lv_at hl 1 rfl) ?_
  exact ka_rEi C hr hlk (Nat.le_of_ble_eq_true rfl) (Nat.le_of_ble_eq_true rfl) hS (ka_qE () rfl trivial hK hP hD hS [0] (by decide) rfl [] rfl) dX3_readRow_88
set_option maxHeartbeats 4000000 in
set_option maxRecDepth 100000 in
theorem ct_X3_readPart_41 (l : Launch) (D : va_G) (a0 : Nat) (a1 : Nat) (a2 : Nat) : ka_E (S := Unit) l D yX3_readPart wsX3_readPart 7 165 0 0 [.ref a0, .int 0, .int 0] [(a0, .inr (3, [.ref a1, .ref a2, .int 0, .int 0, .int 0, .int (-1), .int 3, .int 0]))] [] (fun u => some (.int 0)) (fun _ => True) (fun u => [(a0, .inr (3, [.ref a1, .ref a2, .int 0, .int 0, .int 0, .int 0, .int 3, .int 0]))]) (fun u => []) := by
  refine ka_E_of (cc := cX3_readPart) (maxL := 3) (ret := (some .int)) (by decide) rfl (Nat.le_of_ble_eq_true rfl) ?_
  intro p e s m below meth c ls A C hr hlk hin hP hK hD hS hA hE hN hl
  have C : CallFix p m c cX3_readPart 3 s [.ref a0, .int 0, .int 0].toArray wsX3_readPart RX3 := C
  obtain ⟨hx, hb, hml, hown, hts⟩ := id C
  have hl : lv_has ls 3 [(0, .ref a0), (1, .int 0), (2, .int 0)] := hl
  refine lv_iload_n hx hb dX3_readPart_0 rfl (lv_at hl 1 rfl) ?_
  refine lv_iconst (v := 2) hx hb dX3_readPart_1 (by decide) ?_
  refine lv_icmp_lt (tgt := 13) hx hb dX3_readPart_2 (by decide) (fun _ => ?_) (fun c_ => absurd (by decide) c_)
  refine lv_aload_n hx hb dX3_readPart_13 rfl (lv_at hl 0 rfl) ?_
  refine lv_iload_n hx hb dX3_readPart_14 rfl (lv_at hl 1 rfl) ?_
  refine lv_iconst (v := 1) hx hb dX3_readPart_15 (by decide) ?_
  refine lv_iadd hx hb dX3_readPart_16 ?_
  refine ka_top (w := .int 1) (congrArg Value.int (by decide)) ?_
  refine lv_iload_n hx hb dX3_readPart_17 rfl (lv_at hl 2 rfl) ?_
  refine ka_EV (n := 2) (wr := []) C (ct_X3_readRow_40 l D a0 a1 a2) gX3_readPart_X3_readRow rfl (by decide +kernel) ⟨Nat.le_of_ble_eq_true rfl, Nat.le_of_ble_eq_true rfl⟩ hK hP hD hS hA hE hN [0] rfl (by decide) [] rfl (by decide) (by decide) [] rfl (ci := 3) rfl rfl 0 rfl rfl hl.1 (rest := []) rfl (Nat.le_of_ble_eq_true rfl) dX3_readPart_18 ⟨Nat.le_of_ble_eq_true rfl, Nat.le_of_ble_eq_true rfl⟩ (fun u H locs _ hP hD hK hS => ?_)
  have hP : va_P D vwCl [(a0, .inr (3, [.ref a1, .ref a2, .int 0, .int 0, .int 0, .int 0, .int 3, .int 0]))] H := hP
  have hD : va_D A [(a0, .inr (3, [.ref a1, .ref a2, .int 0, .int 0, .int 0, .int 0, .int 3, .int 0]))] := hD
  have hK : va_K D vwCl [] s := hK
  refine ka_stk (w := [.int 0]) rfl ?_
  exact ka_rEi C hr hlk (Nat.le_of_ble_eq_true rfl) (Nat.le_of_ble_eq_true rfl) hS (ka_qE () rfl trivial hK hP hD hS [0] (by decide) rfl [] rfl) dX3_readPart_21
set_option maxHeartbeats 4000000 in
set_option maxRecDepth 100000 in
theorem ct_X3_signOf_42 (l : Launch) (D : va_G) : ka_R l D yX3_signOf wsX3_signOf 0 0 [.int 0] [] [] (fun v => v = some (.int 124)) := by
  refine ka_R_of (cc := cX3_signOf) (maxL := 1) (ret := (some .int)) (by decide) rfl (Nat.le_of_ble_eq_true rfl) ?_
  intro p e s m below meth c ls C hr hlk hP hK hE hN hl
  have hS : va_S (fun _ => False) s.heap s.heap [] := va_S.rf
  have C : CallFix p m c cX3_signOf 1 s [.int 0].toArray wsX3_signOf RX3 := C
  obtain ⟨hx, hb, hml, hown, hts⟩ := id C
  have hl : lv_has ls 1 [(0, .int 0)] := hl
  obtain ⟨ts_1, ts_2, hZ1, hT1, hZ2, hT2⟩ := id hE
  refine lv_iload_n hx hb dX3_signOf_0 rfl (lv_at hl 0 rfl) ?_
  refine lv_if_lt (tgt := 20) hx hb dX3_signOf_1 (by decide) (fun c_ => absurd c_ (by decide)) (fun _ => ?_)
  refine lv_iload_n hx hb dX3_signOf_4 rfl (lv_at hl 0 rfl) ?_
  refine va_gets hx hb hZ1 hS hown (hts _ lq_169) (fun _ h9 => h9) dX3_signOf_5 ?_
  refine va_tlen hx hb hT1 hS (v := 3) (by decide) dX3_signOf_8 ?_
  refine lv_icmp_ge (tgt := 20) hx hb dX3_signOf_9 (by decide) (fun c_ => absurd c_ (by decide)) (fun _ => ?_)
  refine va_gets hx hb hZ1 hS hown (hts _ lq_169) (fun _ h9 => h9) dX3_signOf_12 ?_
  refine lv_iload_n hx hb dX3_signOf_15 rfl (lv_at hl 0 rfl) ?_
  refine va_tc hx hb hT1 hS (ka_in (by decide) (by decide)) (v := .int 124) rfl dX3_signOf_16 ?_
  refine lv_goto (tgt := 22) hx hb dX3_signOf_17 (by decide) ?_
  exact ka_rRi C hr hlk rfl dX3_signOf_22
set_option maxHeartbeats 4000000 in
set_option maxRecDepth 100000 in
theorem ct_X3_readRow_43 (l : Launch) (D : va_G) (a0 : Nat) (a1 : Nat) (a2 : Nat) : ka_E (S := Unit) l D yX3_readRow wsX3_readRow 8 187 0 0 [.ref a0, .int 0, .int 0] [(a0, .inr (3, [.ref a1, .ref a2, .int 0, .int 0, .int 0, .int (-1), .int 3, .int 0]))] [] (fun u => some (.int 0)) (fun _ => True) (fun u => [(a0, .inr (3, [.ref a1, .ref a2, .int 0, .int 0, .int 0, .int 0, .int 3, .int 0]))]) (fun u => []) := by
  refine ka_E_of (cc := cX3_readRow) (maxL := 8) (ret := (some .int)) (by decide) rfl (Nat.le_of_ble_eq_true rfl) ?_
  intro p e s m below meth c ls A C hr hlk hin hP hK hD hS hA hE hN hl
  have C : CallFix p m c cX3_readRow 8 s [.ref a0, .int 0, .int 0].toArray wsX3_readRow RX3 := C
  obtain ⟨hx, hb, hml, hown, hts⟩ := id C
  have hl : lv_has ls 8 [(0, .ref a0), (1, .int 0), (2, .int 0)] := hl
  refine lv_aload_n hx hb dX3_readRow_0 rfl (lv_at hl 0 rfl) ?_
  refine ka_get C lq_170 rfl hK hP 0 rfl 2 (by decide) lq_171 rfl dX3_readRow_1 ?_
  refine lv_istore_n (lv' := [(3, .int 0), (0, .ref a0), (1, .int 0), (2, .int 0)]) hx hb dX3_readRow_4 rfl hl (by decide) rfl (fun ls hl => ?_)
  refine lv_aload_n hx hb dX3_readRow_5 rfl (lv_at hl 1 rfl) ?_
  refine lv_iload_n hx hb dX3_readRow_6 rfl (lv_at hl 2 rfl) ?_
  refine lv_iload_n hx hb dX3_readRow_7 rfl (lv_at hl 3 rfl) ?_
  refine ka_EV (n := 2) (wr := []) C (ct_X3_readPart_41 l D a0 a1 a2) gX3_readRow_X3_readPart rfl (by decide +kernel) ⟨Nat.le_of_ble_eq_true rfl, Nat.le_of_ble_eq_true rfl⟩ hK hP hD hS hA hE hN [0] rfl (by decide) [] rfl (by decide) (by decide) [] rfl (ci := 3) rfl rfl 0 rfl rfl hl.1 (rest := []) rfl (Nat.le_of_ble_eq_true rfl) dX3_readRow_8 ⟨Nat.le_of_ble_eq_true rfl, Nat.le_of_ble_eq_true rfl⟩ (fun u H locs _ hP hD hK hS => ?_)
  have hP : va_P D vwCl [(a0, .inr (3, [.ref a1, .ref a2, .int 0, .int 0, .int 0, .int 0, .int 3, .int 0]))] H := hP
  have hD : va_D A [(a0, .inr (3, [.ref a1, .ref a2, .int 0, .int 0, .int 0, .int 0, .int 3, .int 0]))] := hD
  have hK : va_K D vwCl [] s := hK
  refine ka_stk (w := [.int 0]) rfl ?_
  refine lv_istore (lv' := [(4, .int 0), (3, .int 0), (0, .ref a0), (1, .int 0), (2, .int 0)]) hx hb dX3_readRow_11 hl (by decide) rfl (fun ls hl => ?_)
  refine lv_iconst (v := 0) hx hb dX3_readRow_13 (by decide) ?_
  refine lv_istore (lv' := [(5, .int 0), (4, .int 0), (3, .int 0), (0, .ref a0), (1, .int 0), (2, .int 0)]) hx hb dX3_readRow_14 hl (by decide) rfl (fun ls hl => ?_)
  refine lv_iload hx hb dX3_readRow_16 (lv_at hl 0 rfl) ?_
  refine lv_bipush (v := 60) hx hb dX3_readRow_18 (by decide) ?_
  refine lv_icmp_ge (tgt := 86) hx hb dX3_readRow_20 (by decide) (fun c_ => absurd c_ (by decide)) (fun _ => ?_)
  refine lv_aload_n hx hb dX3_readRow_23 rfl (lv_at hl 3 rfl) ?_
  refine ka_RV (n := 0) C (ct_X3_look_35 l D a0 a1 a2) gX3_readRow_X3_look rfl (by decide +kernel) ⟨Nat.le_of_ble_eq_true rfl, Nat.le_of_ble_eq_true rfl⟩ hK hP hS hE hN [0] rfl [] rfl (ci := 3) rfl rfl 0 rfl rfl hl.1 (rest := []) rfl (Nat.le_of_ble_eq_true rfl) dX3_readRow_24 ⟨Nat.le_of_ble_eq_true rfl, Nat.le_of_ble_eq_true rfl⟩ (fun v hv => ?_)
  subst hv
  refine ka_stk (w := [.int (-1)]) rfl ?_
  refine lv_iload_n hx hb dX3_readRow_27 rfl (lv_at hl 4 rfl) ?_
  refine ka_RS (n := 1) C (ct_X3_signOf_42 l D ) gX3_readRow_X3_signOf rfl (by decide +kernel) ⟨Nat.le_of_ble_eq_true rfl, Nat.le_of_ble_eq_true rfl⟩ hK hP hS hE hN [] rfl [] rfl rfl hl.1 (rest := [.int (-1)]) rfl (Nat.le_of_ble_eq_true rfl) dX3_readRow_28 ⟨Nat.le_of_ble_eq_true rfl, Nat.le_of_ble_eq_true rfl⟩ (fun v hv => ?_)
  subst hv
  refine ka_stk (w := [.int 124, .int (-1)]) rfl ?_
  refine lv_icmp_ne (tgt := 86) hx hb dX3_readRow_31 (by decide) (fun _ => ?_) (fun c_ => absurd c_ (by decide))
  refine lv_iload hx hb dX3_readRow_86 (lv_at hl 1 rfl) ?_
  exact ka_rEi C hr hlk (Nat.le_of_ble_eq_true rfl) (Nat.le_of_ble_eq_true rfl) hS (ka_qE () rfl trivial hK hP hD hS [0] (by decide) rfl [] rfl) dX3_readRow_88
theorem lq_172 : ∀ w ∈ wsX30, w ∈ wsX3_readText := by decide +kernel
theorem lq_173 : Cond.fieldLink RX3 19 "AskedBack$Reader" "end" "I" ∈ wsX3_readText := by decide +kernel
theorem lq_174 : Cond.fieldLink RX3 22 "AskedBack$Reader" "place" "I" ∈ wsX3_readText := by decide +kernel
theorem lq_175 : Cond.fieldLink RX3 15 "AskedBack$Reader" "outLength" "I" ∈ wsX3_readText := by decide +kernel
theorem lq_176 : Cond.fieldLink RX3 25 "AskedBack$Reader" "faultPlace" "I" ∈ wsX3_readText := by decide +kernel
theorem lq_177 : Cond.fieldLink RX3 31 "AskedBack$Reader" "truth" "I" ∈ wsX3_readText := by decide +kernel
set_option maxHeartbeats 4000000 in
set_option maxRecDepth 100000 in
theorem ct_X3_readText_44 (l : Launch) (D : va_G) (a0 : Nat) (a1 : Nat) (a2 : Nat) : ka_E (S := Unit) l D yX3_readText wsX3_readText 9 214 0 0 [.ref a0, .int 0] [(a0, .inr (3, [.ref a1, .ref a2, .int 0, .int 0, .int 0, .int (-1), .int 3, .int 0]))] [] (fun u => some (.int 0)) (fun _ => True) (fun u => [(a0, .inr (3, [.ref a1, .ref a2, .int 0, .int 0, .int 0, .int 0, .int 3, .int 0]))]) (fun u => []) := by
  refine ka_E_of (cc := cX3_readText) (maxL := 2) (ret := (some .int)) (by decide) rfl (Nat.le_of_ble_eq_true rfl) ?_
  intro p e s m below meth c ls A C hr hlk hin hP hK hD hS hA hE hN hl
  have C : CallFix p m c cX3_readText 2 s [.ref a0, .int 0].toArray wsX3_readText RX3 := C
  obtain ⟨hx, hb, hml, hown, hts⟩ := id C
  have hl : lv_has ls 2 [(0, .ref a0), (1, .int 0)] := hl
  refine lv_aload_n hx hb dX3_readText_0 rfl (lv_at hl 0 rfl) ?_
  refine lv_iload_n hx hb dX3_readText_1 rfl (lv_at hl 1 rfl) ?_
  refine ka_put C lq_172 tyX3 tyX3_ok nmX3 rfl hK hP hD hS 0 rfl 3 (by decide) lq_173 rfl rfl rfl (Nat.le_of_ble_eq_true rfl) dX3_readText_2 (fun H locs hP hD hS => ?_)
  have hP : va_P D vwCl [(a0, .inr (3, [.ref a1, .ref a2, .int 0, .int 0, .int 0, .int (-1), .int 3, .int 0]))] H := hP
  have hD : va_D A [(a0, .inr (3, [.ref a1, .ref a2, .int 0, .int 0, .int 0, .int (-1), .int 3, .int 0]))] := hD
  refine lv_aload_n hx hb dX3_readText_5 rfl (lv_at hl 0 rfl) ?_
  refine lv_iconst (v := 0) hx hb dX3_readText_6 (by decide) ?_
  refine ka_put C lq_172 tyX3 tyX3_ok nmX3 rfl hK hP hD hS 0 rfl 4 (by decide) lq_174 rfl rfl rfl (Nat.le_of_ble_eq_true rfl) dX3_readText_7 (fun H locs hP hD hS => ?_)
  have hP : va_P D vwCl [(a0, .inr (3, [.ref a1, .ref a2, .int 0, .int 0, .int 0, .int (-1), .int 3, .int 0]))] H := hP
  have hD : va_D A [(a0, .inr (3, [.ref a1, .ref a2, .int 0, .int 0, .int 0, .int (-1), .int 3, .int 0]))] := hD
  refine lv_aload_n hx hb dX3_readText_10 rfl (lv_at hl 0 rfl) ?_
  refine lv_iconst (v := 0) hx hb dX3_readText_11 (by decide) ?_
  refine ka_put C lq_172 tyX3 tyX3_ok nmX3 rfl hK hP hD hS 0 rfl 2 (by decide) lq_175 rfl rfl rfl (Nat.le_of_ble_eq_true rfl) dX3_readText_12 (fun H locs hP hD hS => ?_)
  have hP : va_P D vwCl [(a0, .inr (3, [.ref a1, .ref a2, .int 0, .int 0, .int 0, .int (-1), .int 3, .int 0]))] H := hP
  have hD : va_D A [(a0, .inr (3, [.ref a1, .ref a2, .int 0, .int 0, .int 0, .int (-1), .int 3, .int 0]))] := hD
  refine lv_aload_n hx hb dX3_readText_15 rfl (lv_at hl 0 rfl) ?_
  refine lv_iconst (v := (-1)) hx hb dX3_readText_16 (by decide) ?_
  refine ka_put C lq_172 tyX3 tyX3_ok nmX3 rfl hK hP hD hS 0 rfl 5 (by decide) lq_176 rfl rfl rfl (Nat.le_of_ble_eq_true rfl) dX3_readText_17 (fun H locs hP hD hS => ?_)
  have hP : va_P D vwCl [(a0, .inr (3, [.ref a1, .ref a2, .int 0, .int 0, .int 0, .int (-1), .int 3, .int 0]))] H := hP
  have hD : va_D A [(a0, .inr (3, [.ref a1, .ref a2, .int 0, .int 0, .int 0, .int (-1), .int 3, .int 0]))] := hD
  refine lv_aload_n hx hb dX3_readText_20 rfl (lv_at hl 0 rfl) ?_
  refine lv_aload_n hx hb dX3_readText_21 rfl (lv_at hl 0 rfl) ?_
  refine lv_iconst (v := 0) hx hb dX3_readText_22 (by decide) ?_
  refine lv_iconst (v := 0) hx hb dX3_readText_23 (by decide) ?_
  refine ka_EV (n := 2) (wr := []) C (ct_X3_readRow_43 l D a0 a1 a2) gX3_readText_X3_readRow rfl (by decide +kernel) ⟨Nat.le_of_ble_eq_true rfl, Nat.le_of_ble_eq_true rfl⟩ hK hP hD hS hA hE hN [0] rfl (by decide) [] rfl (by decide) (by decide) [] rfl (ci := 3) rfl rfl 0 rfl rfl hl.1 (rest := [.ref a0]) rfl (Nat.le_of_ble_eq_true rfl) dX3_readText_24 ⟨Nat.le_of_ble_eq_true rfl, Nat.le_of_ble_eq_true rfl⟩ (fun u H locs _ hP hD hK hS => ?_)
  have hP : va_P D vwCl [(a0, .inr (3, [.ref a1, .ref a2, .int 0, .int 0, .int 0, .int 0, .int 3, .int 0]))] H := hP
  have hD : va_D A [(a0, .inr (3, [.ref a1, .ref a2, .int 0, .int 0, .int 0, .int 0, .int 3, .int 0]))] := hD
  have hK : va_K D vwCl [] s := hK
  refine ka_stk (w := [.int 0, .ref a0]) rfl ?_
  refine ka_put C lq_172 tyX3 tyX3_ok nmX3 rfl hK hP hD hS 0 rfl 7 (by decide) lq_177 rfl rfl rfl (Nat.le_of_ble_eq_true rfl) dX3_readText_27 (fun H locs hP hD hS => ?_)
  have hP : va_P D vwCl [(a0, .inr (3, [.ref a1, .ref a2, .int 0, .int 0, .int 0, .int 0, .int 3, .int 0]))] H := hP
  have hD : va_D A [(a0, .inr (3, [.ref a1, .ref a2, .int 0, .int 0, .int 0, .int 0, .int 3, .int 0]))] := hD
  refine lv_aload_n hx hb dX3_readText_30 rfl (lv_at hl 0 rfl) ?_
  refine ka_RV (n := 0) C (ct_X3_look_35 l D a0 a1 a2) gX3_readText_X3_look rfl (by decide +kernel) ⟨Nat.le_of_ble_eq_true rfl, Nat.le_of_ble_eq_true rfl⟩ hK hP hS hE hN [0] rfl [] rfl (ci := 3) rfl rfl 0 rfl rfl hl.1 (rest := []) rfl (Nat.le_of_ble_eq_true rfl) dX3_readText_31 ⟨Nat.le_of_ble_eq_true rfl, Nat.le_of_ble_eq_true rfl⟩ (fun v hv => ?_)
  subst hv
  refine ka_stk (w := [.int (-1)]) rfl ?_
  refine lv_iconst (v := (-1)) hx hb dX3_readText_34 (by decide) ?_
  refine lv_icmp_eq (tgt := 42) hx hb dX3_readText_35 (by decide) (fun _ => ?_) (fun c_ => absurd (by decide) c_)
  refine lv_aload_n hx hb dX3_readText_42 rfl (lv_at hl 0 rfl) ?_
  refine ka_get C lq_172 rfl hK hP 0 rfl 5 (by decide) lq_176 rfl dX3_readText_43 ?_
  exact ka_rEi C hr hlk (Nat.le_of_ble_eq_true rfl) (Nat.le_of_ble_eq_true rfl) hS (ka_qE () rfl trivial hK hP hD hS [0] (by decide) rfl [] rfl) dX3_readText_46
theorem lq_178 : ∀ w ∈ wsX50, w ∈ wsX5_clear := by decide +kernel
theorem lq_179 : Cond.fieldLink RX5 15 "AskedBack$Tape" "length" "I" ∈ wsX5_clear := by decide +kernel
set_option maxHeartbeats 4000000 in
set_option maxRecDepth 100000 in
theorem ct_X5_clear_45 (l : Launch) (D : va_G) (a0 : Nat) (a1 : Nat) : ka_E (S := Unit) l D yX5_clear wsX5_clear 0 0 0 0 [.ref a0] [(a0, .inr (5, [.ref a1, .int 0]))] [] (fun u => none) (fun _ => True) (fun u => [(a0, .inr (5, [.ref a1, .int 0]))]) (fun u => []) := by
  refine ka_E_of (cc := cX5_clear) (maxL := 1) (ret := none) (by decide) rfl (Nat.le_of_ble_eq_true rfl) ?_
  intro p e s m below meth c ls A C hr hlk hin hP hK hD hS hA hE hN hl
  have C : CallFix p m c cX5_clear 1 s [.ref a0].toArray wsX5_clear RX5 := C
  obtain ⟨hx, hb, hml, hown, hts⟩ := id C
  have hl : lv_has ls 1 [(0, .ref a0)] := hl
  refine lv_aload_n hx hb dX5_clear_0 rfl (lv_at hl 0 rfl) ?_
  refine lv_iconst (v := 0) hx hb dX5_clear_1 (by decide) ?_
  refine ka_put C lq_178 tyX5 tyX5_ok nmX5 rfl hK hP hD hS 0 rfl 1 (by decide) lq_179 rfl rfl rfl (Nat.le_of_ble_eq_true rfl) dX5_clear_2 (fun H locs hP hD hS => ?_)
  have hP : va_P D vwCl [(a0, .inr (5, [.ref a1, .int 0]))] H := hP
  have hD : va_D A [(a0, .inr (5, [.ref a1, .int 0]))] := hD
  exact ka_rEv C hr hlk (Nat.le_of_ble_eq_true rfl) (Nat.le_of_ble_eq_true rfl) hS (ka_qE () rfl trivial hK hP hD hS [0] (by decide) rfl [] rfl) dX5_clear_5
theorem lq_180 : ∀ w ∈ wsX60, w ∈ wsX6_readTape := by decide +kernel
theorem lq_181 : Cond.fieldLink RX6 21 "AskedBack" "reader" "LAskedBack$Reader;" ∈ wsX6_readTape := by decide +kernel
theorem lq_182 : Cond.fieldLink RX6 43 "AskedBack" "latestFault" "I" ∈ wsX6_readTape := by decide +kernel
theorem lq_183 : Cond.fieldLink RX6 10 "AskedBack" "tape" "LAskedBack$Tape;" ∈ wsX6_readTape := by decide +kernel
set_option maxHeartbeats 4000000 in
set_option maxRecDepth 100000 in
theorem ct_X6_readTape_46 (l : Launch) (D : va_G) (a0 : Nat) (a1 : Nat) (a2 : Nat) (a3 : Nat) (a4 : Nat) (a5 : Nat) (a6 : Nat) : ka_E (S := Unit) l D yX6_readTape wsX6_readTape 10 235 0 0 [.ref a0, .int 0] [(a0, .inr (6, [.ref a1, .ref a2, .ref a3, .ref a4, .int (-1), .int (-1), .int 0, .int 3, .int 3])), (a1, .inr (5, [.ref a5, .int 0])), (a2, .inr (3, [.ref a1, .ref a6, .int 0, .int 0, .int 0, .int (-1), .int 3, .int 0]))] [] (fun u => some (.int 0)) (fun _ => True) (fun u => [(a0, .inr (6, [.ref a1, .ref a2, .ref a3, .ref a4, .int (-1), .int 0, .int 0, .int 3, .int 3])), (a2, .inr (3, [.ref a1, .ref a6, .int 0, .int 0, .int 0, .int 0, .int 3, .int 0])), (a1, .inr (5, [.ref a5, .int 0]))]) (fun u => []) := by
  refine ka_E_of (cc := cX6_readTape) (maxL := 2) (ret := (some .boolean)) (by decide) rfl (Nat.le_of_ble_eq_true rfl) ?_
  intro p e s m below meth c ls A C hr hlk hin hP hK hD hS hA hE hN hl
  have C : CallFix p m c cX6_readTape 2 s [.ref a0, .int 0].toArray wsX6_readTape RX6 := C
  obtain ⟨hx, hb, hml, hown, hts⟩ := id C
  have hl : lv_has ls 2 [(0, .ref a0), (1, .int 0)] := hl
  refine lv_aload_n hx hb dX6_readTape_0 rfl (lv_at hl 0 rfl) ?_
  refine lv_aload_n hx hb dX6_readTape_1 rfl (lv_at hl 0 rfl) ?_
  refine ka_get C lq_180 rfl hK hP 0 rfl 1 (by decide) lq_181 rfl dX6_readTape_2 ?_
  refine lv_iload_n hx hb dX6_readTape_5 rfl (lv_at hl 1 rfl) ?_
  refine ka_EV (n := 1) (wr := [(a0, .inr (6, [.ref a1, .ref a2, .ref a3, .ref a4, .int (-1), .int (-1), .int 0, .int 3, .int 3])), (a1, .inr (5, [.ref a5, .int 0]))]) C (ct_X3_readText_44 l D a2 a1 a6) gX6_readTape_X3_readText rfl (by decide +kernel) ⟨Nat.le_of_ble_eq_true rfl, Nat.le_of_ble_eq_true rfl⟩ hK hP hD hS hA hE hN [2] rfl (by decide) [0, 1] rfl (by decide) (by decide) [] rfl (ci := 3) rfl rfl 2 rfl rfl hl.1 (rest := [.ref a0]) rfl (Nat.le_of_ble_eq_true rfl) dX6_readTape_6 ⟨Nat.le_of_ble_eq_true rfl, Nat.le_of_ble_eq_true rfl⟩ (fun u H locs _ hP hD hK hS => ?_)
  have hP : va_P D vwCl [(a0, .inr (6, [.ref a1, .ref a2, .ref a3, .ref a4, .int (-1), .int (-1), .int 0, .int 3, .int 3])), (a1, .inr (5, [.ref a5, .int 0])), (a2, .inr (3, [.ref a1, .ref a6, .int 0, .int 0, .int 0, .int 0, .int 3, .int 0]))] H := hP
  have hD : va_D A [(a0, .inr (6, [.ref a1, .ref a2, .ref a3, .ref a4, .int (-1), .int (-1), .int 0, .int 3, .int 3])), (a1, .inr (5, [.ref a5, .int 0])), (a2, .inr (3, [.ref a1, .ref a6, .int 0, .int 0, .int 0, .int 0, .int 3, .int 0]))] := hD
  have hK : va_K D vwCl [] s := hK
  refine ka_stk (w := [.int 0, .ref a0]) rfl ?_
  refine ka_put C lq_180 tyX6 tyX6_ok nmX6 rfl hK hP hD hS 0 rfl 5 (by decide) lq_182 rfl rfl rfl (Nat.le_of_ble_eq_true rfl) dX6_readTape_9 (fun H locs hP hD hS => ?_)
  have hP : va_P D vwCl [(a0, .inr (6, [.ref a1, .ref a2, .ref a3, .ref a4, .int (-1), .int 0, .int 0, .int 3, .int 3])), (a1, .inr (5, [.ref a5, .int 0])), (a2, .inr (3, [.ref a1, .ref a6, .int 0, .int 0, .int 0, .int 0, .int 3, .int 0]))] H := hP
  have hD : va_D A [(a0, .inr (6, [.ref a1, .ref a2, .ref a3, .ref a4, .int (-1), .int 0, .int 0, .int 3, .int 3])), (a1, .inr (5, [.ref a5, .int 0])), (a2, .inr (3, [.ref a1, .ref a6, .int 0, .int 0, .int 0, .int 0, .int 3, .int 0]))] := hD
  refine lv_aload_n hx hb dX6_readTape_12 rfl (lv_at hl 0 rfl) ?_
  refine ka_get C lq_180 rfl hK hP 0 rfl 0 (by decide) lq_183 rfl dX6_readTape_13 ?_
  refine ka_EV (n := 0) (wr := [(a0, .inr (6, [.ref a1, .ref a2, .ref a3, .ref a4, .int (-1), .int 0, .int 0, .int 3, .int 3])), (a2, .inr (3, [.ref a1, .ref a6, .int 0, .int 0, .int 0, .int 0, .int 3, .int 0]))]) C (ct_X5_clear_45 l D a1 a5) gX6_readTape_X5_clear rfl (by decide +kernel) ⟨Nat.le_of_ble_eq_true rfl, Nat.le_of_ble_eq_true rfl⟩ hK hP hD hS hA hE hN [1] rfl (by decide) [0, 2] rfl (by decide) (by decide) [] rfl (ci := 5) rfl rfl 1 rfl rfl hl.1 (rest := []) rfl (Nat.le_of_ble_eq_true rfl) dX6_readTape_16 ⟨Nat.le_of_ble_eq_true rfl, Nat.le_of_ble_eq_true rfl⟩ (fun u H locs _ hP hD hK hS => ?_)
  have hP : va_P D vwCl [(a0, .inr (6, [.ref a1, .ref a2, .ref a3, .ref a4, .int (-1), .int 0, .int 0, .int 3, .int 3])), (a2, .inr (3, [.ref a1, .ref a6, .int 0, .int 0, .int 0, .int 0, .int 3, .int 0])), (a1, .inr (5, [.ref a5, .int 0]))] H := hP
  have hD : va_D A [(a0, .inr (6, [.ref a1, .ref a2, .ref a3, .ref a4, .int (-1), .int 0, .int 0, .int 3, .int 3])), (a2, .inr (3, [.ref a1, .ref a6, .int 0, .int 0, .int 0, .int 0, .int 3, .int 0])), (a1, .inr (5, [.ref a5, .int 0]))] := hD
  have hK : va_K D vwCl [] s := hK
  refine ka_stk (w := []) rfl ?_
  refine lv_aload_n hx hb dX6_readTape_19 rfl (lv_at hl 0 rfl) ?_
  refine ka_get C lq_180 rfl hK hP 0 rfl 5 (by decide) lq_182 rfl dX6_readTape_20 ?_
  refine lv_iconst (v := (-1)) hx hb dX6_readTape_23 (by decide) ?_
  refine lv_icmp_ne (tgt := 31) hx hb dX6_readTape_24 (by decide) (fun _ => ?_) (fun c_ => absurd c_ (by decide))
  refine lv_iconst (v := 0) hx hb dX6_readTape_31 (by decide) ?_
  exact ka_rEz C hr hlk rfl (Nat.le_of_ble_eq_true rfl) (Nat.le_of_ble_eq_true rfl) hS (ka_qE () rfl trivial hK hP hD hS [0, 1, 2] (by decide) rfl [] rfl) dX6_readTape_32
set_option maxHeartbeats 4000000 in
set_option maxRecDepth 100000 in
theorem ct_X5_offers_47 (l : Launch) (D : va_G) (a0 : Nat) (x0 : Int32) (a1 : Nat) (hx0 : 1 ≤ x0.toInt) : ka_R l D yX5_offers wsX5_offers 0 0 [.ref a0, .int x0] [(a0, .inr (5, [.ref a1, .int 0]))] [] (fun v => v = some (.int 0)) := by
  refine ka_R_of (cc := cX5_offers) (maxL := 2) (ret := (some .boolean)) (by decide) rfl (Nat.le_of_ble_eq_true rfl) ?_
  intro p e s m below meth c ls C hr hlk hP hK hE hN hl
  have hS : va_S (fun _ => False) s.heap s.heap [] := va_S.rf
  have C : CallFix p m c cX5_offers 2 s [.ref a0, .int x0].toArray wsX5_offers RX5 := C
  obtain ⟨hx, hb, hml, hown, hts⟩ := id C
  have hl : lv_has ls 2 [(0, .ref a0), (1, .int x0)] := hl
  have rx0 := ka_rng x0
  refine lv_iload_n hx hb dX5_offers_0 rfl (lv_at hl 1 rfl) ?_
  refine lv_if_lt (tgt := 22) hx hb dX5_offers_1 (by decide) (fun c_ => absurd c_ (by rw [ka_lt', show ((0 : Int32)).toInt = 0 from by decide]; omega)) (fun _ => ?_)
  refine lv_iload_n hx hb dX5_offers_4 rfl (lv_at hl 1 rfl) ?_
  refine lv_bipush (v := 60) hx hb dX5_offers_5 (by decide) ?_
  refine lv_icmp_gt (tgt := 22) hx hb dX5_offers_7 (by decide) (fun c_1161 => ?_) (fun c_1161 => ?_)
  · have c_1161 : 60 < x0.toInt := by rw [ka_lt', show ((60 : Int32)).toInt = 60 from by decide] at c_1161; exact c_1161
    refine lv_iconst (v := 0) hx hb dX5_offers_22 (by decide) ?_
    exact ka_rRz C hr hlk rfl rfl dX5_offers_23
  · have c_1161 : ¬ 60 < x0.toInt := by rw [ka_lt', show ((60 : Int32)).toInt = 60 from by decide] at c_1161; exact c_1161
    refine lv_iload_n hx hb dX5_offers_10 rfl (lv_at hl 1 rfl) ?_
    refine lv_aload_n hx hb dX5_offers_11 rfl (lv_at hl 0 rfl) ?_
    refine ka_get C lq_156 rfl hK hP 0 rfl 1 (by decide) lq_157 rfl dX5_offers_12 ?_
    refine lv_icmp_gt (tgt := 22) hx hb dX5_offers_15 (by decide) (fun _ => ?_) (fun c_ => absurd (by rw [ka_lt', show ((0 : Int32)).toInt = 0 from by decide]; omega) c_)
    refine lv_iconst (v := 0) hx hb dX5_offers_22 (by decide) ?_
    exact ka_rRz C hr hlk rfl rfl dX5_offers_23
set_option maxHeartbeats 4000000 in
set_option maxRecDepth 100000 in
theorem ct_X0_isLesson_48 (l : Launch) (D : va_G) : ka_R l D yX0_isLesson wsX0_isLesson 0 0 [.int 1] [] [] (fun v => v = some (.int 1)) := by
  refine ka_R_of (cc := cX0_isLesson) (maxL := 1) (ret := (some .boolean)) (by decide) rfl (Nat.le_of_ble_eq_true rfl) ?_
  intro p e s m below meth c ls C hr hlk hP hK hE hN hl
  have hS : va_S (fun _ => False) s.heap s.heap [] := va_S.rf
  have C : CallFix p m c cX0_isLesson 1 s [.int 1].toArray wsX0_isLesson RX0 := C
  obtain ⟨hx, hb, hml, hown, hts⟩ := id C
  have hl : lv_has ls 1 [(0, .int 1)] := hl
  refine lv_iload_n hx hb dX0_isLesson_0 rfl (lv_at hl 0 rfl) ?_
  refine lv_if_lt (tgt := 14) hx hb dX0_isLesson_1 (by decide) (fun c_ => absurd c_ (by decide)) (fun _ => ?_)
  refine lv_iload_n hx hb dX0_isLesson_4 rfl (lv_at hl 0 rfl) ?_
  refine lv_bipush (v := 6) hx hb dX0_isLesson_5 (by decide) ?_
  refine lv_icmp_ge (tgt := 14) hx hb dX0_isLesson_7 (by decide) (fun c_ => absurd c_ (by decide)) (fun _ => ?_)
  refine lv_iconst (v := 1) hx hb dX0_isLesson_10 (by decide) ?_
  refine lv_goto (tgt := 15) hx hb dX0_isLesson_11 (by decide) ?_
  exact ka_rRz C hr hlk rfl rfl dX0_isLesson_15
set_option maxHeartbeats 4000000 in
set_option maxRecDepth 100000 in
theorem ct_X0_isDone_49 (l : Launch) (D : va_G) (a0 : Nat) (a1 : Nat) (a2 : Nat) : ka_R l D yX0_isDone wsX0_isDone 1 21 [.ref a0, .int 1] [(a0, .inr (0, [.ref a1, .ref a2, .int 0]))] [] (fun v => v = some (.int 0)) := by
  refine ka_R_of (cc := cX0_isDone) (maxL := 2) (ret := (some .boolean)) (by decide) rfl (Nat.le_of_ble_eq_true rfl) ?_
  intro p e s m below meth c ls C hr hlk hP hK hE hN hl
  have hS : va_S (fun _ => False) s.heap s.heap [] := va_S.rf
  have C : CallFix p m c cX0_isDone 2 s [.ref a0, .int 1].toArray wsX0_isDone RX0 := C
  obtain ⟨hx, hb, hml, hown, hts⟩ := id C
  have hl : lv_has ls 2 [(0, .ref a0), (1, .int 1)] := hl
  refine lv_iload_n hx hb dX0_isDone_0 rfl (lv_at hl 1 rfl) ?_
  refine ka_RS (n := 1) C (ct_X0_isLesson_48 l D ) gX0_isDone_X0_isLesson rfl (by decide +kernel) ⟨Nat.le_of_ble_eq_true rfl, Nat.le_of_ble_eq_true rfl⟩ hK hP hS hE hN [] rfl [] rfl rfl hl.1 (rest := []) rfl (Nat.le_of_ble_eq_true rfl) dX0_isDone_1 ⟨Nat.le_of_ble_eq_true rfl, Nat.le_of_ble_eq_true rfl⟩ (fun v hv => ?_)
  subst hv
  refine ka_stk (w := [.int 1]) rfl ?_
  refine lv_if_eq (tgt := 23) hx hb dX0_isDone_4 (by decide) (fun c_ => absurd c_ (by decide)) (fun _ => ?_)
  refine lv_aload_n hx hb dX0_isDone_7 rfl (lv_at hl 0 rfl) ?_
  refine ka_get C lq_150 rfl hK hP 0 rfl 2 (by decide) lq_151 rfl dX0_isDone_8 ?_
  refine lv_iload_n hx hb dX0_isDone_11 rfl (lv_at hl 1 rfl) ?_
  refine ka_RN (n := 2) C (ka_c_bitAt l D 0 1) gX0_isDone_X6_bitAt_n30 rfl hN.2.2.2.1 lq_152 lq_153 (by decide +kernel) ⟨Nat.le_of_ble_eq_true rfl, Nat.le_of_ble_eq_true rfl⟩ hK hP hS hE hN [] rfl [] rfl rfl hl.1 (rest := []) rfl (Nat.le_of_ble_eq_true rfl) dX0_isDone_12 ⟨Nat.le_of_ble_eq_true rfl, Nat.le_of_ble_eq_true rfl⟩ (fun v hv => ?_)
  subst hv
  refine ka_stk (w := [.int 0]) (congrArg (fun z => Value.int z :: []) (show ka_bit 0 1 = 0 from by decide)) ?_
  refine lv_iconst (v := 1) hx hb dX0_isDone_15 (by decide) ?_
  refine lv_icmp_ne (tgt := 23) hx hb dX0_isDone_16 (by decide) (fun _ => ?_) (fun c_ => absurd c_ (by decide))
  refine lv_iconst (v := 0) hx hb dX0_isDone_23 (by decide) ?_
  exact ka_rRz C hr hlk rfl rfl dX0_isDone_24
set_option maxHeartbeats 4000000 in
set_option maxRecDepth 100000 in
theorem ct_X0_lessonAt_50 (l : Launch) (D : va_G) (a0 : Nat) (a1 : Nat) (a2 : Nat) (k0 : ClassId) (a3 : Nat) (a4 : Nat) (a5 : Nat) (a6 : Nat) (a7 : Nat) (a8 : Nat) : ka_R l D yX0_lessonAt wsX0_lessonAt 1 20 [.ref a0, .int 1] [(a0, .inr (0, [.ref a1, .ref a2, .int 0])), (a1, .inl (k0, 6, .inr (.inr (.inr (.inr (va_up (va_up (va_up (va_up (va_up (va_up (fun _ => none) 0 (some a3)) 1 (some a4)) 2 (some a5)) 3 (some a6)) 4 (some a7)) 5 (some a8)))))))] [(k0, .object RX2)] (fun v => v = some (.ref a4)) := by
  refine ka_R_of (cc := cX0_lessonAt) (maxL := 2) (ret := (some (.object "AskedBack$Lesson"))) (by decide) rfl (Nat.le_of_ble_eq_true rfl) ?_
  intro p e s m below meth c ls C hr hlk hP hK hE hN hl
  have hS : va_S (fun _ => False) s.heap s.heap [] := va_S.rf
  have C : CallFix p m c cX0_lessonAt 2 s [.ref a0, .int 1].toArray wsX0_lessonAt RX0 := C
  obtain ⟨hx, hb, hml, hown, hts⟩ := id C
  have hl : lv_has ls 2 [(0, .ref a0), (1, .int 1)] := hl
  refine lv_iload_n hx hb dX0_lessonAt_0 rfl (lv_at hl 1 rfl) ?_
  refine ka_RS (n := 1) C (ct_X0_isLesson_48 l D ) gX0_lessonAt_X0_isLesson rfl (by decide +kernel) ⟨Nat.le_of_ble_eq_true rfl, Nat.le_of_ble_eq_true rfl⟩ hK hP hS hE hN [] rfl [] rfl rfl hl.1 (rest := []) rfl (Nat.le_of_ble_eq_true rfl) dX0_lessonAt_1 ⟨Nat.le_of_ble_eq_true rfl, Nat.le_of_ble_eq_true rfl⟩ (fun v hv => ?_)
  subst hv
  refine ka_stk (w := [.int 1]) rfl ?_
  refine lv_if_eq (tgt := 16) hx hb dX0_lessonAt_4 (by decide) (fun c_ => absurd c_ (by decide)) (fun _ => ?_)
  refine lv_aload_n hx hb dX0_lessonAt_7 rfl (lv_at hl 0 rfl) ?_
  refine ka_get C lq_154 rfl hK hP 0 rfl 0 (by decide) lq_155 rfl dX0_lessonAt_8 ?_
  refine lv_iload_n hx hb dX0_lessonAt_11 rfl (lv_at hl 1 rfl) ?_
  refine va_aldq hx hb hK hP 1 0 rfl rfl (ka_in (by decide) (by decide)) dX0_lessonAt_12 ?_
  refine ka_top (w := .ref a4) rfl ?_
  refine lv_goto (tgt := 17) hx hb dX0_lessonAt_13 (by decide) ?_
  exact ka_rRa C hr hlk (Or.inl ⟨_, rfl⟩) (Or.inr ⟨_, rfl⟩) rfl dX0_lessonAt_17
set_option maxHeartbeats 4000000 in
set_option maxRecDepth 100000 in
theorem ct_X6_changeable_51 (l : Launch) (D : va_G) (a0 : Nat) (a1 : Nat) (a2 : Nat) (a3 : Nat) (a4 : Nat) (a5 : Nat) (a6 : Nat) (k0 : ClassId) (a7 : Nat) (a8 : Nat) (a9 : Nat) (a10 : Nat) (a11 : Nat) (a12 : Nat) : ka_R l D yX6_changeable wsX6_changeable 2 42 [.ref a0, .int 1] [(a0, .inr (6, [.ref a1, .ref a2, .ref a3, .ref a4, .int (-1), .int (-1), .int 0, .int 3, .int 3])), (a3, .inr (0, [.ref a5, .ref a6, .int 0])), (a5, .inl (k0, 6, .inr (.inr (.inr (.inr (va_up (va_up (va_up (va_up (va_up (va_up (fun _ => none) 0 (some a7)) 1 (some a8)) 2 (some a9)) 3 (some a10)) 4 (some a11)) 5 (some a12)))))))] [(k0, .object RX2)] (fun v => v = some (.ref a8)) := by
  refine ka_R_of (cc := cX6_changeable) (maxL := 2) (ret := (some (.object "AskedBack$Lesson"))) (by decide) rfl (Nat.le_of_ble_eq_true rfl) ?_
  intro p e s m below meth c ls C hr hlk hP hK hE hN hl
  have hS : va_S (fun _ => False) s.heap s.heap [] := va_S.rf
  have C : CallFix p m c cX6_changeable 2 s [.ref a0, .int 1].toArray wsX6_changeable RX6 := C
  obtain ⟨hx, hb, hml, hown, hts⟩ := id C
  have hl : lv_has ls 2 [(0, .ref a0), (1, .int 1)] := hl
  refine lv_iload_n hx hb dX6_changeable_0 rfl (lv_at hl 1 rfl) ?_
  refine lv_aload_n hx hb dX6_changeable_1 rfl (lv_at hl 0 rfl) ?_
  refine ka_get C lq_147 rfl hK hP 0 rfl 4 (by decide) lq_148 rfl dX6_changeable_2 ?_
  refine lv_icmp_eq (tgt := 19) hx hb dX6_changeable_5 (by decide) (fun c_ => absurd c_ (by decide)) (fun _ => ?_)
  refine lv_aload_n hx hb dX6_changeable_8 rfl (lv_at hl 0 rfl) ?_
  refine ka_get C lq_147 rfl hK hP 0 rfl 2 (by decide) lq_149 rfl dX6_changeable_9 ?_
  refine lv_iload_n hx hb dX6_changeable_12 rfl (lv_at hl 1 rfl) ?_
  refine ka_RV (n := 1) C (ct_X0_isDone_49 l D a3 a5 a6) gX6_changeable_X0_isDone rfl (by decide +kernel) ⟨Nat.le_of_ble_eq_true rfl, Nat.le_of_ble_eq_true rfl⟩ hK hP hS hE hN [1] rfl [] rfl (ci := 0) rfl rfl 1 rfl rfl hl.1 (rest := []) rfl (Nat.le_of_ble_eq_true rfl) dX6_changeable_13 ⟨Nat.le_of_ble_eq_true rfl, Nat.le_of_ble_eq_true rfl⟩ (fun v hv => ?_)
  subst hv
  refine ka_stk (w := [.int 0]) rfl ?_
  refine lv_if_eq (tgt := 23) hx hb dX6_changeable_16 (by decide) (fun _ => ?_) (fun c_ => absurd (by decide) c_)
  refine lv_aload_n hx hb dX6_changeable_23 rfl (lv_at hl 0 rfl) ?_
  refine ka_get C lq_147 rfl hK hP 0 rfl 2 (by decide) lq_149 rfl dX6_changeable_24 ?_
  refine lv_iload_n hx hb dX6_changeable_27 rfl (lv_at hl 1 rfl) ?_
  refine ka_RV (n := 1) C (ct_X0_lessonAt_50 l D a3 a5 a6 k0 a7 a8 a9 a10 a11 a12) gX6_changeable_X0_lessonAt rfl (by decide +kernel) ⟨Nat.le_of_ble_eq_true rfl, Nat.le_of_ble_eq_true rfl⟩ hK hP hS hE hN [1, 2] rfl [0] rfl (ci := 0) rfl rfl 1 rfl rfl hl.1 (rest := []) rfl (Nat.le_of_ble_eq_true rfl) dX6_changeable_28 ⟨Nat.le_of_ble_eq_true rfl, Nat.le_of_ble_eq_true rfl⟩ (fun v hv => ?_)
  subst hv
  refine ka_stk (w := [.ref a8]) rfl ?_
  exact ka_rRa C hr hlk (Or.inl ⟨_, rfl⟩) (Or.inr ⟨_, rfl⟩) rfl dX6_changeable_31
set_option maxHeartbeats 4000000 in
set_option maxRecDepth 100000 in
theorem ct_X0_isLesson_52 (l : Launch) (D : va_G) : ka_R l D yX0_isLesson wsX0_isLesson 0 0 [.int 2] [] [] (fun v => v = some (.int 1)) := by
  refine ka_R_of (cc := cX0_isLesson) (maxL := 1) (ret := (some .boolean)) (by decide) rfl (Nat.le_of_ble_eq_true rfl) ?_
  intro p e s m below meth c ls C hr hlk hP hK hE hN hl
  have hS : va_S (fun _ => False) s.heap s.heap [] := va_S.rf
  have C : CallFix p m c cX0_isLesson 1 s [.int 2].toArray wsX0_isLesson RX0 := C
  obtain ⟨hx, hb, hml, hown, hts⟩ := id C
  have hl : lv_has ls 1 [(0, .int 2)] := hl
  refine lv_iload_n hx hb dX0_isLesson_0 rfl (lv_at hl 0 rfl) ?_
  refine lv_if_lt (tgt := 14) hx hb dX0_isLesson_1 (by decide) (fun c_ => absurd c_ (by decide)) (fun _ => ?_)
  refine lv_iload_n hx hb dX0_isLesson_4 rfl (lv_at hl 0 rfl) ?_
  refine lv_bipush (v := 6) hx hb dX0_isLesson_5 (by decide) ?_
  refine lv_icmp_ge (tgt := 14) hx hb dX0_isLesson_7 (by decide) (fun c_ => absurd c_ (by decide)) (fun _ => ?_)
  refine lv_iconst (v := 1) hx hb dX0_isLesson_10 (by decide) ?_
  refine lv_goto (tgt := 15) hx hb dX0_isLesson_11 (by decide) ?_
  exact ka_rRz C hr hlk rfl rfl dX0_isLesson_15
set_option maxHeartbeats 4000000 in
set_option maxRecDepth 100000 in
theorem ct_X0_isDone_53 (l : Launch) (D : va_G) (a0 : Nat) (a1 : Nat) (a2 : Nat) : ka_R l D yX0_isDone wsX0_isDone 1 21 [.ref a0, .int 2] [(a0, .inr (0, [.ref a1, .ref a2, .int 0]))] [] (fun v => v = some (.int 0)) := by
  refine ka_R_of (cc := cX0_isDone) (maxL := 2) (ret := (some .boolean)) (by decide) rfl (Nat.le_of_ble_eq_true rfl) ?_
  intro p e s m below meth c ls C hr hlk hP hK hE hN hl
  have hS : va_S (fun _ => False) s.heap s.heap [] := va_S.rf
  have C : CallFix p m c cX0_isDone 2 s [.ref a0, .int 2].toArray wsX0_isDone RX0 := C
  obtain ⟨hx, hb, hml, hown, hts⟩ := id C
  have hl : lv_has ls 2 [(0, .ref a0), (1, .int 2)] := hl
  refine lv_iload_n hx hb dX0_isDone_0 rfl (lv_at hl 1 rfl) ?_
  refine ka_RS (n := 1) C (ct_X0_isLesson_52 l D ) gX0_isDone_X0_isLesson rfl (by decide +kernel) ⟨Nat.le_of_ble_eq_true rfl, Nat.le_of_ble_eq_true rfl⟩ hK hP hS hE hN [] rfl [] rfl rfl hl.1 (rest := []) rfl (Nat.le_of_ble_eq_true rfl) dX0_isDone_1 ⟨Nat.le_of_ble_eq_true rfl, Nat.le_of_ble_eq_true rfl⟩ (fun v hv => ?_)
  subst hv
  refine ka_stk (w := [.int 1]) rfl ?_
  refine lv_if_eq (tgt := 23) hx hb dX0_isDone_4 (by decide) (fun c_ => absurd c_ (by decide)) (fun _ => ?_)
  refine lv_aload_n hx hb dX0_isDone_7 rfl (lv_at hl 0 rfl) ?_
  refine ka_get C lq_150 rfl hK hP 0 rfl 2 (by decide) lq_151 rfl dX0_isDone_8 ?_
  refine lv_iload_n hx hb dX0_isDone_11 rfl (lv_at hl 1 rfl) ?_
  refine ka_RN (n := 2) C (ka_c_bitAt l D 0 2) gX0_isDone_X6_bitAt_n30 rfl hN.2.2.2.1 lq_152 lq_153 (by decide +kernel) ⟨Nat.le_of_ble_eq_true rfl, Nat.le_of_ble_eq_true rfl⟩ hK hP hS hE hN [] rfl [] rfl rfl hl.1 (rest := []) rfl (Nat.le_of_ble_eq_true rfl) dX0_isDone_12 ⟨Nat.le_of_ble_eq_true rfl, Nat.le_of_ble_eq_true rfl⟩ (fun v hv => ?_)
  subst hv
  refine ka_stk (w := [.int 0]) (congrArg (fun z => Value.int z :: []) (show ka_bit 0 2 = 0 from by decide)) ?_
  refine lv_iconst (v := 1) hx hb dX0_isDone_15 (by decide) ?_
  refine lv_icmp_ne (tgt := 23) hx hb dX0_isDone_16 (by decide) (fun _ => ?_) (fun c_ => absurd c_ (by decide))
  refine lv_iconst (v := 0) hx hb dX0_isDone_23 (by decide) ?_
  exact ka_rRz C hr hlk rfl rfl dX0_isDone_24
set_option maxHeartbeats 4000000 in
set_option maxRecDepth 100000 in
theorem ct_X0_lessonAt_54 (l : Launch) (D : va_G) (a0 : Nat) (a1 : Nat) (a2 : Nat) (k0 : ClassId) (a3 : Nat) (a4 : Nat) (a5 : Nat) (a6 : Nat) (a7 : Nat) (a8 : Nat) : ka_R l D yX0_lessonAt wsX0_lessonAt 1 20 [.ref a0, .int 2] [(a0, .inr (0, [.ref a1, .ref a2, .int 0])), (a1, .inl (k0, 6, .inr (.inr (.inr (.inr (va_up (va_up (va_up (va_up (va_up (va_up (fun _ => none) 0 (some a3)) 1 (some a4)) 2 (some a5)) 3 (some a6)) 4 (some a7)) 5 (some a8)))))))] [(k0, .object RX2)] (fun v => v = some (.ref a5)) := by
  refine ka_R_of (cc := cX0_lessonAt) (maxL := 2) (ret := (some (.object "AskedBack$Lesson"))) (by decide) rfl (Nat.le_of_ble_eq_true rfl) ?_
  intro p e s m below meth c ls C hr hlk hP hK hE hN hl
  have hS : va_S (fun _ => False) s.heap s.heap [] := va_S.rf
  have C : CallFix p m c cX0_lessonAt 2 s [.ref a0, .int 2].toArray wsX0_lessonAt RX0 := C
  obtain ⟨hx, hb, hml, hown, hts⟩ := id C
  have hl : lv_has ls 2 [(0, .ref a0), (1, .int 2)] := hl
  refine lv_iload_n hx hb dX0_lessonAt_0 rfl (lv_at hl 1 rfl) ?_
  refine ka_RS (n := 1) C (ct_X0_isLesson_52 l D ) gX0_lessonAt_X0_isLesson rfl (by decide +kernel) ⟨Nat.le_of_ble_eq_true rfl, Nat.le_of_ble_eq_true rfl⟩ hK hP hS hE hN [] rfl [] rfl rfl hl.1 (rest := []) rfl (Nat.le_of_ble_eq_true rfl) dX0_lessonAt_1 ⟨Nat.le_of_ble_eq_true rfl, Nat.le_of_ble_eq_true rfl⟩ (fun v hv => ?_)
  subst hv
  refine ka_stk (w := [.int 1]) rfl ?_
  refine lv_if_eq (tgt := 16) hx hb dX0_lessonAt_4 (by decide) (fun c_ => absurd c_ (by decide)) (fun _ => ?_)
  refine lv_aload_n hx hb dX0_lessonAt_7 rfl (lv_at hl 0 rfl) ?_
  refine ka_get C lq_154 rfl hK hP 0 rfl 0 (by decide) lq_155 rfl dX0_lessonAt_8 ?_
  refine lv_iload_n hx hb dX0_lessonAt_11 rfl (lv_at hl 1 rfl) ?_
  refine va_aldq hx hb hK hP 1 0 rfl rfl (ka_in (by decide) (by decide)) dX0_lessonAt_12 ?_
  refine ka_top (w := .ref a5) rfl ?_
  refine lv_goto (tgt := 17) hx hb dX0_lessonAt_13 (by decide) ?_
  exact ka_rRa C hr hlk (Or.inl ⟨_, rfl⟩) (Or.inr ⟨_, rfl⟩) rfl dX0_lessonAt_17
set_option maxHeartbeats 4000000 in
set_option maxRecDepth 100000 in
theorem ct_X6_changeable_55 (l : Launch) (D : va_G) (a0 : Nat) (a1 : Nat) (a2 : Nat) (a3 : Nat) (a4 : Nat) (a5 : Nat) (a6 : Nat) (k0 : ClassId) (a7 : Nat) (a8 : Nat) (a9 : Nat) (a10 : Nat) (a11 : Nat) (a12 : Nat) : ka_R l D yX6_changeable wsX6_changeable 2 42 [.ref a0, .int 2] [(a0, .inr (6, [.ref a1, .ref a2, .ref a3, .ref a4, .int (-1), .int (-1), .int 0, .int 3, .int 3])), (a3, .inr (0, [.ref a5, .ref a6, .int 0])), (a5, .inl (k0, 6, .inr (.inr (.inr (.inr (va_up (va_up (va_up (va_up (va_up (va_up (fun _ => none) 0 (some a7)) 1 (some a8)) 2 (some a9)) 3 (some a10)) 4 (some a11)) 5 (some a12)))))))] [(k0, .object RX2)] (fun v => v = some (.ref a9)) := by
  refine ka_R_of (cc := cX6_changeable) (maxL := 2) (ret := (some (.object "AskedBack$Lesson"))) (by decide) rfl (Nat.le_of_ble_eq_true rfl) ?_
  intro p e s m below meth c ls C hr hlk hP hK hE hN hl
  have hS : va_S (fun _ => False) s.heap s.heap [] := va_S.rf
  have C : CallFix p m c cX6_changeable 2 s [.ref a0, .int 2].toArray wsX6_changeable RX6 := C
  obtain ⟨hx, hb, hml, hown, hts⟩ := id C
  have hl : lv_has ls 2 [(0, .ref a0), (1, .int 2)] := hl
  refine lv_iload_n hx hb dX6_changeable_0 rfl (lv_at hl 1 rfl) ?_
  refine lv_aload_n hx hb dX6_changeable_1 rfl (lv_at hl 0 rfl) ?_
  refine ka_get C lq_147 rfl hK hP 0 rfl 4 (by decide) lq_148 rfl dX6_changeable_2 ?_
  refine lv_icmp_eq (tgt := 19) hx hb dX6_changeable_5 (by decide) (fun c_ => absurd c_ (by decide)) (fun _ => ?_)
  refine lv_aload_n hx hb dX6_changeable_8 rfl (lv_at hl 0 rfl) ?_
  refine ka_get C lq_147 rfl hK hP 0 rfl 2 (by decide) lq_149 rfl dX6_changeable_9 ?_
  refine lv_iload_n hx hb dX6_changeable_12 rfl (lv_at hl 1 rfl) ?_
  refine ka_RV (n := 1) C (ct_X0_isDone_53 l D a3 a5 a6) gX6_changeable_X0_isDone rfl (by decide +kernel) ⟨Nat.le_of_ble_eq_true rfl, Nat.le_of_ble_eq_true rfl⟩ hK hP hS hE hN [1] rfl [] rfl (ci := 0) rfl rfl 1 rfl rfl hl.1 (rest := []) rfl (Nat.le_of_ble_eq_true rfl) dX6_changeable_13 ⟨Nat.le_of_ble_eq_true rfl, Nat.le_of_ble_eq_true rfl⟩ (fun v hv => ?_)
  subst hv
  refine ka_stk (w := [.int 0]) rfl ?_
  refine lv_if_eq (tgt := 23) hx hb dX6_changeable_16 (by decide) (fun _ => ?_) (fun c_ => absurd (by decide) c_)
  refine lv_aload_n hx hb dX6_changeable_23 rfl (lv_at hl 0 rfl) ?_
  refine ka_get C lq_147 rfl hK hP 0 rfl 2 (by decide) lq_149 rfl dX6_changeable_24 ?_
  refine lv_iload_n hx hb dX6_changeable_27 rfl (lv_at hl 1 rfl) ?_
  refine ka_RV (n := 1) C (ct_X0_lessonAt_54 l D a3 a5 a6 k0 a7 a8 a9 a10 a11 a12) gX6_changeable_X0_lessonAt rfl (by decide +kernel) ⟨Nat.le_of_ble_eq_true rfl, Nat.le_of_ble_eq_true rfl⟩ hK hP hS hE hN [1, 2] rfl [0] rfl (ci := 0) rfl rfl 1 rfl rfl hl.1 (rest := []) rfl (Nat.le_of_ble_eq_true rfl) dX6_changeable_28 ⟨Nat.le_of_ble_eq_true rfl, Nat.le_of_ble_eq_true rfl⟩ (fun v hv => ?_)
  subst hv
  refine ka_stk (w := [.ref a9]) rfl ?_
  exact ka_rRa C hr hlk (Or.inl ⟨_, rfl⟩) (Or.inr ⟨_, rfl⟩) rfl dX6_changeable_31
set_option maxHeartbeats 4000000 in
set_option maxRecDepth 100000 in
theorem ct_X0_isLesson_56 (l : Launch) (D : va_G) : ka_R l D yX0_isLesson wsX0_isLesson 0 0 [.int 3] [] [] (fun v => v = some (.int 1)) := by
  refine ka_R_of (cc := cX0_isLesson) (maxL := 1) (ret := (some .boolean)) (by decide) rfl (Nat.le_of_ble_eq_true rfl) ?_
  intro p e s m below meth c ls C hr hlk hP hK hE hN hl
  have hS : va_S (fun _ => False) s.heap s.heap [] := va_S.rf
  have C : CallFix p m c cX0_isLesson 1 s [.int 3].toArray wsX0_isLesson RX0 := C
  obtain ⟨hx, hb, hml, hown, hts⟩ := id C
  have hl : lv_has ls 1 [(0, .int 3)] := hl
  refine lv_iload_n hx hb dX0_isLesson_0 rfl (lv_at hl 0 rfl) ?_
  refine lv_if_lt (tgt := 14) hx hb dX0_isLesson_1 (by decide) (fun c_ => absurd c_ (by decide)) (fun _ => ?_)
  refine lv_iload_n hx hb dX0_isLesson_4 rfl (lv_at hl 0 rfl) ?_
  refine lv_bipush (v := 6) hx hb dX0_isLesson_5 (by decide) ?_
  refine lv_icmp_ge (tgt := 14) hx hb dX0_isLesson_7 (by decide) (fun c_ => absurd c_ (by decide)) (fun _ => ?_)
  refine lv_iconst (v := 1) hx hb dX0_isLesson_10 (by decide) ?_
  refine lv_goto (tgt := 15) hx hb dX0_isLesson_11 (by decide) ?_
  exact ka_rRz C hr hlk rfl rfl dX0_isLesson_15
set_option maxHeartbeats 4000000 in
set_option maxRecDepth 100000 in
theorem ct_X0_isDone_57 (l : Launch) (D : va_G) (a0 : Nat) (a1 : Nat) (a2 : Nat) : ka_R l D yX0_isDone wsX0_isDone 1 21 [.ref a0, .int 3] [(a0, .inr (0, [.ref a1, .ref a2, .int 0]))] [] (fun v => v = some (.int 0)) := by
  refine ka_R_of (cc := cX0_isDone) (maxL := 2) (ret := (some .boolean)) (by decide) rfl (Nat.le_of_ble_eq_true rfl) ?_
  intro p e s m below meth c ls C hr hlk hP hK hE hN hl
  have hS : va_S (fun _ => False) s.heap s.heap [] := va_S.rf
  have C : CallFix p m c cX0_isDone 2 s [.ref a0, .int 3].toArray wsX0_isDone RX0 := C
  obtain ⟨hx, hb, hml, hown, hts⟩ := id C
  have hl : lv_has ls 2 [(0, .ref a0), (1, .int 3)] := hl
  refine lv_iload_n hx hb dX0_isDone_0 rfl (lv_at hl 1 rfl) ?_
  refine ka_RS (n := 1) C (ct_X0_isLesson_56 l D ) gX0_isDone_X0_isLesson rfl (by decide +kernel) ⟨Nat.le_of_ble_eq_true rfl, Nat.le_of_ble_eq_true rfl⟩ hK hP hS hE hN [] rfl [] rfl rfl hl.1 (rest := []) rfl (Nat.le_of_ble_eq_true rfl) dX0_isDone_1 ⟨Nat.le_of_ble_eq_true rfl, Nat.le_of_ble_eq_true rfl⟩ (fun v hv => ?_)
  subst hv
  refine ka_stk (w := [.int 1]) rfl ?_
  refine lv_if_eq (tgt := 23) hx hb dX0_isDone_4 (by decide) (fun c_ => absurd c_ (by decide)) (fun _ => ?_)
  refine lv_aload_n hx hb dX0_isDone_7 rfl (lv_at hl 0 rfl) ?_
  refine ka_get C lq_150 rfl hK hP 0 rfl 2 (by decide) lq_151 rfl dX0_isDone_8 ?_
  refine lv_iload_n hx hb dX0_isDone_11 rfl (lv_at hl 1 rfl) ?_
  refine ka_RN (n := 2) C (ka_c_bitAt l D 0 3) gX0_isDone_X6_bitAt_n30 rfl hN.2.2.2.1 lq_152 lq_153 (by decide +kernel) ⟨Nat.le_of_ble_eq_true rfl, Nat.le_of_ble_eq_true rfl⟩ hK hP hS hE hN [] rfl [] rfl rfl hl.1 (rest := []) rfl (Nat.le_of_ble_eq_true rfl) dX0_isDone_12 ⟨Nat.le_of_ble_eq_true rfl, Nat.le_of_ble_eq_true rfl⟩ (fun v hv => ?_)
  subst hv
  refine ka_stk (w := [.int 0]) (congrArg (fun z => Value.int z :: []) (show ka_bit 0 3 = 0 from by decide)) ?_
  refine lv_iconst (v := 1) hx hb dX0_isDone_15 (by decide) ?_
  refine lv_icmp_ne (tgt := 23) hx hb dX0_isDone_16 (by decide) (fun _ => ?_) (fun c_ => absurd c_ (by decide))
  refine lv_iconst (v := 0) hx hb dX0_isDone_23 (by decide) ?_
  exact ka_rRz C hr hlk rfl rfl dX0_isDone_24
set_option maxHeartbeats 4000000 in
set_option maxRecDepth 100000 in
theorem ct_X0_lessonAt_58 (l : Launch) (D : va_G) (a0 : Nat) (a1 : Nat) (a2 : Nat) (k0 : ClassId) (a3 : Nat) (a4 : Nat) (a5 : Nat) (a6 : Nat) (a7 : Nat) (a8 : Nat) : ka_R l D yX0_lessonAt wsX0_lessonAt 1 20 [.ref a0, .int 3] [(a0, .inr (0, [.ref a1, .ref a2, .int 0])), (a1, .inl (k0, 6, .inr (.inr (.inr (.inr (va_up (va_up (va_up (va_up (va_up (va_up (fun _ => none) 0 (some a3)) 1 (some a4)) 2 (some a5)) 3 (some a6)) 4 (some a7)) 5 (some a8)))))))] [(k0, .object RX2)] (fun v => v = some (.ref a6)) := by
  refine ka_R_of (cc := cX0_lessonAt) (maxL := 2) (ret := (some (.object "AskedBack$Lesson"))) (by decide) rfl (Nat.le_of_ble_eq_true rfl) ?_
  intro p e s m below meth c ls C hr hlk hP hK hE hN hl
  have hS : va_S (fun _ => False) s.heap s.heap [] := va_S.rf
  have C : CallFix p m c cX0_lessonAt 2 s [.ref a0, .int 3].toArray wsX0_lessonAt RX0 := C
  obtain ⟨hx, hb, hml, hown, hts⟩ := id C
  have hl : lv_has ls 2 [(0, .ref a0), (1, .int 3)] := hl
  refine lv_iload_n hx hb dX0_lessonAt_0 rfl (lv_at hl 1 rfl) ?_
  refine ka_RS (n := 1) C (ct_X0_isLesson_56 l D ) gX0_lessonAt_X0_isLesson rfl (by decide +kernel) ⟨Nat.le_of_ble_eq_true rfl, Nat.le_of_ble_eq_true rfl⟩ hK hP hS hE hN [] rfl [] rfl rfl hl.1 (rest := []) rfl (Nat.le_of_ble_eq_true rfl) dX0_lessonAt_1 ⟨Nat.le_of_ble_eq_true rfl, Nat.le_of_ble_eq_true rfl⟩ (fun v hv => ?_)
  subst hv
  refine ka_stk (w := [.int 1]) rfl ?_
  refine lv_if_eq (tgt := 16) hx hb dX0_lessonAt_4 (by decide) (fun c_ => absurd c_ (by decide)) (fun _ => ?_)
  refine lv_aload_n hx hb dX0_lessonAt_7 rfl (lv_at hl 0 rfl) ?_
  refine ka_get C lq_154 rfl hK hP 0 rfl 0 (by decide) lq_155 rfl dX0_lessonAt_8 ?_
  refine lv_iload_n hx hb dX0_lessonAt_11 rfl (lv_at hl 1 rfl) ?_
  refine va_aldq hx hb hK hP 1 0 rfl rfl (ka_in (by decide) (by decide)) dX0_lessonAt_12 ?_
  refine ka_top (w := .ref a6) rfl ?_
  refine lv_goto (tgt := 17) hx hb dX0_lessonAt_13 (by decide) ?_
  exact ka_rRa C hr hlk (Or.inl ⟨_, rfl⟩) (Or.inr ⟨_, rfl⟩) rfl dX0_lessonAt_17
set_option maxHeartbeats 4000000 in
set_option maxRecDepth 100000 in
theorem ct_X6_changeable_59 (l : Launch) (D : va_G) (a0 : Nat) (a1 : Nat) (a2 : Nat) (a3 : Nat) (a4 : Nat) (a5 : Nat) (a6 : Nat) (k0 : ClassId) (a7 : Nat) (a8 : Nat) (a9 : Nat) (a10 : Nat) (a11 : Nat) (a12 : Nat) : ka_R l D yX6_changeable wsX6_changeable 2 42 [.ref a0, .int 3] [(a0, .inr (6, [.ref a1, .ref a2, .ref a3, .ref a4, .int (-1), .int (-1), .int 0, .int 3, .int 3])), (a3, .inr (0, [.ref a5, .ref a6, .int 0])), (a5, .inl (k0, 6, .inr (.inr (.inr (.inr (va_up (va_up (va_up (va_up (va_up (va_up (fun _ => none) 0 (some a7)) 1 (some a8)) 2 (some a9)) 3 (some a10)) 4 (some a11)) 5 (some a12)))))))] [(k0, .object RX2)] (fun v => v = some (.ref a10)) := by
  refine ka_R_of (cc := cX6_changeable) (maxL := 2) (ret := (some (.object "AskedBack$Lesson"))) (by decide) rfl (Nat.le_of_ble_eq_true rfl) ?_
  intro p e s m below meth c ls C hr hlk hP hK hE hN hl
  have hS : va_S (fun _ => False) s.heap s.heap [] := va_S.rf
  have C : CallFix p m c cX6_changeable 2 s [.ref a0, .int 3].toArray wsX6_changeable RX6 := C
  obtain ⟨hx, hb, hml, hown, hts⟩ := id C
  have hl : lv_has ls 2 [(0, .ref a0), (1, .int 3)] := hl
  refine lv_iload_n hx hb dX6_changeable_0 rfl (lv_at hl 1 rfl) ?_
  refine lv_aload_n hx hb dX6_changeable_1 rfl (lv_at hl 0 rfl) ?_
  refine ka_get C lq_147 rfl hK hP 0 rfl 4 (by decide) lq_148 rfl dX6_changeable_2 ?_
  refine lv_icmp_eq (tgt := 19) hx hb dX6_changeable_5 (by decide) (fun c_ => absurd c_ (by decide)) (fun _ => ?_)
  refine lv_aload_n hx hb dX6_changeable_8 rfl (lv_at hl 0 rfl) ?_
  refine ka_get C lq_147 rfl hK hP 0 rfl 2 (by decide) lq_149 rfl dX6_changeable_9 ?_
  refine lv_iload_n hx hb dX6_changeable_12 rfl (lv_at hl 1 rfl) ?_
  refine ka_RV (n := 1) C (ct_X0_isDone_57 l D a3 a5 a6) gX6_changeable_X0_isDone rfl (by decide +kernel) ⟨Nat.le_of_ble_eq_true rfl, Nat.le_of_ble_eq_true rfl⟩ hK hP hS hE hN [1] rfl [] rfl (ci := 0) rfl rfl 1 rfl rfl hl.1 (rest := []) rfl (Nat.le_of_ble_eq_true rfl) dX6_changeable_13 ⟨Nat.le_of_ble_eq_true rfl, Nat.le_of_ble_eq_true rfl⟩ (fun v hv => ?_)
  subst hv
  refine ka_stk (w := [.int 0]) rfl ?_
  refine lv_if_eq (tgt := 23) hx hb dX6_changeable_16 (by decide) (fun _ => ?_) (fun c_ => absurd (by decide) c_)
  refine lv_aload_n hx hb dX6_changeable_23 rfl (lv_at hl 0 rfl) ?_
  refine ka_get C lq_147 rfl hK hP 0 rfl 2 (by decide) lq_149 rfl dX6_changeable_24 ?_
  refine lv_iload_n hx hb dX6_changeable_27 rfl (lv_at hl 1 rfl) ?_
  refine ka_RV (n := 1) C (ct_X0_lessonAt_58 l D a3 a5 a6 k0 a7 a8 a9 a10 a11 a12) gX6_changeable_X0_lessonAt rfl (by decide +kernel) ⟨Nat.le_of_ble_eq_true rfl, Nat.le_of_ble_eq_true rfl⟩ hK hP hS hE hN [1, 2] rfl [0] rfl (ci := 0) rfl rfl 1 rfl rfl hl.1 (rest := []) rfl (Nat.le_of_ble_eq_true rfl) dX6_changeable_28 ⟨Nat.le_of_ble_eq_true rfl, Nat.le_of_ble_eq_true rfl⟩ (fun v hv => ?_)
  subst hv
  refine ka_stk (w := [.ref a10]) rfl ?_
  exact ka_rRa C hr hlk (Or.inl ⟨_, rfl⟩) (Or.inr ⟨_, rfl⟩) rfl dX6_changeable_31
set_option maxHeartbeats 4000000 in
set_option maxRecDepth 100000 in
theorem ct_X0_isLesson_60 (l : Launch) (D : va_G) : ka_R l D yX0_isLesson wsX0_isLesson 0 0 [.int 4] [] [] (fun v => v = some (.int 1)) := by
  refine ka_R_of (cc := cX0_isLesson) (maxL := 1) (ret := (some .boolean)) (by decide) rfl (Nat.le_of_ble_eq_true rfl) ?_
  intro p e s m below meth c ls C hr hlk hP hK hE hN hl
  have hS : va_S (fun _ => False) s.heap s.heap [] := va_S.rf
  have C : CallFix p m c cX0_isLesson 1 s [.int 4].toArray wsX0_isLesson RX0 := C
  obtain ⟨hx, hb, hml, hown, hts⟩ := id C
  have hl : lv_has ls 1 [(0, .int 4)] := hl
  refine lv_iload_n hx hb dX0_isLesson_0 rfl (lv_at hl 0 rfl) ?_
  refine lv_if_lt (tgt := 14) hx hb dX0_isLesson_1 (by decide) (fun c_ => absurd c_ (by decide)) (fun _ => ?_)
  refine lv_iload_n hx hb dX0_isLesson_4 rfl (lv_at hl 0 rfl) ?_
  refine lv_bipush (v := 6) hx hb dX0_isLesson_5 (by decide) ?_
  refine lv_icmp_ge (tgt := 14) hx hb dX0_isLesson_7 (by decide) (fun c_ => absurd c_ (by decide)) (fun _ => ?_)
  refine lv_iconst (v := 1) hx hb dX0_isLesson_10 (by decide) ?_
  refine lv_goto (tgt := 15) hx hb dX0_isLesson_11 (by decide) ?_
  exact ka_rRz C hr hlk rfl rfl dX0_isLesson_15
set_option maxHeartbeats 4000000 in
set_option maxRecDepth 100000 in
theorem ct_X0_isDone_61 (l : Launch) (D : va_G) (a0 : Nat) (a1 : Nat) (a2 : Nat) : ka_R l D yX0_isDone wsX0_isDone 1 21 [.ref a0, .int 4] [(a0, .inr (0, [.ref a1, .ref a2, .int 0]))] [] (fun v => v = some (.int 0)) := by
  refine ka_R_of (cc := cX0_isDone) (maxL := 2) (ret := (some .boolean)) (by decide) rfl (Nat.le_of_ble_eq_true rfl) ?_
  intro p e s m below meth c ls C hr hlk hP hK hE hN hl
  have hS : va_S (fun _ => False) s.heap s.heap [] := va_S.rf
  have C : CallFix p m c cX0_isDone 2 s [.ref a0, .int 4].toArray wsX0_isDone RX0 := C
  obtain ⟨hx, hb, hml, hown, hts⟩ := id C
  have hl : lv_has ls 2 [(0, .ref a0), (1, .int 4)] := hl
  refine lv_iload_n hx hb dX0_isDone_0 rfl (lv_at hl 1 rfl) ?_
  refine ka_RS (n := 1) C (ct_X0_isLesson_60 l D ) gX0_isDone_X0_isLesson rfl (by decide +kernel) ⟨Nat.le_of_ble_eq_true rfl, Nat.le_of_ble_eq_true rfl⟩ hK hP hS hE hN [] rfl [] rfl rfl hl.1 (rest := []) rfl (Nat.le_of_ble_eq_true rfl) dX0_isDone_1 ⟨Nat.le_of_ble_eq_true rfl, Nat.le_of_ble_eq_true rfl⟩ (fun v hv => ?_)
  subst hv
  refine ka_stk (w := [.int 1]) rfl ?_
  refine lv_if_eq (tgt := 23) hx hb dX0_isDone_4 (by decide) (fun c_ => absurd c_ (by decide)) (fun _ => ?_)
  refine lv_aload_n hx hb dX0_isDone_7 rfl (lv_at hl 0 rfl) ?_
  refine ka_get C lq_150 rfl hK hP 0 rfl 2 (by decide) lq_151 rfl dX0_isDone_8 ?_
  refine lv_iload_n hx hb dX0_isDone_11 rfl (lv_at hl 1 rfl) ?_
  refine ka_RN (n := 2) C (ka_c_bitAt l D 0 4) gX0_isDone_X6_bitAt_n30 rfl hN.2.2.2.1 lq_152 lq_153 (by decide +kernel) ⟨Nat.le_of_ble_eq_true rfl, Nat.le_of_ble_eq_true rfl⟩ hK hP hS hE hN [] rfl [] rfl rfl hl.1 (rest := []) rfl (Nat.le_of_ble_eq_true rfl) dX0_isDone_12 ⟨Nat.le_of_ble_eq_true rfl, Nat.le_of_ble_eq_true rfl⟩ (fun v hv => ?_)
  subst hv
  refine ka_stk (w := [.int 0]) (congrArg (fun z => Value.int z :: []) (show ka_bit 0 4 = 0 from by decide)) ?_
  refine lv_iconst (v := 1) hx hb dX0_isDone_15 (by decide) ?_
  refine lv_icmp_ne (tgt := 23) hx hb dX0_isDone_16 (by decide) (fun _ => ?_) (fun c_ => absurd c_ (by decide))
  refine lv_iconst (v := 0) hx hb dX0_isDone_23 (by decide) ?_
  exact ka_rRz C hr hlk rfl rfl dX0_isDone_24
set_option maxHeartbeats 4000000 in
set_option maxRecDepth 100000 in
theorem ct_X0_lessonAt_62 (l : Launch) (D : va_G) (a0 : Nat) (a1 : Nat) (a2 : Nat) (k0 : ClassId) (a3 : Nat) (a4 : Nat) (a5 : Nat) (a6 : Nat) (a7 : Nat) (a8 : Nat) : ka_R l D yX0_lessonAt wsX0_lessonAt 1 20 [.ref a0, .int 4] [(a0, .inr (0, [.ref a1, .ref a2, .int 0])), (a1, .inl (k0, 6, .inr (.inr (.inr (.inr (va_up (va_up (va_up (va_up (va_up (va_up (fun _ => none) 0 (some a3)) 1 (some a4)) 2 (some a5)) 3 (some a6)) 4 (some a7)) 5 (some a8)))))))] [(k0, .object RX2)] (fun v => v = some (.ref a7)) := by
  refine ka_R_of (cc := cX0_lessonAt) (maxL := 2) (ret := (some (.object "AskedBack$Lesson"))) (by decide) rfl (Nat.le_of_ble_eq_true rfl) ?_
  intro p e s m below meth c ls C hr hlk hP hK hE hN hl
  have hS : va_S (fun _ => False) s.heap s.heap [] := va_S.rf
  have C : CallFix p m c cX0_lessonAt 2 s [.ref a0, .int 4].toArray wsX0_lessonAt RX0 := C
  obtain ⟨hx, hb, hml, hown, hts⟩ := id C
  have hl : lv_has ls 2 [(0, .ref a0), (1, .int 4)] := hl
  refine lv_iload_n hx hb dX0_lessonAt_0 rfl (lv_at hl 1 rfl) ?_
  refine ka_RS (n := 1) C (ct_X0_isLesson_60 l D ) gX0_lessonAt_X0_isLesson rfl (by decide +kernel) ⟨Nat.le_of_ble_eq_true rfl, Nat.le_of_ble_eq_true rfl⟩ hK hP hS hE hN [] rfl [] rfl rfl hl.1 (rest := []) rfl (Nat.le_of_ble_eq_true rfl) dX0_lessonAt_1 ⟨Nat.le_of_ble_eq_true rfl, Nat.le_of_ble_eq_true rfl⟩ (fun v hv => ?_)
  subst hv
  refine ka_stk (w := [.int 1]) rfl ?_
  refine lv_if_eq (tgt := 16) hx hb dX0_lessonAt_4 (by decide) (fun c_ => absurd c_ (by decide)) (fun _ => ?_)
  refine lv_aload_n hx hb dX0_lessonAt_7 rfl (lv_at hl 0 rfl) ?_
  refine ka_get C lq_154 rfl hK hP 0 rfl 0 (by decide) lq_155 rfl dX0_lessonAt_8 ?_
  refine lv_iload_n hx hb dX0_lessonAt_11 rfl (lv_at hl 1 rfl) ?_
  refine va_aldq hx hb hK hP 1 0 rfl rfl (ka_in (by decide) (by decide)) dX0_lessonAt_12 ?_
  refine ka_top (w := .ref a7) rfl ?_
  refine lv_goto (tgt := 17) hx hb dX0_lessonAt_13 (by decide) ?_
  exact ka_rRa C hr hlk (Or.inl ⟨_, rfl⟩) (Or.inr ⟨_, rfl⟩) rfl dX0_lessonAt_17
set_option maxHeartbeats 4000000 in
set_option maxRecDepth 100000 in
theorem ct_X6_changeable_63 (l : Launch) (D : va_G) (a0 : Nat) (a1 : Nat) (a2 : Nat) (a3 : Nat) (a4 : Nat) (a5 : Nat) (a6 : Nat) (k0 : ClassId) (a7 : Nat) (a8 : Nat) (a9 : Nat) (a10 : Nat) (a11 : Nat) (a12 : Nat) : ka_R l D yX6_changeable wsX6_changeable 2 42 [.ref a0, .int 4] [(a0, .inr (6, [.ref a1, .ref a2, .ref a3, .ref a4, .int (-1), .int (-1), .int 0, .int 3, .int 3])), (a3, .inr (0, [.ref a5, .ref a6, .int 0])), (a5, .inl (k0, 6, .inr (.inr (.inr (.inr (va_up (va_up (va_up (va_up (va_up (va_up (fun _ => none) 0 (some a7)) 1 (some a8)) 2 (some a9)) 3 (some a10)) 4 (some a11)) 5 (some a12)))))))] [(k0, .object RX2)] (fun v => v = some (.ref a11)) := by
  refine ka_R_of (cc := cX6_changeable) (maxL := 2) (ret := (some (.object "AskedBack$Lesson"))) (by decide) rfl (Nat.le_of_ble_eq_true rfl) ?_
  intro p e s m below meth c ls C hr hlk hP hK hE hN hl
  have hS : va_S (fun _ => False) s.heap s.heap [] := va_S.rf
  have C : CallFix p m c cX6_changeable 2 s [.ref a0, .int 4].toArray wsX6_changeable RX6 := C
  obtain ⟨hx, hb, hml, hown, hts⟩ := id C
  have hl : lv_has ls 2 [(0, .ref a0), (1, .int 4)] := hl
  refine lv_iload_n hx hb dX6_changeable_0 rfl (lv_at hl 1 rfl) ?_
  refine lv_aload_n hx hb dX6_changeable_1 rfl (lv_at hl 0 rfl) ?_
  refine ka_get C lq_147 rfl hK hP 0 rfl 4 (by decide) lq_148 rfl dX6_changeable_2 ?_
  refine lv_icmp_eq (tgt := 19) hx hb dX6_changeable_5 (by decide) (fun c_ => absurd c_ (by decide)) (fun _ => ?_)
  refine lv_aload_n hx hb dX6_changeable_8 rfl (lv_at hl 0 rfl) ?_
  refine ka_get C lq_147 rfl hK hP 0 rfl 2 (by decide) lq_149 rfl dX6_changeable_9 ?_
  refine lv_iload_n hx hb dX6_changeable_12 rfl (lv_at hl 1 rfl) ?_
  refine ka_RV (n := 1) C (ct_X0_isDone_61 l D a3 a5 a6) gX6_changeable_X0_isDone rfl (by decide +kernel) ⟨Nat.le_of_ble_eq_true rfl, Nat.le_of_ble_eq_true rfl⟩ hK hP hS hE hN [1] rfl [] rfl (ci := 0) rfl rfl 1 rfl rfl hl.1 (rest := []) rfl (Nat.le_of_ble_eq_true rfl) dX6_changeable_13 ⟨Nat.le_of_ble_eq_true rfl, Nat.le_of_ble_eq_true rfl⟩ (fun v hv => ?_)
  subst hv
  refine ka_stk (w := [.int 0]) rfl ?_
  refine lv_if_eq (tgt := 23) hx hb dX6_changeable_16 (by decide) (fun _ => ?_) (fun c_ => absurd (by decide) c_)
  refine lv_aload_n hx hb dX6_changeable_23 rfl (lv_at hl 0 rfl) ?_
  refine ka_get C lq_147 rfl hK hP 0 rfl 2 (by decide) lq_149 rfl dX6_changeable_24 ?_
  refine lv_iload_n hx hb dX6_changeable_27 rfl (lv_at hl 1 rfl) ?_
  refine ka_RV (n := 1) C (ct_X0_lessonAt_62 l D a3 a5 a6 k0 a7 a8 a9 a10 a11 a12) gX6_changeable_X0_lessonAt rfl (by decide +kernel) ⟨Nat.le_of_ble_eq_true rfl, Nat.le_of_ble_eq_true rfl⟩ hK hP hS hE hN [1, 2] rfl [0] rfl (ci := 0) rfl rfl 1 rfl rfl hl.1 (rest := []) rfl (Nat.le_of_ble_eq_true rfl) dX6_changeable_28 ⟨Nat.le_of_ble_eq_true rfl, Nat.le_of_ble_eq_true rfl⟩ (fun v hv => ?_)
  subst hv
  refine ka_stk (w := [.ref a11]) rfl ?_
  exact ka_rRa C hr hlk (Or.inl ⟨_, rfl⟩) (Or.inr ⟨_, rfl⟩) rfl dX6_changeable_31
set_option maxHeartbeats 4000000 in
set_option maxRecDepth 100000 in
theorem ct_X0_isLesson_64 (l : Launch) (D : va_G) : ka_R l D yX0_isLesson wsX0_isLesson 0 0 [.int 5] [] [] (fun v => v = some (.int 1)) := by
  refine ka_R_of (cc := cX0_isLesson) (maxL := 1) (ret := (some .boolean)) (by decide) rfl (Nat.le_of_ble_eq_true rfl) ?_
  intro p e s m below meth c ls C hr hlk hP hK hE hN hl
  have hS : va_S (fun _ => False) s.heap s.heap [] := va_S.rf
  have C : CallFix p m c cX0_isLesson 1 s [.int 5].toArray wsX0_isLesson RX0 := C
  obtain ⟨hx, hb, hml, hown, hts⟩ := id C
  have hl : lv_has ls 1 [(0, .int 5)] := hl
  refine lv_iload_n hx hb dX0_isLesson_0 rfl (lv_at hl 0 rfl) ?_
  refine lv_if_lt (tgt := 14) hx hb dX0_isLesson_1 (by decide) (fun c_ => absurd c_ (by decide)) (fun _ => ?_)
  refine lv_iload_n hx hb dX0_isLesson_4 rfl (lv_at hl 0 rfl) ?_
  refine lv_bipush (v := 6) hx hb dX0_isLesson_5 (by decide) ?_
  refine lv_icmp_ge (tgt := 14) hx hb dX0_isLesson_7 (by decide) (fun c_ => absurd c_ (by decide)) (fun _ => ?_)
  refine lv_iconst (v := 1) hx hb dX0_isLesson_10 (by decide) ?_
  refine lv_goto (tgt := 15) hx hb dX0_isLesson_11 (by decide) ?_
  exact ka_rRz C hr hlk rfl rfl dX0_isLesson_15
set_option maxHeartbeats 4000000 in
set_option maxRecDepth 100000 in
theorem ct_X0_isDone_65 (l : Launch) (D : va_G) (a0 : Nat) (a1 : Nat) (a2 : Nat) : ka_R l D yX0_isDone wsX0_isDone 1 21 [.ref a0, .int 5] [(a0, .inr (0, [.ref a1, .ref a2, .int 0]))] [] (fun v => v = some (.int 0)) := by
  refine ka_R_of (cc := cX0_isDone) (maxL := 2) (ret := (some .boolean)) (by decide) rfl (Nat.le_of_ble_eq_true rfl) ?_
  intro p e s m below meth c ls C hr hlk hP hK hE hN hl
  have hS : va_S (fun _ => False) s.heap s.heap [] := va_S.rf
  have C : CallFix p m c cX0_isDone 2 s [.ref a0, .int 5].toArray wsX0_isDone RX0 := C
  obtain ⟨hx, hb, hml, hown, hts⟩ := id C
  have hl : lv_has ls 2 [(0, .ref a0), (1, .int 5)] := hl
  refine lv_iload_n hx hb dX0_isDone_0 rfl (lv_at hl 1 rfl) ?_
  refine ka_RS (n := 1) C (ct_X0_isLesson_64 l D ) gX0_isDone_X0_isLesson rfl (by decide +kernel) ⟨Nat.le_of_ble_eq_true rfl, Nat.le_of_ble_eq_true rfl⟩ hK hP hS hE hN [] rfl [] rfl rfl hl.1 (rest := []) rfl (Nat.le_of_ble_eq_true rfl) dX0_isDone_1 ⟨Nat.le_of_ble_eq_true rfl, Nat.le_of_ble_eq_true rfl⟩ (fun v hv => ?_)
  subst hv
  refine ka_stk (w := [.int 1]) rfl ?_
  refine lv_if_eq (tgt := 23) hx hb dX0_isDone_4 (by decide) (fun c_ => absurd c_ (by decide)) (fun _ => ?_)
  refine lv_aload_n hx hb dX0_isDone_7 rfl (lv_at hl 0 rfl) ?_
  refine ka_get C lq_150 rfl hK hP 0 rfl 2 (by decide) lq_151 rfl dX0_isDone_8 ?_
  refine lv_iload_n hx hb dX0_isDone_11 rfl (lv_at hl 1 rfl) ?_
  refine ka_RN (n := 2) C (ka_c_bitAt l D 0 5) gX0_isDone_X6_bitAt_n30 rfl hN.2.2.2.1 lq_152 lq_153 (by decide +kernel) ⟨Nat.le_of_ble_eq_true rfl, Nat.le_of_ble_eq_true rfl⟩ hK hP hS hE hN [] rfl [] rfl rfl hl.1 (rest := []) rfl (Nat.le_of_ble_eq_true rfl) dX0_isDone_12 ⟨Nat.le_of_ble_eq_true rfl, Nat.le_of_ble_eq_true rfl⟩ (fun v hv => ?_)
  subst hv
  refine ka_stk (w := [.int 0]) (congrArg (fun z => Value.int z :: []) (show ka_bit 0 5 = 0 from by decide)) ?_
  refine lv_iconst (v := 1) hx hb dX0_isDone_15 (by decide) ?_
  refine lv_icmp_ne (tgt := 23) hx hb dX0_isDone_16 (by decide) (fun _ => ?_) (fun c_ => absurd c_ (by decide))
  refine lv_iconst (v := 0) hx hb dX0_isDone_23 (by decide) ?_
  exact ka_rRz C hr hlk rfl rfl dX0_isDone_24
set_option maxHeartbeats 4000000 in
set_option maxRecDepth 100000 in
theorem ct_X0_lessonAt_66 (l : Launch) (D : va_G) (a0 : Nat) (a1 : Nat) (a2 : Nat) (k0 : ClassId) (a3 : Nat) (a4 : Nat) (a5 : Nat) (a6 : Nat) (a7 : Nat) (a8 : Nat) : ka_R l D yX0_lessonAt wsX0_lessonAt 1 20 [.ref a0, .int 5] [(a0, .inr (0, [.ref a1, .ref a2, .int 0])), (a1, .inl (k0, 6, .inr (.inr (.inr (.inr (va_up (va_up (va_up (va_up (va_up (va_up (fun _ => none) 0 (some a3)) 1 (some a4)) 2 (some a5)) 3 (some a6)) 4 (some a7)) 5 (some a8)))))))] [(k0, .object RX2)] (fun v => v = some (.ref a8)) := by
  refine ka_R_of (cc := cX0_lessonAt) (maxL := 2) (ret := (some (.object "AskedBack$Lesson"))) (by decide) rfl (Nat.le_of_ble_eq_true rfl) ?_
  intro p e s m below meth c ls C hr hlk hP hK hE hN hl
  have hS : va_S (fun _ => False) s.heap s.heap [] := va_S.rf
  have C : CallFix p m c cX0_lessonAt 2 s [.ref a0, .int 5].toArray wsX0_lessonAt RX0 := C
  obtain ⟨hx, hb, hml, hown, hts⟩ := id C
  have hl : lv_has ls 2 [(0, .ref a0), (1, .int 5)] := hl
  refine lv_iload_n hx hb dX0_lessonAt_0 rfl (lv_at hl 1 rfl) ?_
  refine ka_RS (n := 1) C (ct_X0_isLesson_64 l D ) gX0_lessonAt_X0_isLesson rfl (by decide +kernel) ⟨Nat.le_of_ble_eq_true rfl, Nat.le_of_ble_eq_true rfl⟩ hK hP hS hE hN [] rfl [] rfl rfl hl.1 (rest := []) rfl (Nat.le_of_ble_eq_true rfl) dX0_lessonAt_1 ⟨Nat.le_of_ble_eq_true rfl, Nat.le_of_ble_eq_true rfl⟩ (fun v hv => ?_)
  subst hv
  refine ka_stk (w := [.int 1]) rfl ?_
  refine lv_if_eq (tgt := 16) hx hb dX0_lessonAt_4 (by decide) (fun c_ => absurd c_ (by decide)) (fun _ => ?_)
  refine lv_aload_n hx hb dX0_lessonAt_7 rfl (lv_at hl 0 rfl) ?_
  refine ka_get C lq_154 rfl hK hP 0 rfl 0 (by decide) lq_155 rfl dX0_lessonAt_8 ?_
  refine lv_iload_n hx hb dX0_lessonAt_11 rfl (lv_at hl 1 rfl) ?_
  refine va_aldq hx hb hK hP 1 0 rfl rfl (ka_in (by decide) (by decide)) dX0_lessonAt_12 ?_
  refine ka_top (w := .ref a8) rfl ?_
  refine lv_goto (tgt := 17) hx hb dX0_lessonAt_13 (by decide) ?_
  exact ka_rRa C hr hlk (Or.inl ⟨_, rfl⟩) (Or.inr ⟨_, rfl⟩) rfl dX0_lessonAt_17
set_option maxHeartbeats 4000000 in
set_option maxRecDepth 100000 in
theorem ct_X6_changeable_67 (l : Launch) (D : va_G) (a0 : Nat) (a1 : Nat) (a2 : Nat) (a3 : Nat) (a4 : Nat) (a5 : Nat) (a6 : Nat) (k0 : ClassId) (a7 : Nat) (a8 : Nat) (a9 : Nat) (a10 : Nat) (a11 : Nat) (a12 : Nat) : ka_R l D yX6_changeable wsX6_changeable 2 42 [.ref a0, .int 5] [(a0, .inr (6, [.ref a1, .ref a2, .ref a3, .ref a4, .int (-1), .int (-1), .int 0, .int 3, .int 3])), (a3, .inr (0, [.ref a5, .ref a6, .int 0])), (a5, .inl (k0, 6, .inr (.inr (.inr (.inr (va_up (va_up (va_up (va_up (va_up (va_up (fun _ => none) 0 (some a7)) 1 (some a8)) 2 (some a9)) 3 (some a10)) 4 (some a11)) 5 (some a12)))))))] [(k0, .object RX2)] (fun v => v = some (.ref a12)) := by
  refine ka_R_of (cc := cX6_changeable) (maxL := 2) (ret := (some (.object "AskedBack$Lesson"))) (by decide) rfl (Nat.le_of_ble_eq_true rfl) ?_
  intro p e s m below meth c ls C hr hlk hP hK hE hN hl
  have hS : va_S (fun _ => False) s.heap s.heap [] := va_S.rf
  have C : CallFix p m c cX6_changeable 2 s [.ref a0, .int 5].toArray wsX6_changeable RX6 := C
  obtain ⟨hx, hb, hml, hown, hts⟩ := id C
  have hl : lv_has ls 2 [(0, .ref a0), (1, .int 5)] := hl
  refine lv_iload_n hx hb dX6_changeable_0 rfl (lv_at hl 1 rfl) ?_
  refine lv_aload_n hx hb dX6_changeable_1 rfl (lv_at hl 0 rfl) ?_
  refine ka_get C lq_147 rfl hK hP 0 rfl 4 (by decide) lq_148 rfl dX6_changeable_2 ?_
  refine lv_icmp_eq (tgt := 19) hx hb dX6_changeable_5 (by decide) (fun c_ => absurd c_ (by decide)) (fun _ => ?_)
  refine lv_aload_n hx hb dX6_changeable_8 rfl (lv_at hl 0 rfl) ?_
  refine ka_get C lq_147 rfl hK hP 0 rfl 2 (by decide) lq_149 rfl dX6_changeable_9 ?_
  refine lv_iload_n hx hb dX6_changeable_12 rfl (lv_at hl 1 rfl) ?_
  refine ka_RV (n := 1) C (ct_X0_isDone_65 l D a3 a5 a6) gX6_changeable_X0_isDone rfl (by decide +kernel) ⟨Nat.le_of_ble_eq_true rfl, Nat.le_of_ble_eq_true rfl⟩ hK hP hS hE hN [1] rfl [] rfl (ci := 0) rfl rfl 1 rfl rfl hl.1 (rest := []) rfl (Nat.le_of_ble_eq_true rfl) dX6_changeable_13 ⟨Nat.le_of_ble_eq_true rfl, Nat.le_of_ble_eq_true rfl⟩ (fun v hv => ?_)
  subst hv
  refine ka_stk (w := [.int 0]) rfl ?_
  refine lv_if_eq (tgt := 23) hx hb dX6_changeable_16 (by decide) (fun _ => ?_) (fun c_ => absurd (by decide) c_)
  refine lv_aload_n hx hb dX6_changeable_23 rfl (lv_at hl 0 rfl) ?_
  refine ka_get C lq_147 rfl hK hP 0 rfl 2 (by decide) lq_149 rfl dX6_changeable_24 ?_
  refine lv_iload_n hx hb dX6_changeable_27 rfl (lv_at hl 1 rfl) ?_
  refine ka_RV (n := 1) C (ct_X0_lessonAt_66 l D a3 a5 a6 k0 a7 a8 a9 a10 a11 a12) gX6_changeable_X0_lessonAt rfl (by decide +kernel) ⟨Nat.le_of_ble_eq_true rfl, Nat.le_of_ble_eq_true rfl⟩ hK hP hS hE hN [1, 2] rfl [0] rfl (ci := 0) rfl rfl 1 rfl rfl hl.1 (rest := []) rfl (Nat.le_of_ble_eq_true rfl) dX6_changeable_28 ⟨Nat.le_of_ble_eq_true rfl, Nat.le_of_ble_eq_true rfl⟩ (fun v hv => ?_)
  subst hv
  refine ka_stk (w := [.ref a12]) rfl ?_
  exact ka_rRa C hr hlk (Or.inl ⟨_, rfl⟩) (Or.inr ⟨_, rfl⟩) rfl dX6_changeable_31
set_option maxHeartbeats 4000000 in
set_option maxRecDepth 100000 in
theorem ct_X0_isLesson_68 (l : Launch) (D : va_G) (x0 : Int32) (hx0 : 6 ≤ x0.toInt) : ka_R l D yX0_isLesson wsX0_isLesson 0 0 [.int x0] [] [] (fun v => v = some (.int 0)) := by
  refine ka_R_of (cc := cX0_isLesson) (maxL := 1) (ret := (some .boolean)) (by decide) rfl (Nat.le_of_ble_eq_true rfl) ?_
  intro p e s m below meth c ls C hr hlk hP hK hE hN hl
  have hS : va_S (fun _ => False) s.heap s.heap [] := va_S.rf
  have C : CallFix p m c cX0_isLesson 1 s [.int x0].toArray wsX0_isLesson RX0 := C
  obtain ⟨hx, hb, hml, hown, hts⟩ := id C
  have hl : lv_has ls 1 [(0, .int x0)] := hl
  have rx0 := ka_rng x0
  refine lv_iload_n hx hb dX0_isLesson_0 rfl (lv_at hl 0 rfl) ?_
  refine lv_if_lt (tgt := 14) hx hb dX0_isLesson_1 (by decide) (fun c_ => absurd c_ (by rw [ka_lt', show ((0 : Int32)).toInt = 0 from by decide]; omega)) (fun _ => ?_)
  refine lv_iload_n hx hb dX0_isLesson_4 rfl (lv_at hl 0 rfl) ?_
  refine lv_bipush (v := 6) hx hb dX0_isLesson_5 (by decide) ?_
  refine lv_icmp_ge (tgt := 14) hx hb dX0_isLesson_7 (by decide) (fun _ => ?_) (fun c_ => absurd (by rw [ka_le', show ((6 : Int32)).toInt = 6 from by decide]; omega) c_)
  refine lv_iconst (v := 0) hx hb dX0_isLesson_14 (by decide) ?_
  exact ka_rRz C hr hlk rfl rfl dX0_isLesson_15
set_option maxHeartbeats 4000000 in
set_option maxRecDepth 100000 in
theorem ct_X0_isDone_69 (l : Launch) (D : va_G) (a0 : Nat) (x0 : Int32) (hx0 : 6 ≤ x0.toInt) : ka_R l D yX0_isDone wsX0_isDone 1 20 [.ref a0, .int x0] [] [] (fun v => v = some (.int 0)) := by
  refine ka_R_of (cc := cX0_isDone) (maxL := 2) (ret := (some .boolean)) (by decide) rfl (Nat.le_of_ble_eq_true rfl) ?_
  intro p e s m below meth c ls C hr hlk hP hK hE hN hl
  have hS : va_S (fun _ => False) s.heap s.heap [] := va_S.rf
  have C : CallFix p m c cX0_isDone 2 s [.ref a0, .int x0].toArray wsX0_isDone RX0 := C
  obtain ⟨hx, hb, hml, hown, hts⟩ := id C
  have hl : lv_has ls 2 [(0, .ref a0), (1, .int x0)] := hl
  have rx0 := ka_rng x0
  refine lv_iload_n hx hb dX0_isDone_0 rfl (lv_at hl 1 rfl) ?_
  refine ka_RS (n := 1) C (ct_X0_isLesson_68 l D x0 (by omega)) gX0_isDone_X0_isLesson rfl (by decide +kernel) ⟨Nat.le_of_ble_eq_true rfl, Nat.le_of_ble_eq_true rfl⟩ hK hP hS hE hN [] rfl [] rfl rfl hl.1 (rest := []) rfl (Nat.le_of_ble_eq_true rfl) dX0_isDone_1 ⟨Nat.le_of_ble_eq_true rfl, Nat.le_of_ble_eq_true rfl⟩ (fun v hv => ?_)
  subst hv
  refine ka_stk (w := [.int 0]) rfl ?_
  refine lv_if_eq (tgt := 23) hx hb dX0_isDone_4 (by decide) (fun _ => ?_) (fun c_ => absurd (by decide) c_)
  refine lv_iconst (v := 0) hx hb dX0_isDone_23 (by decide) ?_
  exact ka_rRz C hr hlk rfl rfl dX0_isDone_24
set_option maxHeartbeats 4000000 in
set_option maxRecDepth 100000 in
theorem ct_X0_lessonAt_70 (l : Launch) (D : va_G) (a0 : Nat) (x0 : Int32) (hx0 : 6 ≤ x0.toInt) : ka_R l D yX0_lessonAt wsX0_lessonAt 1 20 [.ref a0, .int x0] [] [] (fun v => v = some (.null)) := by
  refine ka_R_of (cc := cX0_lessonAt) (maxL := 2) (ret := (some (.object "AskedBack$Lesson"))) (by decide) rfl (Nat.le_of_ble_eq_true rfl) ?_
  intro p e s m below meth c ls C hr hlk hP hK hE hN hl
  have hS : va_S (fun _ => False) s.heap s.heap [] := va_S.rf
  have C : CallFix p m c cX0_lessonAt 2 s [.ref a0, .int x0].toArray wsX0_lessonAt RX0 := C
  obtain ⟨hx, hb, hml, hown, hts⟩ := id C
  have hl : lv_has ls 2 [(0, .ref a0), (1, .int x0)] := hl
  have rx0 := ka_rng x0
  refine lv_iload_n hx hb dX0_lessonAt_0 rfl (lv_at hl 1 rfl) ?_
  refine ka_RS (n := 1) C (ct_X0_isLesson_68 l D x0 (by omega)) gX0_lessonAt_X0_isLesson rfl (by decide +kernel) ⟨Nat.le_of_ble_eq_true rfl, Nat.le_of_ble_eq_true rfl⟩ hK hP hS hE hN [] rfl [] rfl rfl hl.1 (rest := []) rfl (Nat.le_of_ble_eq_true rfl) dX0_lessonAt_1 ⟨Nat.le_of_ble_eq_true rfl, Nat.le_of_ble_eq_true rfl⟩ (fun v hv => ?_)
  subst hv
  refine ka_stk (w := [.int 0]) rfl ?_
  refine lv_if_eq (tgt := 16) hx hb dX0_lessonAt_4 (by decide) (fun _ => ?_) (fun c_ => absurd (by decide) c_)
  refine lv_null hx hb dX0_lessonAt_16 ?_
  exact ka_rRa C hr hlk (Or.inl ⟨_, rfl⟩) (Or.inl rfl) rfl dX0_lessonAt_17
set_option maxHeartbeats 4000000 in
set_option maxRecDepth 100000 in
theorem ct_X6_changeable_71 (l : Launch) (D : va_G) (a0 : Nat) (x0 : Int32) (a1 : Nat) (a2 : Nat) (a3 : Nat) (a4 : Nat) (a5 : Nat) (a6 : Nat) (hx0 : 6 ≤ x0.toInt) : ka_R l D yX6_changeable wsX6_changeable 2 41 [.ref a0, .int x0] [(a0, .inr (6, [.ref a1, .ref a2, .ref a3, .ref a4, .int (-1), .int (-1), .int 0, .int 3, .int 3])), (a3, .inr (0, [.ref a5, .ref a6, .int 0]))] [] (fun v => v = some (.null)) := by
  refine ka_R_of (cc := cX6_changeable) (maxL := 2) (ret := (some (.object "AskedBack$Lesson"))) (by decide) rfl (Nat.le_of_ble_eq_true rfl) ?_
  intro p e s m below meth c ls C hr hlk hP hK hE hN hl
  have hS : va_S (fun _ => False) s.heap s.heap [] := va_S.rf
  have C : CallFix p m c cX6_changeable 2 s [.ref a0, .int x0].toArray wsX6_changeable RX6 := C
  obtain ⟨hx, hb, hml, hown, hts⟩ := id C
  have hl : lv_has ls 2 [(0, .ref a0), (1, .int x0)] := hl
  have rx0 := ka_rng x0
  refine lv_iload_n hx hb dX6_changeable_0 rfl (lv_at hl 1 rfl) ?_
  refine lv_aload_n hx hb dX6_changeable_1 rfl (lv_at hl 0 rfl) ?_
  refine ka_get C lq_147 rfl hK hP 0 rfl 4 (by decide) lq_148 rfl dX6_changeable_2 ?_
  refine lv_icmp_eq (tgt := 19) hx hb dX6_changeable_5 (by decide) (fun c_ => absurd c_ (by rw [ka_eq', show ((-1 : Int32)).toInt = -1 from by decide]; omega)) (fun _ => ?_)
  refine lv_aload_n hx hb dX6_changeable_8 rfl (lv_at hl 0 rfl) ?_
  refine ka_get C lq_147 rfl hK hP 0 rfl 2 (by decide) lq_149 rfl dX6_changeable_9 ?_
  refine lv_iload_n hx hb dX6_changeable_12 rfl (lv_at hl 1 rfl) ?_
  refine ka_RV (n := 1) C (ct_X0_isDone_69 l D a3 x0 (by omega)) gX6_changeable_X0_isDone rfl (by decide +kernel) ⟨Nat.le_of_ble_eq_true rfl, Nat.le_of_ble_eq_true rfl⟩ hK hP hS hE hN [] rfl [] rfl (ci := 0) rfl rfl 1 rfl rfl hl.1 (rest := []) rfl (Nat.le_of_ble_eq_true rfl) dX6_changeable_13 ⟨Nat.le_of_ble_eq_true rfl, Nat.le_of_ble_eq_true rfl⟩ (fun v hv => ?_)
  subst hv
  refine ka_stk (w := [.int 0]) rfl ?_
  refine lv_if_eq (tgt := 23) hx hb dX6_changeable_16 (by decide) (fun _ => ?_) (fun c_ => absurd (by decide) c_)
  refine lv_aload_n hx hb dX6_changeable_23 rfl (lv_at hl 0 rfl) ?_
  refine ka_get C lq_147 rfl hK hP 0 rfl 2 (by decide) lq_149 rfl dX6_changeable_24 ?_
  refine lv_iload_n hx hb dX6_changeable_27 rfl (lv_at hl 1 rfl) ?_
  refine ka_RV (n := 1) C (ct_X0_lessonAt_70 l D a3 x0 (by omega)) gX6_changeable_X0_lessonAt rfl (by decide +kernel) ⟨Nat.le_of_ble_eq_true rfl, Nat.le_of_ble_eq_true rfl⟩ hK hP hS hE hN [] rfl [] rfl (ci := 0) rfl rfl 1 rfl rfl hl.1 (rest := []) rfl (Nat.le_of_ble_eq_true rfl) dX6_changeable_28 ⟨Nat.le_of_ble_eq_true rfl, Nat.le_of_ble_eq_true rfl⟩ (fun v hv => ?_)
  subst hv
  refine ka_stk (w := [.null]) rfl ?_
  exact ka_rRa C hr hlk (Or.inl ⟨_, rfl⟩) (Or.inl rfl) rfl dX6_changeable_31
theorem lq_184 : ∀ w ∈ wsX60, w ∈ wsX6_law := by decide +kernel
theorem lq_185 : Cond.fieldLink RX6 10 "AskedBack" "tape" "LAskedBack$Tape;" ∈ wsX6_law := by decide +kernel
set_option maxHeartbeats 4000000 in
set_option maxRecDepth 100000 in
theorem ct_X6_law_72 (l : Launch) (D : va_G) (a0 : Nat) (x0 : Int32) (x1 : Int32) (a1 : Nat) (a2 : Nat) (a3 : Nat) (a4 : Nat) (a5 : Nat) (a6 : Nat) (a7 : Nat) (a8 : Nat) (k0 : ClassId) (a9 : Nat) (a10 : Nat) (a11 : Nat) (a12 : Nat) (a13 : Nat) (a14 : Nat) : ka_E (S := Unit) l D yX6_law wsX6_law 11 256 0 0 [.ref a0, .int x0, .int x1] [(a0, .inr (6, [.ref a1, .ref a2, .ref a3, .ref a4, .int (-1), .int (-1), .int 0, .int 3, .int 3])), (a1, .inr (5, [.ref a5, .int 0])), (a2, .inr (3, [.ref a1, .ref a6, .int 0, .int 0, .int 0, .int (-1), .int 3, .int 0])), (a3, .inr (0, [.ref a7, .ref a8, .int 0])), (a7, .inl (k0, 6, .inr (.inr (.inr (.inr (va_up (va_up (va_up (va_up (va_up (va_up (fun _ => none) 0 (some a9)) 1 (some a10)) 2 (some a11)) 3 (some a12)) 4 (some a13)) 5 (some a14)))))))] [(k0, .object RX2)] (fun u => some (.int 0)) (fun _ => True) (fun u => []) (fun u => []) := by
  refine ka_E_of (cc := cX6_law) (maxL := 4) (ret := (some .boolean)) (by decide) rfl (Nat.le_of_ble_eq_true rfl) ?_
  intro p e s m below meth c ls A C hr hlk hin hP hK hD hS hA hE hN hl
  have C : CallFix p m c cX6_law 4 s [.ref a0, .int x0, .int x1].toArray wsX6_law RX6 := C
  obtain ⟨hx, hb, hml, hown, hts⟩ := id C
  have hl : lv_has ls 4 [(0, .ref a0), (1, .int x0), (2, .int x1)] := hl
  have rx0 := ka_rng x0
  have rx1 := ka_rng x1
  rcases (show x0.toInt ≤ -1 ∨ x0.toInt = 0 ∨ x0.toInt = 1 ∨ x0.toInt = 2 ∨ x0.toInt = 3 ∨ x0.toInt = 4 ∨ x0.toInt = 5 ∨ 6 ≤ x0.toInt by omega) with y_1176 | y_1176 | y_1176 | y_1176 | y_1176 | y_1176 | y_1176 | y_1176
  · skip
    rcases (show x1.toInt ≤ -1 ∨ x1.toInt = 0 ∨ 1 ≤ x1.toInt by omega) with y_1177 | y_1177 | y_1177
    · skip
      refine lv_aload_n hx hb dX6_law_0 rfl (lv_at hl 0 rfl) ?_
      refine lv_iload_n hx hb dX6_law_1 rfl (lv_at hl 1 rfl) ?_
      refine ka_RV (n := 1) C (ct_X6_changeable_23 l D a0 x0 a1 a2 a3 a4 a7 a8 (by omega)) gX6_law_X6_changeable rfl (by decide +kernel) ⟨Nat.le_of_ble_eq_true rfl, Nat.le_of_ble_eq_true rfl⟩ hK hP hS hE hN [0, 3] rfl [] rfl (ci := 6) rfl rfl 0 rfl rfl hl.1 (rest := []) rfl (Nat.le_of_ble_eq_true rfl) dX6_law_2 ⟨Nat.le_of_ble_eq_true rfl, Nat.le_of_ble_eq_true rfl⟩ (fun v hv => ?_)
      subst hv
      refine ka_stk (w := [.null]) rfl ?_
      refine lv_astore_nN (lv' := [(3, .null), (0, .ref a0), (1, .int x0), (2, .int x1)]) hx hb dX6_law_5 rfl hl (by decide) rfl (fun ls hl => ?_)
      refine lv_aload_nN hx hb dX6_law_6 rfl (lv_at hl 0 rfl) ?_
      refine lv_ifnullN (tgt := 29) hx hb dX6_law_7 (by decide) ?_
      refine lv_iconst (v := 0) hx hb dX6_law_29 (by decide) ?_
      exact ka_rEz C hr hlk rfl (Nat.le_of_ble_eq_true rfl) (Nat.le_of_ble_eq_true rfl) hS (ka_qE () rfl trivial hK hP hD hS [] (by decide) rfl [] rfl) dX6_law_30
    · obtain rfl : x1 = 0 := (ka_eq' _ _).mpr (y_1177.trans (by decide))
      refine lv_aload_n hx hb dX6_law_0 rfl (lv_at hl 0 rfl) ?_
      refine lv_iload_n hx hb dX6_law_1 rfl (lv_at hl 1 rfl) ?_
      refine ka_RV (n := 1) C (ct_X6_changeable_23 l D a0 x0 a1 a2 a3 a4 a7 a8 (by omega)) gX6_law_X6_changeable rfl (by decide +kernel) ⟨Nat.le_of_ble_eq_true rfl, Nat.le_of_ble_eq_true rfl⟩ hK hP hS hE hN [0, 3] rfl [] rfl (ci := 6) rfl rfl 0 rfl rfl hl.1 (rest := []) rfl (Nat.le_of_ble_eq_true rfl) dX6_law_2 ⟨Nat.le_of_ble_eq_true rfl, Nat.le_of_ble_eq_true rfl⟩ (fun v hv => ?_)
      subst hv
      refine ka_stk (w := [.null]) rfl ?_
      refine lv_astore_nN (lv' := [(3, .null), (0, .ref a0), (1, .int x0), (2, .int 0)]) hx hb dX6_law_5 rfl hl (by decide) rfl (fun ls hl => ?_)
      refine lv_aload_nN hx hb dX6_law_6 rfl (lv_at hl 0 rfl) ?_
      refine lv_ifnullN (tgt := 29) hx hb dX6_law_7 (by decide) ?_
      refine lv_iconst (v := 0) hx hb dX6_law_29 (by decide) ?_
      exact ka_rEz C hr hlk rfl (Nat.le_of_ble_eq_true rfl) (Nat.le_of_ble_eq_true rfl) hS (ka_qE () rfl trivial hK hP hD hS [] (by decide) rfl [] rfl) dX6_law_30
    · skip
      refine lv_aload_n hx hb dX6_law_0 rfl (lv_at hl 0 rfl) ?_
      refine lv_iload_n hx hb dX6_law_1 rfl (lv_at hl 1 rfl) ?_
      refine ka_RV (n := 1) C (ct_X6_changeable_23 l D a0 x0 a1 a2 a3 a4 a7 a8 (by omega)) gX6_law_X6_changeable rfl (by decide +kernel) ⟨Nat.le_of_ble_eq_true rfl, Nat.le_of_ble_eq_true rfl⟩ hK hP hS hE hN [0, 3] rfl [] rfl (ci := 6) rfl rfl 0 rfl rfl hl.1 (rest := []) rfl (Nat.le_of_ble_eq_true rfl) dX6_law_2 ⟨Nat.le_of_ble_eq_true rfl, Nat.le_of_ble_eq_true rfl⟩ (fun v hv => ?_)
      subst hv
      refine ka_stk (w := [.null]) rfl ?_
      refine lv_astore_nN (lv' := [(3, .null), (0, .ref a0), (1, .int x0), (2, .int x1)]) hx hb dX6_law_5 rfl hl (by decide) rfl (fun ls hl => ?_)
      refine lv_aload_nN hx hb dX6_law_6 rfl (lv_at hl 0 rfl) ?_
      refine lv_ifnullN (tgt := 29) hx hb dX6_law_7 (by decide) ?_
      refine lv_iconst (v := 0) hx hb dX6_law_29 (by decide) ?_
      exact ka_rEz C hr hlk rfl (Nat.le_of_ble_eq_true rfl) (Nat.le_of_ble_eq_true rfl) hS (ka_qE () rfl trivial hK hP hD hS [] (by decide) rfl [] rfl) dX6_law_30
  · obtain rfl : x0 = 0 := (ka_eq' _ _).mpr (y_1176.trans (by decide))
    rcases (show x1.toInt ≤ -1 ∨ x1.toInt = 0 ∨ 1 ≤ x1.toInt by omega) with y_1181 | y_1181 | y_1181
    · skip
      refine lv_aload_n hx hb dX6_law_0 rfl (lv_at hl 0 rfl) ?_
      refine lv_iload_n hx hb dX6_law_1 rfl (lv_at hl 1 rfl) ?_
      refine ka_RV (n := 1) C (ct_X6_changeable_27 l D a0 a1 a2 a3 a4 a7 a8 k0 a9 a10 a11 a12 a13 a14) gX6_law_X6_changeable rfl (by decide +kernel) ⟨Nat.le_of_ble_eq_true rfl, Nat.le_of_ble_eq_true rfl⟩ hK hP hS hE hN [0, 3, 4] rfl [0] rfl (ci := 6) rfl rfl 0 rfl rfl hl.1 (rest := []) rfl (Nat.le_of_ble_eq_true rfl) dX6_law_2 ⟨Nat.le_of_ble_eq_true rfl, Nat.le_of_ble_eq_true rfl⟩ (fun v hv => ?_)
      subst hv
      refine ka_stk (w := [.ref a9]) rfl ?_
      refine lv_astore_n (lv' := [(3, .ref a9), (0, .ref a0), (1, .int 0), (2, .int x1)]) hx hb dX6_law_5 rfl hl (by decide) rfl (fun ls hl => ?_)
      refine lv_aload_n hx hb dX6_law_6 rfl (lv_at hl 0 rfl) ?_
      refine lv_ifnull hx hb dX6_law_7 ?_
      refine lv_aload_n hx hb dX6_law_10 rfl (lv_at hl 1 rfl) ?_
      refine ka_get C lq_184 rfl hK hP 0 rfl 0 (by decide) lq_185 rfl dX6_law_11 ?_
      refine lv_iload_n hx hb dX6_law_14 rfl (lv_at hl 3 rfl) ?_
      refine ka_RV (n := 1) C (ct_X5_offers_28 l D a1 x1 (by omega)) gX6_law_X5_offers rfl (by decide +kernel) ⟨Nat.le_of_ble_eq_true rfl, Nat.le_of_ble_eq_true rfl⟩ hK hP hS hE hN [] rfl [] rfl (ci := 5) rfl rfl 1 rfl rfl hl.1 (rest := []) rfl (Nat.le_of_ble_eq_true rfl) dX6_law_15 ⟨Nat.le_of_ble_eq_true rfl, Nat.le_of_ble_eq_true rfl⟩ (fun v hv => ?_)
      subst hv
      refine ka_stk (w := [.int 0]) rfl ?_
      refine lv_if_eq (tgt := 29) hx hb dX6_law_18 (by decide) (fun _ => ?_) (fun c_ => absurd (by decide) c_)
      refine lv_iconst (v := 0) hx hb dX6_law_29 (by decide) ?_
      exact ka_rEz C hr hlk rfl (Nat.le_of_ble_eq_true rfl) (Nat.le_of_ble_eq_true rfl) hS (ka_qE () rfl trivial hK hP hD hS [] (by decide) rfl [] rfl) dX6_law_30
    · obtain rfl : x1 = 0 := (ka_eq' _ _).mpr (y_1181.trans (by decide))
      refine lv_aload_n hx hb dX6_law_0 rfl (lv_at hl 0 rfl) ?_
      refine lv_iload_n hx hb dX6_law_1 rfl (lv_at hl 1 rfl) ?_
      refine ka_RV (n := 1) C (ct_X6_changeable_27 l D a0 a1 a2 a3 a4 a7 a8 k0 a9 a10 a11 a12 a13 a14) gX6_law_X6_changeable rfl (by decide +kernel) ⟨Nat.le_of_ble_eq_true rfl, Nat.le_of_ble_eq_true rfl⟩ hK hP hS hE hN [0, 3, 4] rfl [0] rfl (ci := 6) rfl rfl 0 rfl rfl hl.1 (rest := []) rfl (Nat.le_of_ble_eq_true rfl) dX6_law_2 ⟨Nat.le_of_ble_eq_true rfl, Nat.le_of_ble_eq_true rfl⟩ (fun v hv => ?_)
      subst hv
      refine ka_stk (w := [.ref a9]) rfl ?_
      refine lv_astore_n (lv' := [(3, .ref a9), (0, .ref a0), (1, .int 0), (2, .int 0)]) hx hb dX6_law_5 rfl hl (by decide) rfl (fun ls hl => ?_)
      refine lv_aload_n hx hb dX6_law_6 rfl (lv_at hl 0 rfl) ?_
      refine lv_ifnull hx hb dX6_law_7 ?_
      refine lv_aload_n hx hb dX6_law_10 rfl (lv_at hl 1 rfl) ?_
      refine ka_get C lq_184 rfl hK hP 0 rfl 0 (by decide) lq_185 rfl dX6_law_11 ?_
      refine lv_iload_n hx hb dX6_law_14 rfl (lv_at hl 3 rfl) ?_
      refine ka_RV (n := 1) C (ct_X5_offers_29 l D a1 a5) gX6_law_X5_offers rfl (by decide +kernel) ⟨Nat.le_of_ble_eq_true rfl, Nat.le_of_ble_eq_true rfl⟩ hK hP hS hE hN [1] rfl [] rfl (ci := 5) rfl rfl 1 rfl rfl hl.1 (rest := []) rfl (Nat.le_of_ble_eq_true rfl) dX6_law_15 ⟨Nat.le_of_ble_eq_true rfl, Nat.le_of_ble_eq_true rfl⟩ (fun v hv => ?_)
      subst hv
      refine ka_stk (w := [.int 1]) rfl ?_
      refine lv_if_eq (tgt := 29) hx hb dX6_law_18 (by decide) (fun c_ => absurd c_ (by decide)) (fun _ => ?_)
      refine lv_aload_n hx hb dX6_law_21 rfl (lv_at hl 1 rfl) ?_
      refine lv_iload_n hx hb dX6_law_22 rfl (lv_at hl 3 rfl) ?_
      refine ka_EV (n := 1) (wr := [(a3, .inr (0, [.ref a7, .ref a8, .int 0])), (a7, .inl (k0, 6, .inr (.inr (.inr (.inr (va_up (va_up (va_up (va_up (va_up (va_up (fun _ => none) 0 (some a9)) 1 (some a10)) 2 (some a11)) 3 (some a12)) 4 (some a13)) 5 (some a14)))))))]) C (ct_X6_readTape_46 l D a0 a1 a2 a3 a4 a5 a6) gX6_law_X6_readTape rfl (by decide +kernel) ⟨Nat.le_of_ble_eq_true rfl, Nat.le_of_ble_eq_true rfl⟩ hK hP hD hS hA hE hN [0, 1, 2] rfl (by decide) [3, 4] rfl (by decide) (by decide) [] rfl (ci := 6) rfl rfl 0 rfl rfl hl.1 (rest := []) rfl (Nat.le_of_ble_eq_true rfl) dX6_law_23 ⟨Nat.le_of_ble_eq_true rfl, Nat.le_of_ble_eq_true rfl⟩ (fun u H locs _ hP hD hK hS => ?_)
      have hP : va_P D vwCl [(a3, .inr (0, [.ref a7, .ref a8, .int 0])), (a7, .inl (k0, 6, .inr (.inr (.inr (.inr (va_up (va_up (va_up (va_up (va_up (va_up (fun _ => none) 0 (some a9)) 1 (some a10)) 2 (some a11)) 3 (some a12)) 4 (some a13)) 5 (some a14))))))), (a0, .inr (6, [.ref a1, .ref a2, .ref a3, .ref a4, .int (-1), .int 0, .int 0, .int 3, .int 3])), (a2, .inr (3, [.ref a1, .ref a6, .int 0, .int 0, .int 0, .int 0, .int 3, .int 0])), (a1, .inr (5, [.ref a5, .int 0]))] H := hP
      have hD : va_D A [(a3, .inr (0, [.ref a7, .ref a8, .int 0])), (a7, .inl (k0, 6, .inr (.inr (.inr (.inr (va_up (va_up (va_up (va_up (va_up (va_up (fun _ => none) 0 (some a9)) 1 (some a10)) 2 (some a11)) 3 (some a12)) 4 (some a13)) 5 (some a14))))))), (a0, .inr (6, [.ref a1, .ref a2, .ref a3, .ref a4, .int (-1), .int 0, .int 0, .int 3, .int 3])), (a2, .inr (3, [.ref a1, .ref a6, .int 0, .int 0, .int 0, .int 0, .int 3, .int 0])), (a1, .inr (5, [.ref a5, .int 0]))] := hD
      have hK : va_K D vwCl [(k0, .object RX2)] s := hK
      refine ka_stk (w := [.int 0]) rfl ?_
      refine lv_if_ne (tgt := 31) hx hb dX6_law_26 (by decide) (fun c_ => absurd (by decide) c_) (fun _ => ?_)
      refine lv_iconst (v := 0) hx hb dX6_law_29 (by decide) ?_
      exact ka_rEz C hr hlk rfl (Nat.le_of_ble_eq_true rfl) (Nat.le_of_ble_eq_true rfl) hS (ka_qE () rfl trivial hK hP hD hS [] (by decide) rfl [] rfl) dX6_law_30
    · skip
      refine lv_aload_n hx hb dX6_law_0 rfl (lv_at hl 0 rfl) ?_
      refine lv_iload_n hx hb dX6_law_1 rfl (lv_at hl 1 rfl) ?_
      refine ka_RV (n := 1) C (ct_X6_changeable_27 l D a0 a1 a2 a3 a4 a7 a8 k0 a9 a10 a11 a12 a13 a14) gX6_law_X6_changeable rfl (by decide +kernel) ⟨Nat.le_of_ble_eq_true rfl, Nat.le_of_ble_eq_true rfl⟩ hK hP hS hE hN [0, 3, 4] rfl [0] rfl (ci := 6) rfl rfl 0 rfl rfl hl.1 (rest := []) rfl (Nat.le_of_ble_eq_true rfl) dX6_law_2 ⟨Nat.le_of_ble_eq_true rfl, Nat.le_of_ble_eq_true rfl⟩ (fun v hv => ?_)
      subst hv
      refine ka_stk (w := [.ref a9]) rfl ?_
      refine lv_astore_n (lv' := [(3, .ref a9), (0, .ref a0), (1, .int 0), (2, .int x1)]) hx hb dX6_law_5 rfl hl (by decide) rfl (fun ls hl => ?_)
      refine lv_aload_n hx hb dX6_law_6 rfl (lv_at hl 0 rfl) ?_
      refine lv_ifnull hx hb dX6_law_7 ?_
      refine lv_aload_n hx hb dX6_law_10 rfl (lv_at hl 1 rfl) ?_
      refine ka_get C lq_184 rfl hK hP 0 rfl 0 (by decide) lq_185 rfl dX6_law_11 ?_
      refine lv_iload_n hx hb dX6_law_14 rfl (lv_at hl 3 rfl) ?_
      refine ka_RV (n := 1) C (ct_X5_offers_47 l D a1 x1 a5 (by omega)) gX6_law_X5_offers rfl (by decide +kernel) ⟨Nat.le_of_ble_eq_true rfl, Nat.le_of_ble_eq_true rfl⟩ hK hP hS hE hN [1] rfl [] rfl (ci := 5) rfl rfl 1 rfl rfl hl.1 (rest := []) rfl (Nat.le_of_ble_eq_true rfl) dX6_law_15 ⟨Nat.le_of_ble_eq_true rfl, Nat.le_of_ble_eq_true rfl⟩ (fun v hv => ?_)
      subst hv
      refine ka_stk (w := [.int 0]) rfl ?_
      refine lv_if_eq (tgt := 29) hx hb dX6_law_18 (by decide) (fun _ => ?_) (fun c_ => absurd (by decide) c_)
      refine lv_iconst (v := 0) hx hb dX6_law_29 (by decide) ?_
      exact ka_rEz C hr hlk rfl (Nat.le_of_ble_eq_true rfl) (Nat.le_of_ble_eq_true rfl) hS (ka_qE () rfl trivial hK hP hD hS [] (by decide) rfl [] rfl) dX6_law_30
  · obtain rfl : x0 = 1 := (ka_eq' _ _).mpr (y_1176.trans (by decide))
    rcases (show x1.toInt ≤ -1 ∨ x1.toInt = 0 ∨ 1 ≤ x1.toInt by omega) with y_1183 | y_1183 | y_1183
    · skip
      refine lv_aload_n hx hb dX6_law_0 rfl (lv_at hl 0 rfl) ?_
      refine lv_iload_n hx hb dX6_law_1 rfl (lv_at hl 1 rfl) ?_
      refine ka_RV (n := 1) C (ct_X6_changeable_51 l D a0 a1 a2 a3 a4 a7 a8 k0 a9 a10 a11 a12 a13 a14) gX6_law_X6_changeable rfl (by decide +kernel) ⟨Nat.le_of_ble_eq_true rfl, Nat.le_of_ble_eq_true rfl⟩ hK hP hS hE hN [0, 3, 4] rfl [0] rfl (ci := 6) rfl rfl 0 rfl rfl hl.1 (rest := []) rfl (Nat.le_of_ble_eq_true rfl) dX6_law_2 ⟨Nat.le_of_ble_eq_true rfl, Nat.le_of_ble_eq_true rfl⟩ (fun v hv => ?_)
      subst hv
      refine ka_stk (w := [.ref a10]) rfl ?_
      refine lv_astore_n (lv' := [(3, .ref a10), (0, .ref a0), (1, .int 1), (2, .int x1)]) hx hb dX6_law_5 rfl hl (by decide) rfl (fun ls hl => ?_)
      refine lv_aload_n hx hb dX6_law_6 rfl (lv_at hl 0 rfl) ?_
      refine lv_ifnull hx hb dX6_law_7 ?_
      refine lv_aload_n hx hb dX6_law_10 rfl (lv_at hl 1 rfl) ?_
      refine ka_get C lq_184 rfl hK hP 0 rfl 0 (by decide) lq_185 rfl dX6_law_11 ?_
      refine lv_iload_n hx hb dX6_law_14 rfl (lv_at hl 3 rfl) ?_
      refine ka_RV (n := 1) C (ct_X5_offers_28 l D a1 x1 (by omega)) gX6_law_X5_offers rfl (by decide +kernel) ⟨Nat.le_of_ble_eq_true rfl, Nat.le_of_ble_eq_true rfl⟩ hK hP hS hE hN [] rfl [] rfl (ci := 5) rfl rfl 1 rfl rfl hl.1 (rest := []) rfl (Nat.le_of_ble_eq_true rfl) dX6_law_15 ⟨Nat.le_of_ble_eq_true rfl, Nat.le_of_ble_eq_true rfl⟩ (fun v hv => ?_)
      subst hv
      refine ka_stk (w := [.int 0]) rfl ?_
      refine lv_if_eq (tgt := 29) hx hb dX6_law_18 (by decide) (fun _ => ?_) (fun c_ => absurd (by decide) c_)
      refine lv_iconst (v := 0) hx hb dX6_law_29 (by decide) ?_
      exact ka_rEz C hr hlk rfl (Nat.le_of_ble_eq_true rfl) (Nat.le_of_ble_eq_true rfl) hS (ka_qE () rfl trivial hK hP hD hS [] (by decide) rfl [] rfl) dX6_law_30
    · obtain rfl : x1 = 0 := (ka_eq' _ _).mpr (y_1183.trans (by decide))
      refine lv_aload_n hx hb dX6_law_0 rfl (lv_at hl 0 rfl) ?_
      refine lv_iload_n hx hb dX6_law_1 rfl (lv_at hl 1 rfl) ?_
      refine ka_RV (n := 1) C (ct_X6_changeable_51 l D a0 a1 a2 a3 a4 a7 a8 k0 a9 a10 a11 a12 a13 a14) gX6_law_X6_changeable rfl (by decide +kernel) ⟨Nat.le_of_ble_eq_true rfl, Nat.le_of_ble_eq_true rfl⟩ hK hP hS hE hN [0, 3, 4] rfl [0] rfl (ci := 6) rfl rfl 0 rfl rfl hl.1 (rest := []) rfl (Nat.le_of_ble_eq_true rfl) dX6_law_2 ⟨Nat.le_of_ble_eq_true rfl, Nat.le_of_ble_eq_true rfl⟩ (fun v hv => ?_)
      subst hv
      refine ka_stk (w := [.ref a10]) rfl ?_
      refine lv_astore_n (lv' := [(3, .ref a10), (0, .ref a0), (1, .int 1), (2, .int 0)]) hx hb dX6_law_5 rfl hl (by decide) rfl (fun ls hl => ?_)
      refine lv_aload_n hx hb dX6_law_6 rfl (lv_at hl 0 rfl) ?_
      refine lv_ifnull hx hb dX6_law_7 ?_
      refine lv_aload_n hx hb dX6_law_10 rfl (lv_at hl 1 rfl) ?_
      refine ka_get C lq_184 rfl hK hP 0 rfl 0 (by decide) lq_185 rfl dX6_law_11 ?_
      refine lv_iload_n hx hb dX6_law_14 rfl (lv_at hl 3 rfl) ?_
      refine ka_RV (n := 1) C (ct_X5_offers_29 l D a1 a5) gX6_law_X5_offers rfl (by decide +kernel) ⟨Nat.le_of_ble_eq_true rfl, Nat.le_of_ble_eq_true rfl⟩ hK hP hS hE hN [1] rfl [] rfl (ci := 5) rfl rfl 1 rfl rfl hl.1 (rest := []) rfl (Nat.le_of_ble_eq_true rfl) dX6_law_15 ⟨Nat.le_of_ble_eq_true rfl, Nat.le_of_ble_eq_true rfl⟩ (fun v hv => ?_)
      subst hv
      refine ka_stk (w := [.int 1]) rfl ?_
      refine lv_if_eq (tgt := 29) hx hb dX6_law_18 (by decide) (fun c_ => absurd c_ (by decide)) (fun _ => ?_)
      refine lv_aload_n hx hb dX6_law_21 rfl (lv_at hl 1 rfl) ?_
      refine lv_iload_n hx hb dX6_law_22 rfl (lv_at hl 3 rfl) ?_
      refine ka_EV (n := 1) (wr := [(a3, .inr (0, [.ref a7, .ref a8, .int 0])), (a7, .inl (k0, 6, .inr (.inr (.inr (.inr (va_up (va_up (va_up (va_up (va_up (va_up (fun _ => none) 0 (some a9)) 1 (some a10)) 2 (some a11)) 3 (some a12)) 4 (some a13)) 5 (some a14)))))))]) C (ct_X6_readTape_46 l D a0 a1 a2 a3 a4 a5 a6) gX6_law_X6_readTape rfl (by decide +kernel) ⟨Nat.le_of_ble_eq_true rfl, Nat.le_of_ble_eq_true rfl⟩ hK hP hD hS hA hE hN [0, 1, 2] rfl (by decide) [3, 4] rfl (by decide) (by decide) [] rfl (ci := 6) rfl rfl 0 rfl rfl hl.1 (rest := []) rfl (Nat.le_of_ble_eq_true rfl) dX6_law_23 ⟨Nat.le_of_ble_eq_true rfl, Nat.le_of_ble_eq_true rfl⟩ (fun u H locs _ hP hD hK hS => ?_)
      have hP : va_P D vwCl [(a3, .inr (0, [.ref a7, .ref a8, .int 0])), (a7, .inl (k0, 6, .inr (.inr (.inr (.inr (va_up (va_up (va_up (va_up (va_up (va_up (fun _ => none) 0 (some a9)) 1 (some a10)) 2 (some a11)) 3 (some a12)) 4 (some a13)) 5 (some a14))))))), (a0, .inr (6, [.ref a1, .ref a2, .ref a3, .ref a4, .int (-1), .int 0, .int 0, .int 3, .int 3])), (a2, .inr (3, [.ref a1, .ref a6, .int 0, .int 0, .int 0, .int 0, .int 3, .int 0])), (a1, .inr (5, [.ref a5, .int 0]))] H := hP
      have hD : va_D A [(a3, .inr (0, [.ref a7, .ref a8, .int 0])), (a7, .inl (k0, 6, .inr (.inr (.inr (.inr (va_up (va_up (va_up (va_up (va_up (va_up (fun _ => none) 0 (some a9)) 1 (some a10)) 2 (some a11)) 3 (some a12)) 4 (some a13)) 5 (some a14))))))), (a0, .inr (6, [.ref a1, .ref a2, .ref a3, .ref a4, .int (-1), .int 0, .int 0, .int 3, .int 3])), (a2, .inr (3, [.ref a1, .ref a6, .int 0, .int 0, .int 0, .int 0, .int 3, .int 0])), (a1, .inr (5, [.ref a5, .int 0]))] := hD
      have hK : va_K D vwCl [(k0, .object RX2)] s := hK
      refine ka_stk (w := [.int 0]) rfl ?_
      refine lv_if_ne (tgt := 31) hx hb dX6_law_26 (by decide) (fun c_ => absurd (by decide) c_) (fun _ => ?_)
      refine lv_iconst (v := 0) hx hb dX6_law_29 (by decide) ?_
      exact ka_rEz C hr hlk rfl (Nat.le_of_ble_eq_true rfl) (Nat.le_of_ble_eq_true rfl) hS (ka_qE () rfl trivial hK hP hD hS [] (by decide) rfl [] rfl) dX6_law_30
    · skip
      refine lv_aload_n hx hb dX6_law_0 rfl (lv_at hl 0 rfl) ?_
      refine lv_iload_n hx hb dX6_law_1 rfl (lv_at hl 1 rfl) ?_
      refine ka_RV (n := 1) C (ct_X6_changeable_51 l D a0 a1 a2 a3 a4 a7 a8 k0 a9 a10 a11 a12 a13 a14) gX6_law_X6_changeable rfl (by decide +kernel) ⟨Nat.le_of_ble_eq_true rfl, Nat.le_of_ble_eq_true rfl⟩ hK hP hS hE hN [0, 3, 4] rfl [0] rfl (ci := 6) rfl rfl 0 rfl rfl hl.1 (rest := []) rfl (Nat.le_of_ble_eq_true rfl) dX6_law_2 ⟨Nat.le_of_ble_eq_true rfl, Nat.le_of_ble_eq_true rfl⟩ (fun v hv => ?_)
      subst hv
      refine ka_stk (w := [.ref a10]) rfl ?_
      refine lv_astore_n (lv' := [(3, .ref a10), (0, .ref a0), (1, .int 1), (2, .int x1)]) hx hb dX6_law_5 rfl hl (by decide) rfl (fun ls hl => ?_)
      refine lv_aload_n hx hb dX6_law_6 rfl (lv_at hl 0 rfl) ?_
      refine lv_ifnull hx hb dX6_law_7 ?_
      refine lv_aload_n hx hb dX6_law_10 rfl (lv_at hl 1 rfl) ?_
      refine ka_get C lq_184 rfl hK hP 0 rfl 0 (by decide) lq_185 rfl dX6_law_11 ?_
      refine lv_iload_n hx hb dX6_law_14 rfl (lv_at hl 3 rfl) ?_
      refine ka_RV (n := 1) C (ct_X5_offers_47 l D a1 x1 a5 (by omega)) gX6_law_X5_offers rfl (by decide +kernel) ⟨Nat.le_of_ble_eq_true rfl, Nat.le_of_ble_eq_true rfl⟩ hK hP hS hE hN [1] rfl [] rfl (ci := 5) rfl rfl 1 rfl rfl hl.1 (rest := []) rfl (Nat.le_of_ble_eq_true rfl) dX6_law_15 ⟨Nat.le_of_ble_eq_true rfl, Nat.le_of_ble_eq_true rfl⟩ (fun v hv => ?_)
      subst hv
      refine ka_stk (w := [.int 0]) rfl ?_
      refine lv_if_eq (tgt := 29) hx hb dX6_law_18 (by decide) (fun _ => ?_) (fun c_ => absurd (by decide) c_)
      refine lv_iconst (v := 0) hx hb dX6_law_29 (by decide) ?_
      exact ka_rEz C hr hlk rfl (Nat.le_of_ble_eq_true rfl) (Nat.le_of_ble_eq_true rfl) hS (ka_qE () rfl trivial hK hP hD hS [] (by decide) rfl [] rfl) dX6_law_30
  · obtain rfl : x0 = 2 := (ka_eq' _ _).mpr (y_1176.trans (by decide))
    rcases (show x1.toInt ≤ -1 ∨ x1.toInt = 0 ∨ 1 ≤ x1.toInt by omega) with y_1185 | y_1185 | y_1185
    · skip
      refine lv_aload_n hx hb dX6_law_0 rfl (lv_at hl 0 rfl) ?_
      refine lv_iload_n hx hb dX6_law_1 rfl (lv_at hl 1 rfl) ?_
      refine ka_RV (n := 1) C (ct_X6_changeable_55 l D a0 a1 a2 a3 a4 a7 a8 k0 a9 a10 a11 a12 a13 a14) gX6_law_X6_changeable rfl (by decide +kernel) ⟨Nat.le_of_ble_eq_true rfl, Nat.le_of_ble_eq_true rfl⟩ hK hP hS hE hN [0, 3, 4] rfl [0] rfl (ci := 6) rfl rfl 0 rfl rfl hl.1 (rest := []) rfl (Nat.le_of_ble_eq_true rfl) dX6_law_2 ⟨Nat.le_of_ble_eq_true rfl, Nat.le_of_ble_eq_true rfl⟩ (fun v hv => ?_)
      subst hv
      refine ka_stk (w := [.ref a11]) rfl ?_
      refine lv_astore_n (lv' := [(3, .ref a11), (0, .ref a0), (1, .int 2), (2, .int x1)]) hx hb dX6_law_5 rfl hl (by decide) rfl (fun ls hl => ?_)
      refine lv_aload_n hx hb dX6_law_6 rfl (lv_at hl 0 rfl) ?_
      refine lv_ifnull hx hb dX6_law_7 ?_
      refine lv_aload_n hx hb dX6_law_10 rfl (lv_at hl 1 rfl) ?_
      refine ka_get C lq_184 rfl hK hP 0 rfl 0 (by decide) lq_185 rfl dX6_law_11 ?_
      refine lv_iload_n hx hb dX6_law_14 rfl (lv_at hl 3 rfl) ?_
      refine ka_RV (n := 1) C (ct_X5_offers_28 l D a1 x1 (by omega)) gX6_law_X5_offers rfl (by decide +kernel) ⟨Nat.le_of_ble_eq_true rfl, Nat.le_of_ble_eq_true rfl⟩ hK hP hS hE hN [] rfl [] rfl (ci := 5) rfl rfl 1 rfl rfl hl.1 (rest := []) rfl (Nat.le_of_ble_eq_true rfl) dX6_law_15 ⟨Nat.le_of_ble_eq_true rfl, Nat.le_of_ble_eq_true rfl⟩ (fun v hv => ?_)
      subst hv
      refine ka_stk (w := [.int 0]) rfl ?_
      refine lv_if_eq (tgt := 29) hx hb dX6_law_18 (by decide) (fun _ => ?_) (fun c_ => absurd (by decide) c_)
      refine lv_iconst (v := 0) hx hb dX6_law_29 (by decide) ?_
      exact ka_rEz C hr hlk rfl (Nat.le_of_ble_eq_true rfl) (Nat.le_of_ble_eq_true rfl) hS (ka_qE () rfl trivial hK hP hD hS [] (by decide) rfl [] rfl) dX6_law_30
    · obtain rfl : x1 = 0 := (ka_eq' _ _).mpr (y_1185.trans (by decide))
      refine lv_aload_n hx hb dX6_law_0 rfl (lv_at hl 0 rfl) ?_
      refine lv_iload_n hx hb dX6_law_1 rfl (lv_at hl 1 rfl) ?_
      refine ka_RV (n := 1) C (ct_X6_changeable_55 l D a0 a1 a2 a3 a4 a7 a8 k0 a9 a10 a11 a12 a13 a14) gX6_law_X6_changeable rfl (by decide +kernel) ⟨Nat.le_of_ble_eq_true rfl, Nat.le_of_ble_eq_true rfl⟩ hK hP hS hE hN [0, 3, 4] rfl [0] rfl (ci := 6) rfl rfl 0 rfl rfl hl.1 (rest := []) rfl (Nat.le_of_ble_eq_true rfl) dX6_law_2 ⟨Nat.le_of_ble_eq_true rfl, Nat.le_of_ble_eq_true rfl⟩ (fun v hv => ?_)
      subst hv
      refine ka_stk (w := [.ref a11]) rfl ?_
      refine lv_astore_n (lv' := [(3, .ref a11), (0, .ref a0), (1, .int 2), (2, .int 0)]) hx hb dX6_law_5 rfl hl (by decide) rfl (fun ls hl => ?_)
      refine lv_aload_n hx hb dX6_law_6 rfl (lv_at hl 0 rfl) ?_
      refine lv_ifnull hx hb dX6_law_7 ?_
      refine lv_aload_n hx hb dX6_law_10 rfl (lv_at hl 1 rfl) ?_
      refine ka_get C lq_184 rfl hK hP 0 rfl 0 (by decide) lq_185 rfl dX6_law_11 ?_
      refine lv_iload_n hx hb dX6_law_14 rfl (lv_at hl 3 rfl) ?_
      refine ka_RV (n := 1) C (ct_X5_offers_29 l D a1 a5) gX6_law_X5_offers rfl (by decide +kernel) ⟨Nat.le_of_ble_eq_true rfl, Nat.le_of_ble_eq_true rfl⟩ hK hP hS hE hN [1] rfl [] rfl (ci := 5) rfl rfl 1 rfl rfl hl.1 (rest := []) rfl (Nat.le_of_ble_eq_true rfl) dX6_law_15 ⟨Nat.le_of_ble_eq_true rfl, Nat.le_of_ble_eq_true rfl⟩ (fun v hv => ?_)
      subst hv
      refine ka_stk (w := [.int 1]) rfl ?_
      refine lv_if_eq (tgt := 29) hx hb dX6_law_18 (by decide) (fun c_ => absurd c_ (by decide)) (fun _ => ?_)
      refine lv_aload_n hx hb dX6_law_21 rfl (lv_at hl 1 rfl) ?_
      refine lv_iload_n hx hb dX6_law_22 rfl (lv_at hl 3 rfl) ?_
      refine ka_EV (n := 1) (wr := [(a3, .inr (0, [.ref a7, .ref a8, .int 0])), (a7, .inl (k0, 6, .inr (.inr (.inr (.inr (va_up (va_up (va_up (va_up (va_up (va_up (fun _ => none) 0 (some a9)) 1 (some a10)) 2 (some a11)) 3 (some a12)) 4 (some a13)) 5 (some a14)))))))]) C (ct_X6_readTape_46 l D a0 a1 a2 a3 a4 a5 a6) gX6_law_X6_readTape rfl (by decide +kernel) ⟨Nat.le_of_ble_eq_true rfl, Nat.le_of_ble_eq_true rfl⟩ hK hP hD hS hA hE hN [0, 1, 2] rfl (by decide) [3, 4] rfl (by decide) (by decide) [] rfl (ci := 6) rfl rfl 0 rfl rfl hl.1 (rest := []) rfl (Nat.le_of_ble_eq_true rfl) dX6_law_23 ⟨Nat.le_of_ble_eq_true rfl, Nat.le_of_ble_eq_true rfl⟩ (fun u H locs _ hP hD hK hS => ?_)
      have hP : va_P D vwCl [(a3, .inr (0, [.ref a7, .ref a8, .int 0])), (a7, .inl (k0, 6, .inr (.inr (.inr (.inr (va_up (va_up (va_up (va_up (va_up (va_up (fun _ => none) 0 (some a9)) 1 (some a10)) 2 (some a11)) 3 (some a12)) 4 (some a13)) 5 (some a14))))))), (a0, .inr (6, [.ref a1, .ref a2, .ref a3, .ref a4, .int (-1), .int 0, .int 0, .int 3, .int 3])), (a2, .inr (3, [.ref a1, .ref a6, .int 0, .int 0, .int 0, .int 0, .int 3, .int 0])), (a1, .inr (5, [.ref a5, .int 0]))] H := hP
      have hD : va_D A [(a3, .inr (0, [.ref a7, .ref a8, .int 0])), (a7, .inl (k0, 6, .inr (.inr (.inr (.inr (va_up (va_up (va_up (va_up (va_up (va_up (fun _ => none) 0 (some a9)) 1 (some a10)) 2 (some a11)) 3 (some a12)) 4 (some a13)) 5 (some a14))))))), (a0, .inr (6, [.ref a1, .ref a2, .ref a3, .ref a4, .int (-1), .int 0, .int 0, .int 3, .int 3])), (a2, .inr (3, [.ref a1, .ref a6, .int 0, .int 0, .int 0, .int 0, .int 3, .int 0])), (a1, .inr (5, [.ref a5, .int 0]))] := hD
      have hK : va_K D vwCl [(k0, .object RX2)] s := hK
      refine ka_stk (w := [.int 0]) rfl ?_
      refine lv_if_ne (tgt := 31) hx hb dX6_law_26 (by decide) (fun c_ => absurd (by decide) c_) (fun _ => ?_)
      refine lv_iconst (v := 0) hx hb dX6_law_29 (by decide) ?_
      exact ka_rEz C hr hlk rfl (Nat.le_of_ble_eq_true rfl) (Nat.le_of_ble_eq_true rfl) hS (ka_qE () rfl trivial hK hP hD hS [] (by decide) rfl [] rfl) dX6_law_30
    · skip
      refine lv_aload_n hx hb dX6_law_0 rfl (lv_at hl 0 rfl) ?_
      refine lv_iload_n hx hb dX6_law_1 rfl (lv_at hl 1 rfl) ?_
      refine ka_RV (n := 1) C (ct_X6_changeable_55 l D a0 a1 a2 a3 a4 a7 a8 k0 a9 a10 a11 a12 a13 a14) gX6_law_X6_changeable rfl (by decide +kernel) ⟨Nat.le_of_ble_eq_true rfl, Nat.le_of_ble_eq_true rfl⟩ hK hP hS hE hN [0, 3, 4] rfl [0] rfl (ci := 6) rfl rfl 0 rfl rfl hl.1 (rest := []) rfl (Nat.le_of_ble_eq_true rfl) dX6_law_2 ⟨Nat.le_of_ble_eq_true rfl, Nat.le_of_ble_eq_true rfl⟩ (fun v hv => ?_)
      subst hv
      refine ka_stk (w := [.ref a11]) rfl ?_
      refine lv_astore_n (lv' := [(3, .ref a11), (0, .ref a0), (1, .int 2), (2, .int x1)]) hx hb dX6_law_5 rfl hl (by decide) rfl (fun ls hl => ?_)
      refine lv_aload_n hx hb dX6_law_6 rfl (lv_at hl 0 rfl) ?_
      refine lv_ifnull hx hb dX6_law_7 ?_
      refine lv_aload_n hx hb dX6_law_10 rfl (lv_at hl 1 rfl) ?_
      refine ka_get C lq_184 rfl hK hP 0 rfl 0 (by decide) lq_185 rfl dX6_law_11 ?_
      refine lv_iload_n hx hb dX6_law_14 rfl (lv_at hl 3 rfl) ?_
      refine ka_RV (n := 1) C (ct_X5_offers_47 l D a1 x1 a5 (by omega)) gX6_law_X5_offers rfl (by decide +kernel) ⟨Nat.le_of_ble_eq_true rfl, Nat.le_of_ble_eq_true rfl⟩ hK hP hS hE hN [1] rfl [] rfl (ci := 5) rfl rfl 1 rfl rfl hl.1 (rest := []) rfl (Nat.le_of_ble_eq_true rfl) dX6_law_15 ⟨Nat.le_of_ble_eq_true rfl, Nat.le_of_ble_eq_true rfl⟩ (fun v hv => ?_)
      subst hv
      refine ka_stk (w := [.int 0]) rfl ?_
      refine lv_if_eq (tgt := 29) hx hb dX6_law_18 (by decide) (fun _ => ?_) (fun c_ => absurd (by decide) c_)
      refine lv_iconst (v := 0) hx hb dX6_law_29 (by decide) ?_
      exact ka_rEz C hr hlk rfl (Nat.le_of_ble_eq_true rfl) (Nat.le_of_ble_eq_true rfl) hS (ka_qE () rfl trivial hK hP hD hS [] (by decide) rfl [] rfl) dX6_law_30
  · obtain rfl : x0 = 3 := (ka_eq' _ _).mpr (y_1176.trans (by decide))
    rcases (show x1.toInt ≤ -1 ∨ x1.toInt = 0 ∨ 1 ≤ x1.toInt by omega) with y_1187 | y_1187 | y_1187
    · skip
      refine lv_aload_n hx hb dX6_law_0 rfl (lv_at hl 0 rfl) ?_
      refine lv_iload_n hx hb dX6_law_1 rfl (lv_at hl 1 rfl) ?_
      refine ka_RV (n := 1) C (ct_X6_changeable_59 l D a0 a1 a2 a3 a4 a7 a8 k0 a9 a10 a11 a12 a13 a14) gX6_law_X6_changeable rfl (by decide +kernel) ⟨Nat.le_of_ble_eq_true rfl, Nat.le_of_ble_eq_true rfl⟩ hK hP hS hE hN [0, 3, 4] rfl [0] rfl (ci := 6) rfl rfl 0 rfl rfl hl.1 (rest := []) rfl (Nat.le_of_ble_eq_true rfl) dX6_law_2 ⟨Nat.le_of_ble_eq_true rfl, Nat.le_of_ble_eq_true rfl⟩ (fun v hv => ?_)
      subst hv
      refine ka_stk (w := [.ref a12]) rfl ?_
      refine lv_astore_n (lv' := [(3, .ref a12), (0, .ref a0), (1, .int 3), (2, .int x1)]) hx hb dX6_law_5 rfl hl (by decide) rfl (fun ls hl => ?_)
      refine lv_aload_n hx hb dX6_law_6 rfl (lv_at hl 0 rfl) ?_
      refine lv_ifnull hx hb dX6_law_7 ?_
      refine lv_aload_n hx hb dX6_law_10 rfl (lv_at hl 1 rfl) ?_
      refine ka_get C lq_184 rfl hK hP 0 rfl 0 (by decide) lq_185 rfl dX6_law_11 ?_
      refine lv_iload_n hx hb dX6_law_14 rfl (lv_at hl 3 rfl) ?_
      refine ka_RV (n := 1) C (ct_X5_offers_28 l D a1 x1 (by omega)) gX6_law_X5_offers rfl (by decide +kernel) ⟨Nat.le_of_ble_eq_true rfl, Nat.le_of_ble_eq_true rfl⟩ hK hP hS hE hN [] rfl [] rfl (ci := 5) rfl rfl 1 rfl rfl hl.1 (rest := []) rfl (Nat.le_of_ble_eq_true rfl) dX6_law_15 ⟨Nat.le_of_ble_eq_true rfl, Nat.le_of_ble_eq_true rfl⟩ (fun v hv => ?_)
      subst hv
      refine ka_stk (w := [.int 0]) rfl ?_
      refine lv_if_eq (tgt := 29) hx hb dX6_law_18 (by decide) (fun _ => ?_) (fun c_ => absurd (by decide) c_)
      refine lv_iconst (v := 0) hx hb dX6_law_29 (by decide) ?_
      exact ka_rEz C hr hlk rfl (Nat.le_of_ble_eq_true rfl) (Nat.le_of_ble_eq_true rfl) hS (ka_qE () rfl trivial hK hP hD hS [] (by decide) rfl [] rfl) dX6_law_30
    · obtain rfl : x1 = 0 := (ka_eq' _ _).mpr (y_1187.trans (by decide))
      refine lv_aload_n hx hb dX6_law_0 rfl (lv_at hl 0 rfl) ?_
      refine lv_iload_n hx hb dX6_law_1 rfl (lv_at hl 1 rfl) ?_
      refine ka_RV (n := 1) C (ct_X6_changeable_59 l D a0 a1 a2 a3 a4 a7 a8 k0 a9 a10 a11 a12 a13 a14) gX6_law_X6_changeable rfl (by decide +kernel) ⟨Nat.le_of_ble_eq_true rfl, Nat.le_of_ble_eq_true rfl⟩ hK hP hS hE hN [0, 3, 4] rfl [0] rfl (ci := 6) rfl rfl 0 rfl rfl hl.1 (rest := []) rfl (Nat.le_of_ble_eq_true rfl) dX6_law_2 ⟨Nat.le_of_ble_eq_true rfl, Nat.le_of_ble_eq_true rfl⟩ (fun v hv => ?_)
      subst hv
      refine ka_stk (w := [.ref a12]) rfl ?_
      refine lv_astore_n (lv' := [(3, .ref a12), (0, .ref a0), (1, .int 3), (2, .int 0)]) hx hb dX6_law_5 rfl hl (by decide) rfl (fun ls hl => ?_)
      refine lv_aload_n hx hb dX6_law_6 rfl (lv_at hl 0 rfl) ?_
      refine lv_ifnull hx hb dX6_law_7 ?_
      refine lv_aload_n hx hb dX6_law_10 rfl (lv_at hl 1 rfl) ?_
      refine ka_get C lq_184 rfl hK hP 0 rfl 0 (by decide) lq_185 rfl dX6_law_11 ?_
      refine lv_iload_n hx hb dX6_law_14 rfl (lv_at hl 3 rfl) ?_
      refine ka_RV (n := 1) C (ct_X5_offers_29 l D a1 a5) gX6_law_X5_offers rfl (by decide +kernel) ⟨Nat.le_of_ble_eq_true rfl, Nat.le_of_ble_eq_true rfl⟩ hK hP hS hE hN [1] rfl [] rfl (ci := 5) rfl rfl 1 rfl rfl hl.1 (rest := []) rfl (Nat.le_of_ble_eq_true rfl) dX6_law_15 ⟨Nat.le_of_ble_eq_true rfl, Nat.le_of_ble_eq_true rfl⟩ (fun v hv => ?_)
      subst hv
      refine ka_stk (w := [.int 1]) rfl ?_
      refine lv_if_eq (tgt := 29) hx hb dX6_law_18 (by decide) (fun c_ => absurd c_ (by decide)) (fun _ => ?_)
      refine lv_aload_n hx hb dX6_law_21 rfl (lv_at hl 1 rfl) ?_
      refine lv_iload_n hx hb dX6_law_22 rfl (lv_at hl 3 rfl) ?_
      refine ka_EV (n := 1) (wr := [(a3, .inr (0, [.ref a7, .ref a8, .int 0])), (a7, .inl (k0, 6, .inr (.inr (.inr (.inr (va_up (va_up (va_up (va_up (va_up (va_up (fun _ => none) 0 (some a9)) 1 (some a10)) 2 (some a11)) 3 (some a12)) 4 (some a13)) 5 (some a14)))))))]) C (ct_X6_readTape_46 l D a0 a1 a2 a3 a4 a5 a6) gX6_law_X6_readTape rfl (by decide +kernel) ⟨Nat.le_of_ble_eq_true rfl, Nat.le_of_ble_eq_true rfl⟩ hK hP hD hS hA hE hN [0, 1, 2] rfl (by decide) [3, 4] rfl (by decide) (by decide) [] rfl (ci := 6) rfl rfl 0 rfl rfl hl.1 (rest := []) rfl (Nat.le_of_ble_eq_true rfl) dX6_law_23 ⟨Nat.le_of_ble_eq_true rfl, Nat.le_of_ble_eq_true rfl⟩ (fun u H locs _ hP hD hK hS => ?_)
      have hP : va_P D vwCl [(a3, .inr (0, [.ref a7, .ref a8, .int 0])), (a7, .inl (k0, 6, .inr (.inr (.inr (.inr (va_up (va_up (va_up (va_up (va_up (va_up (fun _ => none) 0 (some a9)) 1 (some a10)) 2 (some a11)) 3 (some a12)) 4 (some a13)) 5 (some a14))))))), (a0, .inr (6, [.ref a1, .ref a2, .ref a3, .ref a4, .int (-1), .int 0, .int 0, .int 3, .int 3])), (a2, .inr (3, [.ref a1, .ref a6, .int 0, .int 0, .int 0, .int 0, .int 3, .int 0])), (a1, .inr (5, [.ref a5, .int 0]))] H := hP
      have hD : va_D A [(a3, .inr (0, [.ref a7, .ref a8, .int 0])), (a7, .inl (k0, 6, .inr (.inr (.inr (.inr (va_up (va_up (va_up (va_up (va_up (va_up (fun _ => none) 0 (some a9)) 1 (some a10)) 2 (some a11)) 3 (some a12)) 4 (some a13)) 5 (some a14))))))), (a0, .inr (6, [.ref a1, .ref a2, .ref a3, .ref a4, .int (-1), .int 0, .int 0, .int 3, .int 3])), (a2, .inr (3, [.ref a1, .ref a6, .int 0, .int 0, .int 0, .int 0, .int 3, .int 0])), (a1, .inr (5, [.ref a5, .int 0]))] := hD
      have hK : va_K D vwCl [(k0, .object RX2)] s := hK
      refine ka_stk (w := [.int 0]) rfl ?_
      refine lv_if_ne (tgt := 31) hx hb dX6_law_26 (by decide) (fun c_ => absurd (by decide) c_) (fun _ => ?_)
      refine lv_iconst (v := 0) hx hb dX6_law_29 (by decide) ?_
      exact ka_rEz C hr hlk rfl (Nat.le_of_ble_eq_true rfl) (Nat.le_of_ble_eq_true rfl) hS (ka_qE () rfl trivial hK hP hD hS [] (by decide) rfl [] rfl) dX6_law_30
    · skip
      refine lv_aload_n hx hb dX6_law_0 rfl (lv_at hl 0 rfl) ?_
      refine lv_iload_n hx hb dX6_law_1 rfl (lv_at hl 1 rfl) ?_
      refine ka_RV (n := 1) C (ct_X6_changeable_59 l D a0 a1 a2 a3 a4 a7 a8 k0 a9 a10 a11 a12 a13 a14) gX6_law_X6_changeable rfl (by decide +kernel) ⟨Nat.le_of_ble_eq_true rfl, Nat.le_of_ble_eq_true rfl⟩ hK hP hS hE hN [0, 3, 4] rfl [0] rfl (ci := 6) rfl rfl 0 rfl rfl hl.1 (rest := []) rfl (Nat.le_of_ble_eq_true rfl) dX6_law_2 ⟨Nat.le_of_ble_eq_true rfl, Nat.le_of_ble_eq_true rfl⟩ (fun v hv => ?_)
      subst hv
      refine ka_stk (w := [.ref a12]) rfl ?_
      refine lv_astore_n (lv' := [(3, .ref a12), (0, .ref a0), (1, .int 3), (2, .int x1)]) hx hb dX6_law_5 rfl hl (by decide) rfl (fun ls hl => ?_)
      refine lv_aload_n hx hb dX6_law_6 rfl (lv_at hl 0 rfl) ?_
      refine lv_ifnull hx hb dX6_law_7 ?_
      refine lv_aload_n hx hb dX6_law_10 rfl (lv_at hl 1 rfl) ?_
      refine ka_get C lq_184 rfl hK hP 0 rfl 0 (by decide) lq_185 rfl dX6_law_11 ?_
      refine lv_iload_n hx hb dX6_law_14 rfl (lv_at hl 3 rfl) ?_
      refine ka_RV (n := 1) C (ct_X5_offers_47 l D a1 x1 a5 (by omega)) gX6_law_X5_offers rfl (by decide +kernel) ⟨Nat.le_of_ble_eq_true rfl, Nat.le_of_ble_eq_true rfl⟩ hK hP hS hE hN [1] rfl [] rfl (ci := 5) rfl rfl 1 rfl rfl hl.1 (rest := []) rfl (Nat.le_of_ble_eq_true rfl) dX6_law_15 ⟨Nat.le_of_ble_eq_true rfl, Nat.le_of_ble_eq_true rfl⟩ (fun v hv => ?_)
      subst hv
      refine ka_stk (w := [.int 0]) rfl ?_
      refine lv_if_eq (tgt := 29) hx hb dX6_law_18 (by decide) (fun _ => ?_) (fun c_ => absurd (by decide) c_)
      refine lv_iconst (v := 0) hx hb dX6_law_29 (by decide) ?_
      exact ka_rEz C hr hlk rfl (Nat.le_of_ble_eq_true rfl) (Nat.le_of_ble_eq_true rfl) hS (ka_qE () rfl trivial hK hP hD hS [] (by decide) rfl [] rfl) dX6_law_30
  · obtain rfl : x0 = 4 := (ka_eq' _ _).mpr (y_1176.trans (by decide))
    rcases (show x1.toInt ≤ -1 ∨ x1.toInt = 0 ∨ 1 ≤ x1.toInt by omega) with y_1189 | y_1189 | y_1189
    · skip
      refine lv_aload_n hx hb dX6_law_0 rfl (lv_at hl 0 rfl) ?_
      refine lv_iload_n hx hb dX6_law_1 rfl (lv_at hl 1 rfl) ?_
      refine ka_RV (n := 1) C (ct_X6_changeable_63 l D a0 a1 a2 a3 a4 a7 a8 k0 a9 a10 a11 a12 a13 a14) gX6_law_X6_changeable rfl (by decide +kernel) ⟨Nat.le_of_ble_eq_true rfl, Nat.le_of_ble_eq_true rfl⟩ hK hP hS hE hN [0, 3, 4] rfl [0] rfl (ci := 6) rfl rfl 0 rfl rfl hl.1 (rest := []) rfl (Nat.le_of_ble_eq_true rfl) dX6_law_2 ⟨Nat.le_of_ble_eq_true rfl, Nat.le_of_ble_eq_true rfl⟩ (fun v hv => ?_)
      subst hv
      refine ka_stk (w := [.ref a13]) rfl ?_
      refine lv_astore_n (lv' := [(3, .ref a13), (0, .ref a0), (1, .int 4), (2, .int x1)]) hx hb dX6_law_5 rfl hl (by decide) rfl (fun ls hl => ?_)
      refine lv_aload_n hx hb dX6_law_6 rfl (lv_at hl 0 rfl) ?_
      refine lv_ifnull hx hb dX6_law_7 ?_
      refine lv_aload_n hx hb dX6_law_10 rfl (lv_at hl 1 rfl) ?_
      refine ka_get C lq_184 rfl hK hP 0 rfl 0 (by decide) lq_185 rfl dX6_law_11 ?_
      refine lv_iload_n hx hb dX6_law_14 rfl (lv_at hl 3 rfl) ?_
      refine ka_RV (n := 1) C (ct_X5_offers_28 l D a1 x1 (by omega)) gX6_law_X5_offers rfl (by decide +kernel) ⟨Nat.le_of_ble_eq_true rfl, Nat.le_of_ble_eq_true rfl⟩ hK hP hS hE hN [] rfl [] rfl (ci := 5) rfl rfl 1 rfl rfl hl.1 (rest := []) rfl (Nat.le_of_ble_eq_true rfl) dX6_law_15 ⟨Nat.le_of_ble_eq_true rfl, Nat.le_of_ble_eq_true rfl⟩ (fun v hv => ?_)
      subst hv
      refine ka_stk (w := [.int 0]) rfl ?_
      refine lv_if_eq (tgt := 29) hx hb dX6_law_18 (by decide) (fun _ => ?_) (fun c_ => absurd (by decide) c_)
      refine lv_iconst (v := 0) hx hb dX6_law_29 (by decide) ?_
      exact ka_rEz C hr hlk rfl (Nat.le_of_ble_eq_true rfl) (Nat.le_of_ble_eq_true rfl) hS (ka_qE () rfl trivial hK hP hD hS [] (by decide) rfl [] rfl) dX6_law_30
    · obtain rfl : x1 = 0 := (ka_eq' _ _).mpr (y_1189.trans (by decide))
      refine lv_aload_n hx hb dX6_law_0 rfl (lv_at hl 0 rfl) ?_
      refine lv_iload_n hx hb dX6_law_1 rfl (lv_at hl 1 rfl) ?_
      refine ka_RV (n := 1) C (ct_X6_changeable_63 l D a0 a1 a2 a3 a4 a7 a8 k0 a9 a10 a11 a12 a13 a14) gX6_law_X6_changeable rfl (by decide +kernel) ⟨Nat.le_of_ble_eq_true rfl, Nat.le_of_ble_eq_true rfl⟩ hK hP hS hE hN [0, 3, 4] rfl [0] rfl (ci := 6) rfl rfl 0 rfl rfl hl.1 (rest := []) rfl (Nat.le_of_ble_eq_true rfl) dX6_law_2 ⟨Nat.le_of_ble_eq_true rfl, Nat.le_of_ble_eq_true rfl⟩ (fun v hv => ?_)
      subst hv
      refine ka_stk (w := [.ref a13]) rfl ?_
      refine lv_astore_n (lv' := [(3, .ref a13), (0, .ref a0), (1, .int 4), (2, .int 0)]) hx hb dX6_law_5 rfl hl (by decide) rfl (fun ls hl => ?_)
      refine lv_aload_n hx hb dX6_law_6 rfl (lv_at hl 0 rfl) ?_
      refine lv_ifnull hx hb dX6_law_7 ?_
      refine lv_aload_n hx hb dX6_law_10 rfl (lv_at hl 1 rfl) ?_
      refine ka_get C lq_184 rfl hK hP 0 rfl 0 (by decide) lq_185 rfl dX6_law_11 ?_
      refine lv_iload_n hx hb dX6_law_14 rfl (lv_at hl 3 rfl) ?_
      refine ka_RV (n := 1) C (ct_X5_offers_29 l D a1 a5) gX6_law_X5_offers rfl (by decide +kernel) ⟨Nat.le_of_ble_eq_true rfl, Nat.le_of_ble_eq_true rfl⟩ hK hP hS hE hN [1] rfl [] rfl (ci := 5) rfl rfl 1 rfl rfl hl.1 (rest := []) rfl (Nat.le_of_ble_eq_true rfl) dX6_law_15 ⟨Nat.le_of_ble_eq_true rfl, Nat.le_of_ble_eq_true rfl⟩ (fun v hv => ?_)
      subst hv
      refine ka_stk (w := [.int 1]) rfl ?_
      refine lv_if_eq (tgt := 29) hx hb dX6_law_18 (by decide) (fun c_ => absurd c_ (by decide)) (fun _ => ?_)
      refine lv_aload_n hx hb dX6_law_21 rfl (lv_at hl 1 rfl) ?_
      refine lv_iload_n hx hb dX6_law_22 rfl (lv_at hl 3 rfl) ?_
      refine ka_EV (n := 1) (wr := [(a3, .inr (0, [.ref a7, .ref a8, .int 0])), (a7, .inl (k0, 6, .inr (.inr (.inr (.inr (va_up (va_up (va_up (va_up (va_up (va_up (fun _ => none) 0 (some a9)) 1 (some a10)) 2 (some a11)) 3 (some a12)) 4 (some a13)) 5 (some a14)))))))]) C (ct_X6_readTape_46 l D a0 a1 a2 a3 a4 a5 a6) gX6_law_X6_readTape rfl (by decide +kernel) ⟨Nat.le_of_ble_eq_true rfl, Nat.le_of_ble_eq_true rfl⟩ hK hP hD hS hA hE hN [0, 1, 2] rfl (by decide) [3, 4] rfl (by decide) (by decide) [] rfl (ci := 6) rfl rfl 0 rfl rfl hl.1 (rest := []) rfl (Nat.le_of_ble_eq_true rfl) dX6_law_23 ⟨Nat.le_of_ble_eq_true rfl, Nat.le_of_ble_eq_true rfl⟩ (fun u H locs _ hP hD hK hS => ?_)
      have hP : va_P D vwCl [(a3, .inr (0, [.ref a7, .ref a8, .int 0])), (a7, .inl (k0, 6, .inr (.inr (.inr (.inr (va_up (va_up (va_up (va_up (va_up (va_up (fun _ => none) 0 (some a9)) 1 (some a10)) 2 (some a11)) 3 (some a12)) 4 (some a13)) 5 (some a14))))))), (a0, .inr (6, [.ref a1, .ref a2, .ref a3, .ref a4, .int (-1), .int 0, .int 0, .int 3, .int 3])), (a2, .inr (3, [.ref a1, .ref a6, .int 0, .int 0, .int 0, .int 0, .int 3, .int 0])), (a1, .inr (5, [.ref a5, .int 0]))] H := hP
      have hD : va_D A [(a3, .inr (0, [.ref a7, .ref a8, .int 0])), (a7, .inl (k0, 6, .inr (.inr (.inr (.inr (va_up (va_up (va_up (va_up (va_up (va_up (fun _ => none) 0 (some a9)) 1 (some a10)) 2 (some a11)) 3 (some a12)) 4 (some a13)) 5 (some a14))))))), (a0, .inr (6, [.ref a1, .ref a2, .ref a3, .ref a4, .int (-1), .int 0, .int 0, .int 3, .int 3])), (a2, .inr (3, [.ref a1, .ref a6, .int 0, .int 0, .int 0, .int 0, .int 3, .int 0])), (a1, .inr (5, [.ref a5, .int 0]))] := hD
      have hK : va_K D vwCl [(k0, .object RX2)] s := hK
      refine ka_stk (w := [.int 0]) rfl ?_
      refine lv_if_ne (tgt := 31) hx hb dX6_law_26 (by decide) (fun c_ => absurd (by decide) c_) (fun _ => ?_)
      refine lv_iconst (v := 0) hx hb dX6_law_29 (by decide) ?_
      exact ka_rEz C hr hlk rfl (Nat.le_of_ble_eq_true rfl) (Nat.le_of_ble_eq_true rfl) hS (ka_qE () rfl trivial hK hP hD hS [] (by decide) rfl [] rfl) dX6_law_30
    · skip
      refine lv_aload_n hx hb dX6_law_0 rfl (lv_at hl 0 rfl) ?_
      refine lv_iload_n hx hb dX6_law_1 rfl (lv_at hl 1 rfl) ?_
      refine ka_RV (n := 1) C (ct_X6_changeable_63 l D a0 a1 a2 a3 a4 a7 a8 k0 a9 a10 a11 a12 a13 a14) gX6_law_X6_changeable rfl (by decide +kernel) ⟨Nat.le_of_ble_eq_true rfl, Nat.le_of_ble_eq_true rfl⟩ hK hP hS hE hN [0, 3, 4] rfl [0] rfl (ci := 6) rfl rfl 0 rfl rfl hl.1 (rest := []) rfl (Nat.le_of_ble_eq_true rfl) dX6_law_2 ⟨Nat.le_of_ble_eq_true rfl, Nat.le_of_ble_eq_true rfl⟩ (fun v hv => ?_)
      subst hv
      refine ka_stk (w := [.ref a13]) rfl ?_
      refine lv_astore_n (lv' := [(3, .ref a13), (0, .ref a0), (1, .int 4), (2, .int x1)]) hx hb dX6_law_5 rfl hl (by decide) rfl (fun ls hl => ?_)
      refine lv_aload_n hx hb dX6_law_6 rfl (lv_at hl 0 rfl) ?_
      refine lv_ifnull hx hb dX6_law_7 ?_
      refine lv_aload_n hx hb dX6_law_10 rfl (lv_at hl 1 rfl) ?_
      refine ka_get C lq_184 rfl hK hP 0 rfl 0 (by decide) lq_185 rfl dX6_law_11 ?_
      refine lv_iload_n hx hb dX6_law_14 rfl (lv_at hl 3 rfl) ?_
      refine ka_RV (n := 1) C (ct_X5_offers_47 l D a1 x1 a5 (by omega)) gX6_law_X5_offers rfl (by decide +kernel) ⟨Nat.le_of_ble_eq_true rfl, Nat.le_of_ble_eq_true rfl⟩ hK hP hS hE hN [1] rfl [] rfl (ci := 5) rfl rfl 1 rfl rfl hl.1 (rest := []) rfl (Nat.le_of_ble_eq_true rfl) dX6_law_15 ⟨Nat.le_of_ble_eq_true rfl, Nat.le_of_ble_eq_true rfl⟩ (fun v hv => ?_)
      subst hv
      refine ka_stk (w := [.int 0]) rfl ?_
      refine lv_if_eq (tgt := 29) hx hb dX6_law_18 (by decide) (fun _ => ?_) (fun c_ => absurd (by decide) c_)
      refine lv_iconst (v := 0) hx hb dX6_law_29 (by decide) ?_
      exact ka_rEz C hr hlk rfl (Nat.le_of_ble_eq_true rfl) (Nat.le_of_ble_eq_true rfl) hS (ka_qE () rfl trivial hK hP hD hS [] (by decide) rfl [] rfl) dX6_law_30
  · obtain rfl : x0 = 5 := (ka_eq' _ _).mpr (y_1176.trans (by decide))
    rcases (show x1.toInt ≤ -1 ∨ x1.toInt = 0 ∨ 1 ≤ x1.toInt by omega) with y_1191 | y_1191 | y_1191
    · skip
      refine lv_aload_n hx hb dX6_law_0 rfl (lv_at hl 0 rfl) ?_
      refine lv_iload_n hx hb dX6_law_1 rfl (lv_at hl 1 rfl) ?_
      refine ka_RV (n := 1) C (ct_X6_changeable_67 l D a0 a1 a2 a3 a4 a7 a8 k0 a9 a10 a11 a12 a13 a14) gX6_law_X6_changeable rfl (by decide +kernel) ⟨Nat.le_of_ble_eq_true rfl, Nat.le_of_ble_eq_true rfl⟩ hK hP hS hE hN [0, 3, 4] rfl [0] rfl (ci := 6) rfl rfl 0 rfl rfl hl.1 (rest := []) rfl (Nat.le_of_ble_eq_true rfl) dX6_law_2 ⟨Nat.le_of_ble_eq_true rfl, Nat.le_of_ble_eq_true rfl⟩ (fun v hv => ?_)
      subst hv
      refine ka_stk (w := [.ref a14]) rfl ?_
      refine lv_astore_n (lv' := [(3, .ref a14), (0, .ref a0), (1, .int 5), (2, .int x1)]) hx hb dX6_law_5 rfl hl (by decide) rfl (fun ls hl => ?_)
      refine lv_aload_n hx hb dX6_law_6 rfl (lv_at hl 0 rfl) ?_
      refine lv_ifnull hx hb dX6_law_7 ?_
      refine lv_aload_n hx hb dX6_law_10 rfl (lv_at hl 1 rfl) ?_
      refine ka_get C lq_184 rfl hK hP 0 rfl 0 (by decide) lq_185 rfl dX6_law_11 ?_
      refine lv_iload_n hx hb dX6_law_14 rfl (lv_at hl 3 rfl) ?_
      refine ka_RV (n := 1) C (ct_X5_offers_28 l D a1 x1 (by omega)) gX6_law_X5_offers rfl (by decide +kernel) ⟨Nat.le_of_ble_eq_true rfl, Nat.le_of_ble_eq_true rfl⟩ hK hP hS hE hN [] rfl [] rfl (ci := 5) rfl rfl 1 rfl rfl hl.1 (rest := []) rfl (Nat.le_of_ble_eq_true rfl) dX6_law_15 ⟨Nat.le_of_ble_eq_true rfl, Nat.le_of_ble_eq_true rfl⟩ (fun v hv => ?_)
      subst hv
      refine ka_stk (w := [.int 0]) rfl ?_
      refine lv_if_eq (tgt := 29) hx hb dX6_law_18 (by decide) (fun _ => ?_) (fun c_ => absurd (by decide) c_)
      refine lv_iconst (v := 0) hx hb dX6_law_29 (by decide) ?_
      exact ka_rEz C hr hlk rfl (Nat.le_of_ble_eq_true rfl) (Nat.le_of_ble_eq_true rfl) hS (ka_qE () rfl trivial hK hP hD hS [] (by decide) rfl [] rfl) dX6_law_30
    · obtain rfl : x1 = 0 := (ka_eq' _ _).mpr (y_1191.trans (by decide))
      refine lv_aload_n hx hb dX6_law_0 rfl (lv_at hl 0 rfl) ?_
      refine lv_iload_n hx hb dX6_law_1 rfl (lv_at hl 1 rfl) ?_
      refine ka_RV (n := 1) C (ct_X6_changeable_67 l D a0 a1 a2 a3 a4 a7 a8 k0 a9 a10 a11 a12 a13 a14) gX6_law_X6_changeable rfl (by decide +kernel) ⟨Nat.le_of_ble_eq_true rfl, Nat.le_of_ble_eq_true rfl⟩ hK hP hS hE hN [0, 3, 4] rfl [0] rfl (ci := 6) rfl rfl 0 rfl rfl hl.1 (rest := []) rfl (Nat.le_of_ble_eq_true rfl) dX6_law_2 ⟨Nat.le_of_ble_eq_true rfl, Nat.le_of_ble_eq_true rfl⟩ (fun v hv => ?_)
      subst hv
      refine ka_stk (w := [.ref a14]) rfl ?_
      refine lv_astore_n (lv' := [(3, .ref a14), (0, .ref a0), (1, .int 5), (2, .int 0)]) hx hb dX6_law_5 rfl hl (by decide) rfl (fun ls hl => ?_)
      refine lv_aload_n hx hb dX6_law_6 rfl (lv_at hl 0 rfl) ?_
      refine lv_ifnull hx hb dX6_law_7 ?_
      refine lv_aload_n hx hb dX6_law_10 rfl (lv_at hl 1 rfl) ?_
      refine ka_get C lq_184 rfl hK hP 0 rfl 0 (by decide) lq_185 rfl dX6_law_11 ?_
      refine lv_iload_n hx hb dX6_law_14 rfl (lv_at hl 3 rfl) ?_
      refine ka_RV (n := 1) C (ct_X5_offers_29 l D a1 a5) gX6_law_X5_offers rfl (by decide +kernel) ⟨Nat.le_of_ble_eq_true rfl, Nat.le_of_ble_eq_true rfl⟩ hK hP hS hE hN [1] rfl [] rfl (ci := 5) rfl rfl 1 rfl rfl hl.1 (rest := []) rfl (Nat.le_of_ble_eq_true rfl) dX6_law_15 ⟨Nat.le_of_ble_eq_true rfl, Nat.le_of_ble_eq_true rfl⟩ (fun v hv => ?_)
      subst hv
      refine ka_stk (w := [.int 1]) rfl ?_
      refine lv_if_eq (tgt := 29) hx hb dX6_law_18 (by decide) (fun c_ => absurd c_ (by decide)) (fun _ => ?_)
      refine lv_aload_n hx hb dX6_law_21 rfl (lv_at hl 1 rfl) ?_
      refine lv_iload_n hx hb dX6_law_22 rfl (lv_at hl 3 rfl) ?_
      refine ka_EV (n := 1) (wr := [(a3, .inr (0, [.ref a7, .ref a8, .int 0])), (a7, .inl (k0, 6, .inr (.inr (.inr (.inr (va_up (va_up (va_up (va_up (va_up (va_up (fun _ => none) 0 (some a9)) 1 (some a10)) 2 (some a11)) 3 (some a12)) 4 (some a13)) 5 (some a14)))))))]) C (ct_X6_readTape_46 l D a0 a1 a2 a3 a4 a5 a6) gX6_law_X6_readTape rfl (by decide +kernel) ⟨Nat.le_of_ble_eq_true rfl, Nat.le_of_ble_eq_true rfl⟩ hK hP hD hS hA hE hN [0, 1, 2] rfl (by decide) [3, 4] rfl (by decide) (by decide) [] rfl (ci := 6) rfl rfl 0 rfl rfl hl.1 (rest := []) rfl (Nat.le_of_ble_eq_true rfl) dX6_law_23 ⟨Nat.le_of_ble_eq_true rfl, Nat.le_of_ble_eq_true rfl⟩ (fun u H locs _ hP hD hK hS => ?_)
      have hP : va_P D vwCl [(a3, .inr (0, [.ref a7, .ref a8, .int 0])), (a7, .inl (k0, 6, .inr (.inr (.inr (.inr (va_up (va_up (va_up (va_up (va_up (va_up (fun _ => none) 0 (some a9)) 1 (some a10)) 2 (some a11)) 3 (some a12)) 4 (some a13)) 5 (some a14))))))), (a0, .inr (6, [.ref a1, .ref a2, .ref a3, .ref a4, .int (-1), .int 0, .int 0, .int 3, .int 3])), (a2, .inr (3, [.ref a1, .ref a6, .int 0, .int 0, .int 0, .int 0, .int 3, .int 0])), (a1, .inr (5, [.ref a5, .int 0]))] H := hP
      have hD : va_D A [(a3, .inr (0, [.ref a7, .ref a8, .int 0])), (a7, .inl (k0, 6, .inr (.inr (.inr (.inr (va_up (va_up (va_up (va_up (va_up (va_up (fun _ => none) 0 (some a9)) 1 (some a10)) 2 (some a11)) 3 (some a12)) 4 (some a13)) 5 (some a14))))))), (a0, .inr (6, [.ref a1, .ref a2, .ref a3, .ref a4, .int (-1), .int 0, .int 0, .int 3, .int 3])), (a2, .inr (3, [.ref a1, .ref a6, .int 0, .int 0, .int 0, .int 0, .int 3, .int 0])), (a1, .inr (5, [.ref a5, .int 0]))] := hD
      have hK : va_K D vwCl [(k0, .object RX2)] s := hK
      refine ka_stk (w := [.int 0]) rfl ?_
      refine lv_if_ne (tgt := 31) hx hb dX6_law_26 (by decide) (fun c_ => absurd (by decide) c_) (fun _ => ?_)
      refine lv_iconst (v := 0) hx hb dX6_law_29 (by decide) ?_
      exact ka_rEz C hr hlk rfl (Nat.le_of_ble_eq_true rfl) (Nat.le_of_ble_eq_true rfl) hS (ka_qE () rfl trivial hK hP hD hS [] (by decide) rfl [] rfl) dX6_law_30
    · skip
      refine lv_aload_n hx hb dX6_law_0 rfl (lv_at hl 0 rfl) ?_
      refine lv_iload_n hx hb dX6_law_1 rfl (lv_at hl 1 rfl) ?_
      refine ka_RV (n := 1) C (ct_X6_changeable_67 l D a0 a1 a2 a3 a4 a7 a8 k0 a9 a10 a11 a12 a13 a14) gX6_law_X6_changeable rfl (by decide +kernel) ⟨Nat.le_of_ble_eq_true rfl, Nat.le_of_ble_eq_true rfl⟩ hK hP hS hE hN [0, 3, 4] rfl [0] rfl (ci := 6) rfl rfl 0 rfl rfl hl.1 (rest := []) rfl (Nat.le_of_ble_eq_true rfl) dX6_law_2 ⟨Nat.le_of_ble_eq_true rfl, Nat.le_of_ble_eq_true rfl⟩ (fun v hv => ?_)
      subst hv
      refine ka_stk (w := [.ref a14]) rfl ?_
      refine lv_astore_n (lv' := [(3, .ref a14), (0, .ref a0), (1, .int 5), (2, .int x1)]) hx hb dX6_law_5 rfl hl (by decide) rfl (fun ls hl => ?_)
      refine lv_aload_n hx hb dX6_law_6 rfl (lv_at hl 0 rfl) ?_
      refine lv_ifnull hx hb dX6_law_7 ?_
      refine lv_aload_n hx hb dX6_law_10 rfl (lv_at hl 1 rfl) ?_
      refine ka_get C lq_184 rfl hK hP 0 rfl 0 (by decide) lq_185 rfl dX6_law_11 ?_
      refine lv_iload_n hx hb dX6_law_14 rfl (lv_at hl 3 rfl) ?_
      refine ka_RV (n := 1) C (ct_X5_offers_47 l D a1 x1 a5 (by omega)) gX6_law_X5_offers rfl (by decide +kernel) ⟨Nat.le_of_ble_eq_true rfl, Nat.le_of_ble_eq_true rfl⟩ hK hP hS hE hN [1] rfl [] rfl (ci := 5) rfl rfl 1 rfl rfl hl.1 (rest := []) rfl (Nat.le_of_ble_eq_true rfl) dX6_law_15 ⟨Nat.le_of_ble_eq_true rfl, Nat.le_of_ble_eq_true rfl⟩ (fun v hv => ?_)
      subst hv
      refine ka_stk (w := [.int 0]) rfl ?_
      refine lv_if_eq (tgt := 29) hx hb dX6_law_18 (by decide) (fun _ => ?_) (fun c_ => absurd (by decide) c_)
      refine lv_iconst (v := 0) hx hb dX6_law_29 (by decide) ?_
      exact ka_rEz C hr hlk rfl (Nat.le_of_ble_eq_true rfl) (Nat.le_of_ble_eq_true rfl) hS (ka_qE () rfl trivial hK hP hD hS [] (by decide) rfl [] rfl) dX6_law_30
  · skip
    rcases (show x1.toInt ≤ -1 ∨ x1.toInt = 0 ∨ 1 ≤ x1.toInt by omega) with y_1193 | y_1193 | y_1193
    · skip
      refine lv_aload_n hx hb dX6_law_0 rfl (lv_at hl 0 rfl) ?_
      refine lv_iload_n hx hb dX6_law_1 rfl (lv_at hl 1 rfl) ?_
      refine ka_RV (n := 1) C (ct_X6_changeable_71 l D a0 x0 a1 a2 a3 a4 a7 a8 (by omega)) gX6_law_X6_changeable rfl (by decide +kernel) ⟨Nat.le_of_ble_eq_true rfl, Nat.le_of_ble_eq_true rfl⟩ hK hP hS hE hN [0, 3] rfl [] rfl (ci := 6) rfl rfl 0 rfl rfl hl.1 (rest := []) rfl (Nat.le_of_ble_eq_true rfl) dX6_law_2 ⟨Nat.le_of_ble_eq_true rfl, Nat.le_of_ble_eq_true rfl⟩ (fun v hv => ?_)
      subst hv
      refine ka_stk (w := [.null]) rfl ?_
      refine lv_astore_nN (lv' := [(3, .null), (0, .ref a0), (1, .int x0), (2, .int x1)]) hx hb dX6_law_5 rfl hl (by decide) rfl (fun ls hl => ?_)
      refine lv_aload_nN hx hb dX6_law_6 rfl (lv_at hl 0 rfl) ?_
      refine lv_ifnullN (tgt := 29) hx hb dX6_law_7 (by decide) ?_
      refine lv_iconst (v := 0) hx hb dX6_law_29 (by decide) ?_
      exact ka_rEz C hr hlk rfl (Nat.le_of_ble_eq_true rfl) (Nat.le_of_ble_eq_true rfl) hS (ka_qE () rfl trivial hK hP hD hS [] (by decide) rfl [] rfl) dX6_law_30
    · obtain rfl : x1 = 0 := (ka_eq' _ _).mpr (y_1193.trans (by decide))
      refine lv_aload_n hx hb dX6_law_0 rfl (lv_at hl 0 rfl) ?_
      refine lv_iload_n hx hb dX6_law_1 rfl (lv_at hl 1 rfl) ?_
      refine ka_RV (n := 1) C (ct_X6_changeable_71 l D a0 x0 a1 a2 a3 a4 a7 a8 (by omega)) gX6_law_X6_changeable rfl (by decide +kernel) ⟨Nat.le_of_ble_eq_true rfl, Nat.le_of_ble_eq_true rfl⟩ hK hP hS hE hN [0, 3] rfl [] rfl (ci := 6) rfl rfl 0 rfl rfl hl.1 (rest := []) rfl (Nat.le_of_ble_eq_true rfl) dX6_law_2 ⟨Nat.le_of_ble_eq_true rfl, Nat.le_of_ble_eq_true rfl⟩ (fun v hv => ?_)
      subst hv
      refine ka_stk (w := [.null]) rfl ?_
      refine lv_astore_nN (lv' := [(3, .null), (0, .ref a0), (1, .int x0), (2, .int 0)]) hx hb dX6_law_5 rfl hl (by decide) rfl (fun ls hl => ?_)
      refine lv_aload_nN hx hb dX6_law_6 rfl (lv_at hl 0 rfl) ?_
      refine lv_ifnullN (tgt := 29) hx hb dX6_law_7 (by decide) ?_
      refine lv_iconst (v := 0) hx hb dX6_law_29 (by decide) ?_
      exact ka_rEz C hr hlk rfl (Nat.le_of_ble_eq_true rfl) (Nat.le_of_ble_eq_true rfl) hS (ka_qE () rfl trivial hK hP hD hS [] (by decide) rfl [] rfl) dX6_law_30
    · skip
      refine lv_aload_n hx hb dX6_law_0 rfl (lv_at hl 0 rfl) ?_
      refine lv_iload_n hx hb dX6_law_1 rfl (lv_at hl 1 rfl) ?_
      refine ka_RV (n := 1) C (ct_X6_changeable_71 l D a0 x0 a1 a2 a3 a4 a7 a8 (by omega)) gX6_law_X6_changeable rfl (by decide +kernel) ⟨Nat.le_of_ble_eq_true rfl, Nat.le_of_ble_eq_true rfl⟩ hK hP hS hE hN [0, 3] rfl [] rfl (ci := 6) rfl rfl 0 rfl rfl hl.1 (rest := []) rfl (Nat.le_of_ble_eq_true rfl) dX6_law_2 ⟨Nat.le_of_ble_eq_true rfl, Nat.le_of_ble_eq_true rfl⟩ (fun v hv => ?_)
      subst hv
      refine ka_stk (w := [.null]) rfl ?_
      refine lv_astore_nN (lv' := [(3, .null), (0, .ref a0), (1, .int x0), (2, .int x1)]) hx hb dX6_law_5 rfl hl (by decide) rfl (fun ls hl => ?_)
      refine lv_aload_nN hx hb dX6_law_6 rfl (lv_at hl 0 rfl) ?_
      refine lv_ifnullN (tgt := 29) hx hb dX6_law_7 (by decide) ?_
      refine lv_iconst (v := 0) hx hb dX6_law_29 (by decide) ?_
      exact ka_rEz C hr hlk rfl (Nat.le_of_ble_eq_true rfl) (Nat.le_of_ble_eq_true rfl) hS (ka_qE () rfl trivial hK hP hD hS [] (by decide) rfl [] rfl) dX6_law_30
set_option maxHeartbeats 4000000 in
set_option maxRecDepth 100000 in
theorem ct_X7_isIn_73 (l : Launch) (D : va_G) (x0 : Int32) (hx0 : x0.toInt ≤ -1) : ka_R l D yX7_isIn wsX7_isIn 0 0 [.int x0, .int 0, .int 5] [] [] (fun v => v = some (.int 0)) := by
  refine ka_R_of (cc := cX7_isIn) (maxL := 3) (ret := (some .boolean)) (by decide) rfl (Nat.le_of_ble_eq_true rfl) ?_
  intro p e s m below meth c ls C hr hlk hP hK hE hN hl
  have hS : va_S (fun _ => False) s.heap s.heap [] := va_S.rf
  have C : CallFix p m c cX7_isIn 3 s [.int x0, .int 0, .int 5].toArray wsX7_isIn RX7 := C
  obtain ⟨hx, hb, hml, hown, hts⟩ := id C
  have hl : lv_has ls 3 [(0, .int x0), (1, .int 0), (2, .int 5)] := hl
  have rx0 := ka_rng x0
  refine lv_iload_n hx hb dX7_isIn_0 rfl (lv_at hl 0 rfl) ?_
  refine lv_iload_n hx hb dX7_isIn_1 rfl (lv_at hl 1 rfl) ?_
  refine lv_icmp_lt (tgt := 14) hx hb dX7_isIn_2 (by decide) (fun _ => ?_) (fun c_ => absurd (by rw [ka_lt', show ((0 : Int32)).toInt = 0 from by decide]; omega) c_)
  refine lv_iconst (v := 0) hx hb dX7_isIn_14 (by decide) ?_
  exact ka_rRz C hr hlk rfl rfl dX7_isIn_15
set_option maxHeartbeats 4000000 in
set_option maxRecDepth 100000 in
theorem ct_X7_isLesson_74 (l : Launch) (D : va_G) (x0 : Int32) (hx0 : x0.toInt ≤ -1) : ka_R l D yX7_isLesson wsX7_isLesson 1 22 [.int x0] [] [] (fun v => v = some (.int 0)) := by
  refine ka_R_of (cc := cX7_isLesson) (maxL := 1) (ret := (some .boolean)) (by decide) rfl (Nat.le_of_ble_eq_true rfl) ?_
  intro p e s m below meth c ls C hr hlk hP hK hE hN hl
  have hS : va_S (fun _ => False) s.heap s.heap [] := va_S.rf
  have C : CallFix p m c cX7_isLesson 1 s [.int x0].toArray wsX7_isLesson RX7 := C
  obtain ⟨hx, hb, hml, hown, hts⟩ := id C
  have hl : lv_has ls 1 [(0, .int x0)] := hl
  have rx0 := ka_rng x0
  refine lv_iload_n hx hb dX7_isLesson_0 rfl (lv_at hl 0 rfl) ?_
  refine lv_iconst (v := 0) hx hb dX7_isLesson_1 (by decide) ?_
  refine lv_iconst (v := 5) hx hb dX7_isLesson_2 (by decide) ?_
  refine ka_RS (n := 3) C (ct_X7_isIn_73 l D x0 (by omega)) gX7_isLesson_X7_isIn rfl (by decide +kernel) ⟨Nat.le_of_ble_eq_true rfl, Nat.le_of_ble_eq_true rfl⟩ hK hP hS hE hN [] rfl [] rfl rfl hl.1 (rest := []) rfl (Nat.le_of_ble_eq_true rfl) dX7_isLesson_3 ⟨Nat.le_of_ble_eq_true rfl, Nat.le_of_ble_eq_true rfl⟩ (fun v hv => ?_)
  subst hv
  refine ka_stk (w := [.int 0]) rfl ?_
  exact ka_rRz C hr hlk rfl rfl dX7_isLesson_6
set_option maxHeartbeats 4000000 in
set_option maxRecDepth 100000 in
theorem ct_X7_isOpenFor_75 (l : Launch) (D : va_G) (a0 : Nat) (x0 : Int32) (x1 : Int32) (hx0 : x0.toInt ≤ -1) (hx1 : x1.toInt ≤ -1) : ka_R l D yX7_isOpenFor wsX7_isOpenFor 2 42 [.ref a0, .int x0, .int x1] [] [] (fun v => v = some (.int 0)) := by
  refine ka_R_of (cc := cX7_isOpenFor) (maxL := 3) (ret := (some .boolean)) (by decide) rfl (Nat.le_of_ble_eq_true rfl) ?_
  intro p e s m below meth c ls C hr hlk hP hK hE hN hl
  have hS : va_S (fun _ => False) s.heap s.heap [] := va_S.rf
  have C : CallFix p m c cX7_isOpenFor 3 s [.ref a0, .int x0, .int x1].toArray wsX7_isOpenFor RX7 := C
  obtain ⟨hx, hb, hml, hown, hts⟩ := id C
  have hl : lv_has ls 3 [(0, .ref a0), (1, .int x0), (2, .int x1)] := hl
  have rx0 := ka_rng x0
  have rx1 := ka_rng x1
  refine lv_iload_n hx hb dX7_isOpenFor_0 rfl (lv_at hl 1 rfl) ?_
  refine ka_RS (n := 1) C (ct_X7_isLesson_74 l D x0 (by omega)) gX7_isOpenFor_X7_isLesson rfl (by decide +kernel) ⟨Nat.le_of_ble_eq_true rfl, Nat.le_of_ble_eq_true rfl⟩ hK hP hS hE hN [] rfl [] rfl rfl hl.1 (rest := []) rfl (Nat.le_of_ble_eq_true rfl) dX7_isOpenFor_1 ⟨Nat.le_of_ble_eq_true rfl, Nat.le_of_ble_eq_true rfl⟩ (fun v hv => ?_)
  subst hv
  refine ka_stk (w := [.int 0]) rfl ?_
  refine lv_if_eq (tgt := 36) hx hb dX7_isOpenFor_4 (by decide) (fun _ => ?_) (fun c_ => absurd (by decide) c_)
  refine lv_iconst (v := 0) hx hb dX7_isOpenFor_36 (by decide) ?_
  exact ka_rRz C hr hlk rfl rfl dX7_isOpenFor_37
set_option maxHeartbeats 4000000 in
set_option maxRecDepth 100000 in
theorem ct_X7_isOpenFor_76 (l : Launch) (D : va_G) (a0 : Nat) (x0 : Int32) (hx0 : x0.toInt ≤ -1) : ka_R l D yX7_isOpenFor wsX7_isOpenFor 2 42 [.ref a0, .int x0, .int 0] [] [] (fun v => v = some (.int 0)) := by
  refine ka_R_of (cc := cX7_isOpenFor) (maxL := 3) (ret := (some .boolean)) (by decide) rfl (Nat.le_of_ble_eq_true rfl) ?_
  intro p e s m below meth c ls C hr hlk hP hK hE hN hl
  have hS : va_S (fun _ => False) s.heap s.heap [] := va_S.rf
  have C : CallFix p m c cX7_isOpenFor 3 s [.ref a0, .int x0, .int 0].toArray wsX7_isOpenFor RX7 := C
  obtain ⟨hx, hb, hml, hown, hts⟩ := id C
  have hl : lv_has ls 3 [(0, .ref a0), (1, .int x0), (2, .int 0)] := hl
  have rx0 := ka_rng x0
  refine lv_iload_n hx hb dX7_isOpenFor_0 rfl (lv_at hl 1 rfl) ?_
  refine ka_RS (n := 1) C (ct_X7_isLesson_74 l D x0 (by omega)) gX7_isOpenFor_X7_isLesson rfl (by decide +kernel) ⟨Nat.le_of_ble_eq_true rfl, Nat.le_of_ble_eq_true rfl⟩ hK hP hS hE hN [] rfl [] rfl rfl hl.1 (rest := []) rfl (Nat.le_of_ble_eq_true rfl) dX7_isOpenFor_1 ⟨Nat.le_of_ble_eq_true rfl, Nat.le_of_ble_eq_true rfl⟩ (fun v hv => ?_)
  subst hv
  refine ka_stk (w := [.int 0]) rfl ?_
  refine lv_if_eq (tgt := 36) hx hb dX7_isOpenFor_4 (by decide) (fun _ => ?_) (fun c_ => absurd (by decide) c_)
  refine lv_iconst (v := 0) hx hb dX7_isOpenFor_36 (by decide) ?_
  exact ka_rRz C hr hlk rfl rfl dX7_isOpenFor_37
set_option maxHeartbeats 4000000 in
set_option maxRecDepth 100000 in
theorem ct_X7_isOpenFor_77 (l : Launch) (D : va_G) (a0 : Nat) (x0 : Int32) (x1 : Int32) (hx0 : x0.toInt ≤ -1) (hx1 : 1 ≤ x1.toInt) : ka_R l D yX7_isOpenFor wsX7_isOpenFor 2 42 [.ref a0, .int x0, .int x1] [] [] (fun v => v = some (.int 0)) := by
  refine ka_R_of (cc := cX7_isOpenFor) (maxL := 3) (ret := (some .boolean)) (by decide) rfl (Nat.le_of_ble_eq_true rfl) ?_
  intro p e s m below meth c ls C hr hlk hP hK hE hN hl
  have hS : va_S (fun _ => False) s.heap s.heap [] := va_S.rf
  have C : CallFix p m c cX7_isOpenFor 3 s [.ref a0, .int x0, .int x1].toArray wsX7_isOpenFor RX7 := C
  obtain ⟨hx, hb, hml, hown, hts⟩ := id C
  have hl : lv_has ls 3 [(0, .ref a0), (1, .int x0), (2, .int x1)] := hl
  have rx0 := ka_rng x0
  have rx1 := ka_rng x1
  refine lv_iload_n hx hb dX7_isOpenFor_0 rfl (lv_at hl 1 rfl) ?_
  refine ka_RS (n := 1) C (ct_X7_isLesson_74 l D x0 (by omega)) gX7_isOpenFor_X7_isLesson rfl (by decide +kernel) ⟨Nat.le_of_ble_eq_true rfl, Nat.le_of_ble_eq_true rfl⟩ hK hP hS hE hN [] rfl [] rfl rfl hl.1 (rest := []) rfl (Nat.le_of_ble_eq_true rfl) dX7_isOpenFor_1 ⟨Nat.le_of_ble_eq_true rfl, Nat.le_of_ble_eq_true rfl⟩ (fun v hv => ?_)
  subst hv
  refine ka_stk (w := [.int 0]) rfl ?_
  refine lv_if_eq (tgt := 36) hx hb dX7_isOpenFor_4 (by decide) (fun _ => ?_) (fun c_ => absurd (by decide) c_)
  refine lv_iconst (v := 0) hx hb dX7_isOpenFor_36 (by decide) ?_
  exact ka_rRz C hr hlk rfl rfl dX7_isOpenFor_37
set_option maxHeartbeats 4000000 in
set_option maxRecDepth 100000 in
theorem ct_X7_isIn_78 (l : Launch) (D : va_G) : ka_R l D yX7_isIn wsX7_isIn 0 0 [.int 0, .int 0, .int 5] [] [] (fun v => v = some (.int 1)) := by
  refine ka_R_of (cc := cX7_isIn) (maxL := 3) (ret := (some .boolean)) (by decide) rfl (Nat.le_of_ble_eq_true rfl) ?_
  intro p e s m below meth c ls C hr hlk hP hK hE hN hl
  have hS : va_S (fun _ => False) s.heap s.heap [] := va_S.rf
  have C : CallFix p m c cX7_isIn 3 s [.int 0, .int 0, .int 5].toArray wsX7_isIn RX7 := C
  obtain ⟨hx, hb, hml, hown, hts⟩ := id C
  have hl : lv_has ls 3 [(0, .int 0), (1, .int 0), (2, .int 5)] := hl
  refine lv_iload_n hx hb dX7_isIn_0 rfl (lv_at hl 0 rfl) ?_
  refine lv_iload_n hx hb dX7_isIn_1 rfl (lv_at hl 1 rfl) ?_
  refine lv_icmp_lt (tgt := 14) hx hb dX7_isIn_2 (by decide) (fun c_ => absurd c_ (by decide)) (fun _ => ?_)
  refine lv_iload_n hx hb dX7_isIn_5 rfl (lv_at hl 0 rfl) ?_
  refine lv_iload_n hx hb dX7_isIn_6 rfl (lv_at hl 2 rfl) ?_
  refine lv_icmp_gt (tgt := 14) hx hb dX7_isIn_7 (by decide) (fun c_ => absurd c_ (by decide)) (fun _ => ?_)
  refine lv_iconst (v := 1) hx hb dX7_isIn_10 (by decide) ?_
  refine lv_goto (tgt := 15) hx hb dX7_isIn_11 (by decide) ?_
  exact ka_rRz C hr hlk rfl rfl dX7_isIn_15
set_option maxHeartbeats 4000000 in
set_option maxRecDepth 100000 in
theorem ct_X7_isLesson_79 (l : Launch) (D : va_G) : ka_R l D yX7_isLesson wsX7_isLesson 1 22 [.int 0] [] [] (fun v => v = some (.int 1)) := by
  refine ka_R_of (cc := cX7_isLesson) (maxL := 1) (ret := (some .boolean)) (by decide) rfl (Nat.le_of_ble_eq_true rfl) ?_
  intro p e s m below meth c ls C hr hlk hP hK hE hN hl
  have hS : va_S (fun _ => False) s.heap s.heap [] := va_S.rf
  have C : CallFix p m c cX7_isLesson 1 s [.int 0].toArray wsX7_isLesson RX7 := C
  obtain ⟨hx, hb, hml, hown, hts⟩ := id C
  have hl : lv_has ls 1 [(0, .int 0)] := hl
  refine lv_iload_n hx hb dX7_isLesson_0 rfl (lv_at hl 0 rfl) ?_
  refine lv_iconst (v := 0) hx hb dX7_isLesson_1 (by decide) ?_
  refine lv_iconst (v := 5) hx hb dX7_isLesson_2 (by decide) ?_
  refine ka_RS (n := 3) C (ct_X7_isIn_78 l D ) gX7_isLesson_X7_isIn rfl (by decide +kernel) ⟨Nat.le_of_ble_eq_true rfl, Nat.le_of_ble_eq_true rfl⟩ hK hP hS hE hN [] rfl [] rfl rfl hl.1 (rest := []) rfl (Nat.le_of_ble_eq_true rfl) dX7_isLesson_3 ⟨Nat.le_of_ble_eq_true rfl, Nat.le_of_ble_eq_true rfl⟩ (fun v hv => ?_)
  subst hv
  refine ka_stk (w := [.int 1]) rfl ?_
  exact ka_rRz C hr hlk rfl rfl dX7_isLesson_6
set_option maxHeartbeats 4000000 in
set_option maxRecDepth 100000 in
theorem ct_X7_isIn_80 (l : Launch) (D : va_G) (x0 : Int32) (hx0 : x0.toInt ≤ -1) : ka_R l D yX7_isIn wsX7_isIn 0 0 [.int x0, .int 0, .int 0] [] [] (fun v => v = some (.int 0)) := by
  refine ka_R_of (cc := cX7_isIn) (maxL := 3) (ret := (some .boolean)) (by decide) rfl (Nat.le_of_ble_eq_true rfl) ?_
  intro p e s m below meth c ls C hr hlk hP hK hE hN hl
  have hS : va_S (fun _ => False) s.heap s.heap [] := va_S.rf
  have C : CallFix p m c cX7_isIn 3 s [.int x0, .int 0, .int 0].toArray wsX7_isIn RX7 := C
  obtain ⟨hx, hb, hml, hown, hts⟩ := id C
  have hl : lv_has ls 3 [(0, .int x0), (1, .int 0), (2, .int 0)] := hl
  have rx0 := ka_rng x0
  refine lv_iload_n hx hb dX7_isIn_0 rfl (lv_at hl 0 rfl) ?_
  refine lv_iload_n hx hb dX7_isIn_1 rfl (lv_at hl 1 rfl) ?_
  refine lv_icmp_lt (tgt := 14) hx hb dX7_isIn_2 (by decide) (fun _ => ?_) (fun c_ => absurd (by rw [ka_lt', show ((0 : Int32)).toInt = 0 from by decide]; omega) c_)
  refine lv_iconst (v := 0) hx hb dX7_isIn_14 (by decide) ?_
  exact ka_rRz C hr hlk rfl rfl dX7_isIn_15
theorem lq_186 : ∀ w ∈ wsX70, w ∈ wsX7_isText := by decide +kernel
theorem lq_187 : Cond.fieldLink RX7 71 "AskedBackModel" "taped" "I" ∈ wsX7_isText := by decide +kernel
theorem lq_188 : Cond.methodLink RX7 129 Lib.Math.min.name ∈ wsX7_isText := by decide +kernel
theorem lq_189 : Cond.static Lib.Math.min.name ∈ wsX7_isText := by decide +kernel
theorem lq_190 : Cond.initialized "java/lang/Math" ∈ wsX7_isText := by decide +kernel
theorem lq_191 : Cond.code Lib.Math.min.name Lib.Math.min.code 2 (some .int) ∈ wsX7_isText := by decide +kernel
set_option maxHeartbeats 4000000 in
set_option maxRecDepth 100000 in
theorem ct_X7_isText_81 (l : Launch) (D : va_G) (a0 : Nat) (x0 : Int32) (a1 : Nat) (a2 : Nat) (a3 : Nat) (a4 : Nat) (a5 : Nat) (a6 : Nat) (a7 : Nat) (a8 : Nat) (a9 : Nat) (a10 : Nat) (a11 : Nat) (a12 : Nat) (a13 : Nat) (a14 : Nat) (hx0 : x0.toInt ≤ -1) : ka_R l D yX7_isText wsX7_isText 1 22 [.ref a0, .int x0] [(a0, .inr (7, [.ref a1, .int 0, .ref a2, .ref a3, .ref a4, .ref a5, .ref a6, .ref a7, .ref a8, .int (-1), .int 0, .int 3, .int 3, .int 0, .int 0, .int 0, .ref a9, .ref a10, .ref a11, .ref a12, .ref a13, .ref a14, .int 0, .int 0, .int 0, .int 0, .int (-1), .int 0]))] [] (fun v => v = some (.int 0)) := by
  refine ka_R_of (cc := cX7_isText) (maxL := 2) (ret := (some .boolean)) (by decide) rfl (Nat.le_of_ble_eq_true rfl) ?_
  intro p e s m below meth c ls C hr hlk hP hK hE hN hl
  have hS : va_S (fun _ => False) s.heap s.heap [] := va_S.rf
  have C : CallFix p m c cX7_isText 2 s [.ref a0, .int x0].toArray wsX7_isText RX7 := C
  obtain ⟨hx, hb, hml, hown, hts⟩ := id C
  have hl : lv_has ls 2 [(0, .ref a0), (1, .int x0)] := hl
  have rx0 := ka_rng x0
  refine lv_iload_n hx hb dX7_isText_0 rfl (lv_at hl 1 rfl) ?_
  refine lv_iconst (v := 0) hx hb dX7_isText_1 (by decide) ?_
  refine lv_bipush (v := 60) hx hb dX7_isText_2 (by decide) ?_
  refine lv_aload_n hx hb dX7_isText_4 rfl (lv_at hl 0 rfl) ?_
  refine ka_get C lq_186 rfl hK hP 0 rfl 1 (by decide) lq_187 rfl dX7_isText_5 ?_
  refine va_mmin hx hb (hml.trans hl.1.symm) hown (hts _ lq_188) (hts _ lq_189) (hts _ lq_190) (hts _ lq_191) (Nat.le_of_ble_eq_true rfl) (Nat.le_of_ble_eq_true rfl) (Nat.le_of_ble_eq_true rfl) (Nat.le_of_ble_eq_true rfl) dX7_isText_8 ?_
  refine ka_top (w := .int 0) (congrArg Value.int (by decide)) ?_
  refine ka_RS (n := 3) C (ct_X7_isIn_80 l D x0 (by omega)) gX7_isText_X7_isIn rfl (by decide +kernel) ⟨Nat.le_of_ble_eq_true rfl, Nat.le_of_ble_eq_true rfl⟩ hK hP hS hE hN [] rfl [] rfl rfl hl.1 (rest := []) rfl (Nat.le_of_ble_eq_true rfl) dX7_isText_11 ⟨Nat.le_of_ble_eq_true rfl, Nat.le_of_ble_eq_true rfl⟩ (fun v hv => ?_)
  subst hv
  refine ka_stk (w := [.int 0]) rfl ?_
  exact ka_rRz C hr hlk rfl rfl dX7_isText_14
theorem lq_192 : ∀ w ∈ wsX70, w ∈ wsX7_isOpenFor := by decide +kernel
theorem lq_193 : Cond.fieldLink RX7 36 "AskedBackModel" "lesson" "I" ∈ wsX7_isOpenFor := by decide +kernel
theorem lq_194 : Cond.fieldLink RX7 27 "AskedBackModel" "isDone" "[Z" ∈ wsX7_isOpenFor := by decide +kernel
set_option maxHeartbeats 4000000 in
set_option maxRecDepth 100000 in
theorem ct_X7_isOpenFor_82 (l : Launch) (D : va_G) (a0 : Nat) (x0 : Int32) (a1 : Nat) (a2 : Nat) (a3 : Nat) (a4 : Nat) (a5 : Nat) (a6 : Nat) (a7 : Nat) (a8 : Nat) (a9 : Nat) (a10 : Nat) (a11 : Nat) (a12 : Nat) (a13 : Nat) (a14 : Nat) (k0 : ClassId) (hx0 : x0.toInt ≤ -1) : ka_R l D yX7_isOpenFor wsX7_isOpenFor 2 43 [.ref a0, .int 0, .int x0] [(a0, .inr (7, [.ref a1, .int 0, .ref a2, .ref a3, .ref a4, .ref a5, .ref a6, .ref a7, .ref a8, .int (-1), .int 0, .int 3, .int 3, .int 0, .int 0, .int 0, .ref a9, .ref a10, .ref a11, .ref a12, .ref a13, .ref a14, .int 0, .int 0, .int 0, .int 0, .int (-1), .int 0])), (a6, .inl (k0, 6, .inl (fun _ => 0)))] [(k0, .boolean)] (fun v => v = some (.int 0)) := by
  refine ka_R_of (cc := cX7_isOpenFor) (maxL := 3) (ret := (some .boolean)) (by decide) rfl (Nat.le_of_ble_eq_true rfl) ?_
  intro p e s m below meth c ls C hr hlk hP hK hE hN hl
  have hS : va_S (fun _ => False) s.heap s.heap [] := va_S.rf
  have C : CallFix p m c cX7_isOpenFor 3 s [.ref a0, .int 0, .int x0].toArray wsX7_isOpenFor RX7 := C
  obtain ⟨hx, hb, hml, hown, hts⟩ := id C
  have hl : lv_has ls 3 [(0, .ref a0), (1, .int 0), (2, .int x0)] := hl
  have rx0 := ka_rng x0
  refine lv_iload_n hx hb dX7_isOpenFor_0 rfl (lv_at hl 1 rfl) ?_
  refine ka_RS (n := 1) C (ct_X7_isLesson_79 l D ) gX7_isOpenFor_X7_isLesson rfl (by decide +kernel) ⟨Nat.le_of_ble_eq_true rfl, Nat.le_of_ble_eq_true rfl⟩ hK hP hS hE hN [] rfl [] rfl rfl hl.1 (rest := []) rfl (Nat.le_of_ble_eq_true rfl) dX7_isOpenFor_1 ⟨Nat.le_of_ble_eq_true rfl, Nat.le_of_ble_eq_true rfl⟩ (fun v hv => ?_)
  subst hv
  refine ka_stk (w := [.int 1]) rfl ?_
  refine lv_if_eq (tgt := 36) hx hb dX7_isOpenFor_4 (by decide) (fun c_ => absurd c_ (by decide)) (fun _ => ?_)
  refine lv_iload_n hx hb dX7_isOpenFor_7 rfl (lv_at hl 1 rfl) ?_
  refine lv_aload_n hx hb dX7_isOpenFor_8 rfl (lv_at hl 0 rfl) ?_
  refine ka_get C lq_192 rfl hK hP 0 rfl 9 (by decide) lq_193 rfl dX7_isOpenFor_9 ?_
  refine lv_icmp_eq (tgt := 36) hx hb dX7_isOpenFor_12 (by decide) (fun c_ => absurd c_ (by decide)) (fun _ => ?_)
  refine lv_aload_n hx hb dX7_isOpenFor_15 rfl (lv_at hl 0 rfl) ?_
  refine ka_get C lq_192 rfl hK hP 0 rfl 6 (by decide) lq_194 rfl dX7_isOpenFor_16 ?_
  refine lv_iload_n hx hb dX7_isOpenFor_19 rfl (lv_at hl 1 rfl) ?_
  refine va_zald hx hb hK hP 1 0 rfl rfl (ka_in (by decide) (by decide)) dX7_isOpenFor_20 ?_
  refine ka_top (w := .int 0) rfl ?_
  refine lv_if_ne (tgt := 36) hx hb dX7_isOpenFor_21 (by decide) (fun c_ => absurd (by decide) c_) (fun _ => ?_)
  refine lv_aload_n hx hb dX7_isOpenFor_24 rfl (lv_at hl 0 rfl) ?_
  refine lv_iload_n hx hb dX7_isOpenFor_25 rfl (lv_at hl 2 rfl) ?_
  refine ka_RV (n := 1) C (ct_X7_isText_81 l D a0 x0 a1 a2 a3 a4 a5 a6 a7 a8 a9 a10 a11 a12 a13 a14 (by omega)) gX7_isOpenFor_X7_isText rfl (by decide +kernel) ⟨Nat.le_of_ble_eq_true rfl, Nat.le_of_ble_eq_true rfl⟩ hK hP hS hE hN [0] rfl [] rfl (ci := 7) rfl rfl 0 rfl rfl hl.1 (rest := []) rfl (Nat.le_of_ble_eq_true rfl) dX7_isOpenFor_26 ⟨Nat.le_of_ble_eq_true rfl, Nat.le_of_ble_eq_true rfl⟩ (fun v hv => ?_)
  subst hv
  refine ka_stk (w := [.int 0]) rfl ?_
  refine lv_if_eq (tgt := 36) hx hb dX7_isOpenFor_29 (by decide) (fun _ => ?_) (fun c_ => absurd (by decide) c_)
  refine lv_iconst (v := 0) hx hb dX7_isOpenFor_36 (by decide) ?_
  exact ka_rRz C hr hlk rfl rfl dX7_isOpenFor_37
set_option maxHeartbeats 4000000 in
set_option maxRecDepth 100000 in
theorem ct_X7_isIn_83 (l : Launch) (D : va_G) : ka_R l D yX7_isIn wsX7_isIn 0 0 [.int 0, .int 0, .int 0] [] [] (fun v => v = some (.int 1)) := by
  refine ka_R_of (cc := cX7_isIn) (maxL := 3) (ret := (some .boolean)) (by decide) rfl (Nat.le_of_ble_eq_true rfl) ?_
  intro p e s m below meth c ls C hr hlk hP hK hE hN hl
  have hS : va_S (fun _ => False) s.heap s.heap [] := va_S.rf
  have C : CallFix p m c cX7_isIn 3 s [.int 0, .int 0, .int 0].toArray wsX7_isIn RX7 := C
  obtain ⟨hx, hb, hml, hown, hts⟩ := id C
  have hl : lv_has ls 3 [(0, .int 0), (1, .int 0), (2, .int 0)] := hl
  refine lv_iload_n hx hb dX7_isIn_0 rfl (lv_at hl 0 rfl) ?_
  refine lv_iload_n hx hb dX7_isIn_1 rfl (lv_at hl 1 rfl) ?_
  refine lv_icmp_lt (tgt := 14) hx hb dX7_isIn_2 (by decide) (fun c_ => absurd c_ (by decide)) (fun _ => ?_)
  refine lv_iload_n hx hb dX7_isIn_5 rfl (lv_at hl 0 rfl) ?_
  refine lv_iload_n hx hb dX7_isIn_6 rfl (lv_at hl 2 rfl) ?_
  refine lv_icmp_gt (tgt := 14) hx hb dX7_isIn_7 (by decide) (fun c_ => absurd c_ (by decide)) (fun _ => ?_)
  refine lv_iconst (v := 1) hx hb dX7_isIn_10 (by decide) ?_
  refine lv_goto (tgt := 15) hx hb dX7_isIn_11 (by decide) ?_
  exact ka_rRz C hr hlk rfl rfl dX7_isIn_15
set_option maxHeartbeats 4000000 in
set_option maxRecDepth 100000 in
theorem ct_X7_isText_84 (l : Launch) (D : va_G) (a0 : Nat) (a1 : Nat) (a2 : Nat) (a3 : Nat) (a4 : Nat) (a5 : Nat) (a6 : Nat) (a7 : Nat) (a8 : Nat) (a9 : Nat) (a10 : Nat) (a11 : Nat) (a12 : Nat) (a13 : Nat) (a14 : Nat) : ka_R l D yX7_isText wsX7_isText 1 22 [.ref a0, .int 0] [(a0, .inr (7, [.ref a1, .int 0, .ref a2, .ref a3, .ref a4, .ref a5, .ref a6, .ref a7, .ref a8, .int (-1), .int 0, .int 3, .int 3, .int 0, .int 0, .int 0, .ref a9, .ref a10, .ref a11, .ref a12, .ref a13, .ref a14, .int 0, .int 0, .int 0, .int 0, .int (-1), .int 0]))] [] (fun v => v = some (.int 1)) := by
  refine ka_R_of (cc := cX7_isText) (maxL := 2) (ret := (some .boolean)) (by decide) rfl (Nat.le_of_ble_eq_true rfl) ?_
  intro p e s m below meth c ls C hr hlk hP hK hE hN hl
  have hS : va_S (fun _ => False) s.heap s.heap [] := va_S.rf
  have C : CallFix p m c cX7_isText 2 s [.ref a0, .int 0].toArray wsX7_isText RX7 := C
  obtain ⟨hx, hb, hml, hown, hts⟩ := id C
  have hl : lv_has ls 2 [(0, .ref a0), (1, .int 0)] := hl
  refine lv_iload_n hx hb dX7_isText_0 rfl (lv_at hl 1 rfl) ?_
  refine lv_iconst (v := 0) hx hb dX7_isText_1 (by decide) ?_
  refine lv_bipush (v := 60) hx hb dX7_isText_2 (by decide) ?_
  refine lv_aload_n hx hb dX7_isText_4 rfl (lv_at hl 0 rfl) ?_
  refine ka_get C lq_186 rfl hK hP 0 rfl 1 (by decide) lq_187 rfl dX7_isText_5 ?_
  refine va_mmin hx hb (hml.trans hl.1.symm) hown (hts _ lq_188) (hts _ lq_189) (hts _ lq_190) (hts _ lq_191) (Nat.le_of_ble_eq_true rfl) (Nat.le_of_ble_eq_true rfl) (Nat.le_of_ble_eq_true rfl) (Nat.le_of_ble_eq_true rfl) dX7_isText_8 ?_
  refine ka_top (w := .int 0) (congrArg Value.int (by decide)) ?_
  refine ka_RS (n := 3) C (ct_X7_isIn_83 l D ) gX7_isText_X7_isIn rfl (by decide +kernel) ⟨Nat.le_of_ble_eq_true rfl, Nat.le_of_ble_eq_true rfl⟩ hK hP hS hE hN [] rfl [] rfl rfl hl.1 (rest := []) rfl (Nat.le_of_ble_eq_true rfl) dX7_isText_11 ⟨Nat.le_of_ble_eq_true rfl, Nat.le_of_ble_eq_true rfl⟩ (fun v hv => ?_)
  subst hv
  refine ka_stk (w := [.int 1]) rfl ?_
  exact ka_rRz C hr hlk rfl rfl dX7_isText_14
set_option maxHeartbeats 4000000 in
set_option maxRecDepth 100000 in
theorem ct_X7_isOpenFor_85 (l : Launch) (D : va_G) (a0 : Nat) (a1 : Nat) (a2 : Nat) (a3 : Nat) (a4 : Nat) (a5 : Nat) (a6 : Nat) (a7 : Nat) (a8 : Nat) (a9 : Nat) (a10 : Nat) (a11 : Nat) (a12 : Nat) (a13 : Nat) (a14 : Nat) (k0 : ClassId) : ka_R l D yX7_isOpenFor wsX7_isOpenFor 2 43 [.ref a0, .int 0, .int 0] [(a0, .inr (7, [.ref a1, .int 0, .ref a2, .ref a3, .ref a4, .ref a5, .ref a6, .ref a7, .ref a8, .int (-1), .int 0, .int 3, .int 3, .int 0, .int 0, .int 0, .ref a9, .ref a10, .ref a11, .ref a12, .ref a13, .ref a14, .int 0, .int 0, .int 0, .int 0, .int (-1), .int 0])), (a6, .inl (k0, 6, .inl (fun _ => 0)))] [(k0, .boolean)] (fun v => v = some (.int 1)) := by
  refine ka_R_of (cc := cX7_isOpenFor) (maxL := 3) (ret := (some .boolean)) (by decide) rfl (Nat.le_of_ble_eq_true rfl) ?_
  intro p e s m below meth c ls C hr hlk hP hK hE hN hl
  have hS : va_S (fun _ => False) s.heap s.heap [] := va_S.rf
  have C : CallFix p m c cX7_isOpenFor 3 s [.ref a0, .int 0, .int 0].toArray wsX7_isOpenFor RX7 := C
  obtain ⟨hx, hb, hml, hown, hts⟩ := id C
  have hl : lv_has ls 3 [(0, .ref a0), (1, .int 0), (2, .int 0)] := hl
  refine lv_iload_n hx hb dX7_isOpenFor_0 rfl (lv_at hl 1 rfl) ?_
  refine ka_RS (n := 1) C (ct_X7_isLesson_79 l D ) gX7_isOpenFor_X7_isLesson rfl (by decide +kernel) ⟨Nat.le_of_ble_eq_true rfl, Nat.le_of_ble_eq_true rfl⟩ hK hP hS hE hN [] rfl [] rfl rfl hl.1 (rest := []) rfl (Nat.le_of_ble_eq_true rfl) dX7_isOpenFor_1 ⟨Nat.le_of_ble_eq_true rfl, Nat.le_of_ble_eq_true rfl⟩ (fun v hv => ?_)
  subst hv
  refine ka_stk (w := [.int 1]) rfl ?_
  refine lv_if_eq (tgt := 36) hx hb dX7_isOpenFor_4 (by decide) (fun c_ => absurd c_ (by decide)) (fun _ => ?_)
  refine lv_iload_n hx hb dX7_isOpenFor_7 rfl (lv_at hl 1 rfl) ?_
  refine lv_aload_n hx hb dX7_isOpenFor_8 rfl (lv_at hl 0 rfl) ?_
  refine ka_get C lq_192 rfl hK hP 0 rfl 9 (by decide) lq_193 rfl dX7_isOpenFor_9 ?_
  refine lv_icmp_eq (tgt := 36) hx hb dX7_isOpenFor_12 (by decide) (fun c_ => absurd c_ (by decide)) (fun _ => ?_)
  refine lv_aload_n hx hb dX7_isOpenFor_15 rfl (lv_at hl 0 rfl) ?_
  refine ka_get C lq_192 rfl hK hP 0 rfl 6 (by decide) lq_194 rfl dX7_isOpenFor_16 ?_
  refine lv_iload_n hx hb dX7_isOpenFor_19 rfl (lv_at hl 1 rfl) ?_
  refine va_zald hx hb hK hP 1 0 rfl rfl (ka_in (by decide) (by decide)) dX7_isOpenFor_20 ?_
  refine ka_top (w := .int 0) rfl ?_
  refine lv_if_ne (tgt := 36) hx hb dX7_isOpenFor_21 (by decide) (fun c_ => absurd (by decide) c_) (fun _ => ?_)
  refine lv_aload_n hx hb dX7_isOpenFor_24 rfl (lv_at hl 0 rfl) ?_
  refine lv_iload_n hx hb dX7_isOpenFor_25 rfl (lv_at hl 2 rfl) ?_
  refine ka_RV (n := 1) C (ct_X7_isText_84 l D a0 a1 a2 a3 a4 a5 a6 a7 a8 a9 a10 a11 a12 a13 a14) gX7_isOpenFor_X7_isText rfl (by decide +kernel) ⟨Nat.le_of_ble_eq_true rfl, Nat.le_of_ble_eq_true rfl⟩ hK hP hS hE hN [0] rfl [] rfl (ci := 7) rfl rfl 0 rfl rfl hl.1 (rest := []) rfl (Nat.le_of_ble_eq_true rfl) dX7_isOpenFor_26 ⟨Nat.le_of_ble_eq_true rfl, Nat.le_of_ble_eq_true rfl⟩ (fun v hv => ?_)
  subst hv
  refine ka_stk (w := [.int 1]) rfl ?_
  refine lv_if_eq (tgt := 36) hx hb dX7_isOpenFor_29 (by decide) (fun c_ => absurd c_ (by decide)) (fun _ => ?_)
  refine lv_iconst (v := 1) hx hb dX7_isOpenFor_32 (by decide) ?_
  refine lv_goto (tgt := 37) hx hb dX7_isOpenFor_33 (by decide) ?_
  exact ka_rRz C hr hlk rfl rfl dX7_isOpenFor_37
theorem lq_195 : ∀ w ∈ wsX70, w ∈ wsX7_blanks := by decide +kernel
theorem lq_196 : Cond.fieldLink RX7 81 "AskedBackModel" "at" "I" ∈ wsX7_blanks := by decide +kernel
theorem lq_197 : Cond.fieldLink RX7 84 "AskedBackModel" "end" "I" ∈ wsX7_blanks := by decide +kernel
set_option maxHeartbeats 4000000 in
set_option maxRecDepth 100000 in
theorem ct_X7_blanks_86 (l : Launch) (D : va_G) (a0 : Nat) (a1 : Nat) (a2 : Nat) (a3 : Nat) (a4 : Nat) (a5 : Nat) (a6 : Nat) (a7 : Nat) (a8 : Nat) (a9 : Nat) (a10 : Nat) (a11 : Nat) (a12 : Nat) (a13 : Nat) (a14 : Nat) : ka_R l D yX7_blanks wsX7_blanks 0 0 [.ref a0] [(a0, .inr (7, [.ref a1, .int 0, .ref a2, .ref a3, .ref a4, .ref a5, .ref a6, .ref a7, .ref a8, .int (-1), .int 0, .int 3, .int 3, .int 0, .int 0, .int 0, .ref a9, .ref a10, .ref a11, .ref a12, .ref a13, .ref a14, .int 0, .int 0, .int 0, .int 0, .int (-1), .int 0]))] [] (fun v => v = none) := by
  refine ka_R_of (cc := cX7_blanks) (maxL := 1) (ret := none) (by decide) rfl (Nat.le_of_ble_eq_true rfl) ?_
  intro p e s m below meth c ls C hr hlk hP hK hE hN hl
  have hS : va_S (fun _ => False) s.heap s.heap [] := va_S.rf
  have C : CallFix p m c cX7_blanks 1 s [.ref a0].toArray wsX7_blanks RX7 := C
  obtain ⟨hx, hb, hml, hown, hts⟩ := id C
  have hl : lv_has ls 1 [(0, .ref a0)] := hl
  refine lv_aload_n hx hb dX7_blanks_0 rfl (lv_at hl 0 rfl) ?_
  refine ka_get C lq_195 rfl hK hP 0 rfl 23 (by decide) lq_196 rfl dX7_blanks_1 ?_
  refine lv_aload_n hx hb dX7_blanks_4 rfl (lv_at hl 0 rfl) ?_
  refine ka_get C lq_195 rfl hK hP 0 rfl 24 (by decide) lq_197 rfl dX7_blanks_5 ?_
  refine lv_icmp_ge (tgt := 52) hx hb dX7_blanks_8 (by decide) (fun _ => ?_) (fun c_ => absurd (by decide) c_)
  exact ka_rRv C hr hlk rfl dX7_blanks_52
theorem lq_198 : ∀ w ∈ wsX70, w ∈ wsX7_wrong := by decide +kernel
theorem lq_199 : Cond.fieldLink RX7 97 "AskedBackModel" "isWrong" "Z" ∈ wsX7_wrong := by decide +kernel
set_option maxHeartbeats 4000000 in
set_option maxRecDepth 100000 in
theorem ct_X7_wrong_87 (l : Launch) (D : va_G) (a0 : Nat) (a1 : Nat) (a2 : Nat) (a3 : Nat) (a4 : Nat) (a5 : Nat) (a6 : Nat) (a7 : Nat) (a8 : Nat) (a9 : Nat) (a10 : Nat) (a11 : Nat) (a12 : Nat) (a13 : Nat) (a14 : Nat) : ka_E (S := Unit) l D yX7_wrong wsX7_wrong 0 0 0 0 [.ref a0] [(a0, .inr (7, [.ref a1, .int 0, .ref a2, .ref a3, .ref a4, .ref a5, .ref a6, .ref a7, .ref a8, .int (-1), .int 0, .int 3, .int 3, .int 0, .int 0, .int 0, .ref a9, .ref a10, .ref a11, .ref a12, .ref a13, .ref a14, .int 0, .int 0, .int 0, .int 0, .int (-1), .int 0]))] [] (fun u => some (.int 0)) (fun _ => True) (fun u => [(a0, .inr (7, [.ref a1, .int 0, .ref a2, .ref a3, .ref a4, .ref a5, .ref a6, .ref a7, .ref a8, .int (-1), .int 0, .int 3, .int 3, .int 0, .int 0, .int 0, .ref a9, .ref a10, .ref a11, .ref a12, .ref a13, .ref a14, .int 0, .int 0, .int 0, .int 0, .int (-1), .int 1]))]) (fun u => []) := by
  refine ka_E_of (cc := cX7_wrong) (maxL := 1) (ret := (some .int)) (by decide) rfl (Nat.le_of_ble_eq_true rfl) ?_
  intro p e s m below meth c ls A C hr hlk hin hP hK hD hS hA hE hN hl
  have C : CallFix p m c cX7_wrong 1 s [.ref a0].toArray wsX7_wrong RX7 := C
  obtain ⟨hx, hb, hml, hown, hts⟩ := id C
  have hl : lv_has ls 1 [(0, .ref a0)] := hl
  refine lv_aload_n hx hb dX7_wrong_0 rfl (lv_at hl 0 rfl) ?_
  refine lv_iconst (v := 1) hx hb dX7_wrong_1 (by decide) ?_
  refine ka_put C lq_198 tyX7 tyX7_ok nmX7 rfl hK hP hD hS 0 rfl 27 (by decide) lq_199 rfl rfl rfl (Nat.le_of_ble_eq_true rfl) dX7_wrong_2 (fun H locs hP hD hS => ?_)
  have hP : va_P D vwCl [(a0, .inr (7, [.ref a1, .int 0, .ref a2, .ref a3, .ref a4, .ref a5, .ref a6, .ref a7, .ref a8, .int (-1), .int 0, .int 3, .int 3, .int 0, .int 0, .int 0, .ref a9, .ref a10, .ref a11, .ref a12, .ref a13, .ref a14, .int 0, .int 0, .int 0, .int 0, .int (-1), .int 1]))] H := hP
  have hD : va_D A [(a0, .inr (7, [.ref a1, .int 0, .ref a2, .ref a3, .ref a4, .ref a5, .ref a6, .ref a7, .ref a8, .int (-1), .int 0, .int 3, .int 3, .int 0, .int 0, .int 0, .ref a9, .ref a10, .ref a11, .ref a12, .ref a13, .ref a14, .int 0, .int 0, .int 0, .int 0, .int (-1), .int 1]))] := hD
  refine lv_iconst (v := 0) hx hb dX7_wrong_5 (by decide) ?_
  exact ka_rEi C hr hlk (Nat.le_of_ble_eq_true rfl) (Nat.le_of_ble_eq_true rfl) hS (ka_qE () rfl trivial hK hP hD hS [0] (by decide) rfl [] rfl) dX7_wrong_6
theorem lq_200 : ∀ w ∈ wsX70, w ∈ wsX7_not := by decide +kernel
theorem lq_201 : Cond.fieldLink RX7 81 "AskedBackModel" "at" "I" ∈ wsX7_not := by decide +kernel
theorem lq_202 : Cond.fieldLink RX7 84 "AskedBackModel" "end" "I" ∈ wsX7_not := by decide +kernel
set_option maxHeartbeats 4000000 in
set_option maxRecDepth 100000 in
theorem ct_X7_not_88 (l : Launch) (D : va_G) (a0 : Nat) (a1 : Nat) (a2 : Nat) (a3 : Nat) (a4 : Nat) (a5 : Nat) (a6 : Nat) (a7 : Nat) (a8 : Nat) (a9 : Nat) (a10 : Nat) (a11 : Nat) (a12 : Nat) (a13 : Nat) (a14 : Nat) : ka_E (S := Unit) l D yX7_not wsX7_not 1 20 0 0 [.ref a0, .int 0] [(a0, .inr (7, [.ref a1, .int 0, .ref a2, .ref a3, .ref a4, .ref a5, .ref a6, .ref a7, .ref a8, .int (-1), .int 0, .int 3, .int 3, .int 0, .int 0, .int 0, .ref a9, .ref a10, .ref a11, .ref a12, .ref a13, .ref a14, .int 0, .int 0, .int 0, .int 0, .int (-1), .int 0]))] [] (fun u => some (.int 0)) (fun _ => True) (fun u => [(a0, .inr (7, [.ref a1, .int 0, .ref a2, .ref a3, .ref a4, .ref a5, .ref a6, .ref a7, .ref a8, .int (-1), .int 0, .int 3, .int 3, .int 0, .int 0, .int 0, .ref a9, .ref a10, .ref a11, .ref a12, .ref a13, .ref a14, .int 0, .int 0, .int 0, .int 0, .int (-1), .int 1]))]) (fun u => []) := by
  refine ka_E_of (cc := cX7_not) (maxL := 4) (ret := (some .int)) (by decide) rfl (Nat.le_of_ble_eq_true rfl) ?_
  intro p e s m below meth c ls A C hr hlk hin hP hK hD hS hA hE hN hl
  have C : CallFix p m c cX7_not 4 s [.ref a0, .int 0].toArray wsX7_not RX7 := C
  obtain ⟨hx, hb, hml, hown, hts⟩ := id C
  have hl : lv_has ls 4 [(0, .ref a0), (1, .int 0)] := hl
  refine lv_aload_n hx hb dX7_not_0 rfl (lv_at hl 0 rfl) ?_
  refine ka_RV (n := 0) C (ct_X7_blanks_86 l D a0 a1 a2 a3 a4 a5 a6 a7 a8 a9 a10 a11 a12 a13 a14) gX7_not_X7_blanks rfl (by decide +kernel) ⟨Nat.le_of_ble_eq_true rfl, Nat.le_of_ble_eq_true rfl⟩ hK hP hS hE hN [0] rfl [] rfl (ci := 7) rfl rfl 0 rfl rfl hl.1 (rest := []) rfl (Nat.le_of_ble_eq_true rfl) dX7_not_1 ⟨Nat.le_of_ble_eq_true rfl, Nat.le_of_ble_eq_true rfl⟩ (fun v hv => ?_)
  subst hv
  refine ka_stk (w := []) rfl ?_
  refine lv_aload_n hx hb dX7_not_4 rfl (lv_at hl 0 rfl) ?_
  refine ka_get C lq_200 rfl hK hP 0 rfl 23 (by decide) lq_201 rfl dX7_not_5 ?_
  refine lv_aload_n hx hb dX7_not_8 rfl (lv_at hl 0 rfl) ?_
  refine ka_get C lq_200 rfl hK hP 0 rfl 24 (by decide) lq_202 rfl dX7_not_9 ?_
  refine lv_icmp_ne (tgt := 20) hx hb dX7_not_12 (by decide) (fun c_ => absurd (by decide) c_) (fun _ => ?_)
  refine lv_aload_n hx hb dX7_not_15 rfl (lv_at hl 0 rfl) ?_
  refine ka_EV (n := 0) (wr := []) C (ct_X7_wrong_87 l D a0 a1 a2 a3 a4 a5 a6 a7 a8 a9 a10 a11 a12 a13 a14) gX7_not_X7_wrong rfl (by decide +kernel) ⟨Nat.le_of_ble_eq_true rfl, Nat.le_of_ble_eq_true rfl⟩ hK hP hD hS hA hE hN [0] rfl (by decide) [] rfl (by decide) (by decide) [] rfl (ci := 7) rfl rfl 0 rfl rfl hl.1 (rest := []) rfl (Nat.le_of_ble_eq_true rfl) dX7_not_16 ⟨Nat.le_of_ble_eq_true rfl, Nat.le_of_ble_eq_true rfl⟩ (fun u H locs _ hP hD hK hS => ?_)
  have hP : va_P D vwCl [(a0, .inr (7, [.ref a1, .int 0, .ref a2, .ref a3, .ref a4, .ref a5, .ref a6, .ref a7, .ref a8, .int (-1), .int 0, .int 3, .int 3, .int 0, .int 0, .int 0, .ref a9, .ref a10, .ref a11, .ref a12, .ref a13, .ref a14, .int 0, .int 0, .int 0, .int 0, .int (-1), .int 1]))] H := hP
  have hD : va_D A [(a0, .inr (7, [.ref a1, .int 0, .ref a2, .ref a3, .ref a4, .ref a5, .ref a6, .ref a7, .ref a8, .int (-1), .int 0, .int 3, .int 3, .int 0, .int 0, .int 0, .ref a9, .ref a10, .ref a11, .ref a12, .ref a13, .ref a14, .int 0, .int 0, .int 0, .int 0, .int (-1), .int 1]))] := hD
  have hK : va_K D vwCl [] s := hK
  refine ka_stk (w := [.int 0]) rfl ?_
  exact ka_rEi C hr hlk (Nat.le_of_ble_eq_true rfl) (Nat.le_of_ble_eq_true rfl) hS (ka_qE () rfl trivial hK hP hD hS [0] (by decide) rfl [] rfl) dX7_not_19
theorem lq_203 : ∀ w ∈ wsX70, w ∈ wsX7_row := by decide +kernel
theorem lq_204 : Cond.fieldLink RX7 97 "AskedBackModel" "isWrong" "Z" ∈ wsX7_row := by decide +kernel
set_option maxHeartbeats 4000000 in
set_option maxRecDepth 100000 in
theorem ct_X7_row_89 (l : Launch) (D : va_G) (a0 : Nat) (a1 : Nat) (a2 : Nat) (a3 : Nat) (a4 : Nat) (a5 : Nat) (a6 : Nat) (a7 : Nat) (a8 : Nat) (a9 : Nat) (a10 : Nat) (a11 : Nat) (a12 : Nat) (a13 : Nat) (a14 : Nat) : ka_E (S := Unit) l D yX7_row wsX7_row 2 43 0 0 [.ref a0, .int 3] [(a0, .inr (7, [.ref a1, .int 0, .ref a2, .ref a3, .ref a4, .ref a5, .ref a6, .ref a7, .ref a8, .int (-1), .int 0, .int 3, .int 3, .int 0, .int 0, .int 0, .ref a9, .ref a10, .ref a11, .ref a12, .ref a13, .ref a14, .int 0, .int 0, .int 0, .int 0, .int (-1), .int 0]))] [] (fun u => some (.int 0)) (fun _ => True) (fun u => [(a0, .inr (7, [.ref a1, .int 0, .ref a2, .ref a3, .ref a4, .ref a5, .ref a6, .ref a7, .ref a8, .int (-1), .int 0, .int 3, .int 3, .int 0, .int 0, .int 0, .ref a9, .ref a10, .ref a11, .ref a12, .ref a13, .ref a14, .int 0, .int 0, .int 0, .int 0, .int (-1), .int 1]))]) (fun u => []) := by
  refine ka_E_of (cc := cX7_row) (maxL := 5) (ret := (some .int)) (by decide) rfl (Nat.le_of_ble_eq_true rfl) ?_
  intro p e s m below meth c ls A C hr hlk hin hP hK hD hS hA hE hN hl
  have C : CallFix p m c cX7_row 5 s [.ref a0, .int 3].toArray wsX7_row RX7 := C
  obtain ⟨hx, hb, hml, hown, hts⟩ := id C
  have hl : lv_has ls 5 [(0, .ref a0), (1, .int 3)] := hl
  refine lv_iload_n hx hb dX7_row_0 rfl (lv_at hl 1 rfl) ?_
  refine lv_iconst (v := 1) hx hb dX7_row_1 (by decide) ?_
  refine lv_icmp_ne (tgt := 10) hx hb dX7_row_2 (by decide) (fun _ => ?_) (fun c_ => absurd c_ (by decide))
  refine lv_iload_n hx hb dX7_row_10 rfl (lv_at hl 1 rfl) ?_
  refine lv_iconst (v := 2) hx hb dX7_row_11 (by decide) ?_
  refine lv_icmp_ne (tgt := 20) hx hb dX7_row_12 (by decide) (fun _ => ?_) (fun c_ => absurd c_ (by decide))
  refine lv_bipush (v := 38) hx hb dX7_row_20 (by decide) ?_
  refine lv_istore_n (lv' := [(2, .int 38), (0, .ref a0), (1, .int 3)]) hx hb dX7_row_22 rfl hl (by decide) rfl (fun ls hl => ?_)
  refine lv_iload_n hx hb dX7_row_23 rfl (lv_at hl 2 rfl) ?_
  refine lv_iconst (v := 3) hx hb dX7_row_24 (by decide) ?_
  refine lv_icmp_ne (tgt := 36) hx hb dX7_row_25 (by decide) (fun c_ => absurd (by decide) c_) (fun _ => ?_)
  refine lv_aload_n hx hb dX7_row_28 rfl (lv_at hl 1 rfl) ?_
  refine lv_iconst (v := 0) hx hb dX7_row_29 (by decide) ?_
  refine ka_EV (n := 1) (wr := []) C (ct_X7_not_88 l D a0 a1 a2 a3 a4 a5 a6 a7 a8 a9 a10 a11 a12 a13 a14) gX7_row_X7_not rfl (by decide +kernel) ⟨Nat.le_of_ble_eq_true rfl, Nat.le_of_ble_eq_true rfl⟩ hK hP hD hS hA hE hN [0] rfl (by decide) [] rfl (by decide) (by decide) [] rfl (ci := 7) rfl rfl 0 rfl rfl hl.1 (rest := []) rfl (Nat.le_of_ble_eq_true rfl) dX7_row_30 ⟨Nat.le_of_ble_eq_true rfl, Nat.le_of_ble_eq_true rfl⟩ (fun u H locs _ hP hD hK hS => ?_)
  have hP : va_P D vwCl [(a0, .inr (7, [.ref a1, .int 0, .ref a2, .ref a3, .ref a4, .ref a5, .ref a6, .ref a7, .ref a8, .int (-1), .int 0, .int 3, .int 3, .int 0, .int 0, .int 0, .ref a9, .ref a10, .ref a11, .ref a12, .ref a13, .ref a14, .int 0, .int 0, .int 0, .int 0, .int (-1), .int 1]))] H := hP
  have hD : va_D A [(a0, .inr (7, [.ref a1, .int 0, .ref a2, .ref a3, .ref a4, .ref a5, .ref a6, .ref a7, .ref a8, .int (-1), .int 0, .int 3, .int 3, .int 0, .int 0, .int 0, .ref a9, .ref a10, .ref a11, .ref a12, .ref a13, .ref a14, .int 0, .int 0, .int 0, .int 0, .int (-1), .int 1]))] := hD
  have hK : va_K D vwCl [] s := hK
  refine ka_stk (w := [.int 0]) rfl ?_
  refine lv_goto (tgt := 43) hx hb dX7_row_33 (by decide) ?_
  refine lv_istore_n (lv' := [(3, .int 0), (2, .int 38), (0, .ref a0), (1, .int 3)]) hx hb dX7_row_43 rfl hl (by decide) rfl (fun ls hl => ?_)
  refine lv_aload_n hx hb dX7_row_44 rfl (lv_at hl 2 rfl) ?_
  refine ka_get C lq_203 rfl hK hP 0 rfl 27 (by decide) lq_204 rfl dX7_row_45 ?_
  refine lv_if_ne (tgt := 111) hx hb dX7_row_48 (by decide) (fun _ => ?_) (fun c_ => absurd c_ (by decide))
  refine lv_iload_n hx hb dX7_row_111 rfl (lv_at hl 0 rfl) ?_
  exact ka_rEi C hr hlk (Nat.le_of_ble_eq_true rfl) (Nat.le_of_ble_eq_true rfl) hS (ka_qE () rfl trivial hK hP hD hS [0] (by decide) rfl [] rfl) dX7_row_112
set_option maxHeartbeats 4000000 in
set_option maxRecDepth 100000 in
theorem ct_X7_row_90 (l : Launch) (D : va_G) (a0 : Nat) (a1 : Nat) (a2 : Nat) (a3 : Nat) (a4 : Nat) (a5 : Nat) (a6 : Nat) (a7 : Nat) (a8 : Nat) (a9 : Nat) (a10 : Nat) (a11 : Nat) (a12 : Nat) (a13 : Nat) (a14 : Nat) : ka_E (S := Unit) l D yX7_row wsX7_row 3 67 0 0 [.ref a0, .int 2] [(a0, .inr (7, [.ref a1, .int 0, .ref a2, .ref a3, .ref a4, .ref a5, .ref a6, .ref a7, .ref a8, .int (-1), .int 0, .int 3, .int 3, .int 0, .int 0, .int 0, .ref a9, .ref a10, .ref a11, .ref a12, .ref a13, .ref a14, .int 0, .int 0, .int 0, .int 0, .int (-1), .int 0]))] [] (fun u => some (.int 0)) (fun _ => True) (fun u => [(a0, .inr (7, [.ref a1, .int 0, .ref a2, .ref a3, .ref a4, .ref a5, .ref a6, .ref a7, .ref a8, .int (-1), .int 0, .int 3, .int 3, .int 0, .int 0, .int 0, .ref a9, .ref a10, .ref a11, .ref a12, .ref a13, .ref a14, .int 0, .int 0, .int 0, .int 0, .int (-1), .int 1]))]) (fun u => []) := by
  refine ka_E_of (cc := cX7_row) (maxL := 5) (ret := (some .int)) (by decide) rfl (Nat.le_of_ble_eq_true rfl) ?_
  intro p e s m below meth c ls A C hr hlk hin hP hK hD hS hA hE hN hl
  have C : CallFix p m c cX7_row 5 s [.ref a0, .int 2].toArray wsX7_row RX7 := C
  obtain ⟨hx, hb, hml, hown, hts⟩ := id C
  have hl : lv_has ls 5 [(0, .ref a0), (1, .int 2)] := hl
  refine lv_iload_n hx hb dX7_row_0 rfl (lv_at hl 1 rfl) ?_
  refine lv_iconst (v := 1) hx hb dX7_row_1 (by decide) ?_
  refine lv_icmp_ne (tgt := 10) hx hb dX7_row_2 (by decide) (fun _ => ?_) (fun c_ => absurd c_ (by decide))
  refine lv_iload_n hx hb dX7_row_10 rfl (lv_at hl 1 rfl) ?_
  refine lv_iconst (v := 2) hx hb dX7_row_11 (by decide) ?_
  refine lv_icmp_ne (tgt := 20) hx hb dX7_row_12 (by decide) (fun c_ => absurd (by decide) c_) (fun _ => ?_)
  refine lv_bipush (v := 94) hx hb dX7_row_15 (by decide) ?_
  refine lv_goto (tgt := 22) hx hb dX7_row_17 (by decide) ?_
  refine lv_istore_n (lv' := [(2, .int 94), (0, .ref a0), (1, .int 2)]) hx hb dX7_row_22 rfl hl (by decide) rfl (fun ls hl => ?_)
  refine lv_iload_n hx hb dX7_row_23 rfl (lv_at hl 2 rfl) ?_
  refine lv_iconst (v := 3) hx hb dX7_row_24 (by decide) ?_
  refine lv_icmp_ne (tgt := 36) hx hb dX7_row_25 (by decide) (fun _ => ?_) (fun c_ => absurd c_ (by decide))
  refine lv_aload_n hx hb dX7_row_36 rfl (lv_at hl 1 rfl) ?_
  refine lv_iload_n hx hb dX7_row_37 rfl (lv_at hl 2 rfl) ?_
  refine lv_iconst (v := 1) hx hb dX7_row_38 (by decide) ?_
  refine lv_iadd hx hb dX7_row_39 ?_
  refine ka_top (w := .int 3) (congrArg Value.int (by decide)) ?_
  refine ka_EV (n := 1) (wr := []) C (ct_X7_row_89 l D a0 a1 a2 a3 a4 a5 a6 a7 a8 a9 a10 a11 a12 a13 a14) gX7_row_X7_row rfl (by decide +kernel) ⟨Nat.le_of_ble_eq_true rfl, Nat.le_of_ble_eq_true rfl⟩ hK hP hD hS hA hE hN [0] rfl (by decide) [] rfl (by decide) (by decide) [] rfl (ci := 7) rfl rfl 0 rfl rfl hl.1 (rest := []) rfl (Nat.le_of_ble_eq_true rfl) dX7_row_40 ⟨Nat.le_of_ble_eq_true rfl, Nat.le_of_ble_eq_true rfl⟩ (fun u H locs _ hP hD hK hS => ?_)
  have hP : va_P D vwCl [(a0, .inr (7, [.ref a1, .int 0, .ref a2, .ref a3, .ref a4, .ref a5, .ref a6, .ref a7, .ref a8, .int (-1), .int 0, .int 3, .int 3, .int 0, .int 0, .int 0, .ref a9, .ref a10, .ref a11, .ref a12, .ref a13, .ref a14, .int 0, .int 0, .int 0, .int 0, .int (-1), .int 1]))] H := hP
  have hD : va_D A [(a0, .inr (7, [.ref a1, .int 0, .ref a2, .ref a3, .ref a4, .ref a5, .ref a6, .ref a7, .ref a8, .int (-1), .int 0, .int 3, .int 3, .int 0, .int 0, .int 0, .ref a9, .ref a10, .ref a11, .ref a12, .ref a13, .ref a14, .int 0, .int 0, .int 0, .int 0, .int (-1), .int 1]))] := hD
  have hK : va_K D vwCl [] s := hK
  refine ka_stk (w := [.int 0]) rfl ?_
  refine lv_istore_n (lv' := [(3, .int 0), (2, .int 94), (0, .ref a0), (1, .int 2)]) hx hb dX7_row_43 rfl hl (by decide) rfl (fun ls hl => ?_)
  refine lv_aload_n hx hb dX7_row_44 rfl (lv_at hl 2 rfl) ?_
  refine ka_get C lq_203 rfl hK hP 0 rfl 27 (by decide) lq_204 rfl dX7_row_45 ?_
  refine lv_if_ne (tgt := 111) hx hb dX7_row_48 (by decide) (fun _ => ?_) (fun c_ => absurd c_ (by decide))
  refine lv_iload_n hx hb dX7_row_111 rfl (lv_at hl 0 rfl) ?_
  exact ka_rEi C hr hlk (Nat.le_of_ble_eq_true rfl) (Nat.le_of_ble_eq_true rfl) hS (ka_qE () rfl trivial hK hP hD hS [0] (by decide) rfl [] rfl) dX7_row_112
set_option maxHeartbeats 4000000 in
set_option maxRecDepth 100000 in
theorem ct_X7_row_91 (l : Launch) (D : va_G) (a0 : Nat) (a1 : Nat) (a2 : Nat) (a3 : Nat) (a4 : Nat) (a5 : Nat) (a6 : Nat) (a7 : Nat) (a8 : Nat) (a9 : Nat) (a10 : Nat) (a11 : Nat) (a12 : Nat) (a13 : Nat) (a14 : Nat) : ka_E (S := Unit) l D yX7_row wsX7_row 4 91 0 0 [.ref a0, .int 1] [(a0, .inr (7, [.ref a1, .int 0, .ref a2, .ref a3, .ref a4, .ref a5, .ref a6, .ref a7, .ref a8, .int (-1), .int 0, .int 3, .int 3, .int 0, .int 0, .int 0, .ref a9, .ref a10, .ref a11, .ref a12, .ref a13, .ref a14, .int 0, .int 0, .int 0, .int 0, .int (-1), .int 0]))] [] (fun u => some (.int 0)) (fun _ => True) (fun u => [(a0, .inr (7, [.ref a1, .int 0, .ref a2, .ref a3, .ref a4, .ref a5, .ref a6, .ref a7, .ref a8, .int (-1), .int 0, .int 3, .int 3, .int 0, .int 0, .int 0, .ref a9, .ref a10, .ref a11, .ref a12, .ref a13, .ref a14, .int 0, .int 0, .int 0, .int 0, .int (-1), .int 1]))]) (fun u => []) := by
  refine ka_E_of (cc := cX7_row) (maxL := 5) (ret := (some .int)) (by decide) rfl (Nat.le_of_ble_eq_true rfl) ?_
  intro p e s m below meth c ls A C hr hlk hin hP hK hD hS hA hE hN hl
  have C : CallFix p m c cX7_row 5 s [.ref a0, .int 1].toArray wsX7_row RX7 := C
  obtain ⟨hx, hb, hml, hown, hts⟩ := id C
  have hl : lv_has ls 5 [(0, .ref a0), (1, .int 1)] := hl
  refine lv_iload_n hx hb dX7_row_0 rfl (lv_at hl 1 rfl) ?_
  refine lv_iconst (v := 1) hx hb dX7_row_1 (by decide) ?_
  refine lv_icmp_ne (tgt := 10) hx hb dX7_row_2 (by decide) (fun c_ => absurd (by decide) c_) (fun _ => ?_)
  refine lv_bipush (v := 124) hx hb dX7_row_5 (by decide) ?_
  refine lv_goto (tgt := 22) hx hb dX7_row_7 (by decide) ?_
  refine lv_istore_n (lv' := [(2, .int 124), (0, .ref a0), (1, .int 1)]) hx hb dX7_row_22 rfl hl (by decide) rfl (fun ls hl => ?_)
  refine lv_iload_n hx hb dX7_row_23 rfl (lv_at hl 2 rfl) ?_
  refine lv_iconst (v := 3) hx hb dX7_row_24 (by decide) ?_
  refine lv_icmp_ne (tgt := 36) hx hb dX7_row_25 (by decide) (fun _ => ?_) (fun c_ => absurd c_ (by decide))
  refine lv_aload_n hx hb dX7_row_36 rfl (lv_at hl 1 rfl) ?_
  refine lv_iload_n hx hb dX7_row_37 rfl (lv_at hl 2 rfl) ?_
  refine lv_iconst (v := 1) hx hb dX7_row_38 (by decide) ?_
  refine lv_iadd hx hb dX7_row_39 ?_
  refine ka_top (w := .int 2) (congrArg Value.int (by decide)) ?_
  refine ka_EV (n := 1) (wr := []) C (ct_X7_row_90 l D a0 a1 a2 a3 a4 a5 a6 a7 a8 a9 a10 a11 a12 a13 a14) gX7_row_X7_row rfl (by decide +kernel) ⟨Nat.le_of_ble_eq_true rfl, Nat.le_of_ble_eq_true rfl⟩ hK hP hD hS hA hE hN [0] rfl (by decide) [] rfl (by decide) (by decide) [] rfl (ci := 7) rfl rfl 0 rfl rfl hl.1 (rest := []) rfl (Nat.le_of_ble_eq_true rfl) dX7_row_40 ⟨Nat.le_of_ble_eq_true rfl, Nat.le_of_ble_eq_true rfl⟩ (fun u H locs _ hP hD hK hS => ?_)
  have hP : va_P D vwCl [(a0, .inr (7, [.ref a1, .int 0, .ref a2, .ref a3, .ref a4, .ref a5, .ref a6, .ref a7, .ref a8, .int (-1), .int 0, .int 3, .int 3, .int 0, .int 0, .int 0, .ref a9, .ref a10, .ref a11, .ref a12, .ref a13, .ref a14, .int 0, .int 0, .int 0, .int 0, .int (-1), .int 1]))] H := hP
  have hD : va_D A [(a0, .inr (7, [.ref a1, .int 0, .ref a2, .ref a3, .ref a4, .ref a5, .ref a6, .ref a7, .ref a8, .int (-1), .int 0, .int 3, .int 3, .int 0, .int 0, .int 0, .ref a9, .ref a10, .ref a11, .ref a12, .ref a13, .ref a14, .int 0, .int 0, .int 0, .int 0, .int (-1), .int 1]))] := hD
  have hK : va_K D vwCl [] s := hK
  refine ka_stk (w := [.int 0]) rfl ?_
  refine lv_istore_n (lv' := [(3, .int 0), (2, .int 124), (0, .ref a0), (1, .int 1)]) hx hb dX7_row_43 rfl hl (by decide) rfl (fun ls hl => ?_)
  refine lv_aload_n hx hb dX7_row_44 rfl (lv_at hl 2 rfl) ?_
  refine ka_get C lq_203 rfl hK hP 0 rfl 27 (by decide) lq_204 rfl dX7_row_45 ?_
  refine lv_if_ne (tgt := 111) hx hb dX7_row_48 (by decide) (fun _ => ?_) (fun c_ => absurd c_ (by decide))
  refine lv_iload_n hx hb dX7_row_111 rfl (lv_at hl 0 rfl) ?_
  exact ka_rEi C hr hlk (Nat.le_of_ble_eq_true rfl) (Nat.le_of_ble_eq_true rfl) hS (ka_qE () rfl trivial hK hP hD hS [0] (by decide) rfl [] rfl) dX7_row_112
set_option maxHeartbeats 4000000 in
set_option maxRecDepth 100000 in
theorem ct_X7_blanks_92 (l : Launch) (D : va_G) (a0 : Nat) (a1 : Nat) (a2 : Nat) (a3 : Nat) (a4 : Nat) (a5 : Nat) (a6 : Nat) (a7 : Nat) (a8 : Nat) (a9 : Nat) (a10 : Nat) (a11 : Nat) (a12 : Nat) (a13 : Nat) (a14 : Nat) : ka_R l D yX7_blanks wsX7_blanks 0 0 [.ref a0] [(a0, .inr (7, [.ref a1, .int 0, .ref a2, .ref a3, .ref a4, .ref a5, .ref a6, .ref a7, .ref a8, .int (-1), .int 0, .int 3, .int 3, .int 0, .int 0, .int 0, .ref a9, .ref a10, .ref a11, .ref a12, .ref a13, .ref a14, .int 0, .int 0, .int 0, .int 0, .int (-1), .int 1]))] [] (fun v => v = none) := by
  refine ka_R_of (cc := cX7_blanks) (maxL := 1) (ret := none) (by decide) rfl (Nat.le_of_ble_eq_true rfl) ?_
  intro p e s m below meth c ls C hr hlk hP hK hE hN hl
  have hS : va_S (fun _ => False) s.heap s.heap [] := va_S.rf
  have C : CallFix p m c cX7_blanks 1 s [.ref a0].toArray wsX7_blanks RX7 := C
  obtain ⟨hx, hb, hml, hown, hts⟩ := id C
  have hl : lv_has ls 1 [(0, .ref a0)] := hl
  refine lv_aload_n hx hb dX7_blanks_0 rfl (lv_at hl 0 rfl) ?_
  refine ka_get C lq_195 rfl hK hP 0 rfl 23 (by decide) lq_196 rfl dX7_blanks_1 ?_
  refine lv_aload_n hx hb dX7_blanks_4 rfl (lv_at hl 0 rfl) ?_
  refine ka_get C lq_195 rfl hK hP 0 rfl 24 (by decide) lq_197 rfl dX7_blanks_5 ?_
  refine lv_icmp_ge (tgt := 52) hx hb dX7_blanks_8 (by decide) (fun _ => ?_) (fun c_ => absurd (by decide) c_)
  exact ka_rRv C hr hlk rfl dX7_blanks_52
theorem lq_205 : ∀ w ∈ wsX70, w ∈ wsX7_reads := by decide +kernel
theorem lq_206 : Cond.fieldLink RX7 78 "AskedBackModel" "nodes" "I" ∈ wsX7_reads := by decide +kernel
theorem lq_207 : Cond.fieldLink RX7 81 "AskedBackModel" "at" "I" ∈ wsX7_reads := by decide +kernel
theorem lq_208 : Cond.fieldLink RX7 84 "AskedBackModel" "end" "I" ∈ wsX7_reads := by decide +kernel
theorem lq_209 : Cond.fieldLink RX7 113 "AskedBackModel" "deep" "I" ∈ wsX7_reads := by decide +kernel
theorem lq_210 : Cond.fieldLink RX7 97 "AskedBackModel" "isWrong" "Z" ∈ wsX7_reads := by decide +kernel
theorem lq_211 : Cond.fieldLink RX7 71 "AskedBackModel" "taped" "I" ∈ wsX7_reads := by decide +kernel
theorem lq_212 : Cond.fieldLink RX7 64 "AskedBackModel" "fault" "I" ∈ wsX7_reads := by decide +kernel
set_option maxHeartbeats 4000000 in
set_option maxRecDepth 100000 in
theorem ct_X7_reads_93 (l : Launch) (D : va_G) (a0 : Nat) (a1 : Nat) (a2 : Nat) (a3 : Nat) (a4 : Nat) (a5 : Nat) (a6 : Nat) (a7 : Nat) (a8 : Nat) (a9 : Nat) (a10 : Nat) (a11 : Nat) (a12 : Nat) (a13 : Nat) (a14 : Nat) : ka_E (S := Unit) l D yX7_reads wsX7_reads 5 115 0 0 [.ref a0, .int 0] [(a0, .inr (7, [.ref a1, .int 0, .ref a2, .ref a3, .ref a4, .ref a5, .ref a6, .ref a7, .ref a8, .int (-1), .int 0, .int 3, .int 3, .int 0, .int 0, .int 0, .ref a9, .ref a10, .ref a11, .ref a12, .ref a13, .ref a14, .int 0, .int 0, .int 0, .int 0, .int (-1), .int 0]))] [] (fun u => some (.int 0)) (fun _ => True) (fun u => [(a0, .inr (7, [.ref a1, .int 0, .ref a2, .ref a3, .ref a4, .ref a5, .ref a6, .ref a7, .ref a8, .int (-1), .int 0, .int 3, .int 3, .int 0, .int 0, .int 0, .ref a9, .ref a10, .ref a11, .ref a12, .ref a13, .ref a14, .int 0, .int 0, .int 0, .int 0, .int 0, .int 1]))]) (fun u => []) := by
  refine ka_E_of (cc := cX7_reads) (maxL := 3) (ret := (some .boolean)) (by decide) rfl (Nat.le_of_ble_eq_true rfl) ?_
  intro p e s m below meth c ls A C hr hlk hin hP hK hD hS hA hE hN hl
  have C : CallFix p m c cX7_reads 3 s [.ref a0, .int 0].toArray wsX7_reads RX7 := C
  obtain ⟨hx, hb, hml, hown, hts⟩ := id C
  have hl : lv_has ls 3 [(0, .ref a0), (1, .int 0)] := hl
  refine lv_aload_n hx hb dX7_reads_0 rfl (lv_at hl 0 rfl) ?_
  refine lv_iconst (v := 0) hx hb dX7_reads_1 (by decide) ?_
  refine ka_put C lq_205 tyX7 tyX7_ok nmX7 rfl hK hP hD hS 0 rfl 22 (by decide) lq_206 rfl rfl rfl (Nat.le_of_ble_eq_true rfl) dX7_reads_2 (fun H locs hP hD hS => ?_)
  have hP : va_P D vwCl [(a0, .inr (7, [.ref a1, .int 0, .ref a2, .ref a3, .ref a4, .ref a5, .ref a6, .ref a7, .ref a8, .int (-1), .int 0, .int 3, .int 3, .int 0, .int 0, .int 0, .ref a9, .ref a10, .ref a11, .ref a12, .ref a13, .ref a14, .int 0, .int 0, .int 0, .int 0, .int (-1), .int 0]))] H := hP
  have hD : va_D A [(a0, .inr (7, [.ref a1, .int 0, .ref a2, .ref a3, .ref a4, .ref a5, .ref a6, .ref a7, .ref a8, .int (-1), .int 0, .int 3, .int 3, .int 0, .int 0, .int 0, .ref a9, .ref a10, .ref a11, .ref a12, .ref a13, .ref a14, .int 0, .int 0, .int 0, .int 0, .int (-1), .int 0]))] := hD
  refine lv_aload_n hx hb dX7_reads_5 rfl (lv_at hl 0 rfl) ?_
  refine lv_iconst (v := 0) hx hb dX7_reads_6 (by decide) ?_
  refine ka_put C lq_205 tyX7 tyX7_ok nmX7 rfl hK hP hD hS 0 rfl 23 (by decide) lq_207 rfl rfl rfl (Nat.le_of_ble_eq_true rfl) dX7_reads_7 (fun H locs hP hD hS => ?_)
  have hP : va_P D vwCl [(a0, .inr (7, [.ref a1, .int 0, .ref a2, .ref a3, .ref a4, .ref a5, .ref a6, .ref a7, .ref a8, .int (-1), .int 0, .int 3, .int 3, .int 0, .int 0, .int 0, .ref a9, .ref a10, .ref a11, .ref a12, .ref a13, .ref a14, .int 0, .int 0, .int 0, .int 0, .int (-1), .int 0]))] H := hP
  have hD : va_D A [(a0, .inr (7, [.ref a1, .int 0, .ref a2, .ref a3, .ref a4, .ref a5, .ref a6, .ref a7, .ref a8, .int (-1), .int 0, .int 3, .int 3, .int 0, .int 0, .int 0, .ref a9, .ref a10, .ref a11, .ref a12, .ref a13, .ref a14, .int 0, .int 0, .int 0, .int 0, .int (-1), .int 0]))] := hD
  refine lv_aload_n hx hb dX7_reads_10 rfl (lv_at hl 0 rfl) ?_
  refine lv_iload_n hx hb dX7_reads_11 rfl (lv_at hl 1 rfl) ?_
  refine ka_put C lq_205 tyX7 tyX7_ok nmX7 rfl hK hP hD hS 0 rfl 24 (by decide) lq_208 rfl rfl rfl (Nat.le_of_ble_eq_true rfl) dX7_reads_12 (fun H locs hP hD hS => ?_)
  have hP : va_P D vwCl [(a0, .inr (7, [.ref a1, .int 0, .ref a2, .ref a3, .ref a4, .ref a5, .ref a6, .ref a7, .ref a8, .int (-1), .int 0, .int 3, .int 3, .int 0, .int 0, .int 0, .ref a9, .ref a10, .ref a11, .ref a12, .ref a13, .ref a14, .int 0, .int 0, .int 0, .int 0, .int (-1), .int 0]))] H := hP
  have hD : va_D A [(a0, .inr (7, [.ref a1, .int 0, .ref a2, .ref a3, .ref a4, .ref a5, .ref a6, .ref a7, .ref a8, .int (-1), .int 0, .int 3, .int 3, .int 0, .int 0, .int 0, .ref a9, .ref a10, .ref a11, .ref a12, .ref a13, .ref a14, .int 0, .int 0, .int 0, .int 0, .int (-1), .int 0]))] := hD
  refine lv_aload_n hx hb dX7_reads_15 rfl (lv_at hl 0 rfl) ?_
  refine lv_iconst (v := 0) hx hb dX7_reads_16 (by decide) ?_
  refine ka_put C lq_205 tyX7 tyX7_ok nmX7 rfl hK hP hD hS 0 rfl 25 (by decide) lq_209 rfl rfl rfl (Nat.le_of_ble_eq_true rfl) dX7_reads_17 (fun H locs hP hD hS => ?_)
  have hP : va_P D vwCl [(a0, .inr (7, [.ref a1, .int 0, .ref a2, .ref a3, .ref a4, .ref a5, .ref a6, .ref a7, .ref a8, .int (-1), .int 0, .int 3, .int 3, .int 0, .int 0, .int 0, .ref a9, .ref a10, .ref a11, .ref a12, .ref a13, .ref a14, .int 0, .int 0, .int 0, .int 0, .int (-1), .int 0]))] H := hP
  have hD : va_D A [(a0, .inr (7, [.ref a1, .int 0, .ref a2, .ref a3, .ref a4, .ref a5, .ref a6, .ref a7, .ref a8, .int (-1), .int 0, .int 3, .int 3, .int 0, .int 0, .int 0, .ref a9, .ref a10, .ref a11, .ref a12, .ref a13, .ref a14, .int 0, .int 0, .int 0, .int 0, .int (-1), .int 0]))] := hD
  refine lv_aload_n hx hb dX7_reads_20 rfl (lv_at hl 0 rfl) ?_
  refine lv_iconst (v := 0) hx hb dX7_reads_21 (by decide) ?_
  refine ka_put C lq_205 tyX7 tyX7_ok nmX7 rfl hK hP hD hS 0 rfl 27 (by decide) lq_210 rfl rfl rfl (Nat.le_of_ble_eq_true rfl) dX7_reads_22 (fun H locs hP hD hS => ?_)
  have hP : va_P D vwCl [(a0, .inr (7, [.ref a1, .int 0, .ref a2, .ref a3, .ref a4, .ref a5, .ref a6, .ref a7, .ref a8, .int (-1), .int 0, .int 3, .int 3, .int 0, .int 0, .int 0, .ref a9, .ref a10, .ref a11, .ref a12, .ref a13, .ref a14, .int 0, .int 0, .int 0, .int 0, .int (-1), .int 0]))] H := hP
  have hD : va_D A [(a0, .inr (7, [.ref a1, .int 0, .ref a2, .ref a3, .ref a4, .ref a5, .ref a6, .ref a7, .ref a8, .int (-1), .int 0, .int 3, .int 3, .int 0, .int 0, .int 0, .ref a9, .ref a10, .ref a11, .ref a12, .ref a13, .ref a14, .int 0, .int 0, .int 0, .int 0, .int (-1), .int 0]))] := hD
  refine lv_aload_n hx hb dX7_reads_25 rfl (lv_at hl 0 rfl) ?_
  refine lv_iconst (v := 1) hx hb dX7_reads_26 (by decide) ?_
  refine ka_EV (n := 1) (wr := []) C (ct_X7_row_91 l D a0 a1 a2 a3 a4 a5 a6 a7 a8 a9 a10 a11 a12 a13 a14) gX7_reads_X7_row rfl (by decide +kernel) ⟨Nat.le_of_ble_eq_true rfl, Nat.le_of_ble_eq_true rfl⟩ hK hP hD hS hA hE hN [0] rfl (by decide) [] rfl (by decide) (by decide) [] rfl (ci := 7) rfl rfl 0 rfl rfl hl.1 (rest := []) rfl (Nat.le_of_ble_eq_true rfl) dX7_reads_27 ⟨Nat.le_of_ble_eq_true rfl, Nat.le_of_ble_eq_true rfl⟩ (fun u H locs _ hP hD hK hS => ?_)
  have hP : va_P D vwCl [(a0, .inr (7, [.ref a1, .int 0, .ref a2, .ref a3, .ref a4, .ref a5, .ref a6, .ref a7, .ref a8, .int (-1), .int 0, .int 3, .int 3, .int 0, .int 0, .int 0, .ref a9, .ref a10, .ref a11, .ref a12, .ref a13, .ref a14, .int 0, .int 0, .int 0, .int 0, .int (-1), .int 1]))] H := hP
  have hD : va_D A [(a0, .inr (7, [.ref a1, .int 0, .ref a2, .ref a3, .ref a4, .ref a5, .ref a6, .ref a7, .ref a8, .int (-1), .int 0, .int 3, .int 3, .int 0, .int 0, .int 0, .ref a9, .ref a10, .ref a11, .ref a12, .ref a13, .ref a14, .int 0, .int 0, .int 0, .int 0, .int (-1), .int 1]))] := hD
  have hK : va_K D vwCl [] s := hK
  refine ka_stk (w := [.int 0]) rfl ?_
  refine lv_istore_n (lv' := [(2, .int 0), (0, .ref a0), (1, .int 0)]) hx hb dX7_reads_30 rfl hl (by decide) rfl (fun ls hl => ?_)
  refine lv_aload_n hx hb dX7_reads_31 rfl (lv_at hl 1 rfl) ?_
  refine ka_RV (n := 0) C (ct_X7_blanks_92 l D a0 a1 a2 a3 a4 a5 a6 a7 a8 a9 a10 a11 a12 a13 a14) gX7_reads_X7_blanks rfl (by decide +kernel) ⟨Nat.le_of_ble_eq_true rfl, Nat.le_of_ble_eq_true rfl⟩ hK hP hS hE hN [0] rfl [] rfl (ci := 7) rfl rfl 0 rfl rfl hl.1 (rest := []) rfl (Nat.le_of_ble_eq_true rfl) dX7_reads_32 ⟨Nat.le_of_ble_eq_true rfl, Nat.le_of_ble_eq_true rfl⟩ (fun v hv => ?_)
  subst hv
  refine ka_stk (w := []) rfl ?_
  refine lv_aload_n hx hb dX7_reads_35 rfl (lv_at hl 1 rfl) ?_
  refine ka_get C lq_205 rfl hK hP 0 rfl 23 (by decide) lq_207 rfl dX7_reads_36 ?_
  refine lv_aload_n hx hb dX7_reads_39 rfl (lv_at hl 1 rfl) ?_
  refine ka_get C lq_205 rfl hK hP 0 rfl 24 (by decide) lq_208 rfl dX7_reads_40 ?_
  refine lv_icmp_ge (tgt := 51) hx hb dX7_reads_43 (by decide) (fun _ => ?_) (fun c_ => absurd (by decide) c_)
  refine lv_aload_n hx hb dX7_reads_51 rfl (lv_at hl 1 rfl) ?_
  refine lv_iconst (v := 0) hx hb dX7_reads_52 (by decide) ?_
  refine ka_put C lq_205 tyX7 tyX7_ok nmX7 rfl hK hP hD hS 0 rfl 1 (by decide) lq_211 rfl rfl rfl (Nat.le_of_ble_eq_true rfl) dX7_reads_53 (fun H locs hP hD hS => ?_)
  have hP : va_P D vwCl [(a0, .inr (7, [.ref a1, .int 0, .ref a2, .ref a3, .ref a4, .ref a5, .ref a6, .ref a7, .ref a8, .int (-1), .int 0, .int 3, .int 3, .int 0, .int 0, .int 0, .ref a9, .ref a10, .ref a11, .ref a12, .ref a13, .ref a14, .int 0, .int 0, .int 0, .int 0, .int (-1), .int 1]))] H := hP
  have hD : va_D A [(a0, .inr (7, [.ref a1, .int 0, .ref a2, .ref a3, .ref a4, .ref a5, .ref a6, .ref a7, .ref a8, .int (-1), .int 0, .int 3, .int 3, .int 0, .int 0, .int 0, .ref a9, .ref a10, .ref a11, .ref a12, .ref a13, .ref a14, .int 0, .int 0, .int 0, .int 0, .int (-1), .int 1]))] := hD
  refine lv_aload_n hx hb dX7_reads_56 rfl (lv_at hl 1 rfl) ?_
  refine lv_aload_n hx hb dX7_reads_57 rfl (lv_at hl 1 rfl) ?_
  refine ka_get C lq_205 rfl hK hP 0 rfl 27 (by decide) lq_210 rfl dX7_reads_58 ?_
  refine lv_if_eq (tgt := 71) hx hb dX7_reads_61 (by decide) (fun c_ => absurd c_ (by decide)) (fun _ => ?_)
  refine lv_aload_n hx hb dX7_reads_64 rfl (lv_at hl 1 rfl) ?_
  refine ka_get C lq_205 rfl hK hP 0 rfl 23 (by decide) lq_207 rfl dX7_reads_65 ?_
  refine lv_goto (tgt := 72) hx hb dX7_reads_68 (by decide) ?_
  refine ka_put C lq_205 tyX7 tyX7_ok nmX7 rfl hK hP hD hS 0 rfl 26 (by decide) lq_212 rfl rfl rfl (Nat.le_of_ble_eq_true rfl) dX7_reads_72 (fun H locs hP hD hS => ?_)
  have hP : va_P D vwCl [(a0, .inr (7, [.ref a1, .int 0, .ref a2, .ref a3, .ref a4, .ref a5, .ref a6, .ref a7, .ref a8, .int (-1), .int 0, .int 3, .int 3, .int 0, .int 0, .int 0, .ref a9, .ref a10, .ref a11, .ref a12, .ref a13, .ref a14, .int 0, .int 0, .int 0, .int 0, .int 0, .int 1]))] H := hP
  have hD : va_D A [(a0, .inr (7, [.ref a1, .int 0, .ref a2, .ref a3, .ref a4, .ref a5, .ref a6, .ref a7, .ref a8, .int (-1), .int 0, .int 3, .int 3, .int 0, .int 0, .int 0, .ref a9, .ref a10, .ref a11, .ref a12, .ref a13, .ref a14, .int 0, .int 0, .int 0, .int 0, .int 0, .int 1]))] := hD
  refine lv_aload_n hx hb dX7_reads_75 rfl (lv_at hl 1 rfl) ?_
  refine ka_get C lq_205 rfl hK hP 0 rfl 27 (by decide) lq_210 rfl dX7_reads_76 ?_
  refine lv_if_eq (tgt := 84) hx hb dX7_reads_79 (by decide) (fun c_ => absurd c_ (by decide)) (fun _ => ?_)
  refine lv_iconst (v := 0) hx hb dX7_reads_82 (by decide) ?_
  exact ka_rEz C hr hlk rfl (Nat.le_of_ble_eq_true rfl) (Nat.le_of_ble_eq_true rfl) hS (ka_qE () rfl trivial hK hP hD hS [0] (by decide) rfl [] rfl) dX7_reads_83
set_option maxHeartbeats 4000000 in
set_option maxRecDepth 100000 in
theorem ct_X7_isIn_94 (l : Launch) (D : va_G) (x0 : Int32) (hx0 : 1 ≤ x0.toInt) : ka_R l D yX7_isIn wsX7_isIn 0 0 [.int x0, .int 0, .int 0] [] [] (fun v => v = some (.int 0)) := by
  refine ka_R_of (cc := cX7_isIn) (maxL := 3) (ret := (some .boolean)) (by decide) rfl (Nat.le_of_ble_eq_true rfl) ?_
  intro p e s m below meth c ls C hr hlk hP hK hE hN hl
  have hS : va_S (fun _ => False) s.heap s.heap [] := va_S.rf
  have C : CallFix p m c cX7_isIn 3 s [.int x0, .int 0, .int 0].toArray wsX7_isIn RX7 := C
  obtain ⟨hx, hb, hml, hown, hts⟩ := id C
  have hl : lv_has ls 3 [(0, .int x0), (1, .int 0), (2, .int 0)] := hl
  have rx0 := ka_rng x0
  refine lv_iload_n hx hb dX7_isIn_0 rfl (lv_at hl 0 rfl) ?_
  refine lv_iload_n hx hb dX7_isIn_1 rfl (lv_at hl 1 rfl) ?_
  refine lv_icmp_lt (tgt := 14) hx hb dX7_isIn_2 (by decide) (fun c_ => absurd c_ (by rw [ka_lt', show ((0 : Int32)).toInt = 0 from by decide]; omega)) (fun _ => ?_)
  refine lv_iload_n hx hb dX7_isIn_5 rfl (lv_at hl 0 rfl) ?_
  refine lv_iload_n hx hb dX7_isIn_6 rfl (lv_at hl 2 rfl) ?_
  refine lv_icmp_gt (tgt := 14) hx hb dX7_isIn_7 (by decide) (fun _ => ?_) (fun c_ => absurd (by rw [ka_lt', show ((0 : Int32)).toInt = 0 from by decide]; omega) c_)
  refine lv_iconst (v := 0) hx hb dX7_isIn_14 (by decide) ?_
  exact ka_rRz C hr hlk rfl rfl dX7_isIn_15
set_option maxHeartbeats 4000000 in
set_option maxRecDepth 100000 in
theorem ct_X7_isText_95 (l : Launch) (D : va_G) (a0 : Nat) (x0 : Int32) (a1 : Nat) (a2 : Nat) (a3 : Nat) (a4 : Nat) (a5 : Nat) (a6 : Nat) (a7 : Nat) (a8 : Nat) (a9 : Nat) (a10 : Nat) (a11 : Nat) (a12 : Nat) (a13 : Nat) (a14 : Nat) (hx0 : 1 ≤ x0.toInt) : ka_R l D yX7_isText wsX7_isText 1 22 [.ref a0, .int x0] [(a0, .inr (7, [.ref a1, .int 0, .ref a2, .ref a3, .ref a4, .ref a5, .ref a6, .ref a7, .ref a8, .int (-1), .int 0, .int 3, .int 3, .int 0, .int 0, .int 0, .ref a9, .ref a10, .ref a11, .ref a12, .ref a13, .ref a14, .int 0, .int 0, .int 0, .int 0, .int (-1), .int 0]))] [] (fun v => v = some (.int 0)) := by
  refine ka_R_of (cc := cX7_isText) (maxL := 2) (ret := (some .boolean)) (by decide) rfl (Nat.le_of_ble_eq_true rfl) ?_
  intro p e s m below meth c ls C hr hlk hP hK hE hN hl
  have hS : va_S (fun _ => False) s.heap s.heap [] := va_S.rf
  have C : CallFix p m c cX7_isText 2 s [.ref a0, .int x0].toArray wsX7_isText RX7 := C
  obtain ⟨hx, hb, hml, hown, hts⟩ := id C
  have hl : lv_has ls 2 [(0, .ref a0), (1, .int x0)] := hl
  have rx0 := ka_rng x0
  refine lv_iload_n hx hb dX7_isText_0 rfl (lv_at hl 1 rfl) ?_
  refine lv_iconst (v := 0) hx hb dX7_isText_1 (by decide) ?_
  refine lv_bipush (v := 60) hx hb dX7_isText_2 (by decide) ?_
  refine lv_aload_n hx hb dX7_isText_4 rfl (lv_at hl 0 rfl) ?_
  refine ka_get C lq_186 rfl hK hP 0 rfl 1 (by decide) lq_187 rfl dX7_isText_5 ?_
  refine va_mmin hx hb (hml.trans hl.1.symm) hown (hts _ lq_188) (hts _ lq_189) (hts _ lq_190) (hts _ lq_191) (Nat.le_of_ble_eq_true rfl) (Nat.le_of_ble_eq_true rfl) (Nat.le_of_ble_eq_true rfl) (Nat.le_of_ble_eq_true rfl) dX7_isText_8 ?_
  refine ka_top (w := .int 0) (congrArg Value.int (by decide)) ?_
  refine ka_RS (n := 3) C (ct_X7_isIn_94 l D x0 (by omega)) gX7_isText_X7_isIn rfl (by decide +kernel) ⟨Nat.le_of_ble_eq_true rfl, Nat.le_of_ble_eq_true rfl⟩ hK hP hS hE hN [] rfl [] rfl rfl hl.1 (rest := []) rfl (Nat.le_of_ble_eq_true rfl) dX7_isText_11 ⟨Nat.le_of_ble_eq_true rfl, Nat.le_of_ble_eq_true rfl⟩ (fun v hv => ?_)
  subst hv
  refine ka_stk (w := [.int 0]) rfl ?_
  exact ka_rRz C hr hlk rfl rfl dX7_isText_14
set_option maxHeartbeats 4000000 in
set_option maxRecDepth 100000 in
theorem ct_X7_isOpenFor_96 (l : Launch) (D : va_G) (a0 : Nat) (x0 : Int32) (a1 : Nat) (a2 : Nat) (a3 : Nat) (a4 : Nat) (a5 : Nat) (a6 : Nat) (a7 : Nat) (a8 : Nat) (a9 : Nat) (a10 : Nat) (a11 : Nat) (a12 : Nat) (a13 : Nat) (a14 : Nat) (k0 : ClassId) (hx0 : 1 ≤ x0.toInt) : ka_R l D yX7_isOpenFor wsX7_isOpenFor 2 43 [.ref a0, .int 0, .int x0] [(a0, .inr (7, [.ref a1, .int 0, .ref a2, .ref a3, .ref a4, .ref a5, .ref a6, .ref a7, .ref a8, .int (-1), .int 0, .int 3, .int 3, .int 0, .int 0, .int 0, .ref a9, .ref a10, .ref a11, .ref a12, .ref a13, .ref a14, .int 0, .int 0, .int 0, .int 0, .int (-1), .int 0])), (a6, .inl (k0, 6, .inl (fun _ => 0)))] [(k0, .boolean)] (fun v => v = some (.int 0)) := by
  refine ka_R_of (cc := cX7_isOpenFor) (maxL := 3) (ret := (some .boolean)) (by decide) rfl (Nat.le_of_ble_eq_true rfl) ?_
  intro p e s m below meth c ls C hr hlk hP hK hE hN hl
  have hS : va_S (fun _ => False) s.heap s.heap [] := va_S.rf
  have C : CallFix p m c cX7_isOpenFor 3 s [.ref a0, .int 0, .int x0].toArray wsX7_isOpenFor RX7 := C
  obtain ⟨hx, hb, hml, hown, hts⟩ := id C
  have hl : lv_has ls 3 [(0, .ref a0), (1, .int 0), (2, .int x0)] := hl
  have rx0 := ka_rng x0
  refine lv_iload_n hx hb dX7_isOpenFor_0 rfl (lv_at hl 1 rfl) ?_
  refine ka_RS (n := 1) C (ct_X7_isLesson_79 l D ) gX7_isOpenFor_X7_isLesson rfl (by decide +kernel) ⟨Nat.le_of_ble_eq_true rfl, Nat.le_of_ble_eq_true rfl⟩ hK hP hS hE hN [] rfl [] rfl rfl hl.1 (rest := []) rfl (Nat.le_of_ble_eq_true rfl) dX7_isOpenFor_1 ⟨Nat.le_of_ble_eq_true rfl, Nat.le_of_ble_eq_true rfl⟩ (fun v hv => ?_)
  subst hv
  refine ka_stk (w := [.int 1]) rfl ?_
  refine lv_if_eq (tgt := 36) hx hb dX7_isOpenFor_4 (by decide) (fun c_ => absurd c_ (by decide)) (fun _ => ?_)
  refine lv_iload_n hx hb dX7_isOpenFor_7 rfl (lv_at hl 1 rfl) ?_
  refine lv_aload_n hx hb dX7_isOpenFor_8 rfl (lv_at hl 0 rfl) ?_
  refine ka_get C lq_192 rfl hK hP 0 rfl 9 (by decide) lq_193 rfl dX7_isOpenFor_9 ?_
  refine lv_icmp_eq (tgt := 36) hx hb dX7_isOpenFor_12 (by decide) (fun c_ => absurd c_ (by decide)) (fun _ => ?_)
  refine lv_aload_n hx hb dX7_isOpenFor_15 rfl (lv_at hl 0 rfl) ?_
  refine ka_get C lq_192 rfl hK hP 0 rfl 6 (by decide) lq_194 rfl dX7_isOpenFor_16 ?_
  refine lv_iload_n hx hb dX7_isOpenFor_19 rfl (lv_at hl 1 rfl) ?_
  refine va_zald hx hb hK hP 1 0 rfl rfl (ka_in (by decide) (by decide)) dX7_isOpenFor_20 ?_
  refine ka_top (w := .int 0) rfl ?_
  refine lv_if_ne (tgt := 36) hx hb dX7_isOpenFor_21 (by decide) (fun c_ => absurd (by decide) c_) (fun _ => ?_)
  refine lv_aload_n hx hb dX7_isOpenFor_24 rfl (lv_at hl 0 rfl) ?_
  refine lv_iload_n hx hb dX7_isOpenFor_25 rfl (lv_at hl 2 rfl) ?_
  refine ka_RV (n := 1) C (ct_X7_isText_95 l D a0 x0 a1 a2 a3 a4 a5 a6 a7 a8 a9 a10 a11 a12 a13 a14 (by omega)) gX7_isOpenFor_X7_isText rfl (by decide +kernel) ⟨Nat.le_of_ble_eq_true rfl, Nat.le_of_ble_eq_true rfl⟩ hK hP hS hE hN [0] rfl [] rfl (ci := 7) rfl rfl 0 rfl rfl hl.1 (rest := []) rfl (Nat.le_of_ble_eq_true rfl) dX7_isOpenFor_26 ⟨Nat.le_of_ble_eq_true rfl, Nat.le_of_ble_eq_true rfl⟩ (fun v hv => ?_)
  subst hv
  refine ka_stk (w := [.int 0]) rfl ?_
  refine lv_if_eq (tgt := 36) hx hb dX7_isOpenFor_29 (by decide) (fun _ => ?_) (fun c_ => absurd (by decide) c_)
  refine lv_iconst (v := 0) hx hb dX7_isOpenFor_36 (by decide) ?_
  exact ka_rRz C hr hlk rfl rfl dX7_isOpenFor_37
set_option maxHeartbeats 4000000 in
set_option maxRecDepth 100000 in
theorem ct_X7_isIn_97 (l : Launch) (D : va_G) : ka_R l D yX7_isIn wsX7_isIn 0 0 [.int 1, .int 0, .int 5] [] [] (fun v => v = some (.int 1)) := by
  refine ka_R_of (cc := cX7_isIn) (maxL := 3) (ret := (some .boolean)) (by decide) rfl (Nat.le_of_ble_eq_true rfl) ?_
  intro p e s m below meth c ls C hr hlk hP hK hE hN hl
  have hS : va_S (fun _ => False) s.heap s.heap [] := va_S.rf
  have C : CallFix p m c cX7_isIn 3 s [.int 1, .int 0, .int 5].toArray wsX7_isIn RX7 := C
  obtain ⟨hx, hb, hml, hown, hts⟩ := id C
  have hl : lv_has ls 3 [(0, .int 1), (1, .int 0), (2, .int 5)] := hl
  refine lv_iload_n hx hb dX7_isIn_0 rfl (lv_at hl 0 rfl) ?_
  refine lv_iload_n hx hb dX7_isIn_1 rfl (lv_at hl 1 rfl) ?_
  refine lv_icmp_lt (tgt := 14) hx hb dX7_isIn_2 (by decide) (fun c_ => absurd c_ (by decide)) (fun _ => ?_)
  refine lv_iload_n hx hb dX7_isIn_5 rfl (lv_at hl 0 rfl) ?_
  refine lv_iload_n hx hb dX7_isIn_6 rfl (lv_at hl 2 rfl) ?_
  refine lv_icmp_gt (tgt := 14) hx hb dX7_isIn_7 (by decide) (fun c_ => absurd c_ (by decide)) (fun _ => ?_)
  refine lv_iconst (v := 1) hx hb dX7_isIn_10 (by decide) ?_
  refine lv_goto (tgt := 15) hx hb dX7_isIn_11 (by decide) ?_
  exact ka_rRz C hr hlk rfl rfl dX7_isIn_15
set_option maxHeartbeats 4000000 in
set_option maxRecDepth 100000 in
theorem ct_X7_isLesson_98 (l : Launch) (D : va_G) : ka_R l D yX7_isLesson wsX7_isLesson 1 22 [.int 1] [] [] (fun v => v = some (.int 1)) := by
  refine ka_R_of (cc := cX7_isLesson) (maxL := 1) (ret := (some .boolean)) (by decide) rfl (Nat.le_of_ble_eq_true rfl) ?_
  intro p e s m below meth c ls C hr hlk hP hK hE hN hl
  have hS : va_S (fun _ => False) s.heap s.heap [] := va_S.rf
  have C : CallFix p m c cX7_isLesson 1 s [.int 1].toArray wsX7_isLesson RX7 := C
  obtain ⟨hx, hb, hml, hown, hts⟩ := id C
  have hl : lv_has ls 1 [(0, .int 1)] := hl
  refine lv_iload_n hx hb dX7_isLesson_0 rfl (lv_at hl 0 rfl) ?_
  refine lv_iconst (v := 0) hx hb dX7_isLesson_1 (by decide) ?_
  refine lv_iconst (v := 5) hx hb dX7_isLesson_2 (by decide) ?_
  refine ka_RS (n := 3) C (ct_X7_isIn_97 l D ) gX7_isLesson_X7_isIn rfl (by decide +kernel) ⟨Nat.le_of_ble_eq_true rfl, Nat.le_of_ble_eq_true rfl⟩ hK hP hS hE hN [] rfl [] rfl rfl hl.1 (rest := []) rfl (Nat.le_of_ble_eq_true rfl) dX7_isLesson_3 ⟨Nat.le_of_ble_eq_true rfl, Nat.le_of_ble_eq_true rfl⟩ (fun v hv => ?_)
  subst hv
  refine ka_stk (w := [.int 1]) rfl ?_
  exact ka_rRz C hr hlk rfl rfl dX7_isLesson_6
set_option maxHeartbeats 4000000 in
set_option maxRecDepth 100000 in
theorem ct_X7_isOpenFor_99 (l : Launch) (D : va_G) (a0 : Nat) (x0 : Int32) (a1 : Nat) (a2 : Nat) (a3 : Nat) (a4 : Nat) (a5 : Nat) (a6 : Nat) (a7 : Nat) (a8 : Nat) (a9 : Nat) (a10 : Nat) (a11 : Nat) (a12 : Nat) (a13 : Nat) (a14 : Nat) (k0 : ClassId) (hx0 : x0.toInt ≤ -1) : ka_R l D yX7_isOpenFor wsX7_isOpenFor 2 43 [.ref a0, .int 1, .int x0] [(a0, .inr (7, [.ref a1, .int 0, .ref a2, .ref a3, .ref a4, .ref a5, .ref a6, .ref a7, .ref a8, .int (-1), .int 0, .int 3, .int 3, .int 0, .int 0, .int 0, .ref a9, .ref a10, .ref a11, .ref a12, .ref a13, .ref a14, .int 0, .int 0, .int 0, .int 0, .int (-1), .int 0])), (a6, .inl (k0, 6, .inl (fun _ => 0)))] [(k0, .boolean)] (fun v => v = some (.int 0)) := by
  refine ka_R_of (cc := cX7_isOpenFor) (maxL := 3) (ret := (some .boolean)) (by decide) rfl (Nat.le_of_ble_eq_true rfl) ?_
  intro p e s m below meth c ls C hr hlk hP hK hE hN hl
  have hS : va_S (fun _ => False) s.heap s.heap [] := va_S.rf
  have C : CallFix p m c cX7_isOpenFor 3 s [.ref a0, .int 1, .int x0].toArray wsX7_isOpenFor RX7 := C
  obtain ⟨hx, hb, hml, hown, hts⟩ := id C
  have hl : lv_has ls 3 [(0, .ref a0), (1, .int 1), (2, .int x0)] := hl
  have rx0 := ka_rng x0
  refine lv_iload_n hx hb dX7_isOpenFor_0 rfl (lv_at hl 1 rfl) ?_
  refine ka_RS (n := 1) C (ct_X7_isLesson_98 l D ) gX7_isOpenFor_X7_isLesson rfl (by decide +kernel) ⟨Nat.le_of_ble_eq_true rfl, Nat.le_of_ble_eq_true rfl⟩ hK hP hS hE hN [] rfl [] rfl rfl hl.1 (rest := []) rfl (Nat.le_of_ble_eq_true rfl) dX7_isOpenFor_1 ⟨Nat.le_of_ble_eq_true rfl, Nat.le_of_ble_eq_true rfl⟩ (fun v hv => ?_)
  subst hv
  refine ka_stk (w := [.int 1]) rfl ?_
  refine lv_if_eq (tgt := 36) hx hb dX7_isOpenFor_4 (by decide) (fun c_ => absurd c_ (by decide)) (fun _ => ?_)
  refine lv_iload_n hx hb dX7_isOpenFor_7 rfl (lv_at hl 1 rfl) ?_
  refine lv_aload_n hx hb dX7_isOpenFor_8 rfl (lv_at hl 0 rfl) ?_
  refine ka_get C lq_192 rfl hK hP 0 rfl 9 (by decide) lq_193 rfl dX7_isOpenFor_9 ?_
  refine lv_icmp_eq (tgt := 36) hx hb dX7_isOpenFor_12 (by decide) (fun c_ => absurd c_ (by decide)) (fun _ => ?_)
  refine lv_aload_n hx hb dX7_isOpenFor_15 rfl (lv_at hl 0 rfl) ?_
  refine ka_get C lq_192 rfl hK hP 0 rfl 6 (by decide) lq_194 rfl dX7_isOpenFor_16 ?_
  refine lv_iload_n hx hb dX7_isOpenFor_19 rfl (lv_at hl 1 rfl) ?_
  refine va_zald hx hb hK hP 1 0 rfl rfl (ka_in (by decide) (by decide)) dX7_isOpenFor_20 ?_
  refine ka_top (w := .int 0) rfl ?_
  refine lv_if_ne (tgt := 36) hx hb dX7_isOpenFor_21 (by decide) (fun c_ => absurd (by decide) c_) (fun _ => ?_)
  refine lv_aload_n hx hb dX7_isOpenFor_24 rfl (lv_at hl 0 rfl) ?_
  refine lv_iload_n hx hb dX7_isOpenFor_25 rfl (lv_at hl 2 rfl) ?_
  refine ka_RV (n := 1) C (ct_X7_isText_81 l D a0 x0 a1 a2 a3 a4 a5 a6 a7 a8 a9 a10 a11 a12 a13 a14 (by omega)) gX7_isOpenFor_X7_isText rfl (by decide +kernel) ⟨Nat.le_of_ble_eq_true rfl, Nat.le_of_ble_eq_true rfl⟩ hK hP hS hE hN [0] rfl [] rfl (ci := 7) rfl rfl 0 rfl rfl hl.1 (rest := []) rfl (Nat.le_of_ble_eq_true rfl) dX7_isOpenFor_26 ⟨Nat.le_of_ble_eq_true rfl, Nat.le_of_ble_eq_true rfl⟩ (fun v hv => ?_)
  subst hv
  refine ka_stk (w := [.int 0]) rfl ?_
  refine lv_if_eq (tgt := 36) hx hb dX7_isOpenFor_29 (by decide) (fun _ => ?_) (fun c_ => absurd (by decide) c_)
  refine lv_iconst (v := 0) hx hb dX7_isOpenFor_36 (by decide) ?_
  exact ka_rRz C hr hlk rfl rfl dX7_isOpenFor_37
set_option maxHeartbeats 4000000 in
set_option maxRecDepth 100000 in
theorem ct_X7_isOpenFor_100 (l : Launch) (D : va_G) (a0 : Nat) (a1 : Nat) (a2 : Nat) (a3 : Nat) (a4 : Nat) (a5 : Nat) (a6 : Nat) (a7 : Nat) (a8 : Nat) (a9 : Nat) (a10 : Nat) (a11 : Nat) (a12 : Nat) (a13 : Nat) (a14 : Nat) (k0 : ClassId) : ka_R l D yX7_isOpenFor wsX7_isOpenFor 2 43 [.ref a0, .int 1, .int 0] [(a0, .inr (7, [.ref a1, .int 0, .ref a2, .ref a3, .ref a4, .ref a5, .ref a6, .ref a7, .ref a8, .int (-1), .int 0, .int 3, .int 3, .int 0, .int 0, .int 0, .ref a9, .ref a10, .ref a11, .ref a12, .ref a13, .ref a14, .int 0, .int 0, .int 0, .int 0, .int (-1), .int 0])), (a6, .inl (k0, 6, .inl (fun _ => 0)))] [(k0, .boolean)] (fun v => v = some (.int 1)) := by
  refine ka_R_of (cc := cX7_isOpenFor) (maxL := 3) (ret := (some .boolean)) (by decide) rfl (Nat.le_of_ble_eq_true rfl) ?_
  intro p e s m below meth c ls C hr hlk hP hK hE hN hl
  have hS : va_S (fun _ => False) s.heap s.heap [] := va_S.rf
  have C : CallFix p m c cX7_isOpenFor 3 s [.ref a0, .int 1, .int 0].toArray wsX7_isOpenFor RX7 := C
  obtain ⟨hx, hb, hml, hown, hts⟩ := id C
  have hl : lv_has ls 3 [(0, .ref a0), (1, .int 1), (2, .int 0)] := hl
  refine lv_iload_n hx hb dX7_isOpenFor_0 rfl (lv_at hl 1 rfl) ?_
  refine ka_RS (n := 1) C (ct_X7_isLesson_98 l D ) gX7_isOpenFor_X7_isLesson rfl (by decide +kernel) ⟨Nat.le_of_ble_eq_true rfl, Nat.le_of_ble_eq_true rfl⟩ hK hP hS hE hN [] rfl [] rfl rfl hl.1 (rest := []) rfl (Nat.le_of_ble_eq_true rfl) dX7_isOpenFor_1 ⟨Nat.le_of_ble_eq_true rfl, Nat.le_of_ble_eq_true rfl⟩ (fun v hv => ?_)
  subst hv
  refine ka_stk (w := [.int 1]) rfl ?_
  refine lv_if_eq (tgt := 36) hx hb dX7_isOpenFor_4 (by decide) (fun c_ => absurd c_ (by decide)) (fun _ => ?_)
  refine lv_iload_n hx hb dX7_isOpenFor_7 rfl (lv_at hl 1 rfl) ?_
  refine lv_aload_n hx hb dX7_isOpenFor_8 rfl (lv_at hl 0 rfl) ?_
  refine ka_get C lq_192 rfl hK hP 0 rfl 9 (by decide) lq_193 rfl dX7_isOpenFor_9 ?_
  refine lv_icmp_eq (tgt := 36) hx hb dX7_isOpenFor_12 (by decide) (fun c_ => absurd c_ (by decide)) (fun _ => ?_)
  refine lv_aload_n hx hb dX7_isOpenFor_15 rfl (lv_at hl 0 rfl) ?_
  refine ka_get C lq_192 rfl hK hP 0 rfl 6 (by decide) lq_194 rfl dX7_isOpenFor_16 ?_
  refine lv_iload_n hx hb dX7_isOpenFor_19 rfl (lv_at hl 1 rfl) ?_
  refine va_zald hx hb hK hP 1 0 rfl rfl (ka_in (by decide) (by decide)) dX7_isOpenFor_20 ?_
  refine ka_top (w := .int 0) rfl ?_
  refine lv_if_ne (tgt := 36) hx hb dX7_isOpenFor_21 (by decide) (fun c_ => absurd (by decide) c_) (fun _ => ?_)
  refine lv_aload_n hx hb dX7_isOpenFor_24 rfl (lv_at hl 0 rfl) ?_
  refine lv_iload_n hx hb dX7_isOpenFor_25 rfl (lv_at hl 2 rfl) ?_
  refine ka_RV (n := 1) C (ct_X7_isText_84 l D a0 a1 a2 a3 a4 a5 a6 a7 a8 a9 a10 a11 a12 a13 a14) gX7_isOpenFor_X7_isText rfl (by decide +kernel) ⟨Nat.le_of_ble_eq_true rfl, Nat.le_of_ble_eq_true rfl⟩ hK hP hS hE hN [0] rfl [] rfl (ci := 7) rfl rfl 0 rfl rfl hl.1 (rest := []) rfl (Nat.le_of_ble_eq_true rfl) dX7_isOpenFor_26 ⟨Nat.le_of_ble_eq_true rfl, Nat.le_of_ble_eq_true rfl⟩ (fun v hv => ?_)
  subst hv
  refine ka_stk (w := [.int 1]) rfl ?_
  refine lv_if_eq (tgt := 36) hx hb dX7_isOpenFor_29 (by decide) (fun c_ => absurd c_ (by decide)) (fun _ => ?_)
  refine lv_iconst (v := 1) hx hb dX7_isOpenFor_32 (by decide) ?_
  refine lv_goto (tgt := 37) hx hb dX7_isOpenFor_33 (by decide) ?_
  exact ka_rRz C hr hlk rfl rfl dX7_isOpenFor_37
set_option maxHeartbeats 4000000 in
set_option maxRecDepth 100000 in
theorem ct_X7_isOpenFor_101 (l : Launch) (D : va_G) (a0 : Nat) (x0 : Int32) (a1 : Nat) (a2 : Nat) (a3 : Nat) (a4 : Nat) (a5 : Nat) (a6 : Nat) (a7 : Nat) (a8 : Nat) (a9 : Nat) (a10 : Nat) (a11 : Nat) (a12 : Nat) (a13 : Nat) (a14 : Nat) (k0 : ClassId) (hx0 : 1 ≤ x0.toInt) : ka_R l D yX7_isOpenFor wsX7_isOpenFor 2 43 [.ref a0, .int 1, .int x0] [(a0, .inr (7, [.ref a1, .int 0, .ref a2, .ref a3, .ref a4, .ref a5, .ref a6, .ref a7, .ref a8, .int (-1), .int 0, .int 3, .int 3, .int 0, .int 0, .int 0, .ref a9, .ref a10, .ref a11, .ref a12, .ref a13, .ref a14, .int 0, .int 0, .int 0, .int 0, .int (-1), .int 0])), (a6, .inl (k0, 6, .inl (fun _ => 0)))] [(k0, .boolean)] (fun v => v = some (.int 0)) := by
  refine ka_R_of (cc := cX7_isOpenFor) (maxL := 3) (ret := (some .boolean)) (by decide) rfl (Nat.le_of_ble_eq_true rfl) ?_
  intro p e s m below meth c ls C hr hlk hP hK hE hN hl
  have hS : va_S (fun _ => False) s.heap s.heap [] := va_S.rf
  have C : CallFix p m c cX7_isOpenFor 3 s [.ref a0, .int 1, .int x0].toArray wsX7_isOpenFor RX7 := C
  obtain ⟨hx, hb, hml, hown, hts⟩ := id C
  have hl : lv_has ls 3 [(0, .ref a0), (1, .int 1), (2, .int x0)] := hl
  have rx0 := ka_rng x0
  refine lv_iload_n hx hb dX7_isOpenFor_0 rfl (lv_at hl 1 rfl) ?_
  refine ka_RS (n := 1) C (ct_X7_isLesson_98 l D ) gX7_isOpenFor_X7_isLesson rfl (by decide +kernel) ⟨Nat.le_of_ble_eq_true rfl, Nat.le_of_ble_eq_true rfl⟩ hK hP hS hE hN [] rfl [] rfl rfl hl.1 (rest := []) rfl (Nat.le_of_ble_eq_true rfl) dX7_isOpenFor_1 ⟨Nat.le_of_ble_eq_true rfl, Nat.le_of_ble_eq_true rfl⟩ (fun v hv => ?_)
  subst hv
  refine ka_stk (w := [.int 1]) rfl ?_
  refine lv_if_eq (tgt := 36) hx hb dX7_isOpenFor_4 (by decide) (fun c_ => absurd c_ (by decide)) (fun _ => ?_)
  refine lv_iload_n hx hb dX7_isOpenFor_7 rfl (lv_at hl 1 rfl) ?_
  refine lv_aload_n hx hb dX7_isOpenFor_8 rfl (lv_at hl 0 rfl) ?_
  refine ka_get C lq_192 rfl hK hP 0 rfl 9 (by decide) lq_193 rfl dX7_isOpenFor_9 ?_
  refine lv_icmp_eq (tgt := 36) hx hb dX7_isOpenFor_12 (by decide) (fun c_ => absurd c_ (by decide)) (fun _ => ?_)
  refine lv_aload_n hx hb dX7_isOpenFor_15 rfl (lv_at hl 0 rfl) ?_
  refine ka_get C lq_192 rfl hK hP 0 rfl 6 (by decide) lq_194 rfl dX7_isOpenFor_16 ?_
  refine lv_iload_n hx hb dX7_isOpenFor_19 rfl (lv_at hl 1 rfl) ?_
  refine va_zald hx hb hK hP 1 0 rfl rfl (ka_in (by decide) (by decide)) dX7_isOpenFor_20 ?_
  refine ka_top (w := .int 0) rfl ?_
  refine lv_if_ne (tgt := 36) hx hb dX7_isOpenFor_21 (by decide) (fun c_ => absurd (by decide) c_) (fun _ => ?_)
  refine lv_aload_n hx hb dX7_isOpenFor_24 rfl (lv_at hl 0 rfl) ?_
  refine lv_iload_n hx hb dX7_isOpenFor_25 rfl (lv_at hl 2 rfl) ?_
  refine ka_RV (n := 1) C (ct_X7_isText_95 l D a0 x0 a1 a2 a3 a4 a5 a6 a7 a8 a9 a10 a11 a12 a13 a14 (by omega)) gX7_isOpenFor_X7_isText rfl (by decide +kernel) ⟨Nat.le_of_ble_eq_true rfl, Nat.le_of_ble_eq_true rfl⟩ hK hP hS hE hN [0] rfl [] rfl (ci := 7) rfl rfl 0 rfl rfl hl.1 (rest := []) rfl (Nat.le_of_ble_eq_true rfl) dX7_isOpenFor_26 ⟨Nat.le_of_ble_eq_true rfl, Nat.le_of_ble_eq_true rfl⟩ (fun v hv => ?_)
  subst hv
  refine ka_stk (w := [.int 0]) rfl ?_
  refine lv_if_eq (tgt := 36) hx hb dX7_isOpenFor_29 (by decide) (fun _ => ?_) (fun c_ => absurd (by decide) c_)
  refine lv_iconst (v := 0) hx hb dX7_isOpenFor_36 (by decide) ?_
  exact ka_rRz C hr hlk rfl rfl dX7_isOpenFor_37
set_option maxHeartbeats 4000000 in
set_option maxRecDepth 100000 in
theorem ct_X7_isIn_102 (l : Launch) (D : va_G) : ka_R l D yX7_isIn wsX7_isIn 0 0 [.int 2, .int 0, .int 5] [] [] (fun v => v = some (.int 1)) := by
  refine ka_R_of (cc := cX7_isIn) (maxL := 3) (ret := (some .boolean)) (by decide) rfl (Nat.le_of_ble_eq_true rfl) ?_
  intro p e s m below meth c ls C hr hlk hP hK hE hN hl
  have hS : va_S (fun _ => False) s.heap s.heap [] := va_S.rf
  have C : CallFix p m c cX7_isIn 3 s [.int 2, .int 0, .int 5].toArray wsX7_isIn RX7 := C
  obtain ⟨hx, hb, hml, hown, hts⟩ := id C
  have hl : lv_has ls 3 [(0, .int 2), (1, .int 0), (2, .int 5)] := hl
  refine lv_iload_n hx hb dX7_isIn_0 rfl (lv_at hl 0 rfl) ?_
  refine lv_iload_n hx hb dX7_isIn_1 rfl (lv_at hl 1 rfl) ?_
  refine lv_icmp_lt (tgt := 14) hx hb dX7_isIn_2 (by decide) (fun c_ => absurd c_ (by decide)) (fun _ => ?_)
  refine lv_iload_n hx hb dX7_isIn_5 rfl (lv_at hl 0 rfl) ?_
  refine lv_iload_n hx hb dX7_isIn_6 rfl (lv_at hl 2 rfl) ?_
  refine lv_icmp_gt (tgt := 14) hx hb dX7_isIn_7 (by decide) (fun c_ => absurd c_ (by decide)) (fun _ => ?_)
  refine lv_iconst (v := 1) hx hb dX7_isIn_10 (by decide) ?_
  refine lv_goto (tgt := 15) hx hb dX7_isIn_11 (by decide) ?_
  exact ka_rRz C hr hlk rfl rfl dX7_isIn_15
set_option maxHeartbeats 4000000 in
set_option maxRecDepth 100000 in
theorem ct_X7_isLesson_103 (l : Launch) (D : va_G) : ka_R l D yX7_isLesson wsX7_isLesson 1 22 [.int 2] [] [] (fun v => v = some (.int 1)) := by
  refine ka_R_of (cc := cX7_isLesson) (maxL := 1) (ret := (some .boolean)) (by decide) rfl (Nat.le_of_ble_eq_true rfl) ?_
  intro p e s m below meth c ls C hr hlk hP hK hE hN hl
  have hS : va_S (fun _ => False) s.heap s.heap [] := va_S.rf
  have C : CallFix p m c cX7_isLesson 1 s [.int 2].toArray wsX7_isLesson RX7 := C
  obtain ⟨hx, hb, hml, hown, hts⟩ := id C
  have hl : lv_has ls 1 [(0, .int 2)] := hl
  refine lv_iload_n hx hb dX7_isLesson_0 rfl (lv_at hl 0 rfl) ?_
  refine lv_iconst (v := 0) hx hb dX7_isLesson_1 (by decide) ?_
  refine lv_iconst (v := 5) hx hb dX7_isLesson_2 (by decide) ?_
  refine ka_RS (n := 3) C (ct_X7_isIn_102 l D ) gX7_isLesson_X7_isIn rfl (by decide +kernel) ⟨Nat.le_of_ble_eq_true rfl, Nat.le_of_ble_eq_true rfl⟩ hK hP hS hE hN [] rfl [] rfl rfl hl.1 (rest := []) rfl (Nat.le_of_ble_eq_true rfl) dX7_isLesson_3 ⟨Nat.le_of_ble_eq_true rfl, Nat.le_of_ble_eq_true rfl⟩ (fun v hv => ?_)
  subst hv
  refine ka_stk (w := [.int 1]) rfl ?_
  exact ka_rRz C hr hlk rfl rfl dX7_isLesson_6
set_option maxHeartbeats 4000000 in
set_option maxRecDepth 100000 in
theorem ct_X7_isOpenFor_104 (l : Launch) (D : va_G) (a0 : Nat) (x0 : Int32) (a1 : Nat) (a2 : Nat) (a3 : Nat) (a4 : Nat) (a5 : Nat) (a6 : Nat) (a7 : Nat) (a8 : Nat) (a9 : Nat) (a10 : Nat) (a11 : Nat) (a12 : Nat) (a13 : Nat) (a14 : Nat) (k0 : ClassId) (hx0 : x0.toInt ≤ -1) : ka_R l D yX7_isOpenFor wsX7_isOpenFor 2 43 [.ref a0, .int 2, .int x0] [(a0, .inr (7, [.ref a1, .int 0, .ref a2, .ref a3, .ref a4, .ref a5, .ref a6, .ref a7, .ref a8, .int (-1), .int 0, .int 3, .int 3, .int 0, .int 0, .int 0, .ref a9, .ref a10, .ref a11, .ref a12, .ref a13, .ref a14, .int 0, .int 0, .int 0, .int 0, .int (-1), .int 0])), (a6, .inl (k0, 6, .inl (fun _ => 0)))] [(k0, .boolean)] (fun v => v = some (.int 0)) := by
  refine ka_R_of (cc := cX7_isOpenFor) (maxL := 3) (ret := (some .boolean)) (by decide) rfl (Nat.le_of_ble_eq_true rfl) ?_
  intro p e s m below meth c ls C hr hlk hP hK hE hN hl
  have hS : va_S (fun _ => False) s.heap s.heap [] := va_S.rf
  have C : CallFix p m c cX7_isOpenFor 3 s [.ref a0, .int 2, .int x0].toArray wsX7_isOpenFor RX7 := C
  obtain ⟨hx, hb, hml, hown, hts⟩ := id C
  have hl : lv_has ls 3 [(0, .ref a0), (1, .int 2), (2, .int x0)] := hl
  have rx0 := ka_rng x0
  refine lv_iload_n hx hb dX7_isOpenFor_0 rfl (lv_at hl 1 rfl) ?_
  refine ka_RS (n := 1) C (ct_X7_isLesson_103 l D ) gX7_isOpenFor_X7_isLesson rfl (by decide +kernel) ⟨Nat.le_of_ble_eq_true rfl, Nat.le_of_ble_eq_true rfl⟩ hK hP hS hE hN [] rfl [] rfl rfl hl.1 (rest := []) rfl (Nat.le_of_ble_eq_true rfl) dX7_isOpenFor_1 ⟨Nat.le_of_ble_eq_true rfl, Nat.le_of_ble_eq_true rfl⟩ (fun v hv => ?_)
  subst hv
  refine ka_stk (w := [.int 1]) rfl ?_
  refine lv_if_eq (tgt := 36) hx hb dX7_isOpenFor_4 (by decide) (fun c_ => absurd c_ (by decide)) (fun _ => ?_)
  refine lv_iload_n hx hb dX7_isOpenFor_7 rfl (lv_at hl 1 rfl) ?_
  refine lv_aload_n hx hb dX7_isOpenFor_8 rfl (lv_at hl 0 rfl) ?_
  refine ka_get C lq_192 rfl hK hP 0 rfl 9 (by decide) lq_193 rfl dX7_isOpenFor_9 ?_
  refine lv_icmp_eq (tgt := 36) hx hb dX7_isOpenFor_12 (by decide) (fun c_ => absurd c_ (by decide)) (fun _ => ?_)
  refine lv_aload_n hx hb dX7_isOpenFor_15 rfl (lv_at hl 0 rfl) ?_
  refine ka_get C lq_192 rfl hK hP 0 rfl 6 (by decide) lq_194 rfl dX7_isOpenFor_16 ?_
  refine lv_iload_n hx hb dX7_isOpenFor_19 rfl (lv_at hl 1 rfl) ?_
  refine va_zald hx hb hK hP 1 0 rfl rfl (ka_in (by decide) (by decide)) dX7_isOpenFor_20 ?_
  refine ka_top (w := .int 0) rfl ?_
  refine lv_if_ne (tgt := 36) hx hb dX7_isOpenFor_21 (by decide) (fun c_ => absurd (by decide) c_) (fun _ => ?_)
  refine lv_aload_n hx hb dX7_isOpenFor_24 rfl (lv_at hl 0 rfl) ?_
  refine lv_iload_n hx hb dX7_isOpenFor_25 rfl (lv_at hl 2 rfl) ?_
  refine ka_RV (n := 1) C (ct_X7_isText_81 l D a0 x0 a1 a2 a3 a4 a5 a6 a7 a8 a9 a10 a11 a12 a13 a14 (by omega)) gX7_isOpenFor_X7_isText rfl (by decide +kernel) ⟨Nat.le_of_ble_eq_true rfl, Nat.le_of_ble_eq_true rfl⟩ hK hP hS hE hN [0] rfl [] rfl (ci := 7) rfl rfl 0 rfl rfl hl.1 (rest := []) rfl (Nat.le_of_ble_eq_true rfl) dX7_isOpenFor_26 ⟨Nat.le_of_ble_eq_true rfl, Nat.le_of_ble_eq_true rfl⟩ (fun v hv => ?_)
  subst hv
  refine ka_stk (w := [.int 0]) rfl ?_
  refine lv_if_eq (tgt := 36) hx hb dX7_isOpenFor_29 (by decide) (fun _ => ?_) (fun c_ => absurd (by decide) c_)
  refine lv_iconst (v := 0) hx hb dX7_isOpenFor_36 (by decide) ?_
  exact ka_rRz C hr hlk rfl rfl dX7_isOpenFor_37
set_option maxHeartbeats 4000000 in
set_option maxRecDepth 100000 in
theorem ct_X7_isOpenFor_105 (l : Launch) (D : va_G) (a0 : Nat) (a1 : Nat) (a2 : Nat) (a3 : Nat) (a4 : Nat) (a5 : Nat) (a6 : Nat) (a7 : Nat) (a8 : Nat) (a9 : Nat) (a10 : Nat) (a11 : Nat) (a12 : Nat) (a13 : Nat) (a14 : Nat) (k0 : ClassId) : ka_R l D yX7_isOpenFor wsX7_isOpenFor 2 43 [.ref a0, .int 2, .int 0] [(a0, .inr (7, [.ref a1, .int 0, .ref a2, .ref a3, .ref a4, .ref a5, .ref a6, .ref a7, .ref a8, .int (-1), .int 0, .int 3, .int 3, .int 0, .int 0, .int 0, .ref a9, .ref a10, .ref a11, .ref a12, .ref a13, .ref a14, .int 0, .int 0, .int 0, .int 0, .int (-1), .int 0])), (a6, .inl (k0, 6, .inl (fun _ => 0)))] [(k0, .boolean)] (fun v => v = some (.int 1)) := by
  refine ka_R_of (cc := cX7_isOpenFor) (maxL := 3) (ret := (some .boolean)) (by decide) rfl (Nat.le_of_ble_eq_true rfl) ?_
  intro p e s m below meth c ls C hr hlk hP hK hE hN hl
  have hS : va_S (fun _ => False) s.heap s.heap [] := va_S.rf
  have C : CallFix p m c cX7_isOpenFor 3 s [.ref a0, .int 2, .int 0].toArray wsX7_isOpenFor RX7 := C
  obtain ⟨hx, hb, hml, hown, hts⟩ := id C
  have hl : lv_has ls 3 [(0, .ref a0), (1, .int 2), (2, .int 0)] := hl
  refine lv_iload_n hx hb dX7_isOpenFor_0 rfl (lv_at hl 1 rfl) ?_
  refine ka_RS (n := 1) C (ct_X7_isLesson_103 l D ) gX7_isOpenFor_X7_isLesson rfl (by decide +kernel) ⟨Nat.le_of_ble_eq_true rfl, Nat.le_of_ble_eq_true rfl⟩ hK hP hS hE hN [] rfl [] rfl rfl hl.1 (rest := []) rfl (Nat.le_of_ble_eq_true rfl) dX7_isOpenFor_1 ⟨Nat.le_of_ble_eq_true rfl, Nat.le_of_ble_eq_true rfl⟩ (fun v hv => ?_)
  subst hv
  refine ka_stk (w := [.int 1]) rfl ?_
  refine lv_if_eq (tgt := 36) hx hb dX7_isOpenFor_4 (by decide) (fun c_ => absurd c_ (by decide)) (fun _ => ?_)
  refine lv_iload_n hx hb dX7_isOpenFor_7 rfl (lv_at hl 1 rfl) ?_
  refine lv_aload_n hx hb dX7_isOpenFor_8 rfl (lv_at hl 0 rfl) ?_
  refine ka_get C lq_192 rfl hK hP 0 rfl 9 (by decide) lq_193 rfl dX7_isOpenFor_9 ?_
  refine lv_icmp_eq (tgt := 36) hx hb dX7_isOpenFor_12 (by decide) (fun c_ => absurd c_ (by decide)) (fun _ => ?_)
  refine lv_aload_n hx hb dX7_isOpenFor_15 rfl (lv_at hl 0 rfl) ?_
  refine ka_get C lq_192 rfl hK hP 0 rfl 6 (by decide) lq_194 rfl dX7_isOpenFor_16 ?_
  refine lv_iload_n hx hb dX7_isOpenFor_19 rfl (lv_at hl 1 rfl) ?_
  refine va_zald hx hb hK hP 1 0 rfl rfl (ka_in (by decide) (by decide)) dX7_isOpenFor_20 ?_
  refine ka_top (w := .int 0) rfl ?_
  refine lv_if_ne (tgt := 36) hx hb dX7_isOpenFor_21 (by decide) (fun c_ => absurd (by decide) c_) (fun _ => ?_)
  refine lv_aload_n hx hb dX7_isOpenFor_24 rfl (lv_at hl 0 rfl) ?_
  refine lv_iload_n hx hb dX7_isOpenFor_25 rfl (lv_at hl 2 rfl) ?_
  refine ka_RV (n := 1) C (ct_X7_isText_84 l D a0 a1 a2 a3 a4 a5 a6 a7 a8 a9 a10 a11 a12 a13 a14) gX7_isOpenFor_X7_isText rfl (by decide +kernel) ⟨Nat.le_of_ble_eq_true rfl, Nat.le_of_ble_eq_true rfl⟩ hK hP hS hE hN [0] rfl [] rfl (ci := 7) rfl rfl 0 rfl rfl hl.1 (rest := []) rfl (Nat.le_of_ble_eq_true rfl) dX7_isOpenFor_26 ⟨Nat.le_of_ble_eq_true rfl, Nat.le_of_ble_eq_true rfl⟩ (fun v hv => ?_)
  subst hv
  refine ka_stk (w := [.int 1]) rfl ?_
  refine lv_if_eq (tgt := 36) hx hb dX7_isOpenFor_29 (by decide) (fun c_ => absurd c_ (by decide)) (fun _ => ?_)
  refine lv_iconst (v := 1) hx hb dX7_isOpenFor_32 (by decide) ?_
  refine lv_goto (tgt := 37) hx hb dX7_isOpenFor_33 (by decide) ?_
  exact ka_rRz C hr hlk rfl rfl dX7_isOpenFor_37
set_option maxHeartbeats 4000000 in
set_option maxRecDepth 100000 in
theorem ct_X7_isOpenFor_106 (l : Launch) (D : va_G) (a0 : Nat) (x0 : Int32) (a1 : Nat) (a2 : Nat) (a3 : Nat) (a4 : Nat) (a5 : Nat) (a6 : Nat) (a7 : Nat) (a8 : Nat) (a9 : Nat) (a10 : Nat) (a11 : Nat) (a12 : Nat) (a13 : Nat) (a14 : Nat) (k0 : ClassId) (hx0 : 1 ≤ x0.toInt) : ka_R l D yX7_isOpenFor wsX7_isOpenFor 2 43 [.ref a0, .int 2, .int x0] [(a0, .inr (7, [.ref a1, .int 0, .ref a2, .ref a3, .ref a4, .ref a5, .ref a6, .ref a7, .ref a8, .int (-1), .int 0, .int 3, .int 3, .int 0, .int 0, .int 0, .ref a9, .ref a10, .ref a11, .ref a12, .ref a13, .ref a14, .int 0, .int 0, .int 0, .int 0, .int (-1), .int 0])), (a6, .inl (k0, 6, .inl (fun _ => 0)))] [(k0, .boolean)] (fun v => v = some (.int 0)) := by
  refine ka_R_of (cc := cX7_isOpenFor) (maxL := 3) (ret := (some .boolean)) (by decide) rfl (Nat.le_of_ble_eq_true rfl) ?_
  intro p e s m below meth c ls C hr hlk hP hK hE hN hl
  have hS : va_S (fun _ => False) s.heap s.heap [] := va_S.rf
  have C : CallFix p m c cX7_isOpenFor 3 s [.ref a0, .int 2, .int x0].toArray wsX7_isOpenFor RX7 := C
  obtain ⟨hx, hb, hml, hown, hts⟩ := id C
  have hl : lv_has ls 3 [(0, .ref a0), (1, .int 2), (2, .int x0)] := hl
  have rx0 := ka_rng x0
  refine lv_iload_n hx hb dX7_isOpenFor_0 rfl (lv_at hl 1 rfl) ?_
  refine ka_RS (n := 1) C (ct_X7_isLesson_103 l D ) gX7_isOpenFor_X7_isLesson rfl (by decide +kernel) ⟨Nat.le_of_ble_eq_true rfl, Nat.le_of_ble_eq_true rfl⟩ hK hP hS hE hN [] rfl [] rfl rfl hl.1 (rest := []) rfl (Nat.le_of_ble_eq_true rfl) dX7_isOpenFor_1 ⟨Nat.le_of_ble_eq_true rfl, Nat.le_of_ble_eq_true rfl⟩ (fun v hv => ?_)
  subst hv
  refine ka_stk (w := [.int 1]) rfl ?_
  refine lv_if_eq (tgt := 36) hx hb dX7_isOpenFor_4 (by decide) (fun c_ => absurd c_ (by decide)) (fun _ => ?_)
  refine lv_iload_n hx hb dX7_isOpenFor_7 rfl (lv_at hl 1 rfl) ?_
  refine lv_aload_n hx hb dX7_isOpenFor_8 rfl (lv_at hl 0 rfl) ?_
  refine ka_get C lq_192 rfl hK hP 0 rfl 9 (by decide) lq_193 rfl dX7_isOpenFor_9 ?_
  refine lv_icmp_eq (tgt := 36) hx hb dX7_isOpenFor_12 (by decide) (fun c_ => absurd c_ (by decide)) (fun _ => ?_)
  refine lv_aload_n hx hb dX7_isOpenFor_15 rfl (lv_at hl 0 rfl) ?_
  refine ka_get C lq_192 rfl hK hP 0 rfl 6 (by decide) lq_194 rfl dX7_isOpenFor_16 ?_
  refine lv_iload_n hx hb dX7_isOpenFor_19 rfl (lv_at hl 1 rfl) ?_
  refine va_zald hx hb hK hP 1 0 rfl rfl (ka_in (by decide) (by decide)) dX7_isOpenFor_20 ?_
  refine ka_top (w := .int 0) rfl ?_
  refine lv_if_ne (tgt := 36) hx hb dX7_isOpenFor_21 (by decide) (fun c_ => absurd (by decide) c_) (fun _ => ?_)
  refine lv_aload_n hx hb dX7_isOpenFor_24 rfl (lv_at hl 0 rfl) ?_
  refine lv_iload_n hx hb dX7_isOpenFor_25 rfl (lv_at hl 2 rfl) ?_
  refine ka_RV (n := 1) C (ct_X7_isText_95 l D a0 x0 a1 a2 a3 a4 a5 a6 a7 a8 a9 a10 a11 a12 a13 a14 (by omega)) gX7_isOpenFor_X7_isText rfl (by decide +kernel) ⟨Nat.le_of_ble_eq_true rfl, Nat.le_of_ble_eq_true rfl⟩ hK hP hS hE hN [0] rfl [] rfl (ci := 7) rfl rfl 0 rfl rfl hl.1 (rest := []) rfl (Nat.le_of_ble_eq_true rfl) dX7_isOpenFor_26 ⟨Nat.le_of_ble_eq_true rfl, Nat.le_of_ble_eq_true rfl⟩ (fun v hv => ?_)
  subst hv
  refine ka_stk (w := [.int 0]) rfl ?_
  refine lv_if_eq (tgt := 36) hx hb dX7_isOpenFor_29 (by decide) (fun _ => ?_) (fun c_ => absurd (by decide) c_)
  refine lv_iconst (v := 0) hx hb dX7_isOpenFor_36 (by decide) ?_
  exact ka_rRz C hr hlk rfl rfl dX7_isOpenFor_37
set_option maxHeartbeats 4000000 in
set_option maxRecDepth 100000 in
theorem ct_X7_isIn_107 (l : Launch) (D : va_G) : ka_R l D yX7_isIn wsX7_isIn 0 0 [.int 3, .int 0, .int 5] [] [] (fun v => v = some (.int 1)) := by
  refine ka_R_of (cc := cX7_isIn) (maxL := 3) (ret := (some .boolean)) (by decide) rfl (Nat.le_of_ble_eq_true rfl) ?_
  intro p e s m below meth c ls C hr hlk hP hK hE hN hl
  have hS : va_S (fun _ => False) s.heap s.heap [] := va_S.rf
  have C : CallFix p m c cX7_isIn 3 s [.int 3, .int 0, .int 5].toArray wsX7_isIn RX7 := C
  obtain ⟨hx, hb, hml, hown, hts⟩ := id C
  have hl : lv_has ls 3 [(0, .int 3), (1, .int 0), (2, .int 5)] := hl
  refine lv_iload_n hx hb dX7_isIn_0 rfl (lv_at hl 0 rfl) ?_
  refine lv_iload_n hx hb dX7_isIn_1 rfl (lv_at hl 1 rfl) ?_
  refine lv_icmp_lt (tgt := 14) hx hb dX7_isIn_2 (by decide) (fun c_ => absurd c_ (by decide)) (fun _ => ?_)
  refine lv_iload_n hx hb dX7_isIn_5 rfl (lv_at hl 0 rfl) ?_
  refine lv_iload_n hx hb dX7_isIn_6 rfl (lv_at hl 2 rfl) ?_
  refine lv_icmp_gt (tgt := 14) hx hb dX7_isIn_7 (by decide) (fun c_ => absurd c_ (by decide)) (fun _ => ?_)
  refine lv_iconst (v := 1) hx hb dX7_isIn_10 (by decide) ?_
  refine lv_goto (tgt := 15) hx hb dX7_isIn_11 (by decide) ?_
  exact ka_rRz C hr hlk rfl rfl dX7_isIn_15
set_option maxHeartbeats 4000000 in
set_option maxRecDepth 100000 in
theorem ct_X7_isLesson_108 (l : Launch) (D : va_G) : ka_R l D yX7_isLesson wsX7_isLesson 1 22 [.int 3] [] [] (fun v => v = some (.int 1)) := by
  refine ka_R_of (cc := cX7_isLesson) (maxL := 1) (ret := (some .boolean)) (by decide) rfl (Nat.le_of_ble_eq_true rfl) ?_
  intro p e s m below meth c ls C hr hlk hP hK hE hN hl
  have hS : va_S (fun _ => False) s.heap s.heap [] := va_S.rf
  have C : CallFix p m c cX7_isLesson 1 s [.int 3].toArray wsX7_isLesson RX7 := C
  obtain ⟨hx, hb, hml, hown, hts⟩ := id C
  have hl : lv_has ls 1 [(0, .int 3)] := hl
  refine lv_iload_n hx hb dX7_isLesson_0 rfl (lv_at hl 0 rfl) ?_
  refine lv_iconst (v := 0) hx hb dX7_isLesson_1 (by decide) ?_
  refine lv_iconst (v := 5) hx hb dX7_isLesson_2 (by decide) ?_
  refine ka_RS (n := 3) C (ct_X7_isIn_107 l D ) gX7_isLesson_X7_isIn rfl (by decide +kernel) ⟨Nat.le_of_ble_eq_true rfl, Nat.le_of_ble_eq_true rfl⟩ hK hP hS hE hN [] rfl [] rfl rfl hl.1 (rest := []) rfl (Nat.le_of_ble_eq_true rfl) dX7_isLesson_3 ⟨Nat.le_of_ble_eq_true rfl, Nat.le_of_ble_eq_true rfl⟩ (fun v hv => ?_)
  subst hv
  refine ka_stk (w := [.int 1]) rfl ?_
  exact ka_rRz C hr hlk rfl rfl dX7_isLesson_6
set_option maxHeartbeats 4000000 in
set_option maxRecDepth 100000 in
theorem ct_X7_isOpenFor_109 (l : Launch) (D : va_G) (a0 : Nat) (x0 : Int32) (a1 : Nat) (a2 : Nat) (a3 : Nat) (a4 : Nat) (a5 : Nat) (a6 : Nat) (a7 : Nat) (a8 : Nat) (a9 : Nat) (a10 : Nat) (a11 : Nat) (a12 : Nat) (a13 : Nat) (a14 : Nat) (k0 : ClassId) (hx0 : x0.toInt ≤ -1) : ka_R l D yX7_isOpenFor wsX7_isOpenFor 2 43 [.ref a0, .int 3, .int x0] [(a0, .inr (7, [.ref a1, .int 0, .ref a2, .ref a3, .ref a4, .ref a5, .ref a6, .ref a7, .ref a8, .int (-1), .int 0, .int 3, .int 3, .int 0, .int 0, .int 0, .ref a9, .ref a10, .ref a11, .ref a12, .ref a13, .ref a14, .int 0, .int 0, .int 0, .int 0, .int (-1), .int 0])), (a6, .inl (k0, 6, .inl (fun _ => 0)))] [(k0, .boolean)] (fun v => v = some (.int 0)) := by
  refine ka_R_of (cc := cX7_isOpenFor) (maxL := 3) (ret := (some .boolean)) (by decide) rfl (Nat.le_of_ble_eq_true rfl) ?_
  intro p e s m below meth c ls C hr hlk hP hK hE hN hl
  have hS : va_S (fun _ => False) s.heap s.heap [] := va_S.rf
  have C : CallFix p m c cX7_isOpenFor 3 s [.ref a0, .int 3, .int x0].toArray wsX7_isOpenFor RX7 := C
  obtain ⟨hx, hb, hml, hown, hts⟩ := id C
  have hl : lv_has ls 3 [(0, .ref a0), (1, .int 3), (2, .int x0)] := hl
  have rx0 := ka_rng x0
  refine lv_iload_n hx hb dX7_isOpenFor_0 rfl (lv_at hl 1 rfl) ?_
  refine ka_RS (n := 1) C (ct_X7_isLesson_108 l D ) gX7_isOpenFor_X7_isLesson rfl (by decide +kernel) ⟨Nat.le_of_ble_eq_true rfl, Nat.le_of_ble_eq_true rfl⟩ hK hP hS hE hN [] rfl [] rfl rfl hl.1 (rest := []) rfl (Nat.le_of_ble_eq_true rfl) dX7_isOpenFor_1 ⟨Nat.le_of_ble_eq_true rfl, Nat.le_of_ble_eq_true rfl⟩ (fun v hv => ?_)
  subst hv
  refine ka_stk (w := [.int 1]) rfl ?_
  refine lv_if_eq (tgt := 36) hx hb dX7_isOpenFor_4 (by decide) (fun c_ => absurd c_ (by decide)) (fun _ => ?_)
  refine lv_iload_n hx hb dX7_isOpenFor_7 rfl (lv_at hl 1 rfl) ?_
  refine lv_aload_n hx hb dX7_isOpenFor_8 rfl (lv_at hl 0 rfl) ?_
  refine ka_get C lq_192 rfl hK hP 0 rfl 9 (by decide) lq_193 rfl dX7_isOpenFor_9 ?_
  refine lv_icmp_eq (tgt := 36) hx hb dX7_isOpenFor_12 (by decide) (fun c_ => absurd c_ (by decide)) (fun _ => ?_)
  refine lv_aload_n hx hb dX7_isOpenFor_15 rfl (lv_at hl 0 rfl) ?_
  refine ka_get C lq_192 rfl hK hP 0 rfl 6 (by decide) lq_194 rfl dX7_isOpenFor_16 ?_
  refine lv_iload_n hx hb dX7_isOpenFor_19 rfl (lv_at hl 1 rfl) ?_
  refine va_zald hx hb hK hP 1 0 rfl rfl (ka_in (by decide) (by decide)) dX7_isOpenFor_20 ?_
  refine ka_top (w := .int 0) rfl ?_
  refine lv_if_ne (tgt := 36) hx hb dX7_isOpenFor_21 (by decide) (fun c_ => absurd (by decide) c_) (fun _ => ?_)
  refine lv_aload_n hx hb dX7_isOpenFor_24 rfl (lv_at hl 0 rfl) ?_
  refine lv_iload_n hx hb dX7_isOpenFor_25 rfl (lv_at hl 2 rfl) ?_
  refine ka_RV (n := 1) C (ct_X7_isText_81 l D a0 x0 a1 a2 a3 a4 a5 a6 a7 a8 a9 a10 a11 a12 a13 a14 (by omega)) gX7_isOpenFor_X7_isText rfl (by decide +kernel) ⟨Nat.le_of_ble_eq_true rfl, Nat.le_of_ble_eq_true rfl⟩ hK hP hS hE hN [0] rfl [] rfl (ci := 7) rfl rfl 0 rfl rfl hl.1 (rest := []) rfl (Nat.le_of_ble_eq_true rfl) dX7_isOpenFor_26 ⟨Nat.le_of_ble_eq_true rfl, Nat.le_of_ble_eq_true rfl⟩ (fun v hv => ?_)
  subst hv
  refine ka_stk (w := [.int 0]) rfl ?_
  refine lv_if_eq (tgt := 36) hx hb dX7_isOpenFor_29 (by decide) (fun _ => ?_) (fun c_ => absurd (by decide) c_)
  refine lv_iconst (v := 0) hx hb dX7_isOpenFor_36 (by decide) ?_
  exact ka_rRz C hr hlk rfl rfl dX7_isOpenFor_37
set_option maxHeartbeats 4000000 in
set_option maxRecDepth 100000 in
theorem ct_X7_isOpenFor_110 (l : Launch) (D : va_G) (a0 : Nat) (a1 : Nat) (a2 : Nat) (a3 : Nat) (a4 : Nat) (a5 : Nat) (a6 : Nat) (a7 : Nat) (a8 : Nat) (a9 : Nat) (a10 : Nat) (a11 : Nat) (a12 : Nat) (a13 : Nat) (a14 : Nat) (k0 : ClassId) : ka_R l D yX7_isOpenFor wsX7_isOpenFor 2 43 [.ref a0, .int 3, .int 0] [(a0, .inr (7, [.ref a1, .int 0, .ref a2, .ref a3, .ref a4, .ref a5, .ref a6, .ref a7, .ref a8, .int (-1), .int 0, .int 3, .int 3, .int 0, .int 0, .int 0, .ref a9, .ref a10, .ref a11, .ref a12, .ref a13, .ref a14, .int 0, .int 0, .int 0, .int 0, .int (-1), .int 0])), (a6, .inl (k0, 6, .inl (fun _ => 0)))] [(k0, .boolean)] (fun v => v = some (.int 1)) := by
  refine ka_R_of (cc := cX7_isOpenFor) (maxL := 3) (ret := (some .boolean)) (by decide) rfl (Nat.le_of_ble_eq_true rfl) ?_
  intro p e s m below meth c ls C hr hlk hP hK hE hN hl
  have hS : va_S (fun _ => False) s.heap s.heap [] := va_S.rf
  have C : CallFix p m c cX7_isOpenFor 3 s [.ref a0, .int 3, .int 0].toArray wsX7_isOpenFor RX7 := C
  obtain ⟨hx, hb, hml, hown, hts⟩ := id C
  have hl : lv_has ls 3 [(0, .ref a0), (1, .int 3), (2, .int 0)] := hl
  refine lv_iload_n hx hb dX7_isOpenFor_0 rfl (lv_at hl 1 rfl) ?_
  refine ka_RS (n := 1) C (ct_X7_isLesson_108 l D ) gX7_isOpenFor_X7_isLesson rfl (by decide +kernel) ⟨Nat.le_of_ble_eq_true rfl, Nat.le_of_ble_eq_true rfl⟩ hK hP hS hE hN [] rfl [] rfl rfl hl.1 (rest := []) rfl (Nat.le_of_ble_eq_true rfl) dX7_isOpenFor_1 ⟨Nat.le_of_ble_eq_true rfl, Nat.le_of_ble_eq_true rfl⟩ (fun v hv => ?_)
  subst hv
  refine ka_stk (w := [.int 1]) rfl ?_
  refine lv_if_eq (tgt := 36) hx hb dX7_isOpenFor_4 (by decide) (fun c_ => absurd c_ (by decide)) (fun _ => ?_)
  refine lv_iload_n hx hb dX7_isOpenFor_7 rfl (lv_at hl 1 rfl) ?_
  refine lv_aload_n hx hb dX7_isOpenFor_8 rfl (lv_at hl 0 rfl) ?_
  refine ka_get C lq_192 rfl hK hP 0 rfl 9 (by decide) lq_193 rfl dX7_isOpenFor_9 ?_
  refine lv_icmp_eq (tgt := 36) hx hb dX7_isOpenFor_12 (by decide) (fun c_ => absurd c_ (by decide)) (fun _ => ?_)
  refine lv_aload_n hx hb dX7_isOpenFor_15 rfl (lv_at hl 0 rfl) ?_
  refine ka_get C lq_192 rfl hK hP 0 rfl 6 (by decide) lq_194 rfl dX7_isOpenFor_16 ?_
  refine lv_iload_n hx hb dX7_isOpenFor_19 rfl (lv_at hl 1 rfl) ?_
  refine va_zald hx hb hK hP 1 0 rfl rfl (ka_in (by decide) (by decide)) dX7_isOpenFor_20 ?_
  refine ka_top (w := .int 0) rfl ?_
  refine lv_if_ne (tgt := 36) hx hb dX7_isOpenFor_21 (by decide) (fun c_ => absurd (by decide) c_) (fun _ => ?_)
  refine lv_aload_n hx hb dX7_isOpenFor_24 rfl (lv_at hl 0 rfl) ?_
  refine lv_iload_n hx hb dX7_isOpenFor_25 rfl (lv_at hl 2 rfl) ?_
  refine ka_RV (n := 1) C (ct_X7_isText_84 l D a0 a1 a2 a3 a4 a5 a6 a7 a8 a9 a10 a11 a12 a13 a14) gX7_isOpenFor_X7_isText rfl (by decide +kernel) ⟨Nat.le_of_ble_eq_true rfl, Nat.le_of_ble_eq_true rfl⟩ hK hP hS hE hN [0] rfl [] rfl (ci := 7) rfl rfl 0 rfl rfl hl.1 (rest := []) rfl (Nat.le_of_ble_eq_true rfl) dX7_isOpenFor_26 ⟨Nat.le_of_ble_eq_true rfl, Nat.le_of_ble_eq_true rfl⟩ (fun v hv => ?_)
  subst hv
  refine ka_stk (w := [.int 1]) rfl ?_
  refine lv_if_eq (tgt := 36) hx hb dX7_isOpenFor_29 (by decide) (fun c_ => absurd c_ (by decide)) (fun _ => ?_)
  refine lv_iconst (v := 1) hx hb dX7_isOpenFor_32 (by decide) ?_
  refine lv_goto (tgt := 37) hx hb dX7_isOpenFor_33 (by decide) ?_
  exact ka_rRz C hr hlk rfl rfl dX7_isOpenFor_37
set_option maxHeartbeats 4000000 in
set_option maxRecDepth 100000 in
theorem ct_X7_isOpenFor_111 (l : Launch) (D : va_G) (a0 : Nat) (x0 : Int32) (a1 : Nat) (a2 : Nat) (a3 : Nat) (a4 : Nat) (a5 : Nat) (a6 : Nat) (a7 : Nat) (a8 : Nat) (a9 : Nat) (a10 : Nat) (a11 : Nat) (a12 : Nat) (a13 : Nat) (a14 : Nat) (k0 : ClassId) (hx0 : 1 ≤ x0.toInt) : ka_R l D yX7_isOpenFor wsX7_isOpenFor 2 43 [.ref a0, .int 3, .int x0] [(a0, .inr (7, [.ref a1, .int 0, .ref a2, .ref a3, .ref a4, .ref a5, .ref a6, .ref a7, .ref a8, .int (-1), .int 0, .int 3, .int 3, .int 0, .int 0, .int 0, .ref a9, .ref a10, .ref a11, .ref a12, .ref a13, .ref a14, .int 0, .int 0, .int 0, .int 0, .int (-1), .int 0])), (a6, .inl (k0, 6, .inl (fun _ => 0)))] [(k0, .boolean)] (fun v => v = some (.int 0)) := by
  refine ka_R_of (cc := cX7_isOpenFor) (maxL := 3) (ret := (some .boolean)) (by decide) rfl (Nat.le_of_ble_eq_true rfl) ?_
  intro p e s m below meth c ls C hr hlk hP hK hE hN hl
  have hS : va_S (fun _ => False) s.heap s.heap [] := va_S.rf
  have C : CallFix p m c cX7_isOpenFor 3 s [.ref a0, .int 3, .int x0].toArray wsX7_isOpenFor RX7 := C
  obtain ⟨hx, hb, hml, hown, hts⟩ := id C
  have hl : lv_has ls 3 [(0, .ref a0), (1, .int 3), (2, .int x0)] := hl
  have rx0 := ka_rng x0
  refine lv_iload_n hx hb dX7_isOpenFor_0 rfl (lv_at hl 1 rfl) ?_
  refine ka_RS (n := 1) C (ct_X7_isLesson_108 l D ) gX7_isOpenFor_X7_isLesson rfl (by decide +kernel) ⟨Nat.le_of_ble_eq_true rfl, Nat.le_of_ble_eq_true rfl⟩ hK hP hS hE hN [] rfl [] rfl rfl hl.1 (rest := []) rfl (Nat.le_of_ble_eq_true rfl) dX7_isOpenFor_1 ⟨Nat.le_of_ble_eq_true rfl, Nat.le_of_ble_eq_true rfl⟩ (fun v hv => ?_)
  subst hv
  refine ka_stk (w := [.int 1]) rfl ?_
  refine lv_if_eq (tgt := 36) hx hb dX7_isOpenFor_4 (by decide) (fun c_ => absurd c_ (by decide)) (fun _ => ?_)
  refine lv_iload_n hx hb dX7_isOpenFor_7 rfl (lv_at hl 1 rfl) ?_
  refine lv_aload_n hx hb dX7_isOpenFor_8 rfl (lv_at hl 0 rfl) ?_
  refine ka_get C lq_192 rfl hK hP 0 rfl 9 (by decide) lq_193 rfl dX7_isOpenFor_9 ?_
  refine lv_icmp_eq (tgt := 36) hx hb dX7_isOpenFor_12 (by decide) (fun c_ => absurd c_ (by decide)) (fun _ => ?_)
  refine lv_aload_n hx hb dX7_isOpenFor_15 rfl (lv_at hl 0 rfl) ?_
  refine ka_get C lq_192 rfl hK hP 0 rfl 6 (by decide) lq_194 rfl dX7_isOpenFor_16 ?_
  refine lv_iload_n hx hb dX7_isOpenFor_19 rfl (lv_at hl 1 rfl) ?_
  refine va_zald hx hb hK hP 1 0 rfl rfl (ka_in (by decide) (by decide)) dX7_isOpenFor_20 ?_
  refine ka_top (w := .int 0) rfl ?_
  refine lv_if_ne (tgt := 36) hx hb dX7_isOpenFor_21 (by decide) (fun c_ => absurd (by decide) c_) (fun _ => ?_)
  refine lv_aload_n hx hb dX7_isOpenFor_24 rfl (lv_at hl 0 rfl) ?_
  refine lv_iload_n hx hb dX7_isOpenFor_25 rfl (lv_at hl 2 rfl) ?_
  refine ka_RV (n := 1) C (ct_X7_isText_95 l D a0 x0 a1 a2 a3 a4 a5 a6 a7 a8 a9 a10 a11 a12 a13 a14 (by omega)) gX7_isOpenFor_X7_isText rfl (by decide +kernel) ⟨Nat.le_of_ble_eq_true rfl, Nat.le_of_ble_eq_true rfl⟩ hK hP hS hE hN [0] rfl [] rfl (ci := 7) rfl rfl 0 rfl rfl hl.1 (rest := []) rfl (Nat.le_of_ble_eq_true rfl) dX7_isOpenFor_26 ⟨Nat.le_of_ble_eq_true rfl, Nat.le_of_ble_eq_true rfl⟩ (fun v hv => ?_)
  subst hv
  refine ka_stk (w := [.int 0]) rfl ?_
  refine lv_if_eq (tgt := 36) hx hb dX7_isOpenFor_29 (by decide) (fun _ => ?_) (fun c_ => absurd (by decide) c_)
  refine lv_iconst (v := 0) hx hb dX7_isOpenFor_36 (by decide) ?_
  exact ka_rRz C hr hlk rfl rfl dX7_isOpenFor_37
set_option maxHeartbeats 4000000 in
set_option maxRecDepth 100000 in
theorem ct_X7_isIn_112 (l : Launch) (D : va_G) : ka_R l D yX7_isIn wsX7_isIn 0 0 [.int 4, .int 0, .int 5] [] [] (fun v => v = some (.int 1)) := by
  refine ka_R_of (cc := cX7_isIn) (maxL := 3) (ret := (some .boolean)) (by decide) rfl (Nat.le_of_ble_eq_true rfl) ?_
  intro p e s m below meth c ls C hr hlk hP hK hE hN hl
  have hS : va_S (fun _ => False) s.heap s.heap [] := va_S.rf
  have C : CallFix p m c cX7_isIn 3 s [.int 4, .int 0, .int 5].toArray wsX7_isIn RX7 := C
  obtain ⟨hx, hb, hml, hown, hts⟩ := id C
  have hl : lv_has ls 3 [(0, .int 4), (1, .int 0), (2, .int 5)] := hl
  refine lv_iload_n hx hb dX7_isIn_0 rfl (lv_at hl 0 rfl) ?_
  refine lv_iload_n hx hb dX7_isIn_1 rfl (lv_at hl 1 rfl) ?_
  refine lv_icmp_lt (tgt := 14) hx hb dX7_isIn_2 (by decide) (fun c_ => absurd c_ (by decide)) (fun _ => ?_)
  refine lv_iload_n hx hb dX7_isIn_5 rfl (lv_at hl 0 rfl) ?_
  refine lv_iload_n hx hb dX7_isIn_6 rfl (lv_at hl 2 rfl) ?_
  refine lv_icmp_gt (tgt := 14) hx hb dX7_isIn_7 (by decide) (fun c_ => absurd c_ (by decide)) (fun _ => ?_)
  refine lv_iconst (v := 1) hx hb dX7_isIn_10 (by decide) ?_
  refine lv_goto (tgt := 15) hx hb dX7_isIn_11 (by decide) ?_
  exact ka_rRz C hr hlk rfl rfl dX7_isIn_15
set_option maxHeartbeats 4000000 in
set_option maxRecDepth 100000 in
theorem ct_X7_isLesson_113 (l : Launch) (D : va_G) : ka_R l D yX7_isLesson wsX7_isLesson 1 22 [.int 4] [] [] (fun v => v = some (.int 1)) := by
  refine ka_R_of (cc := cX7_isLesson) (maxL := 1) (ret := (some .boolean)) (by decide) rfl (Nat.le_of_ble_eq_true rfl) ?_
  intro p e s m below meth c ls C hr hlk hP hK hE hN hl
  have hS : va_S (fun _ => False) s.heap s.heap [] := va_S.rf
  have C : CallFix p m c cX7_isLesson 1 s [.int 4].toArray wsX7_isLesson RX7 := C
  obtain ⟨hx, hb, hml, hown, hts⟩ := id C
  have hl : lv_has ls 1 [(0, .int 4)] := hl
  refine lv_iload_n hx hb dX7_isLesson_0 rfl (lv_at hl 0 rfl) ?_
  refine lv_iconst (v := 0) hx hb dX7_isLesson_1 (by decide) ?_
  refine lv_iconst (v := 5) hx hb dX7_isLesson_2 (by decide) ?_
  refine ka_RS (n := 3) C (ct_X7_isIn_112 l D ) gX7_isLesson_X7_isIn rfl (by decide +kernel) ⟨Nat.le_of_ble_eq_true rfl, Nat.le_of_ble_eq_true rfl⟩ hK hP hS hE hN [] rfl [] rfl rfl hl.1 (rest := []) rfl (Nat.le_of_ble_eq_true rfl) dX7_isLesson_3 ⟨Nat.le_of_ble_eq_true rfl, Nat.le_of_ble_eq_true rfl⟩ (fun v hv => ?_)
  subst hv
  refine ka_stk (w := [.int 1]) rfl ?_
  exact ka_rRz C hr hlk rfl rfl dX7_isLesson_6
set_option maxHeartbeats 4000000 in
set_option maxRecDepth 100000 in
theorem ct_X7_isOpenFor_114 (l : Launch) (D : va_G) (a0 : Nat) (x0 : Int32) (a1 : Nat) (a2 : Nat) (a3 : Nat) (a4 : Nat) (a5 : Nat) (a6 : Nat) (a7 : Nat) (a8 : Nat) (a9 : Nat) (a10 : Nat) (a11 : Nat) (a12 : Nat) (a13 : Nat) (a14 : Nat) (k0 : ClassId) (hx0 : x0.toInt ≤ -1) : ka_R l D yX7_isOpenFor wsX7_isOpenFor 2 43 [.ref a0, .int 4, .int x0] [(a0, .inr (7, [.ref a1, .int 0, .ref a2, .ref a3, .ref a4, .ref a5, .ref a6, .ref a7, .ref a8, .int (-1), .int 0, .int 3, .int 3, .int 0, .int 0, .int 0, .ref a9, .ref a10, .ref a11, .ref a12, .ref a13, .ref a14, .int 0, .int 0, .int 0, .int 0, .int (-1), .int 0])), (a6, .inl (k0, 6, .inl (fun _ => 0)))] [(k0, .boolean)] (fun v => v = some (.int 0)) := by
  refine ka_R_of (cc := cX7_isOpenFor) (maxL := 3) (ret := (some .boolean)) (by decide) rfl (Nat.le_of_ble_eq_true rfl) ?_
  intro p e s m below meth c ls C hr hlk hP hK hE hN hl
  have hS : va_S (fun _ => False) s.heap s.heap [] := va_S.rf
  have C : CallFix p m c cX7_isOpenFor 3 s [.ref a0, .int 4, .int x0].toArray wsX7_isOpenFor RX7 := C
  obtain ⟨hx, hb, hml, hown, hts⟩ := id C
  have hl : lv_has ls 3 [(0, .ref a0), (1, .int 4), (2, .int x0)] := hl
  have rx0 := ka_rng x0
  refine lv_iload_n hx hb dX7_isOpenFor_0 rfl (lv_at hl 1 rfl) ?_
  refine ka_RS (n := 1) C (ct_X7_isLesson_113 l D ) gX7_isOpenFor_X7_isLesson rfl (by decide +kernel) ⟨Nat.le_of_ble_eq_true rfl, Nat.le_of_ble_eq_true rfl⟩ hK hP hS hE hN [] rfl [] rfl rfl hl.1 (rest := []) rfl (Nat.le_of_ble_eq_true rfl) dX7_isOpenFor_1 ⟨Nat.le_of_ble_eq_true rfl, Nat.le_of_ble_eq_true rfl⟩ (fun v hv => ?_)
  subst hv
  refine ka_stk (w := [.int 1]) rfl ?_
  refine lv_if_eq (tgt := 36) hx hb dX7_isOpenFor_4 (by decide) (fun c_ => absurd c_ (by decide)) (fun _ => ?_)
  refine lv_iload_n hx hb dX7_isOpenFor_7 rfl (lv_at hl 1 rfl) ?_
  refine lv_aload_n hx hb dX7_isOpenFor_8 rfl (lv_at hl 0 rfl) ?_
  refine ka_get C lq_192 rfl hK hP 0 rfl 9 (by decide) lq_193 rfl dX7_isOpenFor_9 ?_
  refine lv_icmp_eq (tgt := 36) hx hb dX7_isOpenFor_12 (by decide) (fun c_ => absurd c_ (by decide)) (fun _ => ?_)
  refine lv_aload_n hx hb dX7_isOpenFor_15 rfl (lv_at hl 0 rfl) ?_
  refine ka_get C lq_192 rfl hK hP 0 rfl 6 (by decide) lq_194 rfl dX7_isOpenFor_16 ?_
  refine lv_iload_n hx hb dX7_isOpenFor_19 rfl (lv_at hl 1 rfl) ?_
  refine va_zald hx hb hK hP 1 0 rfl rfl (ka_in (by decide) (by decide)) dX7_isOpenFor_20 ?_
  refine ka_top (w := .int 0) rfl ?_
  refine lv_if_ne (tgt := 36) hx hb dX7_isOpenFor_21 (by decide) (fun c_ => absurd (by decide) c_) (fun _ => ?_)
  refine lv_aload_n hx hb dX7_isOpenFor_24 rfl (lv_at hl 0 rfl) ?_
  refine lv_iload_n hx hb dX7_isOpenFor_25 rfl (lv_at hl 2 rfl) ?_
  refine ka_RV (n := 1) C (ct_X7_isText_81 l D a0 x0 a1 a2 a3 a4 a5 a6 a7 a8 a9 a10 a11 a12 a13 a14 (by omega)) gX7_isOpenFor_X7_isText rfl (by decide +kernel) ⟨Nat.le_of_ble_eq_true rfl, Nat.le_of_ble_eq_true rfl⟩ hK hP hS hE hN [0] rfl [] rfl (ci := 7) rfl rfl 0 rfl rfl hl.1 (rest := []) rfl (Nat.le_of_ble_eq_true rfl) dX7_isOpenFor_26 ⟨Nat.le_of_ble_eq_true rfl, Nat.le_of_ble_eq_true rfl⟩ (fun v hv => ?_)
  subst hv
  refine ka_stk (w := [.int 0]) rfl ?_
  refine lv_if_eq (tgt := 36) hx hb dX7_isOpenFor_29 (by decide) (fun _ => ?_) (fun c_ => absurd (by decide) c_)
  refine lv_iconst (v := 0) hx hb dX7_isOpenFor_36 (by decide) ?_
  exact ka_rRz C hr hlk rfl rfl dX7_isOpenFor_37
set_option maxHeartbeats 4000000 in
set_option maxRecDepth 100000 in
theorem ct_X7_isOpenFor_115 (l : Launch) (D : va_G) (a0 : Nat) (a1 : Nat) (a2 : Nat) (a3 : Nat) (a4 : Nat) (a5 : Nat) (a6 : Nat) (a7 : Nat) (a8 : Nat) (a9 : Nat) (a10 : Nat) (a11 : Nat) (a12 : Nat) (a13 : Nat) (a14 : Nat) (k0 : ClassId) : ka_R l D yX7_isOpenFor wsX7_isOpenFor 2 43 [.ref a0, .int 4, .int 0] [(a0, .inr (7, [.ref a1, .int 0, .ref a2, .ref a3, .ref a4, .ref a5, .ref a6, .ref a7, .ref a8, .int (-1), .int 0, .int 3, .int 3, .int 0, .int 0, .int 0, .ref a9, .ref a10, .ref a11, .ref a12, .ref a13, .ref a14, .int 0, .int 0, .int 0, .int 0, .int (-1), .int 0])), (a6, .inl (k0, 6, .inl (fun _ => 0)))] [(k0, .boolean)] (fun v => v = some (.int 1)) := by
  refine ka_R_of (cc := cX7_isOpenFor) (maxL := 3) (ret := (some .boolean)) (by decide) rfl (Nat.le_of_ble_eq_true rfl) ?_
  intro p e s m below meth c ls C hr hlk hP hK hE hN hl
  have hS : va_S (fun _ => False) s.heap s.heap [] := va_S.rf
  have C : CallFix p m c cX7_isOpenFor 3 s [.ref a0, .int 4, .int 0].toArray wsX7_isOpenFor RX7 := C
  obtain ⟨hx, hb, hml, hown, hts⟩ := id C
  have hl : lv_has ls 3 [(0, .ref a0), (1, .int 4), (2, .int 0)] := hl
  refine lv_iload_n hx hb dX7_isOpenFor_0 rfl (lv_at hl 1 rfl) ?_
  refine ka_RS (n := 1) C (ct_X7_isLesson_113 l D ) gX7_isOpenFor_X7_isLesson rfl (by decide +kernel) ⟨Nat.le_of_ble_eq_true rfl, Nat.le_of_ble_eq_true rfl⟩ hK hP hS hE hN [] rfl [] rfl rfl hl.1 (rest := []) rfl (Nat.le_of_ble_eq_true rfl) dX7_isOpenFor_1 ⟨Nat.le_of_ble_eq_true rfl, Nat.le_of_ble_eq_true rfl⟩ (fun v hv => ?_)
  subst hv
  refine ka_stk (w := [.int 1]) rfl ?_
  refine lv_if_eq (tgt := 36) hx hb dX7_isOpenFor_4 (by decide) (fun c_ => absurd c_ (by decide)) (fun _ => ?_)
  refine lv_iload_n hx hb dX7_isOpenFor_7 rfl (lv_at hl 1 rfl) ?_
  refine lv_aload_n hx hb dX7_isOpenFor_8 rfl (lv_at hl 0 rfl) ?_
  refine ka_get C lq_192 rfl hK hP 0 rfl 9 (by decide) lq_193 rfl dX7_isOpenFor_9 ?_
  refine lv_icmp_eq (tgt := 36) hx hb dX7_isOpenFor_12 (by decide) (fun c_ => absurd c_ (by decide)) (fun _ => ?_)
  refine lv_aload_n hx hb dX7_isOpenFor_15 rfl (lv_at hl 0 rfl) ?_
  refine ka_get C lq_192 rfl hK hP 0 rfl 6 (by decide) lq_194 rfl dX7_isOpenFor_16 ?_
  refine lv_iload_n hx hb dX7_isOpenFor_19 rfl (lv_at hl 1 rfl) ?_
  refine va_zald hx hb hK hP 1 0 rfl rfl (ka_in (by decide) (by decide)) dX7_isOpenFor_20 ?_
  refine ka_top (w := .int 0) rfl ?_
  refine lv_if_ne (tgt := 36) hx hb dX7_isOpenFor_21 (by decide) (fun c_ => absurd (by decide) c_) (fun _ => ?_)
  refine lv_aload_n hx hb dX7_isOpenFor_24 rfl (lv_at hl 0 rfl) ?_
  refine lv_iload_n hx hb dX7_isOpenFor_25 rfl (lv_at hl 2 rfl) ?_
  refine ka_RV (n := 1) C (ct_X7_isText_84 l D a0 a1 a2 a3 a4 a5 a6 a7 a8 a9 a10 a11 a12 a13 a14) gX7_isOpenFor_X7_isText rfl (by decide +kernel) ⟨Nat.le_of_ble_eq_true rfl, Nat.le_of_ble_eq_true rfl⟩ hK hP hS hE hN [0] rfl [] rfl (ci := 7) rfl rfl 0 rfl rfl hl.1 (rest := []) rfl (Nat.le_of_ble_eq_true rfl) dX7_isOpenFor_26 ⟨Nat.le_of_ble_eq_true rfl, Nat.le_of_ble_eq_true rfl⟩ (fun v hv => ?_)
  subst hv
  refine ka_stk (w := [.int 1]) rfl ?_
  refine lv_if_eq (tgt := 36) hx hb dX7_isOpenFor_29 (by decide) (fun c_ => absurd c_ (by decide)) (fun _ => ?_)
  refine lv_iconst (v := 1) hx hb dX7_isOpenFor_32 (by decide) ?_
  refine lv_goto (tgt := 37) hx hb dX7_isOpenFor_33 (by decide) ?_
  exact ka_rRz C hr hlk rfl rfl dX7_isOpenFor_37
set_option maxHeartbeats 4000000 in
set_option maxRecDepth 100000 in
theorem ct_X7_isOpenFor_116 (l : Launch) (D : va_G) (a0 : Nat) (x0 : Int32) (a1 : Nat) (a2 : Nat) (a3 : Nat) (a4 : Nat) (a5 : Nat) (a6 : Nat) (a7 : Nat) (a8 : Nat) (a9 : Nat) (a10 : Nat) (a11 : Nat) (a12 : Nat) (a13 : Nat) (a14 : Nat) (k0 : ClassId) (hx0 : 1 ≤ x0.toInt) : ka_R l D yX7_isOpenFor wsX7_isOpenFor 2 43 [.ref a0, .int 4, .int x0] [(a0, .inr (7, [.ref a1, .int 0, .ref a2, .ref a3, .ref a4, .ref a5, .ref a6, .ref a7, .ref a8, .int (-1), .int 0, .int 3, .int 3, .int 0, .int 0, .int 0, .ref a9, .ref a10, .ref a11, .ref a12, .ref a13, .ref a14, .int 0, .int 0, .int 0, .int 0, .int (-1), .int 0])), (a6, .inl (k0, 6, .inl (fun _ => 0)))] [(k0, .boolean)] (fun v => v = some (.int 0)) := by
  refine ka_R_of (cc := cX7_isOpenFor) (maxL := 3) (ret := (some .boolean)) (by decide) rfl (Nat.le_of_ble_eq_true rfl) ?_
  intro p e s m below meth c ls C hr hlk hP hK hE hN hl
  have hS : va_S (fun _ => False) s.heap s.heap [] := va_S.rf
  have C : CallFix p m c cX7_isOpenFor 3 s [.ref a0, .int 4, .int x0].toArray wsX7_isOpenFor RX7 := C
  obtain ⟨hx, hb, hml, hown, hts⟩ := id C
  have hl : lv_has ls 3 [(0, .ref a0), (1, .int 4), (2, .int x0)] := hl
  have rx0 := ka_rng x0
  refine lv_iload_n hx hb dX7_isOpenFor_0 rfl (lv_at hl 1 rfl) ?_
  refine ka_RS (n := 1) C (ct_X7_isLesson_113 l D ) gX7_isOpenFor_X7_isLesson rfl (by decide +kernel) ⟨Nat.le_of_ble_eq_true rfl, Nat.le_of_ble_eq_true rfl⟩ hK hP hS hE hN [] rfl [] rfl rfl hl.1 (rest := []) rfl (Nat.le_of_ble_eq_true rfl) dX7_isOpenFor_1 ⟨Nat.le_of_ble_eq_true rfl, Nat.le_of_ble_eq_true rfl⟩ (fun v hv => ?_)
  subst hv
  refine ka_stk (w := [.int 1]) rfl ?_
  refine lv_if_eq (tgt := 36) hx hb dX7_isOpenFor_4 (by decide) (fun c_ => absurd c_ (by decide)) (fun _ => ?_)
  refine lv_iload_n hx hb dX7_isOpenFor_7 rfl (lv_at hl 1 rfl) ?_
  refine lv_aload_n hx hb dX7_isOpenFor_8 rfl (lv_at hl 0 rfl) ?_
  refine ka_get C lq_192 rfl hK hP 0 rfl 9 (by decide) lq_193 rfl dX7_isOpenFor_9 ?_
  refine lv_icmp_eq (tgt := 36) hx hb dX7_isOpenFor_12 (by decide) (fun c_ => absurd c_ (by decide)) (fun _ => ?_)
  refine lv_aload_n hx hb dX7_isOpenFor_15 rfl (lv_at hl 0 rfl) ?_
  refine ka_get C lq_192 rfl hK hP 0 rfl 6 (by decide) lq_194 rfl dX7_isOpenFor_16 ?_
  refine lv_iload_n hx hb dX7_isOpenFor_19 rfl (lv_at hl 1 rfl) ?_
  refine va_zald hx hb hK hP 1 0 rfl rfl (ka_in (by decide) (by decide)) dX7_isOpenFor_20 ?_
  refine ka_top (w := .int 0) rfl ?_
  refine lv_if_ne (tgt := 36) hx hb dX7_isOpenFor_21 (by decide) (fun c_ => absurd (by decide) c_) (fun _ => ?_)
  refine lv_aload_n hx hb dX7_isOpenFor_24 rfl (lv_at hl 0 rfl) ?_
  refine lv_iload_n hx hb dX7_isOpenFor_25 rfl (lv_at hl 2 rfl) ?_
  refine ka_RV (n := 1) C (ct_X7_isText_95 l D a0 x0 a1 a2 a3 a4 a5 a6 a7 a8 a9 a10 a11 a12 a13 a14 (by omega)) gX7_isOpenFor_X7_isText rfl (by decide +kernel) ⟨Nat.le_of_ble_eq_true rfl, Nat.le_of_ble_eq_true rfl⟩ hK hP hS hE hN [0] rfl [] rfl (ci := 7) rfl rfl 0 rfl rfl hl.1 (rest := []) rfl (Nat.le_of_ble_eq_true rfl) dX7_isOpenFor_26 ⟨Nat.le_of_ble_eq_true rfl, Nat.le_of_ble_eq_true rfl⟩ (fun v hv => ?_)
  subst hv
  refine ka_stk (w := [.int 0]) rfl ?_
  refine lv_if_eq (tgt := 36) hx hb dX7_isOpenFor_29 (by decide) (fun _ => ?_) (fun c_ => absurd (by decide) c_)
  refine lv_iconst (v := 0) hx hb dX7_isOpenFor_36 (by decide) ?_
  exact ka_rRz C hr hlk rfl rfl dX7_isOpenFor_37
set_option maxHeartbeats 4000000 in
set_option maxRecDepth 100000 in
theorem ct_X7_isIn_117 (l : Launch) (D : va_G) : ka_R l D yX7_isIn wsX7_isIn 0 0 [.int 5, .int 0, .int 5] [] [] (fun v => v = some (.int 1)) := by
  refine ka_R_of (cc := cX7_isIn) (maxL := 3) (ret := (some .boolean)) (by decide) rfl (Nat.le_of_ble_eq_true rfl) ?_
  intro p e s m below meth c ls C hr hlk hP hK hE hN hl
  have hS : va_S (fun _ => False) s.heap s.heap [] := va_S.rf
  have C : CallFix p m c cX7_isIn 3 s [.int 5, .int 0, .int 5].toArray wsX7_isIn RX7 := C
  obtain ⟨hx, hb, hml, hown, hts⟩ := id C
  have hl : lv_has ls 3 [(0, .int 5), (1, .int 0), (2, .int 5)] := hl
  refine lv_iload_n hx hb dX7_isIn_0 rfl (lv_at hl 0 rfl) ?_
  refine lv_iload_n hx hb dX7_isIn_1 rfl (lv_at hl 1 rfl) ?_
  refine lv_icmp_lt (tgt := 14) hx hb dX7_isIn_2 (by decide) (fun c_ => absurd c_ (by decide)) (fun _ => ?_)
  refine lv_iload_n hx hb dX7_isIn_5 rfl (lv_at hl 0 rfl) ?_
  refine lv_iload_n hx hb dX7_isIn_6 rfl (lv_at hl 2 rfl) ?_
  refine lv_icmp_gt (tgt := 14) hx hb dX7_isIn_7 (by decide) (fun c_ => absurd c_ (by decide)) (fun _ => ?_)
  refine lv_iconst (v := 1) hx hb dX7_isIn_10 (by decide) ?_
  refine lv_goto (tgt := 15) hx hb dX7_isIn_11 (by decide) ?_
  exact ka_rRz C hr hlk rfl rfl dX7_isIn_15
set_option maxHeartbeats 4000000 in
set_option maxRecDepth 100000 in
theorem ct_X7_isLesson_118 (l : Launch) (D : va_G) : ka_R l D yX7_isLesson wsX7_isLesson 1 22 [.int 5] [] [] (fun v => v = some (.int 1)) := by
  refine ka_R_of (cc := cX7_isLesson) (maxL := 1) (ret := (some .boolean)) (by decide) rfl (Nat.le_of_ble_eq_true rfl) ?_
  intro p e s m below meth c ls C hr hlk hP hK hE hN hl
  have hS : va_S (fun _ => False) s.heap s.heap [] := va_S.rf
  have C : CallFix p m c cX7_isLesson 1 s [.int 5].toArray wsX7_isLesson RX7 := C
  obtain ⟨hx, hb, hml, hown, hts⟩ := id C
  have hl : lv_has ls 1 [(0, .int 5)] := hl
  refine lv_iload_n hx hb dX7_isLesson_0 rfl (lv_at hl 0 rfl) ?_
  refine lv_iconst (v := 0) hx hb dX7_isLesson_1 (by decide) ?_
  refine lv_iconst (v := 5) hx hb dX7_isLesson_2 (by decide) ?_
  refine ka_RS (n := 3) C (ct_X7_isIn_117 l D ) gX7_isLesson_X7_isIn rfl (by decide +kernel) ⟨Nat.le_of_ble_eq_true rfl, Nat.le_of_ble_eq_true rfl⟩ hK hP hS hE hN [] rfl [] rfl rfl hl.1 (rest := []) rfl (Nat.le_of_ble_eq_true rfl) dX7_isLesson_3 ⟨Nat.le_of_ble_eq_true rfl, Nat.le_of_ble_eq_true rfl⟩ (fun v hv => ?_)
  subst hv
  refine ka_stk (w := [.int 1]) rfl ?_
  exact ka_rRz C hr hlk rfl rfl dX7_isLesson_6
set_option maxHeartbeats 4000000 in
set_option maxRecDepth 100000 in
theorem ct_X7_isOpenFor_119 (l : Launch) (D : va_G) (a0 : Nat) (x0 : Int32) (a1 : Nat) (a2 : Nat) (a3 : Nat) (a4 : Nat) (a5 : Nat) (a6 : Nat) (a7 : Nat) (a8 : Nat) (a9 : Nat) (a10 : Nat) (a11 : Nat) (a12 : Nat) (a13 : Nat) (a14 : Nat) (k0 : ClassId) (hx0 : x0.toInt ≤ -1) : ka_R l D yX7_isOpenFor wsX7_isOpenFor 2 43 [.ref a0, .int 5, .int x0] [(a0, .inr (7, [.ref a1, .int 0, .ref a2, .ref a3, .ref a4, .ref a5, .ref a6, .ref a7, .ref a8, .int (-1), .int 0, .int 3, .int 3, .int 0, .int 0, .int 0, .ref a9, .ref a10, .ref a11, .ref a12, .ref a13, .ref a14, .int 0, .int 0, .int 0, .int 0, .int (-1), .int 0])), (a6, .inl (k0, 6, .inl (fun _ => 0)))] [(k0, .boolean)] (fun v => v = some (.int 0)) := by
  refine ka_R_of (cc := cX7_isOpenFor) (maxL := 3) (ret := (some .boolean)) (by decide) rfl (Nat.le_of_ble_eq_true rfl) ?_
  intro p e s m below meth c ls C hr hlk hP hK hE hN hl
  have hS : va_S (fun _ => False) s.heap s.heap [] := va_S.rf
  have C : CallFix p m c cX7_isOpenFor 3 s [.ref a0, .int 5, .int x0].toArray wsX7_isOpenFor RX7 := C
  obtain ⟨hx, hb, hml, hown, hts⟩ := id C
  have hl : lv_has ls 3 [(0, .ref a0), (1, .int 5), (2, .int x0)] := hl
  have rx0 := ka_rng x0
  refine lv_iload_n hx hb dX7_isOpenFor_0 rfl (lv_at hl 1 rfl) ?_
  refine ka_RS (n := 1) C (ct_X7_isLesson_118 l D ) gX7_isOpenFor_X7_isLesson rfl (by decide +kernel) ⟨Nat.le_of_ble_eq_true rfl, Nat.le_of_ble_eq_true rfl⟩ hK hP hS hE hN [] rfl [] rfl rfl hl.1 (rest := []) rfl (Nat.le_of_ble_eq_true rfl) dX7_isOpenFor_1 ⟨Nat.le_of_ble_eq_true rfl, Nat.le_of_ble_eq_true rfl⟩ (fun v hv => ?_)
  subst hv
  refine ka_stk (w := [.int 1]) rfl ?_
  refine lv_if_eq (tgt := 36) hx hb dX7_isOpenFor_4 (by decide) (fun c_ => absurd c_ (by decide)) (fun _ => ?_)
  refine lv_iload_n hx hb dX7_isOpenFor_7 rfl (lv_at hl 1 rfl) ?_
  refine lv_aload_n hx hb dX7_isOpenFor_8 rfl (lv_at hl 0 rfl) ?_
  refine ka_get C lq_192 rfl hK hP 0 rfl 9 (by decide) lq_193 rfl dX7_isOpenFor_9 ?_
  refine lv_icmp_eq (tgt := 36) hx hb dX7_isOpenFor_12 (by decide) (fun c_ => absurd c_ (by decide)) (fun _ => ?_)
  refine lv_aload_n hx hb dX7_isOpenFor_15 rfl (lv_at hl 0 rfl) ?_
  refine ka_get C lq_192 rfl hK hP 0 rfl 6 (by decide) lq_194 rfl dX7_isOpenFor_16 ?_
  refine lv_iload_n hx hb dX7_isOpenFor_19 rfl (lv_at hl 1 rfl) ?_
  refine va_zald hx hb hK hP 1 0 rfl rfl (ka_in (by decide) (by decide)) dX7_isOpenFor_20 ?_
  refine ka_top (w := .int 0) rfl ?_
  refine lv_if_ne (tgt := 36) hx hb dX7_isOpenFor_21 (by decide) (fun c_ => absurd (by decide) c_) (fun _ => ?_)
  refine lv_aload_n hx hb dX7_isOpenFor_24 rfl (lv_at hl 0 rfl) ?_
  refine lv_iload_n hx hb dX7_isOpenFor_25 rfl (lv_at hl 2 rfl) ?_
  refine ka_RV (n := 1) C (ct_X7_isText_81 l D a0 x0 a1 a2 a3 a4 a5 a6 a7 a8 a9 a10 a11 a12 a13 a14 (by omega)) gX7_isOpenFor_X7_isText rfl (by decide +kernel) ⟨Nat.le_of_ble_eq_true rfl, Nat.le_of_ble_eq_true rfl⟩ hK hP hS hE hN [0] rfl [] rfl (ci := 7) rfl rfl 0 rfl rfl hl.1 (rest := []) rfl (Nat.le_of_ble_eq_true rfl) dX7_isOpenFor_26 ⟨Nat.le_of_ble_eq_true rfl, Nat.le_of_ble_eq_true rfl⟩ (fun v hv => ?_)
  subst hv
  refine ka_stk (w := [.int 0]) rfl ?_
  refine lv_if_eq (tgt := 36) hx hb dX7_isOpenFor_29 (by decide) (fun _ => ?_) (fun c_ => absurd (by decide) c_)
  refine lv_iconst (v := 0) hx hb dX7_isOpenFor_36 (by decide) ?_
  exact ka_rRz C hr hlk rfl rfl dX7_isOpenFor_37
set_option maxHeartbeats 4000000 in
set_option maxRecDepth 100000 in
theorem ct_X7_isOpenFor_120 (l : Launch) (D : va_G) (a0 : Nat) (a1 : Nat) (a2 : Nat) (a3 : Nat) (a4 : Nat) (a5 : Nat) (a6 : Nat) (a7 : Nat) (a8 : Nat) (a9 : Nat) (a10 : Nat) (a11 : Nat) (a12 : Nat) (a13 : Nat) (a14 : Nat) (k0 : ClassId) : ka_R l D yX7_isOpenFor wsX7_isOpenFor 2 43 [.ref a0, .int 5, .int 0] [(a0, .inr (7, [.ref a1, .int 0, .ref a2, .ref a3, .ref a4, .ref a5, .ref a6, .ref a7, .ref a8, .int (-1), .int 0, .int 3, .int 3, .int 0, .int 0, .int 0, .ref a9, .ref a10, .ref a11, .ref a12, .ref a13, .ref a14, .int 0, .int 0, .int 0, .int 0, .int (-1), .int 0])), (a6, .inl (k0, 6, .inl (fun _ => 0)))] [(k0, .boolean)] (fun v => v = some (.int 1)) := by
  refine ka_R_of (cc := cX7_isOpenFor) (maxL := 3) (ret := (some .boolean)) (by decide) rfl (Nat.le_of_ble_eq_true rfl) ?_
  intro p e s m below meth c ls C hr hlk hP hK hE hN hl
  have hS : va_S (fun _ => False) s.heap s.heap [] := va_S.rf
  have C : CallFix p m c cX7_isOpenFor 3 s [.ref a0, .int 5, .int 0].toArray wsX7_isOpenFor RX7 := C
  obtain ⟨hx, hb, hml, hown, hts⟩ := id C
  have hl : lv_has ls 3 [(0, .ref a0), (1, .int 5), (2, .int 0)] := hl
  refine lv_iload_n hx hb dX7_isOpenFor_0 rfl (lv_at hl 1 rfl) ?_
  refine ka_RS (n := 1) C (ct_X7_isLesson_118 l D ) gX7_isOpenFor_X7_isLesson rfl (by decide +kernel) ⟨Nat.le_of_ble_eq_true rfl, Nat.le_of_ble_eq_true rfl⟩ hK hP hS hE hN [] rfl [] rfl rfl hl.1 (rest := []) rfl (Nat.le_of_ble_eq_true rfl) dX7_isOpenFor_1 ⟨Nat.le_of_ble_eq_true rfl, Nat.le_of_ble_eq_true rfl⟩ (fun v hv => ?_)
  subst hv
  refine ka_stk (w := [.int 1]) rfl ?_
  refine lv_if_eq (tgt := 36) hx hb dX7_isOpenFor_4 (by decide) (fun c_ => absurd c_ (by decide)) (fun _ => ?_)
  refine lv_iload_n hx hb dX7_isOpenFor_7 rfl (lv_at hl 1 rfl) ?_
  refine lv_aload_n hx hb dX7_isOpenFor_8 rfl (lv_at hl 0 rfl) ?_
  refine ka_get C lq_192 rfl hK hP 0 rfl 9 (by decide) lq_193 rfl dX7_isOpenFor_9 ?_
  refine lv_icmp_eq (tgt := 36) hx hb dX7_isOpenFor_12 (by decide) (fun c_ => absurd c_ (by decide)) (fun _ => ?_)
  refine lv_aload_n hx hb dX7_isOpenFor_15 rfl (lv_at hl 0 rfl) ?_
  refine ka_get C lq_192 rfl hK hP 0 rfl 6 (by decide) lq_194 rfl dX7_isOpenFor_16 ?_
  refine lv_iload_n hx hb dX7_isOpenFor_19 rfl (lv_at hl 1 rfl) ?_
  refine va_zald hx hb hK hP 1 0 rfl rfl (ka_in (by decide) (by decide)) dX7_isOpenFor_20 ?_
  refine ka_top (w := .int 0) rfl ?_
  refine lv_if_ne (tgt := 36) hx hb dX7_isOpenFor_21 (by decide) (fun c_ => absurd (by decide) c_) (fun _ => ?_)
  refine lv_aload_n hx hb dX7_isOpenFor_24 rfl (lv_at hl 0 rfl) ?_
  refine lv_iload_n hx hb dX7_isOpenFor_25 rfl (lv_at hl 2 rfl) ?_
  refine ka_RV (n := 1) C (ct_X7_isText_84 l D a0 a1 a2 a3 a4 a5 a6 a7 a8 a9 a10 a11 a12 a13 a14) gX7_isOpenFor_X7_isText rfl (by decide +kernel) ⟨Nat.le_of_ble_eq_true rfl, Nat.le_of_ble_eq_true rfl⟩ hK hP hS hE hN [0] rfl [] rfl (ci := 7) rfl rfl 0 rfl rfl hl.1 (rest := []) rfl (Nat.le_of_ble_eq_true rfl) dX7_isOpenFor_26 ⟨Nat.le_of_ble_eq_true rfl, Nat.le_of_ble_eq_true rfl⟩ (fun v hv => ?_)
  subst hv
  refine ka_stk (w := [.int 1]) rfl ?_
  refine lv_if_eq (tgt := 36) hx hb dX7_isOpenFor_29 (by decide) (fun c_ => absurd c_ (by decide)) (fun _ => ?_)
  refine lv_iconst (v := 1) hx hb dX7_isOpenFor_32 (by decide) ?_
  refine lv_goto (tgt := 37) hx hb dX7_isOpenFor_33 (by decide) ?_
  exact ka_rRz C hr hlk rfl rfl dX7_isOpenFor_37
set_option maxHeartbeats 4000000 in
set_option maxRecDepth 100000 in
theorem ct_X7_isOpenFor_121 (l : Launch) (D : va_G) (a0 : Nat) (x0 : Int32) (a1 : Nat) (a2 : Nat) (a3 : Nat) (a4 : Nat) (a5 : Nat) (a6 : Nat) (a7 : Nat) (a8 : Nat) (a9 : Nat) (a10 : Nat) (a11 : Nat) (a12 : Nat) (a13 : Nat) (a14 : Nat) (k0 : ClassId) (hx0 : 1 ≤ x0.toInt) : ka_R l D yX7_isOpenFor wsX7_isOpenFor 2 43 [.ref a0, .int 5, .int x0] [(a0, .inr (7, [.ref a1, .int 0, .ref a2, .ref a3, .ref a4, .ref a5, .ref a6, .ref a7, .ref a8, .int (-1), .int 0, .int 3, .int 3, .int 0, .int 0, .int 0, .ref a9, .ref a10, .ref a11, .ref a12, .ref a13, .ref a14, .int 0, .int 0, .int 0, .int 0, .int (-1), .int 0])), (a6, .inl (k0, 6, .inl (fun _ => 0)))] [(k0, .boolean)] (fun v => v = some (.int 0)) := by
  refine ka_R_of (cc := cX7_isOpenFor) (maxL := 3) (ret := (some .boolean)) (by decide) rfl (Nat.le_of_ble_eq_true rfl) ?_
  intro p e s m below meth c ls C hr hlk hP hK hE hN hl
  have hS : va_S (fun _ => False) s.heap s.heap [] := va_S.rf
  have C : CallFix p m c cX7_isOpenFor 3 s [.ref a0, .int 5, .int x0].toArray wsX7_isOpenFor RX7 := C
  obtain ⟨hx, hb, hml, hown, hts⟩ := id C
  have hl : lv_has ls 3 [(0, .ref a0), (1, .int 5), (2, .int x0)] := hl
  have rx0 := ka_rng x0
  refine lv_iload_n hx hb dX7_isOpenFor_0 rfl (lv_at hl 1 rfl) ?_
  refine ka_RS (n := 1) C (ct_X7_isLesson_118 l D ) gX7_isOpenFor_X7_isLesson rfl (by decide +kernel) ⟨Nat.le_of_ble_eq_true rfl, Nat.le_of_ble_eq_true rfl⟩ hK hP hS hE hN [] rfl [] rfl rfl hl.1 (rest := []) rfl (Nat.le_of_ble_eq_true rfl) dX7_isOpenFor_1 ⟨Nat.le_of_ble_eq_true rfl, Nat.le_of_ble_eq_true rfl⟩ (fun v hv => ?_)
  subst hv
  refine ka_stk (w := [.int 1]) rfl ?_
  refine lv_if_eq (tgt := 36) hx hb dX7_isOpenFor_4 (by decide) (fun c_ => absurd c_ (by decide)) (fun _ => ?_)
  refine lv_iload_n hx hb dX7_isOpenFor_7 rfl (lv_at hl 1 rfl) ?_
  refine lv_aload_n hx hb dX7_isOpenFor_8 rfl (lv_at hl 0 rfl) ?_
  refine ka_get C lq_192 rfl hK hP 0 rfl 9 (by decide) lq_193 rfl dX7_isOpenFor_9 ?_
  refine lv_icmp_eq (tgt := 36) hx hb dX7_isOpenFor_12 (by decide) (fun c_ => absurd c_ (by decide)) (fun _ => ?_)
  refine lv_aload_n hx hb dX7_isOpenFor_15 rfl (lv_at hl 0 rfl) ?_
  refine ka_get C lq_192 rfl hK hP 0 rfl 6 (by decide) lq_194 rfl dX7_isOpenFor_16 ?_
  refine lv_iload_n hx hb dX7_isOpenFor_19 rfl (lv_at hl 1 rfl) ?_
  refine va_zald hx hb hK hP 1 0 rfl rfl (ka_in (by decide) (by decide)) dX7_isOpenFor_20 ?_
  refine ka_top (w := .int 0) rfl ?_
  refine lv_if_ne (tgt := 36) hx hb dX7_isOpenFor_21 (by decide) (fun c_ => absurd (by decide) c_) (fun _ => ?_)
  refine lv_aload_n hx hb dX7_isOpenFor_24 rfl (lv_at hl 0 rfl) ?_
  refine lv_iload_n hx hb dX7_isOpenFor_25 rfl (lv_at hl 2 rfl) ?_
  refine ka_RV (n := 1) C (ct_X7_isText_95 l D a0 x0 a1 a2 a3 a4 a5 a6 a7 a8 a9 a10 a11 a12 a13 a14 (by omega)) gX7_isOpenFor_X7_isText rfl (by decide +kernel) ⟨Nat.le_of_ble_eq_true rfl, Nat.le_of_ble_eq_true rfl⟩ hK hP hS hE hN [0] rfl [] rfl (ci := 7) rfl rfl 0 rfl rfl hl.1 (rest := []) rfl (Nat.le_of_ble_eq_true rfl) dX7_isOpenFor_26 ⟨Nat.le_of_ble_eq_true rfl, Nat.le_of_ble_eq_true rfl⟩ (fun v hv => ?_)
  subst hv
  refine ka_stk (w := [.int 0]) rfl ?_
  refine lv_if_eq (tgt := 36) hx hb dX7_isOpenFor_29 (by decide) (fun _ => ?_) (fun c_ => absurd (by decide) c_)
  refine lv_iconst (v := 0) hx hb dX7_isOpenFor_36 (by decide) ?_
  exact ka_rRz C hr hlk rfl rfl dX7_isOpenFor_37
set_option maxHeartbeats 4000000 in
set_option maxRecDepth 100000 in
theorem ct_X7_isIn_122 (l : Launch) (D : va_G) (x0 : Int32) (hx0 : 6 ≤ x0.toInt) : ka_R l D yX7_isIn wsX7_isIn 0 0 [.int x0, .int 0, .int 5] [] [] (fun v => v = some (.int 0)) := by
  refine ka_R_of (cc := cX7_isIn) (maxL := 3) (ret := (some .boolean)) (by decide) rfl (Nat.le_of_ble_eq_true rfl) ?_
  intro p e s m below meth c ls C hr hlk hP hK hE hN hl
  have hS : va_S (fun _ => False) s.heap s.heap [] := va_S.rf
  have C : CallFix p m c cX7_isIn 3 s [.int x0, .int 0, .int 5].toArray wsX7_isIn RX7 := C
  obtain ⟨hx, hb, hml, hown, hts⟩ := id C
  have hl : lv_has ls 3 [(0, .int x0), (1, .int 0), (2, .int 5)] := hl
  have rx0 := ka_rng x0
  refine lv_iload_n hx hb dX7_isIn_0 rfl (lv_at hl 0 rfl) ?_
  refine lv_iload_n hx hb dX7_isIn_1 rfl (lv_at hl 1 rfl) ?_
  refine lv_icmp_lt (tgt := 14) hx hb dX7_isIn_2 (by decide) (fun c_ => absurd c_ (by rw [ka_lt', show ((0 : Int32)).toInt = 0 from by decide]; omega)) (fun _ => ?_)
  refine lv_iload_n hx hb dX7_isIn_5 rfl (lv_at hl 0 rfl) ?_
  refine lv_iload_n hx hb dX7_isIn_6 rfl (lv_at hl 2 rfl) ?_
  refine lv_icmp_gt (tgt := 14) hx hb dX7_isIn_7 (by decide) (fun _ => ?_) (fun c_ => absurd (by rw [ka_lt', show ((5 : Int32)).toInt = 5 from by decide]; omega) c_)
  refine lv_iconst (v := 0) hx hb dX7_isIn_14 (by decide) ?_
  exact ka_rRz C hr hlk rfl rfl dX7_isIn_15
set_option maxHeartbeats 4000000 in
set_option maxRecDepth 100000 in
theorem ct_X7_isLesson_123 (l : Launch) (D : va_G) (x0 : Int32) (hx0 : 6 ≤ x0.toInt) : ka_R l D yX7_isLesson wsX7_isLesson 1 22 [.int x0] [] [] (fun v => v = some (.int 0)) := by
  refine ka_R_of (cc := cX7_isLesson) (maxL := 1) (ret := (some .boolean)) (by decide) rfl (Nat.le_of_ble_eq_true rfl) ?_
  intro p e s m below meth c ls C hr hlk hP hK hE hN hl
  have hS : va_S (fun _ => False) s.heap s.heap [] := va_S.rf
  have C : CallFix p m c cX7_isLesson 1 s [.int x0].toArray wsX7_isLesson RX7 := C
  obtain ⟨hx, hb, hml, hown, hts⟩ := id C
  have hl : lv_has ls 1 [(0, .int x0)] := hl
  have rx0 := ka_rng x0
  refine lv_iload_n hx hb dX7_isLesson_0 rfl (lv_at hl 0 rfl) ?_
  refine lv_iconst (v := 0) hx hb dX7_isLesson_1 (by decide) ?_
  refine lv_iconst (v := 5) hx hb dX7_isLesson_2 (by decide) ?_
  refine ka_RS (n := 3) C (ct_X7_isIn_122 l D x0 (by omega)) gX7_isLesson_X7_isIn rfl (by decide +kernel) ⟨Nat.le_of_ble_eq_true rfl, Nat.le_of_ble_eq_true rfl⟩ hK hP hS hE hN [] rfl [] rfl rfl hl.1 (rest := []) rfl (Nat.le_of_ble_eq_true rfl) dX7_isLesson_3 ⟨Nat.le_of_ble_eq_true rfl, Nat.le_of_ble_eq_true rfl⟩ (fun v hv => ?_)
  subst hv
  refine ka_stk (w := [.int 0]) rfl ?_
  exact ka_rRz C hr hlk rfl rfl dX7_isLesson_6
set_option maxHeartbeats 4000000 in
set_option maxRecDepth 100000 in
theorem ct_X7_isOpenFor_124 (l : Launch) (D : va_G) (a0 : Nat) (x0 : Int32) (x1 : Int32) (hx0 : 6 ≤ x0.toInt) (hx1 : x1.toInt ≤ -1) : ka_R l D yX7_isOpenFor wsX7_isOpenFor 2 42 [.ref a0, .int x0, .int x1] [] [] (fun v => v = some (.int 0)) := by
  refine ka_R_of (cc := cX7_isOpenFor) (maxL := 3) (ret := (some .boolean)) (by decide) rfl (Nat.le_of_ble_eq_true rfl) ?_
  intro p e s m below meth c ls C hr hlk hP hK hE hN hl
  have hS : va_S (fun _ => False) s.heap s.heap [] := va_S.rf
  have C : CallFix p m c cX7_isOpenFor 3 s [.ref a0, .int x0, .int x1].toArray wsX7_isOpenFor RX7 := C
  obtain ⟨hx, hb, hml, hown, hts⟩ := id C
  have hl : lv_has ls 3 [(0, .ref a0), (1, .int x0), (2, .int x1)] := hl
  have rx0 := ka_rng x0
  have rx1 := ka_rng x1
  refine lv_iload_n hx hb dX7_isOpenFor_0 rfl (lv_at hl 1 rfl) ?_
  refine ka_RS (n := 1) C (ct_X7_isLesson_123 l D x0 (by omega)) gX7_isOpenFor_X7_isLesson rfl (by decide +kernel) ⟨Nat.le_of_ble_eq_true rfl, Nat.le_of_ble_eq_true rfl⟩ hK hP hS hE hN [] rfl [] rfl rfl hl.1 (rest := []) rfl (Nat.le_of_ble_eq_true rfl) dX7_isOpenFor_1 ⟨Nat.le_of_ble_eq_true rfl, Nat.le_of_ble_eq_true rfl⟩ (fun v hv => ?_)
  subst hv
  refine ka_stk (w := [.int 0]) rfl ?_
  refine lv_if_eq (tgt := 36) hx hb dX7_isOpenFor_4 (by decide) (fun _ => ?_) (fun c_ => absurd (by decide) c_)
  refine lv_iconst (v := 0) hx hb dX7_isOpenFor_36 (by decide) ?_
  exact ka_rRz C hr hlk rfl rfl dX7_isOpenFor_37
set_option maxHeartbeats 4000000 in
set_option maxRecDepth 100000 in
theorem ct_X7_isOpenFor_125 (l : Launch) (D : va_G) (a0 : Nat) (x0 : Int32) (hx0 : 6 ≤ x0.toInt) : ka_R l D yX7_isOpenFor wsX7_isOpenFor 2 42 [.ref a0, .int x0, .int 0] [] [] (fun v => v = some (.int 0)) := by
  refine ka_R_of (cc := cX7_isOpenFor) (maxL := 3) (ret := (some .boolean)) (by decide) rfl (Nat.le_of_ble_eq_true rfl) ?_
  intro p e s m below meth c ls C hr hlk hP hK hE hN hl
  have hS : va_S (fun _ => False) s.heap s.heap [] := va_S.rf
  have C : CallFix p m c cX7_isOpenFor 3 s [.ref a0, .int x0, .int 0].toArray wsX7_isOpenFor RX7 := C
  obtain ⟨hx, hb, hml, hown, hts⟩ := id C
  have hl : lv_has ls 3 [(0, .ref a0), (1, .int x0), (2, .int 0)] := hl
  have rx0 := ka_rng x0
  refine lv_iload_n hx hb dX7_isOpenFor_0 rfl (lv_at hl 1 rfl) ?_
  refine ka_RS (n := 1) C (ct_X7_isLesson_123 l D x0 (by omega)) gX7_isOpenFor_X7_isLesson rfl (by decide +kernel) ⟨Nat.le_of_ble_eq_true rfl, Nat.le_of_ble_eq_true rfl⟩ hK hP hS hE hN [] rfl [] rfl rfl hl.1 (rest := []) rfl (Nat.le_of_ble_eq_true rfl) dX7_isOpenFor_1 ⟨Nat.le_of_ble_eq_true rfl, Nat.le_of_ble_eq_true rfl⟩ (fun v hv => ?_)
  subst hv
  refine ka_stk (w := [.int 0]) rfl ?_
  refine lv_if_eq (tgt := 36) hx hb dX7_isOpenFor_4 (by decide) (fun _ => ?_) (fun c_ => absurd (by decide) c_)
  refine lv_iconst (v := 0) hx hb dX7_isOpenFor_36 (by decide) ?_
  exact ka_rRz C hr hlk rfl rfl dX7_isOpenFor_37
set_option maxHeartbeats 4000000 in
set_option maxRecDepth 100000 in
theorem ct_X7_isOpenFor_126 (l : Launch) (D : va_G) (a0 : Nat) (x0 : Int32) (x1 : Int32) (hx0 : 6 ≤ x0.toInt) (hx1 : 1 ≤ x1.toInt) : ka_R l D yX7_isOpenFor wsX7_isOpenFor 2 42 [.ref a0, .int x0, .int x1] [] [] (fun v => v = some (.int 0)) := by
  refine ka_R_of (cc := cX7_isOpenFor) (maxL := 3) (ret := (some .boolean)) (by decide) rfl (Nat.le_of_ble_eq_true rfl) ?_
  intro p e s m below meth c ls C hr hlk hP hK hE hN hl
  have hS : va_S (fun _ => False) s.heap s.heap [] := va_S.rf
  have C : CallFix p m c cX7_isOpenFor 3 s [.ref a0, .int x0, .int x1].toArray wsX7_isOpenFor RX7 := C
  obtain ⟨hx, hb, hml, hown, hts⟩ := id C
  have hl : lv_has ls 3 [(0, .ref a0), (1, .int x0), (2, .int x1)] := hl
  have rx0 := ka_rng x0
  have rx1 := ka_rng x1
  refine lv_iload_n hx hb dX7_isOpenFor_0 rfl (lv_at hl 1 rfl) ?_
  refine ka_RS (n := 1) C (ct_X7_isLesson_123 l D x0 (by omega)) gX7_isOpenFor_X7_isLesson rfl (by decide +kernel) ⟨Nat.le_of_ble_eq_true rfl, Nat.le_of_ble_eq_true rfl⟩ hK hP hS hE hN [] rfl [] rfl rfl hl.1 (rest := []) rfl (Nat.le_of_ble_eq_true rfl) dX7_isOpenFor_1 ⟨Nat.le_of_ble_eq_true rfl, Nat.le_of_ble_eq_true rfl⟩ (fun v hv => ?_)
  subst hv
  refine ka_stk (w := [.int 0]) rfl ?_
  refine lv_if_eq (tgt := 36) hx hb dX7_isOpenFor_4 (by decide) (fun _ => ?_) (fun c_ => absurd (by decide) c_)
  refine lv_iconst (v := 0) hx hb dX7_isOpenFor_36 (by decide) ?_
  exact ka_rRz C hr hlk rfl rfl dX7_isOpenFor_37
set_option maxHeartbeats 4000000 in
set_option maxRecDepth 100000 in
theorem ct_X7_law_127 (l : Launch) (D : va_G) (a0 : Nat) (x0 : Int32) (x1 : Int32) (a1 : Nat) (a2 : Nat) (a3 : Nat) (a4 : Nat) (a5 : Nat) (a6 : Nat) (a7 : Nat) (a8 : Nat) (a9 : Nat) (a10 : Nat) (a11 : Nat) (a12 : Nat) (a13 : Nat) (a14 : Nat) (k0 : ClassId) : ka_E (S := Unit) l D yX7_law wsX7_law 6 137 0 0 [.ref a0, .int x0, .int x1] [(a0, .inr (7, [.ref a1, .int 0, .ref a2, .ref a3, .ref a4, .ref a5, .ref a6, .ref a7, .ref a8, .int (-1), .int 0, .int 3, .int 3, .int 0, .int 0, .int 0, .ref a9, .ref a10, .ref a11, .ref a12, .ref a13, .ref a14, .int 0, .int 0, .int 0, .int 0, .int (-1), .int 0])), (a6, .inl (k0, 6, .inl (fun _ => 0)))] [(k0, .boolean)] (fun u => some (.int 0)) (fun _ => True) (fun u => []) (fun u => []) := by
  refine ka_E_of (cc := cX7_law) (maxL := 3) (ret := (some .boolean)) (by decide) rfl (Nat.le_of_ble_eq_true rfl) ?_
  intro p e s m below meth c ls A C hr hlk hin hP hK hD hS hA hE hN hl
  have C : CallFix p m c cX7_law 3 s [.ref a0, .int x0, .int x1].toArray wsX7_law RX7 := C
  obtain ⟨hx, hb, hml, hown, hts⟩ := id C
  have hl : lv_has ls 3 [(0, .ref a0), (1, .int x0), (2, .int x1)] := hl
  have rx0 := ka_rng x0
  have rx1 := ka_rng x1
  rcases (show x0.toInt ≤ -1 ∨ x0.toInt = 0 ∨ x0.toInt = 1 ∨ x0.toInt = 2 ∨ x0.toInt = 3 ∨ x0.toInt = 4 ∨ x0.toInt = 5 ∨ 6 ≤ x0.toInt by omega) with y_1194 | y_1194 | y_1194 | y_1194 | y_1194 | y_1194 | y_1194 | y_1194
  · skip
    rcases (show x1.toInt ≤ -1 ∨ x1.toInt = 0 ∨ 1 ≤ x1.toInt by omega) with y_1195 | y_1195 | y_1195
    · skip
      refine lv_aload_n hx hb dX7_law_0 rfl (lv_at hl 0 rfl) ?_
      refine lv_iload_n hx hb dX7_law_1 rfl (lv_at hl 1 rfl) ?_
      refine lv_iload_n hx hb dX7_law_2 rfl (lv_at hl 2 rfl) ?_
      refine ka_RV (n := 2) C (ct_X7_isOpenFor_75 l D a0 x0 x1 (by omega) (by omega)) gX7_law_X7_isOpenFor rfl (by decide +kernel) ⟨Nat.le_of_ble_eq_true rfl, Nat.le_of_ble_eq_true rfl⟩ hK hP hS hE hN [] rfl [] rfl (ci := 7) rfl rfl 0 rfl rfl hl.1 (rest := []) rfl (Nat.le_of_ble_eq_true rfl) dX7_law_3 ⟨Nat.le_of_ble_eq_true rfl, Nat.le_of_ble_eq_true rfl⟩ (fun v hv => ?_)
      subst hv
      refine ka_stk (w := [.int 0]) rfl ?_
      refine lv_if_eq (tgt := 17) hx hb dX7_law_6 (by decide) (fun _ => ?_) (fun c_ => absurd (by decide) c_)
      refine lv_iconst (v := 0) hx hb dX7_law_17 (by decide) ?_
      exact ka_rEz C hr hlk rfl (Nat.le_of_ble_eq_true rfl) (Nat.le_of_ble_eq_true rfl) hS (ka_qE () rfl trivial hK hP hD hS [] (by decide) rfl [] rfl) dX7_law_18
    · obtain rfl : x1 = 0 := (ka_eq' _ _).mpr (y_1195.trans (by decide))
      refine lv_aload_n hx hb dX7_law_0 rfl (lv_at hl 0 rfl) ?_
      refine lv_iload_n hx hb dX7_law_1 rfl (lv_at hl 1 rfl) ?_
      refine lv_iload_n hx hb dX7_law_2 rfl (lv_at hl 2 rfl) ?_
      refine ka_RV (n := 2) C (ct_X7_isOpenFor_76 l D a0 x0 (by omega)) gX7_law_X7_isOpenFor rfl (by decide +kernel) ⟨Nat.le_of_ble_eq_true rfl, Nat.le_of_ble_eq_true rfl⟩ hK hP hS hE hN [] rfl [] rfl (ci := 7) rfl rfl 0 rfl rfl hl.1 (rest := []) rfl (Nat.le_of_ble_eq_true rfl) dX7_law_3 ⟨Nat.le_of_ble_eq_true rfl, Nat.le_of_ble_eq_true rfl⟩ (fun v hv => ?_)
      subst hv
      refine ka_stk (w := [.int 0]) rfl ?_
      refine lv_if_eq (tgt := 17) hx hb dX7_law_6 (by decide) (fun _ => ?_) (fun c_ => absurd (by decide) c_)
      refine lv_iconst (v := 0) hx hb dX7_law_17 (by decide) ?_
      exact ka_rEz C hr hlk rfl (Nat.le_of_ble_eq_true rfl) (Nat.le_of_ble_eq_true rfl) hS (ka_qE () rfl trivial hK hP hD hS [] (by decide) rfl [] rfl) dX7_law_18
    · skip
      refine lv_aload_n hx hb dX7_law_0 rfl (lv_at hl 0 rfl) ?_
      refine lv_iload_n hx hb dX7_law_1 rfl (lv_at hl 1 rfl) ?_
      refine lv_iload_n hx hb dX7_law_2 rfl (lv_at hl 2 rfl) ?_
      refine ka_RV (n := 2) C (ct_X7_isOpenFor_77 l D a0 x0 x1 (by omega) (by omega)) gX7_law_X7_isOpenFor rfl (by decide +kernel) ⟨Nat.le_of_ble_eq_true rfl, Nat.le_of_ble_eq_true rfl⟩ hK hP hS hE hN [] rfl [] rfl (ci := 7) rfl rfl 0 rfl rfl hl.1 (rest := []) rfl (Nat.le_of_ble_eq_true rfl) dX7_law_3 ⟨Nat.le_of_ble_eq_true rfl, Nat.le_of_ble_eq_true rfl⟩ (fun v hv => ?_)
      subst hv
      refine ka_stk (w := [.int 0]) rfl ?_
      refine lv_if_eq (tgt := 17) hx hb dX7_law_6 (by decide) (fun _ => ?_) (fun c_ => absurd (by decide) c_)
      refine lv_iconst (v := 0) hx hb dX7_law_17 (by decide) ?_
      exact ka_rEz C hr hlk rfl (Nat.le_of_ble_eq_true rfl) (Nat.le_of_ble_eq_true rfl) hS (ka_qE () rfl trivial hK hP hD hS [] (by decide) rfl [] rfl) dX7_law_18
  · obtain rfl : x0 = 0 := (ka_eq' _ _).mpr (y_1194.trans (by decide))
    rcases (show x1.toInt ≤ -1 ∨ x1.toInt = 0 ∨ 1 ≤ x1.toInt by omega) with y_1196 | y_1196 | y_1196
    · skip
      refine lv_aload_n hx hb dX7_law_0 rfl (lv_at hl 0 rfl) ?_
      refine lv_iload_n hx hb dX7_law_1 rfl (lv_at hl 1 rfl) ?_
      refine lv_iload_n hx hb dX7_law_2 rfl (lv_at hl 2 rfl) ?_
      refine ka_RV (n := 2) C (ct_X7_isOpenFor_82 l D a0 x1 a1 a2 a3 a4 a5 a6 a7 a8 a9 a10 a11 a12 a13 a14 k0 (by omega)) gX7_law_X7_isOpenFor rfl (by decide +kernel) ⟨Nat.le_of_ble_eq_true rfl, Nat.le_of_ble_eq_true rfl⟩ hK hP hS hE hN [0, 1] rfl [0] rfl (ci := 7) rfl rfl 0 rfl rfl hl.1 (rest := []) rfl (Nat.le_of_ble_eq_true rfl) dX7_law_3 ⟨Nat.le_of_ble_eq_true rfl, Nat.le_of_ble_eq_true rfl⟩ (fun v hv => ?_)
      subst hv
      refine ka_stk (w := [.int 0]) rfl ?_
      refine lv_if_eq (tgt := 17) hx hb dX7_law_6 (by decide) (fun _ => ?_) (fun c_ => absurd (by decide) c_)
      refine lv_iconst (v := 0) hx hb dX7_law_17 (by decide) ?_
      exact ka_rEz C hr hlk rfl (Nat.le_of_ble_eq_true rfl) (Nat.le_of_ble_eq_true rfl) hS (ka_qE () rfl trivial hK hP hD hS [] (by decide) rfl [] rfl) dX7_law_18
    · obtain rfl : x1 = 0 := (ka_eq' _ _).mpr (y_1196.trans (by decide))
      refine lv_aload_n hx hb dX7_law_0 rfl (lv_at hl 0 rfl) ?_
      refine lv_iload_n hx hb dX7_law_1 rfl (lv_at hl 1 rfl) ?_
      refine lv_iload_n hx hb dX7_law_2 rfl (lv_at hl 2 rfl) ?_
      refine ka_RV (n := 2) C (ct_X7_isOpenFor_85 l D a0 a1 a2 a3 a4 a5 a6 a7 a8 a9 a10 a11 a12 a13 a14 k0) gX7_law_X7_isOpenFor rfl (by decide +kernel) ⟨Nat.le_of_ble_eq_true rfl, Nat.le_of_ble_eq_true rfl⟩ hK hP hS hE hN [0, 1] rfl [0] rfl (ci := 7) rfl rfl 0 rfl rfl hl.1 (rest := []) rfl (Nat.le_of_ble_eq_true rfl) dX7_law_3 ⟨Nat.le_of_ble_eq_true rfl, Nat.le_of_ble_eq_true rfl⟩ (fun v hv => ?_)
      subst hv
      refine ka_stk (w := [.int 1]) rfl ?_
      refine lv_if_eq (tgt := 17) hx hb dX7_law_6 (by decide) (fun c_ => absurd c_ (by decide)) (fun _ => ?_)
      refine lv_aload_n hx hb dX7_law_9 rfl (lv_at hl 0 rfl) ?_
      refine lv_iload_n hx hb dX7_law_10 rfl (lv_at hl 2 rfl) ?_
      refine ka_EV (n := 1) (wr := [(a6, .inl (k0, 6, .inl (fun _ => 0)))]) C (ct_X7_reads_93 l D a0 a1 a2 a3 a4 a5 a6 a7 a8 a9 a10 a11 a12 a13 a14) gX7_law_X7_reads rfl (by decide +kernel) ⟨Nat.le_of_ble_eq_true rfl, Nat.le_of_ble_eq_true rfl⟩ hK hP hD hS hA hE hN [0] rfl (by decide) [1] rfl (by decide) (by decide) [] rfl (ci := 7) rfl rfl 0 rfl rfl hl.1 (rest := []) rfl (Nat.le_of_ble_eq_true rfl) dX7_law_11 ⟨Nat.le_of_ble_eq_true rfl, Nat.le_of_ble_eq_true rfl⟩ (fun u H locs _ hP hD hK hS => ?_)
      have hP : va_P D vwCl [(a6, .inl (k0, 6, .inl (fun _ => 0))), (a0, .inr (7, [.ref a1, .int 0, .ref a2, .ref a3, .ref a4, .ref a5, .ref a6, .ref a7, .ref a8, .int (-1), .int 0, .int 3, .int 3, .int 0, .int 0, .int 0, .ref a9, .ref a10, .ref a11, .ref a12, .ref a13, .ref a14, .int 0, .int 0, .int 0, .int 0, .int 0, .int 1]))] H := hP
      have hD : va_D A [(a6, .inl (k0, 6, .inl (fun _ => 0))), (a0, .inr (7, [.ref a1, .int 0, .ref a2, .ref a3, .ref a4, .ref a5, .ref a6, .ref a7, .ref a8, .int (-1), .int 0, .int 3, .int 3, .int 0, .int 0, .int 0, .ref a9, .ref a10, .ref a11, .ref a12, .ref a13, .ref a14, .int 0, .int 0, .int 0, .int 0, .int 0, .int 1]))] := hD
      have hK : va_K D vwCl [(k0, .boolean)] s := hK
      refine ka_stk (w := [.int 0]) rfl ?_
      refine lv_if_ne (tgt := 19) hx hb dX7_law_14 (by decide) (fun c_ => absurd (by decide) c_) (fun _ => ?_)
      refine lv_iconst (v := 0) hx hb dX7_law_17 (by decide) ?_
      exact ka_rEz C hr hlk rfl (Nat.le_of_ble_eq_true rfl) (Nat.le_of_ble_eq_true rfl) hS (ka_qE () rfl trivial hK hP hD hS [] (by decide) rfl [] rfl) dX7_law_18
    · skip
      refine lv_aload_n hx hb dX7_law_0 rfl (lv_at hl 0 rfl) ?_
      refine lv_iload_n hx hb dX7_law_1 rfl (lv_at hl 1 rfl) ?_
      refine lv_iload_n hx hb dX7_law_2 rfl (lv_at hl 2 rfl) ?_
      refine ka_RV (n := 2) C (ct_X7_isOpenFor_96 l D a0 x1 a1 a2 a3 a4 a5 a6 a7 a8 a9 a10 a11 a12 a13 a14 k0 (by omega)) gX7_law_X7_isOpenFor rfl (by decide +kernel) ⟨Nat.le_of_ble_eq_true rfl, Nat.le_of_ble_eq_true rfl⟩ hK hP hS hE hN [0, 1] rfl [0] rfl (ci := 7) rfl rfl 0 rfl rfl hl.1 (rest := []) rfl (Nat.le_of_ble_eq_true rfl) dX7_law_3 ⟨Nat.le_of_ble_eq_true rfl, Nat.le_of_ble_eq_true rfl⟩ (fun v hv => ?_)
      subst hv
      refine ka_stk (w := [.int 0]) rfl ?_
      refine lv_if_eq (tgt := 17) hx hb dX7_law_6 (by decide) (fun _ => ?_) (fun c_ => absurd (by decide) c_)
      refine lv_iconst (v := 0) hx hb dX7_law_17 (by decide) ?_
      exact ka_rEz C hr hlk rfl (Nat.le_of_ble_eq_true rfl) (Nat.le_of_ble_eq_true rfl) hS (ka_qE () rfl trivial hK hP hD hS [] (by decide) rfl [] rfl) dX7_law_18
  · obtain rfl : x0 = 1 := (ka_eq' _ _).mpr (y_1194.trans (by decide))
    rcases (show x1.toInt ≤ -1 ∨ x1.toInt = 0 ∨ 1 ≤ x1.toInt by omega) with y_1197 | y_1197 | y_1197
    · skip
      refine lv_aload_n hx hb dX7_law_0 rfl (lv_at hl 0 rfl) ?_
      refine lv_iload_n hx hb dX7_law_1 rfl (lv_at hl 1 rfl) ?_
      refine lv_iload_n hx hb dX7_law_2 rfl (lv_at hl 2 rfl) ?_
      refine ka_RV (n := 2) C (ct_X7_isOpenFor_99 l D a0 x1 a1 a2 a3 a4 a5 a6 a7 a8 a9 a10 a11 a12 a13 a14 k0 (by omega)) gX7_law_X7_isOpenFor rfl (by decide +kernel) ⟨Nat.le_of_ble_eq_true rfl, Nat.le_of_ble_eq_true rfl⟩ hK hP hS hE hN [0, 1] rfl [0] rfl (ci := 7) rfl rfl 0 rfl rfl hl.1 (rest := []) rfl (Nat.le_of_ble_eq_true rfl) dX7_law_3 ⟨Nat.le_of_ble_eq_true rfl, Nat.le_of_ble_eq_true rfl⟩ (fun v hv => ?_)
      subst hv
      refine ka_stk (w := [.int 0]) rfl ?_
      refine lv_if_eq (tgt := 17) hx hb dX7_law_6 (by decide) (fun _ => ?_) (fun c_ => absurd (by decide) c_)
      refine lv_iconst (v := 0) hx hb dX7_law_17 (by decide) ?_
      exact ka_rEz C hr hlk rfl (Nat.le_of_ble_eq_true rfl) (Nat.le_of_ble_eq_true rfl) hS (ka_qE () rfl trivial hK hP hD hS [] (by decide) rfl [] rfl) dX7_law_18
    · obtain rfl : x1 = 0 := (ka_eq' _ _).mpr (y_1197.trans (by decide))
      refine lv_aload_n hx hb dX7_law_0 rfl (lv_at hl 0 rfl) ?_
      refine lv_iload_n hx hb dX7_law_1 rfl (lv_at hl 1 rfl) ?_
      refine lv_iload_n hx hb dX7_law_2 rfl (lv_at hl 2 rfl) ?_
      refine ka_RV (n := 2) C (ct_X7_isOpenFor_100 l D a0 a1 a2 a3 a4 a5 a6 a7 a8 a9 a10 a11 a12 a13 a14 k0) gX7_law_X7_isOpenFor rfl (by decide +kernel) ⟨Nat.le_of_ble_eq_true rfl, Nat.le_of_ble_eq_true rfl⟩ hK hP hS hE hN [0, 1] rfl [0] rfl (ci := 7) rfl rfl 0 rfl rfl hl.1 (rest := []) rfl (Nat.le_of_ble_eq_true rfl) dX7_law_3 ⟨Nat.le_of_ble_eq_true rfl, Nat.le_of_ble_eq_true rfl⟩ (fun v hv => ?_)
      subst hv
      refine ka_stk (w := [.int 1]) rfl ?_
      refine lv_if_eq (tgt := 17) hx hb dX7_law_6 (by decide) (fun c_ => absurd c_ (by decide)) (fun _ => ?_)
      refine lv_aload_n hx hb dX7_law_9 rfl (lv_at hl 0 rfl) ?_
      refine lv_iload_n hx hb dX7_law_10 rfl (lv_at hl 2 rfl) ?_
      refine ka_EV (n := 1) (wr := [(a6, .inl (k0, 6, .inl (fun _ => 0)))]) C (ct_X7_reads_93 l D a0 a1 a2 a3 a4 a5 a6 a7 a8 a9 a10 a11 a12 a13 a14) gX7_law_X7_reads rfl (by decide +kernel) ⟨Nat.le_of_ble_eq_true rfl, Nat.le_of_ble_eq_true rfl⟩ hK hP hD hS hA hE hN [0] rfl (by decide) [1] rfl (by decide) (by decide) [] rfl (ci := 7) rfl rfl 0 rfl rfl hl.1 (rest := []) rfl (Nat.le_of_ble_eq_true rfl) dX7_law_11 ⟨Nat.le_of_ble_eq_true rfl, Nat.le_of_ble_eq_true rfl⟩ (fun u H locs _ hP hD hK hS => ?_)
      have hP : va_P D vwCl [(a6, .inl (k0, 6, .inl (fun _ => 0))), (a0, .inr (7, [.ref a1, .int 0, .ref a2, .ref a3, .ref a4, .ref a5, .ref a6, .ref a7, .ref a8, .int (-1), .int 0, .int 3, .int 3, .int 0, .int 0, .int 0, .ref a9, .ref a10, .ref a11, .ref a12, .ref a13, .ref a14, .int 0, .int 0, .int 0, .int 0, .int 0, .int 1]))] H := hP
      have hD : va_D A [(a6, .inl (k0, 6, .inl (fun _ => 0))), (a0, .inr (7, [.ref a1, .int 0, .ref a2, .ref a3, .ref a4, .ref a5, .ref a6, .ref a7, .ref a8, .int (-1), .int 0, .int 3, .int 3, .int 0, .int 0, .int 0, .ref a9, .ref a10, .ref a11, .ref a12, .ref a13, .ref a14, .int 0, .int 0, .int 0, .int 0, .int 0, .int 1]))] := hD
      have hK : va_K D vwCl [(k0, .boolean)] s := hK
      refine ka_stk (w := [.int 0]) rfl ?_
      refine lv_if_ne (tgt := 19) hx hb dX7_law_14 (by decide) (fun c_ => absurd (by decide) c_) (fun _ => ?_)
      refine lv_iconst (v := 0) hx hb dX7_law_17 (by decide) ?_
      exact ka_rEz C hr hlk rfl (Nat.le_of_ble_eq_true rfl) (Nat.le_of_ble_eq_true rfl) hS (ka_qE () rfl trivial hK hP hD hS [] (by decide) rfl [] rfl) dX7_law_18
    · skip
      refine lv_aload_n hx hb dX7_law_0 rfl (lv_at hl 0 rfl) ?_
      refine lv_iload_n hx hb dX7_law_1 rfl (lv_at hl 1 rfl) ?_
      refine lv_iload_n hx hb dX7_law_2 rfl (lv_at hl 2 rfl) ?_
      refine ka_RV (n := 2) C (ct_X7_isOpenFor_101 l D a0 x1 a1 a2 a3 a4 a5 a6 a7 a8 a9 a10 a11 a12 a13 a14 k0 (by omega)) gX7_law_X7_isOpenFor rfl (by decide +kernel) ⟨Nat.le_of_ble_eq_true rfl, Nat.le_of_ble_eq_true rfl⟩ hK hP hS hE hN [0, 1] rfl [0] rfl (ci := 7) rfl rfl 0 rfl rfl hl.1 (rest := []) rfl (Nat.le_of_ble_eq_true rfl) dX7_law_3 ⟨Nat.le_of_ble_eq_true rfl, Nat.le_of_ble_eq_true rfl⟩ (fun v hv => ?_)
      subst hv
      refine ka_stk (w := [.int 0]) rfl ?_
      refine lv_if_eq (tgt := 17) hx hb dX7_law_6 (by decide) (fun _ => ?_) (fun c_ => absurd (by decide) c_)
      refine lv_iconst (v := 0) hx hb dX7_law_17 (by decide) ?_
      exact ka_rEz C hr hlk rfl (Nat.le_of_ble_eq_true rfl) (Nat.le_of_ble_eq_true rfl) hS (ka_qE () rfl trivial hK hP hD hS [] (by decide) rfl [] rfl) dX7_law_18
  · obtain rfl : x0 = 2 := (ka_eq' _ _).mpr (y_1194.trans (by decide))
    rcases (show x1.toInt ≤ -1 ∨ x1.toInt = 0 ∨ 1 ≤ x1.toInt by omega) with y_1198 | y_1198 | y_1198
    · skip
      refine lv_aload_n hx hb dX7_law_0 rfl (lv_at hl 0 rfl) ?_
      refine lv_iload_n hx hb dX7_law_1 rfl (lv_at hl 1 rfl) ?_
      refine lv_iload_n hx hb dX7_law_2 rfl (lv_at hl 2 rfl) ?_
      refine ka_RV (n := 2) C (ct_X7_isOpenFor_104 l D a0 x1 a1 a2 a3 a4 a5 a6 a7 a8 a9 a10 a11 a12 a13 a14 k0 (by omega)) gX7_law_X7_isOpenFor rfl (by decide +kernel) ⟨Nat.le_of_ble_eq_true rfl, Nat.le_of_ble_eq_true rfl⟩ hK hP hS hE hN [0, 1] rfl [0] rfl (ci := 7) rfl rfl 0 rfl rfl hl.1 (rest := []) rfl (Nat.le_of_ble_eq_true rfl) dX7_law_3 ⟨Nat.le_of_ble_eq_true rfl, Nat.le_of_ble_eq_true rfl⟩ (fun v hv => ?_)
      subst hv
      refine ka_stk (w := [.int 0]) rfl ?_
      refine lv_if_eq (tgt := 17) hx hb dX7_law_6 (by decide) (fun _ => ?_) (fun c_ => absurd (by decide) c_)
      refine lv_iconst (v := 0) hx hb dX7_law_17 (by decide) ?_
      exact ka_rEz C hr hlk rfl (Nat.le_of_ble_eq_true rfl) (Nat.le_of_ble_eq_true rfl) hS (ka_qE () rfl trivial hK hP hD hS [] (by decide) rfl [] rfl) dX7_law_18
    · obtain rfl : x1 = 0 := (ka_eq' _ _).mpr (y_1198.trans (by decide))
      refine lv_aload_n hx hb dX7_law_0 rfl (lv_at hl 0 rfl) ?_
      refine lv_iload_n hx hb dX7_law_1 rfl (lv_at hl 1 rfl) ?_
      refine lv_iload_n hx hb dX7_law_2 rfl (lv_at hl 2 rfl) ?_
      refine ka_RV (n := 2) C (ct_X7_isOpenFor_105 l D a0 a1 a2 a3 a4 a5 a6 a7 a8 a9 a10 a11 a12 a13 a14 k0) gX7_law_X7_isOpenFor rfl (by decide +kernel) ⟨Nat.le_of_ble_eq_true rfl, Nat.le_of_ble_eq_true rfl⟩ hK hP hS hE hN [0, 1] rfl [0] rfl (ci := 7) rfl rfl 0 rfl rfl hl.1 (rest := []) rfl (Nat.le_of_ble_eq_true rfl) dX7_law_3 ⟨Nat.le_of_ble_eq_true rfl, Nat.le_of_ble_eq_true rfl⟩ (fun v hv => ?_)
      subst hv
      refine ka_stk (w := [.int 1]) rfl ?_
      refine lv_if_eq (tgt := 17) hx hb dX7_law_6 (by decide) (fun c_ => absurd c_ (by decide)) (fun _ => ?_)
      refine lv_aload_n hx hb dX7_law_9 rfl (lv_at hl 0 rfl) ?_
      refine lv_iload_n hx hb dX7_law_10 rfl (lv_at hl 2 rfl) ?_
      refine ka_EV (n := 1) (wr := [(a6, .inl (k0, 6, .inl (fun _ => 0)))]) C (ct_X7_reads_93 l D a0 a1 a2 a3 a4 a5 a6 a7 a8 a9 a10 a11 a12 a13 a14) gX7_law_X7_reads rfl (by decide +kernel) ⟨Nat.le_of_ble_eq_true rfl, Nat.le_of_ble_eq_true rfl⟩ hK hP hD hS hA hE hN [0] rfl (by decide) [1] rfl (by decide) (by decide) [] rfl (ci := 7) rfl rfl 0 rfl rfl hl.1 (rest := []) rfl (Nat.le_of_ble_eq_true rfl) dX7_law_11 ⟨Nat.le_of_ble_eq_true rfl, Nat.le_of_ble_eq_true rfl⟩ (fun u H locs _ hP hD hK hS => ?_)
      have hP : va_P D vwCl [(a6, .inl (k0, 6, .inl (fun _ => 0))), (a0, .inr (7, [.ref a1, .int 0, .ref a2, .ref a3, .ref a4, .ref a5, .ref a6, .ref a7, .ref a8, .int (-1), .int 0, .int 3, .int 3, .int 0, .int 0, .int 0, .ref a9, .ref a10, .ref a11, .ref a12, .ref a13, .ref a14, .int 0, .int 0, .int 0, .int 0, .int 0, .int 1]))] H := hP
      have hD : va_D A [(a6, .inl (k0, 6, .inl (fun _ => 0))), (a0, .inr (7, [.ref a1, .int 0, .ref a2, .ref a3, .ref a4, .ref a5, .ref a6, .ref a7, .ref a8, .int (-1), .int 0, .int 3, .int 3, .int 0, .int 0, .int 0, .ref a9, .ref a10, .ref a11, .ref a12, .ref a13, .ref a14, .int 0, .int 0, .int 0, .int 0, .int 0, .int 1]))] := hD
      have hK : va_K D vwCl [(k0, .boolean)] s := hK
      refine ka_stk (w := [.int 0]) rfl ?_
      refine lv_if_ne (tgt := 19) hx hb dX7_law_14 (by decide) (fun c_ => absurd (by decide) c_) (fun _ => ?_)
      refine lv_iconst (v := 0) hx hb dX7_law_17 (by decide) ?_
      exact ka_rEz C hr hlk rfl (Nat.le_of_ble_eq_true rfl) (Nat.le_of_ble_eq_true rfl) hS (ka_qE () rfl trivial hK hP hD hS [] (by decide) rfl [] rfl) dX7_law_18
    · skip
      refine lv_aload_n hx hb dX7_law_0 rfl (lv_at hl 0 rfl) ?_
      refine lv_iload_n hx hb dX7_law_1 rfl (lv_at hl 1 rfl) ?_
      refine lv_iload_n hx hb dX7_law_2 rfl (lv_at hl 2 rfl) ?_
      refine ka_RV (n := 2) C (ct_X7_isOpenFor_106 l D a0 x1 a1 a2 a3 a4 a5 a6 a7 a8 a9 a10 a11 a12 a13 a14 k0 (by omega)) gX7_law_X7_isOpenFor rfl (by decide +kernel) ⟨Nat.le_of_ble_eq_true rfl, Nat.le_of_ble_eq_true rfl⟩ hK hP hS hE hN [0, 1] rfl [0] rfl (ci := 7) rfl rfl 0 rfl rfl hl.1 (rest := []) rfl (Nat.le_of_ble_eq_true rfl) dX7_law_3 ⟨Nat.le_of_ble_eq_true rfl, Nat.le_of_ble_eq_true rfl⟩ (fun v hv => ?_)
      subst hv
      refine ka_stk (w := [.int 0]) rfl ?_
      refine lv_if_eq (tgt := 17) hx hb dX7_law_6 (by decide) (fun _ => ?_) (fun c_ => absurd (by decide) c_)
      refine lv_iconst (v := 0) hx hb dX7_law_17 (by decide) ?_
      exact ka_rEz C hr hlk rfl (Nat.le_of_ble_eq_true rfl) (Nat.le_of_ble_eq_true rfl) hS (ka_qE () rfl trivial hK hP hD hS [] (by decide) rfl [] rfl) dX7_law_18
  · obtain rfl : x0 = 3 := (ka_eq' _ _).mpr (y_1194.trans (by decide))
    rcases (show x1.toInt ≤ -1 ∨ x1.toInt = 0 ∨ 1 ≤ x1.toInt by omega) with y_1199 | y_1199 | y_1199
    · skip
      refine lv_aload_n hx hb dX7_law_0 rfl (lv_at hl 0 rfl) ?_
      refine lv_iload_n hx hb dX7_law_1 rfl (lv_at hl 1 rfl) ?_
      refine lv_iload_n hx hb dX7_law_2 rfl (lv_at hl 2 rfl) ?_
      refine ka_RV (n := 2) C (ct_X7_isOpenFor_109 l D a0 x1 a1 a2 a3 a4 a5 a6 a7 a8 a9 a10 a11 a12 a13 a14 k0 (by omega)) gX7_law_X7_isOpenFor rfl (by decide +kernel) ⟨Nat.le_of_ble_eq_true rfl, Nat.le_of_ble_eq_true rfl⟩ hK hP hS hE hN [0, 1] rfl [0] rfl (ci := 7) rfl rfl 0 rfl rfl hl.1 (rest := []) rfl (Nat.le_of_ble_eq_true rfl) dX7_law_3 ⟨Nat.le_of_ble_eq_true rfl, Nat.le_of_ble_eq_true rfl⟩ (fun v hv => ?_)
      subst hv
      refine ka_stk (w := [.int 0]) rfl ?_
      refine lv_if_eq (tgt := 17) hx hb dX7_law_6 (by decide) (fun _ => ?_) (fun c_ => absurd (by decide) c_)
      refine lv_iconst (v := 0) hx hb dX7_law_17 (by decide) ?_
      exact ka_rEz C hr hlk rfl (Nat.le_of_ble_eq_true rfl) (Nat.le_of_ble_eq_true rfl) hS (ka_qE () rfl trivial hK hP hD hS [] (by decide) rfl [] rfl) dX7_law_18
    · obtain rfl : x1 = 0 := (ka_eq' _ _).mpr (y_1199.trans (by decide))
      refine lv_aload_n hx hb dX7_law_0 rfl (lv_at hl 0 rfl) ?_
      refine lv_iload_n hx hb dX7_law_1 rfl (lv_at hl 1 rfl) ?_
      refine lv_iload_n hx hb dX7_law_2 rfl (lv_at hl 2 rfl) ?_
      refine ka_RV (n := 2) C (ct_X7_isOpenFor_110 l D a0 a1 a2 a3 a4 a5 a6 a7 a8 a9 a10 a11 a12 a13 a14 k0) gX7_law_X7_isOpenFor rfl (by decide +kernel) ⟨Nat.le_of_ble_eq_true rfl, Nat.le_of_ble_eq_true rfl⟩ hK hP hS hE hN [0, 1] rfl [0] rfl (ci := 7) rfl rfl 0 rfl rfl hl.1 (rest := []) rfl (Nat.le_of_ble_eq_true rfl) dX7_law_3 ⟨Nat.le_of_ble_eq_true rfl, Nat.le_of_ble_eq_true rfl⟩ (fun v hv => ?_)
      subst hv
      refine ka_stk (w := [.int 1]) rfl ?_
      refine lv_if_eq (tgt := 17) hx hb dX7_law_6 (by decide) (fun c_ => absurd c_ (by decide)) (fun _ => ?_)
      refine lv_aload_n hx hb dX7_law_9 rfl (lv_at hl 0 rfl) ?_
      refine lv_iload_n hx hb dX7_law_10 rfl (lv_at hl 2 rfl) ?_
      refine ka_EV (n := 1) (wr := [(a6, .inl (k0, 6, .inl (fun _ => 0)))]) C (ct_X7_reads_93 l D a0 a1 a2 a3 a4 a5 a6 a7 a8 a9 a10 a11 a12 a13 a14) gX7_law_X7_reads rfl (by decide +kernel) ⟨Nat.le_of_ble_eq_true rfl, Nat.le_of_ble_eq_true rfl⟩ hK hP hD hS hA hE hN [0] rfl (by decide) [1] rfl (by decide) (by decide) [] rfl (ci := 7) rfl rfl 0 rfl rfl hl.1 (rest := []) rfl (Nat.le_of_ble_eq_true rfl) dX7_law_11 ⟨Nat.le_of_ble_eq_true rfl, Nat.le_of_ble_eq_true rfl⟩ (fun u H locs _ hP hD hK hS => ?_)
      have hP : va_P D vwCl [(a6, .inl (k0, 6, .inl (fun _ => 0))), (a0, .inr (7, [.ref a1, .int 0, .ref a2, .ref a3, .ref a4, .ref a5, .ref a6, .ref a7, .ref a8, .int (-1), .int 0, .int 3, .int 3, .int 0, .int 0, .int 0, .ref a9, .ref a10, .ref a11, .ref a12, .ref a13, .ref a14, .int 0, .int 0, .int 0, .int 0, .int 0, .int 1]))] H := hP
      have hD : va_D A [(a6, .inl (k0, 6, .inl (fun _ => 0))), (a0, .inr (7, [.ref a1, .int 0, .ref a2, .ref a3, .ref a4, .ref a5, .ref a6, .ref a7, .ref a8, .int (-1), .int 0, .int 3, .int 3, .int 0, .int 0, .int 0, .ref a9, .ref a10, .ref a11, .ref a12, .ref a13, .ref a14, .int 0, .int 0, .int 0, .int 0, .int 0, .int 1]))] := hD
      have hK : va_K D vwCl [(k0, .boolean)] s := hK
      refine ka_stk (w := [.int 0]) rfl ?_
      refine lv_if_ne (tgt := 19) hx hb dX7_law_14 (by decide) (fun c_ => absurd (by decide) c_) (fun _ => ?_)
      refine lv_iconst (v := 0) hx hb dX7_law_17 (by decide) ?_
      exact ka_rEz C hr hlk rfl (Nat.le_of_ble_eq_true rfl) (Nat.le_of_ble_eq_true rfl) hS (ka_qE () rfl trivial hK hP hD hS [] (by decide) rfl [] rfl) dX7_law_18
    · skip
      refine lv_aload_n hx hb dX7_law_0 rfl (lv_at hl 0 rfl) ?_
      refine lv_iload_n hx hb dX7_law_1 rfl (lv_at hl 1 rfl) ?_
      refine lv_iload_n hx hb dX7_law_2 rfl (lv_at hl 2 rfl) ?_
      refine ka_RV (n := 2) C (ct_X7_isOpenFor_111 l D a0 x1 a1 a2 a3 a4 a5 a6 a7 a8 a9 a10 a11 a12 a13 a14 k0 (by omega)) gX7_law_X7_isOpenFor rfl (by decide +kernel) ⟨Nat.le_of_ble_eq_true rfl, Nat.le_of_ble_eq_true rfl⟩ hK hP hS hE hN [0, 1] rfl [0] rfl (ci := 7) rfl rfl 0 rfl rfl hl.1 (rest := []) rfl (Nat.le_of_ble_eq_true rfl) dX7_law_3 ⟨Nat.le_of_ble_eq_true rfl, Nat.le_of_ble_eq_true rfl⟩ (fun v hv => ?_)
      subst hv
      refine ka_stk (w := [.int 0]) rfl ?_
      refine lv_if_eq (tgt := 17) hx hb dX7_law_6 (by decide) (fun _ => ?_) (fun c_ => absurd (by decide) c_)
      refine lv_iconst (v := 0) hx hb dX7_law_17 (by decide) ?_
      exact ka_rEz C hr hlk rfl (Nat.le_of_ble_eq_true rfl) (Nat.le_of_ble_eq_true rfl) hS (ka_qE () rfl trivial hK hP hD hS [] (by decide) rfl [] rfl) dX7_law_18
  · obtain rfl : x0 = 4 := (ka_eq' _ _).mpr (y_1194.trans (by decide))
    rcases (show x1.toInt ≤ -1 ∨ x1.toInt = 0 ∨ 1 ≤ x1.toInt by omega) with y_1200 | y_1200 | y_1200
    · skip
      refine lv_aload_n hx hb dX7_law_0 rfl (lv_at hl 0 rfl) ?_
      refine lv_iload_n hx hb dX7_law_1 rfl (lv_at hl 1 rfl) ?_
      refine lv_iload_n hx hb dX7_law_2 rfl (lv_at hl 2 rfl) ?_
      refine ka_RV (n := 2) C (ct_X7_isOpenFor_114 l D a0 x1 a1 a2 a3 a4 a5 a6 a7 a8 a9 a10 a11 a12 a13 a14 k0 (by omega)) gX7_law_X7_isOpenFor rfl (by decide +kernel) ⟨Nat.le_of_ble_eq_true rfl, Nat.le_of_ble_eq_true rfl⟩ hK hP hS hE hN [0, 1] rfl [0] rfl (ci := 7) rfl rfl 0 rfl rfl hl.1 (rest := []) rfl (Nat.le_of_ble_eq_true rfl) dX7_law_3 ⟨Nat.le_of_ble_eq_true rfl, Nat.le_of_ble_eq_true rfl⟩ (fun v hv => ?_)
      subst hv
      refine ka_stk (w := [.int 0]) rfl ?_
      refine lv_if_eq (tgt := 17) hx hb dX7_law_6 (by decide) (fun _ => ?_) (fun c_ => absurd (by decide) c_)
      refine lv_iconst (v := 0) hx hb dX7_law_17 (by decide) ?_
      exact ka_rEz C hr hlk rfl (Nat.le_of_ble_eq_true rfl) (Nat.le_of_ble_eq_true rfl) hS (ka_qE () rfl trivial hK hP hD hS [] (by decide) rfl [] rfl) dX7_law_18
    · obtain rfl : x1 = 0 := (ka_eq' _ _).mpr (y_1200.trans (by decide))
      refine lv_aload_n hx hb dX7_law_0 rfl (lv_at hl 0 rfl) ?_
      refine lv_iload_n hx hb dX7_law_1 rfl (lv_at hl 1 rfl) ?_
      refine lv_iload_n hx hb dX7_law_2 rfl (lv_at hl 2 rfl) ?_
      refine ka_RV (n := 2) C (ct_X7_isOpenFor_115 l D a0 a1 a2 a3 a4 a5 a6 a7 a8 a9 a10 a11 a12 a13 a14 k0) gX7_law_X7_isOpenFor rfl (by decide +kernel) ⟨Nat.le_of_ble_eq_true rfl, Nat.le_of_ble_eq_true rfl⟩ hK hP hS hE hN [0, 1] rfl [0] rfl (ci := 7) rfl rfl 0 rfl rfl hl.1 (rest := []) rfl (Nat.le_of_ble_eq_true rfl) dX7_law_3 ⟨Nat.le_of_ble_eq_true rfl, Nat.le_of_ble_eq_true rfl⟩ (fun v hv => ?_)
      subst hv
      refine ka_stk (w := [.int 1]) rfl ?_
      refine lv_if_eq (tgt := 17) hx hb dX7_law_6 (by decide) (fun c_ => absurd c_ (by decide)) (fun _ => ?_)
      refine lv_aload_n hx hb dX7_law_9 rfl (lv_at hl 0 rfl) ?_
      refine lv_iload_n hx hb dX7_law_10 rfl (lv_at hl 2 rfl) ?_
      refine ka_EV (n := 1) (wr := [(a6, .inl (k0, 6, .inl (fun _ => 0)))]) C (ct_X7_reads_93 l D a0 a1 a2 a3 a4 a5 a6 a7 a8 a9 a10 a11 a12 a13 a14) gX7_law_X7_reads rfl (by decide +kernel) ⟨Nat.le_of_ble_eq_true rfl, Nat.le_of_ble_eq_true rfl⟩ hK hP hD hS hA hE hN [0] rfl (by decide) [1] rfl (by decide) (by decide) [] rfl (ci := 7) rfl rfl 0 rfl rfl hl.1 (rest := []) rfl (Nat.le_of_ble_eq_true rfl) dX7_law_11 ⟨Nat.le_of_ble_eq_true rfl, Nat.le_of_ble_eq_true rfl⟩ (fun u H locs _ hP hD hK hS => ?_)
      have hP : va_P D vwCl [(a6, .inl (k0, 6, .inl (fun _ => 0))), (a0, .inr (7, [.ref a1, .int 0, .ref a2, .ref a3, .ref a4, .ref a5, .ref a6, .ref a7, .ref a8, .int (-1), .int 0, .int 3, .int 3, .int 0, .int 0, .int 0, .ref a9, .ref a10, .ref a11, .ref a12, .ref a13, .ref a14, .int 0, .int 0, .int 0, .int 0, .int 0, .int 1]))] H := hP
      have hD : va_D A [(a6, .inl (k0, 6, .inl (fun _ => 0))), (a0, .inr (7, [.ref a1, .int 0, .ref a2, .ref a3, .ref a4, .ref a5, .ref a6, .ref a7, .ref a8, .int (-1), .int 0, .int 3, .int 3, .int 0, .int 0, .int 0, .ref a9, .ref a10, .ref a11, .ref a12, .ref a13, .ref a14, .int 0, .int 0, .int 0, .int 0, .int 0, .int 1]))] := hD
      have hK : va_K D vwCl [(k0, .boolean)] s := hK
      refine ka_stk (w := [.int 0]) rfl ?_
      refine lv_if_ne (tgt := 19) hx hb dX7_law_14 (by decide) (fun c_ => absurd (by decide) c_) (fun _ => ?_)
      refine lv_iconst (v := 0) hx hb dX7_law_17 (by decide) ?_
      exact ka_rEz C hr hlk rfl (Nat.le_of_ble_eq_true rfl) (Nat.le_of_ble_eq_true rfl) hS (ka_qE () rfl trivial hK hP hD hS [] (by decide) rfl [] rfl) dX7_law_18
    · skip
      refine lv_aload_n hx hb dX7_law_0 rfl (lv_at hl 0 rfl) ?_
      refine lv_iload_n hx hb dX7_law_1 rfl (lv_at hl 1 rfl) ?_
      refine lv_iload_n hx hb dX7_law_2 rfl (lv_at hl 2 rfl) ?_
      refine ka_RV (n := 2) C (ct_X7_isOpenFor_116 l D a0 x1 a1 a2 a3 a4 a5 a6 a7 a8 a9 a10 a11 a12 a13 a14 k0 (by omega)) gX7_law_X7_isOpenFor rfl (by decide +kernel) ⟨Nat.le_of_ble_eq_true rfl, Nat.le_of_ble_eq_true rfl⟩ hK hP hS hE hN [0, 1] rfl [0] rfl (ci := 7) rfl rfl 0 rfl rfl hl.1 (rest := []) rfl (Nat.le_of_ble_eq_true rfl) dX7_law_3 ⟨Nat.le_of_ble_eq_true rfl, Nat.le_of_ble_eq_true rfl⟩ (fun v hv => ?_)
      subst hv
      refine ka_stk (w := [.int 0]) rfl ?_
      refine lv_if_eq (tgt := 17) hx hb dX7_law_6 (by decide) (fun _ => ?_) (fun c_ => absurd (by decide) c_)
      refine lv_iconst (v := 0) hx hb dX7_law_17 (by decide) ?_
      exact ka_rEz C hr hlk rfl (Nat.le_of_ble_eq_true rfl) (Nat.le_of_ble_eq_true rfl) hS (ka_qE () rfl trivial hK hP hD hS [] (by decide) rfl [] rfl) dX7_law_18
  · obtain rfl : x0 = 5 := (ka_eq' _ _).mpr (y_1194.trans (by decide))
    rcases (show x1.toInt ≤ -1 ∨ x1.toInt = 0 ∨ 1 ≤ x1.toInt by omega) with y_1201 | y_1201 | y_1201
    · skip
      refine lv_aload_n hx hb dX7_law_0 rfl (lv_at hl 0 rfl) ?_
      refine lv_iload_n hx hb dX7_law_1 rfl (lv_at hl 1 rfl) ?_
      refine lv_iload_n hx hb dX7_law_2 rfl (lv_at hl 2 rfl) ?_
      refine ka_RV (n := 2) C (ct_X7_isOpenFor_119 l D a0 x1 a1 a2 a3 a4 a5 a6 a7 a8 a9 a10 a11 a12 a13 a14 k0 (by omega)) gX7_law_X7_isOpenFor rfl (by decide +kernel) ⟨Nat.le_of_ble_eq_true rfl, Nat.le_of_ble_eq_true rfl⟩ hK hP hS hE hN [0, 1] rfl [0] rfl (ci := 7) rfl rfl 0 rfl rfl hl.1 (rest := []) rfl (Nat.le_of_ble_eq_true rfl) dX7_law_3 ⟨Nat.le_of_ble_eq_true rfl, Nat.le_of_ble_eq_true rfl⟩ (fun v hv => ?_)
      subst hv
      refine ka_stk (w := [.int 0]) rfl ?_
      refine lv_if_eq (tgt := 17) hx hb dX7_law_6 (by decide) (fun _ => ?_) (fun c_ => absurd (by decide) c_)
      refine lv_iconst (v := 0) hx hb dX7_law_17 (by decide) ?_
      exact ka_rEz C hr hlk rfl (Nat.le_of_ble_eq_true rfl) (Nat.le_of_ble_eq_true rfl) hS (ka_qE () rfl trivial hK hP hD hS [] (by decide) rfl [] rfl) dX7_law_18
    · obtain rfl : x1 = 0 := (ka_eq' _ _).mpr (y_1201.trans (by decide))
      refine lv_aload_n hx hb dX7_law_0 rfl (lv_at hl 0 rfl) ?_
      refine lv_iload_n hx hb dX7_law_1 rfl (lv_at hl 1 rfl) ?_
      refine lv_iload_n hx hb dX7_law_2 rfl (lv_at hl 2 rfl) ?_
      refine ka_RV (n := 2) C (ct_X7_isOpenFor_120 l D a0 a1 a2 a3 a4 a5 a6 a7 a8 a9 a10 a11 a12 a13 a14 k0) gX7_law_X7_isOpenFor rfl (by decide +kernel) ⟨Nat.le_of_ble_eq_true rfl, Nat.le_of_ble_eq_true rfl⟩ hK hP hS hE hN [0, 1] rfl [0] rfl (ci := 7) rfl rfl 0 rfl rfl hl.1 (rest := []) rfl (Nat.le_of_ble_eq_true rfl) dX7_law_3 ⟨Nat.le_of_ble_eq_true rfl, Nat.le_of_ble_eq_true rfl⟩ (fun v hv => ?_)
      subst hv
      refine ka_stk (w := [.int 1]) rfl ?_
      refine lv_if_eq (tgt := 17) hx hb dX7_law_6 (by decide) (fun c_ => absurd c_ (by decide)) (fun _ => ?_)
      refine lv_aload_n hx hb dX7_law_9 rfl (lv_at hl 0 rfl) ?_
      refine lv_iload_n hx hb dX7_law_10 rfl (lv_at hl 2 rfl) ?_
      refine ka_EV (n := 1) (wr := [(a6, .inl (k0, 6, .inl (fun _ => 0)))]) C (ct_X7_reads_93 l D a0 a1 a2 a3 a4 a5 a6 a7 a8 a9 a10 a11 a12 a13 a14) gX7_law_X7_reads rfl (by decide +kernel) ⟨Nat.le_of_ble_eq_true rfl, Nat.le_of_ble_eq_true rfl⟩ hK hP hD hS hA hE hN [0] rfl (by decide) [1] rfl (by decide) (by decide) [] rfl (ci := 7) rfl rfl 0 rfl rfl hl.1 (rest := []) rfl (Nat.le_of_ble_eq_true rfl) dX7_law_11 ⟨Nat.le_of_ble_eq_true rfl, Nat.le_of_ble_eq_true rfl⟩ (fun u H locs _ hP hD hK hS => ?_)
      have hP : va_P D vwCl [(a6, .inl (k0, 6, .inl (fun _ => 0))), (a0, .inr (7, [.ref a1, .int 0, .ref a2, .ref a3, .ref a4, .ref a5, .ref a6, .ref a7, .ref a8, .int (-1), .int 0, .int 3, .int 3, .int 0, .int 0, .int 0, .ref a9, .ref a10, .ref a11, .ref a12, .ref a13, .ref a14, .int 0, .int 0, .int 0, .int 0, .int 0, .int 1]))] H := hP
      have hD : va_D A [(a6, .inl (k0, 6, .inl (fun _ => 0))), (a0, .inr (7, [.ref a1, .int 0, .ref a2, .ref a3, .ref a4, .ref a5, .ref a6, .ref a7, .ref a8, .int (-1), .int 0, .int 3, .int 3, .int 0, .int 0, .int 0, .ref a9, .ref a10, .ref a11, .ref a12, .ref a13, .ref a14, .int 0, .int 0, .int 0, .int 0, .int 0, .int 1]))] := hD
      have hK : va_K D vwCl [(k0, .boolean)] s := hK
      refine ka_stk (w := [.int 0]) rfl ?_
      refine lv_if_ne (tgt := 19) hx hb dX7_law_14 (by decide) (fun c_ => absurd (by decide) c_) (fun _ => ?_)
      refine lv_iconst (v := 0) hx hb dX7_law_17 (by decide) ?_
      exact ka_rEz C hr hlk rfl (Nat.le_of_ble_eq_true rfl) (Nat.le_of_ble_eq_true rfl) hS (ka_qE () rfl trivial hK hP hD hS [] (by decide) rfl [] rfl) dX7_law_18
    · skip
      refine lv_aload_n hx hb dX7_law_0 rfl (lv_at hl 0 rfl) ?_
      refine lv_iload_n hx hb dX7_law_1 rfl (lv_at hl 1 rfl) ?_
      refine lv_iload_n hx hb dX7_law_2 rfl (lv_at hl 2 rfl) ?_
      refine ka_RV (n := 2) C (ct_X7_isOpenFor_121 l D a0 x1 a1 a2 a3 a4 a5 a6 a7 a8 a9 a10 a11 a12 a13 a14 k0 (by omega)) gX7_law_X7_isOpenFor rfl (by decide +kernel) ⟨Nat.le_of_ble_eq_true rfl, Nat.le_of_ble_eq_true rfl⟩ hK hP hS hE hN [0, 1] rfl [0] rfl (ci := 7) rfl rfl 0 rfl rfl hl.1 (rest := []) rfl (Nat.le_of_ble_eq_true rfl) dX7_law_3 ⟨Nat.le_of_ble_eq_true rfl, Nat.le_of_ble_eq_true rfl⟩ (fun v hv => ?_)
      subst hv
      refine ka_stk (w := [.int 0]) rfl ?_
      refine lv_if_eq (tgt := 17) hx hb dX7_law_6 (by decide) (fun _ => ?_) (fun c_ => absurd (by decide) c_)
      refine lv_iconst (v := 0) hx hb dX7_law_17 (by decide) ?_
      exact ka_rEz C hr hlk rfl (Nat.le_of_ble_eq_true rfl) (Nat.le_of_ble_eq_true rfl) hS (ka_qE () rfl trivial hK hP hD hS [] (by decide) rfl [] rfl) dX7_law_18
  · skip
    rcases (show x1.toInt ≤ -1 ∨ x1.toInt = 0 ∨ 1 ≤ x1.toInt by omega) with y_1202 | y_1202 | y_1202
    · skip
      refine lv_aload_n hx hb dX7_law_0 rfl (lv_at hl 0 rfl) ?_
      refine lv_iload_n hx hb dX7_law_1 rfl (lv_at hl 1 rfl) ?_
      refine lv_iload_n hx hb dX7_law_2 rfl (lv_at hl 2 rfl) ?_
      refine ka_RV (n := 2) C (ct_X7_isOpenFor_124 l D a0 x0 x1 (by omega) (by omega)) gX7_law_X7_isOpenFor rfl (by decide +kernel) ⟨Nat.le_of_ble_eq_true rfl, Nat.le_of_ble_eq_true rfl⟩ hK hP hS hE hN [] rfl [] rfl (ci := 7) rfl rfl 0 rfl rfl hl.1 (rest := []) rfl (Nat.le_of_ble_eq_true rfl) dX7_law_3 ⟨Nat.le_of_ble_eq_true rfl, Nat.le_of_ble_eq_true rfl⟩ (fun v hv => ?_)
      subst hv
      refine ka_stk (w := [.int 0]) rfl ?_
      refine lv_if_eq (tgt := 17) hx hb dX7_law_6 (by decide) (fun _ => ?_) (fun c_ => absurd (by decide) c_)
      refine lv_iconst (v := 0) hx hb dX7_law_17 (by decide) ?_
      exact ka_rEz C hr hlk rfl (Nat.le_of_ble_eq_true rfl) (Nat.le_of_ble_eq_true rfl) hS (ka_qE () rfl trivial hK hP hD hS [] (by decide) rfl [] rfl) dX7_law_18
    · obtain rfl : x1 = 0 := (ka_eq' _ _).mpr (y_1202.trans (by decide))
      refine lv_aload_n hx hb dX7_law_0 rfl (lv_at hl 0 rfl) ?_
      refine lv_iload_n hx hb dX7_law_1 rfl (lv_at hl 1 rfl) ?_
      refine lv_iload_n hx hb dX7_law_2 rfl (lv_at hl 2 rfl) ?_
      refine ka_RV (n := 2) C (ct_X7_isOpenFor_125 l D a0 x0 (by omega)) gX7_law_X7_isOpenFor rfl (by decide +kernel) ⟨Nat.le_of_ble_eq_true rfl, Nat.le_of_ble_eq_true rfl⟩ hK hP hS hE hN [] rfl [] rfl (ci := 7) rfl rfl 0 rfl rfl hl.1 (rest := []) rfl (Nat.le_of_ble_eq_true rfl) dX7_law_3 ⟨Nat.le_of_ble_eq_true rfl, Nat.le_of_ble_eq_true rfl⟩ (fun v hv => ?_)
      subst hv
      refine ka_stk (w := [.int 0]) rfl ?_
      refine lv_if_eq (tgt := 17) hx hb dX7_law_6 (by decide) (fun _ => ?_) (fun c_ => absurd (by decide) c_)
      refine lv_iconst (v := 0) hx hb dX7_law_17 (by decide) ?_
      exact ka_rEz C hr hlk rfl (Nat.le_of_ble_eq_true rfl) (Nat.le_of_ble_eq_true rfl) hS (ka_qE () rfl trivial hK hP hD hS [] (by decide) rfl [] rfl) dX7_law_18
    · skip
      refine lv_aload_n hx hb dX7_law_0 rfl (lv_at hl 0 rfl) ?_
      refine lv_iload_n hx hb dX7_law_1 rfl (lv_at hl 1 rfl) ?_
      refine lv_iload_n hx hb dX7_law_2 rfl (lv_at hl 2 rfl) ?_
      refine ka_RV (n := 2) C (ct_X7_isOpenFor_126 l D a0 x0 x1 (by omega) (by omega)) gX7_law_X7_isOpenFor rfl (by decide +kernel) ⟨Nat.le_of_ble_eq_true rfl, Nat.le_of_ble_eq_true rfl⟩ hK hP hS hE hN [] rfl [] rfl (ci := 7) rfl rfl 0 rfl rfl hl.1 (rest := []) rfl (Nat.le_of_ble_eq_true rfl) dX7_law_3 ⟨Nat.le_of_ble_eq_true rfl, Nat.le_of_ble_eq_true rfl⟩ (fun v hv => ?_)
      subst hv
      refine ka_stk (w := [.int 0]) rfl ?_
      refine lv_if_eq (tgt := 17) hx hb dX7_law_6 (by decide) (fun _ => ?_) (fun c_ => absurd (by decide) c_)
      refine lv_iconst (v := 0) hx hb dX7_law_17 (by decide) ?_
      exact ka_rEz C hr hlk rfl (Nat.le_of_ble_eq_true rfl) (Nat.le_of_ble_eq_true rfl) hS (ka_qE () rfl trivial hK hP hD hS [] (by decide) rfl [] rfl) dX7_law_18
set_option maxHeartbeats 8000000 in
set_option maxRecDepth 100000 in
theorem lc_1 {p : Program} {l : Launch} {e : Env} {s : State} {m : MethodId} {below : List Frame} {meth : Method} {c : Code} {b : Nat} {xs : Nat → Int32} {D : va_G} {A : Nat → Prop} {H : Heap} {locs : List Loc} {ls : Array Slot} {q_1 : Nat} {q_386 : Nat} {q_387 : Nat} {q_388 : Nat} {q_389 : Nat} {q_390 : Nat} {k_391 : ClassId} {q_392 : Nat} {q_393 : Nat} {q_394 : Nat} {k_395 : ClassId} {q_396 : Nat} {q_397 : Nat} {q_398 : Nat} {q_399 : Nat} {q_400 : Nat} {q_401 : Nat} {k_402 : ClassId} {q_403 : Nat} {q_404 : Nat} {q_405 : Nat} {q_406 : Nat} {q_407 : Nat} {q_408 : Nat} {q_409 : Nat} {q_410 : Nat} {q_411 : Nat} {q_412 : Nat} {q_413 : Nat} {q_414 : Nat} {q_415 : Nat} {q_416 : Nat} {q_417 : Nat} {q_418 : Nat} {q_503 : Nat} {q_504 : Nat} {q_505 : Nat} {q_506 : Nat} {q_507 : Nat} {q_508 : Nat} {q_509 : Nat} {q_510 : Nat} {q_511 : Nat} {q_512 : Nat} {q_513 : Nat} {q_514 : Nat} {q_515 : Nat} {q_516 : Nat} {k_517 : ClassId} {k_518 : ClassId} {k_519 : ClassId} {k_520 : ClassId} {k_521 : ClassId} (C : CallFix p m c cL_law 4 s #[Value.ref b] wsL_law RL) (hr : meth.sig.returnType = ret) (hlk : meth.locks = false) (hX : va_X b 6 xs s s.heap) (hbl : b < s.heap.size) (hAe : A = fun q => s.heap.size ≤ q) (hK : va_K D vwCl [(k_391, .byte), (k_395, .object RX2), (k_402, .int), (k_517, .byte), (k_518, .boolean), (k_519, .boolean), (k_520, .boolean), (k_521, .int)] s) (hP : va_P D vwCl [(q_1, .inr (6, [.ref q_386, .ref q_387, .ref q_388, .ref q_389, .int (-1), .int (-1), .int 0, .int 3, .int 3])), (q_386, .inr (5, [.ref q_390, .int 0])), (q_390, .inl (k_391, 80, .inl (fun _ => 0))), (q_387, .inr (3, [.ref q_386, .ref q_392, .int 0, .int 0, .int 0, .int (-1), .int 3, .int 0])), (q_388, .inr (0, [.ref q_393, .ref q_394, .int 0])), (q_393, .inl (k_395, 6, .inr (.inr (.inr (.inr (va_up (va_up (va_up (va_up (va_up (va_up (fun _ => none) 0 (some q_396)) 1 (some q_397)) 2 (some q_398)) 3 (some q_399)) 4 (some q_400)) 5 (some q_401))))))), (q_394, .inl (k_402, 6, .inl (fun _ => 0))), (q_396, .inr (2, [.ref q_403, .ref q_404, .int 0, .null])), (q_397, .inr (2, [.ref q_405, .ref q_406, .int 0, .null])), (q_398, .inr (2, [.ref q_407, .ref q_408, .int 0, .null])), (q_399, .inr (2, [.ref q_409, .ref q_410, .int 0, .null])), (q_400, .inr (2, [.ref q_411, .ref q_412, .int 0, .null])), (q_401, .inr (2, [.ref q_413, .ref q_414, .int 0, .null])), (q_389, .inr (4, [.ref q_415, .ref q_416, .ref q_417, .int 0, .int 0, .int 0, .int 0, .int 0, .int 0])), (q_418, .inr (7, [.ref q_503, .int 0, .ref q_504, .ref q_505, .ref q_506, .ref q_507, .ref q_508, .ref q_509, .ref q_510, .int (-1), .int 0, .int 3, .int 3, .int 0, .int 0, .int 0, .ref q_511, .ref q_512, .ref q_513, .ref q_514, .ref q_515, .ref q_516, .int 0, .int 0, .int 0, .int 0, .int (-1), .int 0])), (q_503, .inl (k_517, 80, .inl (fun _ => 0))), (q_507, .inl (k_518, 6, .inl (fun _ => 0))), (q_508, .inl (k_519, 6, .inl (fun _ => 0))), (q_509, .inl (k_520, 36, .inl (fun _ => 0))), (q_510, .inl (k_521, 6, .inl (fun _ => 0)))] H) (hD : va_D A [(q_1, .inr (6, [.ref q_386, .ref q_387, .ref q_388, .ref q_389, .int (-1), .int (-1), .int 0, .int 3, .int 3])), (q_386, .inr (5, [.ref q_390, .int 0])), (q_390, .inl (k_391, 80, .inl (fun _ => 0))), (q_387, .inr (3, [.ref q_386, .ref q_392, .int 0, .int 0, .int 0, .int (-1), .int 3, .int 0])), (q_388, .inr (0, [.ref q_393, .ref q_394, .int 0])), (q_393, .inl (k_395, 6, .inr (.inr (.inr (.inr (va_up (va_up (va_up (va_up (va_up (va_up (fun _ => none) 0 (some q_396)) 1 (some q_397)) 2 (some q_398)) 3 (some q_399)) 4 (some q_400)) 5 (some q_401))))))), (q_394, .inl (k_402, 6, .inl (fun _ => 0))), (q_396, .inr (2, [.ref q_403, .ref q_404, .int 0, .null])), (q_397, .inr (2, [.ref q_405, .ref q_406, .int 0, .null])), (q_398, .inr (2, [.ref q_407, .ref q_408, .int 0, .null])), (q_399, .inr (2, [.ref q_409, .ref q_410, .int 0, .null])), (q_400, .inr (2, [.ref q_411, .ref q_412, .int 0, .null])), (q_401, .inr (2, [.ref q_413, .ref q_414, .int 0, .null])), (q_389, .inr (4, [.ref q_415, .ref q_416, .ref q_417, .int 0, .int 0, .int 0, .int 0, .int 0, .int 0])), (q_418, .inr (7, [.ref q_503, .int 0, .ref q_504, .ref q_505, .ref q_506, .ref q_507, .ref q_508, .ref q_509, .ref q_510, .int (-1), .int 0, .int 3, .int 3, .int 0, .int 0, .int 0, .ref q_511, .ref q_512, .ref q_513, .ref q_514, .ref q_515, .ref q_516, .int 0, .int 0, .int 0, .int 0, .int (-1), .int 0])), (q_503, .inl (k_517, 80, .inl (fun _ => 0))), (q_507, .inl (k_518, 6, .inl (fun _ => 0))), (q_508, .inl (k_519, 6, .inl (fun _ => 0))), (q_509, .inl (k_520, 36, .inl (fun _ => 0))), (q_510, .inl (k_521, 6, .inl (fun _ => 0)))]) (hS : va_S A s.heap H locs) (hE : ka_SE A s s.heap) (hN : ka_NW s) (hl : lv_has ls 4 [(3, .int 0), (2, .ref q_418), (1, .ref q_1), (0, .ref b)]) : W p l e room_1 s m #[Value.ref b] below meth c H locs 45 6605 (lw_Z below #[Value.ref b] s) (F0 m 195 ls []) := by
  obtain ⟨hx, hb, hml, hown, hts⟩ := id C
  have hA : ∀ q, s.heap.size ≤ q → A q := fun q h => by rw [hAe]; exact h
  have hbA : ¬ A b := by rw [hAe]; exact Nat.not_le.mpr hbl
  obtain ⟨z0, ez0⟩ : ∃ y : Int32, y = xs 0 := ⟨_, rfl⟩
  have rz0 := ka_rng z0
  obtain ⟨z1, ez1⟩ : ∃ y : Int32, y = xs 1 := ⟨_, rfl⟩
  have rz1 := ka_rng z1
  obtain ⟨z2, ez2⟩ : ∃ y : Int32, y = xs 2 := ⟨_, rfl⟩
  have rz2 := ka_rng z2
  obtain ⟨z3, ez3⟩ : ∃ y : Int32, y = xs 3 := ⟨_, rfl⟩
  have rz3 := ka_rng z3
  obtain ⟨z4, ez4⟩ : ∃ y : Int32, y = xs 4 := ⟨_, rfl⟩
  have rz4 := ka_rng z4
  obtain ⟨z5, ez5⟩ : ∃ y : Int32, y = xs 5 := ⟨_, rfl⟩
  have rz5 := ka_rng z5
  refine lv_aload_n hx hb dL_law_195 rfl (lv_at hl 2 rfl) ?_
  refine lv_aload_n hx hb dL_law_196 rfl (lv_at hl 3 rfl) ?_
  refine lv_iload_n hx hb dL_law_197 rfl (lv_at hl 0 rfl) ?_
  refine lv_iconst (v := 1) hx hb dL_law_198 (by decide) ?_
  refine lv_iadd hx hb dL_law_199 ?_
  refine ka_top (w := .int 1) (congrArg Value.int (by decide)) ?_
  refine va_sld hx hb hX hbl hbA hS (ka_in (by decide) (by decide)) dL_law_200 ?_
  refine ka_top (w := .int z1) (congrArg Value.int ez1.symm) ?_
  refine lv_aload_n hx hb dL_law_201 rfl (lv_at hl 3 rfl) ?_
  refine lv_iload_n hx hb dL_law_202 rfl (lv_at hl 0 rfl) ?_
  refine lv_iconst (v := 2) hx hb dL_law_203 (by decide) ?_
  refine lv_iadd hx hb dL_law_204 ?_
  refine ka_top (w := .int 2) (congrArg Value.int (by decide)) ?_
  refine va_sld hx hb hX hbl hbA hS (ka_in (by decide) (by decide)) dL_law_205 ?_
  refine ka_top (w := .int z2) (congrArg Value.int ez2.symm) ?_
  refine ka_EV (n := 2) (wr := [(q_390, .inl (k_391, 80, .inl (fun _ => 0))), (q_394, .inl (k_402, 6, .inl (fun _ => 0))), (q_396, .inr (2, [.ref q_403, .ref q_404, .int 0, .null])), (q_397, .inr (2, [.ref q_405, .ref q_406, .int 0, .null])), (q_398, .inr (2, [.ref q_407, .ref q_408, .int 0, .null])), (q_399, .inr (2, [.ref q_409, .ref q_410, .int 0, .null])), (q_400, .inr (2, [.ref q_411, .ref q_412, .int 0, .null])), (q_401, .inr (2, [.ref q_413, .ref q_414, .int 0, .null])), (q_389, .inr (4, [.ref q_415, .ref q_416, .ref q_417, .int 0, .int 0, .int 0, .int 0, .int 0, .int 0])), (q_418, .inr (7, [.ref q_503, .int 0, .ref q_504, .ref q_505, .ref q_506, .ref q_507, .ref q_508, .ref q_509, .ref q_510, .int (-1), .int 0, .int 3, .int 3, .int 0, .int 0, .int 0, .ref q_511, .ref q_512, .ref q_513, .ref q_514, .ref q_515, .ref q_516, .int 0, .int 0, .int 0, .int 0, .int (-1), .int 0])), (q_503, .inl (k_517, 80, .inl (fun _ => 0))), (q_507, .inl (k_518, 6, .inl (fun _ => 0))), (q_508, .inl (k_519, 6, .inl (fun _ => 0))), (q_509, .inl (k_520, 36, .inl (fun _ => 0))), (q_510, .inl (k_521, 6, .inl (fun _ => 0)))]) C (ct_X6_law_72 l D q_1 z1 z2 q_386 q_387 q_388 q_389 q_390 q_392 q_393 q_394 k_395 q_396 q_397 q_398 q_399 q_400 q_401) gL_law_X6_law rfl (by decide +kernel) ⟨Nat.le_of_ble_eq_true rfl, Nat.le_of_ble_eq_true rfl⟩ hK hP hD hS hA hE hN [0, 1, 3, 4, 5] rfl (by decide) [2, 6, 7, 8, 9, 10, 11, 12, 13, 14, 15, 16, 17, 18, 19] rfl (by decide) (by decide) [1] rfl (ci := 6) rfl rfl 0 rfl rfl hl.1 (rest := []) rfl (Nat.le_of_ble_eq_true rfl) dL_law_206 ⟨Nat.le_of_ble_eq_true rfl, Nat.le_of_ble_eq_true rfl⟩ (fun u H locs _ hP hD hK hS => ?_)
  have hP : va_P D vwCl [(q_390, .inl (k_391, 80, .inl (fun _ => 0))), (q_394, .inl (k_402, 6, .inl (fun _ => 0))), (q_396, .inr (2, [.ref q_403, .ref q_404, .int 0, .null])), (q_397, .inr (2, [.ref q_405, .ref q_406, .int 0, .null])), (q_398, .inr (2, [.ref q_407, .ref q_408, .int 0, .null])), (q_399, .inr (2, [.ref q_409, .ref q_410, .int 0, .null])), (q_400, .inr (2, [.ref q_411, .ref q_412, .int 0, .null])), (q_401, .inr (2, [.ref q_413, .ref q_414, .int 0, .null])), (q_389, .inr (4, [.ref q_415, .ref q_416, .ref q_417, .int 0, .int 0, .int 0, .int 0, .int 0, .int 0])), (q_418, .inr (7, [.ref q_503, .int 0, .ref q_504, .ref q_505, .ref q_506, .ref q_507, .ref q_508, .ref q_509, .ref q_510, .int (-1), .int 0, .int 3, .int 3, .int 0, .int 0, .int 0, .ref q_511, .ref q_512, .ref q_513, .ref q_514, .ref q_515, .ref q_516, .int 0, .int 0, .int 0, .int 0, .int (-1), .int 0])), (q_503, .inl (k_517, 80, .inl (fun _ => 0))), (q_507, .inl (k_518, 6, .inl (fun _ => 0))), (q_508, .inl (k_519, 6, .inl (fun _ => 0))), (q_509, .inl (k_520, 36, .inl (fun _ => 0))), (q_510, .inl (k_521, 6, .inl (fun _ => 0)))] H := hP
  have hD : va_D A [(q_390, .inl (k_391, 80, .inl (fun _ => 0))), (q_394, .inl (k_402, 6, .inl (fun _ => 0))), (q_396, .inr (2, [.ref q_403, .ref q_404, .int 0, .null])), (q_397, .inr (2, [.ref q_405, .ref q_406, .int 0, .null])), (q_398, .inr (2, [.ref q_407, .ref q_408, .int 0, .null])), (q_399, .inr (2, [.ref q_409, .ref q_410, .int 0, .null])), (q_400, .inr (2, [.ref q_411, .ref q_412, .int 0, .null])), (q_401, .inr (2, [.ref q_413, .ref q_414, .int 0, .null])), (q_389, .inr (4, [.ref q_415, .ref q_416, .ref q_417, .int 0, .int 0, .int 0, .int 0, .int 0, .int 0])), (q_418, .inr (7, [.ref q_503, .int 0, .ref q_504, .ref q_505, .ref q_506, .ref q_507, .ref q_508, .ref q_509, .ref q_510, .int (-1), .int 0, .int 3, .int 3, .int 0, .int 0, .int 0, .ref q_511, .ref q_512, .ref q_513, .ref q_514, .ref q_515, .ref q_516, .int 0, .int 0, .int 0, .int 0, .int (-1), .int 0])), (q_503, .inl (k_517, 80, .inl (fun _ => 0))), (q_507, .inl (k_518, 6, .inl (fun _ => 0))), (q_508, .inl (k_519, 6, .inl (fun _ => 0))), (q_509, .inl (k_520, 36, .inl (fun _ => 0))), (q_510, .inl (k_521, 6, .inl (fun _ => 0)))] := hD
  have hK : va_K D vwCl [(k_391, .byte), (k_395, .object RX2), (k_402, .int), (k_517, .byte), (k_518, .boolean), (k_519, .boolean), (k_520, .boolean), (k_521, .int)] s := hK
  refine ka_stk (w := [.int 0]) rfl ?_
  refine lv_aload_n hx hb dL_law_209 rfl (lv_at hl 1 rfl) ?_
  refine lv_aload_n hx hb dL_law_210 rfl (lv_at hl 3 rfl) ?_
  refine lv_iload_n hx hb dL_law_211 rfl (lv_at hl 0 rfl) ?_
  refine lv_iconst (v := 1) hx hb dL_law_212 (by decide) ?_
  refine lv_iadd hx hb dL_law_213 ?_
  refine ka_top (w := .int 1) (congrArg Value.int (by decide)) ?_
  refine va_sld hx hb hX hbl hbA hS (ka_in (by decide) (by decide)) dL_law_214 ?_
  refine ka_top (w := .int z1) (congrArg Value.int ez1.symm) ?_
  refine lv_aload_n hx hb dL_law_215 rfl (lv_at hl 3 rfl) ?_
  refine lv_iload_n hx hb dL_law_216 rfl (lv_at hl 0 rfl) ?_
  refine lv_iconst (v := 2) hx hb dL_law_217 (by decide) ?_
  refine lv_iadd hx hb dL_law_218 ?_
  refine ka_top (w := .int 2) (congrArg Value.int (by decide)) ?_
  refine va_sld hx hb hX hbl hbA hS (ka_in (by decide) (by decide)) dL_law_219 ?_
  refine ka_top (w := .int z2) (congrArg Value.int ez2.symm) ?_
  refine ka_EV (n := 2) (wr := [(q_390, .inl (k_391, 80, .inl (fun _ => 0))), (q_394, .inl (k_402, 6, .inl (fun _ => 0))), (q_396, .inr (2, [.ref q_403, .ref q_404, .int 0, .null])), (q_397, .inr (2, [.ref q_405, .ref q_406, .int 0, .null])), (q_398, .inr (2, [.ref q_407, .ref q_408, .int 0, .null])), (q_399, .inr (2, [.ref q_409, .ref q_410, .int 0, .null])), (q_400, .inr (2, [.ref q_411, .ref q_412, .int 0, .null])), (q_401, .inr (2, [.ref q_413, .ref q_414, .int 0, .null])), (q_389, .inr (4, [.ref q_415, .ref q_416, .ref q_417, .int 0, .int 0, .int 0, .int 0, .int 0, .int 0])), (q_503, .inl (k_517, 80, .inl (fun _ => 0))), (q_507, .inl (k_518, 6, .inl (fun _ => 0))), (q_509, .inl (k_520, 36, .inl (fun _ => 0))), (q_510, .inl (k_521, 6, .inl (fun _ => 0)))]) C (ct_X7_law_127 l D q_418 z1 z2 q_503 q_504 q_505 q_506 q_507 q_508 q_509 q_510 q_511 q_512 q_513 q_514 q_515 q_516 k_519) gL_law_X7_law rfl (by decide +kernel) ⟨Nat.le_of_ble_eq_true rfl, Nat.le_of_ble_eq_true rfl⟩ hK hP hD hS hA hE hN [9, 12] rfl (by decide) [0, 1, 2, 3, 4, 5, 6, 7, 8, 10, 11, 13, 14] rfl (by decide) (by decide) [5] rfl (ci := 7) rfl rfl 9 rfl rfl hl.1 (rest := [.int 0]) rfl (Nat.le_of_ble_eq_true rfl) dL_law_220 ⟨Nat.le_of_ble_eq_true rfl, Nat.le_of_ble_eq_true rfl⟩ (fun u H locs _ hP hD hK hS => ?_)
  have hP : va_P D vwCl [(q_390, .inl (k_391, 80, .inl (fun _ => 0))), (q_394, .inl (k_402, 6, .inl (fun _ => 0))), (q_396, .inr (2, [.ref q_403, .ref q_404, .int 0, .null])), (q_397, .inr (2, [.ref q_405, .ref q_406, .int 0, .null])), (q_398, .inr (2, [.ref q_407, .ref q_408, .int 0, .null])), (q_399, .inr (2, [.ref q_409, .ref q_410, .int 0, .null])), (q_400, .inr (2, [.ref q_411, .ref q_412, .int 0, .null])), (q_401, .inr (2, [.ref q_413, .ref q_414, .int 0, .null])), (q_389, .inr (4, [.ref q_415, .ref q_416, .ref q_417, .int 0, .int 0, .int 0, .int 0, .int 0, .int 0])), (q_503, .inl (k_517, 80, .inl (fun _ => 0))), (q_507, .inl (k_518, 6, .inl (fun _ => 0))), (q_509, .inl (k_520, 36, .inl (fun _ => 0))), (q_510, .inl (k_521, 6, .inl (fun _ => 0)))] H := hP
  have hD : va_D A [(q_390, .inl (k_391, 80, .inl (fun _ => 0))), (q_394, .inl (k_402, 6, .inl (fun _ => 0))), (q_396, .inr (2, [.ref q_403, .ref q_404, .int 0, .null])), (q_397, .inr (2, [.ref q_405, .ref q_406, .int 0, .null])), (q_398, .inr (2, [.ref q_407, .ref q_408, .int 0, .null])), (q_399, .inr (2, [.ref q_409, .ref q_410, .int 0, .null])), (q_400, .inr (2, [.ref q_411, .ref q_412, .int 0, .null])), (q_401, .inr (2, [.ref q_413, .ref q_414, .int 0, .null])), (q_389, .inr (4, [.ref q_415, .ref q_416, .ref q_417, .int 0, .int 0, .int 0, .int 0, .int 0, .int 0])), (q_503, .inl (k_517, 80, .inl (fun _ => 0))), (q_507, .inl (k_518, 6, .inl (fun _ => 0))), (q_509, .inl (k_520, 36, .inl (fun _ => 0))), (q_510, .inl (k_521, 6, .inl (fun _ => 0)))] := hD
  have hK : va_K D vwCl [(k_391, .byte), (k_395, .object RX2), (k_402, .int), (k_517, .byte), (k_518, .boolean), (k_519, .boolean), (k_520, .boolean), (k_521, .int)] s := hK
  refine ka_stk (w := [.int 0, .int 0]) rfl ?_
  refine lv_icmp_eq (tgt := 725) hx hb dL_law_223 (by decide) (fun _ => ?_) (fun c_ => absurd (by decide) c_)
  refine lv_iinc (v := 6) (lv' := [(3, .int 6), (2, .ref q_418), (1, .ref q_1), (0, .ref b)]) hx hb dL_law_725 hl (k := 0) rfl (by decide) (by decide) rfl (fun ls hl => ?_)
  refine lv_goto (tgt := 18) hx hb dL_law_728 (by decide) ?_
  refine lv_iload_n hx hb dL_law_18 rfl (lv_at hl 0 rfl) ?_
  refine lv_aload_n hx hb dL_law_19 rfl (lv_at hl 3 rfl) ?_
  refine va_slen hx hb hX hbl hbA hS dL_law_20 ?_
  refine ka_top (w := .int 6) (congrArg Value.int rfl) ?_
  refine lv_bipush (v := 6) hx hb dL_law_21 (by decide) ?_
  refine lv_isub hx hb dL_law_23 ?_
  refine ka_top (w := .int 0) (congrArg Value.int (by decide)) ?_
  refine lv_icmp_gt (tgt := 731) hx hb dL_law_24 (by decide) (fun _ => ?_) (fun c_ => absurd (by decide) c_)
  refine lv_iconst (v := 1) hx hb dL_law_731 (by decide) ?_
  refine va_forget (fun q hq => by have h9 := hS.2.2 q hq; rw [hAe] at h9; exact h9) ?_
  refine W.widen (k := 600000) (n := 7302250) (Nat.le_of_ble_eq_true rfl) (Nat.le_of_ble_eq_true rfl) ?_
  exact lw_ret hx hb hr hlk dL_law_732
