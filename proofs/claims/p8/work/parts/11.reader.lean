theorem lq_92 : Cond.fieldLink RX3 111 "AskedBack$Reader" "SIGNS" "[C" ∈ wsX3_signOf := by decide +kernel
set_option maxHeartbeats 4000000 in
set_option maxRecDepth 100000 in
theorem cg_X3_signOf_42 (l : Launch) (D : va_G) (F : Nat → Prop) : ka_R l D F yX3_signOf wsX3_signOf 0 0 [.int 0] [] [] (fun v => v = some (.int 124)) := by
  refine ka_R_of (cc := cX3_signOf) (maxL := 1) (ret := (some .int)) (by decide) rfl (Nat.le_of_ble_eq_true rfl) ?_
  intro p e s m below meth c ls C hr hlk hP hK hE hN hl
  have hS : va_S (fun _ => False) s.heap s.heap [] := va_S.rf
  have C : CallFix p m c cX3_signOf 1 s [.int 0].toArray wsX3_signOf RX3 := C
  obtain ⟨hx, hb, hml, hown, hts⟩ := id C
  have hl : lv_has ls 1 [(0, .int 0)] := hl
  obtain ⟨⟨ts_1, ts_2, hZ1, hT1, hZ2, hT2⟩, hFP⟩ := id hE
  refine lv_iload_n hx hb dX3_signOf_0 rfl (lv_at hl 0 rfl) ?_
  refine lv_if_lt (tgt := 20) hx hb dX3_signOf_1 (by decide) (fun c_ => absurd c_ (by decide)) (fun _ => ?_)
  refine lv_iload_n hx hb dX3_signOf_4 rfl (lv_at hl 0 rfl) ?_
  refine va_gets hx hb hZ1 hS hown (hts _ lq_92) (fun _ h9 => h9) dX3_signOf_5 ?_
  refine va_tlen hx hb hT1 hS (v := 3) (by decide) dX3_signOf_8 ?_
  refine lv_icmp_ge (tgt := 20) hx hb dX3_signOf_9 (by decide) (fun c_ => absurd c_ (by decide)) (fun _ => ?_)
  refine va_gets hx hb hZ1 hS hown (hts _ lq_92) (fun _ h9 => h9) dX3_signOf_12 ?_
  refine lv_iload_n hx hb dX3_signOf_15 rfl (lv_at hl 0 rfl) ?_
  refine va_tc hx hb hT1 hS (ka_in (by decide) (by decide)) (v := .int 124) rfl dX3_signOf_16 ?_
  refine lv_goto (tgt := 22) hx hb dX3_signOf_17 (by decide) ?_
  exact ka_rRi C hr hlk rfl dX3_signOf_22
set_option maxHeartbeats 4000000 in
set_option maxRecDepth 100000 in
theorem cg_X3_signOf_43 (l : Launch) (D : va_G) (F : Nat → Prop) : ka_R l D F yX3_signOf wsX3_signOf 0 0 [.int 1] [] [] (fun v => v = some (.int 94)) := by
  refine ka_R_of (cc := cX3_signOf) (maxL := 1) (ret := (some .int)) (by decide) rfl (Nat.le_of_ble_eq_true rfl) ?_
  intro p e s m below meth c ls C hr hlk hP hK hE hN hl
  have hS : va_S (fun _ => False) s.heap s.heap [] := va_S.rf
  have C : CallFix p m c cX3_signOf 1 s [.int 1].toArray wsX3_signOf RX3 := C
  obtain ⟨hx, hb, hml, hown, hts⟩ := id C
  have hl : lv_has ls 1 [(0, .int 1)] := hl
  obtain ⟨⟨ts_1, ts_2, hZ1, hT1, hZ2, hT2⟩, hFP⟩ := id hE
  refine lv_iload_n hx hb dX3_signOf_0 rfl (lv_at hl 0 rfl) ?_
  refine lv_if_lt (tgt := 20) hx hb dX3_signOf_1 (by decide) (fun c_ => absurd c_ (by decide)) (fun _ => ?_)
  refine lv_iload_n hx hb dX3_signOf_4 rfl (lv_at hl 0 rfl) ?_
  refine va_gets hx hb hZ1 hS hown (hts _ lq_92) (fun _ h9 => h9) dX3_signOf_5 ?_
  refine va_tlen hx hb hT1 hS (v := 3) (by decide) dX3_signOf_8 ?_
  refine lv_icmp_ge (tgt := 20) hx hb dX3_signOf_9 (by decide) (fun c_ => absurd c_ (by decide)) (fun _ => ?_)
  refine va_gets hx hb hZ1 hS hown (hts _ lq_92) (fun _ h9 => h9) dX3_signOf_12 ?_
  refine lv_iload_n hx hb dX3_signOf_15 rfl (lv_at hl 0 rfl) ?_
  refine va_tc hx hb hT1 hS (ka_in (by decide) (by decide)) (v := .int 94) rfl dX3_signOf_16 ?_
  refine lv_goto (tgt := 22) hx hb dX3_signOf_17 (by decide) ?_
  exact ka_rRi C hr hlk rfl dX3_signOf_22
set_option maxHeartbeats 4000000 in
set_option maxRecDepth 100000 in
theorem cg_X3_signOf_44 (l : Launch) (D : va_G) (F : Nat → Prop) : ka_R l D F yX3_signOf wsX3_signOf 0 0 [.int 2] [] [] (fun v => v = some (.int 38)) := by
  refine ka_R_of (cc := cX3_signOf) (maxL := 1) (ret := (some .int)) (by decide) rfl (Nat.le_of_ble_eq_true rfl) ?_
  intro p e s m below meth c ls C hr hlk hP hK hE hN hl
  have hS : va_S (fun _ => False) s.heap s.heap [] := va_S.rf
  have C : CallFix p m c cX3_signOf 1 s [.int 2].toArray wsX3_signOf RX3 := C
  obtain ⟨hx, hb, hml, hown, hts⟩ := id C
  have hl : lv_has ls 1 [(0, .int 2)] := hl
  obtain ⟨⟨ts_1, ts_2, hZ1, hT1, hZ2, hT2⟩, hFP⟩ := id hE
  refine lv_iload_n hx hb dX3_signOf_0 rfl (lv_at hl 0 rfl) ?_
  refine lv_if_lt (tgt := 20) hx hb dX3_signOf_1 (by decide) (fun c_ => absurd c_ (by decide)) (fun _ => ?_)
  refine lv_iload_n hx hb dX3_signOf_4 rfl (lv_at hl 0 rfl) ?_
  refine va_gets hx hb hZ1 hS hown (hts _ lq_92) (fun _ h9 => h9) dX3_signOf_5 ?_
  refine va_tlen hx hb hT1 hS (v := 3) (by decide) dX3_signOf_8 ?_
  refine lv_icmp_ge (tgt := 20) hx hb dX3_signOf_9 (by decide) (fun c_ => absurd c_ (by decide)) (fun _ => ?_)
  refine va_gets hx hb hZ1 hS hown (hts _ lq_92) (fun _ h9 => h9) dX3_signOf_12 ?_
  refine lv_iload_n hx hb dX3_signOf_15 rfl (lv_at hl 0 rfl) ?_
  refine va_tc hx hb hT1 hS (ka_in (by decide) (by decide)) (v := .int 38) rfl dX3_signOf_16 ?_
  refine lv_goto (tgt := 22) hx hb dX3_signOf_17 (by decide) ?_
  exact ka_rRi C hr hlk rfl dX3_signOf_22
theorem lq_93 : ∀ w ∈ wsX30, w ∈ wsX3_fail := by decide +kernel
theorem lq_94 : Cond.fieldLink RX3 25 "AskedBack$Reader" "faultPlace" "I" ∈ wsX3_fail := by decide +kernel
theorem lq_95 : Cond.fieldLink RX3 19 "AskedBack$Reader" "end" "I" ∈ wsX3_fail := by decide +kernel
theorem lq_96 : Cond.fieldLink RX3 22 "AskedBack$Reader" "place" "I" ∈ wsX3_fail := by decide +kernel
set_option maxHeartbeats 4000000 in
set_option maxRecDepth 100000 in
theorem cg_X3_fail_45 (l : Launch) (D : va_G) (F : Nat → Prop) (a0 : Nat) (a1 : Nat) (a2 : Nat) (x0 : Int32) (x1 : Int32) (x2 : Int32) (x3 : Int32) (x4 : Int32) (x5 : Int32) (hx0 : 0 ≤ x0.toInt ∧ x0.toInt ≤ 120) : ka_E l D F yX3_fail wsX3_fail 0 0 0 0 [.ref a0] [(a0, .inr (3, [.ref a1, .ref a2, .int x0, .int x1, .int x2, .int x3, .int x4, .int x5]))] [] (fun (u : (Int32)) => none) (fun (u : (Int32)) => True) (fun (u : (Int32)) => [(a0, .inr (3, [.ref a1, .ref a2, .int x0, .int x1, .int x1, .int u, .int x4, .int x5]))]) (fun (u : (Int32)) => []) := by
  refine ka_E_of (cc := cX3_fail) (maxL := 1) (ret := none) (by decide) rfl (Nat.le_of_ble_eq_true rfl) ?_
  intro p e s m below meth c ls A C hr hlk hin hP hK hD hS hA hE hN hl
  have C : CallFix p m c cX3_fail 1 s [.ref a0].toArray wsX3_fail RX3 := C
  obtain ⟨hx, hb, hml, hown, hts⟩ := id C
  have hl : lv_has ls 1 [(0, .ref a0)] := hl
  have rx0 := ka_rng x0
  have rx1 := ka_rng x1
  have rx2 := ka_rng x2
  have rx3 := ka_rng x3
  have rx4 := ka_rng x4
  have rx5 := ka_rng x5
  refine lv_aload_n hx hb dX3_fail_0 rfl (lv_at hl 0 rfl) ?_
  refine ka_get C lq_93 rfl hK hP 0 rfl 5 (by decide) lq_94 rfl dX3_fail_1 ?_
  refine lv_iconst (v := (-1)) hx hb dX3_fail_4 (by decide) ?_
  refine lv_icmp_ne (tgt := 16) hx hb dX3_fail_5 (by decide) (fun c_4001 => ?_) (fun c_4001 => ?_)
  · have c_4001 : ¬ x3.toInt = -1 := by rw [ka_eq', show ((-1 : Int32)).toInt = -1 from by decide] at c_4001; exact c_4001
    refine lv_aload_n hx hb dX3_fail_16 rfl (lv_at hl 0 rfl) ?_
    refine lv_aload_n hx hb dX3_fail_17 rfl (lv_at hl 0 rfl) ?_
    refine ka_get C lq_93 rfl hK hP 0 rfl 3 (by decide) lq_95 rfl dX3_fail_18 ?_
    refine ka_put C lq_93 tyX3 tyX3_ok nmX3 rfl hK hP hD hS 0 rfl 4 (by decide) lq_96 rfl rfl rfl (Nat.le_of_ble_eq_true rfl) dX3_fail_21 (fun H locs hP hD hS => ?_)
    have hP : va_P D vwCl [(a0, .inr (3, [.ref a1, .ref a2, .int x0, .int x1, .int x1, .int x3, .int x4, .int x5]))] H := hP
    have hD : va_D A [(a0, .inr (3, [.ref a1, .ref a2, .int x0, .int x1, .int x1, .int x3, .int x4, .int x5]))] := hD
    exact ka_rEv C hr hlk (Nat.le_of_ble_eq_true rfl) (Nat.le_of_ble_eq_true rfl) hS (ka_qE x3 rfl trivial hK hP hD hS [0] (by decide) rfl [] rfl) dX3_fail_24
  · have c_4001 : x3.toInt = -1 := by rw [ka_eq', show ((-1 : Int32)).toInt = -1 from by decide] at c_4001; exact c_4001
    refine lv_aload_n hx hb dX3_fail_8 rfl (lv_at hl 0 rfl) ?_
    refine lv_aload_n hx hb dX3_fail_9 rfl (lv_at hl 0 rfl) ?_
    refine ka_get C lq_93 rfl hK hP 0 rfl 4 (by decide) lq_96 rfl dX3_fail_10 ?_
    refine ka_put C lq_93 tyX3 tyX3_ok nmX3 rfl hK hP hD hS 0 rfl 5 (by decide) lq_94 rfl rfl rfl (Nat.le_of_ble_eq_true rfl) dX3_fail_13 (fun H locs hP hD hS => ?_)
    have hP : va_P D vwCl [(a0, .inr (3, [.ref a1, .ref a2, .int x0, .int x1, .int x2, .int x2, .int x4, .int x5]))] H := hP
    have hD : va_D A [(a0, .inr (3, [.ref a1, .ref a2, .int x0, .int x1, .int x2, .int x2, .int x4, .int x5]))] := hD
    refine lv_aload_n hx hb dX3_fail_16 rfl (lv_at hl 0 rfl) ?_
    refine lv_aload_n hx hb dX3_fail_17 rfl (lv_at hl 0 rfl) ?_
    refine ka_get C lq_93 rfl hK hP 0 rfl 3 (by decide) lq_95 rfl dX3_fail_18 ?_
    refine ka_put C lq_93 tyX3 tyX3_ok nmX3 rfl hK hP hD hS 0 rfl 4 (by decide) lq_96 rfl rfl rfl (Nat.le_of_ble_eq_true rfl) dX3_fail_21 (fun H locs hP hD hS => ?_)
    have hP : va_P D vwCl [(a0, .inr (3, [.ref a1, .ref a2, .int x0, .int x1, .int x1, .int x2, .int x4, .int x5]))] H := hP
    have hD : va_D A [(a0, .inr (3, [.ref a1, .ref a2, .int x0, .int x1, .int x1, .int x2, .int x4, .int x5]))] := hD
    exact ka_rEv C hr hlk (Nat.le_of_ble_eq_true rfl) (Nat.le_of_ble_eq_true rfl) hS (ka_qE x2 rfl trivial hK hP hD hS [0] (by decide) rfl [] rfl) dX3_fail_24
set_option maxHeartbeats 4000000 in
set_option maxRecDepth 100000 in
theorem cg_X5_byteAt_46 (l : Launch) (D : va_G) (F : Nat → Prop) (a0 : Nat) (x0 : Int32) (a1 : Nat) (x1 : Int32) (k0 : ClassId) (f0 : Nat → Int32) (hx0 : -2147483636 ≤ x0.toInt ∧ x0.toInt ≤ 2147483634) (hx1 : 0 ≤ x1.toInt ∧ x1.toInt ≤ 80) (hf0 : sb_Fit f0) : ka_R l D F yX5_byteAt wsX5_byteAt 0 0 [.ref a0, .int x0] [(a0, .inr (5, [.ref a1, .int x1])), (a1, .inl (k0, 80, .inl f0))] [(k0, .byte)] (fun v => ∃ x : Int32, v = some (.int x)) := by
  refine ka_R_of (cc := cX5_byteAt) (maxL := 2) (ret := (some .int)) (by decide) rfl (Nat.le_of_ble_eq_true rfl) ?_
  intro p e s m below meth c ls C hr hlk hP hK hE hN hl
  have hS : va_S (fun _ => False) s.heap s.heap [] := va_S.rf
  have C : CallFix p m c cX5_byteAt 2 s [.ref a0, .int x0].toArray wsX5_byteAt RX5 := C
  obtain ⟨hx, hb, hml, hown, hts⟩ := id C
  have hl : lv_has ls 2 [(0, .ref a0), (1, .int x0)] := hl
  have rx0 := ka_rng x0
  have rx1 := ka_rng x1
  refine lv_iload_n hx hb dX5_byteAt_0 rfl (lv_at hl 1 rfl) ?_
  refine lv_if_lt (tgt := 34) hx hb dX5_byteAt_1 (by decide) (fun c_4087 => ?_) (fun c_4087 => ?_)
  · have c_4087 : x0.toInt < 0 := by rw [ka_lt', show ((0 : Int32)).toInt = 0 from by decide] at c_4087; exact c_4087
    refine lv_iconst (v := (-1)) hx hb dX5_byteAt_34 (by decide) ?_
    exact ka_rRi C hr hlk ⟨_, rfl⟩ dX5_byteAt_35
  · have c_4087 : ¬ x0.toInt < 0 := by rw [ka_lt', show ((0 : Int32)).toInt = 0 from by decide] at c_4087; exact c_4087
    refine lv_iload_n hx hb dX5_byteAt_4 rfl (lv_at hl 1 rfl) ?_
    refine lv_aload_n hx hb dX5_byteAt_5 rfl (lv_at hl 0 rfl) ?_
    refine ka_get C lq_5 rfl hK hP 0 rfl 1 (by decide) lq_6 rfl dX5_byteAt_6 ?_
    refine lv_icmp_ge (tgt := 34) hx hb dX5_byteAt_9 (by decide) (fun c_4088 => ?_) (fun c_4088 => ?_)
    · have c_4088 : x1.toInt ≤ x0.toInt := by rw [ka_le'] at c_4088; exact c_4088
      refine lv_iconst (v := (-1)) hx hb dX5_byteAt_34 (by decide) ?_
      exact ka_rRi C hr hlk ⟨_, rfl⟩ dX5_byteAt_35
    · have c_4088 : ¬ x1.toInt ≤ x0.toInt := by rw [ka_le'] at c_4088; exact c_4088
      refine lv_iload_n hx hb dX5_byteAt_12 rfl (lv_at hl 1 rfl) ?_
      refine lv_aload_n hx hb dX5_byteAt_13 rfl (lv_at hl 0 rfl) ?_
      refine ka_get C lq_5 rfl hK hP 0 rfl 0 (by decide) lq_7 rfl dX5_byteAt_14 ?_
      refine va_alen hx hb hK hP 1 0 rfl (ty := .byte) rfl (v := 80) rfl dX5_byteAt_17 ?_
      refine lv_icmp_ge (tgt := 34) hx hb dX5_byteAt_18 (by decide) (fun c_ => absurd c_ (by rw [ka_le', show ((80 : Int32)).toInt = 80 from by decide]; omega)) (fun _ => ?_)
      refine lv_aload_n hx hb dX5_byteAt_21 rfl (lv_at hl 0 rfl) ?_
      refine ka_get C lq_5 rfl hK hP 0 rfl 0 (by decide) lq_7 rfl dX5_byteAt_22 ?_
      refine lv_iload_n hx hb dX5_byteAt_25 rfl (lv_at hl 1 rfl) ?_
      refine va_bald hx hb hK hP 1 0 rfl rfl (ka_in (by omega) (by omega)) dX5_byteAt_26 ?_
      refine lv_topi (fun v_4089 ev_4089 => ?_)
      refine lv_sipush (v := 255) hx hb dX5_byteAt_27 (by decide) ?_
      refine lv_iand hx hb dX5_byteAt_30 ?_
      refine lv_topi (fun v_4090 ev_4090 => ?_)
      refine lv_goto (tgt := 35) hx hb dX5_byteAt_31 (by decide) ?_
      exact ka_rRi C hr hlk ⟨_, rfl⟩ dX5_byteAt_35
set_option maxHeartbeats 4000000 in
set_option maxRecDepth 100000 in
theorem cg_X5_byteAt_47 (l : Launch) (D : va_G) (F : Nat → Prop) (a0 : Nat) (x0 : Int32) (a1 : Nat) (x1 : Int32) (k0 : ClassId) (f0 : Nat → Int32) (hx0 : x0.toInt ≤ 2147483646) (hx1 : 0 ≤ x1.toInt ∧ x1.toInt ≤ 80) (hf0 : sb_Fit f0) : ka_R l D F yX5_byteAt wsX5_byteAt 0 0 [.ref a0, .int x0] [(a0, .inr (5, [.ref a1, .int x1])), (a1, .inl (k0, 80, .inl f0))] [(k0, .byte)] (fun v => ∃ x : Int32, v = some (.int x)) := by
  refine ka_R_of (cc := cX5_byteAt) (maxL := 2) (ret := (some .int)) (by decide) rfl (Nat.le_of_ble_eq_true rfl) ?_
  intro p e s m below meth c ls C hr hlk hP hK hE hN hl
  have hS : va_S (fun _ => False) s.heap s.heap [] := va_S.rf
  have C : CallFix p m c cX5_byteAt 2 s [.ref a0, .int x0].toArray wsX5_byteAt RX5 := C
  obtain ⟨hx, hb, hml, hown, hts⟩ := id C
  have hl : lv_has ls 2 [(0, .ref a0), (1, .int x0)] := hl
  have rx0 := ka_rng x0
  have rx1 := ka_rng x1
  refine lv_iload_n hx hb dX5_byteAt_0 rfl (lv_at hl 1 rfl) ?_
  refine lv_if_lt (tgt := 34) hx hb dX5_byteAt_1 (by decide) (fun c_4137 => ?_) (fun c_4137 => ?_)
  · have c_4137 : x0.toInt < 0 := by rw [ka_lt', show ((0 : Int32)).toInt = 0 from by decide] at c_4137; exact c_4137
    refine lv_iconst (v := (-1)) hx hb dX5_byteAt_34 (by decide) ?_
    exact ka_rRi C hr hlk ⟨_, rfl⟩ dX5_byteAt_35
  · have c_4137 : ¬ x0.toInt < 0 := by rw [ka_lt', show ((0 : Int32)).toInt = 0 from by decide] at c_4137; exact c_4137
    refine lv_iload_n hx hb dX5_byteAt_4 rfl (lv_at hl 1 rfl) ?_
    refine lv_aload_n hx hb dX5_byteAt_5 rfl (lv_at hl 0 rfl) ?_
    refine ka_get C lq_5 rfl hK hP 0 rfl 1 (by decide) lq_6 rfl dX5_byteAt_6 ?_
    refine lv_icmp_ge (tgt := 34) hx hb dX5_byteAt_9 (by decide) (fun c_4138 => ?_) (fun c_4138 => ?_)
    · have c_4138 : x1.toInt ≤ x0.toInt := by rw [ka_le'] at c_4138; exact c_4138
      refine lv_iconst (v := (-1)) hx hb dX5_byteAt_34 (by decide) ?_
      exact ka_rRi C hr hlk ⟨_, rfl⟩ dX5_byteAt_35
    · have c_4138 : ¬ x1.toInt ≤ x0.toInt := by rw [ka_le'] at c_4138; exact c_4138
      refine lv_iload_n hx hb dX5_byteAt_12 rfl (lv_at hl 1 rfl) ?_
      refine lv_aload_n hx hb dX5_byteAt_13 rfl (lv_at hl 0 rfl) ?_
      refine ka_get C lq_5 rfl hK hP 0 rfl 0 (by decide) lq_7 rfl dX5_byteAt_14 ?_
      refine va_alen hx hb hK hP 1 0 rfl (ty := .byte) rfl (v := 80) rfl dX5_byteAt_17 ?_
      refine lv_icmp_ge (tgt := 34) hx hb dX5_byteAt_18 (by decide) (fun c_ => absurd c_ (by rw [ka_le', show ((80 : Int32)).toInt = 80 from by decide]; omega)) (fun _ => ?_)
      refine lv_aload_n hx hb dX5_byteAt_21 rfl (lv_at hl 0 rfl) ?_
      refine ka_get C lq_5 rfl hK hP 0 rfl 0 (by decide) lq_7 rfl dX5_byteAt_22 ?_
      refine lv_iload_n hx hb dX5_byteAt_25 rfl (lv_at hl 1 rfl) ?_
      refine va_bald hx hb hK hP 1 0 rfl rfl (ka_in (by omega) (by omega)) dX5_byteAt_26 ?_
      refine lv_topi (fun v_4139 ev_4139 => ?_)
      refine lv_sipush (v := 255) hx hb dX5_byteAt_27 (by decide) ?_
      refine lv_iand hx hb dX5_byteAt_30 ?_
      refine lv_topi (fun v_4140 ev_4140 => ?_)
      refine lv_goto (tgt := 35) hx hb dX5_byteAt_31 (by decide) ?_
      exact ka_rRi C hr hlk ⟨_, rfl⟩ dX5_byteAt_35
set_option maxHeartbeats 4000000 in
set_option maxRecDepth 100000 in
theorem cg_X3_isBlank_48 (l : Launch) (D : va_G) (F : Nat → Prop) (x0 : Int32) : ka_R l D F yX3_isBlank wsX3_isBlank 0 0 [.int x0] [] [] (fun v => ∃ x : Int32, v = some (.int x) ∧ 0 ≤ x.toInt ∧ x.toInt ≤ 1) := by
  refine ka_R_of (cc := cX3_isBlank) (maxL := 1) (ret := (some .boolean)) (by decide) rfl (Nat.le_of_ble_eq_true rfl) ?_
  intro p e s m below meth c ls C hr hlk hP hK hE hN hl
  have hS : va_S (fun _ => False) s.heap s.heap [] := va_S.rf
  have C : CallFix p m c cX3_isBlank 1 s [.int x0].toArray wsX3_isBlank RX3 := C
  obtain ⟨hx, hb, hml, hown, hts⟩ := id C
  have hl : lv_has ls 1 [(0, .int x0)] := hl
  have rx0 := ka_rng x0
  refine lv_iload_n hx hb dX3_isBlank_0 rfl (lv_at hl 0 rfl) ?_
  refine lv_bipush (v := 32) hx hb dX3_isBlank_1 (by decide) ?_
  refine lv_icmp_eq (tgt := 12) hx hb dX3_isBlank_3 (by decide) (fun c_4183 => ?_) (fun c_4183 => ?_)
  · have c_4183 : x0.toInt = 32 := by rw [ka_eq', show ((32 : Int32)).toInt = 32 from by decide] at c_4183; exact c_4183
    refine lv_iconst (v := 1) hx hb dX3_isBlank_12 (by decide) ?_
    refine lv_goto (tgt := 17) hx hb dX3_isBlank_13 (by decide) ?_
    exact ka_rRz C hr hlk rfl ⟨_, rfl, ⟨by decide, by decide⟩⟩ dX3_isBlank_17
  · have c_4183 : ¬ x0.toInt = 32 := by rw [ka_eq', show ((32 : Int32)).toInt = 32 from by decide] at c_4183; exact c_4183
    refine lv_iload_n hx hb dX3_isBlank_6 rfl (lv_at hl 0 rfl) ?_
    refine lv_bipush (v := 10) hx hb dX3_isBlank_7 (by decide) ?_
    refine lv_icmp_ne (tgt := 16) hx hb dX3_isBlank_9 (by decide) (fun c_4184 => ?_) (fun c_4184 => ?_)
    · have c_4184 : ¬ x0.toInt = 10 := by rw [ka_eq', show ((10 : Int32)).toInt = 10 from by decide] at c_4184; exact c_4184
      refine lv_iconst (v := 0) hx hb dX3_isBlank_16 (by decide) ?_
      exact ka_rRz C hr hlk rfl ⟨_, rfl, ⟨by decide, by decide⟩⟩ dX3_isBlank_17
    · have c_4184 : x0.toInt = 10 := by rw [ka_eq', show ((10 : Int32)).toInt = 10 from by decide] at c_4184; exact c_4184
      refine lv_iconst (v := 1) hx hb dX3_isBlank_12 (by decide) ?_
      refine lv_goto (tgt := 17) hx hb dX3_isBlank_13 (by decide) ?_
      exact ka_rRz C hr hlk rfl ⟨_, rfl, ⟨by decide, by decide⟩⟩ dX3_isBlank_17
theorem lq_97 : ∀ w ∈ wsX30, w ∈ wsX3_look := by decide +kernel
theorem lq_98 : Cond.fieldLink RX3 22 "AskedBack$Reader" "place" "I" ∈ wsX3_look := by decide +kernel
theorem lq_99 : Cond.fieldLink RX3 19 "AskedBack$Reader" "end" "I" ∈ wsX3_look := by decide +kernel
theorem lq_100 : Cond.fieldLink RX3 34 "AskedBack$Reader" "tape" "LAskedBack$Tape;" ∈ wsX3_look := by decide +kernel
set_option maxHeartbeats 4000000 in
set_option maxRecDepth 100000 in
theorem cg_X3_look_49 (l : Launch) (D : va_G) (F : Nat → Prop) (a0 : Nat) (a1 : Nat) (a2 : Nat) (x0 : Int32) (k0 : ClassId) (f0 : Nat → Int32) (a3 : Nat) (x1 : Int32) (x2 : Int32) (x3 : Int32) (x4 : Int32) (x5 : Int32) (x6 : Int32) (hx0 : 0 ≤ x0.toInt ∧ x0.toInt ≤ 80) (hf0 : sb_Fit f0) (hx1 : 0 ≤ x1.toInt ∧ x1.toInt ≤ 120) : ka_E l D F yX3_look wsX3_look 1 21 0 0 [.ref a0] [(a1, .inr (5, [.ref a2, .int x0])), (a2, .inl (k0, 80, .inl f0)), (a0, .inr (3, [.ref a1, .ref a3, .int x1, .int x2, .int x3, .int x4, .int x5, .int x6]))] [(k0, .byte)] (fun (u : (Int32) × (Int32)) => some (.int (u.2))) (fun (u : (Int32) × (Int32)) => True) (fun (u : (Int32) × (Int32)) => [(a1, .inr (5, [.ref a2, .int x0])), (a2, .inl (k0, 80, .inl f0)), (a0, .inr (3, [.ref a1, .ref a3, .int x1, .int x2, .int (u.1), .int x4, .int x5, .int x6]))]) (fun (u : (Int32) × (Int32)) => []) := by
  refine ka_E_of (cc := cX3_look) (maxL := 1) (ret := (some .int)) (by decide) rfl (Nat.le_of_ble_eq_true rfl) ?_
  intro p e s m below meth c ls A C hr hlk hin hP hK hD hS hA hE hN hl
  have C : CallFix p m c cX3_look 1 s [.ref a0].toArray wsX3_look RX3 := C
  obtain ⟨hx, hb, hml, hown, hts⟩ := id C
  have hl : lv_has ls 1 [(0, .ref a0)] := hl
  have rx0 := ka_rng x0
  have rx1 := ka_rng x1
  have rx2 := ka_rng x2
  have rx3 := ka_rng x3
  have rx4 := ka_rng x4
  have rx5 := ka_rng x5
  have rx6 := ka_rng x6
  have lp_4248 : ∀ (n : Nat) (y4248_2_4 : Int32), (x2.toInt - y4248_2_4.toInt).toNat < n → ∀ (H : Heap) (locs : List Loc), va_P D vwCl [(a1, .inr (5, [.ref a2, .int x0])), (a2, .inl (k0, 80, .inl f0)), (a0, .inr (3, [.ref a1, .ref a3, .int x1, .int x2, .int y4248_2_4, .int x4, .int x5, .int x6]))] H → va_D A [(a1, .inr (5, [.ref a2, .int x0])), (a2, .inl (k0, 80, .inl f0)), (a0, .inr (3, [.ref a1, .ref a3, .int x1, .int x2, .int y4248_2_4, .int x4, .int x5, .int x6]))] → va_S A s.heap H locs → ∀ (ls : Array Slot), lv_has ls 1 [(0, .ref a0)] → W p l e ({ frames := 1, cells := 0, slots := 0, locals := 21 }) s m [.ref a0].toArray below meth c H locs 0 0 (MQ below (ka_QE D A (fun (u : (Int32) × (Int32)) => some (.int (u.2))) (fun (u : (Int32) × (Int32)) => True) (fun (u : (Int32) × (Int32)) => [(a1, .inr (5, [.ref a2, .int x0])), (a2, .inl (k0, 80, .inl f0)), (a0, .inr (3, [.ref a1, .ref a3, .int x1, .int x2, .int (u.1), .int x4, .int x5, .int x6]))]) (fun (u : (Int32) × (Int32)) => [])) [.ref a0].toArray s 0 0 A) (F0 m 0 ls []) := by
    intro n
    induction n with
    | zero =>
      intro y4248_2_4  hm
      exact absurd hm (Nat.not_lt_zero _)
    | succ n ih_4248 =>
      intro y4248_2_4  hm H locs hP hD hS ls hl
      have ry4248_2_4 := ka_rng y4248_2_4
      refine lv_aload_n hx hb dX3_look_0 rfl (lv_at hl 0 rfl) ?_
      refine ka_get C lq_97 rfl hK hP 2 rfl 4 (by decide) lq_98 rfl dX3_look_1 ?_
      refine lv_aload_n hx hb dX3_look_4 rfl (lv_at hl 0 rfl) ?_
      refine ka_get C lq_97 rfl hK hP 2 rfl 3 (by decide) lq_99 rfl dX3_look_5 ?_
      refine lv_icmp_ge (tgt := 41) hx hb dX3_look_8 (by decide) (fun c_4258 => ?_) (fun c_4258 => ?_)
      · have c_4258 : x2.toInt ≤ y4248_2_4.toInt := by rw [ka_le'] at c_4258; exact c_4258
        refine lv_aload_n hx hb dX3_look_41 rfl (lv_at hl 0 rfl) ?_
        refine ka_get C lq_97 rfl hK hP 2 rfl 4 (by decide) lq_98 rfl dX3_look_42 ?_
        refine lv_aload_n hx hb dX3_look_45 rfl (lv_at hl 0 rfl) ?_
        refine ka_get C lq_97 rfl hK hP 2 rfl 3 (by decide) lq_99 rfl dX3_look_46 ?_
        refine lv_icmp_ge (tgt := 66) hx hb dX3_look_49 (by decide) (fun c_4259 => ?_) (fun c_4259 => ?_)
        · have c_4259 : x2.toInt ≤ y4248_2_4.toInt := by rw [ka_le'] at c_4259; exact c_4259
          refine lv_iconst (v := (-1)) hx hb dX3_look_66 (by decide) ?_
          exact ka_rEi C hr hlk (Nat.le_of_ble_eq_true rfl) (Nat.le_of_ble_eq_true rfl) hS (ka_qE (y4248_2_4, (-1)) rfl trivial hK hP hD hS [0, 1, 2] (by decide) rfl [] rfl) dX3_look_67
        · have c_4259 : ¬ x2.toInt ≤ y4248_2_4.toInt := by rw [ka_le'] at c_4259; exact c_4259
          refine lv_aload_n hx hb dX3_look_52 rfl (lv_at hl 0 rfl) ?_
          refine ka_get C lq_97 rfl hK hP 2 rfl 0 (by decide) lq_100 rfl dX3_look_53 ?_
          refine lv_aload_n hx hb dX3_look_56 rfl (lv_at hl 0 rfl) ?_
          refine ka_get C lq_97 rfl hK hP 2 rfl 4 (by decide) lq_98 rfl dX3_look_57 ?_
          refine ka_RV (n := 1) C (cg_X5_byteAt_46 l D F a1 y4248_2_4 a2 x0 k0 f0 ⟨by omega, by omega⟩ ⟨by omega, by omega⟩ hf0) gX3_look_X5_byteAt rfl (by decide +kernel) ⟨Nat.le_of_ble_eq_true rfl, Nat.le_of_ble_eq_true rfl⟩ hK hP hS hE hN [0, 1] rfl [0] rfl (ci := 5) rfl rfl 0 rfl rfl hl.1 (rest := []) rfl (Nat.le_of_ble_eq_true rfl) dX3_look_60 ⟨Nat.le_of_ble_eq_true rfl, Nat.le_of_ble_eq_true rfl⟩ (fun v hv => ?_)
          obtain ⟨v_4260, rfl⟩ := hv
          have rv_4260 := ka_rng v_4260
          refine ka_stk (w := [.int v_4260]) rfl ?_
          refine lv_goto (tgt := 67) hx hb dX3_look_63 (by decide) ?_
          exact ka_rEi C hr hlk (Nat.le_of_ble_eq_true rfl) (Nat.le_of_ble_eq_true rfl) hS (ka_qE (y4248_2_4, v_4260) rfl trivial hK hP hD hS [0, 1, 2] (by decide) rfl [] rfl) dX3_look_67
      · have c_4258 : ¬ x2.toInt ≤ y4248_2_4.toInt := by rw [ka_le'] at c_4258; exact c_4258
        refine lv_aload_n hx hb dX3_look_11 rfl (lv_at hl 0 rfl) ?_
        refine ka_get C lq_97 rfl hK hP 2 rfl 0 (by decide) lq_100 rfl dX3_look_12 ?_
        refine lv_aload_n hx hb dX3_look_15 rfl (lv_at hl 0 rfl) ?_
        refine ka_get C lq_97 rfl hK hP 2 rfl 4 (by decide) lq_98 rfl dX3_look_16 ?_
        refine ka_RV (n := 1) C (cg_X5_byteAt_47 l D F a1 y4248_2_4 a2 x0 k0 f0 (by omega) ⟨by omega, by omega⟩ hf0) gX3_look_X5_byteAt rfl (by decide +kernel) ⟨Nat.le_of_ble_eq_true rfl, Nat.le_of_ble_eq_true rfl⟩ hK hP hS hE hN [0, 1] rfl [0] rfl (ci := 5) rfl rfl 0 rfl rfl hl.1 (rest := []) rfl (Nat.le_of_ble_eq_true rfl) dX3_look_19 ⟨Nat.le_of_ble_eq_true rfl, Nat.le_of_ble_eq_true rfl⟩ (fun v hv => ?_)
        obtain ⟨v_4261, rfl⟩ := hv
        have rv_4261 := ka_rng v_4261
        refine ka_stk (w := [.int v_4261]) rfl ?_
        refine ka_RS (n := 1) C (cg_X3_isBlank_48 l D F v_4261) gX3_look_X3_isBlank rfl (by decide +kernel) ⟨Nat.le_of_ble_eq_true rfl, Nat.le_of_ble_eq_true rfl⟩ hK hP hS hE hN [] rfl [] rfl rfl hl.1 (rest := []) rfl (Nat.le_of_ble_eq_true rfl) dX3_look_22 ⟨Nat.le_of_ble_eq_true rfl, Nat.le_of_ble_eq_true rfl⟩ (fun v hv => ?_)
        obtain ⟨v_4262, rfl, hv_4262⟩ := hv
        have rv_4262 := ka_rng v_4262
        refine ka_stk (w := [.int v_4262]) rfl ?_
        refine lv_if_eq (tgt := 41) hx hb dX3_look_25 (by decide) (fun c_4263 => ?_) (fun c_4263 => ?_)
        · have c_4263 : v_4262.toInt = 0 := by rw [ka_eq', show ((0 : Int32)).toInt = 0 from by decide] at c_4263; exact c_4263
          refine lv_aload_n hx hb dX3_look_41 rfl (lv_at hl 0 rfl) ?_
          refine ka_get C lq_97 rfl hK hP 2 rfl 4 (by decide) lq_98 rfl dX3_look_42 ?_
          refine lv_aload_n hx hb dX3_look_45 rfl (lv_at hl 0 rfl) ?_
          refine ka_get C lq_97 rfl hK hP 2 rfl 3 (by decide) lq_99 rfl dX3_look_46 ?_
          refine lv_icmp_ge (tgt := 66) hx hb dX3_look_49 (by decide) (fun c_4264 => ?_) (fun c_4264 => ?_)
          · have c_4264 : x2.toInt ≤ y4248_2_4.toInt := by rw [ka_le'] at c_4264; exact c_4264
            refine lv_iconst (v := (-1)) hx hb dX3_look_66 (by decide) ?_
            exact ka_rEi C hr hlk (Nat.le_of_ble_eq_true rfl) (Nat.le_of_ble_eq_true rfl) hS (ka_qE (y4248_2_4, (-1)) rfl trivial hK hP hD hS [0, 1, 2] (by decide) rfl [] rfl) dX3_look_67
          · have c_4264 : ¬ x2.toInt ≤ y4248_2_4.toInt := by rw [ka_le'] at c_4264; exact c_4264
            refine lv_aload_n hx hb dX3_look_52 rfl (lv_at hl 0 rfl) ?_
            refine ka_get C lq_97 rfl hK hP 2 rfl 0 (by decide) lq_100 rfl dX3_look_53 ?_
            refine lv_aload_n hx hb dX3_look_56 rfl (lv_at hl 0 rfl) ?_
            refine ka_get C lq_97 rfl hK hP 2 rfl 4 (by decide) lq_98 rfl dX3_look_57 ?_
            refine ka_RV (n := 1) C (cg_X5_byteAt_47 l D F a1 y4248_2_4 a2 x0 k0 f0 (by omega) ⟨by omega, by omega⟩ hf0) gX3_look_X5_byteAt rfl (by decide +kernel) ⟨Nat.le_of_ble_eq_true rfl, Nat.le_of_ble_eq_true rfl⟩ hK hP hS hE hN [0, 1] rfl [0] rfl (ci := 5) rfl rfl 0 rfl rfl hl.1 (rest := []) rfl (Nat.le_of_ble_eq_true rfl) dX3_look_60 ⟨Nat.le_of_ble_eq_true rfl, Nat.le_of_ble_eq_true rfl⟩ (fun v hv => ?_)
            obtain ⟨v_4265, rfl⟩ := hv
            have rv_4265 := ka_rng v_4265
            refine ka_stk (w := [.int v_4265]) rfl ?_
            refine lv_goto (tgt := 67) hx hb dX3_look_63 (by decide) ?_
            exact ka_rEi C hr hlk (Nat.le_of_ble_eq_true rfl) (Nat.le_of_ble_eq_true rfl) hS (ka_qE (y4248_2_4, v_4265) rfl trivial hK hP hD hS [0, 1, 2] (by decide) rfl [] rfl) dX3_look_67
        · have c_4263 : ¬ v_4262.toInt = 0 := by rw [ka_eq', show ((0 : Int32)).toInt = 0 from by decide] at c_4263; exact c_4263
          refine lv_aload_n hx hb dX3_look_28 rfl (lv_at hl 0 rfl) ?_
          refine lv_dup hx hb dX3_look_29 rfl ?_
          refine ka_get C lq_97 rfl hK hP 2 rfl 4 (by decide) lq_98 rfl dX3_look_30 ?_
          refine lv_iconst (v := 1) hx hb dX3_look_33 (by decide) ?_
          refine lv_iadd hx hb dX3_look_34 ?_
          refine lv_topi (fun v_4266 ev_4266 => ?_)
          have fv_4266 : v_4266.toInt = y4248_2_4.toInt + 1 := by rw [ev_4266]; exact ka_add (x := y4248_2_4.toInt) (y := 1) rfl (by decide) (by omega) (by omega)
          refine ka_put C lq_97 tyX3 tyX3_ok nmX3 rfl hK hP hD hS 2 rfl 4 (by decide) lq_98 rfl rfl rfl (Nat.le_of_ble_eq_true rfl) dX3_look_35 (fun H locs hP hD hS => ?_)
          have hP : va_P D vwCl [(a1, .inr (5, [.ref a2, .int x0])), (a2, .inl (k0, 80, .inl f0)), (a0, .inr (3, [.ref a1, .ref a3, .int x1, .int x2, .int v_4266, .int x4, .int x5, .int x6]))] H := hP
          have hD : va_D A [(a1, .inr (5, [.ref a2, .int x0])), (a2, .inl (k0, 80, .inl f0)), (a0, .inr (3, [.ref a1, .ref a3, .int x1, .int x2, .int v_4266, .int x4, .int x5, .int x6]))] := hD
          refine lv_goto (tgt := 0) hx hb dX3_look_38 (by decide) ?_
          exact ih_4248 v_4266  (by omega) H locs (hP.sub [0, 1, 2] rfl) (hD.sub [0, 1, 2] (by decide) rfl) hS ls (lv_sub hl [0] rfl)
  exact lp_4248 _ x3  (Nat.lt_succ_self _) _ _ hP hD hS ls (lv_sub hl [0] rfl)
theorem lq_101 : ∀ w ∈ wsX30, w ∈ wsX3_copySign := by decide +kernel
theorem lq_102 : Cond.fieldLink RX3 15 "AskedBack$Reader" "outLength" "I" ∈ wsX3_copySign := by decide +kernel
theorem lq_103 : Cond.fieldLink RX3 9 "AskedBack$Reader" "out" "[B" ∈ wsX3_copySign := by decide +kernel
theorem lq_104 : Cond.fieldLink RX3 22 "AskedBack$Reader" "place" "I" ∈ wsX3_copySign := by decide +kernel
theorem lq_105 : Cond.fieldLink RX3 34 "AskedBack$Reader" "tape" "LAskedBack$Tape;" ∈ wsX3_copySign := by decide +kernel
set_option maxHeartbeats 4000000 in
set_option maxRecDepth 100000 in
theorem cg_X3_copySign_50 (l : Launch) (D : va_G) (F : Nat → Prop) (a0 : Nat) (a1 : Nat) (a2 : Nat) (x0 : Int32) (k0 : ClassId) (f0 : Nat → Int32) (a3 : Nat) (x1 : Int32) (x2 : Int32) (x3 : Int32) (x4 : Int32) (x5 : Int32) (x6 : Int32) (k1 : ClassId) (f1 : Nat → Int32) (hx0 : 0 ≤ x0.toInt ∧ x0.toInt ≤ 80) (hf0 : sb_Fit f0) (hx1 : 0 ≤ x1.toInt ∧ x1.toInt ≤ 120) (hf1 : sb_Fit f1) : ka_E l D F yX3_copySign wsX3_copySign 1 21 0 0 [.ref a0] [(a1, .inr (5, [.ref a2, .int x0])), (a2, .inl (k0, 80, .inl f0)), (a0, .inr (3, [.ref a1, .ref a3, .int x1, .int x2, .int x3, .int x4, .int x5, .int x6])), (a3, .inl (k1, 120, .inl f1))] [(k0, .byte), (k1, .byte)] (fun (u : (Int32) × (Int32) × (Nat → Int32)) => none) (fun (u : (Int32) × (Int32) × (Nat → Int32)) => (0 ≤ (u.1).toInt ∧ (u.1).toInt ≤ 120) ∧ (sb_Fit (u.2.2))) (fun (u : (Int32) × (Int32) × (Nat → Int32)) => [(a1, .inr (5, [.ref a2, .int x0])), (a2, .inl (k0, 80, .inl f0)), (a0, .inr (3, [.ref a1, .ref a3, .int (u.1), .int x2, .int (u.2.1), .int x4, .int x5, .int x6])), (a3, .inl (k1, 120, .inl (u.2.2)))]) (fun (u : (Int32) × (Int32) × (Nat → Int32)) => []) := by
  refine ka_E_of (cc := cX3_copySign) (maxL := 1) (ret := none) (by decide) rfl (Nat.le_of_ble_eq_true rfl) ?_
  intro p e s m below meth c ls A C hr hlk hin hP hK hD hS hA hE hN hl
  have C : CallFix p m c cX3_copySign 1 s [.ref a0].toArray wsX3_copySign RX3 := C
  obtain ⟨hx, hb, hml, hown, hts⟩ := id C
  have hl : lv_has ls 1 [(0, .ref a0)] := hl
  have rx0 := ka_rng x0
  have rx1 := ka_rng x1
  have rx2 := ka_rng x2
  have rx3 := ka_rng x3
  have rx4 := ka_rng x4
  have rx5 := ka_rng x5
  have rx6 := ka_rng x6
  refine lv_aload_n hx hb dX3_copySign_0 rfl (lv_at hl 0 rfl) ?_
  refine ka_get C lq_101 rfl hK hP 2 rfl 2 (by decide) lq_102 rfl dX3_copySign_1 ?_
  refine lv_if_lt (tgt := 50) hx hb dX3_copySign_4 (by decide) (fun c_ => absurd c_ (by rw [ka_lt', show ((0 : Int32)).toInt = 0 from by decide]; omega)) (fun _ => ?_)
  refine lv_aload_n hx hb dX3_copySign_7 rfl (lv_at hl 0 rfl) ?_
  refine ka_get C lq_101 rfl hK hP 2 rfl 2 (by decide) lq_102 rfl dX3_copySign_8 ?_
  refine lv_aload_n hx hb dX3_copySign_11 rfl (lv_at hl 0 rfl) ?_
  refine ka_get C lq_101 rfl hK hP 2 rfl 1 (by decide) lq_103 rfl dX3_copySign_12 ?_
  refine va_alen hx hb hK hP 3 1 rfl (ty := .byte) rfl (v := 120) rfl dX3_copySign_15 ?_
  refine lv_icmp_ge (tgt := 50) hx hb dX3_copySign_16 (by decide) (fun c_4318 => ?_) (fun c_4318 => ?_)
  · have c_4318 : 120 ≤ x1.toInt := by rw [ka_le', show ((120 : Int32)).toInt = 120 from by decide] at c_4318; exact c_4318
    refine lv_aload_n hx hb dX3_copySign_50 rfl (lv_at hl 0 rfl) ?_
    refine lv_dup hx hb dX3_copySign_51 rfl ?_
    refine ka_get C lq_101 rfl hK hP 2 rfl 4 (by decide) lq_104 rfl dX3_copySign_52 ?_
    refine lv_iconst (v := 1) hx hb dX3_copySign_55 (by decide) ?_
    refine lv_iadd hx hb dX3_copySign_56 ?_
    refine lv_topi (fun v_4319 ev_4319 => ?_)
    refine ka_put C lq_101 tyX3 tyX3_ok nmX3 rfl hK hP hD hS 2 rfl 4 (by decide) lq_104 rfl rfl rfl (Nat.le_of_ble_eq_true rfl) dX3_copySign_57 (fun H locs hP hD hS => ?_)
    have hP : va_P D vwCl [(a1, .inr (5, [.ref a2, .int x0])), (a2, .inl (k0, 80, .inl f0)), (a0, .inr (3, [.ref a1, .ref a3, .int x1, .int x2, .int v_4319, .int x4, .int x5, .int x6])), (a3, .inl (k1, 120, .inl f1))] H := hP
    have hD : va_D A [(a1, .inr (5, [.ref a2, .int x0])), (a2, .inl (k0, 80, .inl f0)), (a0, .inr (3, [.ref a1, .ref a3, .int x1, .int x2, .int v_4319, .int x4, .int x5, .int x6])), (a3, .inl (k1, 120, .inl f1))] := hD
    exact ka_rEv C hr hlk (Nat.le_of_ble_eq_true rfl) (Nat.le_of_ble_eq_true rfl) hS (ka_qE (x1, v_4319, f1) rfl ⟨(show 0 ≤ x1.toInt ∧ x1.toInt ≤ 120 from ⟨by omega, by omega⟩), hf1⟩ hK hP hD hS [0, 1, 2, 3] (by decide) rfl [] rfl) dX3_copySign_60
  · have c_4318 : ¬ 120 ≤ x1.toInt := by rw [ka_le', show ((120 : Int32)).toInt = 120 from by decide] at c_4318; exact c_4318
    refine lv_aload_n hx hb dX3_copySign_19 rfl (lv_at hl 0 rfl) ?_
    refine ka_get C lq_101 rfl hK hP 2 rfl 1 (by decide) lq_103 rfl dX3_copySign_20 ?_
    refine lv_aload_n hx hb dX3_copySign_23 rfl (lv_at hl 0 rfl) ?_
    refine ka_get C lq_101 rfl hK hP 2 rfl 2 (by decide) lq_102 rfl dX3_copySign_24 ?_
    refine lv_aload_n hx hb dX3_copySign_27 rfl (lv_at hl 0 rfl) ?_
    refine ka_get C lq_101 rfl hK hP 2 rfl 0 (by decide) lq_105 rfl dX3_copySign_28 ?_
    refine lv_aload_n hx hb dX3_copySign_31 rfl (lv_at hl 0 rfl) ?_
    refine ka_get C lq_101 rfl hK hP 2 rfl 4 (by decide) lq_104 rfl dX3_copySign_32 ?_
    refine ka_RV (n := 1) C (cg_X5_byteAt_3 l D F a1 x3 a2 x0 k0 f0 ⟨by omega, by omega⟩ hf0) gX3_copySign_X5_byteAt rfl (by decide +kernel) ⟨Nat.le_of_ble_eq_true rfl, Nat.le_of_ble_eq_true rfl⟩ hK hP hS hE hN [0, 1] rfl [0] rfl (ci := 5) rfl rfl 0 rfl rfl hl.1 (rest := [.int x1, .ref a3]) rfl (Nat.le_of_ble_eq_true rfl) dX3_copySign_35 ⟨Nat.le_of_ble_eq_true rfl, Nat.le_of_ble_eq_true rfl⟩ (fun v hv => ?_)
    obtain ⟨v_4320, rfl⟩ := hv
    have rv_4320 := ka_rng v_4320
    refine ka_stk (w := [.int v_4320, .int x1, .ref a3]) rfl ?_
    refine lv_i2b hx hb dX3_copySign_38 rfl ?_
    refine lv_topi (fun v_4321 ev_4321 => ?_)
    refine va_bast hx hb hK hP hD hS 3 1 rfl rfl (ka_in (by omega) (by omega)) dX3_copySign_39 (fun H locs hP hD hS => ?_)
    have hP : va_P D vwCl [(a1, .inr (5, [.ref a2, .int x0])), (a2, .inl (k0, 80, .inl f0)), (a0, .inr (3, [.ref a1, .ref a3, .int x1, .int x2, .int x3, .int x4, .int x5, .int x6])), (a3, .inl (k1, 120, .inl (upd f1 (Int32.toNatClampNeg x1) (vp_nar .byte v_4321))))] H := hP
    have hD : va_D A [(a1, .inr (5, [.ref a2, .int x0])), (a2, .inl (k0, 80, .inl f0)), (a0, .inr (3, [.ref a1, .ref a3, .int x1, .int x2, .int x3, .int x4, .int x5, .int x6])), (a3, .inl (k1, 120, .inl (upd f1 (Int32.toNatClampNeg x1) (vp_nar .byte v_4321))))] := hD
    have hg_4322 : sb_Fit (upd f1 (Int32.toNatClampNeg x1) (vp_nar .byte v_4321)) := sb_fitU hf1 (kb_nb _)
    generalize (upd f1 (Int32.toNatClampNeg x1) (vp_nar .byte v_4321)) = g_4322 at hP hD hg_4322
    refine lv_aload_n hx hb dX3_copySign_40 rfl (lv_at hl 0 rfl) ?_
    refine lv_dup hx hb dX3_copySign_41 rfl ?_
    refine ka_get C lq_101 rfl hK hP 2 rfl 2 (by decide) lq_102 rfl dX3_copySign_42 ?_
    refine lv_iconst (v := 1) hx hb dX3_copySign_45 (by decide) ?_
    refine lv_iadd hx hb dX3_copySign_46 ?_
    refine lv_topi (fun v_4323 ev_4323 => ?_)
    have fv_4323 : v_4323.toInt = x1.toInt + 1 := by rw [ev_4323]; exact ka_add (x := x1.toInt) (y := 1) rfl (by decide) (by omega) (by omega)
    refine ka_put C lq_101 tyX3 tyX3_ok nmX3 rfl hK hP hD hS 2 rfl 2 (by decide) lq_102 rfl rfl rfl (Nat.le_of_ble_eq_true rfl) dX3_copySign_47 (fun H locs hP hD hS => ?_)
    have hP : va_P D vwCl [(a1, .inr (5, [.ref a2, .int x0])), (a2, .inl (k0, 80, .inl f0)), (a0, .inr (3, [.ref a1, .ref a3, .int v_4323, .int x2, .int x3, .int x4, .int x5, .int x6])), (a3, .inl (k1, 120, .inl g_4322))] H := hP
    have hD : va_D A [(a1, .inr (5, [.ref a2, .int x0])), (a2, .inl (k0, 80, .inl f0)), (a0, .inr (3, [.ref a1, .ref a3, .int v_4323, .int x2, .int x3, .int x4, .int x5, .int x6])), (a3, .inl (k1, 120, .inl g_4322))] := hD
    refine lv_aload_n hx hb dX3_copySign_50 rfl (lv_at hl 0 rfl) ?_
    refine lv_dup hx hb dX3_copySign_51 rfl ?_
    refine ka_get C lq_101 rfl hK hP 2 rfl 4 (by decide) lq_104 rfl dX3_copySign_52 ?_
    refine lv_iconst (v := 1) hx hb dX3_copySign_55 (by decide) ?_
    refine lv_iadd hx hb dX3_copySign_56 ?_
    refine lv_topi (fun v_4324 ev_4324 => ?_)
    refine ka_put C lq_101 tyX3 tyX3_ok nmX3 rfl hK hP hD hS 2 rfl 4 (by decide) lq_104 rfl rfl rfl (Nat.le_of_ble_eq_true rfl) dX3_copySign_57 (fun H locs hP hD hS => ?_)
    have hP : va_P D vwCl [(a1, .inr (5, [.ref a2, .int x0])), (a2, .inl (k0, 80, .inl f0)), (a0, .inr (3, [.ref a1, .ref a3, .int v_4323, .int x2, .int v_4324, .int x4, .int x5, .int x6])), (a3, .inl (k1, 120, .inl g_4322))] H := hP
    have hD : va_D A [(a1, .inr (5, [.ref a2, .int x0])), (a2, .inl (k0, 80, .inl f0)), (a0, .inr (3, [.ref a1, .ref a3, .int v_4323, .int x2, .int v_4324, .int x4, .int x5, .int x6])), (a3, .inl (k1, 120, .inl g_4322))] := hD
    exact ka_rEv C hr hlk (Nat.le_of_ble_eq_true rfl) (Nat.le_of_ble_eq_true rfl) hS (ka_qE (v_4323, v_4324, g_4322) rfl ⟨(show 0 ≤ v_4323.toInt ∧ v_4323.toInt ≤ 120 from ⟨by omega, by omega⟩), hg_4322⟩ hK hP hD hS [0, 1, 2, 3] (by decide) rfl [] rfl) dX3_copySign_60
theorem lq_106 : ∀ w ∈ wsX30, w ∈ wsX3_bracketIfLooser := by decide +kernel
theorem lq_107 : Cond.fieldLink RX3 28 "AskedBack$Reader" "binding" "I" ∈ wsX3_bracketIfLooser := by decide +kernel
theorem lq_108 : Cond.fieldLink RX3 15 "AskedBack$Reader" "outLength" "I" ∈ wsX3_bracketIfLooser := by decide +kernel
theorem lq_109 : Cond.fieldLink RX3 9 "AskedBack$Reader" "out" "[B" ∈ wsX3_bracketIfLooser := by decide +kernel
theorem lq_110 : Cond.methodLink RX3 105 arraycopyName ∈ wsX3_bracketIfLooser := by decide +kernel
theorem lq_111 : Cond.native arraycopyName ∈ wsX3_bracketIfLooser := by decide +kernel
theorem lq_112 : Cond.static arraycopyName ∈ wsX3_bracketIfLooser := by decide +kernel
theorem lq_113 : Cond.initialized "java/lang/System" ∈ wsX3_bracketIfLooser := by decide +kernel
set_option maxHeartbeats 4000000 in
set_option maxRecDepth 100000 in
theorem cg_X3_bracketIfLooser_51 (l : Launch) (D : va_G) (F : Nat → Prop) (a0 : Nat) (x0 : Int32) (x1 : Int32) (a1 : Nat) (a2 : Nat) (x2 : Int32) (x3 : Int32) (x4 : Int32) (x5 : Int32) (x6 : Int32) (x7 : Int32) (k0 : ClassId) (f0 : Nat → Int32) (hx2 : 0 ≤ x2.toInt ∧ x2.toInt ≤ 120) (hf0 : sb_Fit f0) : ka_E l D F yX3_bracketIfLooser wsX3_bracketIfLooser 1 60 0 0 [.ref a0, .int x0, .int x1] [(a0, .inr (3, [.ref a1, .ref a2, .int x2, .int x3, .int x4, .int x5, .int x6, .int x7])), (a2, .inl (k0, 120, .inl f0))] [(k0, .byte)] (fun (u : (Int32) × (Nat → Int32)) => none) (fun (u : (Int32) × (Nat → Int32)) => (0 ≤ (u.1).toInt ∧ (u.1).toInt ≤ 120) ∧ (sb_Fit (u.2))) (fun (u : (Int32) × (Nat → Int32)) => [(a0, .inr (3, [.ref a1, .ref a2, .int (u.1), .int x3, .int x4, .int x5, .int x6, .int x7])), (a2, .inl (k0, 120, .inl (u.2)))]) (fun (u : (Int32) × (Nat → Int32)) => []) := by
  refine ka_E_of (cc := cX3_bracketIfLooser) (maxL := 3) (ret := none) (by decide) rfl (Nat.le_of_ble_eq_true rfl) ?_
  intro p e s m below meth c ls A C hr hlk hin hP hK hD hS hA hE hN hl
  have C : CallFix p m c cX3_bracketIfLooser 3 s [.ref a0, .int x0, .int x1].toArray wsX3_bracketIfLooser RX3 := C
  obtain ⟨hx, hb, hml, hown, hts⟩ := id C
  have hl : lv_has ls 3 [(0, .ref a0), (1, .int x0), (2, .int x1)] := hl
  have rx0 := ka_rng x0
  have rx1 := ka_rng x1
  have rx2 := ka_rng x2
  have rx3 := ka_rng x3
  have rx4 := ka_rng x4
  have rx5 := ka_rng x5
  have rx6 := ka_rng x6
  have rx7 := ka_rng x7
  refine lv_aload_n hx hb dX3_bracketIfLooser_0 rfl (lv_at hl 0 rfl) ?_
  refine ka_get C lq_106 rfl hK hP 0 rfl 6 (by decide) lq_107 rfl dX3_bracketIfLooser_1 ?_
  refine lv_iload_n hx hb dX3_bracketIfLooser_4 rfl (lv_at hl 2 rfl) ?_
  refine lv_icmp_ge (tgt := 34) hx hb dX3_bracketIfLooser_5 (by decide) (fun c_4386 => ?_) (fun c_4386 => ?_)
  · have c_4386 : x1.toInt ≤ x6.toInt := by rw [ka_le'] at c_4386; exact c_4386
    exact ka_rEv C hr hlk (Nat.le_of_ble_eq_true rfl) (Nat.le_of_ble_eq_true rfl) hS (ka_qE (x2, f0) rfl ⟨(show 0 ≤ x2.toInt ∧ x2.toInt ≤ 120 from ⟨by omega, by omega⟩), hf0⟩ hK hP hD hS [0, 1] (by decide) rfl [] rfl) dX3_bracketIfLooser_34
  · have c_4386 : ¬ x1.toInt ≤ x6.toInt := by rw [ka_le'] at c_4386; exact c_4386
    refine lv_iload_n hx hb dX3_bracketIfLooser_8 rfl (lv_at hl 1 rfl) ?_
    refine lv_if_lt (tgt := 34) hx hb dX3_bracketIfLooser_9 (by decide) (fun c_4387 => ?_) (fun c_4387 => ?_)
    · have c_4387 : x0.toInt < 0 := by rw [ka_lt', show ((0 : Int32)).toInt = 0 from by decide] at c_4387; exact c_4387
      exact ka_rEv C hr hlk (Nat.le_of_ble_eq_true rfl) (Nat.le_of_ble_eq_true rfl) hS (ka_qE (x2, f0) rfl ⟨(show 0 ≤ x2.toInt ∧ x2.toInt ≤ 120 from ⟨by omega, by omega⟩), hf0⟩ hK hP hD hS [0, 1] (by decide) rfl [] rfl) dX3_bracketIfLooser_34
    · have c_4387 : ¬ x0.toInt < 0 := by rw [ka_lt', show ((0 : Int32)).toInt = 0 from by decide] at c_4387; exact c_4387
      refine lv_iload_n hx hb dX3_bracketIfLooser_12 rfl (lv_at hl 1 rfl) ?_
      refine lv_aload_n hx hb dX3_bracketIfLooser_13 rfl (lv_at hl 0 rfl) ?_
      refine ka_get C lq_106 rfl hK hP 0 rfl 2 (by decide) lq_108 rfl dX3_bracketIfLooser_14 ?_
      refine lv_icmp_gt (tgt := 34) hx hb dX3_bracketIfLooser_17 (by decide) (fun c_4388 => ?_) (fun c_4388 => ?_)
      · have c_4388 : x2.toInt < x0.toInt := by rw [ka_lt'] at c_4388; exact c_4388
        exact ka_rEv C hr hlk (Nat.le_of_ble_eq_true rfl) (Nat.le_of_ble_eq_true rfl) hS (ka_qE (x2, f0) rfl ⟨(show 0 ≤ x2.toInt ∧ x2.toInt ≤ 120 from ⟨by omega, by omega⟩), hf0⟩ hK hP hD hS [0, 1] (by decide) rfl [] rfl) dX3_bracketIfLooser_34
      · have c_4388 : ¬ x2.toInt < x0.toInt := by rw [ka_lt'] at c_4388; exact c_4388
        refine lv_aload_n hx hb dX3_bracketIfLooser_20 rfl (lv_at hl 0 rfl) ?_
        refine ka_get C lq_106 rfl hK hP 0 rfl 2 (by decide) lq_108 rfl dX3_bracketIfLooser_21 ?_
        refine lv_iconst (v := 2) hx hb dX3_bracketIfLooser_24 (by decide) ?_
        refine lv_iadd hx hb dX3_bracketIfLooser_25 ?_
        refine lv_topi (fun v_4389 ev_4389 => ?_)
        have fv_4389 : v_4389.toInt = x2.toInt + 2 := by rw [ev_4389]; exact ka_add (x := x2.toInt) (y := 2) rfl (by decide) (by omega) (by omega)
        refine lv_aload_n hx hb dX3_bracketIfLooser_26 rfl (lv_at hl 0 rfl) ?_
        refine ka_get C lq_106 rfl hK hP 0 rfl 1 (by decide) lq_109 rfl dX3_bracketIfLooser_27 ?_
        refine va_alen hx hb hK hP 1 0 rfl (ty := .byte) rfl (v := 120) rfl dX3_bracketIfLooser_30 ?_
        refine lv_icmp_le (tgt := 35) hx hb dX3_bracketIfLooser_31 (by decide) (fun c_4390 => ?_) (fun c_4390 => ?_)
        · have c_4390 : v_4389.toInt ≤ 120 := by rw [ka_le', show ((120 : Int32)).toInt = 120 from by decide] at c_4390; exact c_4390
          refine lv_aload_n hx hb dX3_bracketIfLooser_35 rfl (lv_at hl 0 rfl) ?_
          refine ka_get C lq_106 rfl hK hP 0 rfl 1 (by decide) lq_109 rfl dX3_bracketIfLooser_36 ?_
          refine lv_iload_n hx hb dX3_bracketIfLooser_39 rfl (lv_at hl 1 rfl) ?_
          refine lv_aload_n hx hb dX3_bracketIfLooser_40 rfl (lv_at hl 0 rfl) ?_
          refine ka_get C lq_106 rfl hK hP 0 rfl 1 (by decide) lq_109 rfl dX3_bracketIfLooser_41 ?_
          refine lv_iload_n hx hb dX3_bracketIfLooser_44 rfl (lv_at hl 1 rfl) ?_
          refine lv_iconst (v := 1) hx hb dX3_bracketIfLooser_45 (by decide) ?_
          refine lv_iadd hx hb dX3_bracketIfLooser_46 ?_
          refine lv_topi (fun v_4391 ev_4391 => ?_)
          have fv_4391 : v_4391.toInt = x0.toInt + 1 := by rw [ev_4391]; exact ka_add (x := x0.toInt) (y := 1) rfl (by decide) (by omega) (by omega)
          refine lv_aload_n hx hb dX3_bracketIfLooser_47 rfl (lv_at hl 0 rfl) ?_
          refine ka_get C lq_106 rfl hK hP 0 rfl 2 (by decide) lq_108 rfl dX3_bracketIfLooser_48 ?_
          refine lv_iload_n hx hb dX3_bracketIfLooser_51 rfl (lv_at hl 1 rfl) ?_
          refine lv_isub hx hb dX3_bracketIfLooser_52 ?_
          refine lv_topi (fun v_4392 ev_4392 => ?_)
          have fv_4392 : v_4392.toInt = x2.toInt - x0.toInt := by rw [ev_4392]; exact ka_sub (x := x2.toInt) (y := x0.toInt) rfl rfl (by omega) (by omega)
          refine va_copyi hx hb (hml.trans hl.1.symm) hown (hts _ lq_110) (hts _ lq_111) (hts _ lq_112) (hts _ lq_113) hK hP hD hS 1 1 0 0 rfl rfl rfl rfl rfl (by rw [ka_lt', show ((0 : Int32)).toInt = 0 from by decide]; omega) (by rw [ka_lt', show ((0 : Int32)).toInt = 0 from by decide]; omega) (by rw [ka_lt', show ((0 : Int32)).toInt = 0 from by decide]; omega) (kb_cpb (by omega) (by omega)) (kb_cpb (by omega) (by omega)) (fun i _ => hf0 _) (Nat.le_of_ble_eq_true rfl) (Nat.le_of_ble_eq_true (by decide +kernel)) dX3_bracketIfLooser_53 (fun H locs hP hD hS => ?_)
          have hP : va_P D vwCl [(a0, .inr (3, [.ref a1, .ref a2, .int x2, .int x3, .int x4, .int x5, .int x6, .int x7])), (a2, .inl (k0, 120, .inl (va_cpy f0 f0 (Int32.toNatClampNeg x0) (Int32.toNatClampNeg v_4391) (Int32.toNatClampNeg v_4392))))] H := hP
          have hD : va_D A [(a0, .inr (3, [.ref a1, .ref a2, .int x2, .int x3, .int x4, .int x5, .int x6, .int x7])), (a2, .inl (k0, 120, .inl (va_cpy f0 f0 (Int32.toNatClampNeg x0) (Int32.toNatClampNeg v_4391) (Int32.toNatClampNeg v_4392))))] := hD
          have hg_4393 : sb_Fit (va_cpy f0 f0 (Int32.toNatClampNeg x0) (Int32.toNatClampNeg v_4391) (Int32.toNatClampNeg v_4392)) := sb_fitC hf0 hf0
          generalize (va_cpy f0 f0 (Int32.toNatClampNeg x0) (Int32.toNatClampNeg v_4391) (Int32.toNatClampNeg v_4392)) = g_4393 at hP hD hg_4393
          refine lv_aload_n hx hb dX3_bracketIfLooser_56 rfl (lv_at hl 0 rfl) ?_
          refine ka_get C lq_106 rfl hK hP 0 rfl 1 (by decide) lq_109 rfl dX3_bracketIfLooser_57 ?_
          refine lv_iload_n hx hb dX3_bracketIfLooser_60 rfl (lv_at hl 1 rfl) ?_
          refine lv_bipush (v := 40) hx hb dX3_bracketIfLooser_61 (by decide) ?_
          refine va_bast hx hb hK hP hD hS 1 0 rfl rfl (ka_in (by omega) (by omega)) dX3_bracketIfLooser_63 (fun H locs hP hD hS => ?_)
          have hP : va_P D vwCl [(a0, .inr (3, [.ref a1, .ref a2, .int x2, .int x3, .int x4, .int x5, .int x6, .int x7])), (a2, .inl (k0, 120, .inl (upd g_4393 (Int32.toNatClampNeg x0) (vp_nar .byte 40))))] H := hP
          have hD : va_D A [(a0, .inr (3, [.ref a1, .ref a2, .int x2, .int x3, .int x4, .int x5, .int x6, .int x7])), (a2, .inl (k0, 120, .inl (upd g_4393 (Int32.toNatClampNeg x0) (vp_nar .byte 40))))] := hD
          have hg_4394 : sb_Fit (upd g_4393 (Int32.toNatClampNeg x0) (vp_nar .byte 40)) := sb_fitU hg_4393 (kb_nb _)
          generalize (upd g_4393 (Int32.toNatClampNeg x0) (vp_nar .byte 40)) = g_4394 at hP hD hg_4394
          refine lv_aload_n hx hb dX3_bracketIfLooser_64 rfl (lv_at hl 0 rfl) ?_
          refine ka_get C lq_106 rfl hK hP 0 rfl 1 (by decide) lq_109 rfl dX3_bracketIfLooser_65 ?_
          refine lv_aload_n hx hb dX3_bracketIfLooser_68 rfl (lv_at hl 0 rfl) ?_
          refine ka_get C lq_106 rfl hK hP 0 rfl 2 (by decide) lq_108 rfl dX3_bracketIfLooser_69 ?_
          refine lv_iconst (v := 1) hx hb dX3_bracketIfLooser_72 (by decide) ?_
          refine lv_iadd hx hb dX3_bracketIfLooser_73 ?_
          refine lv_topi (fun v_4395 ev_4395 => ?_)
          have fv_4395 : v_4395.toInt = x2.toInt + 1 := by rw [ev_4395]; exact ka_add (x := x2.toInt) (y := 1) rfl (by decide) (by omega) (by omega)
          refine lv_bipush (v := 41) hx hb dX3_bracketIfLooser_74 (by decide) ?_
          refine va_bast hx hb hK hP hD hS 1 0 rfl rfl (ka_in (by omega) (by omega)) dX3_bracketIfLooser_76 (fun H locs hP hD hS => ?_)
          have hP : va_P D vwCl [(a0, .inr (3, [.ref a1, .ref a2, .int x2, .int x3, .int x4, .int x5, .int x6, .int x7])), (a2, .inl (k0, 120, .inl (upd g_4394 (Int32.toNatClampNeg v_4395) (vp_nar .byte 41))))] H := hP
          have hD : va_D A [(a0, .inr (3, [.ref a1, .ref a2, .int x2, .int x3, .int x4, .int x5, .int x6, .int x7])), (a2, .inl (k0, 120, .inl (upd g_4394 (Int32.toNatClampNeg v_4395) (vp_nar .byte 41))))] := hD
          have hg_4396 : sb_Fit (upd g_4394 (Int32.toNatClampNeg v_4395) (vp_nar .byte 41)) := sb_fitU hg_4394 (kb_nb _)
          generalize (upd g_4394 (Int32.toNatClampNeg v_4395) (vp_nar .byte 41)) = g_4396 at hP hD hg_4396
          refine lv_aload_n hx hb dX3_bracketIfLooser_77 rfl (lv_at hl 0 rfl) ?_
          refine lv_dup hx hb dX3_bracketIfLooser_78 rfl ?_
          refine ka_get C lq_106 rfl hK hP 0 rfl 2 (by decide) lq_108 rfl dX3_bracketIfLooser_79 ?_
          refine lv_iconst (v := 2) hx hb dX3_bracketIfLooser_82 (by decide) ?_
          refine lv_iadd hx hb dX3_bracketIfLooser_83 ?_
          refine lv_topi (fun v_4397 ev_4397 => ?_)
          have fv_4397 : v_4397.toInt = x2.toInt + 2 := by rw [ev_4397]; exact ka_add (x := x2.toInt) (y := 2) rfl (by decide) (by omega) (by omega)
          refine ka_put C lq_106 tyX3 tyX3_ok nmX3 rfl hK hP hD hS 0 rfl 2 (by decide) lq_108 rfl rfl rfl (Nat.le_of_ble_eq_true rfl) dX3_bracketIfLooser_84 (fun H locs hP hD hS => ?_)
          have hP : va_P D vwCl [(a0, .inr (3, [.ref a1, .ref a2, .int v_4397, .int x3, .int x4, .int x5, .int x6, .int x7])), (a2, .inl (k0, 120, .inl g_4396))] H := hP
          have hD : va_D A [(a0, .inr (3, [.ref a1, .ref a2, .int v_4397, .int x3, .int x4, .int x5, .int x6, .int x7])), (a2, .inl (k0, 120, .inl g_4396))] := hD
          exact ka_rEv C hr hlk (Nat.le_of_ble_eq_true rfl) (Nat.le_of_ble_eq_true rfl) hS (ka_qE (v_4397, g_4396) rfl ⟨(show 0 ≤ v_4397.toInt ∧ v_4397.toInt ≤ 120 from ⟨by omega, by omega⟩), hg_4396⟩ hK hP hD hS [0, 1] (by decide) rfl [] rfl) dX3_bracketIfLooser_87
        · have c_4390 : ¬ v_4389.toInt ≤ 120 := by rw [ka_le', show ((120 : Int32)).toInt = 120 from by decide] at c_4390; exact c_4390
          exact ka_rEv C hr hlk (Nat.le_of_ble_eq_true rfl) (Nat.le_of_ble_eq_true rfl) hS (ka_qE (x2, f0) rfl ⟨(show 0 ≤ x2.toInt ∧ x2.toInt ≤ 120 from ⟨by omega, by omega⟩), hf0⟩ hK hP hD hS [0, 1] (by decide) rfl [] rfl) dX3_bracketIfLooser_34
