theorem lq_135 : ∀ w ∈ wsX50, w ∈ wsX5_append := by decide +kernel
theorem lq_136 : Cond.fieldLink RX5 15 "AskedBack$Tape" "length" "I" ∈ wsX5_append := by decide +kernel
theorem lq_137 : Cond.fieldLink RX5 9 "AskedBack$Tape" "bytes" "[B" ∈ wsX5_append := by decide +kernel
set_option maxHeartbeats 4000000 in
set_option maxRecDepth 100000 in
theorem ct_X5_append_8 (l : Launch) (D : va_G) (a0 : Nat) (x0 : Int32) (a1 : Nat) (k0 : ClassId) : ka_E (S := (Nat → Int32)) l D yX5_append wsX5_append 0 0 0 0 [.ref a0, .int x0] [(a0, .inr (5, [.ref a1, .int 0])), (a1, .inl (k0, 80, .inl (fun _ => 0)))] [(k0, .byte)] (fun u => none) (fun _ => True) (fun u => [(a0, .inr (5, [.ref a1, .int 4])), (a1, .inl (k0, 80, .inl u))]) (fun u => []) := by
  refine ka_E_of (cc := cX5_append) (maxL := 3) (ret := none) (by decide) rfl (Nat.le_of_ble_eq_true rfl) ?_
  intro p e s m below meth c ls A C hr hlk hin hP hK hD hS hA hE hN hl
  have C : CallFix p m c cX5_append 3 s [.ref a0, .int x0].toArray wsX5_append RX5 := C
  obtain ⟨hx, hb, hml, hown, hts⟩ := id C
  have hl : lv_has ls 3 [(0, .ref a0), (1, .int x0)] := hl
  have rx0 := ka_rng x0
  refine lv_bipush (v := 24) hx hb dX5_append_0 (by decide) ?_
  refine lv_istore_n (lv' := [(2, .int 24), (0, .ref a0), (1, .int x0)]) hx hb dX5_append_2 rfl hl (by decide) rfl (fun ls hl => ?_)
  refine lv_iload_n hx hb dX5_append_3 rfl (lv_at hl 0 rfl) ?_
  refine lv_if_lt (tgt := 55) hx hb dX5_append_4 (by decide) (fun c_ => absurd c_ (by decide)) (fun _ => ?_)
  refine lv_aload_n hx hb dX5_append_7 rfl (lv_at hl 1 rfl) ?_
  refine ka_get C lq_135 rfl hK hP 0 rfl 1 (by decide) lq_136 rfl dX5_append_8 ?_
  refine lv_if_lt (tgt := 49) hx hb dX5_append_11 (by decide) (fun c_ => absurd c_ (by decide)) (fun _ => ?_)
  refine lv_aload_n hx hb dX5_append_14 rfl (lv_at hl 1 rfl) ?_
  refine ka_get C lq_135 rfl hK hP 0 rfl 1 (by decide) lq_136 rfl dX5_append_15 ?_
  refine lv_aload_n hx hb dX5_append_18 rfl (lv_at hl 1 rfl) ?_
  refine ka_get C lq_135 rfl hK hP 0 rfl 0 (by decide) lq_137 rfl dX5_append_19 ?_
  refine va_alen hx hb hK hP 1 0 rfl (ty := .byte) rfl (v := 80) rfl dX5_append_22 ?_
  refine lv_icmp_ge (tgt := 49) hx hb dX5_append_23 (by decide) (fun c_ => absurd c_ (by decide)) (fun _ => ?_)
  refine lv_aload_n hx hb dX5_append_26 rfl (lv_at hl 1 rfl) ?_
  refine ka_get C lq_135 rfl hK hP 0 rfl 0 (by decide) lq_137 rfl dX5_append_27 ?_
  refine lv_aload_n hx hb dX5_append_30 rfl (lv_at hl 1 rfl) ?_
  refine ka_get C lq_135 rfl hK hP 0 rfl 1 (by decide) lq_136 rfl dX5_append_31 ?_
  refine lv_iload_n hx hb dX5_append_34 rfl (lv_at hl 2 rfl) ?_
  refine lv_iload_n hx hb dX5_append_35 rfl (lv_at hl 0 rfl) ?_
  refine lv_iushr hx hb dX5_append_36 rfl ?_
  refine lv_topi (fun v_548 ev_548 => ?_)
  refine lv_i2b hx hb dX5_append_37 rfl ?_
  refine lv_topi (fun v_549 ev_549 => ?_)
  refine va_bast hx hb hK hP hD hS 1 0 rfl rfl (ka_in (by decide) (by decide)) dX5_append_38 (fun H locs hP hD hS => ?_)
  have hP : va_P D vwCl [(a0, .inr (5, [.ref a1, .int 0])), (a1, .inl (k0, 80, .inl (upd (fun _ => 0) (Int32.toNatClampNeg 0) (vp_nar .byte v_549))))] H := hP
  have hD : va_D A [(a0, .inr (5, [.ref a1, .int 0])), (a1, .inl (k0, 80, .inl (upd (fun _ => 0) (Int32.toNatClampNeg 0) (vp_nar .byte v_549))))] := hD
  generalize (upd (fun _ => 0) (Int32.toNatClampNeg 0) (vp_nar .byte v_549)) = g_550 at hP hD
  refine lv_aload_n hx hb dX5_append_39 rfl (lv_at hl 1 rfl) ?_
  refine lv_dup hx hb dX5_append_40 rfl ?_
  refine ka_get C lq_135 rfl hK hP 0 rfl 1 (by decide) lq_136 rfl dX5_append_41 ?_
  refine lv_iconst (v := 1) hx hb dX5_append_44 (by decide) ?_
  refine lv_iadd hx hb dX5_append_45 ?_
  refine ka_top (w := .int 1) (congrArg Value.int (by decide)) ?_
  refine ka_put C lq_135 tyX5 tyX5_ok nmX5 rfl hK hP hD hS 0 rfl 1 (by decide) lq_136 rfl rfl rfl (Nat.le_of_ble_eq_true rfl) dX5_append_46 (fun H locs hP hD hS => ?_)
  have hP : va_P D vwCl [(a0, .inr (5, [.ref a1, .int 1])), (a1, .inl (k0, 80, .inl g_550))] H := hP
  have hD : va_D A [(a0, .inr (5, [.ref a1, .int 1])), (a1, .inl (k0, 80, .inl g_550))] := hD
  refine lv_iinc (v := 16) (lv' := [(2, .int 16), (0, .ref a0), (1, .int x0)]) hx hb dX5_append_49 hl (k := 0) rfl (by decide) (by decide) rfl (fun ls hl => ?_)
  refine lv_goto (tgt := 3) hx hb dX5_append_52 (by decide) ?_
  refine lv_iload_n hx hb dX5_append_3 rfl (lv_at hl 0 rfl) ?_
  refine lv_if_lt (tgt := 55) hx hb dX5_append_4 (by decide) (fun c_ => absurd c_ (by decide)) (fun _ => ?_)
  refine lv_aload_n hx hb dX5_append_7 rfl (lv_at hl 1 rfl) ?_
  refine ka_get C lq_135 rfl hK hP 0 rfl 1 (by decide) lq_136 rfl dX5_append_8 ?_
  refine lv_if_lt (tgt := 49) hx hb dX5_append_11 (by decide) (fun c_ => absurd c_ (by decide)) (fun _ => ?_)
  refine lv_aload_n hx hb dX5_append_14 rfl (lv_at hl 1 rfl) ?_
  refine ka_get C lq_135 rfl hK hP 0 rfl 1 (by decide) lq_136 rfl dX5_append_15 ?_
  refine lv_aload_n hx hb dX5_append_18 rfl (lv_at hl 1 rfl) ?_
  refine ka_get C lq_135 rfl hK hP 0 rfl 0 (by decide) lq_137 rfl dX5_append_19 ?_
  refine va_alen hx hb hK hP 1 0 rfl (ty := .byte) rfl (v := 80) rfl dX5_append_22 ?_
  refine lv_icmp_ge (tgt := 49) hx hb dX5_append_23 (by decide) (fun c_ => absurd c_ (by decide)) (fun _ => ?_)
  refine lv_aload_n hx hb dX5_append_26 rfl (lv_at hl 1 rfl) ?_
  refine ka_get C lq_135 rfl hK hP 0 rfl 0 (by decide) lq_137 rfl dX5_append_27 ?_
  refine lv_aload_n hx hb dX5_append_30 rfl (lv_at hl 1 rfl) ?_
  refine ka_get C lq_135 rfl hK hP 0 rfl 1 (by decide) lq_136 rfl dX5_append_31 ?_
  refine lv_iload_n hx hb dX5_append_34 rfl (lv_at hl 2 rfl) ?_
  refine lv_iload_n hx hb dX5_append_35 rfl (lv_at hl 0 rfl) ?_
  refine lv_iushr hx hb dX5_append_36 rfl ?_
  refine lv_topi (fun v_551 ev_551 => ?_)
  refine lv_i2b hx hb dX5_append_37 rfl ?_
  refine lv_topi (fun v_552 ev_552 => ?_)
  refine va_bast hx hb hK hP hD hS 1 0 rfl rfl (ka_in (by decide) (by decide)) dX5_append_38 (fun H locs hP hD hS => ?_)
  have hP : va_P D vwCl [(a0, .inr (5, [.ref a1, .int 1])), (a1, .inl (k0, 80, .inl (upd g_550 (Int32.toNatClampNeg 1) (vp_nar .byte v_552))))] H := hP
  have hD : va_D A [(a0, .inr (5, [.ref a1, .int 1])), (a1, .inl (k0, 80, .inl (upd g_550 (Int32.toNatClampNeg 1) (vp_nar .byte v_552))))] := hD
  generalize (upd g_550 (Int32.toNatClampNeg 1) (vp_nar .byte v_552)) = g_553 at hP hD
  refine lv_aload_n hx hb dX5_append_39 rfl (lv_at hl 1 rfl) ?_
  refine lv_dup hx hb dX5_append_40 rfl ?_
  refine ka_get C lq_135 rfl hK hP 0 rfl 1 (by decide) lq_136 rfl dX5_append_41 ?_
  refine lv_iconst (v := 1) hx hb dX5_append_44 (by decide) ?_
  refine lv_iadd hx hb dX5_append_45 ?_
  refine ka_top (w := .int 2) (congrArg Value.int (by decide)) ?_
  refine ka_put C lq_135 tyX5 tyX5_ok nmX5 rfl hK hP hD hS 0 rfl 1 (by decide) lq_136 rfl rfl rfl (Nat.le_of_ble_eq_true rfl) dX5_append_46 (fun H locs hP hD hS => ?_)
  have hP : va_P D vwCl [(a0, .inr (5, [.ref a1, .int 2])), (a1, .inl (k0, 80, .inl g_553))] H := hP
  have hD : va_D A [(a0, .inr (5, [.ref a1, .int 2])), (a1, .inl (k0, 80, .inl g_553))] := hD
  refine lv_iinc (v := 8) (lv' := [(2, .int 8), (0, .ref a0), (1, .int x0)]) hx hb dX5_append_49 hl (k := 0) rfl (by decide) (by decide) rfl (fun ls hl => ?_)
  refine lv_goto (tgt := 3) hx hb dX5_append_52 (by decide) ?_
  refine lv_iload_n hx hb dX5_append_3 rfl (lv_at hl 0 rfl) ?_
  refine lv_if_lt (tgt := 55) hx hb dX5_append_4 (by decide) (fun c_ => absurd c_ (by decide)) (fun _ => ?_)
  refine lv_aload_n hx hb dX5_append_7 rfl (lv_at hl 1 rfl) ?_
  refine ka_get C lq_135 rfl hK hP 0 rfl 1 (by decide) lq_136 rfl dX5_append_8 ?_
  refine lv_if_lt (tgt := 49) hx hb dX5_append_11 (by decide) (fun c_ => absurd c_ (by decide)) (fun _ => ?_)
  refine lv_aload_n hx hb dX5_append_14 rfl (lv_at hl 1 rfl) ?_
  refine ka_get C lq_135 rfl hK hP 0 rfl 1 (by decide) lq_136 rfl dX5_append_15 ?_
  refine lv_aload_n hx hb dX5_append_18 rfl (lv_at hl 1 rfl) ?_
  refine ka_get C lq_135 rfl hK hP 0 rfl 0 (by decide) lq_137 rfl dX5_append_19 ?_
  refine va_alen hx hb hK hP 1 0 rfl (ty := .byte) rfl (v := 80) rfl dX5_append_22 ?_
  refine lv_icmp_ge (tgt := 49) hx hb dX5_append_23 (by decide) (fun c_ => absurd c_ (by decide)) (fun _ => ?_)
  refine lv_aload_n hx hb dX5_append_26 rfl (lv_at hl 1 rfl) ?_
  refine ka_get C lq_135 rfl hK hP 0 rfl 0 (by decide) lq_137 rfl dX5_append_27 ?_
  refine lv_aload_n hx hb dX5_append_30 rfl (lv_at hl 1 rfl) ?_
  refine ka_get C lq_135 rfl hK hP 0 rfl 1 (by decide) lq_136 rfl dX5_append_31 ?_
  refine lv_iload_n hx hb dX5_append_34 rfl (lv_at hl 2 rfl) ?_
  refine lv_iload_n hx hb dX5_append_35 rfl (lv_at hl 0 rfl) ?_
  refine lv_iushr hx hb dX5_append_36 rfl ?_
  refine lv_topi (fun v_554 ev_554 => ?_)
  refine lv_i2b hx hb dX5_append_37 rfl ?_
  refine lv_topi (fun v_555 ev_555 => ?_)
  refine va_bast hx hb hK hP hD hS 1 0 rfl rfl (ka_in (by decide) (by decide)) dX5_append_38 (fun H locs hP hD hS => ?_)
  have hP : va_P D vwCl [(a0, .inr (5, [.ref a1, .int 2])), (a1, .inl (k0, 80, .inl (upd g_553 (Int32.toNatClampNeg 2) (vp_nar .byte v_555))))] H := hP
  have hD : va_D A [(a0, .inr (5, [.ref a1, .int 2])), (a1, .inl (k0, 80, .inl (upd g_553 (Int32.toNatClampNeg 2) (vp_nar .byte v_555))))] := hD
  generalize (upd g_553 (Int32.toNatClampNeg 2) (vp_nar .byte v_555)) = g_556 at hP hD
  refine lv_aload_n hx hb dX5_append_39 rfl (lv_at hl 1 rfl) ?_
  refine lv_dup hx hb dX5_append_40 rfl ?_
  refine ka_get C lq_135 rfl hK hP 0 rfl 1 (by decide) lq_136 rfl dX5_append_41 ?_
  refine lv_iconst (v := 1) hx hb dX5_append_44 (by decide) ?_
  refine lv_iadd hx hb dX5_append_45 ?_
  refine ka_top (w := .int 3) (congrArg Value.int (by decide)) ?_
  refine ka_put C lq_135 tyX5 tyX5_ok nmX5 rfl hK hP hD hS 0 rfl 1 (by decide) lq_136 rfl rfl rfl (Nat.le_of_ble_eq_true rfl) dX5_append_46 (fun H locs hP hD hS => ?_)
  have hP : va_P D vwCl [(a0, .inr (5, [.ref a1, .int 3])), (a1, .inl (k0, 80, .inl g_556))] H := hP
  have hD : va_D A [(a0, .inr (5, [.ref a1, .int 3])), (a1, .inl (k0, 80, .inl g_556))] := hD
  refine lv_iinc (v := 0) (lv' := [(2, .int 0), (0, .ref a0), (1, .int x0)]) hx hb dX5_append_49 hl (k := 0) rfl (by decide) (by decide) rfl (fun ls hl => ?_)
  refine lv_goto (tgt := 3) hx hb dX5_append_52 (by decide) ?_
  refine lv_iload_n hx hb dX5_append_3 rfl (lv_at hl 0 rfl) ?_
  refine lv_if_lt (tgt := 55) hx hb dX5_append_4 (by decide) (fun c_ => absurd c_ (by decide)) (fun _ => ?_)
  refine lv_aload_n hx hb dX5_append_7 rfl (lv_at hl 1 rfl) ?_
  refine ka_get C lq_135 rfl hK hP 0 rfl 1 (by decide) lq_136 rfl dX5_append_8 ?_
  refine lv_if_lt (tgt := 49) hx hb dX5_append_11 (by decide) (fun c_ => absurd c_ (by decide)) (fun _ => ?_)
  refine lv_aload_n hx hb dX5_append_14 rfl (lv_at hl 1 rfl) ?_
  refine ka_get C lq_135 rfl hK hP 0 rfl 1 (by decide) lq_136 rfl dX5_append_15 ?_
  refine lv_aload_n hx hb dX5_append_18 rfl (lv_at hl 1 rfl) ?_
  refine ka_get C lq_135 rfl hK hP 0 rfl 0 (by decide) lq_137 rfl dX5_append_19 ?_
  refine va_alen hx hb hK hP 1 0 rfl (ty := .byte) rfl (v := 80) rfl dX5_append_22 ?_
  refine lv_icmp_ge (tgt := 49) hx hb dX5_append_23 (by decide) (fun c_ => absurd c_ (by decide)) (fun _ => ?_)
  refine lv_aload_n hx hb dX5_append_26 rfl (lv_at hl 1 rfl) ?_
  refine ka_get C lq_135 rfl hK hP 0 rfl 0 (by decide) lq_137 rfl dX5_append_27 ?_
  refine lv_aload_n hx hb dX5_append_30 rfl (lv_at hl 1 rfl) ?_
  refine ka_get C lq_135 rfl hK hP 0 rfl 1 (by decide) lq_136 rfl dX5_append_31 ?_
  refine lv_iload_n hx hb dX5_append_34 rfl (lv_at hl 2 rfl) ?_
  refine lv_iload_n hx hb dX5_append_35 rfl (lv_at hl 0 rfl) ?_
  refine lv_iushr hx hb dX5_append_36 rfl ?_
  refine lv_topi (fun v_557 ev_557 => ?_)
  refine lv_i2b hx hb dX5_append_37 rfl ?_
  refine lv_topi (fun v_558 ev_558 => ?_)
  refine va_bast hx hb hK hP hD hS 1 0 rfl rfl (ka_in (by decide) (by decide)) dX5_append_38 (fun H locs hP hD hS => ?_)
  have hP : va_P D vwCl [(a0, .inr (5, [.ref a1, .int 3])), (a1, .inl (k0, 80, .inl (upd g_556 (Int32.toNatClampNeg 3) (vp_nar .byte v_558))))] H := hP
  have hD : va_D A [(a0, .inr (5, [.ref a1, .int 3])), (a1, .inl (k0, 80, .inl (upd g_556 (Int32.toNatClampNeg 3) (vp_nar .byte v_558))))] := hD
  generalize (upd g_556 (Int32.toNatClampNeg 3) (vp_nar .byte v_558)) = g_559 at hP hD
  refine lv_aload_n hx hb dX5_append_39 rfl (lv_at hl 1 rfl) ?_
  refine lv_dup hx hb dX5_append_40 rfl ?_
  refine ka_get C lq_135 rfl hK hP 0 rfl 1 (by decide) lq_136 rfl dX5_append_41 ?_
  refine lv_iconst (v := 1) hx hb dX5_append_44 (by decide) ?_
  refine lv_iadd hx hb dX5_append_45 ?_
  refine ka_top (w := .int 4) (congrArg Value.int (by decide)) ?_
  refine ka_put C lq_135 tyX5 tyX5_ok nmX5 rfl hK hP hD hS 0 rfl 1 (by decide) lq_136 rfl rfl rfl (Nat.le_of_ble_eq_true rfl) dX5_append_46 (fun H locs hP hD hS => ?_)
  have hP : va_P D vwCl [(a0, .inr (5, [.ref a1, .int 4])), (a1, .inl (k0, 80, .inl g_559))] H := hP
  have hD : va_D A [(a0, .inr (5, [.ref a1, .int 4])), (a1, .inl (k0, 80, .inl g_559))] := hD
  refine lv_iinc (v := (-8)) (lv' := [(2, .int (-8)), (0, .ref a0), (1, .int x0)]) hx hb dX5_append_49 hl (k := 0) rfl (by decide) (by decide) rfl (fun ls hl => ?_)
  refine lv_goto (tgt := 3) hx hb dX5_append_52 (by decide) ?_
  refine lv_iload_n hx hb dX5_append_3 rfl (lv_at hl 0 rfl) ?_
  refine lv_if_lt (tgt := 55) hx hb dX5_append_4 (by decide) (fun _ => ?_) (fun c_ => absurd (by decide) c_)
  exact ka_rEv C hr hlk (Nat.le_of_ble_eq_true rfl) (Nat.le_of_ble_eq_true rfl) hS (ka_qE g_559 rfl trivial hK hP hD hS [0, 1] (by decide) rfl [] rfl) dX5_append_55
set_option maxHeartbeats 4000000 in
set_option maxRecDepth 100000 in
theorem ct_X5_append_9 (l : Launch) (D : va_G) (a0 : Nat) (x0 : Int32) (a1 : Nat) (k0 : ClassId) (f0 : Nat → Int32) : ka_E (S := (Nat → Int32)) l D yX5_append wsX5_append 0 0 0 0 [.ref a0, .int x0] [(a0, .inr (5, [.ref a1, .int 4])), (a1, .inl (k0, 80, .inl f0))] [(k0, .byte)] (fun u => none) (fun _ => True) (fun u => [(a0, .inr (5, [.ref a1, .int 8])), (a1, .inl (k0, 80, .inl u))]) (fun u => []) := by
  refine ka_E_of (cc := cX5_append) (maxL := 3) (ret := none) (by decide) rfl (Nat.le_of_ble_eq_true rfl) ?_
  intro p e s m below meth c ls A C hr hlk hin hP hK hD hS hA hE hN hl
  have C : CallFix p m c cX5_append 3 s [.ref a0, .int x0].toArray wsX5_append RX5 := C
  obtain ⟨hx, hb, hml, hown, hts⟩ := id C
  have hl : lv_has ls 3 [(0, .ref a0), (1, .int x0)] := hl
  have rx0 := ka_rng x0
  refine lv_bipush (v := 24) hx hb dX5_append_0 (by decide) ?_
  refine lv_istore_n (lv' := [(2, .int 24), (0, .ref a0), (1, .int x0)]) hx hb dX5_append_2 rfl hl (by decide) rfl (fun ls hl => ?_)
  refine lv_iload_n hx hb dX5_append_3 rfl (lv_at hl 0 rfl) ?_
  refine lv_if_lt (tgt := 55) hx hb dX5_append_4 (by decide) (fun c_ => absurd c_ (by decide)) (fun _ => ?_)
  refine lv_aload_n hx hb dX5_append_7 rfl (lv_at hl 1 rfl) ?_
  refine ka_get C lq_135 rfl hK hP 0 rfl 1 (by decide) lq_136 rfl dX5_append_8 ?_
  refine lv_if_lt (tgt := 49) hx hb dX5_append_11 (by decide) (fun c_ => absurd c_ (by decide)) (fun _ => ?_)
  refine lv_aload_n hx hb dX5_append_14 rfl (lv_at hl 1 rfl) ?_
  refine ka_get C lq_135 rfl hK hP 0 rfl 1 (by decide) lq_136 rfl dX5_append_15 ?_
  refine lv_aload_n hx hb dX5_append_18 rfl (lv_at hl 1 rfl) ?_
  refine ka_get C lq_135 rfl hK hP 0 rfl 0 (by decide) lq_137 rfl dX5_append_19 ?_
  refine va_alen hx hb hK hP 1 0 rfl (ty := .byte) rfl (v := 80) rfl dX5_append_22 ?_
  refine lv_icmp_ge (tgt := 49) hx hb dX5_append_23 (by decide) (fun c_ => absurd c_ (by decide)) (fun _ => ?_)
  refine lv_aload_n hx hb dX5_append_26 rfl (lv_at hl 1 rfl) ?_
  refine ka_get C lq_135 rfl hK hP 0 rfl 0 (by decide) lq_137 rfl dX5_append_27 ?_
  refine lv_aload_n hx hb dX5_append_30 rfl (lv_at hl 1 rfl) ?_
  refine ka_get C lq_135 rfl hK hP 0 rfl 1 (by decide) lq_136 rfl dX5_append_31 ?_
  refine lv_iload_n hx hb dX5_append_34 rfl (lv_at hl 2 rfl) ?_
  refine lv_iload_n hx hb dX5_append_35 rfl (lv_at hl 0 rfl) ?_
  refine lv_iushr hx hb dX5_append_36 rfl ?_
  refine lv_topi (fun v_585 ev_585 => ?_)
  refine lv_i2b hx hb dX5_append_37 rfl ?_
  refine lv_topi (fun v_586 ev_586 => ?_)
  refine va_bast hx hb hK hP hD hS 1 0 rfl rfl (ka_in (by decide) (by decide)) dX5_append_38 (fun H locs hP hD hS => ?_)
  have hP : va_P D vwCl [(a0, .inr (5, [.ref a1, .int 4])), (a1, .inl (k0, 80, .inl (upd f0 (Int32.toNatClampNeg 4) (vp_nar .byte v_586))))] H := hP
  have hD : va_D A [(a0, .inr (5, [.ref a1, .int 4])), (a1, .inl (k0, 80, .inl (upd f0 (Int32.toNatClampNeg 4) (vp_nar .byte v_586))))] := hD
  generalize (upd f0 (Int32.toNatClampNeg 4) (vp_nar .byte v_586)) = g_587 at hP hD
  refine lv_aload_n hx hb dX5_append_39 rfl (lv_at hl 1 rfl) ?_
  refine lv_dup hx hb dX5_append_40 rfl ?_
  refine ka_get C lq_135 rfl hK hP 0 rfl 1 (by decide) lq_136 rfl dX5_append_41 ?_
  refine lv_iconst (v := 1) hx hb dX5_append_44 (by decide) ?_
  refine lv_iadd hx hb dX5_append_45 ?_
  refine ka_top (w := .int 5) (congrArg Value.int (by decide)) ?_
  refine ka_put C lq_135 tyX5 tyX5_ok nmX5 rfl hK hP hD hS 0 rfl 1 (by decide) lq_136 rfl rfl rfl (Nat.le_of_ble_eq_true rfl) dX5_append_46 (fun H locs hP hD hS => ?_)
  have hP : va_P D vwCl [(a0, .inr (5, [.ref a1, .int 5])), (a1, .inl (k0, 80, .inl g_587))] H := hP
  have hD : va_D A [(a0, .inr (5, [.ref a1, .int 5])), (a1, .inl (k0, 80, .inl g_587))] := hD
  refine lv_iinc (v := 16) (lv' := [(2, .int 16), (0, .ref a0), (1, .int x0)]) hx hb dX5_append_49 hl (k := 0) rfl (by decide) (by decide) rfl (fun ls hl => ?_)
  refine lv_goto (tgt := 3) hx hb dX5_append_52 (by decide) ?_
  refine lv_iload_n hx hb dX5_append_3 rfl (lv_at hl 0 rfl) ?_
  refine lv_if_lt (tgt := 55) hx hb dX5_append_4 (by decide) (fun c_ => absurd c_ (by decide)) (fun _ => ?_)
  refine lv_aload_n hx hb dX5_append_7 rfl (lv_at hl 1 rfl) ?_
  refine ka_get C lq_135 rfl hK hP 0 rfl 1 (by decide) lq_136 rfl dX5_append_8 ?_
  refine lv_if_lt (tgt := 49) hx hb dX5_append_11 (by decide) (fun c_ => absurd c_ (by decide)) (fun _ => ?_)
  refine lv_aload_n hx hb dX5_append_14 rfl (lv_at hl 1 rfl) ?_
  refine ka_get C lq_135 rfl hK hP 0 rfl 1 (by decide) lq_136 rfl dX5_append_15 ?_
  refine lv_aload_n hx hb dX5_append_18 rfl (lv_at hl 1 rfl) ?_
  refine ka_get C lq_135 rfl hK hP 0 rfl 0 (by decide) lq_137 rfl dX5_append_19 ?_
  refine va_alen hx hb hK hP 1 0 rfl (ty := .byte) rfl (v := 80) rfl dX5_append_22 ?_
  refine lv_icmp_ge (tgt := 49) hx hb dX5_append_23 (by decide) (fun c_ => absurd c_ (by decide)) (fun _ => ?_)
  refine lv_aload_n hx hb dX5_append_26 rfl (lv_at hl 1 rfl) ?_
  refine ka_get C lq_135 rfl hK hP 0 rfl 0 (by decide) lq_137 rfl dX5_append_27 ?_
  refine lv_aload_n hx hb dX5_append_30 rfl (lv_at hl 1 rfl) ?_
  refine ka_get C lq_135 rfl hK hP 0 rfl 1 (by decide) lq_136 rfl dX5_append_31 ?_
  refine lv_iload_n hx hb dX5_append_34 rfl (lv_at hl 2 rfl) ?_
  refine lv_iload_n hx hb dX5_append_35 rfl (lv_at hl 0 rfl) ?_
  refine lv_iushr hx hb dX5_append_36 rfl ?_
  refine lv_topi (fun v_588 ev_588 => ?_)
  refine lv_i2b hx hb dX5_append_37 rfl ?_
  refine lv_topi (fun v_589 ev_589 => ?_)
  refine va_bast hx hb hK hP hD hS 1 0 rfl rfl (ka_in (by decide) (by decide)) dX5_append_38 (fun H locs hP hD hS => ?_)
  have hP : va_P D vwCl [(a0, .inr (5, [.ref a1, .int 5])), (a1, .inl (k0, 80, .inl (upd g_587 (Int32.toNatClampNeg 5) (vp_nar .byte v_589))))] H := hP
  have hD : va_D A [(a0, .inr (5, [.ref a1, .int 5])), (a1, .inl (k0, 80, .inl (upd g_587 (Int32.toNatClampNeg 5) (vp_nar .byte v_589))))] := hD
  generalize (upd g_587 (Int32.toNatClampNeg 5) (vp_nar .byte v_589)) = g_590 at hP hD
  refine lv_aload_n hx hb dX5_append_39 rfl (lv_at hl 1 rfl) ?_
  refine lv_dup hx hb dX5_append_40 rfl ?_
  refine ka_get C lq_135 rfl hK hP 0 rfl 1 (by decide) lq_136 rfl dX5_append_41 ?_
  refine lv_iconst (v := 1) hx hb dX5_append_44 (by decide) ?_
  refine lv_iadd hx hb dX5_append_45 ?_
  refine ka_top (w := .int 6) (congrArg Value.int (by decide)) ?_
  refine ka_put C lq_135 tyX5 tyX5_ok nmX5 rfl hK hP hD hS 0 rfl 1 (by decide) lq_136 rfl rfl rfl (Nat.le_of_ble_eq_true rfl) dX5_append_46 (fun H locs hP hD hS => ?_)
  have hP : va_P D vwCl [(a0, .inr (5, [.ref a1, .int 6])), (a1, .inl (k0, 80, .inl g_590))] H := hP
  have hD : va_D A [(a0, .inr (5, [.ref a1, .int 6])), (a1, .inl (k0, 80, .inl g_590))] := hD
  refine lv_iinc (v := 8) (lv' := [(2, .int 8), (0, .ref a0), (1, .int x0)]) hx hb dX5_append_49 hl (k := 0) rfl (by decide) (by decide) rfl (fun ls hl => ?_)
  refine lv_goto (tgt := 3) hx hb dX5_append_52 (by decide) ?_
  refine lv_iload_n hx hb dX5_append_3 rfl (lv_at hl 0 rfl) ?_
  refine lv_if_lt (tgt := 55) hx hb dX5_append_4 (by decide) (fun c_ => absurd c_ (by decide)) (fun _ => ?_)
  refine lv_aload_n hx hb dX5_append_7 rfl (lv_at hl 1 rfl) ?_
  refine ka_get C lq_135 rfl hK hP 0 rfl 1 (by decide) lq_136 rfl dX5_append_8 ?_
  refine lv_if_lt (tgt := 49) hx hb dX5_append_11 (by decide) (fun c_ => absurd c_ (by decide)) (fun _ => ?_)
  refine lv_aload_n hx hb dX5_append_14 rfl (lv_at hl 1 rfl) ?_
  refine ka_get C lq_135 rfl hK hP 0 rfl 1 (by decide) lq_136 rfl dX5_append_15 ?_
  refine lv_aload_n hx hb dX5_append_18 rfl (lv_at hl 1 rfl) ?_
  refine ka_get C lq_135 rfl hK hP 0 rfl 0 (by decide) lq_137 rfl dX5_append_19 ?_
  refine va_alen hx hb hK hP 1 0 rfl (ty := .byte) rfl (v := 80) rfl dX5_append_22 ?_
  refine lv_icmp_ge (tgt := 49) hx hb dX5_append_23 (by decide) (fun c_ => absurd c_ (by decide)) (fun _ => ?_)
  refine lv_aload_n hx hb dX5_append_26 rfl (lv_at hl 1 rfl) ?_
  refine ka_get C lq_135 rfl hK hP 0 rfl 0 (by decide) lq_137 rfl dX5_append_27 ?_
  refine lv_aload_n hx hb dX5_append_30 rfl (lv_at hl 1 rfl) ?_
  refine ka_get C lq_135 rfl hK hP 0 rfl 1 (by decide) lq_136 rfl dX5_append_31 ?_
  refine lv_iload_n hx hb dX5_append_34 rfl (lv_at hl 2 rfl) ?_
  refine lv_iload_n hx hb dX5_append_35 rfl (lv_at hl 0 rfl) ?_
  refine lv_iushr hx hb dX5_append_36 rfl ?_
  refine lv_topi (fun v_591 ev_591 => ?_)
  refine lv_i2b hx hb dX5_append_37 rfl ?_
  refine lv_topi (fun v_592 ev_592 => ?_)
  refine va_bast hx hb hK hP hD hS 1 0 rfl rfl (ka_in (by decide) (by decide)) dX5_append_38 (fun H locs hP hD hS => ?_)
  have hP : va_P D vwCl [(a0, .inr (5, [.ref a1, .int 6])), (a1, .inl (k0, 80, .inl (upd g_590 (Int32.toNatClampNeg 6) (vp_nar .byte v_592))))] H := hP
  have hD : va_D A [(a0, .inr (5, [.ref a1, .int 6])), (a1, .inl (k0, 80, .inl (upd g_590 (Int32.toNatClampNeg 6) (vp_nar .byte v_592))))] := hD
  generalize (upd g_590 (Int32.toNatClampNeg 6) (vp_nar .byte v_592)) = g_593 at hP hD
  refine lv_aload_n hx hb dX5_append_39 rfl (lv_at hl 1 rfl) ?_
  refine lv_dup hx hb dX5_append_40 rfl ?_
  refine ka_get C lq_135 rfl hK hP 0 rfl 1 (by decide) lq_136 rfl dX5_append_41 ?_
  refine lv_iconst (v := 1) hx hb dX5_append_44 (by decide) ?_
  refine lv_iadd hx hb dX5_append_45 ?_
  refine ka_top (w := .int 7) (congrArg Value.int (by decide)) ?_
  refine ka_put C lq_135 tyX5 tyX5_ok nmX5 rfl hK hP hD hS 0 rfl 1 (by decide) lq_136 rfl rfl rfl (Nat.le_of_ble_eq_true rfl) dX5_append_46 (fun H locs hP hD hS => ?_)
  have hP : va_P D vwCl [(a0, .inr (5, [.ref a1, .int 7])), (a1, .inl (k0, 80, .inl g_593))] H := hP
  have hD : va_D A [(a0, .inr (5, [.ref a1, .int 7])), (a1, .inl (k0, 80, .inl g_593))] := hD
  refine lv_iinc (v := 0) (lv' := [(2, .int 0), (0, .ref a0), (1, .int x0)]) hx hb dX5_append_49 hl (k := 0) rfl (by decide) (by decide) rfl (fun ls hl => ?_)
  refine lv_goto (tgt := 3) hx hb dX5_append_52 (by decide) ?_
  refine lv_iload_n hx hb dX5_append_3 rfl (lv_at hl 0 rfl) ?_
  refine lv_if_lt (tgt := 55) hx hb dX5_append_4 (by decide) (fun c_ => absurd c_ (by decide)) (fun _ => ?_)
  refine lv_aload_n hx hb dX5_append_7 rfl (lv_at hl 1 rfl) ?_
  refine ka_get C lq_135 rfl hK hP 0 rfl 1 (by decide) lq_136 rfl dX5_append_8 ?_
  refine lv_if_lt (tgt := 49) hx hb dX5_append_11 (by decide) (fun c_ => absurd c_ (by decide)) (fun _ => ?_)
  refine lv_aload_n hx hb dX5_append_14 rfl (lv_at hl 1 rfl) ?_
  refine ka_get C lq_135 rfl hK hP 0 rfl 1 (by decide) lq_136 rfl dX5_append_15 ?_
  refine lv_aload_n hx hb dX5_append_18 rfl (lv_at hl 1 rfl) ?_
  refine ka_get C lq_135 rfl hK hP 0 rfl 0 (by decide) lq_137 rfl dX5_append_19 ?_
  refine va_alen hx hb hK hP 1 0 rfl (ty := .byte) rfl (v := 80) rfl dX5_append_22 ?_
  refine lv_icmp_ge (tgt := 49) hx hb dX5_append_23 (by decide) (fun c_ => absurd c_ (by decide)) (fun _ => ?_)
  refine lv_aload_n hx hb dX5_append_26 rfl (lv_at hl 1 rfl) ?_
  refine ka_get C lq_135 rfl hK hP 0 rfl 0 (by decide) lq_137 rfl dX5_append_27 ?_
  refine lv_aload_n hx hb dX5_append_30 rfl (lv_at hl 1 rfl) ?_
  refine ka_get C lq_135 rfl hK hP 0 rfl 1 (by decide) lq_136 rfl dX5_append_31 ?_
  refine lv_iload_n hx hb dX5_append_34 rfl (lv_at hl 2 rfl) ?_
  refine lv_iload_n hx hb dX5_append_35 rfl (lv_at hl 0 rfl) ?_
  refine lv_iushr hx hb dX5_append_36 rfl ?_
  refine lv_topi (fun v_594 ev_594 => ?_)
  refine lv_i2b hx hb dX5_append_37 rfl ?_
  refine lv_topi (fun v_595 ev_595 => ?_)
  refine va_bast hx hb hK hP hD hS 1 0 rfl rfl (ka_in (by decide) (by decide)) dX5_append_38 (fun H locs hP hD hS => ?_)
  have hP : va_P D vwCl [(a0, .inr (5, [.ref a1, .int 7])), (a1, .inl (k0, 80, .inl (upd g_593 (Int32.toNatClampNeg 7) (vp_nar .byte v_595))))] H := hP
  have hD : va_D A [(a0, .inr (5, [.ref a1, .int 7])), (a1, .inl (k0, 80, .inl (upd g_593 (Int32.toNatClampNeg 7) (vp_nar .byte v_595))))] := hD
  generalize (upd g_593 (Int32.toNatClampNeg 7) (vp_nar .byte v_595)) = g_596 at hP hD
  refine lv_aload_n hx hb dX5_append_39 rfl (lv_at hl 1 rfl) ?_
  refine lv_dup hx hb dX5_append_40 rfl ?_
  refine ka_get C lq_135 rfl hK hP 0 rfl 1 (by decide) lq_136 rfl dX5_append_41 ?_
  refine lv_iconst (v := 1) hx hb dX5_append_44 (by decide) ?_
  refine lv_iadd hx hb dX5_append_45 ?_
  refine ka_top (w := .int 8) (congrArg Value.int (by decide)) ?_
  refine ka_put C lq_135 tyX5 tyX5_ok nmX5 rfl hK hP hD hS 0 rfl 1 (by decide) lq_136 rfl rfl rfl (Nat.le_of_ble_eq_true rfl) dX5_append_46 (fun H locs hP hD hS => ?_)
  have hP : va_P D vwCl [(a0, .inr (5, [.ref a1, .int 8])), (a1, .inl (k0, 80, .inl g_596))] H := hP
  have hD : va_D A [(a0, .inr (5, [.ref a1, .int 8])), (a1, .inl (k0, 80, .inl g_596))] := hD
  refine lv_iinc (v := (-8)) (lv' := [(2, .int (-8)), (0, .ref a0), (1, .int x0)]) hx hb dX5_append_49 hl (k := 0) rfl (by decide) (by decide) rfl (fun ls hl => ?_)
  refine lv_goto (tgt := 3) hx hb dX5_append_52 (by decide) ?_
  refine lv_iload_n hx hb dX5_append_3 rfl (lv_at hl 0 rfl) ?_
  refine lv_if_lt (tgt := 55) hx hb dX5_append_4 (by decide) (fun _ => ?_) (fun c_ => absurd (by decide) c_)
  exact ka_rEv C hr hlk (Nat.le_of_ble_eq_true rfl) (Nat.le_of_ble_eq_true rfl) hS (ka_qE g_596 rfl trivial hK hP hD hS [0, 1] (by decide) rfl [] rfl) dX5_append_55
set_option maxHeartbeats 4000000 in
set_option maxRecDepth 100000 in
theorem ct_X5_append_10 (l : Launch) (D : va_G) (a0 : Nat) (x0 : Int32) (a1 : Nat) (k0 : ClassId) (f0 : Nat → Int32) : ka_E (S := (Nat → Int32)) l D yX5_append wsX5_append 0 0 0 0 [.ref a0, .int x0] [(a0, .inr (5, [.ref a1, .int 8])), (a1, .inl (k0, 80, .inl f0))] [(k0, .byte)] (fun u => none) (fun _ => True) (fun u => [(a0, .inr (5, [.ref a1, .int 12])), (a1, .inl (k0, 80, .inl u))]) (fun u => []) := by
  refine ka_E_of (cc := cX5_append) (maxL := 3) (ret := none) (by decide) rfl (Nat.le_of_ble_eq_true rfl) ?_
  intro p e s m below meth c ls A C hr hlk hin hP hK hD hS hA hE hN hl
  have C : CallFix p m c cX5_append 3 s [.ref a0, .int x0].toArray wsX5_append RX5 := C
  obtain ⟨hx, hb, hml, hown, hts⟩ := id C
  have hl : lv_has ls 3 [(0, .ref a0), (1, .int x0)] := hl
  have rx0 := ka_rng x0
  refine lv_bipush (v := 24) hx hb dX5_append_0 (by decide) ?_
  refine lv_istore_n (lv' := [(2, .int 24), (0, .ref a0), (1, .int x0)]) hx hb dX5_append_2 rfl hl (by decide) rfl (fun ls hl => ?_)
  refine lv_iload_n hx hb dX5_append_3 rfl (lv_at hl 0 rfl) ?_
  refine lv_if_lt (tgt := 55) hx hb dX5_append_4 (by decide) (fun c_ => absurd c_ (by decide)) (fun _ => ?_)
  refine lv_aload_n hx hb dX5_append_7 rfl (lv_at hl 1 rfl) ?_
  refine ka_get C lq_135 rfl hK hP 0 rfl 1 (by decide) lq_136 rfl dX5_append_8 ?_
  refine lv_if_lt (tgt := 49) hx hb dX5_append_11 (by decide) (fun c_ => absurd c_ (by decide)) (fun _ => ?_)
  refine lv_aload_n hx hb dX5_append_14 rfl (lv_at hl 1 rfl) ?_
  refine ka_get C lq_135 rfl hK hP 0 rfl 1 (by decide) lq_136 rfl dX5_append_15 ?_
  refine lv_aload_n hx hb dX5_append_18 rfl (lv_at hl 1 rfl) ?_
  refine ka_get C lq_135 rfl hK hP 0 rfl 0 (by decide) lq_137 rfl dX5_append_19 ?_
  refine va_alen hx hb hK hP 1 0 rfl (ty := .byte) rfl (v := 80) rfl dX5_append_22 ?_
  refine lv_icmp_ge (tgt := 49) hx hb dX5_append_23 (by decide) (fun c_ => absurd c_ (by decide)) (fun _ => ?_)
  refine lv_aload_n hx hb dX5_append_26 rfl (lv_at hl 1 rfl) ?_
  refine ka_get C lq_135 rfl hK hP 0 rfl 0 (by decide) lq_137 rfl dX5_append_27 ?_
  refine lv_aload_n hx hb dX5_append_30 rfl (lv_at hl 1 rfl) ?_
  refine ka_get C lq_135 rfl hK hP 0 rfl 1 (by decide) lq_136 rfl dX5_append_31 ?_
  refine lv_iload_n hx hb dX5_append_34 rfl (lv_at hl 2 rfl) ?_
  refine lv_iload_n hx hb dX5_append_35 rfl (lv_at hl 0 rfl) ?_
  refine lv_iushr hx hb dX5_append_36 rfl ?_
  refine lv_topi (fun v_622 ev_622 => ?_)
  refine lv_i2b hx hb dX5_append_37 rfl ?_
  refine lv_topi (fun v_623 ev_623 => ?_)
  refine va_bast hx hb hK hP hD hS 1 0 rfl rfl (ka_in (by decide) (by decide)) dX5_append_38 (fun H locs hP hD hS => ?_)
  have hP : va_P D vwCl [(a0, .inr (5, [.ref a1, .int 8])), (a1, .inl (k0, 80, .inl (upd f0 (Int32.toNatClampNeg 8) (vp_nar .byte v_623))))] H := hP
  have hD : va_D A [(a0, .inr (5, [.ref a1, .int 8])), (a1, .inl (k0, 80, .inl (upd f0 (Int32.toNatClampNeg 8) (vp_nar .byte v_623))))] := hD
  generalize (upd f0 (Int32.toNatClampNeg 8) (vp_nar .byte v_623)) = g_624 at hP hD
  refine lv_aload_n hx hb dX5_append_39 rfl (lv_at hl 1 rfl) ?_
  refine lv_dup hx hb dX5_append_40 rfl ?_
  refine ka_get C lq_135 rfl hK hP 0 rfl 1 (by decide) lq_136 rfl dX5_append_41 ?_
  refine lv_iconst (v := 1) hx hb dX5_append_44 (by decide) ?_
  refine lv_iadd hx hb dX5_append_45 ?_
  refine ka_top (w := .int 9) (congrArg Value.int (by decide)) ?_
  refine ka_put C lq_135 tyX5 tyX5_ok nmX5 rfl hK hP hD hS 0 rfl 1 (by decide) lq_136 rfl rfl rfl (Nat.le_of_ble_eq_true rfl) dX5_append_46 (fun H locs hP hD hS => ?_)
  have hP : va_P D vwCl [(a0, .inr (5, [.ref a1, .int 9])), (a1, .inl (k0, 80, .inl g_624))] H := hP
  have hD : va_D A [(a0, .inr (5, [.ref a1, .int 9])), (a1, .inl (k0, 80, .inl g_624))] := hD
  refine lv_iinc (v := 16) (lv' := [(2, .int 16), (0, .ref a0), (1, .int x0)]) hx hb dX5_append_49 hl (k := 0) rfl (by decide) (by decide) rfl (fun ls hl => ?_)
  refine lv_goto (tgt := 3) hx hb dX5_append_52 (by decide) ?_
  refine lv_iload_n hx hb dX5_append_3 rfl (lv_at hl 0 rfl) ?_
  refine lv_if_lt (tgt := 55) hx hb dX5_append_4 (by decide) (fun c_ => absurd c_ (by decide)) (fun _ => ?_)
  refine lv_aload_n hx hb dX5_append_7 rfl (lv_at hl 1 rfl) ?_
  refine ka_get C lq_135 rfl hK hP 0 rfl 1 (by decide) lq_136 rfl dX5_append_8 ?_
  refine lv_if_lt (tgt := 49) hx hb dX5_append_11 (by decide) (fun c_ => absurd c_ (by decide)) (fun _ => ?_)
  refine lv_aload_n hx hb dX5_append_14 rfl (lv_at hl 1 rfl) ?_
  refine ka_get C lq_135 rfl hK hP 0 rfl 1 (by decide) lq_136 rfl dX5_append_15 ?_
  refine lv_aload_n hx hb dX5_append_18 rfl (lv_at hl 1 rfl) ?_
  refine ka_get C lq_135 rfl hK hP 0 rfl 0 (by decide) lq_137 rfl dX5_append_19 ?_
  refine va_alen hx hb hK hP 1 0 rfl (ty := .byte) rfl (v := 80) rfl dX5_append_22 ?_
  refine lv_icmp_ge (tgt := 49) hx hb dX5_append_23 (by decide) (fun c_ => absurd c_ (by decide)) (fun _ => ?_)
  refine lv_aload_n hx hb dX5_append_26 rfl (lv_at hl 1 rfl) ?_
  refine ka_get C lq_135 rfl hK hP 0 rfl 0 (by decide) lq_137 rfl dX5_append_27 ?_
  refine lv_aload_n hx hb dX5_append_30 rfl (lv_at hl 1 rfl) ?_
  refine ka_get C lq_135 rfl hK hP 0 rfl 1 (by decide) lq_136 rfl dX5_append_31 ?_
  refine lv_iload_n hx hb dX5_append_34 rfl (lv_at hl 2 rfl) ?_
  refine lv_iload_n hx hb dX5_append_35 rfl (lv_at hl 0 rfl) ?_
  refine lv_iushr hx hb dX5_append_36 rfl ?_
  refine lv_topi (fun v_625 ev_625 => ?_)
  refine lv_i2b hx hb dX5_append_37 rfl ?_
  refine lv_topi (fun v_626 ev_626 => ?_)
  refine va_bast hx hb hK hP hD hS 1 0 rfl rfl (ka_in (by decide) (by decide)) dX5_append_38 (fun H locs hP hD hS => ?_)
  have hP : va_P D vwCl [(a0, .inr (5, [.ref a1, .int 9])), (a1, .inl (k0, 80, .inl (upd g_624 (Int32.toNatClampNeg 9) (vp_nar .byte v_626))))] H := hP
  have hD : va_D A [(a0, .inr (5, [.ref a1, .int 9])), (a1, .inl (k0, 80, .inl (upd g_624 (Int32.toNatClampNeg 9) (vp_nar .byte v_626))))] := hD
  generalize (upd g_624 (Int32.toNatClampNeg 9) (vp_nar .byte v_626)) = g_627 at hP hD
  refine lv_aload_n hx hb dX5_append_39 rfl (lv_at hl 1 rfl) ?_
  refine lv_dup hx hb dX5_append_40 rfl ?_
  refine ka_get C lq_135 rfl hK hP 0 rfl 1 (by decide) lq_136 rfl dX5_append_41 ?_
  refine lv_iconst (v := 1) hx hb dX5_append_44 (by decide) ?_
  refine lv_iadd hx hb dX5_append_45 ?_
  refine ka_top (w := .int 10) (congrArg Value.int (by decide)) ?_
  refine ka_put C lq_135 tyX5 tyX5_ok nmX5 rfl hK hP hD hS 0 rfl 1 (by decide) lq_136 rfl rfl rfl (Nat.le_of_ble_eq_true rfl) dX5_append_46 (fun H locs hP hD hS => ?_)
  have hP : va_P D vwCl [(a0, .inr (5, [.ref a1, .int 10])), (a1, .inl (k0, 80, .inl g_627))] H := hP
  have hD : va_D A [(a0, .inr (5, [.ref a1, .int 10])), (a1, .inl (k0, 80, .inl g_627))] := hD
  refine lv_iinc (v := 8) (lv' := [(2, .int 8), (0, .ref a0), (1, .int x0)]) hx hb dX5_append_49 hl (k := 0) rfl (by decide) (by decide) rfl (fun ls hl => ?_)
  refine lv_goto (tgt := 3) hx hb dX5_append_52 (by decide) ?_
  refine lv_iload_n hx hb dX5_append_3 rfl (lv_at hl 0 rfl) ?_
  refine lv_if_lt (tgt := 55) hx hb dX5_append_4 (by decide) (fun c_ => absurd c_ (by decide)) (fun _ => ?_)
  refine lv_aload_n hx hb dX5_append_7 rfl (lv_at hl 1 rfl) ?_
  refine ka_get C lq_135 rfl hK hP 0 rfl 1 (by decide) lq_136 rfl dX5_append_8 ?_
  refine lv_if_lt (tgt := 49) hx hb dX5_append_11 (by decide) (fun c_ => absurd c_ (by decide)) (fun _ => ?_)
  refine lv_aload_n hx hb dX5_append_14 rfl (lv_at hl 1 rfl) ?_
  refine ka_get C lq_135 rfl hK hP 0 rfl 1 (by decide) lq_136 rfl dX5_append_15 ?_
  refine lv_aload_n hx hb dX5_append_18 rfl (lv_at hl 1 rfl) ?_
  refine ka_get C lq_135 rfl hK hP 0 rfl 0 (by decide) lq_137 rfl dX5_append_19 ?_
  refine va_alen hx hb hK hP 1 0 rfl (ty := .byte) rfl (v := 80) rfl dX5_append_22 ?_
  refine lv_icmp_ge (tgt := 49) hx hb dX5_append_23 (by decide) (fun c_ => absurd c_ (by decide)) (fun _ => ?_)
  refine lv_aload_n hx hb dX5_append_26 rfl (lv_at hl 1 rfl) ?_
  refine ka_get C lq_135 rfl hK hP 0 rfl 0 (by decide) lq_137 rfl dX5_append_27 ?_
  refine lv_aload_n hx hb dX5_append_30 rfl (lv_at hl 1 rfl) ?_
  refine ka_get C lq_135 rfl hK hP 0 rfl 1 (by decide) lq_136 rfl dX5_append_31 ?_
  refine lv_iload_n hx hb dX5_append_34 rfl (lv_at hl 2 rfl) ?_
  refine lv_iload_n hx hb dX5_append_35 rfl (lv_at hl 0 rfl) ?_
  refine lv_iushr hx hb dX5_append_36 rfl ?_
  refine lv_topi (fun v_628 ev_628 => ?_)
  refine lv_i2b hx hb dX5_append_37 rfl ?_
  refine lv_topi (fun v_629 ev_629 => ?_)
  refine va_bast hx hb hK hP hD hS 1 0 rfl rfl (ka_in (by decide) (by decide)) dX5_append_38 (fun H locs hP hD hS => ?_)
  have hP : va_P D vwCl [(a0, .inr (5, [.ref a1, .int 10])), (a1, .inl (k0, 80, .inl (upd g_627 (Int32.toNatClampNeg 10) (vp_nar .byte v_629))))] H := hP
  have hD : va_D A [(a0, .inr (5, [.ref a1, .int 10])), (a1, .inl (k0, 80, .inl (upd g_627 (Int32.toNatClampNeg 10) (vp_nar .byte v_629))))] := hD
  generalize (upd g_627 (Int32.toNatClampNeg 10) (vp_nar .byte v_629)) = g_630 at hP hD
  refine lv_aload_n hx hb dX5_append_39 rfl (lv_at hl 1 rfl) ?_
  refine lv_dup hx hb dX5_append_40 rfl ?_
  refine ka_get C lq_135 rfl hK hP 0 rfl 1 (by decide) lq_136 rfl dX5_append_41 ?_
  refine lv_iconst (v := 1) hx hb dX5_append_44 (by decide) ?_
  refine lv_iadd hx hb dX5_append_45 ?_
  refine ka_top (w := .int 11) (congrArg Value.int (by decide)) ?_
  refine ka_put C lq_135 tyX5 tyX5_ok nmX5 rfl hK hP hD hS 0 rfl 1 (by decide) lq_136 rfl rfl rfl (Nat.le_of_ble_eq_true rfl) dX5_append_46 (fun H locs hP hD hS => ?_)
  have hP : va_P D vwCl [(a0, .inr (5, [.ref a1, .int 11])), (a1, .inl (k0, 80, .inl g_630))] H := hP
  have hD : va_D A [(a0, .inr (5, [.ref a1, .int 11])), (a1, .inl (k0, 80, .inl g_630))] := hD
  refine lv_iinc (v := 0) (lv' := [(2, .int 0), (0, .ref a0), (1, .int x0)]) hx hb dX5_append_49 hl (k := 0) rfl (by decide) (by decide) rfl (fun ls hl => ?_)
  refine lv_goto (tgt := 3) hx hb dX5_append_52 (by decide) ?_
  refine lv_iload_n hx hb dX5_append_3 rfl (lv_at hl 0 rfl) ?_
  refine lv_if_lt (tgt := 55) hx hb dX5_append_4 (by decide) (fun c_ => absurd c_ (by decide)) (fun _ => ?_)
  refine lv_aload_n hx hb dX5_append_7 rfl (lv_at hl 1 rfl) ?_
  refine ka_get C lq_135 rfl hK hP 0 rfl 1 (by decide) lq_136 rfl dX5_append_8 ?_
  refine lv_if_lt (tgt := 49) hx hb dX5_append_11 (by decide) (fun c_ => absurd c_ (by decide)) (fun _ => ?_)
  refine lv_aload_n hx hb dX5_append_14 rfl (lv_at hl 1 rfl) ?_
  refine ka_get C lq_135 rfl hK hP 0 rfl 1 (by decide) lq_136 rfl dX5_append_15 ?_
  refine lv_aload_n hx hb dX5_append_18 rfl (lv_at hl 1 rfl) ?_
  refine ka_get C lq_135 rfl hK hP 0 rfl 0 (by decide) lq_137 rfl dX5_append_19 ?_
  refine va_alen hx hb hK hP 1 0 rfl (ty := .byte) rfl (v := 80) rfl dX5_append_22 ?_
  refine lv_icmp_ge (tgt := 49) hx hb dX5_append_23 (by decide) (fun c_ => absurd c_ (by decide)) (fun _ => ?_)
  refine lv_aload_n hx hb dX5_append_26 rfl (lv_at hl 1 rfl) ?_
  refine ka_get C lq_135 rfl hK hP 0 rfl 0 (by decide) lq_137 rfl dX5_append_27 ?_
  refine lv_aload_n hx hb dX5_append_30 rfl (lv_at hl 1 rfl) ?_
  refine ka_get C lq_135 rfl hK hP 0 rfl 1 (by decide) lq_136 rfl dX5_append_31 ?_
  refine lv_iload_n hx hb dX5_append_34 rfl (lv_at hl 2 rfl) ?_
  refine lv_iload_n hx hb dX5_append_35 rfl (lv_at hl 0 rfl) ?_
  refine lv_iushr hx hb dX5_append_36 rfl ?_
  refine lv_topi (fun v_631 ev_631 => ?_)
  refine lv_i2b hx hb dX5_append_37 rfl ?_
  refine lv_topi (fun v_632 ev_632 => ?_)
  refine va_bast hx hb hK hP hD hS 1 0 rfl rfl (ka_in (by decide) (by decide)) dX5_append_38 (fun H locs hP hD hS => ?_)
  have hP : va_P D vwCl [(a0, .inr (5, [.ref a1, .int 11])), (a1, .inl (k0, 80, .inl (upd g_630 (Int32.toNatClampNeg 11) (vp_nar .byte v_632))))] H := hP
  have hD : va_D A [(a0, .inr (5, [.ref a1, .int 11])), (a1, .inl (k0, 80, .inl (upd g_630 (Int32.toNatClampNeg 11) (vp_nar .byte v_632))))] := hD
  generalize (upd g_630 (Int32.toNatClampNeg 11) (vp_nar .byte v_632)) = g_633 at hP hD
  refine lv_aload_n hx hb dX5_append_39 rfl (lv_at hl 1 rfl) ?_
  refine lv_dup hx hb dX5_append_40 rfl ?_
  refine ka_get C lq_135 rfl hK hP 0 rfl 1 (by decide) lq_136 rfl dX5_append_41 ?_
  refine lv_iconst (v := 1) hx hb dX5_append_44 (by decide) ?_
  refine lv_iadd hx hb dX5_append_45 ?_
  refine ka_top (w := .int 12) (congrArg Value.int (by decide)) ?_
  refine ka_put C lq_135 tyX5 tyX5_ok nmX5 rfl hK hP hD hS 0 rfl 1 (by decide) lq_136 rfl rfl rfl (Nat.le_of_ble_eq_true rfl) dX5_append_46 (fun H locs hP hD hS => ?_)
  have hP : va_P D vwCl [(a0, .inr (5, [.ref a1, .int 12])), (a1, .inl (k0, 80, .inl g_633))] H := hP
  have hD : va_D A [(a0, .inr (5, [.ref a1, .int 12])), (a1, .inl (k0, 80, .inl g_633))] := hD
  refine lv_iinc (v := (-8)) (lv' := [(2, .int (-8)), (0, .ref a0), (1, .int x0)]) hx hb dX5_append_49 hl (k := 0) rfl (by decide) (by decide) rfl (fun ls hl => ?_)
  refine lv_goto (tgt := 3) hx hb dX5_append_52 (by decide) ?_
  refine lv_iload_n hx hb dX5_append_3 rfl (lv_at hl 0 rfl) ?_
  refine lv_if_lt (tgt := 55) hx hb dX5_append_4 (by decide) (fun _ => ?_) (fun c_ => absurd (by decide) c_)
  exact ka_rEv C hr hlk (Nat.le_of_ble_eq_true rfl) (Nat.le_of_ble_eq_true rfl) hS (ka_qE g_633 rfl trivial hK hP hD hS [0, 1] (by decide) rfl [] rfl) dX5_append_55
set_option maxHeartbeats 4000000 in
set_option maxRecDepth 100000 in
theorem ct_X5_append_11 (l : Launch) (D : va_G) (a0 : Nat) (x0 : Int32) (a1 : Nat) (k0 : ClassId) (f0 : Nat → Int32) : ka_E (S := (Nat → Int32)) l D yX5_append wsX5_append 0 0 0 0 [.ref a0, .int x0] [(a0, .inr (5, [.ref a1, .int 12])), (a1, .inl (k0, 80, .inl f0))] [(k0, .byte)] (fun u => none) (fun _ => True) (fun u => [(a0, .inr (5, [.ref a1, .int 16])), (a1, .inl (k0, 80, .inl u))]) (fun u => []) := by
  refine ka_E_of (cc := cX5_append) (maxL := 3) (ret := none) (by decide) rfl (Nat.le_of_ble_eq_true rfl) ?_
  intro p e s m below meth c ls A C hr hlk hin hP hK hD hS hA hE hN hl
  have C : CallFix p m c cX5_append 3 s [.ref a0, .int x0].toArray wsX5_append RX5 := C
  obtain ⟨hx, hb, hml, hown, hts⟩ := id C
  have hl : lv_has ls 3 [(0, .ref a0), (1, .int x0)] := hl
  have rx0 := ka_rng x0
  refine lv_bipush (v := 24) hx hb dX5_append_0 (by decide) ?_
  refine lv_istore_n (lv' := [(2, .int 24), (0, .ref a0), (1, .int x0)]) hx hb dX5_append_2 rfl hl (by decide) rfl (fun ls hl => ?_)
  refine lv_iload_n hx hb dX5_append_3 rfl (lv_at hl 0 rfl) ?_
  refine lv_if_lt (tgt := 55) hx hb dX5_append_4 (by decide) (fun c_ => absurd c_ (by decide)) (fun _ => ?_)
  refine lv_aload_n hx hb dX5_append_7 rfl (lv_at hl 1 rfl) ?_
  refine ka_get C lq_135 rfl hK hP 0 rfl 1 (by decide) lq_136 rfl dX5_append_8 ?_
  refine lv_if_lt (tgt := 49) hx hb dX5_append_11 (by decide) (fun c_ => absurd c_ (by decide)) (fun _ => ?_)
  refine lv_aload_n hx hb dX5_append_14 rfl (lv_at hl 1 rfl) ?_
  refine ka_get C lq_135 rfl hK hP 0 rfl 1 (by decide) lq_136 rfl dX5_append_15 ?_
  refine lv_aload_n hx hb dX5_append_18 rfl (lv_at hl 1 rfl) ?_
  refine ka_get C lq_135 rfl hK hP 0 rfl 0 (by decide) lq_137 rfl dX5_append_19 ?_
  refine va_alen hx hb hK hP 1 0 rfl (ty := .byte) rfl (v := 80) rfl dX5_append_22 ?_
  refine lv_icmp_ge (tgt := 49) hx hb dX5_append_23 (by decide) (fun c_ => absurd c_ (by decide)) (fun _ => ?_)
  refine lv_aload_n hx hb dX5_append_26 rfl (lv_at hl 1 rfl) ?_
  refine ka_get C lq_135 rfl hK hP 0 rfl 0 (by decide) lq_137 rfl dX5_append_27 ?_
  refine lv_aload_n hx hb dX5_append_30 rfl (lv_at hl 1 rfl) ?_
  refine ka_get C lq_135 rfl hK hP 0 rfl 1 (by decide) lq_136 rfl dX5_append_31 ?_
  refine lv_iload_n hx hb dX5_append_34 rfl (lv_at hl 2 rfl) ?_
  refine lv_iload_n hx hb dX5_append_35 rfl (lv_at hl 0 rfl) ?_
  refine lv_iushr hx hb dX5_append_36 rfl ?_
  refine lv_topi (fun v_659 ev_659 => ?_)
  refine lv_i2b hx hb dX5_append_37 rfl ?_
  refine lv_topi (fun v_660 ev_660 => ?_)
  refine va_bast hx hb hK hP hD hS 1 0 rfl rfl (ka_in (by decide) (by decide)) dX5_append_38 (fun H locs hP hD hS => ?_)
  have hP : va_P D vwCl [(a0, .inr (5, [.ref a1, .int 12])), (a1, .inl (k0, 80, .inl (upd f0 (Int32.toNatClampNeg 12) (vp_nar .byte v_660))))] H := hP
  have hD : va_D A [(a0, .inr (5, [.ref a1, .int 12])), (a1, .inl (k0, 80, .inl (upd f0 (Int32.toNatClampNeg 12) (vp_nar .byte v_660))))] := hD
  generalize (upd f0 (Int32.toNatClampNeg 12) (vp_nar .byte v_660)) = g_661 at hP hD
  refine lv_aload_n hx hb dX5_append_39 rfl (lv_at hl 1 rfl) ?_
  refine lv_dup hx hb dX5_append_40 rfl ?_
  refine ka_get C lq_135 rfl hK hP 0 rfl 1 (by decide) lq_136 rfl dX5_append_41 ?_
  refine lv_iconst (v := 1) hx hb dX5_append_44 (by decide) ?_
  refine lv_iadd hx hb dX5_append_45 ?_
  refine ka_top (w := .int 13) (congrArg Value.int (by decide)) ?_
  refine ka_put C lq_135 tyX5 tyX5_ok nmX5 rfl hK hP hD hS 0 rfl 1 (by decide) lq_136 rfl rfl rfl (Nat.le_of_ble_eq_true rfl) dX5_append_46 (fun H locs hP hD hS => ?_)
  have hP : va_P D vwCl [(a0, .inr (5, [.ref a1, .int 13])), (a1, .inl (k0, 80, .inl g_661))] H := hP
  have hD : va_D A [(a0, .inr (5, [.ref a1, .int 13])), (a1, .inl (k0, 80, .inl g_661))] := hD
  refine lv_iinc (v := 16) (lv' := [(2, .int 16), (0, .ref a0), (1, .int x0)]) hx hb dX5_append_49 hl (k := 0) rfl (by decide) (by decide) rfl (fun ls hl => ?_)
  refine lv_goto (tgt := 3) hx hb dX5_append_52 (by decide) ?_
  refine lv_iload_n hx hb dX5_append_3 rfl (lv_at hl 0 rfl) ?_
  refine lv_if_lt (tgt := 55) hx hb dX5_append_4 (by decide) (fun c_ => absurd c_ (by decide)) (fun _ => ?_)
  refine lv_aload_n hx hb dX5_append_7 rfl (lv_at hl 1 rfl) ?_
  refine ka_get C lq_135 rfl hK hP 0 rfl 1 (by decide) lq_136 rfl dX5_append_8 ?_
  refine lv_if_lt (tgt := 49) hx hb dX5_append_11 (by decide) (fun c_ => absurd c_ (by decide)) (fun _ => ?_)
  refine lv_aload_n hx hb dX5_append_14 rfl (lv_at hl 1 rfl) ?_
  refine ka_get C lq_135 rfl hK hP 0 rfl 1 (by decide) lq_136 rfl dX5_append_15 ?_
  refine lv_aload_n hx hb dX5_append_18 rfl (lv_at hl 1 rfl) ?_
  refine ka_get C lq_135 rfl hK hP 0 rfl 0 (by decide) lq_137 rfl dX5_append_19 ?_
  refine va_alen hx hb hK hP 1 0 rfl (ty := .byte) rfl (v := 80) rfl dX5_append_22 ?_
  refine lv_icmp_ge (tgt := 49) hx hb dX5_append_23 (by decide) (fun c_ => absurd c_ (by decide)) (fun _ => ?_)
  refine lv_aload_n hx hb dX5_append_26 rfl (lv_at hl 1 rfl) ?_
  refine ka_get C lq_135 rfl hK hP 0 rfl 0 (by decide) lq_137 rfl dX5_append_27 ?_
  refine lv_aload_n hx hb dX5_append_30 rfl (lv_at hl 1 rfl) ?_
  refine ka_get C lq_135 rfl hK hP 0 rfl 1 (by decide) lq_136 rfl dX5_append_31 ?_
  refine lv_iload_n hx hb dX5_append_34 rfl (lv_at hl 2 rfl) ?_
  refine lv_iload_n hx hb dX5_append_35 rfl (lv_at hl 0 rfl) ?_
  refine lv_iushr hx hb dX5_append_36 rfl ?_
  refine lv_topi (fun v_662 ev_662 => ?_)
  refine lv_i2b hx hb dX5_append_37 rfl ?_
  refine lv_topi (fun v_663 ev_663 => ?_)
  refine va_bast hx hb hK hP hD hS 1 0 rfl rfl (ka_in (by decide) (by decide)) dX5_append_38 (fun H locs hP hD hS => ?_)
  have hP : va_P D vwCl [(a0, .inr (5, [.ref a1, .int 13])), (a1, .inl (k0, 80, .inl (upd g_661 (Int32.toNatClampNeg 13) (vp_nar .byte v_663))))] H := hP
  have hD : va_D A [(a0, .inr (5, [.ref a1, .int 13])), (a1, .inl (k0, 80, .inl (upd g_661 (Int32.toNatClampNeg 13) (vp_nar .byte v_663))))] := hD
  generalize (upd g_661 (Int32.toNatClampNeg 13) (vp_nar .byte v_663)) = g_664 at hP hD
  refine lv_aload_n hx hb dX5_append_39 rfl (lv_at hl 1 rfl) ?_
  refine lv_dup hx hb dX5_append_40 rfl ?_
  refine ka_get C lq_135 rfl hK hP 0 rfl 1 (by decide) lq_136 rfl dX5_append_41 ?_
  refine lv_iconst (v := 1) hx hb dX5_append_44 (by decide) ?_
  refine lv_iadd hx hb dX5_append_45 ?_
  refine ka_top (w := .int 14) (congrArg Value.int (by decide)) ?_
  refine ka_put C lq_135 tyX5 tyX5_ok nmX5 rfl hK hP hD hS 0 rfl 1 (by decide) lq_136 rfl rfl rfl (Nat.le_of_ble_eq_true rfl) dX5_append_46 (fun H locs hP hD hS => ?_)
  have hP : va_P D vwCl [(a0, .inr (5, [.ref a1, .int 14])), (a1, .inl (k0, 80, .inl g_664))] H := hP
  have hD : va_D A [(a0, .inr (5, [.ref a1, .int 14])), (a1, .inl (k0, 80, .inl g_664))] := hD
  refine lv_iinc (v := 8) (lv' := [(2, .int 8), (0, .ref a0), (1, .int x0)]) hx hb dX5_append_49 hl (k := 0) rfl (by decide) (by decide) rfl (fun ls hl => ?_)
  refine lv_goto (tgt := 3) hx hb dX5_append_52 (by decide) ?_
  refine lv_iload_n hx hb dX5_append_3 rfl (lv_at hl 0 rfl) ?_
  refine lv_if_lt (tgt := 55) hx hb dX5_append_4 (by decide) (fun c_ => absurd c_ (by decide)) (fun _ => ?_)
  refine lv_aload_n hx hb dX5_append_7 rfl (lv_at hl 1 rfl) ?_
  refine ka_get C lq_135 rfl hK hP 0 rfl 1 (by decide) lq_136 rfl dX5_append_8 ?_
  refine lv_if_lt (tgt := 49) hx hb dX5_append_11 (by decide) (fun c_ => absurd c_ (by decide)) (fun _ => ?_)
  refine lv_aload_n hx hb dX5_append_14 rfl (lv_at hl 1 rfl) ?_
  refine ka_get C lq_135 rfl hK hP 0 rfl 1 (by decide) lq_136 rfl dX5_append_15 ?_
  refine lv_aload_n hx hb dX5_append_18 rfl (lv_at hl 1 rfl) ?_
  refine ka_get C lq_135 rfl hK hP 0 rfl 0 (by decide) lq_137 rfl dX5_append_19 ?_
  refine va_alen hx hb hK hP 1 0 rfl (ty := .byte) rfl (v := 80) rfl dX5_append_22 ?_
  refine lv_icmp_ge (tgt := 49) hx hb dX5_append_23 (by decide) (fun c_ => absurd c_ (by decide)) (fun _ => ?_)
  refine lv_aload_n hx hb dX5_append_26 rfl (lv_at hl 1 rfl) ?_
  refine ka_get C lq_135 rfl hK hP 0 rfl 0 (by decide) lq_137 rfl dX5_append_27 ?_
  refine lv_aload_n hx hb dX5_append_30 rfl (lv_at hl 1 rfl) ?_
  refine ka_get C lq_135 rfl hK hP 0 rfl 1 (by decide) lq_136 rfl dX5_append_31 ?_
  refine lv_iload_n hx hb dX5_append_34 rfl (lv_at hl 2 rfl) ?_
  refine lv_iload_n hx hb dX5_append_35 rfl (lv_at hl 0 rfl) ?_
  refine lv_iushr hx hb dX5_append_36 rfl ?_
  refine lv_topi (fun v_665 ev_665 => ?_)
  refine lv_i2b hx hb dX5_append_37 rfl ?_
  refine lv_topi (fun v_666 ev_666 => ?_)
  refine va_bast hx hb hK hP hD hS 1 0 rfl rfl (ka_in (by decide) (by decide)) dX5_append_38 (fun H locs hP hD hS => ?_)
  have hP : va_P D vwCl [(a0, .inr (5, [.ref a1, .int 14])), (a1, .inl (k0, 80, .inl (upd g_664 (Int32.toNatClampNeg 14) (vp_nar .byte v_666))))] H := hP
  have hD : va_D A [(a0, .inr (5, [.ref a1, .int 14])), (a1, .inl (k0, 80, .inl (upd g_664 (Int32.toNatClampNeg 14) (vp_nar .byte v_666))))] := hD
  generalize (upd g_664 (Int32.toNatClampNeg 14) (vp_nar .byte v_666)) = g_667 at hP hD
  refine lv_aload_n hx hb dX5_append_39 rfl (lv_at hl 1 rfl) ?_
  refine lv_dup hx hb dX5_append_40 rfl ?_
  refine ka_get C lq_135 rfl hK hP 0 rfl 1 (by decide) lq_136 rfl dX5_append_41 ?_
  refine lv_iconst (v := 1) hx hb dX5_append_44 (by decide) ?_
  refine lv_iadd hx hb dX5_append_45 ?_
  refine ka_top (w := .int 15) (congrArg Value.int (by decide)) ?_
  refine ka_put C lq_135 tyX5 tyX5_ok nmX5 rfl hK hP hD hS 0 rfl 1 (by decide) lq_136 rfl rfl rfl (Nat.le_of_ble_eq_true rfl) dX5_append_46 (fun H locs hP hD hS => ?_)
  have hP : va_P D vwCl [(a0, .inr (5, [.ref a1, .int 15])), (a1, .inl (k0, 80, .inl g_667))] H := hP
  have hD : va_D A [(a0, .inr (5, [.ref a1, .int 15])), (a1, .inl (k0, 80, .inl g_667))] := hD
  refine lv_iinc (v := 0) (lv' := [(2, .int 0), (0, .ref a0), (1, .int x0)]) hx hb dX5_append_49 hl (k := 0) rfl (by decide) (by decide) rfl (fun ls hl => ?_)
  refine lv_goto (tgt := 3) hx hb dX5_append_52 (by decide) ?_
  refine lv_iload_n hx hb dX5_append_3 rfl (lv_at hl 0 rfl) ?_
  refine lv_if_lt (tgt := 55) hx hb dX5_append_4 (by decide) (fun c_ => absurd c_ (by decide)) (fun _ => ?_)
  refine lv_aload_n hx hb dX5_append_7 rfl (lv_at hl 1 rfl) ?_
  refine ka_get C lq_135 rfl hK hP 0 rfl 1 (by decide) lq_136 rfl dX5_append_8 ?_
  refine lv_if_lt (tgt := 49) hx hb dX5_append_11 (by decide) (fun c_ => absurd c_ (by decide)) (fun _ => ?_)
  refine lv_aload_n hx hb dX5_append_14 rfl (lv_at hl 1 rfl) ?_
  refine ka_get C lq_135 rfl hK hP 0 rfl 1 (by decide) lq_136 rfl dX5_append_15 ?_
  refine lv_aload_n hx hb dX5_append_18 rfl (lv_at hl 1 rfl) ?_
  refine ka_get C lq_135 rfl hK hP 0 rfl 0 (by decide) lq_137 rfl dX5_append_19 ?_
  refine va_alen hx hb hK hP 1 0 rfl (ty := .byte) rfl (v := 80) rfl dX5_append_22 ?_
  refine lv_icmp_ge (tgt := 49) hx hb dX5_append_23 (by decide) (fun c_ => absurd c_ (by decide)) (fun _ => ?_)
  refine lv_aload_n hx hb dX5_append_26 rfl (lv_at hl 1 rfl) ?_
  refine ka_get C lq_135 rfl hK hP 0 rfl 0 (by decide) lq_137 rfl dX5_append_27 ?_
  refine lv_aload_n hx hb dX5_append_30 rfl (lv_at hl 1 rfl) ?_
  refine ka_get C lq_135 rfl hK hP 0 rfl 1 (by decide) lq_136 rfl dX5_append_31 ?_
  refine lv_iload_n hx hb dX5_append_34 rfl (lv_at hl 2 rfl) ?_
  refine lv_iload_n hx hb dX5_append_35 rfl (lv_at hl 0 rfl) ?_
  refine lv_iushr hx hb dX5_append_36 rfl ?_
  refine lv_topi (fun v_668 ev_668 => ?_)
  refine lv_i2b hx hb dX5_append_37 rfl ?_
  refine lv_topi (fun v_669 ev_669 => ?_)
  refine va_bast hx hb hK hP hD hS 1 0 rfl rfl (ka_in (by decide) (by decide)) dX5_append_38 (fun H locs hP hD hS => ?_)
  have hP : va_P D vwCl [(a0, .inr (5, [.ref a1, .int 15])), (a1, .inl (k0, 80, .inl (upd g_667 (Int32.toNatClampNeg 15) (vp_nar .byte v_669))))] H := hP
  have hD : va_D A [(a0, .inr (5, [.ref a1, .int 15])), (a1, .inl (k0, 80, .inl (upd g_667 (Int32.toNatClampNeg 15) (vp_nar .byte v_669))))] := hD
  generalize (upd g_667 (Int32.toNatClampNeg 15) (vp_nar .byte v_669)) = g_670 at hP hD
  refine lv_aload_n hx hb dX5_append_39 rfl (lv_at hl 1 rfl) ?_
  refine lv_dup hx hb dX5_append_40 rfl ?_
  refine ka_get C lq_135 rfl hK hP 0 rfl 1 (by decide) lq_136 rfl dX5_append_41 ?_
  refine lv_iconst (v := 1) hx hb dX5_append_44 (by decide) ?_
  refine lv_iadd hx hb dX5_append_45 ?_
  refine ka_top (w := .int 16) (congrArg Value.int (by decide)) ?_
  refine ka_put C lq_135 tyX5 tyX5_ok nmX5 rfl hK hP hD hS 0 rfl 1 (by decide) lq_136 rfl rfl rfl (Nat.le_of_ble_eq_true rfl) dX5_append_46 (fun H locs hP hD hS => ?_)
  have hP : va_P D vwCl [(a0, .inr (5, [.ref a1, .int 16])), (a1, .inl (k0, 80, .inl g_670))] H := hP
  have hD : va_D A [(a0, .inr (5, [.ref a1, .int 16])), (a1, .inl (k0, 80, .inl g_670))] := hD
  refine lv_iinc (v := (-8)) (lv' := [(2, .int (-8)), (0, .ref a0), (1, .int x0)]) hx hb dX5_append_49 hl (k := 0) rfl (by decide) (by decide) rfl (fun ls hl => ?_)
  refine lv_goto (tgt := 3) hx hb dX5_append_52 (by decide) ?_
  refine lv_iload_n hx hb dX5_append_3 rfl (lv_at hl 0 rfl) ?_
  refine lv_if_lt (tgt := 55) hx hb dX5_append_4 (by decide) (fun _ => ?_) (fun c_ => absurd (by decide) c_)
  exact ka_rEv C hr hlk (Nat.le_of_ble_eq_true rfl) (Nat.le_of_ble_eq_true rfl) hS (ka_qE g_670 rfl trivial hK hP hD hS [0, 1] (by decide) rfl [] rfl) dX5_append_55
set_option maxHeartbeats 4000000 in
set_option maxRecDepth 100000 in
theorem ct_X5_append_12 (l : Launch) (D : va_G) (a0 : Nat) (x0 : Int32) (a1 : Nat) (k0 : ClassId) (f0 : Nat → Int32) : ka_E (S := (Nat → Int32)) l D yX5_append wsX5_append 0 0 0 0 [.ref a0, .int x0] [(a0, .inr (5, [.ref a1, .int 16])), (a1, .inl (k0, 80, .inl f0))] [(k0, .byte)] (fun u => none) (fun _ => True) (fun u => [(a0, .inr (5, [.ref a1, .int 20])), (a1, .inl (k0, 80, .inl u))]) (fun u => []) := by
  refine ka_E_of (cc := cX5_append) (maxL := 3) (ret := none) (by decide) rfl (Nat.le_of_ble_eq_true rfl) ?_
  intro p e s m below meth c ls A C hr hlk hin hP hK hD hS hA hE hN hl
  have C : CallFix p m c cX5_append 3 s [.ref a0, .int x0].toArray wsX5_append RX5 := C
  obtain ⟨hx, hb, hml, hown, hts⟩ := id C
  have hl : lv_has ls 3 [(0, .ref a0), (1, .int x0)] := hl
  have rx0 := ka_rng x0
  refine lv_bipush (v := 24) hx hb dX5_append_0 (by decide) ?_
  refine lv_istore_n (lv' := [(2, .int 24), (0, .ref a0), (1, .int x0)]) hx hb dX5_append_2 rfl hl (by decide) rfl (fun ls hl => ?_)
  refine lv_iload_n hx hb dX5_append_3 rfl (lv_at hl 0 rfl) ?_
  refine lv_if_lt (tgt := 55) hx hb dX5_append_4 (by decide) (fun c_ => absurd c_ (by decide)) (fun _ => ?_)
  refine lv_aload_n hx hb dX5_append_7 rfl (lv_at hl 1 rfl) ?_
  refine ka_get C lq_135 rfl hK hP 0 rfl 1 (by decide) lq_136 rfl dX5_append_8 ?_
  refine lv_if_lt (tgt := 49) hx hb dX5_append_11 (by decide) (fun c_ => absurd c_ (by decide)) (fun _ => ?_)
  refine lv_aload_n hx hb dX5_append_14 rfl (lv_at hl 1 rfl) ?_
  refine ka_get C lq_135 rfl hK hP 0 rfl 1 (by decide) lq_136 rfl dX5_append_15 ?_
  refine lv_aload_n hx hb dX5_append_18 rfl (lv_at hl 1 rfl) ?_
  refine ka_get C lq_135 rfl hK hP 0 rfl 0 (by decide) lq_137 rfl dX5_append_19 ?_
  refine va_alen hx hb hK hP 1 0 rfl (ty := .byte) rfl (v := 80) rfl dX5_append_22 ?_
  refine lv_icmp_ge (tgt := 49) hx hb dX5_append_23 (by decide) (fun c_ => absurd c_ (by decide)) (fun _ => ?_)
  refine lv_aload_n hx hb dX5_append_26 rfl (lv_at hl 1 rfl) ?_
  refine ka_get C lq_135 rfl hK hP 0 rfl 0 (by decide) lq_137 rfl dX5_append_27 ?_
  refine lv_aload_n hx hb dX5_append_30 rfl (lv_at hl 1 rfl) ?_
  refine ka_get C lq_135 rfl hK hP 0 rfl 1 (by decide) lq_136 rfl dX5_append_31 ?_
  refine lv_iload_n hx hb dX5_append_34 rfl (lv_at hl 2 rfl) ?_
  refine lv_iload_n hx hb dX5_append_35 rfl (lv_at hl 0 rfl) ?_
  refine lv_iushr hx hb dX5_append_36 rfl ?_
  refine lv_topi (fun v_696 ev_696 => ?_)
  refine lv_i2b hx hb dX5_append_37 rfl ?_
  refine lv_topi (fun v_697 ev_697 => ?_)
  refine va_bast hx hb hK hP hD hS 1 0 rfl rfl (ka_in (by decide) (by decide)) dX5_append_38 (fun H locs hP hD hS => ?_)
  have hP : va_P D vwCl [(a0, .inr (5, [.ref a1, .int 16])), (a1, .inl (k0, 80, .inl (upd f0 (Int32.toNatClampNeg 16) (vp_nar .byte v_697))))] H := hP
  have hD : va_D A [(a0, .inr (5, [.ref a1, .int 16])), (a1, .inl (k0, 80, .inl (upd f0 (Int32.toNatClampNeg 16) (vp_nar .byte v_697))))] := hD
  generalize (upd f0 (Int32.toNatClampNeg 16) (vp_nar .byte v_697)) = g_698 at hP hD
  refine lv_aload_n hx hb dX5_append_39 rfl (lv_at hl 1 rfl) ?_
  refine lv_dup hx hb dX5_append_40 rfl ?_
  refine ka_get C lq_135 rfl hK hP 0 rfl 1 (by decide) lq_136 rfl dX5_append_41 ?_
  refine lv_iconst (v := 1) hx hb dX5_append_44 (by decide) ?_
  refine lv_iadd hx hb dX5_append_45 ?_
  refine ka_top (w := .int 17) (congrArg Value.int (by decide)) ?_
  refine ka_put C lq_135 tyX5 tyX5_ok nmX5 rfl hK hP hD hS 0 rfl 1 (by decide) lq_136 rfl rfl rfl (Nat.le_of_ble_eq_true rfl) dX5_append_46 (fun H locs hP hD hS => ?_)
  have hP : va_P D vwCl [(a0, .inr (5, [.ref a1, .int 17])), (a1, .inl (k0, 80, .inl g_698))] H := hP
  have hD : va_D A [(a0, .inr (5, [.ref a1, .int 17])), (a1, .inl (k0, 80, .inl g_698))] := hD
  refine lv_iinc (v := 16) (lv' := [(2, .int 16), (0, .ref a0), (1, .int x0)]) hx hb dX5_append_49 hl (k := 0) rfl (by decide) (by decide) rfl (fun ls hl => ?_)
  refine lv_goto (tgt := 3) hx hb dX5_append_52 (by decide) ?_
  refine lv_iload_n hx hb dX5_append_3 rfl (lv_at hl 0 rfl) ?_
  refine lv_if_lt (tgt := 55) hx hb dX5_append_4 (by decide) (fun c_ => absurd c_ (by decide)) (fun _ => ?_)
  refine lv_aload_n hx hb dX5_append_7 rfl (lv_at hl 1 rfl) ?_
  refine ka_get C lq_135 rfl hK hP 0 rfl 1 (by decide) lq_136 rfl dX5_append_8 ?_
  refine lv_if_lt (tgt := 49) hx hb dX5_append_11 (by decide) (fun c_ => absurd c_ (by decide)) (fun _ => ?_)
  refine lv_aload_n hx hb dX5_append_14 rfl (lv_at hl 1 rfl) ?_
  refine ka_get C lq_135 rfl hK hP 0 rfl 1 (by decide) lq_136 rfl dX5_append_15 ?_
  refine lv_aload_n hx hb dX5_append_18 rfl (lv_at hl 1 rfl) ?_
  refine ka_get C lq_135 rfl hK hP 0 rfl 0 (by decide) lq_137 rfl dX5_append_19 ?_
  refine va_alen hx hb hK hP 1 0 rfl (ty := .byte) rfl (v := 80) rfl dX5_append_22 ?_
  refine lv_icmp_ge (tgt := 49) hx hb dX5_append_23 (by decide) (fun c_ => absurd c_ (by decide)) (fun _ => ?_)
  refine lv_aload_n hx hb dX5_append_26 rfl (lv_at hl 1 rfl) ?_
  refine ka_get C lq_135 rfl hK hP 0 rfl 0 (by decide) lq_137 rfl dX5_append_27 ?_
  refine lv_aload_n hx hb dX5_append_30 rfl (lv_at hl 1 rfl) ?_
  refine ka_get C lq_135 rfl hK hP 0 rfl 1 (by decide) lq_136 rfl dX5_append_31 ?_
  refine lv_iload_n hx hb dX5_append_34 rfl (lv_at hl 2 rfl) ?_
  refine lv_iload_n hx hb dX5_append_35 rfl (lv_at hl 0 rfl) ?_
  refine lv_iushr hx hb dX5_append_36 rfl ?_
  refine lv_topi (fun v_699 ev_699 => ?_)
  refine lv_i2b hx hb dX5_append_37 rfl ?_
  refine lv_topi (fun v_700 ev_700 => ?_)
  refine va_bast hx hb hK hP hD hS 1 0 rfl rfl (ka_in (by decide) (by decide)) dX5_append_38 (fun H locs hP hD hS => ?_)
  have hP : va_P D vwCl [(a0, .inr (5, [.ref a1, .int 17])), (a1, .inl (k0, 80, .inl (upd g_698 (Int32.toNatClampNeg 17) (vp_nar .byte v_700))))] H := hP
  have hD : va_D A [(a0, .inr (5, [.ref a1, .int 17])), (a1, .inl (k0, 80, .inl (upd g_698 (Int32.toNatClampNeg 17) (vp_nar .byte v_700))))] := hD
  generalize (upd g_698 (Int32.toNatClampNeg 17) (vp_nar .byte v_700)) = g_701 at hP hD
  refine lv_aload_n hx hb dX5_append_39 rfl (lv_at hl 1 rfl) ?_
  refine lv_dup hx hb dX5_append_40 rfl ?_
  refine ka_get C lq_135 rfl hK hP 0 rfl 1 (by decide) lq_136 rfl dX5_append_41 ?_
  refine lv_iconst (v := 1) hx hb dX5_append_44 (by decide) ?_
  refine lv_iadd hx hb dX5_append_45 ?_
  refine ka_top (w := .int 18) (congrArg Value.int (by decide)) ?_
  refine ka_put C lq_135 tyX5 tyX5_ok nmX5 rfl hK hP hD hS 0 rfl 1 (by decide) lq_136 rfl rfl rfl (Nat.le_of_ble_eq_true rfl) dX5_append_46 (fun H locs hP hD hS => ?_)
  have hP : va_P D vwCl [(a0, .inr (5, [.ref a1, .int 18])), (a1, .inl (k0, 80, .inl g_701))] H := hP
  have hD : va_D A [(a0, .inr (5, [.ref a1, .int 18])), (a1, .inl (k0, 80, .inl g_701))] := hD
  refine lv_iinc (v := 8) (lv' := [(2, .int 8), (0, .ref a0), (1, .int x0)]) hx hb dX5_append_49 hl (k := 0) rfl (by decide) (by decide) rfl (fun ls hl => ?_)
  refine lv_goto (tgt := 3) hx hb dX5_append_52 (by decide) ?_
  refine lv_iload_n hx hb dX5_append_3 rfl (lv_at hl 0 rfl) ?_
  refine lv_if_lt (tgt := 55) hx hb dX5_append_4 (by decide) (fun c_ => absurd c_ (by decide)) (fun _ => ?_)
  refine lv_aload_n hx hb dX5_append_7 rfl (lv_at hl 1 rfl) ?_
  refine ka_get C lq_135 rfl hK hP 0 rfl 1 (by decide) lq_136 rfl dX5_append_8 ?_
  refine lv_if_lt (tgt := 49) hx hb dX5_append_11 (by decide) (fun c_ => absurd c_ (by decide)) (fun _ => ?_)
  refine lv_aload_n hx hb dX5_append_14 rfl (lv_at hl 1 rfl) ?_
  refine ka_get C lq_135 rfl hK hP 0 rfl 1 (by decide) lq_136 rfl dX5_append_15 ?_
  refine lv_aload_n hx hb dX5_append_18 rfl (lv_at hl 1 rfl) ?_
  refine ka_get C lq_135 rfl hK hP 0 rfl 0 (by decide) lq_137 rfl dX5_append_19 ?_
  refine va_alen hx hb hK hP 1 0 rfl (ty := .byte) rfl (v := 80) rfl dX5_append_22 ?_
  refine lv_icmp_ge (tgt := 49) hx hb dX5_append_23 (by decide) (fun c_ => absurd c_ (by decide)) (fun _ => ?_)
  refine lv_aload_n hx hb dX5_append_26 rfl (lv_at hl 1 rfl) ?_
  refine ka_get C lq_135 rfl hK hP 0 rfl 0 (by decide) lq_137 rfl dX5_append_27 ?_
  refine lv_aload_n hx hb dX5_append_30 rfl (lv_at hl 1 rfl) ?_
  refine ka_get C lq_135 rfl hK hP 0 rfl 1 (by decide) lq_136 rfl dX5_append_31 ?_
  refine lv_iload_n hx hb dX5_append_34 rfl (lv_at hl 2 rfl) ?_
  refine lv_iload_n hx hb dX5_append_35 rfl (lv_at hl 0 rfl) ?_
  refine lv_iushr hx hb dX5_append_36 rfl ?_
  refine lv_topi (fun v_702 ev_702 => ?_)
  refine lv_i2b hx hb dX5_append_37 rfl ?_
  refine lv_topi (fun v_703 ev_703 => ?_)
  refine va_bast hx hb hK hP hD hS 1 0 rfl rfl (ka_in (by decide) (by decide)) dX5_append_38 (fun H locs hP hD hS => ?_)
  have hP : va_P D vwCl [(a0, .inr (5, [.ref a1, .int 18])), (a1, .inl (k0, 80, .inl (upd g_701 (Int32.toNatClampNeg 18) (vp_nar .byte v_703))))] H := hP
  have hD : va_D A [(a0, .inr (5, [.ref a1, .int 18])), (a1, .inl (k0, 80, .inl (upd g_701 (Int32.toNatClampNeg 18) (vp_nar .byte v_703))))] := hD
  generalize (upd g_701 (Int32.toNatClampNeg 18) (vp_nar .byte v_703)) = g_704 at hP hD
  refine lv_aload_n hx hb dX5_append_39 rfl (lv_at hl 1 rfl) ?_
  refine lv_dup hx hb dX5_append_40 rfl ?_
  refine ka_get C lq_135 rfl hK hP 0 rfl 1 (by decide) lq_136 rfl dX5_append_41 ?_
  refine lv_iconst (v := 1) hx hb dX5_append_44 (by decide) ?_
  refine lv_iadd hx hb dX5_append_45 ?_
  refine ka_top (w := .int 19) (congrArg Value.int (by decide)) ?_
  refine ka_put C lq_135 tyX5 tyX5_ok nmX5 rfl hK hP hD hS 0 rfl 1 (by decide) lq_136 rfl rfl rfl (Nat.le_of_ble_eq_true rfl) dX5_append_46 (fun H locs hP hD hS => ?_)
  have hP : va_P D vwCl [(a0, .inr (5, [.ref a1, .int 19])), (a1, .inl (k0, 80, .inl g_704))] H := hP
  have hD : va_D A [(a0, .inr (5, [.ref a1, .int 19])), (a1, .inl (k0, 80, .inl g_704))] := hD
  refine lv_iinc (v := 0) (lv' := [(2, .int 0), (0, .ref a0), (1, .int x0)]) hx hb dX5_append_49 hl (k := 0) rfl (by decide) (by decide) rfl (fun ls hl => ?_)
  refine lv_goto (tgt := 3) hx hb dX5_append_52 (by decide) ?_
  refine lv_iload_n hx hb dX5_append_3 rfl (lv_at hl 0 rfl) ?_
  refine lv_if_lt (tgt := 55) hx hb dX5_append_4 (by decide) (fun c_ => absurd c_ (by decide)) (fun _ => ?_)
  refine lv_aload_n hx hb dX5_append_7 rfl (lv_at hl 1 rfl) ?_
  refine ka_get C lq_135 rfl hK hP 0 rfl 1 (by decide) lq_136 rfl dX5_append_8 ?_
  refine lv_if_lt (tgt := 49) hx hb dX5_append_11 (by decide) (fun c_ => absurd c_ (by decide)) (fun _ => ?_)
  refine lv_aload_n hx hb dX5_append_14 rfl (lv_at hl 1 rfl) ?_
  refine ka_get C lq_135 rfl hK hP 0 rfl 1 (by decide) lq_136 rfl dX5_append_15 ?_
  refine lv_aload_n hx hb dX5_append_18 rfl (lv_at hl 1 rfl) ?_
  refine ka_get C lq_135 rfl hK hP 0 rfl 0 (by decide) lq_137 rfl dX5_append_19 ?_
  refine va_alen hx hb hK hP 1 0 rfl (ty := .byte) rfl (v := 80) rfl dX5_append_22 ?_
  refine lv_icmp_ge (tgt := 49) hx hb dX5_append_23 (by decide) (fun c_ => absurd c_ (by decide)) (fun _ => ?_)
  refine lv_aload_n hx hb dX5_append_26 rfl (lv_at hl 1 rfl) ?_
  refine ka_get C lq_135 rfl hK hP 0 rfl 0 (by decide) lq_137 rfl dX5_append_27 ?_
  refine lv_aload_n hx hb dX5_append_30 rfl (lv_at hl 1 rfl) ?_
  refine ka_get C lq_135 rfl hK hP 0 rfl 1 (by decide) lq_136 rfl dX5_append_31 ?_
  refine lv_iload_n hx hb dX5_append_34 rfl (lv_at hl 2 rfl) ?_
  refine lv_iload_n hx hb dX5_append_35 rfl (lv_at hl 0 rfl) ?_
  refine lv_iushr hx hb dX5_append_36 rfl ?_
  refine lv_topi (fun v_705 ev_705 => ?_)
  refine lv_i2b hx hb dX5_append_37 rfl ?_
  refine lv_topi (fun v_706 ev_706 => ?_)
  refine va_bast hx hb hK hP hD hS 1 0 rfl rfl (ka_in (by decide) (by decide)) dX5_append_38 (fun H locs hP hD hS => ?_)
  have hP : va_P D vwCl [(a0, .inr (5, [.ref a1, .int 19])), (a1, .inl (k0, 80, .inl (upd g_704 (Int32.toNatClampNeg 19) (vp_nar .byte v_706))))] H := hP
  have hD : va_D A [(a0, .inr (5, [.ref a1, .int 19])), (a1, .inl (k0, 80, .inl (upd g_704 (Int32.toNatClampNeg 19) (vp_nar .byte v_706))))] := hD
  generalize (upd g_704 (Int32.toNatClampNeg 19) (vp_nar .byte v_706)) = g_707 at hP hD
  refine lv_aload_n hx hb dX5_append_39 rfl (lv_at hl 1 rfl) ?_
  refine lv_dup hx hb dX5_append_40 rfl ?_
  refine ka_get C lq_135 rfl hK hP 0 rfl 1 (by decide) lq_136 rfl dX5_append_41 ?_
  refine lv_iconst (v := 1) hx hb dX5_append_44 (by decide) ?_
  refine lv_iadd hx hb dX5_append_45 ?_
  refine ka_top (w := .int 20) (congrArg Value.int (by decide)) ?_
  refine ka_put C lq_135 tyX5 tyX5_ok nmX5 rfl hK hP hD hS 0 rfl 1 (by decide) lq_136 rfl rfl rfl (Nat.le_of_ble_eq_true rfl) dX5_append_46 (fun H locs hP hD hS => ?_)
  have hP : va_P D vwCl [(a0, .inr (5, [.ref a1, .int 20])), (a1, .inl (k0, 80, .inl g_707))] H := hP
  have hD : va_D A [(a0, .inr (5, [.ref a1, .int 20])), (a1, .inl (k0, 80, .inl g_707))] := hD
  refine lv_iinc (v := (-8)) (lv' := [(2, .int (-8)), (0, .ref a0), (1, .int x0)]) hx hb dX5_append_49 hl (k := 0) rfl (by decide) (by decide) rfl (fun ls hl => ?_)
  refine lv_goto (tgt := 3) hx hb dX5_append_52 (by decide) ?_
  refine lv_iload_n hx hb dX5_append_3 rfl (lv_at hl 0 rfl) ?_
  refine lv_if_lt (tgt := 55) hx hb dX5_append_4 (by decide) (fun _ => ?_) (fun c_ => absurd (by decide) c_)
  exact ka_rEv C hr hlk (Nat.le_of_ble_eq_true rfl) (Nat.le_of_ble_eq_true rfl) hS (ka_qE g_707 rfl trivial hK hP hD hS [0, 1] (by decide) rfl [] rfl) dX5_append_55
theorem lq_138 : ∀ w ∈ wsX60, w ∈ wsX6_feed := by decide +kernel
theorem lq_139 : Cond.fieldLink RX6 10 "AskedBack" "tape" "LAskedBack$Tape;" ∈ wsX6_feed := by decide +kernel
theorem lq_140 : ∀ w ∈ wsX50, w ∈ wsX6_feed := by decide +kernel
theorem lq_141 : Cond.fieldLink RX6 55 "AskedBack$Tape" "length" "I" ∈ wsX6_feed := by decide +kernel
set_option maxHeartbeats 4000000 in
set_option maxRecDepth 100000 in
theorem ct_X6_feed_13 (l : Launch) (D : va_G) (a0 : Nat) (x0 : Int32) (x1 : Int32) (x2 : Int32) (x3 : Int32) (x4 : Int32) (a1 : Nat) (a2 : Nat) (a3 : Nat) (a4 : Nat) (a5 : Nat) (k0 : ClassId) : ka_E (S := Unit) l D yX6_feed wsX6_feed 1 22 0 0 [.ref a0, .int x0, .int x1, .int x2, .int x3, .int x4] [(a0, .inr (6, [.ref a1, .ref a2, .ref a3, .ref a4, .int (-1), .int (-1), .int 0, .int 3, .int 3])), (a1, .inr (5, [.ref a5, .int 0])), (a5, .inl (k0, 80, .inl (fun _ => 0)))] [(k0, .byte)] (fun u => some (.int 20)) (fun _ => True) (fun u => []) (fun u => []) := by
  refine ka_E_of (cc := cX6_feed) (maxL := 6) (ret := (some .int)) (by decide) rfl (Nat.le_of_ble_eq_true rfl) ?_
  intro p e s m below meth c ls A C hr hlk hin hP hK hD hS hA hE hN hl
  have C : CallFix p m c cX6_feed 6 s [.ref a0, .int x0, .int x1, .int x2, .int x3, .int x4].toArray wsX6_feed RX6 := C
  obtain ⟨hx, hb, hml, hown, hts⟩ := id C
  have hl : lv_has ls 6 [(0, .ref a0), (1, .int x0), (2, .int x1), (3, .int x2), (4, .int x3), (5, .int x4)] := hl
  have rx0 := ka_rng x0
  have rx1 := ka_rng x1
  have rx2 := ka_rng x2
  have rx3 := ka_rng x3
  have rx4 := ka_rng x4
  refine lv_aload_n hx hb dX6_feed_0 rfl (lv_at hl 0 rfl) ?_
  refine ka_get C lq_138 rfl hK hP 0 rfl 0 (by decide) lq_139 rfl dX6_feed_1 ?_
  refine ka_get C lq_140 rfl hK hP 1 rfl 1 (by decide) lq_141 rfl dX6_feed_4 ?_
  refine lv_bipush (v := 20) hx hb dX6_feed_7 (by decide) ?_
  refine lv_iadd hx hb dX6_feed_9 ?_
  refine ka_top (w := .int 20) (congrArg Value.int (by decide)) ?_
  refine lv_bipush (v := 80) hx hb dX6_feed_10 (by decide) ?_
  refine lv_icmp_le (tgt := 17) hx hb dX6_feed_12 (by decide) (fun _ => ?_) (fun c_ => absurd (by decide) c_)
  refine lv_aload_n hx hb dX6_feed_17 rfl (lv_at hl 0 rfl) ?_
  refine ka_get C lq_138 rfl hK hP 0 rfl 0 (by decide) lq_139 rfl dX6_feed_18 ?_
  refine lv_iload_n hx hb dX6_feed_21 rfl (lv_at hl 1 rfl) ?_
  refine ka_EV (n := 1) (wr := [(a0, .inr (6, [.ref a1, .ref a2, .ref a3, .ref a4, .int (-1), .int (-1), .int 0, .int 3, .int 3]))]) C (ct_X5_append_8 l D a1 x0 a5 k0) gX6_feed_X5_append rfl (by decide +kernel) ⟨Nat.le_of_ble_eq_true rfl, Nat.le_of_ble_eq_true rfl⟩ hK hP hD hS hA hE hN [1, 2] rfl (by decide) [0] rfl (by decide) (by decide) [0] rfl (ci := 5) rfl rfl 1 rfl rfl hl.1 (rest := []) rfl (Nat.le_of_ble_eq_true rfl) dX6_feed_22 ⟨Nat.le_of_ble_eq_true rfl, Nat.le_of_ble_eq_true rfl⟩ (fun u H locs _ hP hD hK hS => ?_)
  obtain ⟨g_786, rfl⟩ : ∃ z, z = u := ⟨_, rfl⟩
  have hP : va_P D vwCl [(a0, .inr (6, [.ref a1, .ref a2, .ref a3, .ref a4, .int (-1), .int (-1), .int 0, .int 3, .int 3])), (a1, .inr (5, [.ref a5, .int 4])), (a5, .inl (k0, 80, .inl g_786))] H := hP
  have hD : va_D A [(a0, .inr (6, [.ref a1, .ref a2, .ref a3, .ref a4, .int (-1), .int (-1), .int 0, .int 3, .int 3])), (a1, .inr (5, [.ref a5, .int 4])), (a5, .inl (k0, 80, .inl g_786))] := hD
  have hK : va_K D vwCl [(k0, .byte)] s := hK
  refine ka_stk (w := []) rfl ?_
  refine lv_aload_n hx hb dX6_feed_25 rfl (lv_at hl 0 rfl) ?_
  refine ka_get C lq_138 rfl hK hP 0 rfl 0 (by decide) lq_139 rfl dX6_feed_26 ?_
  refine lv_iload_n hx hb dX6_feed_29 rfl (lv_at hl 2 rfl) ?_
  refine ka_EV (n := 1) (wr := [(a0, .inr (6, [.ref a1, .ref a2, .ref a3, .ref a4, .int (-1), .int (-1), .int 0, .int 3, .int 3]))]) C (ct_X5_append_9 l D a1 x1 a5 k0 g_786) gX6_feed_X5_append rfl (by decide +kernel) ⟨Nat.le_of_ble_eq_true rfl, Nat.le_of_ble_eq_true rfl⟩ hK hP hD hS hA hE hN [1, 2] rfl (by decide) [0] rfl (by decide) (by decide) [0] rfl (ci := 5) rfl rfl 1 rfl rfl hl.1 (rest := []) rfl (Nat.le_of_ble_eq_true rfl) dX6_feed_30 ⟨Nat.le_of_ble_eq_true rfl, Nat.le_of_ble_eq_true rfl⟩ (fun u H locs _ hP hD hK hS => ?_)
  obtain ⟨g_799, rfl⟩ : ∃ z, z = u := ⟨_, rfl⟩
  have hP : va_P D vwCl [(a0, .inr (6, [.ref a1, .ref a2, .ref a3, .ref a4, .int (-1), .int (-1), .int 0, .int 3, .int 3])), (a1, .inr (5, [.ref a5, .int 8])), (a5, .inl (k0, 80, .inl g_799))] H := hP
  have hD : va_D A [(a0, .inr (6, [.ref a1, .ref a2, .ref a3, .ref a4, .int (-1), .int (-1), .int 0, .int 3, .int 3])), (a1, .inr (5, [.ref a5, .int 8])), (a5, .inl (k0, 80, .inl g_799))] := hD
  have hK : va_K D vwCl [(k0, .byte)] s := hK
  refine ka_stk (w := []) rfl ?_
  refine lv_aload_n hx hb dX6_feed_33 rfl (lv_at hl 0 rfl) ?_
  refine ka_get C lq_138 rfl hK hP 0 rfl 0 (by decide) lq_139 rfl dX6_feed_34 ?_
  refine lv_iload_n hx hb dX6_feed_37 rfl (lv_at hl 3 rfl) ?_
  refine ka_EV (n := 1) (wr := [(a0, .inr (6, [.ref a1, .ref a2, .ref a3, .ref a4, .int (-1), .int (-1), .int 0, .int 3, .int 3]))]) C (ct_X5_append_10 l D a1 x2 a5 k0 g_799) gX6_feed_X5_append rfl (by decide +kernel) ⟨Nat.le_of_ble_eq_true rfl, Nat.le_of_ble_eq_true rfl⟩ hK hP hD hS hA hE hN [1, 2] rfl (by decide) [0] rfl (by decide) (by decide) [0] rfl (ci := 5) rfl rfl 1 rfl rfl hl.1 (rest := []) rfl (Nat.le_of_ble_eq_true rfl) dX6_feed_38 ⟨Nat.le_of_ble_eq_true rfl, Nat.le_of_ble_eq_true rfl⟩ (fun u H locs _ hP hD hK hS => ?_)
  obtain ⟨g_812, rfl⟩ : ∃ z, z = u := ⟨_, rfl⟩
  have hP : va_P D vwCl [(a0, .inr (6, [.ref a1, .ref a2, .ref a3, .ref a4, .int (-1), .int (-1), .int 0, .int 3, .int 3])), (a1, .inr (5, [.ref a5, .int 12])), (a5, .inl (k0, 80, .inl g_812))] H := hP
  have hD : va_D A [(a0, .inr (6, [.ref a1, .ref a2, .ref a3, .ref a4, .int (-1), .int (-1), .int 0, .int 3, .int 3])), (a1, .inr (5, [.ref a5, .int 12])), (a5, .inl (k0, 80, .inl g_812))] := hD
  have hK : va_K D vwCl [(k0, .byte)] s := hK
  refine ka_stk (w := []) rfl ?_
  refine lv_aload_n hx hb dX6_feed_41 rfl (lv_at hl 0 rfl) ?_
  refine ka_get C lq_138 rfl hK hP 0 rfl 0 (by decide) lq_139 rfl dX6_feed_42 ?_
  refine lv_iload hx hb dX6_feed_45 (lv_at hl 4 rfl) ?_
  refine ka_EV (n := 1) (wr := [(a0, .inr (6, [.ref a1, .ref a2, .ref a3, .ref a4, .int (-1), .int (-1), .int 0, .int 3, .int 3]))]) C (ct_X5_append_11 l D a1 x3 a5 k0 g_812) gX6_feed_X5_append rfl (by decide +kernel) ⟨Nat.le_of_ble_eq_true rfl, Nat.le_of_ble_eq_true rfl⟩ hK hP hD hS hA hE hN [1, 2] rfl (by decide) [0] rfl (by decide) (by decide) [0] rfl (ci := 5) rfl rfl 1 rfl rfl hl.1 (rest := []) rfl (Nat.le_of_ble_eq_true rfl) dX6_feed_47 ⟨Nat.le_of_ble_eq_true rfl, Nat.le_of_ble_eq_true rfl⟩ (fun u H locs _ hP hD hK hS => ?_)
  obtain ⟨g_825, rfl⟩ : ∃ z, z = u := ⟨_, rfl⟩
  have hP : va_P D vwCl [(a0, .inr (6, [.ref a1, .ref a2, .ref a3, .ref a4, .int (-1), .int (-1), .int 0, .int 3, .int 3])), (a1, .inr (5, [.ref a5, .int 16])), (a5, .inl (k0, 80, .inl g_825))] H := hP
  have hD : va_D A [(a0, .inr (6, [.ref a1, .ref a2, .ref a3, .ref a4, .int (-1), .int (-1), .int 0, .int 3, .int 3])), (a1, .inr (5, [.ref a5, .int 16])), (a5, .inl (k0, 80, .inl g_825))] := hD
  have hK : va_K D vwCl [(k0, .byte)] s := hK
  refine ka_stk (w := []) rfl ?_
  refine lv_aload_n hx hb dX6_feed_50 rfl (lv_at hl 0 rfl) ?_
  refine ka_get C lq_138 rfl hK hP 0 rfl 0 (by decide) lq_139 rfl dX6_feed_51 ?_
  refine lv_iload hx hb dX6_feed_54 (lv_at hl 5 rfl) ?_
  refine ka_EV (n := 1) (wr := [(a0, .inr (6, [.ref a1, .ref a2, .ref a3, .ref a4, .int (-1), .int (-1), .int 0, .int 3, .int 3]))]) C (ct_X5_append_12 l D a1 x4 a5 k0 g_825) gX6_feed_X5_append rfl (by decide +kernel) ⟨Nat.le_of_ble_eq_true rfl, Nat.le_of_ble_eq_true rfl⟩ hK hP hD hS hA hE hN [1, 2] rfl (by decide) [0] rfl (by decide) (by decide) [0] rfl (ci := 5) rfl rfl 1 rfl rfl hl.1 (rest := []) rfl (Nat.le_of_ble_eq_true rfl) dX6_feed_56 ⟨Nat.le_of_ble_eq_true rfl, Nat.le_of_ble_eq_true rfl⟩ (fun u H locs _ hP hD hK hS => ?_)
  obtain ⟨g_838, rfl⟩ : ∃ z, z = u := ⟨_, rfl⟩
  have hP : va_P D vwCl [(a0, .inr (6, [.ref a1, .ref a2, .ref a3, .ref a4, .int (-1), .int (-1), .int 0, .int 3, .int 3])), (a1, .inr (5, [.ref a5, .int 20])), (a5, .inl (k0, 80, .inl g_838))] H := hP
  have hD : va_D A [(a0, .inr (6, [.ref a1, .ref a2, .ref a3, .ref a4, .int (-1), .int (-1), .int 0, .int 3, .int 3])), (a1, .inr (5, [.ref a5, .int 20])), (a5, .inl (k0, 80, .inl g_838))] := hD
  have hK : va_K D vwCl [(k0, .byte)] s := hK
  refine ka_stk (w := []) rfl ?_
  refine lv_aload_n hx hb dX6_feed_59 rfl (lv_at hl 0 rfl) ?_
  refine ka_get C lq_138 rfl hK hP 0 rfl 0 (by decide) lq_139 rfl dX6_feed_60 ?_
  refine ka_get C lq_140 rfl hK hP 1 rfl 1 (by decide) lq_141 rfl dX6_feed_63 ?_
  exact ka_rEi C hr hlk (Nat.le_of_ble_eq_true rfl) (Nat.le_of_ble_eq_true rfl) hS (ka_qE () rfl trivial hK hP hD hS [] (by decide) rfl [] rfl) dX6_feed_66
theorem lq_142 : ∀ w ∈ wsX70, w ∈ wsX7_four := by decide +kernel
theorem lq_143 : Cond.fieldLink RX7 7 "AskedBackModel" "tape" "[B" ∈ wsX7_four := by decide +kernel
theorem lq_144 : Cond.fieldLink RX7 71 "AskedBackModel" "taped" "I" ∈ wsX7_four := by decide +kernel
set_option maxHeartbeats 4000000 in
set_option maxRecDepth 100000 in
theorem ct_X7_four_14 (l : Launch) (D : va_G) (a0 : Nat) (x0 : Int32) (a1 : Nat) (a2 : Nat) (a3 : Nat) (a4 : Nat) (a5 : Nat) (a6 : Nat) (a7 : Nat) (a8 : Nat) (a9 : Nat) (a10 : Nat) (a11 : Nat) (a12 : Nat) (a13 : Nat) (a14 : Nat) (k0 : ClassId) : ka_E (S := (Nat → Int32)) l D yX7_four wsX7_four 0 0 0 0 [.ref a0, .int x0] [(a0, .inr (7, [.ref a1, .int 0, .ref a2, .ref a3, .ref a4, .ref a5, .ref a6, .ref a7, .ref a8, .int (-1), .int 0, .int 3, .int 3, .int 0, .int 0, .int 0, .ref a9, .ref a10, .ref a11, .ref a12, .ref a13, .ref a14, .int 0, .int 0, .int 0, .int 0, .int (-1), .int 0])), (a1, .inl (k0, 80, .inl (fun _ => 0)))] [(k0, .byte)] (fun u => none) (fun _ => True) (fun u => [(a0, .inr (7, [.ref a1, .int 4, .ref a2, .ref a3, .ref a4, .ref a5, .ref a6, .ref a7, .ref a8, .int (-1), .int 0, .int 3, .int 3, .int 0, .int 0, .int 0, .ref a9, .ref a10, .ref a11, .ref a12, .ref a13, .ref a14, .int 0, .int 0, .int 0, .int 0, .int (-1), .int 0])), (a1, .inl (k0, 80, .inl u))]) (fun u => []) := by
  refine ka_E_of (cc := cX7_four) (maxL := 3) (ret := none) (by decide) rfl (Nat.le_of_ble_eq_true rfl) ?_
  intro p e s m below meth c ls A C hr hlk hin hP hK hD hS hA hE hN hl
  have C : CallFix p m c cX7_four 3 s [.ref a0, .int x0].toArray wsX7_four RX7 := C
  obtain ⟨hx, hb, hml, hown, hts⟩ := id C
  have hl : lv_has ls 3 [(0, .ref a0), (1, .int x0)] := hl
  have rx0 := ka_rng x0
  refine lv_bipush (v := 24) hx hb dX7_four_0 (by decide) ?_
  refine lv_istore_n (lv' := [(2, .int 24), (0, .ref a0), (1, .int x0)]) hx hb dX7_four_2 rfl hl (by decide) rfl (fun ls hl => ?_)
  refine lv_iload_n hx hb dX7_four_3 rfl (lv_at hl 0 rfl) ?_
  refine lv_if_lt (tgt := 36) hx hb dX7_four_4 (by decide) (fun c_ => absurd c_ (by decide)) (fun _ => ?_)
  refine lv_aload_n hx hb dX7_four_7 rfl (lv_at hl 1 rfl) ?_
  refine ka_get C lq_142 rfl hK hP 0 rfl 0 (by decide) lq_143 rfl dX7_four_8 ?_
  refine lv_aload_n hx hb dX7_four_11 rfl (lv_at hl 1 rfl) ?_
  refine ka_get C lq_142 rfl hK hP 0 rfl 1 (by decide) lq_144 rfl dX7_four_12 ?_
  refine lv_iload_n hx hb dX7_four_15 rfl (lv_at hl 2 rfl) ?_
  refine lv_iload_n hx hb dX7_four_16 rfl (lv_at hl 0 rfl) ?_
  refine lv_ishr hx hb dX7_four_17 ?_
  refine lv_topi (fun v_863 ev_863 => ?_)
  refine lv_i2b hx hb dX7_four_18 rfl ?_
  refine lv_topi (fun v_864 ev_864 => ?_)
  refine va_bast hx hb hK hP hD hS 1 0 rfl rfl (ka_in (by decide) (by decide)) dX7_four_19 (fun H locs hP hD hS => ?_)
  have hP : va_P D vwCl [(a0, .inr (7, [.ref a1, .int 0, .ref a2, .ref a3, .ref a4, .ref a5, .ref a6, .ref a7, .ref a8, .int (-1), .int 0, .int 3, .int 3, .int 0, .int 0, .int 0, .ref a9, .ref a10, .ref a11, .ref a12, .ref a13, .ref a14, .int 0, .int 0, .int 0, .int 0, .int (-1), .int 0])), (a1, .inl (k0, 80, .inl (upd (fun _ => 0) (Int32.toNatClampNeg 0) (vp_nar .byte v_864))))] H := hP
  have hD : va_D A [(a0, .inr (7, [.ref a1, .int 0, .ref a2, .ref a3, .ref a4, .ref a5, .ref a6, .ref a7, .ref a8, .int (-1), .int 0, .int 3, .int 3, .int 0, .int 0, .int 0, .ref a9, .ref a10, .ref a11, .ref a12, .ref a13, .ref a14, .int 0, .int 0, .int 0, .int 0, .int (-1), .int 0])), (a1, .inl (k0, 80, .inl (upd (fun _ => 0) (Int32.toNatClampNeg 0) (vp_nar .byte v_864))))] := hD
  generalize (upd (fun _ => 0) (Int32.toNatClampNeg 0) (vp_nar .byte v_864)) = g_865 at hP hD
  refine lv_aload_n hx hb dX7_four_20 rfl (lv_at hl 1 rfl) ?_
  refine lv_dup hx hb dX7_four_21 rfl ?_
  refine ka_get C lq_142 rfl hK hP 0 rfl 1 (by decide) lq_144 rfl dX7_four_22 ?_
  refine lv_iconst (v := 1) hx hb dX7_four_25 (by decide) ?_
  refine lv_iadd hx hb dX7_four_26 ?_
  refine ka_top (w := .int 1) (congrArg Value.int (by decide)) ?_
  refine ka_put C lq_142 tyX7 tyX7_ok nmX7 rfl hK hP hD hS 0 rfl 1 (by decide) lq_144 rfl rfl rfl (Nat.le_of_ble_eq_true rfl) dX7_four_27 (fun H locs hP hD hS => ?_)
  have hP : va_P D vwCl [(a0, .inr (7, [.ref a1, .int 1, .ref a2, .ref a3, .ref a4, .ref a5, .ref a6, .ref a7, .ref a8, .int (-1), .int 0, .int 3, .int 3, .int 0, .int 0, .int 0, .ref a9, .ref a10, .ref a11, .ref a12, .ref a13, .ref a14, .int 0, .int 0, .int 0, .int 0, .int (-1), .int 0])), (a1, .inl (k0, 80, .inl g_865))] H := hP
  have hD : va_D A [(a0, .inr (7, [.ref a1, .int 1, .ref a2, .ref a3, .ref a4, .ref a5, .ref a6, .ref a7, .ref a8, .int (-1), .int 0, .int 3, .int 3, .int 0, .int 0, .int 0, .ref a9, .ref a10, .ref a11, .ref a12, .ref a13, .ref a14, .int 0, .int 0, .int 0, .int 0, .int (-1), .int 0])), (a1, .inl (k0, 80, .inl g_865))] := hD
  refine lv_iinc (v := 16) (lv' := [(2, .int 16), (0, .ref a0), (1, .int x0)]) hx hb dX7_four_30 hl (k := 0) rfl (by decide) (by decide) rfl (fun ls hl => ?_)
  refine lv_goto (tgt := 3) hx hb dX7_four_33 (by decide) ?_
  refine lv_iload_n hx hb dX7_four_3 rfl (lv_at hl 0 rfl) ?_
  refine lv_if_lt (tgt := 36) hx hb dX7_four_4 (by decide) (fun c_ => absurd c_ (by decide)) (fun _ => ?_)
  refine lv_aload_n hx hb dX7_four_7 rfl (lv_at hl 1 rfl) ?_
  refine ka_get C lq_142 rfl hK hP 0 rfl 0 (by decide) lq_143 rfl dX7_four_8 ?_
  refine lv_aload_n hx hb dX7_four_11 rfl (lv_at hl 1 rfl) ?_
  refine ka_get C lq_142 rfl hK hP 0 rfl 1 (by decide) lq_144 rfl dX7_four_12 ?_
  refine lv_iload_n hx hb dX7_four_15 rfl (lv_at hl 2 rfl) ?_
  refine lv_iload_n hx hb dX7_four_16 rfl (lv_at hl 0 rfl) ?_
  refine lv_ishr hx hb dX7_four_17 ?_
  refine lv_topi (fun v_866 ev_866 => ?_)
  refine lv_i2b hx hb dX7_four_18 rfl ?_
  refine lv_topi (fun v_867 ev_867 => ?_)
  refine va_bast hx hb hK hP hD hS 1 0 rfl rfl (ka_in (by decide) (by decide)) dX7_four_19 (fun H locs hP hD hS => ?_)
  have hP : va_P D vwCl [(a0, .inr (7, [.ref a1, .int 1, .ref a2, .ref a3, .ref a4, .ref a5, .ref a6, .ref a7, .ref a8, .int (-1), .int 0, .int 3, .int 3, .int 0, .int 0, .int 0, .ref a9, .ref a10, .ref a11, .ref a12, .ref a13, .ref a14, .int 0, .int 0, .int 0, .int 0, .int (-1), .int 0])), (a1, .inl (k0, 80, .inl (upd g_865 (Int32.toNatClampNeg 1) (vp_nar .byte v_867))))] H := hP
  have hD : va_D A [(a0, .inr (7, [.ref a1, .int 1, .ref a2, .ref a3, .ref a4, .ref a5, .ref a6, .ref a7, .ref a8, .int (-1), .int 0, .int 3, .int 3, .int 0, .int 0, .int 0, .ref a9, .ref a10, .ref a11, .ref a12, .ref a13, .ref a14, .int 0, .int 0, .int 0, .int 0, .int (-1), .int 0])), (a1, .inl (k0, 80, .inl (upd g_865 (Int32.toNatClampNeg 1) (vp_nar .byte v_867))))] := hD
  generalize (upd g_865 (Int32.toNatClampNeg 1) (vp_nar .byte v_867)) = g_868 at hP hD
  refine lv_aload_n hx hb dX7_four_20 rfl (lv_at hl 1 rfl) ?_
  refine lv_dup hx hb dX7_four_21 rfl ?_
  refine ka_get C lq_142 rfl hK hP 0 rfl 1 (by decide) lq_144 rfl dX7_four_22 ?_
  refine lv_iconst (v := 1) hx hb dX7_four_25 (by decide) ?_
  refine lv_iadd hx hb dX7_four_26 ?_
  refine ka_top (w := .int 2) (congrArg Value.int (by decide)) ?_
  refine ka_put C lq_142 tyX7 tyX7_ok nmX7 rfl hK hP hD hS 0 rfl 1 (by decide) lq_144 rfl rfl rfl (Nat.le_of_ble_eq_true rfl) dX7_four_27 (fun H locs hP hD hS => ?_)
  have hP : va_P D vwCl [(a0, .inr (7, [.ref a1, .int 2, .ref a2, .ref a3, .ref a4, .ref a5, .ref a6, .ref a7, .ref a8, .int (-1), .int 0, .int 3, .int 3, .int 0, .int 0, .int 0, .ref a9, .ref a10, .ref a11, .ref a12, .ref a13, .ref a14, .int 0, .int 0, .int 0, .int 0, .int (-1), .int 0])), (a1, .inl (k0, 80, .inl g_868))] H := hP
  have hD : va_D A [(a0, .inr (7, [.ref a1, .int 2, .ref a2, .ref a3, .ref a4, .ref a5, .ref a6, .ref a7, .ref a8, .int (-1), .int 0, .int 3, .int 3, .int 0, .int 0, .int 0, .ref a9, .ref a10, .ref a11, .ref a12, .ref a13, .ref a14, .int 0, .int 0, .int 0, .int 0, .int (-1), .int 0])), (a1, .inl (k0, 80, .inl g_868))] := hD
  refine lv_iinc (v := 8) (lv' := [(2, .int 8), (0, .ref a0), (1, .int x0)]) hx hb dX7_four_30 hl (k := 0) rfl (by decide) (by decide) rfl (fun ls hl => ?_)
  refine lv_goto (tgt := 3) hx hb dX7_four_33 (by decide) ?_
  refine lv_iload_n hx hb dX7_four_3 rfl (lv_at hl 0 rfl) ?_
  refine lv_if_lt (tgt := 36) hx hb dX7_four_4 (by decide) (fun c_ => absurd c_ (by decide)) (fun _ => ?_)
  refine lv_aload_n hx hb dX7_four_7 rfl (lv_at hl 1 rfl) ?_
  refine ka_get C lq_142 rfl hK hP 0 rfl 0 (by decide) lq_143 rfl dX7_four_8 ?_
  refine lv_aload_n hx hb dX7_four_11 rfl (lv_at hl 1 rfl) ?_
  refine ka_get C lq_142 rfl hK hP 0 rfl 1 (by decide) lq_144 rfl dX7_four_12 ?_
  refine lv_iload_n hx hb dX7_four_15 rfl (lv_at hl 2 rfl) ?_
  refine lv_iload_n hx hb dX7_four_16 rfl (lv_at hl 0 rfl) ?_
  refine lv_ishr hx hb dX7_four_17 ?_
  refine lv_topi (fun v_869 ev_869 => ?_)
  refine lv_i2b hx hb dX7_four_18 rfl ?_
  refine lv_topi (fun v_870 ev_870 => ?_)
  refine va_bast hx hb hK hP hD hS 1 0 rfl rfl (ka_in (by decide) (by decide)) dX7_four_19 (fun H locs hP hD hS => ?_)
  have hP : va_P D vwCl [(a0, .inr (7, [.ref a1, .int 2, .ref a2, .ref a3, .ref a4, .ref a5, .ref a6, .ref a7, .ref a8, .int (-1), .int 0, .int 3, .int 3, .int 0, .int 0, .int 0, .ref a9, .ref a10, .ref a11, .ref a12, .ref a13, .ref a14, .int 0, .int 0, .int 0, .int 0, .int (-1), .int 0])), (a1, .inl (k0, 80, .inl (upd g_868 (Int32.toNatClampNeg 2) (vp_nar .byte v_870))))] H := hP
  have hD : va_D A [(a0, .inr (7, [.ref a1, .int 2, .ref a2, .ref a3, .ref a4, .ref a5, .ref a6, .ref a7, .ref a8, .int (-1), .int 0, .int 3, .int 3, .int 0, .int 0, .int 0, .ref a9, .ref a10, .ref a11, .ref a12, .ref a13, .ref a14, .int 0, .int 0, .int 0, .int 0, .int (-1), .int 0])), (a1, .inl (k0, 80, .inl (upd g_868 (Int32.toNatClampNeg 2) (vp_nar .byte v_870))))] := hD
  generalize (upd g_868 (Int32.toNatClampNeg 2) (vp_nar .byte v_870)) = g_871 at hP hD
  refine lv_aload_n hx hb dX7_four_20 rfl (lv_at hl 1 rfl) ?_
  refine lv_dup hx hb dX7_four_21 rfl ?_
  refine ka_get C lq_142 rfl hK hP 0 rfl 1 (by decide) lq_144 rfl dX7_four_22 ?_
  refine lv_iconst (v := 1) hx hb dX7_four_25 (by decide) ?_
  refine lv_iadd hx hb dX7_four_26 ?_
  refine ka_top (w := .int 3) (congrArg Value.int (by decide)) ?_
  refine ka_put C lq_142 tyX7 tyX7_ok nmX7 rfl hK hP hD hS 0 rfl 1 (by decide) lq_144 rfl rfl rfl (Nat.le_of_ble_eq_true rfl) dX7_four_27 (fun H locs hP hD hS => ?_)
  have hP : va_P D vwCl [(a0, .inr (7, [.ref a1, .int 3, .ref a2, .ref a3, .ref a4, .ref a5, .ref a6, .ref a7, .ref a8, .int (-1), .int 0, .int 3, .int 3, .int 0, .int 0, .int 0, .ref a9, .ref a10, .ref a11, .ref a12, .ref a13, .ref a14, .int 0, .int 0, .int 0, .int 0, .int (-1), .int 0])), (a1, .inl (k0, 80, .inl g_871))] H := hP
  have hD : va_D A [(a0, .inr (7, [.ref a1, .int 3, .ref a2, .ref a3, .ref a4, .ref a5, .ref a6, .ref a7, .ref a8, .int (-1), .int 0, .int 3, .int 3, .int 0, .int 0, .int 0, .ref a9, .ref a10, .ref a11, .ref a12, .ref a13, .ref a14, .int 0, .int 0, .int 0, .int 0, .int (-1), .int 0])), (a1, .inl (k0, 80, .inl g_871))] := hD
  refine lv_iinc (v := 0) (lv' := [(2, .int 0), (0, .ref a0), (1, .int x0)]) hx hb dX7_four_30 hl (k := 0) rfl (by decide) (by decide) rfl (fun ls hl => ?_)
  refine lv_goto (tgt := 3) hx hb dX7_four_33 (by decide) ?_
  refine lv_iload_n hx hb dX7_four_3 rfl (lv_at hl 0 rfl) ?_
  refine lv_if_lt (tgt := 36) hx hb dX7_four_4 (by decide) (fun c_ => absurd c_ (by decide)) (fun _ => ?_)
  refine lv_aload_n hx hb dX7_four_7 rfl (lv_at hl 1 rfl) ?_
  refine ka_get C lq_142 rfl hK hP 0 rfl 0 (by decide) lq_143 rfl dX7_four_8 ?_
  refine lv_aload_n hx hb dX7_four_11 rfl (lv_at hl 1 rfl) ?_
  refine ka_get C lq_142 rfl hK hP 0 rfl 1 (by decide) lq_144 rfl dX7_four_12 ?_
  refine lv_iload_n hx hb dX7_four_15 rfl (lv_at hl 2 rfl) ?_
  refine lv_iload_n hx hb dX7_four_16 rfl (lv_at hl 0 rfl) ?_
  refine lv_ishr hx hb dX7_four_17 ?_
  refine lv_topi (fun v_872 ev_872 => ?_)
  refine lv_i2b hx hb dX7_four_18 rfl ?_
  refine lv_topi (fun v_873 ev_873 => ?_)
  refine va_bast hx hb hK hP hD hS 1 0 rfl rfl (ka_in (by decide) (by decide)) dX7_four_19 (fun H locs hP hD hS => ?_)
  have hP : va_P D vwCl [(a0, .inr (7, [.ref a1, .int 3, .ref a2, .ref a3, .ref a4, .ref a5, .ref a6, .ref a7, .ref a8, .int (-1), .int 0, .int 3, .int 3, .int 0, .int 0, .int 0, .ref a9, .ref a10, .ref a11, .ref a12, .ref a13, .ref a14, .int 0, .int 0, .int 0, .int 0, .int (-1), .int 0])), (a1, .inl (k0, 80, .inl (upd g_871 (Int32.toNatClampNeg 3) (vp_nar .byte v_873))))] H := hP
  have hD : va_D A [(a0, .inr (7, [.ref a1, .int 3, .ref a2, .ref a3, .ref a4, .ref a5, .ref a6, .ref a7, .ref a8, .int (-1), .int 0, .int 3, .int 3, .int 0, .int 0, .int 0, .ref a9, .ref a10, .ref a11, .ref a12, .ref a13, .ref a14, .int 0, .int 0, .int 0, .int 0, .int (-1), .int 0])), (a1, .inl (k0, 80, .inl (upd g_871 (Int32.toNatClampNeg 3) (vp_nar .byte v_873))))] := hD
  generalize (upd g_871 (Int32.toNatClampNeg 3) (vp_nar .byte v_873)) = g_874 at hP hD
  refine lv_aload_n hx hb dX7_four_20 rfl (lv_at hl 1 rfl) ?_
  refine lv_dup hx hb dX7_four_21 rfl ?_
  refine ka_get C lq_142 rfl hK hP 0 rfl 1 (by decide) lq_144 rfl dX7_four_22 ?_
  refine lv_iconst (v := 1) hx hb dX7_four_25 (by decide) ?_
  refine lv_iadd hx hb dX7_four_26 ?_
  refine ka_top (w := .int 4) (congrArg Value.int (by decide)) ?_
  refine ka_put C lq_142 tyX7 tyX7_ok nmX7 rfl hK hP hD hS 0 rfl 1 (by decide) lq_144 rfl rfl rfl (Nat.le_of_ble_eq_true rfl) dX7_four_27 (fun H locs hP hD hS => ?_)
  have hP : va_P D vwCl [(a0, .inr (7, [.ref a1, .int 4, .ref a2, .ref a3, .ref a4, .ref a5, .ref a6, .ref a7, .ref a8, .int (-1), .int 0, .int 3, .int 3, .int 0, .int 0, .int 0, .ref a9, .ref a10, .ref a11, .ref a12, .ref a13, .ref a14, .int 0, .int 0, .int 0, .int 0, .int (-1), .int 0])), (a1, .inl (k0, 80, .inl g_874))] H := hP
  have hD : va_D A [(a0, .inr (7, [.ref a1, .int 4, .ref a2, .ref a3, .ref a4, .ref a5, .ref a6, .ref a7, .ref a8, .int (-1), .int 0, .int 3, .int 3, .int 0, .int 0, .int 0, .ref a9, .ref a10, .ref a11, .ref a12, .ref a13, .ref a14, .int 0, .int 0, .int 0, .int 0, .int (-1), .int 0])), (a1, .inl (k0, 80, .inl g_874))] := hD
  refine lv_iinc (v := (-8)) (lv' := [(2, .int (-8)), (0, .ref a0), (1, .int x0)]) hx hb dX7_four_30 hl (k := 0) rfl (by decide) (by decide) rfl (fun ls hl => ?_)
  refine lv_goto (tgt := 3) hx hb dX7_four_33 (by decide) ?_
  refine lv_iload_n hx hb dX7_four_3 rfl (lv_at hl 0 rfl) ?_
  refine lv_if_lt (tgt := 36) hx hb dX7_four_4 (by decide) (fun _ => ?_) (fun c_ => absurd (by decide) c_)
  exact ka_rEv C hr hlk (Nat.le_of_ble_eq_true rfl) (Nat.le_of_ble_eq_true rfl) hS (ka_qE g_874 rfl trivial hK hP hD hS [0, 1] (by decide) rfl [] rfl) dX7_four_36
set_option maxHeartbeats 4000000 in
set_option maxRecDepth 100000 in
theorem ct_X7_four_15 (l : Launch) (D : va_G) (a0 : Nat) (x0 : Int32) (a1 : Nat) (a2 : Nat) (a3 : Nat) (a4 : Nat) (a5 : Nat) (a6 : Nat) (a7 : Nat) (a8 : Nat) (a9 : Nat) (a10 : Nat) (a11 : Nat) (a12 : Nat) (a13 : Nat) (a14 : Nat) (k0 : ClassId) (f0 : Nat → Int32) : ka_E (S := (Nat → Int32)) l D yX7_four wsX7_four 0 0 0 0 [.ref a0, .int x0] [(a0, .inr (7, [.ref a1, .int 4, .ref a2, .ref a3, .ref a4, .ref a5, .ref a6, .ref a7, .ref a8, .int (-1), .int 0, .int 3, .int 3, .int 0, .int 0, .int 0, .ref a9, .ref a10, .ref a11, .ref a12, .ref a13, .ref a14, .int 0, .int 0, .int 0, .int 0, .int (-1), .int 0])), (a1, .inl (k0, 80, .inl f0))] [(k0, .byte)] (fun u => none) (fun _ => True) (fun u => [(a0, .inr (7, [.ref a1, .int 8, .ref a2, .ref a3, .ref a4, .ref a5, .ref a6, .ref a7, .ref a8, .int (-1), .int 0, .int 3, .int 3, .int 0, .int 0, .int 0, .ref a9, .ref a10, .ref a11, .ref a12, .ref a13, .ref a14, .int 0, .int 0, .int 0, .int 0, .int (-1), .int 0])), (a1, .inl (k0, 80, .inl u))]) (fun u => []) := by
  refine ka_E_of (cc := cX7_four) (maxL := 3) (ret := none) (by decide) rfl (Nat.le_of_ble_eq_true rfl) ?_
  intro p e s m below meth c ls A C hr hlk hin hP hK hD hS hA hE hN hl
  have C : CallFix p m c cX7_four 3 s [.ref a0, .int x0].toArray wsX7_four RX7 := C
  obtain ⟨hx, hb, hml, hown, hts⟩ := id C
  have hl : lv_has ls 3 [(0, .ref a0), (1, .int x0)] := hl
  have rx0 := ka_rng x0
  refine lv_bipush (v := 24) hx hb dX7_four_0 (by decide) ?_
  refine lv_istore_n (lv' := [(2, .int 24), (0, .ref a0), (1, .int x0)]) hx hb dX7_four_2 rfl hl (by decide) rfl (fun ls hl => ?_)
  refine lv_iload_n hx hb dX7_four_3 rfl (lv_at hl 0 rfl) ?_
  refine lv_if_lt (tgt := 36) hx hb dX7_four_4 (by decide) (fun c_ => absurd c_ (by decide)) (fun _ => ?_)
  refine lv_aload_n hx hb dX7_four_7 rfl (lv_at hl 1 rfl) ?_
  refine ka_get C lq_142 rfl hK hP 0 rfl 0 (by decide) lq_143 rfl dX7_four_8 ?_
  refine lv_aload_n hx hb dX7_four_11 rfl (lv_at hl 1 rfl) ?_
  refine ka_get C lq_142 rfl hK hP 0 rfl 1 (by decide) lq_144 rfl dX7_four_12 ?_
  refine lv_iload_n hx hb dX7_four_15 rfl (lv_at hl 2 rfl) ?_
  refine lv_iload_n hx hb dX7_four_16 rfl (lv_at hl 0 rfl) ?_
  refine lv_ishr hx hb dX7_four_17 ?_
  refine lv_topi (fun v_900 ev_900 => ?_)
  refine lv_i2b hx hb dX7_four_18 rfl ?_
  refine lv_topi (fun v_901 ev_901 => ?_)
  refine va_bast hx hb hK hP hD hS 1 0 rfl rfl (ka_in (by decide) (by decide)) dX7_four_19 (fun H locs hP hD hS => ?_)
  have hP : va_P D vwCl [(a0, .inr (7, [.ref a1, .int 4, .ref a2, .ref a3, .ref a4, .ref a5, .ref a6, .ref a7, .ref a8, .int (-1), .int 0, .int 3, .int 3, .int 0, .int 0, .int 0, .ref a9, .ref a10, .ref a11, .ref a12, .ref a13, .ref a14, .int 0, .int 0, .int 0, .int 0, .int (-1), .int 0])), (a1, .inl (k0, 80, .inl (upd f0 (Int32.toNatClampNeg 4) (vp_nar .byte v_901))))] H := hP
  have hD : va_D A [(a0, .inr (7, [.ref a1, .int 4, .ref a2, .ref a3, .ref a4, .ref a5, .ref a6, .ref a7, .ref a8, .int (-1), .int 0, .int 3, .int 3, .int 0, .int 0, .int 0, .ref a9, .ref a10, .ref a11, .ref a12, .ref a13, .ref a14, .int 0, .int 0, .int 0, .int 0, .int (-1), .int 0])), (a1, .inl (k0, 80, .inl (upd f0 (Int32.toNatClampNeg 4) (vp_nar .byte v_901))))] := hD
  generalize (upd f0 (Int32.toNatClampNeg 4) (vp_nar .byte v_901)) = g_902 at hP hD
  refine lv_aload_n hx hb dX7_four_20 rfl (lv_at hl 1 rfl) ?_
  refine lv_dup hx hb dX7_four_21 rfl ?_
  refine ka_get C lq_142 rfl hK hP 0 rfl 1 (by decide) lq_144 rfl dX7_four_22 ?_
  refine lv_iconst (v := 1) hx hb dX7_four_25 (by decide) ?_
  refine lv_iadd hx hb dX7_four_26 ?_
  refine ka_top (w := .int 5) (congrArg Value.int (by decide)) ?_
  refine ka_put C lq_142 tyX7 tyX7_ok nmX7 rfl hK hP hD hS 0 rfl 1 (by decide) lq_144 rfl rfl rfl (Nat.le_of_ble_eq_true rfl) dX7_four_27 (fun H locs hP hD hS => ?_)
  have hP : va_P D vwCl [(a0, .inr (7, [.ref a1, .int 5, .ref a2, .ref a3, .ref a4, .ref a5, .ref a6, .ref a7, .ref a8, .int (-1), .int 0, .int 3, .int 3, .int 0, .int 0, .int 0, .ref a9, .ref a10, .ref a11, .ref a12, .ref a13, .ref a14, .int 0, .int 0, .int 0, .int 0, .int (-1), .int 0])), (a1, .inl (k0, 80, .inl g_902))] H := hP
  have hD : va_D A [(a0, .inr (7, [.ref a1, .int 5, .ref a2, .ref a3, .ref a4, .ref a5, .ref a6, .ref a7, .ref a8, .int (-1), .int 0, .int 3, .int 3, .int 0, .int 0, .int 0, .ref a9, .ref a10, .ref a11, .ref a12, .ref a13, .ref a14, .int 0, .int 0, .int 0, .int 0, .int (-1), .int 0])), (a1, .inl (k0, 80, .inl g_902))] := hD
  refine lv_iinc (v := 16) (lv' := [(2, .int 16), (0, .ref a0), (1, .int x0)]) hx hb dX7_four_30 hl (k := 0) rfl (by decide) (by decide) rfl (fun ls hl => ?_)
  refine lv_goto (tgt := 3) hx hb dX7_four_33 (by decide) ?_
  refine lv_iload_n hx hb dX7_four_3 rfl (lv_at hl 0 rfl) ?_
  refine lv_if_lt (tgt := 36) hx hb dX7_four_4 (by decide) (fun c_ => absurd c_ (by decide)) (fun _ => ?_)
  refine lv_aload_n hx hb dX7_four_7 rfl (lv_at hl 1 rfl) ?_
  refine ka_get C lq_142 rfl hK hP 0 rfl 0 (by decide) lq_143 rfl dX7_four_8 ?_
  refine lv_aload_n hx hb dX7_four_11 rfl (lv_at hl 1 rfl) ?_
  refine ka_get C lq_142 rfl hK hP 0 rfl 1 (by decide) lq_144 rfl dX7_four_12 ?_
  refine lv_iload_n hx hb dX7_four_15 rfl (lv_at hl 2 rfl) ?_
  refine lv_iload_n hx hb dX7_four_16 rfl (lv_at hl 0 rfl) ?_
  refine lv_ishr hx hb dX7_four_17 ?_
  refine lv_topi (fun v_903 ev_903 => ?_)
  refine lv_i2b hx hb dX7_four_18 rfl ?_
  refine lv_topi (fun v_904 ev_904 => ?_)
  refine va_bast hx hb hK hP hD hS 1 0 rfl rfl (ka_in (by decide) (by decide)) dX7_four_19 (fun H locs hP hD hS => ?_)
  have hP : va_P D vwCl [(a0, .inr (7, [.ref a1, .int 5, .ref a2, .ref a3, .ref a4, .ref a5, .ref a6, .ref a7, .ref a8, .int (-1), .int 0, .int 3, .int 3, .int 0, .int 0, .int 0, .ref a9, .ref a10, .ref a11, .ref a12, .ref a13, .ref a14, .int 0, .int 0, .int 0, .int 0, .int (-1), .int 0])), (a1, .inl (k0, 80, .inl (upd g_902 (Int32.toNatClampNeg 5) (vp_nar .byte v_904))))] H := hP
  have hD : va_D A [(a0, .inr (7, [.ref a1, .int 5, .ref a2, .ref a3, .ref a4, .ref a5, .ref a6, .ref a7, .ref a8, .int (-1), .int 0, .int 3, .int 3, .int 0, .int 0, .int 0, .ref a9, .ref a10, .ref a11, .ref a12, .ref a13, .ref a14, .int 0, .int 0, .int 0, .int 0, .int (-1), .int 0])), (a1, .inl (k0, 80, .inl (upd g_902 (Int32.toNatClampNeg 5) (vp_nar .byte v_904))))] := hD
  generalize (upd g_902 (Int32.toNatClampNeg 5) (vp_nar .byte v_904)) = g_905 at hP hD
  refine lv_aload_n hx hb dX7_four_20 rfl (lv_at hl 1 rfl) ?_
  refine lv_dup hx hb dX7_four_21 rfl ?_
  refine ka_get C lq_142 rfl hK hP 0 rfl 1 (by decide) lq_144 rfl dX7_four_22 ?_
  refine lv_iconst (v := 1) hx hb dX7_four_25 (by decide) ?_
  refine lv_iadd hx hb dX7_four_26 ?_
  refine ka_top (w := .int 6) (congrArg Value.int (by decide)) ?_
  refine ka_put C lq_142 tyX7 tyX7_ok nmX7 rfl hK hP hD hS 0 rfl 1 (by decide) lq_144 rfl rfl rfl (Nat.le_of_ble_eq_true rfl) dX7_four_27 (fun H locs hP hD hS => ?_)
  have hP : va_P D vwCl [(a0, .inr (7, [.ref a1, .int 6, .ref a2, .ref a3, .ref a4, .ref a5, .ref a6, .ref a7, .ref a8, .int (-1), .int 0, .int 3, .int 3, .int 0, .int 0, .int 0, .ref a9, .ref a10, .ref a11, .ref a12, .ref a13, .ref a14, .int 0, .int 0, .int 0, .int 0, .int (-1), .int 0])), (a1, .inl (k0, 80, .inl g_905))] H := hP
  have hD : va_D A [(a0, .inr (7, [.ref a1, .int 6, .ref a2, .ref a3, .ref a4, .ref a5, .ref a6, .ref a7, .ref a8, .int (-1), .int 0, .int 3, .int 3, .int 0, .int 0, .int 0, .ref a9, .ref a10, .ref a11, .ref a12, .ref a13, .ref a14, .int 0, .int 0, .int 0, .int 0, .int (-1), .int 0])), (a1, .inl (k0, 80, .inl g_905))] := hD
  refine lv_iinc (v := 8) (lv' := [(2, .int 8), (0, .ref a0), (1, .int x0)]) hx hb dX7_four_30 hl (k := 0) rfl (by decide) (by decide) rfl (fun ls hl => ?_)
  refine lv_goto (tgt := 3) hx hb dX7_four_33 (by decide) ?_
  refine lv_iload_n hx hb dX7_four_3 rfl (lv_at hl 0 rfl) ?_
  refine lv_if_lt (tgt := 36) hx hb dX7_four_4 (by decide) (fun c_ => absurd c_ (by decide)) (fun _ => ?_)
  refine lv_aload_n hx hb dX7_four_7 rfl (lv_at hl 1 rfl) ?_
  refine ka_get C lq_142 rfl hK hP 0 rfl 0 (by decide) lq_143 rfl dX7_four_8 ?_
  refine lv_aload_n hx hb dX7_four_11 rfl (lv_at hl 1 rfl) ?_
  refine ka_get C lq_142 rfl hK hP 0 rfl 1 (by decide) lq_144 rfl dX7_four_12 ?_
  refine lv_iload_n hx hb dX7_four_15 rfl (lv_at hl 2 rfl) ?_
  refine lv_iload_n hx hb dX7_four_16 rfl (lv_at hl 0 rfl) ?_
  refine lv_ishr hx hb dX7_four_17 ?_
  refine lv_topi (fun v_906 ev_906 => ?_)
  refine lv_i2b hx hb dX7_four_18 rfl ?_
  refine lv_topi (fun v_907 ev_907 => ?_)
  refine va_bast hx hb hK hP hD hS 1 0 rfl rfl (ka_in (by decide) (by decide)) dX7_four_19 (fun H locs hP hD hS => ?_)
  have hP : va_P D vwCl [(a0, .inr (7, [.ref a1, .int 6, .ref a2, .ref a3, .ref a4, .ref a5, .ref a6, .ref a7, .ref a8, .int (-1), .int 0, .int 3, .int 3, .int 0, .int 0, .int 0, .ref a9, .ref a10, .ref a11, .ref a12, .ref a13, .ref a14, .int 0, .int 0, .int 0, .int 0, .int (-1), .int 0])), (a1, .inl (k0, 80, .inl (upd g_905 (Int32.toNatClampNeg 6) (vp_nar .byte v_907))))] H := hP
  have hD : va_D A [(a0, .inr (7, [.ref a1, .int 6, .ref a2, .ref a3, .ref a4, .ref a5, .ref a6, .ref a7, .ref a8, .int (-1), .int 0, .int 3, .int 3, .int 0, .int 0, .int 0, .ref a9, .ref a10, .ref a11, .ref a12, .ref a13, .ref a14, .int 0, .int 0, .int 0, .int 0, .int (-1), .int 0])), (a1, .inl (k0, 80, .inl (upd g_905 (Int32.toNatClampNeg 6) (vp_nar .byte v_907))))] := hD
  generalize (upd g_905 (Int32.toNatClampNeg 6) (vp_nar .byte v_907)) = g_908 at hP hD
  refine lv_aload_n hx hb dX7_four_20 rfl (lv_at hl 1 rfl) ?_
  refine lv_dup hx hb dX7_four_21 rfl ?_
  refine ka_get C lq_142 rfl hK hP 0 rfl 1 (by decide) lq_144 rfl dX7_four_22 ?_
  refine lv_iconst (v := 1) hx hb dX7_four_25 (by decide) ?_
  refine lv_iadd hx hb dX7_four_26 ?_
  refine ka_top (w := .int 7) (congrArg Value.int (by decide)) ?_
  refine ka_put C lq_142 tyX7 tyX7_ok nmX7 rfl hK hP hD hS 0 rfl 1 (by decide) lq_144 rfl rfl rfl (Nat.le_of_ble_eq_true rfl) dX7_four_27 (fun H locs hP hD hS => ?_)
  have hP : va_P D vwCl [(a0, .inr (7, [.ref a1, .int 7, .ref a2, .ref a3, .ref a4, .ref a5, .ref a6, .ref a7, .ref a8, .int (-1), .int 0, .int 3, .int 3, .int 0, .int 0, .int 0, .ref a9, .ref a10, .ref a11, .ref a12, .ref a13, .ref a14, .int 0, .int 0, .int 0, .int 0, .int (-1), .int 0])), (a1, .inl (k0, 80, .inl g_908))] H := hP
  have hD : va_D A [(a0, .inr (7, [.ref a1, .int 7, .ref a2, .ref a3, .ref a4, .ref a5, .ref a6, .ref a7, .ref a8, .int (-1), .int 0, .int 3, .int 3, .int 0, .int 0, .int 0, .ref a9, .ref a10, .ref a11, .ref a12, .ref a13, .ref a14, .int 0, .int 0, .int 0, .int 0, .int (-1), .int 0])), (a1, .inl (k0, 80, .inl g_908))] := hD
  refine lv_iinc (v := 0) (lv' := [(2, .int 0), (0, .ref a0), (1, .int x0)]) hx hb dX7_four_30 hl (k := 0) rfl (by decide) (by decide) rfl (fun ls hl => ?_)
  refine lv_goto (tgt := 3) hx hb dX7_four_33 (by decide) ?_
  refine lv_iload_n hx hb dX7_four_3 rfl (lv_at hl 0 rfl) ?_
  refine lv_if_lt (tgt := 36) hx hb dX7_four_4 (by decide) (fun c_ => absurd c_ (by decide)) (fun _ => ?_)
  refine lv_aload_n hx hb dX7_four_7 rfl (lv_at hl 1 rfl) ?_
  refine ka_get C lq_142 rfl hK hP 0 rfl 0 (by decide) lq_143 rfl dX7_four_8 ?_
  refine lv_aload_n hx hb dX7_four_11 rfl (lv_at hl 1 rfl) ?_
  refine ka_get C lq_142 rfl hK hP 0 rfl 1 (by decide) lq_144 rfl dX7_four_12 ?_
  refine lv_iload_n hx hb dX7_four_15 rfl (lv_at hl 2 rfl) ?_
  refine lv_iload_n hx hb dX7_four_16 rfl (lv_at hl 0 rfl) ?_
  refine lv_ishr hx hb dX7_four_17 ?_
  refine lv_topi (fun v_909 ev_909 => ?_)
  refine lv_i2b hx hb dX7_four_18 rfl ?_
  refine lv_topi (fun v_910 ev_910 => ?_)
  refine va_bast hx hb hK hP hD hS 1 0 rfl rfl (ka_in (by decide) (by decide)) dX7_four_19 (fun H locs hP hD hS => ?_)
  have hP : va_P D vwCl [(a0, .inr (7, [.ref a1, .int 7, .ref a2, .ref a3, .ref a4, .ref a5, .ref a6, .ref a7, .ref a8, .int (-1), .int 0, .int 3, .int 3, .int 0, .int 0, .int 0, .ref a9, .ref a10, .ref a11, .ref a12, .ref a13, .ref a14, .int 0, .int 0, .int 0, .int 0, .int (-1), .int 0])), (a1, .inl (k0, 80, .inl (upd g_908 (Int32.toNatClampNeg 7) (vp_nar .byte v_910))))] H := hP
  have hD : va_D A [(a0, .inr (7, [.ref a1, .int 7, .ref a2, .ref a3, .ref a4, .ref a5, .ref a6, .ref a7, .ref a8, .int (-1), .int 0, .int 3, .int 3, .int 0, .int 0, .int 0, .ref a9, .ref a10, .ref a11, .ref a12, .ref a13, .ref a14, .int 0, .int 0, .int 0, .int 0, .int (-1), .int 0])), (a1, .inl (k0, 80, .inl (upd g_908 (Int32.toNatClampNeg 7) (vp_nar .byte v_910))))] := hD
  generalize (upd g_908 (Int32.toNatClampNeg 7) (vp_nar .byte v_910)) = g_911 at hP hD
  refine lv_aload_n hx hb dX7_four_20 rfl (lv_at hl 1 rfl) ?_
  refine lv_dup hx hb dX7_four_21 rfl ?_
  refine ka_get C lq_142 rfl hK hP 0 rfl 1 (by decide) lq_144 rfl dX7_four_22 ?_
  refine lv_iconst (v := 1) hx hb dX7_four_25 (by decide) ?_
  refine lv_iadd hx hb dX7_four_26 ?_
  refine ka_top (w := .int 8) (congrArg Value.int (by decide)) ?_
  refine ka_put C lq_142 tyX7 tyX7_ok nmX7 rfl hK hP hD hS 0 rfl 1 (by decide) lq_144 rfl rfl rfl (Nat.le_of_ble_eq_true rfl) dX7_four_27 (fun H locs hP hD hS => ?_)
  have hP : va_P D vwCl [(a0, .inr (7, [.ref a1, .int 8, .ref a2, .ref a3, .ref a4, .ref a5, .ref a6, .ref a7, .ref a8, .int (-1), .int 0, .int 3, .int 3, .int 0, .int 0, .int 0, .ref a9, .ref a10, .ref a11, .ref a12, .ref a13, .ref a14, .int 0, .int 0, .int 0, .int 0, .int (-1), .int 0])), (a1, .inl (k0, 80, .inl g_911))] H := hP
  have hD : va_D A [(a0, .inr (7, [.ref a1, .int 8, .ref a2, .ref a3, .ref a4, .ref a5, .ref a6, .ref a7, .ref a8, .int (-1), .int 0, .int 3, .int 3, .int 0, .int 0, .int 0, .ref a9, .ref a10, .ref a11, .ref a12, .ref a13, .ref a14, .int 0, .int 0, .int 0, .int 0, .int (-1), .int 0])), (a1, .inl (k0, 80, .inl g_911))] := hD
  refine lv_iinc (v := (-8)) (lv' := [(2, .int (-8)), (0, .ref a0), (1, .int x0)]) hx hb dX7_four_30 hl (k := 0) rfl (by decide) (by decide) rfl (fun ls hl => ?_)
  refine lv_goto (tgt := 3) hx hb dX7_four_33 (by decide) ?_
  refine lv_iload_n hx hb dX7_four_3 rfl (lv_at hl 0 rfl) ?_
  refine lv_if_lt (tgt := 36) hx hb dX7_four_4 (by decide) (fun _ => ?_) (fun c_ => absurd (by decide) c_)
  exact ka_rEv C hr hlk (Nat.le_of_ble_eq_true rfl) (Nat.le_of_ble_eq_true rfl) hS (ka_qE g_911 rfl trivial hK hP hD hS [0, 1] (by decide) rfl [] rfl) dX7_four_36
set_option maxHeartbeats 4000000 in
set_option maxRecDepth 100000 in
theorem ct_X7_four_16 (l : Launch) (D : va_G) (a0 : Nat) (x0 : Int32) (a1 : Nat) (a2 : Nat) (a3 : Nat) (a4 : Nat) (a5 : Nat) (a6 : Nat) (a7 : Nat) (a8 : Nat) (a9 : Nat) (a10 : Nat) (a11 : Nat) (a12 : Nat) (a13 : Nat) (a14 : Nat) (k0 : ClassId) (f0 : Nat → Int32) : ka_E (S := (Nat → Int32)) l D yX7_four wsX7_four 0 0 0 0 [.ref a0, .int x0] [(a0, .inr (7, [.ref a1, .int 8, .ref a2, .ref a3, .ref a4, .ref a5, .ref a6, .ref a7, .ref a8, .int (-1), .int 0, .int 3, .int 3, .int 0, .int 0, .int 0, .ref a9, .ref a10, .ref a11, .ref a12, .ref a13, .ref a14, .int 0, .int 0, .int 0, .int 0, .int (-1), .int 0])), (a1, .inl (k0, 80, .inl f0))] [(k0, .byte)] (fun u => none) (fun _ => True) (fun u => [(a0, .inr (7, [.ref a1, .int 12, .ref a2, .ref a3, .ref a4, .ref a5, .ref a6, .ref a7, .ref a8, .int (-1), .int 0, .int 3, .int 3, .int 0, .int 0, .int 0, .ref a9, .ref a10, .ref a11, .ref a12, .ref a13, .ref a14, .int 0, .int 0, .int 0, .int 0, .int (-1), .int 0])), (a1, .inl (k0, 80, .inl u))]) (fun u => []) := by
  refine ka_E_of (cc := cX7_four) (maxL := 3) (ret := none) (by decide) rfl (Nat.le_of_ble_eq_true rfl) ?_
  intro p e s m below meth c ls A C hr hlk hin hP hK hD hS hA hE hN hl
  have C : CallFix p m c cX7_four 3 s [.ref a0, .int x0].toArray wsX7_four RX7 := C
  obtain ⟨hx, hb, hml, hown, hts⟩ := id C
  have hl : lv_has ls 3 [(0, .ref a0), (1, .int x0)] := hl
  have rx0 := ka_rng x0
  refine lv_bipush (v := 24) hx hb dX7_four_0 (by decide) ?_
  refine lv_istore_n (lv' := [(2, .int 24), (0, .ref a0), (1, .int x0)]) hx hb dX7_four_2 rfl hl (by decide) rfl (fun ls hl => ?_)
  refine lv_iload_n hx hb dX7_four_3 rfl (lv_at hl 0 rfl) ?_
  refine lv_if_lt (tgt := 36) hx hb dX7_four_4 (by decide) (fun c_ => absurd c_ (by decide)) (fun _ => ?_)
  refine lv_aload_n hx hb dX7_four_7 rfl (lv_at hl 1 rfl) ?_
  refine ka_get C lq_142 rfl hK hP 0 rfl 0 (by decide) lq_143 rfl dX7_four_8 ?_
  refine lv_aload_n hx hb dX7_four_11 rfl (lv_at hl 1 rfl) ?_
  refine ka_get C lq_142 rfl hK hP 0 rfl 1 (by decide) lq_144 rfl dX7_four_12 ?_
  refine lv_iload_n hx hb dX7_four_15 rfl (lv_at hl 2 rfl) ?_
  refine lv_iload_n hx hb dX7_four_16 rfl (lv_at hl 0 rfl) ?_
  refine lv_ishr hx hb dX7_four_17 ?_
  refine lv_topi (fun v_937 ev_937 => ?_)
  refine lv_i2b hx hb dX7_four_18 rfl ?_
  refine lv_topi (fun v_938 ev_938 => ?_)
  refine va_bast hx hb hK hP hD hS 1 0 rfl rfl (ka_in (by decide) (by decide)) dX7_four_19 (fun H locs hP hD hS => ?_)
  have hP : va_P D vwCl [(a0, .inr (7, [.ref a1, .int 8, .ref a2, .ref a3, .ref a4, .ref a5, .ref a6, .ref a7, .ref a8, .int (-1), .int 0, .int 3, .int 3, .int 0, .int 0, .int 0, .ref a9, .ref a10, .ref a11, .ref a12, .ref a13, .ref a14, .int 0, .int 0, .int 0, .int 0, .int (-1), .int 0])), (a1, .inl (k0, 80, .inl (upd f0 (Int32.toNatClampNeg 8) (vp_nar .byte v_938))))] H := hP
  have hD : va_D A [(a0, .inr (7, [.ref a1, .int 8, .ref a2, .ref a3, .ref a4, .ref a5, .ref a6, .ref a7, .ref a8, .int (-1), .int 0, .int 3, .int 3, .int 0, .int 0, .int 0, .ref a9, .ref a10, .ref a11, .ref a12, .ref a13, .ref a14, .int 0, .int 0, .int 0, .int 0, .int (-1), .int 0])), (a1, .inl (k0, 80, .inl (upd f0 (Int32.toNatClampNeg 8) (vp_nar .byte v_938))))] := hD
  generalize (upd f0 (Int32.toNatClampNeg 8) (vp_nar .byte v_938)) = g_939 at hP hD
  refine lv_aload_n hx hb dX7_four_20 rfl (lv_at hl 1 rfl) ?_
  refine lv_dup hx hb dX7_four_21 rfl ?_
  refine ka_get C lq_142 rfl hK hP 0 rfl 1 (by decide) lq_144 rfl dX7_four_22 ?_
  refine lv_iconst (v := 1) hx hb dX7_four_25 (by decide) ?_
  refine lv_iadd hx hb dX7_four_26 ?_
  refine ka_top (w := .int 9) (congrArg Value.int (by decide)) ?_
  refine ka_put C lq_142 tyX7 tyX7_ok nmX7 rfl hK hP hD hS 0 rfl 1 (by decide) lq_144 rfl rfl rfl (Nat.le_of_ble_eq_true rfl) dX7_four_27 (fun H locs hP hD hS => ?_)
  have hP : va_P D vwCl [(a0, .inr (7, [.ref a1, .int 9, .ref a2, .ref a3, .ref a4, .ref a5, .ref a6, .ref a7, .ref a8, .int (-1), .int 0, .int 3, .int 3, .int 0, .int 0, .int 0, .ref a9, .ref a10, .ref a11, .ref a12, .ref a13, .ref a14, .int 0, .int 0, .int 0, .int 0, .int (-1), .int 0])), (a1, .inl (k0, 80, .inl g_939))] H := hP
  have hD : va_D A [(a0, .inr (7, [.ref a1, .int 9, .ref a2, .ref a3, .ref a4, .ref a5, .ref a6, .ref a7, .ref a8, .int (-1), .int 0, .int 3, .int 3, .int 0, .int 0, .int 0, .ref a9, .ref a10, .ref a11, .ref a12, .ref a13, .ref a14, .int 0, .int 0, .int 0, .int 0, .int (-1), .int 0])), (a1, .inl (k0, 80, .inl g_939))] := hD
  refine lv_iinc (v := 16) (lv' := [(2, .int 16), (0, .ref a0), (1, .int x0)]) hx hb dX7_four_30 hl (k := 0) rfl (by decide) (by decide) rfl (fun ls hl => ?_)
  refine lv_goto (tgt := 3) hx hb dX7_four_33 (by decide) ?_
  refine lv_iload_n hx hb dX7_four_3 rfl (lv_at hl 0 rfl) ?_
  refine lv_if_lt (tgt := 36) hx hb dX7_four_4 (by decide) (fun c_ => absurd c_ (by decide)) (fun _ => ?_)
  refine lv_aload_n hx hb dX7_four_7 rfl (lv_at hl 1 rfl) ?_
  refine ka_get C lq_142 rfl hK hP 0 rfl 0 (by decide) lq_143 rfl dX7_four_8 ?_
  refine lv_aload_n hx hb dX7_four_11 rfl (lv_at hl 1 rfl) ?_
  refine ka_get C lq_142 rfl hK hP 0 rfl 1 (by decide) lq_144 rfl dX7_four_12 ?_
  refine lv_iload_n hx hb dX7_four_15 rfl (lv_at hl 2 rfl) ?_
  refine lv_iload_n hx hb dX7_four_16 rfl (lv_at hl 0 rfl) ?_
  refine lv_ishr hx hb dX7_four_17 ?_
  refine lv_topi (fun v_940 ev_940 => ?_)
  refine lv_i2b hx hb dX7_four_18 rfl ?_
  refine lv_topi (fun v_941 ev_941 => ?_)
  refine va_bast hx hb hK hP hD hS 1 0 rfl rfl (ka_in (by decide) (by decide)) dX7_four_19 (fun H locs hP hD hS => ?_)
  have hP : va_P D vwCl [(a0, .inr (7, [.ref a1, .int 9, .ref a2, .ref a3, .ref a4, .ref a5, .ref a6, .ref a7, .ref a8, .int (-1), .int 0, .int 3, .int 3, .int 0, .int 0, .int 0, .ref a9, .ref a10, .ref a11, .ref a12, .ref a13, .ref a14, .int 0, .int 0, .int 0, .int 0, .int (-1), .int 0])), (a1, .inl (k0, 80, .inl (upd g_939 (Int32.toNatClampNeg 9) (vp_nar .byte v_941))))] H := hP
  have hD : va_D A [(a0, .inr (7, [.ref a1, .int 9, .ref a2, .ref a3, .ref a4, .ref a5, .ref a6, .ref a7, .ref a8, .int (-1), .int 0, .int 3, .int 3, .int 0, .int 0, .int 0, .ref a9, .ref a10, .ref a11, .ref a12, .ref a13, .ref a14, .int 0, .int 0, .int 0, .int 0, .int (-1), .int 0])), (a1, .inl (k0, 80, .inl (upd g_939 (Int32.toNatClampNeg 9) (vp_nar .byte v_941))))] := hD
  generalize (upd g_939 (Int32.toNatClampNeg 9) (vp_nar .byte v_941)) = g_942 at hP hD
  refine lv_aload_n hx hb dX7_four_20 rfl (lv_at hl 1 rfl) ?_
  refine lv_dup hx hb dX7_four_21 rfl ?_
  refine ka_get C lq_142 rfl hK hP 0 rfl 1 (by decide) lq_144 rfl dX7_four_22 ?_
  refine lv_iconst (v := 1) hx hb dX7_four_25 (by decide) ?_
  refine lv_iadd hx hb dX7_four_26 ?_
  refine ka_top (w := .int 10) (congrArg Value.int (by decide)) ?_
  refine ka_put C lq_142 tyX7 tyX7_ok nmX7 rfl hK hP hD hS 0 rfl 1 (by decide) lq_144 rfl rfl rfl (Nat.le_of_ble_eq_true rfl) dX7_four_27 (fun H locs hP hD hS => ?_)
  have hP : va_P D vwCl [(a0, .inr (7, [.ref a1, .int 10, .ref a2, .ref a3, .ref a4, .ref a5, .ref a6, .ref a7, .ref a8, .int (-1), .int 0, .int 3, .int 3, .int 0, .int 0, .int 0, .ref a9, .ref a10, .ref a11, .ref a12, .ref a13, .ref a14, .int 0, .int 0, .int 0, .int 0, .int (-1), .int 0])), (a1, .inl (k0, 80, .inl g_942))] H := hP
  have hD : va_D A [(a0, .inr (7, [.ref a1, .int 10, .ref a2, .ref a3, .ref a4, .ref a5, .ref a6, .ref a7, .ref a8, .int (-1), .int 0, .int 3, .int 3, .int 0, .int 0, .int 0, .ref a9, .ref a10, .ref a11, .ref a12, .ref a13, .ref a14, .int 0, .int 0, .int 0, .int 0, .int (-1), .int 0])), (a1, .inl (k0, 80, .inl g_942))] := hD
  refine lv_iinc (v := 8) (lv' := [(2, .int 8), (0, .ref a0), (1, .int x0)]) hx hb dX7_four_30 hl (k := 0) rfl (by decide) (by decide) rfl (fun ls hl => ?_)
  refine lv_goto (tgt := 3) hx hb dX7_four_33 (by decide) ?_
  refine lv_iload_n hx hb dX7_four_3 rfl (lv_at hl 0 rfl) ?_
  refine lv_if_lt (tgt := 36) hx hb dX7_four_4 (by decide) (fun c_ => absurd c_ (by decide)) (fun _ => ?_)
  refine lv_aload_n hx hb dX7_four_7 rfl (lv_at hl 1 rfl) ?_
  refine ka_get C lq_142 rfl hK hP 0 rfl 0 (by decide) lq_143 rfl dX7_four_8 ?_
  refine lv_aload_n hx hb dX7_four_11 rfl (lv_at hl 1 rfl) ?_
  refine ka_get C lq_142 rfl hK hP 0 rfl 1 (by decide) lq_144 rfl dX7_four_12 ?_
  refine lv_iload_n hx hb dX7_four_15 rfl (lv_at hl 2 rfl) ?_
  refine lv_iload_n hx hb dX7_four_16 rfl (lv_at hl 0 rfl) ?_
  refine lv_ishr hx hb dX7_four_17 ?_
  refine lv_topi (fun v_943 ev_943 => ?_)
  refine lv_i2b hx hb dX7_four_18 rfl ?_
  refine lv_topi (fun v_944 ev_944 => ?_)
  refine va_bast hx hb hK hP hD hS 1 0 rfl rfl (ka_in (by decide) (by decide)) dX7_four_19 (fun H locs hP hD hS => ?_)
  have hP : va_P D vwCl [(a0, .inr (7, [.ref a1, .int 10, .ref a2, .ref a3, .ref a4, .ref a5, .ref a6, .ref a7, .ref a8, .int (-1), .int 0, .int 3, .int 3, .int 0, .int 0, .int 0, .ref a9, .ref a10, .ref a11, .ref a12, .ref a13, .ref a14, .int 0, .int 0, .int 0, .int 0, .int (-1), .int 0])), (a1, .inl (k0, 80, .inl (upd g_942 (Int32.toNatClampNeg 10) (vp_nar .byte v_944))))] H := hP
  have hD : va_D A [(a0, .inr (7, [.ref a1, .int 10, .ref a2, .ref a3, .ref a4, .ref a5, .ref a6, .ref a7, .ref a8, .int (-1), .int 0, .int 3, .int 3, .int 0, .int 0, .int 0, .ref a9, .ref a10, .ref a11, .ref a12, .ref a13, .ref a14, .int 0, .int 0, .int 0, .int 0, .int (-1), .int 0])), (a1, .inl (k0, 80, .inl (upd g_942 (Int32.toNatClampNeg 10) (vp_nar .byte v_944))))] := hD
  generalize (upd g_942 (Int32.toNatClampNeg 10) (vp_nar .byte v_944)) = g_945 at hP hD
  refine lv_aload_n hx hb dX7_four_20 rfl (lv_at hl 1 rfl) ?_
  refine lv_dup hx hb dX7_four_21 rfl ?_
  refine ka_get C lq_142 rfl hK hP 0 rfl 1 (by decide) lq_144 rfl dX7_four_22 ?_
  refine lv_iconst (v := 1) hx hb dX7_four_25 (by decide) ?_
  refine lv_iadd hx hb dX7_four_26 ?_
  refine ka_top (w := .int 11) (congrArg Value.int (by decide)) ?_
  refine ka_put C lq_142 tyX7 tyX7_ok nmX7 rfl hK hP hD hS 0 rfl 1 (by decide) lq_144 rfl rfl rfl (Nat.le_of_ble_eq_true rfl) dX7_four_27 (fun H locs hP hD hS => ?_)
  have hP : va_P D vwCl [(a0, .inr (7, [.ref a1, .int 11, .ref a2, .ref a3, .ref a4, .ref a5, .ref a6, .ref a7, .ref a8, .int (-1), .int 0, .int 3, .int 3, .int 0, .int 0, .int 0, .ref a9, .ref a10, .ref a11, .ref a12, .ref a13, .ref a14, .int 0, .int 0, .int 0, .int 0, .int (-1), .int 0])), (a1, .inl (k0, 80, .inl g_945))] H := hP
  have hD : va_D A [(a0, .inr (7, [.ref a1, .int 11, .ref a2, .ref a3, .ref a4, .ref a5, .ref a6, .ref a7, .ref a8, .int (-1), .int 0, .int 3, .int 3, .int 0, .int 0, .int 0, .ref a9, .ref a10, .ref a11, .ref a12, .ref a13, .ref a14, .int 0, .int 0, .int 0, .int 0, .int (-1), .int 0])), (a1, .inl (k0, 80, .inl g_945))] := hD
  refine lv_iinc (v := 0) (lv' := [(2, .int 0), (0, .ref a0), (1, .int x0)]) hx hb dX7_four_30 hl (k := 0) rfl (by decide) (by decide) rfl (fun ls hl => ?_)
  refine lv_goto (tgt := 3) hx hb dX7_four_33 (by decide) ?_
  refine lv_iload_n hx hb dX7_four_3 rfl (lv_at hl 0 rfl) ?_
  refine lv_if_lt (tgt := 36) hx hb dX7_four_4 (by decide) (fun c_ => absurd c_ (by decide)) (fun _ => ?_)
  refine lv_aload_n hx hb dX7_four_7 rfl (lv_at hl 1 rfl) ?_
  refine ka_get C lq_142 rfl hK hP 0 rfl 0 (by decide) lq_143 rfl dX7_four_8 ?_
  refine lv_aload_n hx hb dX7_four_11 rfl (lv_at hl 1 rfl) ?_
  refine ka_get C lq_142 rfl hK hP 0 rfl 1 (by decide) lq_144 rfl dX7_four_12 ?_
  refine lv_iload_n hx hb dX7_four_15 rfl (lv_at hl 2 rfl) ?_
  refine lv_iload_n hx hb dX7_four_16 rfl (lv_at hl 0 rfl) ?_
  refine lv_ishr hx hb dX7_four_17 ?_
  refine lv_topi (fun v_946 ev_946 => ?_)
  refine lv_i2b hx hb dX7_four_18 rfl ?_
  refine lv_topi (fun v_947 ev_947 => ?_)
  refine va_bast hx hb hK hP hD hS 1 0 rfl rfl (ka_in (by decide) (by decide)) dX7_four_19 (fun H locs hP hD hS => ?_)
  have hP : va_P D vwCl [(a0, .inr (7, [.ref a1, .int 11, .ref a2, .ref a3, .ref a4, .ref a5, .ref a6, .ref a7, .ref a8, .int (-1), .int 0, .int 3, .int 3, .int 0, .int 0, .int 0, .ref a9, .ref a10, .ref a11, .ref a12, .ref a13, .ref a14, .int 0, .int 0, .int 0, .int 0, .int (-1), .int 0])), (a1, .inl (k0, 80, .inl (upd g_945 (Int32.toNatClampNeg 11) (vp_nar .byte v_947))))] H := hP
  have hD : va_D A [(a0, .inr (7, [.ref a1, .int 11, .ref a2, .ref a3, .ref a4, .ref a5, .ref a6, .ref a7, .ref a8, .int (-1), .int 0, .int 3, .int 3, .int 0, .int 0, .int 0, .ref a9, .ref a10, .ref a11, .ref a12, .ref a13, .ref a14, .int 0, .int 0, .int 0, .int 0, .int (-1), .int 0])), (a1, .inl (k0, 80, .inl (upd g_945 (Int32.toNatClampNeg 11) (vp_nar .byte v_947))))] := hD
  generalize (upd g_945 (Int32.toNatClampNeg 11) (vp_nar .byte v_947)) = g_948 at hP hD
  refine lv_aload_n hx hb dX7_four_20 rfl (lv_at hl 1 rfl) ?_
  refine lv_dup hx hb dX7_four_21 rfl ?_
  refine ka_get C lq_142 rfl hK hP 0 rfl 1 (by decide) lq_144 rfl dX7_four_22 ?_
  refine lv_iconst (v := 1) hx hb dX7_four_25 (by decide) ?_
  refine lv_iadd hx hb dX7_four_26 ?_
  refine ka_top (w := .int 12) (congrArg Value.int (by decide)) ?_
  refine ka_put C lq_142 tyX7 tyX7_ok nmX7 rfl hK hP hD hS 0 rfl 1 (by decide) lq_144 rfl rfl rfl (Nat.le_of_ble_eq_true rfl) dX7_four_27 (fun H locs hP hD hS => ?_)
  have hP : va_P D vwCl [(a0, .inr (7, [.ref a1, .int 12, .ref a2, .ref a3, .ref a4, .ref a5, .ref a6, .ref a7, .ref a8, .int (-1), .int 0, .int 3, .int 3, .int 0, .int 0, .int 0, .ref a9, .ref a10, .ref a11, .ref a12, .ref a13, .ref a14, .int 0, .int 0, .int 0, .int 0, .int (-1), .int 0])), (a1, .inl (k0, 80, .inl g_948))] H := hP
  have hD : va_D A [(a0, .inr (7, [.ref a1, .int 12, .ref a2, .ref a3, .ref a4, .ref a5, .ref a6, .ref a7, .ref a8, .int (-1), .int 0, .int 3, .int 3, .int 0, .int 0, .int 0, .ref a9, .ref a10, .ref a11, .ref a12, .ref a13, .ref a14, .int 0, .int 0, .int 0, .int 0, .int (-1), .int 0])), (a1, .inl (k0, 80, .inl g_948))] := hD
  refine lv_iinc (v := (-8)) (lv' := [(2, .int (-8)), (0, .ref a0), (1, .int x0)]) hx hb dX7_four_30 hl (k := 0) rfl (by decide) (by decide) rfl (fun ls hl => ?_)
  refine lv_goto (tgt := 3) hx hb dX7_four_33 (by decide) ?_
  refine lv_iload_n hx hb dX7_four_3 rfl (lv_at hl 0 rfl) ?_
  refine lv_if_lt (tgt := 36) hx hb dX7_four_4 (by decide) (fun _ => ?_) (fun c_ => absurd (by decide) c_)
  exact ka_rEv C hr hlk (Nat.le_of_ble_eq_true rfl) (Nat.le_of_ble_eq_true rfl) hS (ka_qE g_948 rfl trivial hK hP hD hS [0, 1] (by decide) rfl [] rfl) dX7_four_36
set_option maxHeartbeats 4000000 in
set_option maxRecDepth 100000 in
theorem ct_X7_four_17 (l : Launch) (D : va_G) (a0 : Nat) (x0 : Int32) (a1 : Nat) (a2 : Nat) (a3 : Nat) (a4 : Nat) (a5 : Nat) (a6 : Nat) (a7 : Nat) (a8 : Nat) (a9 : Nat) (a10 : Nat) (a11 : Nat) (a12 : Nat) (a13 : Nat) (a14 : Nat) (k0 : ClassId) (f0 : Nat → Int32) : ka_E (S := (Nat → Int32)) l D yX7_four wsX7_four 0 0 0 0 [.ref a0, .int x0] [(a0, .inr (7, [.ref a1, .int 12, .ref a2, .ref a3, .ref a4, .ref a5, .ref a6, .ref a7, .ref a8, .int (-1), .int 0, .int 3, .int 3, .int 0, .int 0, .int 0, .ref a9, .ref a10, .ref a11, .ref a12, .ref a13, .ref a14, .int 0, .int 0, .int 0, .int 0, .int (-1), .int 0])), (a1, .inl (k0, 80, .inl f0))] [(k0, .byte)] (fun u => none) (fun _ => True) (fun u => [(a0, .inr (7, [.ref a1, .int 16, .ref a2, .ref a3, .ref a4, .ref a5, .ref a6, .ref a7, .ref a8, .int (-1), .int 0, .int 3, .int 3, .int 0, .int 0, .int 0, .ref a9, .ref a10, .ref a11, .ref a12, .ref a13, .ref a14, .int 0, .int 0, .int 0, .int 0, .int (-1), .int 0])), (a1, .inl (k0, 80, .inl u))]) (fun u => []) := by
  refine ka_E_of (cc := cX7_four) (maxL := 3) (ret := none) (by decide) rfl (Nat.le_of_ble_eq_true rfl) ?_
  intro p e s m below meth c ls A C hr hlk hin hP hK hD hS hA hE hN hl
  have C : CallFix p m c cX7_four 3 s [.ref a0, .int x0].toArray wsX7_four RX7 := C
  obtain ⟨hx, hb, hml, hown, hts⟩ := id C
  have hl : lv_has ls 3 [(0, .ref a0), (1, .int x0)] := hl
  have rx0 := ka_rng x0
  refine lv_bipush (v := 24) hx hb dX7_four_0 (by decide) ?_
  refine lv_istore_n (lv' := [(2, .int 24), (0, .ref a0), (1, .int x0)]) hx hb dX7_four_2 rfl hl (by decide) rfl (fun ls hl => ?_)
  refine lv_iload_n hx hb dX7_four_3 rfl (lv_at hl 0 rfl) ?_
  refine lv_if_lt (tgt := 36) hx hb dX7_four_4 (by decide) (fun c_ => absurd c_ (by decide)) (fun _ => ?_)
  refine lv_aload_n hx hb dX7_four_7 rfl (lv_at hl 1 rfl) ?_
  refine ka_get C lq_142 rfl hK hP 0 rfl 0 (by decide) lq_143 rfl dX7_four_8 ?_
  refine lv_aload_n hx hb dX7_four_11 rfl (lv_at hl 1 rfl) ?_
  refine ka_get C lq_142 rfl hK hP 0 rfl 1 (by decide) lq_144 rfl dX7_four_12 ?_
  refine lv_iload_n hx hb dX7_four_15 rfl (lv_at hl 2 rfl) ?_
  refine lv_iload_n hx hb dX7_four_16 rfl (lv_at hl 0 rfl) ?_
  refine lv_ishr hx hb dX7_four_17 ?_
  refine lv_topi (fun v_974 ev_974 => ?_)
  refine lv_i2b hx hb dX7_four_18 rfl ?_
  refine lv_topi (fun v_975 ev_975 => ?_)
  refine va_bast hx hb hK hP hD hS 1 0 rfl rfl (ka_in (by decide) (by decide)) dX7_four_19 (fun H locs hP hD hS => ?_)
  have hP : va_P D vwCl [(a0, .inr (7, [.ref a1, .int 12, .ref a2, .ref a3, .ref a4, .ref a5, .ref a6, .ref a7, .ref a8, .int (-1), .int 0, .int 3, .int 3, .int 0, .int 0, .int 0, .ref a9, .ref a10, .ref a11, .ref a12, .ref a13, .ref a14, .int 0, .int 0, .int 0, .int 0, .int (-1), .int 0])), (a1, .inl (k0, 80, .inl (upd f0 (Int32.toNatClampNeg 12) (vp_nar .byte v_975))))] H := hP
  have hD : va_D A [(a0, .inr (7, [.ref a1, .int 12, .ref a2, .ref a3, .ref a4, .ref a5, .ref a6, .ref a7, .ref a8, .int (-1), .int 0, .int 3, .int 3, .int 0, .int 0, .int 0, .ref a9, .ref a10, .ref a11, .ref a12, .ref a13, .ref a14, .int 0, .int 0, .int 0, .int 0, .int (-1), .int 0])), (a1, .inl (k0, 80, .inl (upd f0 (Int32.toNatClampNeg 12) (vp_nar .byte v_975))))] := hD
  generalize (upd f0 (Int32.toNatClampNeg 12) (vp_nar .byte v_975)) = g_976 at hP hD
  refine lv_aload_n hx hb dX7_four_20 rfl (lv_at hl 1 rfl) ?_
  refine lv_dup hx hb dX7_four_21 rfl ?_
  refine ka_get C lq_142 rfl hK hP 0 rfl 1 (by decide) lq_144 rfl dX7_four_22 ?_
  refine lv_iconst (v := 1) hx hb dX7_four_25 (by decide) ?_
  refine lv_iadd hx hb dX7_four_26 ?_
  refine ka_top (w := .int 13) (congrArg Value.int (by decide)) ?_
  refine ka_put C lq_142 tyX7 tyX7_ok nmX7 rfl hK hP hD hS 0 rfl 1 (by decide) lq_144 rfl rfl rfl (Nat.le_of_ble_eq_true rfl) dX7_four_27 (fun H locs hP hD hS => ?_)
  have hP : va_P D vwCl [(a0, .inr (7, [.ref a1, .int 13, .ref a2, .ref a3, .ref a4, .ref a5, .ref a6, .ref a7, .ref a8, .int (-1), .int 0, .int 3, .int 3, .int 0, .int 0, .int 0, .ref a9, .ref a10, .ref a11, .ref a12, .ref a13, .ref a14, .int 0, .int 0, .int 0, .int 0, .int (-1), .int 0])), (a1, .inl (k0, 80, .inl g_976))] H := hP
  have hD : va_D A [(a0, .inr (7, [.ref a1, .int 13, .ref a2, .ref a3, .ref a4, .ref a5, .ref a6, .ref a7, .ref a8, .int (-1), .int 0, .int 3, .int 3, .int 0, .int 0, .int 0, .ref a9, .ref a10, .ref a11, .ref a12, .ref a13, .ref a14, .int 0, .int 0, .int 0, .int 0, .int (-1), .int 0])), (a1, .inl (k0, 80, .inl g_976))] := hD
  refine lv_iinc (v := 16) (lv' := [(2, .int 16), (0, .ref a0), (1, .int x0)]) hx hb dX7_four_30 hl (k := 0) rfl (by decide) (by decide) rfl (fun ls hl => ?_)
  refine lv_goto (tgt := 3) hx hb dX7_four_33 (by decide) ?_
  refine lv_iload_n hx hb dX7_four_3 rfl (lv_at hl 0 rfl) ?_
  refine lv_if_lt (tgt := 36) hx hb dX7_four_4 (by decide) (fun c_ => absurd c_ (by decide)) (fun _ => ?_)
  refine lv_aload_n hx hb dX7_four_7 rfl (lv_at hl 1 rfl) ?_
  refine ka_get C lq_142 rfl hK hP 0 rfl 0 (by decide) lq_143 rfl dX7_four_8 ?_
  refine lv_aload_n hx hb dX7_four_11 rfl (lv_at hl 1 rfl) ?_
  refine ka_get C lq_142 rfl hK hP 0 rfl 1 (by decide) lq_144 rfl dX7_four_12 ?_
  refine lv_iload_n hx hb dX7_four_15 rfl (lv_at hl 2 rfl) ?_
  refine lv_iload_n hx hb dX7_four_16 rfl (lv_at hl 0 rfl) ?_
  refine lv_ishr hx hb dX7_four_17 ?_
  refine lv_topi (fun v_977 ev_977 => ?_)
  refine lv_i2b hx hb dX7_four_18 rfl ?_
  refine lv_topi (fun v_978 ev_978 => ?_)
  refine va_bast hx hb hK hP hD hS 1 0 rfl rfl (ka_in (by decide) (by decide)) dX7_four_19 (fun H locs hP hD hS => ?_)
  have hP : va_P D vwCl [(a0, .inr (7, [.ref a1, .int 13, .ref a2, .ref a3, .ref a4, .ref a5, .ref a6, .ref a7, .ref a8, .int (-1), .int 0, .int 3, .int 3, .int 0, .int 0, .int 0, .ref a9, .ref a10, .ref a11, .ref a12, .ref a13, .ref a14, .int 0, .int 0, .int 0, .int 0, .int (-1), .int 0])), (a1, .inl (k0, 80, .inl (upd g_976 (Int32.toNatClampNeg 13) (vp_nar .byte v_978))))] H := hP
  have hD : va_D A [(a0, .inr (7, [.ref a1, .int 13, .ref a2, .ref a3, .ref a4, .ref a5, .ref a6, .ref a7, .ref a8, .int (-1), .int 0, .int 3, .int 3, .int 0, .int 0, .int 0, .ref a9, .ref a10, .ref a11, .ref a12, .ref a13, .ref a14, .int 0, .int 0, .int 0, .int 0, .int (-1), .int 0])), (a1, .inl (k0, 80, .inl (upd g_976 (Int32.toNatClampNeg 13) (vp_nar .byte v_978))))] := hD
  generalize (upd g_976 (Int32.toNatClampNeg 13) (vp_nar .byte v_978)) = g_979 at hP hD
  refine lv_aload_n hx hb dX7_four_20 rfl (lv_at hl 1 rfl) ?_
  refine lv_dup hx hb dX7_four_21 rfl ?_
  refine ka_get C lq_142 rfl hK hP 0 rfl 1 (by decide) lq_144 rfl dX7_four_22 ?_
  refine lv_iconst (v := 1) hx hb dX7_four_25 (by decide) ?_
  refine lv_iadd hx hb dX7_four_26 ?_
  refine ka_top (w := .int 14) (congrArg Value.int (by decide)) ?_
  refine ka_put C lq_142 tyX7 tyX7_ok nmX7 rfl hK hP hD hS 0 rfl 1 (by decide) lq_144 rfl rfl rfl (Nat.le_of_ble_eq_true rfl) dX7_four_27 (fun H locs hP hD hS => ?_)
  have hP : va_P D vwCl [(a0, .inr (7, [.ref a1, .int 14, .ref a2, .ref a3, .ref a4, .ref a5, .ref a6, .ref a7, .ref a8, .int (-1), .int 0, .int 3, .int 3, .int 0, .int 0, .int 0, .ref a9, .ref a10, .ref a11, .ref a12, .ref a13, .ref a14, .int 0, .int 0, .int 0, .int 0, .int (-1), .int 0])), (a1, .inl (k0, 80, .inl g_979))] H := hP
  have hD : va_D A [(a0, .inr (7, [.ref a1, .int 14, .ref a2, .ref a3, .ref a4, .ref a5, .ref a6, .ref a7, .ref a8, .int (-1), .int 0, .int 3, .int 3, .int 0, .int 0, .int 0, .ref a9, .ref a10, .ref a11, .ref a12, .ref a13, .ref a14, .int 0, .int 0, .int 0, .int 0, .int (-1), .int 0])), (a1, .inl (k0, 80, .inl g_979))] := hD
  refine lv_iinc (v := 8) (lv' := [(2, .int 8), (0, .ref a0), (1, .int x0)]) hx hb dX7_four_30 hl (k := 0) rfl (by decide) (by decide) rfl (fun ls hl => ?_)
  refine lv_goto (tgt := 3) hx hb dX7_four_33 (by decide) ?_
  refine lv_iload_n hx hb dX7_four_3 rfl (lv_at hl 0 rfl) ?_
  refine lv_if_lt (tgt := 36) hx hb dX7_four_4 (by decide) (fun c_ => absurd c_ (by decide)) (fun _ => ?_)
  refine lv_aload_n hx hb dX7_four_7 rfl (lv_at hl 1 rfl) ?_
  refine ka_get C lq_142 rfl hK hP 0 rfl 0 (by decide) lq_143 rfl dX7_four_8 ?_
  refine lv_aload_n hx hb dX7_four_11 rfl (lv_at hl 1 rfl) ?_
  refine ka_get C lq_142 rfl hK hP 0 rfl 1 (by decide) lq_144 rfl dX7_four_12 ?_
  refine lv_iload_n hx hb dX7_four_15 rfl (lv_at hl 2 rfl) ?_
  refine lv_iload_n hx hb dX7_four_16 rfl (lv_at hl 0 rfl) ?_
  refine lv_ishr hx hb dX7_four_17 ?_
  refine lv_topi (fun v_980 ev_980 => ?_)
  refine lv_i2b hx hb dX7_four_18 rfl ?_
  refine lv_topi (fun v_981 ev_981 => ?_)
  refine va_bast hx hb hK hP hD hS 1 0 rfl rfl (ka_in (by decide) (by decide)) dX7_four_19 (fun H locs hP hD hS => ?_)
  have hP : va_P D vwCl [(a0, .inr (7, [.ref a1, .int 14, .ref a2, .ref a3, .ref a4, .ref a5, .ref a6, .ref a7, .ref a8, .int (-1), .int 0, .int 3, .int 3, .int 0, .int 0, .int 0, .ref a9, .ref a10, .ref a11, .ref a12, .ref a13, .ref a14, .int 0, .int 0, .int 0, .int 0, .int (-1), .int 0])), (a1, .inl (k0, 80, .inl (upd g_979 (Int32.toNatClampNeg 14) (vp_nar .byte v_981))))] H := hP
  have hD : va_D A [(a0, .inr (7, [.ref a1, .int 14, .ref a2, .ref a3, .ref a4, .ref a5, .ref a6, .ref a7, .ref a8, .int (-1), .int 0, .int 3, .int 3, .int 0, .int 0, .int 0, .ref a9, .ref a10, .ref a11, .ref a12, .ref a13, .ref a14, .int 0, .int 0, .int 0, .int 0, .int (-1), .int 0])), (a1, .inl (k0, 80, .inl (upd g_979 (Int32.toNatClampNeg 14) (vp_nar .byte v_981))))] := hD
  generalize (upd g_979 (Int32.toNatClampNeg 14) (vp_nar .byte v_981)) = g_982 at hP hD
  refine lv_aload_n hx hb dX7_four_20 rfl (lv_at hl 1 rfl) ?_
  refine lv_dup hx hb dX7_four_21 rfl ?_
  refine ka_get C lq_142 rfl hK hP 0 rfl 1 (by decide) lq_144 rfl dX7_four_22 ?_
  refine lv_iconst (v := 1) hx hb dX7_four_25 (by decide) ?_
  refine lv_iadd hx hb dX7_four_26 ?_
  refine ka_top (w := .int 15) (congrArg Value.int (by decide)) ?_
  refine ka_put C lq_142 tyX7 tyX7_ok nmX7 rfl hK hP hD hS 0 rfl 1 (by decide) lq_144 rfl rfl rfl (Nat.le_of_ble_eq_true rfl) dX7_four_27 (fun H locs hP hD hS => ?_)
  have hP : va_P D vwCl [(a0, .inr (7, [.ref a1, .int 15, .ref a2, .ref a3, .ref a4, .ref a5, .ref a6, .ref a7, .ref a8, .int (-1), .int 0, .int 3, .int 3, .int 0, .int 0, .int 0, .ref a9, .ref a10, .ref a11, .ref a12, .ref a13, .ref a14, .int 0, .int 0, .int 0, .int 0, .int (-1), .int 0])), (a1, .inl (k0, 80, .inl g_982))] H := hP
  have hD : va_D A [(a0, .inr (7, [.ref a1, .int 15, .ref a2, .ref a3, .ref a4, .ref a5, .ref a6, .ref a7, .ref a8, .int (-1), .int 0, .int 3, .int 3, .int 0, .int 0, .int 0, .ref a9, .ref a10, .ref a11, .ref a12, .ref a13, .ref a14, .int 0, .int 0, .int 0, .int 0, .int (-1), .int 0])), (a1, .inl (k0, 80, .inl g_982))] := hD
  refine lv_iinc (v := 0) (lv' := [(2, .int 0), (0, .ref a0), (1, .int x0)]) hx hb dX7_four_30 hl (k := 0) rfl (by decide) (by decide) rfl (fun ls hl => ?_)
  refine lv_goto (tgt := 3) hx hb dX7_four_33 (by decide) ?_
  refine lv_iload_n hx hb dX7_four_3 rfl (lv_at hl 0 rfl) ?_
  refine lv_if_lt (tgt := 36) hx hb dX7_four_4 (by decide) (fun c_ => absurd c_ (by decide)) (fun _ => ?_)
  refine lv_aload_n hx hb dX7_four_7 rfl (lv_at hl 1 rfl) ?_
  refine ka_get C lq_142 rfl hK hP 0 rfl 0 (by decide) lq_143 rfl dX7_four_8 ?_
  refine lv_aload_n hx hb dX7_four_11 rfl (lv_at hl 1 rfl) ?_
  refine ka_get C lq_142 rfl hK hP 0 rfl 1 (by decide) lq_144 rfl dX7_four_12 ?_
  refine lv_iload_n hx hb dX7_four_15 rfl (lv_at hl 2 rfl) ?_
  refine lv_iload_n hx hb dX7_four_16 rfl (lv_at hl 0 rfl) ?_
  refine lv_ishr hx hb dX7_four_17 ?_
  refine lv_topi (fun v_983 ev_983 => ?_)
  refine lv_i2b hx hb dX7_four_18 rfl ?_
  refine lv_topi (fun v_984 ev_984 => ?_)
  refine va_bast hx hb hK hP hD hS 1 0 rfl rfl (ka_in (by decide) (by decide)) dX7_four_19 (fun H locs hP hD hS => ?_)
  have hP : va_P D vwCl [(a0, .inr (7, [.ref a1, .int 15, .ref a2, .ref a3, .ref a4, .ref a5, .ref a6, .ref a7, .ref a8, .int (-1), .int 0, .int 3, .int 3, .int 0, .int 0, .int 0, .ref a9, .ref a10, .ref a11, .ref a12, .ref a13, .ref a14, .int 0, .int 0, .int 0, .int 0, .int (-1), .int 0])), (a1, .inl (k0, 80, .inl (upd g_982 (Int32.toNatClampNeg 15) (vp_nar .byte v_984))))] H := hP
  have hD : va_D A [(a0, .inr (7, [.ref a1, .int 15, .ref a2, .ref a3, .ref a4, .ref a5, .ref a6, .ref a7, .ref a8, .int (-1), .int 0, .int 3, .int 3, .int 0, .int 0, .int 0, .ref a9, .ref a10, .ref a11, .ref a12, .ref a13, .ref a14, .int 0, .int 0, .int 0, .int 0, .int (-1), .int 0])), (a1, .inl (k0, 80, .inl (upd g_982 (Int32.toNatClampNeg 15) (vp_nar .byte v_984))))] := hD
  generalize (upd g_982 (Int32.toNatClampNeg 15) (vp_nar .byte v_984)) = g_985 at hP hD
  refine lv_aload_n hx hb dX7_four_20 rfl (lv_at hl 1 rfl) ?_
  refine lv_dup hx hb dX7_four_21 rfl ?_
  refine ka_get C lq_142 rfl hK hP 0 rfl 1 (by decide) lq_144 rfl dX7_four_22 ?_
  refine lv_iconst (v := 1) hx hb dX7_four_25 (by decide) ?_
  refine lv_iadd hx hb dX7_four_26 ?_
  refine ka_top (w := .int 16) (congrArg Value.int (by decide)) ?_
  refine ka_put C lq_142 tyX7 tyX7_ok nmX7 rfl hK hP hD hS 0 rfl 1 (by decide) lq_144 rfl rfl rfl (Nat.le_of_ble_eq_true rfl) dX7_four_27 (fun H locs hP hD hS => ?_)
  have hP : va_P D vwCl [(a0, .inr (7, [.ref a1, .int 16, .ref a2, .ref a3, .ref a4, .ref a5, .ref a6, .ref a7, .ref a8, .int (-1), .int 0, .int 3, .int 3, .int 0, .int 0, .int 0, .ref a9, .ref a10, .ref a11, .ref a12, .ref a13, .ref a14, .int 0, .int 0, .int 0, .int 0, .int (-1), .int 0])), (a1, .inl (k0, 80, .inl g_985))] H := hP
  have hD : va_D A [(a0, .inr (7, [.ref a1, .int 16, .ref a2, .ref a3, .ref a4, .ref a5, .ref a6, .ref a7, .ref a8, .int (-1), .int 0, .int 3, .int 3, .int 0, .int 0, .int 0, .ref a9, .ref a10, .ref a11, .ref a12, .ref a13, .ref a14, .int 0, .int 0, .int 0, .int 0, .int (-1), .int 0])), (a1, .inl (k0, 80, .inl g_985))] := hD
  refine lv_iinc (v := (-8)) (lv' := [(2, .int (-8)), (0, .ref a0), (1, .int x0)]) hx hb dX7_four_30 hl (k := 0) rfl (by decide) (by decide) rfl (fun ls hl => ?_)
  refine lv_goto (tgt := 3) hx hb dX7_four_33 (by decide) ?_
  refine lv_iload_n hx hb dX7_four_3 rfl (lv_at hl 0 rfl) ?_
  refine lv_if_lt (tgt := 36) hx hb dX7_four_4 (by decide) (fun _ => ?_) (fun c_ => absurd (by decide) c_)
  exact ka_rEv C hr hlk (Nat.le_of_ble_eq_true rfl) (Nat.le_of_ble_eq_true rfl) hS (ka_qE g_985 rfl trivial hK hP hD hS [0, 1] (by decide) rfl [] rfl) dX7_four_36
set_option maxHeartbeats 4000000 in
set_option maxRecDepth 100000 in
theorem ct_X7_four_18 (l : Launch) (D : va_G) (a0 : Nat) (x0 : Int32) (a1 : Nat) (a2 : Nat) (a3 : Nat) (a4 : Nat) (a5 : Nat) (a6 : Nat) (a7 : Nat) (a8 : Nat) (a9 : Nat) (a10 : Nat) (a11 : Nat) (a12 : Nat) (a13 : Nat) (a14 : Nat) (k0 : ClassId) (f0 : Nat → Int32) : ka_E (S := (Nat → Int32)) l D yX7_four wsX7_four 0 0 0 0 [.ref a0, .int x0] [(a0, .inr (7, [.ref a1, .int 16, .ref a2, .ref a3, .ref a4, .ref a5, .ref a6, .ref a7, .ref a8, .int (-1), .int 0, .int 3, .int 3, .int 0, .int 0, .int 0, .ref a9, .ref a10, .ref a11, .ref a12, .ref a13, .ref a14, .int 0, .int 0, .int 0, .int 0, .int (-1), .int 0])), (a1, .inl (k0, 80, .inl f0))] [(k0, .byte)] (fun u => none) (fun _ => True) (fun u => [(a0, .inr (7, [.ref a1, .int 20, .ref a2, .ref a3, .ref a4, .ref a5, .ref a6, .ref a7, .ref a8, .int (-1), .int 0, .int 3, .int 3, .int 0, .int 0, .int 0, .ref a9, .ref a10, .ref a11, .ref a12, .ref a13, .ref a14, .int 0, .int 0, .int 0, .int 0, .int (-1), .int 0])), (a1, .inl (k0, 80, .inl u))]) (fun u => []) := by
  refine ka_E_of (cc := cX7_four) (maxL := 3) (ret := none) (by decide) rfl (Nat.le_of_ble_eq_true rfl) ?_
  intro p e s m below meth c ls A C hr hlk hin hP hK hD hS hA hE hN hl
  have C : CallFix p m c cX7_four 3 s [.ref a0, .int x0].toArray wsX7_four RX7 := C
  obtain ⟨hx, hb, hml, hown, hts⟩ := id C
  have hl : lv_has ls 3 [(0, .ref a0), (1, .int x0)] := hl
  have rx0 := ka_rng x0
  refine lv_bipush (v := 24) hx hb dX7_four_0 (by decide) ?_
  refine lv_istore_n (lv' := [(2, .int 24), (0, .ref a0), (1, .int x0)]) hx hb dX7_four_2 rfl hl (by decide) rfl (fun ls hl => ?_)
  refine lv_iload_n hx hb dX7_four_3 rfl (lv_at hl 0 rfl) ?_
  refine lv_if_lt (tgt := 36) hx hb dX7_four_4 (by decide) (fun c_ => absurd c_ (by decide)) (fun _ => ?_)
  refine lv_aload_n hx hb dX7_four_7 rfl (lv_at hl 1 rfl) ?_
  refine ka_get C lq_142 rfl hK hP 0 rfl 0 (by decide) lq_143 rfl dX7_four_8 ?_
  refine lv_aload_n hx hb dX7_four_11 rfl (lv_at hl 1 rfl) ?_
  refine ka_get C lq_142 rfl hK hP 0 rfl 1 (by decide) lq_144 rfl dX7_four_12 ?_
  refine lv_iload_n hx hb dX7_four_15 rfl (lv_at hl 2 rfl) ?_
  refine lv_iload_n hx hb dX7_four_16 rfl (lv_at hl 0 rfl) ?_
  refine lv_ishr hx hb dX7_four_17 ?_
  refine lv_topi (fun v_1011 ev_1011 => ?_)
  refine lv_i2b hx hb dX7_four_18 rfl ?_
  refine lv_topi (fun v_1012 ev_1012 => ?_)
  refine va_bast hx hb hK hP hD hS 1 0 rfl rfl (ka_in (by decide) (by decide)) dX7_four_19 (fun H locs hP hD hS => ?_)
  have hP : va_P D vwCl [(a0, .inr (7, [.ref a1, .int 16, .ref a2, .ref a3, .ref a4, .ref a5, .ref a6, .ref a7, .ref a8, .int (-1), .int 0, .int 3, .int 3, .int 0, .int 0, .int 0, .ref a9, .ref a10, .ref a11, .ref a12, .ref a13, .ref a14, .int 0, .int 0, .int 0, .int 0, .int (-1), .int 0])), (a1, .inl (k0, 80, .inl (upd f0 (Int32.toNatClampNeg 16) (vp_nar .byte v_1012))))] H := hP
  have hD : va_D A [(a0, .inr (7, [.ref a1, .int 16, .ref a2, .ref a3, .ref a4, .ref a5, .ref a6, .ref a7, .ref a8, .int (-1), .int 0, .int 3, .int 3, .int 0, .int 0, .int 0, .ref a9, .ref a10, .ref a11, .ref a12, .ref a13, .ref a14, .int 0, .int 0, .int 0, .int 0, .int (-1), .int 0])), (a1, .inl (k0, 80, .inl (upd f0 (Int32.toNatClampNeg 16) (vp_nar .byte v_1012))))] := hD
  generalize (upd f0 (Int32.toNatClampNeg 16) (vp_nar .byte v_1012)) = g_1013 at hP hD
  refine lv_aload_n hx hb dX7_four_20 rfl (lv_at hl 1 rfl) ?_
  refine lv_dup hx hb dX7_four_21 rfl ?_
  refine ka_get C lq_142 rfl hK hP 0 rfl 1 (by decide) lq_144 rfl dX7_four_22 ?_
  refine lv_iconst (v := 1) hx hb dX7_four_25 (by decide) ?_
  refine lv_iadd hx hb dX7_four_26 ?_
  refine ka_top (w := .int 17) (congrArg Value.int (by decide)) ?_
  refine ka_put C lq_142 tyX7 tyX7_ok nmX7 rfl hK hP hD hS 0 rfl 1 (by decide) lq_144 rfl rfl rfl (Nat.le_of_ble_eq_true rfl) dX7_four_27 (fun H locs hP hD hS => ?_)
  have hP : va_P D vwCl [(a0, .inr (7, [.ref a1, .int 17, .ref a2, .ref a3, .ref a4, .ref a5, .ref a6, .ref a7, .ref a8, .int (-1), .int 0, .int 3, .int 3, .int 0, .int 0, .int 0, .ref a9, .ref a10, .ref a11, .ref a12, .ref a13, .ref a14, .int 0, .int 0, .int 0, .int 0, .int (-1), .int 0])), (a1, .inl (k0, 80, .inl g_1013))] H := hP
  have hD : va_D A [(a0, .inr (7, [.ref a1, .int 17, .ref a2, .ref a3, .ref a4, .ref a5, .ref a6, .ref a7, .ref a8, .int (-1), .int 0, .int 3, .int 3, .int 0, .int 0, .int 0, .ref a9, .ref a10, .ref a11, .ref a12, .ref a13, .ref a14, .int 0, .int 0, .int 0, .int 0, .int (-1), .int 0])), (a1, .inl (k0, 80, .inl g_1013))] := hD
  refine lv_iinc (v := 16) (lv' := [(2, .int 16), (0, .ref a0), (1, .int x0)]) hx hb dX7_four_30 hl (k := 0) rfl (by decide) (by decide) rfl (fun ls hl => ?_)
  refine lv_goto (tgt := 3) hx hb dX7_four_33 (by decide) ?_
  refine lv_iload_n hx hb dX7_four_3 rfl (lv_at hl 0 rfl) ?_
  refine lv_if_lt (tgt := 36) hx hb dX7_four_4 (by decide) (fun c_ => absurd c_ (by decide)) (fun _ => ?_)
  refine lv_aload_n hx hb dX7_four_7 rfl (lv_at hl 1 rfl) ?_
  refine ka_get C lq_142 rfl hK hP 0 rfl 0 (by decide) lq_143 rfl dX7_four_8 ?_
  refine lv_aload_n hx hb dX7_four_11 rfl (lv_at hl 1 rfl) ?_
  refine ka_get C lq_142 rfl hK hP 0 rfl 1 (by decide) lq_144 rfl dX7_four_12 ?_
  refine lv_iload_n hx hb dX7_four_15 rfl (lv_at hl 2 rfl) ?_
  refine lv_iload_n hx hb dX7_four_16 rfl (lv_at hl 0 rfl) ?_
  refine lv_ishr hx hb dX7_four_17 ?_
  refine lv_topi (fun v_1014 ev_1014 => ?_)
  refine lv_i2b hx hb dX7_four_18 rfl ?_
  refine lv_topi (fun v_1015 ev_1015 => ?_)
  refine va_bast hx hb hK hP hD hS 1 0 rfl rfl (ka_in (by decide) (by decide)) dX7_four_19 (fun H locs hP hD hS => ?_)
  have hP : va_P D vwCl [(a0, .inr (7, [.ref a1, .int 17, .ref a2, .ref a3, .ref a4, .ref a5, .ref a6, .ref a7, .ref a8, .int (-1), .int 0, .int 3, .int 3, .int 0, .int 0, .int 0, .ref a9, .ref a10, .ref a11, .ref a12, .ref a13, .ref a14, .int 0, .int 0, .int 0, .int 0, .int (-1), .int 0])), (a1, .inl (k0, 80, .inl (upd g_1013 (Int32.toNatClampNeg 17) (vp_nar .byte v_1015))))] H := hP
  have hD : va_D A [(a0, .inr (7, [.ref a1, .int 17, .ref a2, .ref a3, .ref a4, .ref a5, .ref a6, .ref a7, .ref a8, .int (-1), .int 0, .int 3, .int 3, .int 0, .int 0, .int 0, .ref a9, .ref a10, .ref a11, .ref a12, .ref a13, .ref a14, .int 0, .int 0, .int 0, .int 0, .int (-1), .int 0])), (a1, .inl (k0, 80, .inl (upd g_1013 (Int32.toNatClampNeg 17) (vp_nar .byte v_1015))))] := hD
  generalize (upd g_1013 (Int32.toNatClampNeg 17) (vp_nar .byte v_1015)) = g_1016 at hP hD
  refine lv_aload_n hx hb dX7_four_20 rfl (lv_at hl 1 rfl) ?_
  refine lv_dup hx hb dX7_four_21 rfl ?_
  refine ka_get C lq_142 rfl hK hP 0 rfl 1 (by decide) lq_144 rfl dX7_four_22 ?_
  refine lv_iconst (v := 1) hx hb dX7_four_25 (by decide) ?_
  refine lv_iadd hx hb dX7_four_26 ?_
  refine ka_top (w := .int 18) (congrArg Value.int (by decide)) ?_
  refine ka_put C lq_142 tyX7 tyX7_ok nmX7 rfl hK hP hD hS 0 rfl 1 (by decide) lq_144 rfl rfl rfl (Nat.le_of_ble_eq_true rfl) dX7_four_27 (fun H locs hP hD hS => ?_)
  have hP : va_P D vwCl [(a0, .inr (7, [.ref a1, .int 18, .ref a2, .ref a3, .ref a4, .ref a5, .ref a6, .ref a7, .ref a8, .int (-1), .int 0, .int 3, .int 3, .int 0, .int 0, .int 0, .ref a9, .ref a10, .ref a11, .ref a12, .ref a13, .ref a14, .int 0, .int 0, .int 0, .int 0, .int (-1), .int 0])), (a1, .inl (k0, 80, .inl g_1016))] H := hP
  have hD : va_D A [(a0, .inr (7, [.ref a1, .int 18, .ref a2, .ref a3, .ref a4, .ref a5, .ref a6, .ref a7, .ref a8, .int (-1), .int 0, .int 3, .int 3, .int 0, .int 0, .int 0, .ref a9, .ref a10, .ref a11, .ref a12, .ref a13, .ref a14, .int 0, .int 0, .int 0, .int 0, .int (-1), .int 0])), (a1, .inl (k0, 80, .inl g_1016))] := hD
  refine lv_iinc (v := 8) (lv' := [(2, .int 8), (0, .ref a0), (1, .int x0)]) hx hb dX7_four_30 hl (k := 0) rfl (by decide) (by decide) rfl (fun ls hl => ?_)
  refine lv_goto (tgt := 3) hx hb dX7_four_33 (by decide) ?_
  refine lv_iload_n hx hb dX7_four_3 rfl (lv_at hl 0 rfl) ?_
  refine lv_if_lt (tgt := 36) hx hb dX7_four_4 (by decide) (fun c_ => absurd c_ (by decide)) (fun _ => ?_)
  refine lv_aload_n hx hb dX7_four_7 rfl (lv_at hl 1 rfl) ?_
  refine ka_get C lq_142 rfl hK hP 0 rfl 0 (by decide) lq_143 rfl dX7_four_8 ?_
  refine lv_aload_n hx hb dX7_four_11 rfl (lv_at hl 1 rfl) ?_
  refine ka_get C lq_142 rfl hK hP 0 rfl 1 (by decide) lq_144 rfl dX7_four_12 ?_
  refine lv_iload_n hx hb dX7_four_15 rfl (lv_at hl 2 rfl) ?_
  refine lv_iload_n hx hb dX7_four_16 rfl (lv_at hl 0 rfl) ?_
  refine lv_ishr hx hb dX7_four_17 ?_
  refine lv_topi (fun v_1017 ev_1017 => ?_)
  refine lv_i2b hx hb dX7_four_18 rfl ?_
  refine lv_topi (fun v_1018 ev_1018 => ?_)
  refine va_bast hx hb hK hP hD hS 1 0 rfl rfl (ka_in (by decide) (by decide)) dX7_four_19 (fun H locs hP hD hS => ?_)
  have hP : va_P D vwCl [(a0, .inr (7, [.ref a1, .int 18, .ref a2, .ref a3, .ref a4, .ref a5, .ref a6, .ref a7, .ref a8, .int (-1), .int 0, .int 3, .int 3, .int 0, .int 0, .int 0, .ref a9, .ref a10, .ref a11, .ref a12, .ref a13, .ref a14, .int 0, .int 0, .int 0, .int 0, .int (-1), .int 0])), (a1, .inl (k0, 80, .inl (upd g_1016 (Int32.toNatClampNeg 18) (vp_nar .byte v_1018))))] H := hP
  have hD : va_D A [(a0, .inr (7, [.ref a1, .int 18, .ref a2, .ref a3, .ref a4, .ref a5, .ref a6, .ref a7, .ref a8, .int (-1), .int 0, .int 3, .int 3, .int 0, .int 0, .int 0, .ref a9, .ref a10, .ref a11, .ref a12, .ref a13, .ref a14, .int 0, .int 0, .int 0, .int 0, .int (-1), .int 0])), (a1, .inl (k0, 80, .inl (upd g_1016 (Int32.toNatClampNeg 18) (vp_nar .byte v_1018))))] := hD
  generalize (upd g_1016 (Int32.toNatClampNeg 18) (vp_nar .byte v_1018)) = g_1019 at hP hD
  refine lv_aload_n hx hb dX7_four_20 rfl (lv_at hl 1 rfl) ?_
  refine lv_dup hx hb dX7_four_21 rfl ?_
  refine ka_get C lq_142 rfl hK hP 0 rfl 1 (by decide) lq_144 rfl dX7_four_22 ?_
  refine lv_iconst (v := 1) hx hb dX7_four_25 (by decide) ?_
  refine lv_iadd hx hb dX7_four_26 ?_
  refine ka_top (w := .int 19) (congrArg Value.int (by decide)) ?_
  refine ka_put C lq_142 tyX7 tyX7_ok nmX7 rfl hK hP hD hS 0 rfl 1 (by decide) lq_144 rfl rfl rfl (Nat.le_of_ble_eq_true rfl) dX7_four_27 (fun H locs hP hD hS => ?_)
  have hP : va_P D vwCl [(a0, .inr (7, [.ref a1, .int 19, .ref a2, .ref a3, .ref a4, .ref a5, .ref a6, .ref a7, .ref a8, .int (-1), .int 0, .int 3, .int 3, .int 0, .int 0, .int 0, .ref a9, .ref a10, .ref a11, .ref a12, .ref a13, .ref a14, .int 0, .int 0, .int 0, .int 0, .int (-1), .int 0])), (a1, .inl (k0, 80, .inl g_1019))] H := hP
  have hD : va_D A [(a0, .inr (7, [.ref a1, .int 19, .ref a2, .ref a3, .ref a4, .ref a5, .ref a6, .ref a7, .ref a8, .int (-1), .int 0, .int 3, .int 3, .int 0, .int 0, .int 0, .ref a9, .ref a10, .ref a11, .ref a12, .ref a13, .ref a14, .int 0, .int 0, .int 0, .int 0, .int (-1), .int 0])), (a1, .inl (k0, 80, .inl g_1019))] := hD
  refine lv_iinc (v := 0) (lv' := [(2, .int 0), (0, .ref a0), (1, .int x0)]) hx hb dX7_four_30 hl (k := 0) rfl (by decide) (by decide) rfl (fun ls hl => ?_)
  refine lv_goto (tgt := 3) hx hb dX7_four_33 (by decide) ?_
  refine lv_iload_n hx hb dX7_four_3 rfl (lv_at hl 0 rfl) ?_
  refine lv_if_lt (tgt := 36) hx hb dX7_four_4 (by decide) (fun c_ => absurd c_ (by decide)) (fun _ => ?_)
  refine lv_aload_n hx hb dX7_four_7 rfl (lv_at hl 1 rfl) ?_
  refine ka_get C lq_142 rfl hK hP 0 rfl 0 (by decide) lq_143 rfl dX7_four_8 ?_
  refine lv_aload_n hx hb dX7_four_11 rfl (lv_at hl 1 rfl) ?_
  refine ka_get C lq_142 rfl hK hP 0 rfl 1 (by decide) lq_144 rfl dX7_four_12 ?_
  refine lv_iload_n hx hb dX7_four_15 rfl (lv_at hl 2 rfl) ?_
  refine lv_iload_n hx hb dX7_four_16 rfl (lv_at hl 0 rfl) ?_
  refine lv_ishr hx hb dX7_four_17 ?_
  refine lv_topi (fun v_1020 ev_1020 => ?_)
  refine lv_i2b hx hb dX7_four_18 rfl ?_
  refine lv_topi (fun v_1021 ev_1021 => ?_)
  refine va_bast hx hb hK hP hD hS 1 0 rfl rfl (ka_in (by decide) (by decide)) dX7_four_19 (fun H locs hP hD hS => ?_)
  have hP : va_P D vwCl [(a0, .inr (7, [.ref a1, .int 19, .ref a2, .ref a3, .ref a4, .ref a5, .ref a6, .ref a7, .ref a8, .int (-1), .int 0, .int 3, .int 3, .int 0, .int 0, .int 0, .ref a9, .ref a10, .ref a11, .ref a12, .ref a13, .ref a14, .int 0, .int 0, .int 0, .int 0, .int (-1), .int 0])), (a1, .inl (k0, 80, .inl (upd g_1019 (Int32.toNatClampNeg 19) (vp_nar .byte v_1021))))] H := hP
  have hD : va_D A [(a0, .inr (7, [.ref a1, .int 19, .ref a2, .ref a3, .ref a4, .ref a5, .ref a6, .ref a7, .ref a8, .int (-1), .int 0, .int 3, .int 3, .int 0, .int 0, .int 0, .ref a9, .ref a10, .ref a11, .ref a12, .ref a13, .ref a14, .int 0, .int 0, .int 0, .int 0, .int (-1), .int 0])), (a1, .inl (k0, 80, .inl (upd g_1019 (Int32.toNatClampNeg 19) (vp_nar .byte v_1021))))] := hD
  generalize (upd g_1019 (Int32.toNatClampNeg 19) (vp_nar .byte v_1021)) = g_1022 at hP hD
  refine lv_aload_n hx hb dX7_four_20 rfl (lv_at hl 1 rfl) ?_
  refine lv_dup hx hb dX7_four_21 rfl ?_
  refine ka_get C lq_142 rfl hK hP 0 rfl 1 (by decide) lq_144 rfl dX7_four_22 ?_
  refine lv_iconst (v := 1) hx hb dX7_four_25 (by decide) ?_
  refine lv_iadd hx hb dX7_four_26 ?_
  refine ka_top (w := .int 20) (congrArg Value.int (by decide)) ?_
  refine ka_put C lq_142 tyX7 tyX7_ok nmX7 rfl hK hP hD hS 0 rfl 1 (by decide) lq_144 rfl rfl rfl (Nat.le_of_ble_eq_true rfl) dX7_four_27 (fun H locs hP hD hS => ?_)
  have hP : va_P D vwCl [(a0, .inr (7, [.ref a1, .int 20, .ref a2, .ref a3, .ref a4, .ref a5, .ref a6, .ref a7, .ref a8, .int (-1), .int 0, .int 3, .int 3, .int 0, .int 0, .int 0, .ref a9, .ref a10, .ref a11, .ref a12, .ref a13, .ref a14, .int 0, .int 0, .int 0, .int 0, .int (-1), .int 0])), (a1, .inl (k0, 80, .inl g_1022))] H := hP
  have hD : va_D A [(a0, .inr (7, [.ref a1, .int 20, .ref a2, .ref a3, .ref a4, .ref a5, .ref a6, .ref a7, .ref a8, .int (-1), .int 0, .int 3, .int 3, .int 0, .int 0, .int 0, .ref a9, .ref a10, .ref a11, .ref a12, .ref a13, .ref a14, .int 0, .int 0, .int 0, .int 0, .int (-1), .int 0])), (a1, .inl (k0, 80, .inl g_1022))] := hD
  refine lv_iinc (v := (-8)) (lv' := [(2, .int (-8)), (0, .ref a0), (1, .int x0)]) hx hb dX7_four_30 hl (k := 0) rfl (by decide) (by decide) rfl (fun ls hl => ?_)
  refine lv_goto (tgt := 3) hx hb dX7_four_33 (by decide) ?_
  refine lv_iload_n hx hb dX7_four_3 rfl (lv_at hl 0 rfl) ?_
  refine lv_if_lt (tgt := 36) hx hb dX7_four_4 (by decide) (fun _ => ?_) (fun c_ => absurd (by decide) c_)
  exact ka_rEv C hr hlk (Nat.le_of_ble_eq_true rfl) (Nat.le_of_ble_eq_true rfl) hS (ka_qE g_1022 rfl trivial hK hP hD hS [0, 1] (by decide) rfl [] rfl) dX7_four_36
theorem lq_145 : ∀ w ∈ wsX70, w ∈ wsX7_feed := by decide +kernel
theorem lq_146 : Cond.fieldLink RX7 71 "AskedBackModel" "taped" "I" ∈ wsX7_feed := by decide +kernel
set_option maxHeartbeats 4000000 in
set_option maxRecDepth 100000 in
theorem ct_X7_feed_19 (l : Launch) (D : va_G) (a0 : Nat) (x0 : Int32) (x1 : Int32) (x2 : Int32) (x3 : Int32) (x4 : Int32) (a1 : Nat) (a2 : Nat) (a3 : Nat) (a4 : Nat) (a5 : Nat) (a6 : Nat) (a7 : Nat) (a8 : Nat) (a9 : Nat) (a10 : Nat) (a11 : Nat) (a12 : Nat) (a13 : Nat) (a14 : Nat) (k0 : ClassId) : ka_E (S := Unit) l D yX7_feed wsX7_feed 1 22 0 0 [.ref a0, .int x0, .int x1, .int x2, .int x3, .int x4] [(a0, .inr (7, [.ref a1, .int 0, .ref a2, .ref a3, .ref a4, .ref a5, .ref a6, .ref a7, .ref a8, .int (-1), .int 0, .int 3, .int 3, .int 0, .int 0, .int 0, .ref a9, .ref a10, .ref a11, .ref a12, .ref a13, .ref a14, .int 0, .int 0, .int 0, .int 0, .int (-1), .int 0])), (a1, .inl (k0, 80, .inl (fun _ => 0)))] [(k0, .byte)] (fun u => some (.int 20)) (fun _ => True) (fun u => []) (fun u => []) := by
  refine ka_E_of (cc := cX7_feed) (maxL := 6) (ret := (some .int)) (by decide) rfl (Nat.le_of_ble_eq_true rfl) ?_
  intro p e s m below meth c ls A C hr hlk hin hP hK hD hS hA hE hN hl
  have C : CallFix p m c cX7_feed 6 s [.ref a0, .int x0, .int x1, .int x2, .int x3, .int x4].toArray wsX7_feed RX7 := C
  obtain ⟨hx, hb, hml, hown, hts⟩ := id C
  have hl : lv_has ls 6 [(0, .ref a0), (1, .int x0), (2, .int x1), (3, .int x2), (4, .int x3), (5, .int x4)] := hl
  have rx0 := ka_rng x0
  have rx1 := ka_rng x1
  have rx2 := ka_rng x2
  have rx3 := ka_rng x3
  have rx4 := ka_rng x4
  refine lv_aload_n hx hb dX7_feed_0 rfl (lv_at hl 0 rfl) ?_
  refine ka_get C lq_145 rfl hK hP 0 rfl 1 (by decide) lq_146 rfl dX7_feed_1 ?_
  refine lv_bipush (v := 20) hx hb dX7_feed_4 (by decide) ?_
  refine lv_iadd hx hb dX7_feed_6 ?_
  refine ka_top (w := .int 20) (congrArg Value.int (by decide)) ?_
  refine lv_bipush (v := 80) hx hb dX7_feed_7 (by decide) ?_
  refine lv_icmp_le (tgt := 14) hx hb dX7_feed_9 (by decide) (fun _ => ?_) (fun c_ => absurd (by decide) c_)
  refine lv_aload_n hx hb dX7_feed_14 rfl (lv_at hl 0 rfl) ?_
  refine lv_iload_n hx hb dX7_feed_15 rfl (lv_at hl 1 rfl) ?_
  refine ka_EV (n := 1) (wr := []) C (ct_X7_four_14 l D a0 x0 a1 a2 a3 a4 a5 a6 a7 a8 a9 a10 a11 a12 a13 a14 k0) gX7_feed_X7_four rfl (by decide +kernel) ⟨Nat.le_of_ble_eq_true rfl, Nat.le_of_ble_eq_true rfl⟩ hK hP hD hS hA hE hN [0, 1] rfl (by decide) [] rfl (by decide) (by decide) [0] rfl (ci := 7) rfl rfl 0 rfl rfl hl.1 (rest := []) rfl (Nat.le_of_ble_eq_true rfl) dX7_feed_16 ⟨Nat.le_of_ble_eq_true rfl, Nat.le_of_ble_eq_true rfl⟩ (fun u H locs _ hP hD hK hS => ?_)
  obtain ⟨g_1101, rfl⟩ : ∃ z, z = u := ⟨_, rfl⟩
  have hP : va_P D vwCl [(a0, .inr (7, [.ref a1, .int 4, .ref a2, .ref a3, .ref a4, .ref a5, .ref a6, .ref a7, .ref a8, .int (-1), .int 0, .int 3, .int 3, .int 0, .int 0, .int 0, .ref a9, .ref a10, .ref a11, .ref a12, .ref a13, .ref a14, .int 0, .int 0, .int 0, .int 0, .int (-1), .int 0])), (a1, .inl (k0, 80, .inl g_1101))] H := hP
  have hD : va_D A [(a0, .inr (7, [.ref a1, .int 4, .ref a2, .ref a3, .ref a4, .ref a5, .ref a6, .ref a7, .ref a8, .int (-1), .int 0, .int 3, .int 3, .int 0, .int 0, .int 0, .ref a9, .ref a10, .ref a11, .ref a12, .ref a13, .ref a14, .int 0, .int 0, .int 0, .int 0, .int (-1), .int 0])), (a1, .inl (k0, 80, .inl g_1101))] := hD
  have hK : va_K D vwCl [(k0, .byte)] s := hK
  refine ka_stk (w := []) rfl ?_
  refine lv_aload_n hx hb dX7_feed_19 rfl (lv_at hl 0 rfl) ?_
  refine lv_iload_n hx hb dX7_feed_20 rfl (lv_at hl 2 rfl) ?_
  refine ka_EV (n := 1) (wr := []) C (ct_X7_four_15 l D a0 x1 a1 a2 a3 a4 a5 a6 a7 a8 a9 a10 a11 a12 a13 a14 k0 g_1101) gX7_feed_X7_four rfl (by decide +kernel) ⟨Nat.le_of_ble_eq_true rfl, Nat.le_of_ble_eq_true rfl⟩ hK hP hD hS hA hE hN [0, 1] rfl (by decide) [] rfl (by decide) (by decide) [0] rfl (ci := 7) rfl rfl 0 rfl rfl hl.1 (rest := []) rfl (Nat.le_of_ble_eq_true rfl) dX7_feed_21 ⟨Nat.le_of_ble_eq_true rfl, Nat.le_of_ble_eq_true rfl⟩ (fun u H locs _ hP hD hK hS => ?_)
  obtain ⟨g_1114, rfl⟩ : ∃ z, z = u := ⟨_, rfl⟩
  have hP : va_P D vwCl [(a0, .inr (7, [.ref a1, .int 8, .ref a2, .ref a3, .ref a4, .ref a5, .ref a6, .ref a7, .ref a8, .int (-1), .int 0, .int 3, .int 3, .int 0, .int 0, .int 0, .ref a9, .ref a10, .ref a11, .ref a12, .ref a13, .ref a14, .int 0, .int 0, .int 0, .int 0, .int (-1), .int 0])), (a1, .inl (k0, 80, .inl g_1114))] H := hP
  have hD : va_D A [(a0, .inr (7, [.ref a1, .int 8, .ref a2, .ref a3, .ref a4, .ref a5, .ref a6, .ref a7, .ref a8, .int (-1), .int 0, .int 3, .int 3, .int 0, .int 0, .int 0, .ref a9, .ref a10, .ref a11, .ref a12, .ref a13, .ref a14, .int 0, .int 0, .int 0, .int 0, .int (-1), .int 0])), (a1, .inl (k0, 80, .inl g_1114))] := hD
  have hK : va_K D vwCl [(k0, .byte)] s := hK
  refine ka_stk (w := []) rfl ?_
  refine lv_aload_n hx hb dX7_feed_24 rfl (lv_at hl 0 rfl) ?_
  refine lv_iload_n hx hb dX7_feed_25 rfl (lv_at hl 3 rfl) ?_
  refine ka_EV (n := 1) (wr := []) C (ct_X7_four_16 l D a0 x2 a1 a2 a3 a4 a5 a6 a7 a8 a9 a10 a11 a12 a13 a14 k0 g_1114) gX7_feed_X7_four rfl (by decide +kernel) ⟨Nat.le_of_ble_eq_true rfl, Nat.le_of_ble_eq_true rfl⟩ hK hP hD hS hA hE hN [0, 1] rfl (by decide) [] rfl (by decide) (by decide) [0] rfl (ci := 7) rfl rfl 0 rfl rfl hl.1 (rest := []) rfl (Nat.le_of_ble_eq_true rfl) dX7_feed_26 ⟨Nat.le_of_ble_eq_true rfl, Nat.le_of_ble_eq_true rfl⟩ (fun u H locs _ hP hD hK hS => ?_)
  obtain ⟨g_1127, rfl⟩ : ∃ z, z = u := ⟨_, rfl⟩
  have hP : va_P D vwCl [(a0, .inr (7, [.ref a1, .int 12, .ref a2, .ref a3, .ref a4, .ref a5, .ref a6, .ref a7, .ref a8, .int (-1), .int 0, .int 3, .int 3, .int 0, .int 0, .int 0, .ref a9, .ref a10, .ref a11, .ref a12, .ref a13, .ref a14, .int 0, .int 0, .int 0, .int 0, .int (-1), .int 0])), (a1, .inl (k0, 80, .inl g_1127))] H := hP
  have hD : va_D A [(a0, .inr (7, [.ref a1, .int 12, .ref a2, .ref a3, .ref a4, .ref a5, .ref a6, .ref a7, .ref a8, .int (-1), .int 0, .int 3, .int 3, .int 0, .int 0, .int 0, .ref a9, .ref a10, .ref a11, .ref a12, .ref a13, .ref a14, .int 0, .int 0, .int 0, .int 0, .int (-1), .int 0])), (a1, .inl (k0, 80, .inl g_1127))] := hD
  have hK : va_K D vwCl [(k0, .byte)] s := hK
  refine ka_stk (w := []) rfl ?_
  refine lv_aload_n hx hb dX7_feed_29 rfl (lv_at hl 0 rfl) ?_
  refine lv_iload hx hb dX7_feed_30 (lv_at hl 4 rfl) ?_
  refine ka_EV (n := 1) (wr := []) C (ct_X7_four_17 l D a0 x3 a1 a2 a3 a4 a5 a6 a7 a8 a9 a10 a11 a12 a13 a14 k0 g_1127) gX7_feed_X7_four rfl (by decide +kernel) ⟨Nat.le_of_ble_eq_true rfl, Nat.le_of_ble_eq_true rfl⟩ hK hP hD hS hA hE hN [0, 1] rfl (by decide) [] rfl (by decide) (by decide) [0] rfl (ci := 7) rfl rfl 0 rfl rfl hl.1 (rest := []) rfl (Nat.le_of_ble_eq_true rfl) dX7_feed_32 ⟨Nat.le_of_ble_eq_true rfl, Nat.le_of_ble_eq_true rfl⟩ (fun u H locs _ hP hD hK hS => ?_)
  obtain ⟨g_1140, rfl⟩ : ∃ z, z = u := ⟨_, rfl⟩
  have hP : va_P D vwCl [(a0, .inr (7, [.ref a1, .int 16, .ref a2, .ref a3, .ref a4, .ref a5, .ref a6, .ref a7, .ref a8, .int (-1), .int 0, .int 3, .int 3, .int 0, .int 0, .int 0, .ref a9, .ref a10, .ref a11, .ref a12, .ref a13, .ref a14, .int 0, .int 0, .int 0, .int 0, .int (-1), .int 0])), (a1, .inl (k0, 80, .inl g_1140))] H := hP
  have hD : va_D A [(a0, .inr (7, [.ref a1, .int 16, .ref a2, .ref a3, .ref a4, .ref a5, .ref a6, .ref a7, .ref a8, .int (-1), .int 0, .int 3, .int 3, .int 0, .int 0, .int 0, .ref a9, .ref a10, .ref a11, .ref a12, .ref a13, .ref a14, .int 0, .int 0, .int 0, .int 0, .int (-1), .int 0])), (a1, .inl (k0, 80, .inl g_1140))] := hD
  have hK : va_K D vwCl [(k0, .byte)] s := hK
  refine ka_stk (w := []) rfl ?_
  refine lv_aload_n hx hb dX7_feed_35 rfl (lv_at hl 0 rfl) ?_
  refine lv_iload hx hb dX7_feed_36 (lv_at hl 5 rfl) ?_
  refine ka_EV (n := 1) (wr := []) C (ct_X7_four_18 l D a0 x4 a1 a2 a3 a4 a5 a6 a7 a8 a9 a10 a11 a12 a13 a14 k0 g_1140) gX7_feed_X7_four rfl (by decide +kernel) ⟨Nat.le_of_ble_eq_true rfl, Nat.le_of_ble_eq_true rfl⟩ hK hP hD hS hA hE hN [0, 1] rfl (by decide) [] rfl (by decide) (by decide) [0] rfl (ci := 7) rfl rfl 0 rfl rfl hl.1 (rest := []) rfl (Nat.le_of_ble_eq_true rfl) dX7_feed_38 ⟨Nat.le_of_ble_eq_true rfl, Nat.le_of_ble_eq_true rfl⟩ (fun u H locs _ hP hD hK hS => ?_)
  obtain ⟨g_1153, rfl⟩ : ∃ z, z = u := ⟨_, rfl⟩
  have hP : va_P D vwCl [(a0, .inr (7, [.ref a1, .int 20, .ref a2, .ref a3, .ref a4, .ref a5, .ref a6, .ref a7, .ref a8, .int (-1), .int 0, .int 3, .int 3, .int 0, .int 0, .int 0, .ref a9, .ref a10, .ref a11, .ref a12, .ref a13, .ref a14, .int 0, .int 0, .int 0, .int 0, .int (-1), .int 0])), (a1, .inl (k0, 80, .inl g_1153))] H := hP
  have hD : va_D A [(a0, .inr (7, [.ref a1, .int 20, .ref a2, .ref a3, .ref a4, .ref a5, .ref a6, .ref a7, .ref a8, .int (-1), .int 0, .int 3, .int 3, .int 0, .int 0, .int 0, .ref a9, .ref a10, .ref a11, .ref a12, .ref a13, .ref a14, .int 0, .int 0, .int 0, .int 0, .int (-1), .int 0])), (a1, .inl (k0, 80, .inl g_1153))] := hD
  have hK : va_K D vwCl [(k0, .byte)] s := hK
  refine ka_stk (w := []) rfl ?_
  refine lv_aload_n hx hb dX7_feed_41 rfl (lv_at hl 0 rfl) ?_
  refine ka_get C lq_145 rfl hK hP 0 rfl 1 (by decide) lq_146 rfl dX7_feed_42 ?_
  exact ka_rEi C hr hlk (Nat.le_of_ble_eq_true rfl) (Nat.le_of_ble_eq_true rfl) hS (ka_qE () rfl trivial hK hP hD hS [] (by decide) rfl [] rfl) dX7_feed_45
set_option maxHeartbeats 8000000 in
set_option maxRecDepth 100000 in
theorem lc_0 {p : Program} {l : Launch} {e : Env} {s : State} {m : MethodId} {below : List Frame} {meth : Method} {c : Code} {b : Nat} {xs : Nat → Int32} {D : va_G} {A : Nat → Prop} {H : Heap} {locs : List Loc} {ls : Array Slot} {q_1 : Nat} {q_386 : Nat} {q_387 : Nat} {q_388 : Nat} {q_389 : Nat} {q_390 : Nat} {k_391 : ClassId} {q_392 : Nat} {q_393 : Nat} {q_394 : Nat} {k_395 : ClassId} {q_396 : Nat} {q_397 : Nat} {q_398 : Nat} {q_399 : Nat} {q_400 : Nat} {q_401 : Nat} {k_402 : ClassId} {q_403 : Nat} {q_404 : Nat} {q_405 : Nat} {q_406 : Nat} {q_407 : Nat} {q_408 : Nat} {q_409 : Nat} {q_410 : Nat} {q_411 : Nat} {q_412 : Nat} {q_413 : Nat} {q_414 : Nat} {q_415 : Nat} {q_416 : Nat} {q_417 : Nat} {q_418 : Nat} {q_503 : Nat} {q_504 : Nat} {q_505 : Nat} {q_506 : Nat} {q_507 : Nat} {q_508 : Nat} {q_509 : Nat} {q_510 : Nat} {q_511 : Nat} {q_512 : Nat} {q_513 : Nat} {q_514 : Nat} {q_515 : Nat} {q_516 : Nat} {k_517 : ClassId} {k_518 : ClassId} {k_519 : ClassId} {k_520 : ClassId} {k_521 : ClassId} (C : CallFix p m c cL_law 4 s #[Value.ref b] wsL_law RL) (hr : meth.sig.returnType = ret) (hlk : meth.locks = false) (hX : va_X b 6 xs s s.heap) (hbl : b < s.heap.size) (hAe : A = fun q => s.heap.size ≤ q) (hK : va_K D vwCl [(k_391, .byte), (k_395, .object RX2), (k_402, .int), (k_517, .byte), (k_518, .boolean), (k_519, .boolean), (k_520, .boolean), (k_521, .int)] s) (hP : va_P D vwCl [(q_1, .inr (6, [.ref q_386, .ref q_387, .ref q_388, .ref q_389, .int (-1), .int (-1), .int 0, .int 3, .int 3])), (q_386, .inr (5, [.ref q_390, .int 0])), (q_390, .inl (k_391, 80, .inl (fun _ => 0))), (q_387, .inr (3, [.ref q_386, .ref q_392, .int 0, .int 0, .int 0, .int (-1), .int 3, .int 0])), (q_388, .inr (0, [.ref q_393, .ref q_394, .int 0])), (q_393, .inl (k_395, 6, .inr (.inr (.inr (.inr (va_up (va_up (va_up (va_up (va_up (va_up (fun _ => none) 0 (some q_396)) 1 (some q_397)) 2 (some q_398)) 3 (some q_399)) 4 (some q_400)) 5 (some q_401))))))), (q_394, .inl (k_402, 6, .inl (fun _ => 0))), (q_396, .inr (2, [.ref q_403, .ref q_404, .int 0, .null])), (q_397, .inr (2, [.ref q_405, .ref q_406, .int 0, .null])), (q_398, .inr (2, [.ref q_407, .ref q_408, .int 0, .null])), (q_399, .inr (2, [.ref q_409, .ref q_410, .int 0, .null])), (q_400, .inr (2, [.ref q_411, .ref q_412, .int 0, .null])), (q_401, .inr (2, [.ref q_413, .ref q_414, .int 0, .null])), (q_389, .inr (4, [.ref q_415, .ref q_416, .ref q_417, .int 0, .int 0, .int 0, .int 0, .int 0, .int 0])), (q_418, .inr (7, [.ref q_503, .int 0, .ref q_504, .ref q_505, .ref q_506, .ref q_507, .ref q_508, .ref q_509, .ref q_510, .int (-1), .int 0, .int 3, .int 3, .int 0, .int 0, .int 0, .ref q_511, .ref q_512, .ref q_513, .ref q_514, .ref q_515, .ref q_516, .int 0, .int 0, .int 0, .int 0, .int (-1), .int 0])), (q_503, .inl (k_517, 80, .inl (fun _ => 0))), (q_507, .inl (k_518, 6, .inl (fun _ => 0))), (q_508, .inl (k_519, 6, .inl (fun _ => 0))), (q_509, .inl (k_520, 36, .inl (fun _ => 0))), (q_510, .inl (k_521, 6, .inl (fun _ => 0)))] H) (hD : va_D A [(q_1, .inr (6, [.ref q_386, .ref q_387, .ref q_388, .ref q_389, .int (-1), .int (-1), .int 0, .int 3, .int 3])), (q_386, .inr (5, [.ref q_390, .int 0])), (q_390, .inl (k_391, 80, .inl (fun _ => 0))), (q_387, .inr (3, [.ref q_386, .ref q_392, .int 0, .int 0, .int 0, .int (-1), .int 3, .int 0])), (q_388, .inr (0, [.ref q_393, .ref q_394, .int 0])), (q_393, .inl (k_395, 6, .inr (.inr (.inr (.inr (va_up (va_up (va_up (va_up (va_up (va_up (fun _ => none) 0 (some q_396)) 1 (some q_397)) 2 (some q_398)) 3 (some q_399)) 4 (some q_400)) 5 (some q_401))))))), (q_394, .inl (k_402, 6, .inl (fun _ => 0))), (q_396, .inr (2, [.ref q_403, .ref q_404, .int 0, .null])), (q_397, .inr (2, [.ref q_405, .ref q_406, .int 0, .null])), (q_398, .inr (2, [.ref q_407, .ref q_408, .int 0, .null])), (q_399, .inr (2, [.ref q_409, .ref q_410, .int 0, .null])), (q_400, .inr (2, [.ref q_411, .ref q_412, .int 0, .null])), (q_401, .inr (2, [.ref q_413, .ref q_414, .int 0, .null])), (q_389, .inr (4, [.ref q_415, .ref q_416, .ref q_417, .int 0, .int 0, .int 0, .int 0, .int 0, .int 0])), (q_418, .inr (7, [.ref q_503, .int 0, .ref q_504, .ref q_505, .ref q_506, .ref q_507, .ref q_508, .ref q_509, .ref q_510, .int (-1), .int 0, .int 3, .int 3, .int 0, .int 0, .int 0, .ref q_511, .ref q_512, .ref q_513, .ref q_514, .ref q_515, .ref q_516, .int 0, .int 0, .int 0, .int 0, .int (-1), .int 0])), (q_503, .inl (k_517, 80, .inl (fun _ => 0))), (q_507, .inl (k_518, 6, .inl (fun _ => 0))), (q_508, .inl (k_519, 6, .inl (fun _ => 0))), (q_509, .inl (k_520, 36, .inl (fun _ => 0))), (q_510, .inl (k_521, 6, .inl (fun _ => 0)))]) (hS : va_S A s.heap H locs) (hE : ka_SE A s s.heap) (hN : ka_NW s) (hl : lv_has ls 4 [(3, .int 0), (2, .ref q_418), (1, .ref q_1), (0, .ref b)]) : W p l e room_1 s m #[Value.ref b] below meth c H locs 45 6605 (lw_Z below #[Value.ref b] s) (F0 m 132 ls []) := by
  obtain ⟨hx, hb, hml, hown, hts⟩ := id C
  have hA : ∀ q, s.heap.size ≤ q → A q := fun q h => by rw [hAe]; exact h
  have hbA : ¬ A b := by rw [hAe]; exact Nat.not_le.mpr hbl
  obtain ⟨z0, ez0⟩ : ∃ y : Int32, y = xs 0 := ⟨_, rfl⟩
  have rz0 := ka_rng z0
  obtain ⟨z1, ez1⟩ : ∃ y : Int32, y = xs 1 := ⟨_, rfl⟩
  have rz1 := ka_rng z1
  obtain ⟨z2, ez2⟩ : ∃ y : Int32, y = xs 2 := ⟨_, rfl⟩
  have rz2 := ka_rng z2
  obtain ⟨z3, ez3⟩ : ∃ y : Int32, y = xs 3 := ⟨_, rfl⟩
  have rz3 := ka_rng z3
  obtain ⟨z4, ez4⟩ : ∃ y : Int32, y = xs 4 := ⟨_, rfl⟩
  have rz4 := ka_rng z4
  obtain ⟨z5, ez5⟩ : ∃ y : Int32, y = xs 5 := ⟨_, rfl⟩
  have rz5 := ka_rng z5
  refine lv_aload_n hx hb dL_law_132 rfl (lv_at hl 2 rfl) ?_
  refine lv_aload_n hx hb dL_law_133 rfl (lv_at hl 3 rfl) ?_
  refine lv_iload_n hx hb dL_law_134 rfl (lv_at hl 0 rfl) ?_
  refine lv_iconst (v := 1) hx hb dL_law_135 (by decide) ?_
  refine lv_iadd hx hb dL_law_136 ?_
  refine ka_top (w := .int 1) (congrArg Value.int (by decide)) ?_
  refine va_sld hx hb hX hbl hbA hS (ka_in (by decide) (by decide)) dL_law_137 ?_
  refine ka_top (w := .int z1) (congrArg Value.int ez1.symm) ?_
  refine lv_aload_n hx hb dL_law_138 rfl (lv_at hl 3 rfl) ?_
  refine lv_iload_n hx hb dL_law_139 rfl (lv_at hl 0 rfl) ?_
  refine lv_iconst (v := 2) hx hb dL_law_140 (by decide) ?_
  refine lv_iadd hx hb dL_law_141 ?_
  refine ka_top (w := .int 2) (congrArg Value.int (by decide)) ?_
  refine va_sld hx hb hX hbl hbA hS (ka_in (by decide) (by decide)) dL_law_142 ?_
  refine ka_top (w := .int z2) (congrArg Value.int ez2.symm) ?_
  refine lv_aload_n hx hb dL_law_143 rfl (lv_at hl 3 rfl) ?_
  refine lv_iload_n hx hb dL_law_144 rfl (lv_at hl 0 rfl) ?_
  refine lv_iconst (v := 3) hx hb dL_law_145 (by decide) ?_
  refine lv_iadd hx hb dL_law_146 ?_
  refine ka_top (w := .int 3) (congrArg Value.int (by decide)) ?_
  refine va_sld hx hb hX hbl hbA hS (ka_in (by decide) (by decide)) dL_law_147 ?_
  refine ka_top (w := .int z3) (congrArg Value.int ez3.symm) ?_
  refine lv_aload_n hx hb dL_law_148 rfl (lv_at hl 3 rfl) ?_
  refine lv_iload_n hx hb dL_law_149 rfl (lv_at hl 0 rfl) ?_
  refine lv_iconst (v := 4) hx hb dL_law_150 (by decide) ?_
  refine lv_iadd hx hb dL_law_151 ?_
  refine ka_top (w := .int 4) (congrArg Value.int (by decide)) ?_
  refine va_sld hx hb hX hbl hbA hS (ka_in (by decide) (by decide)) dL_law_152 ?_
  refine ka_top (w := .int z4) (congrArg Value.int ez4.symm) ?_
  refine lv_aload_n hx hb dL_law_153 rfl (lv_at hl 3 rfl) ?_
  refine lv_iload_n hx hb dL_law_154 rfl (lv_at hl 0 rfl) ?_
  refine lv_iconst (v := 5) hx hb dL_law_155 (by decide) ?_
  refine lv_iadd hx hb dL_law_156 ?_
  refine ka_top (w := .int 5) (congrArg Value.int (by decide)) ?_
  refine va_sld hx hb hX hbl hbA hS (ka_in (by decide) (by decide)) dL_law_157 ?_
  refine ka_top (w := .int z5) (congrArg Value.int ez5.symm) ?_
  refine ka_EV (n := 5) (wr := [(q_387, .inr (3, [.ref q_386, .ref q_392, .int 0, .int 0, .int 0, .int (-1), .int 3, .int 0])), (q_388, .inr (0, [.ref q_393, .ref q_394, .int 0])), (q_393, .inl (k_395, 6, .inr (.inr (.inr (.inr (va_up (va_up (va_up (va_up (va_up (va_up (fun _ => none) 0 (some q_396)) 1 (some q_397)) 2 (some q_398)) 3 (some q_399)) 4 (some q_400)) 5 (some q_401))))))), (q_394, .inl (k_402, 6, .inl (fun _ => 0))), (q_396, .inr (2, [.ref q_403, .ref q_404, .int 0, .null])), (q_397, .inr (2, [.ref q_405, .ref q_406, .int 0, .null])), (q_398, .inr (2, [.ref q_407, .ref q_408, .int 0, .null])), (q_399, .inr (2, [.ref q_409, .ref q_410, .int 0, .null])), (q_400, .inr (2, [.ref q_411, .ref q_412, .int 0, .null])), (q_401, .inr (2, [.ref q_413, .ref q_414, .int 0, .null])), (q_389, .inr (4, [.ref q_415, .ref q_416, .ref q_417, .int 0, .int 0, .int 0, .int 0, .int 0, .int 0])), (q_418, .inr (7, [.ref q_503, .int 0, .ref q_504, .ref q_505, .ref q_506, .ref q_507, .ref q_508, .ref q_509, .ref q_510, .int (-1), .int 0, .int 3, .int 3, .int 0, .int 0, .int 0, .ref q_511, .ref q_512, .ref q_513, .ref q_514, .ref q_515, .ref q_516, .int 0, .int 0, .int 0, .int 0, .int (-1), .int 0])), (q_503, .inl (k_517, 80, .inl (fun _ => 0))), (q_507, .inl (k_518, 6, .inl (fun _ => 0))), (q_508, .inl (k_519, 6, .inl (fun _ => 0))), (q_509, .inl (k_520, 36, .inl (fun _ => 0))), (q_510, .inl (k_521, 6, .inl (fun _ => 0)))]) C (ct_X6_feed_13 l D q_1 z1 z2 z3 z4 z5 q_386 q_387 q_388 q_389 q_390 k_391) gL_law_X6_feed rfl (by decide +kernel) ⟨Nat.le_of_ble_eq_true rfl, Nat.le_of_ble_eq_true rfl⟩ hK hP hD hS hA hE hN [0, 1, 2] rfl (by decide) [3, 4, 5, 6, 7, 8, 9, 10, 11, 12, 13, 14, 15, 16, 17, 18, 19] rfl (by decide) (by decide) [0] rfl (ci := 6) rfl rfl 0 rfl rfl hl.1 (rest := []) rfl (Nat.le_of_ble_eq_true rfl) dL_law_158 ⟨Nat.le_of_ble_eq_true rfl, Nat.le_of_ble_eq_true rfl⟩ (fun u H locs _ hP hD hK hS => ?_)
  have hP : va_P D vwCl [(q_387, .inr (3, [.ref q_386, .ref q_392, .int 0, .int 0, .int 0, .int (-1), .int 3, .int 0])), (q_388, .inr (0, [.ref q_393, .ref q_394, .int 0])), (q_393, .inl (k_395, 6, .inr (.inr (.inr (.inr (va_up (va_up (va_up (va_up (va_up (va_up (fun _ => none) 0 (some q_396)) 1 (some q_397)) 2 (some q_398)) 3 (some q_399)) 4 (some q_400)) 5 (some q_401))))))), (q_394, .inl (k_402, 6, .inl (fun _ => 0))), (q_396, .inr (2, [.ref q_403, .ref q_404, .int 0, .null])), (q_397, .inr (2, [.ref q_405, .ref q_406, .int 0, .null])), (q_398, .inr (2, [.ref q_407, .ref q_408, .int 0, .null])), (q_399, .inr (2, [.ref q_409, .ref q_410, .int 0, .null])), (q_400, .inr (2, [.ref q_411, .ref q_412, .int 0, .null])), (q_401, .inr (2, [.ref q_413, .ref q_414, .int 0, .null])), (q_389, .inr (4, [.ref q_415, .ref q_416, .ref q_417, .int 0, .int 0, .int 0, .int 0, .int 0, .int 0])), (q_418, .inr (7, [.ref q_503, .int 0, .ref q_504, .ref q_505, .ref q_506, .ref q_507, .ref q_508, .ref q_509, .ref q_510, .int (-1), .int 0, .int 3, .int 3, .int 0, .int 0, .int 0, .ref q_511, .ref q_512, .ref q_513, .ref q_514, .ref q_515, .ref q_516, .int 0, .int 0, .int 0, .int 0, .int (-1), .int 0])), (q_503, .inl (k_517, 80, .inl (fun _ => 0))), (q_507, .inl (k_518, 6, .inl (fun _ => 0))), (q_508, .inl (k_519, 6, .inl (fun _ => 0))), (q_509, .inl (k_520, 36, .inl (fun _ => 0))), (q_510, .inl (k_521, 6, .inl (fun _ => 0)))] H := hP
  have hD : va_D A [(q_387, .inr (3, [.ref q_386, .ref q_392, .int 0, .int 0, .int 0, .int (-1), .int 3, .int 0])), (q_388, .inr (0, [.ref q_393, .ref q_394, .int 0])), (q_393, .inl (k_395, 6, .inr (.inr (.inr (.inr (va_up (va_up (va_up (va_up (va_up (va_up (fun _ => none) 0 (some q_396)) 1 (some q_397)) 2 (some q_398)) 3 (some q_399)) 4 (some q_400)) 5 (some q_401))))))), (q_394, .inl (k_402, 6, .inl (fun _ => 0))), (q_396, .inr (2, [.ref q_403, .ref q_404, .int 0, .null])), (q_397, .inr (2, [.ref q_405, .ref q_406, .int 0, .null])), (q_398, .inr (2, [.ref q_407, .ref q_408, .int 0, .null])), (q_399, .inr (2, [.ref q_409, .ref q_410, .int 0, .null])), (q_400, .inr (2, [.ref q_411, .ref q_412, .int 0, .null])), (q_401, .inr (2, [.ref q_413, .ref q_414, .int 0, .null])), (q_389, .inr (4, [.ref q_415, .ref q_416, .ref q_417, .int 0, .int 0, .int 0, .int 0, .int 0, .int 0])), (q_418, .inr (7, [.ref q_503, .int 0, .ref q_504, .ref q_505, .ref q_506, .ref q_507, .ref q_508, .ref q_509, .ref q_510, .int (-1), .int 0, .int 3, .int 3, .int 0, .int 0, .int 0, .ref q_511, .ref q_512, .ref q_513, .ref q_514, .ref q_515, .ref q_516, .int 0, .int 0, .int 0, .int 0, .int (-1), .int 0])), (q_503, .inl (k_517, 80, .inl (fun _ => 0))), (q_507, .inl (k_518, 6, .inl (fun _ => 0))), (q_508, .inl (k_519, 6, .inl (fun _ => 0))), (q_509, .inl (k_520, 36, .inl (fun _ => 0))), (q_510, .inl (k_521, 6, .inl (fun _ => 0)))] := hD
  have hK : va_K D vwCl [(k_391, .byte), (k_395, .object RX2), (k_402, .int), (k_517, .byte), (k_518, .boolean), (k_519, .boolean), (k_520, .boolean), (k_521, .int)] s := hK
  refine ka_stk (w := [.int 20]) rfl ?_
  refine lv_aload_n hx hb dL_law_161 rfl (lv_at hl 1 rfl) ?_
  refine lv_aload_n hx hb dL_law_162 rfl (lv_at hl 3 rfl) ?_
  refine lv_iload_n hx hb dL_law_163 rfl (lv_at hl 0 rfl) ?_
  refine lv_iconst (v := 1) hx hb dL_law_164 (by decide) ?_
  refine lv_iadd hx hb dL_law_165 ?_
  refine ka_top (w := .int 1) (congrArg Value.int (by decide)) ?_
  refine va_sld hx hb hX hbl hbA hS (ka_in (by decide) (by decide)) dL_law_166 ?_
  refine ka_top (w := .int z1) (congrArg Value.int ez1.symm) ?_
  refine lv_aload_n hx hb dL_law_167 rfl (lv_at hl 3 rfl) ?_
  refine lv_iload_n hx hb dL_law_168 rfl (lv_at hl 0 rfl) ?_
  refine lv_iconst (v := 2) hx hb dL_law_169 (by decide) ?_
  refine lv_iadd hx hb dL_law_170 ?_
  refine ka_top (w := .int 2) (congrArg Value.int (by decide)) ?_
  refine va_sld hx hb hX hbl hbA hS (ka_in (by decide) (by decide)) dL_law_171 ?_
  refine ka_top (w := .int z2) (congrArg Value.int ez2.symm) ?_
  refine lv_aload_n hx hb dL_law_172 rfl (lv_at hl 3 rfl) ?_
  refine lv_iload_n hx hb dL_law_173 rfl (lv_at hl 0 rfl) ?_
  refine lv_iconst (v := 3) hx hb dL_law_174 (by decide) ?_
  refine lv_iadd hx hb dL_law_175 ?_
  refine ka_top (w := .int 3) (congrArg Value.int (by decide)) ?_
  refine va_sld hx hb hX hbl hbA hS (ka_in (by decide) (by decide)) dL_law_176 ?_
  refine ka_top (w := .int z3) (congrArg Value.int ez3.symm) ?_
  refine lv_aload_n hx hb dL_law_177 rfl (lv_at hl 3 rfl) ?_
  refine lv_iload_n hx hb dL_law_178 rfl (lv_at hl 0 rfl) ?_
  refine lv_iconst (v := 4) hx hb dL_law_179 (by decide) ?_
  refine lv_iadd hx hb dL_law_180 ?_
  refine ka_top (w := .int 4) (congrArg Value.int (by decide)) ?_
  refine va_sld hx hb hX hbl hbA hS (ka_in (by decide) (by decide)) dL_law_181 ?_
  refine ka_top (w := .int z4) (congrArg Value.int ez4.symm) ?_
  refine lv_aload_n hx hb dL_law_182 rfl (lv_at hl 3 rfl) ?_
  refine lv_iload_n hx hb dL_law_183 rfl (lv_at hl 0 rfl) ?_
  refine lv_iconst (v := 5) hx hb dL_law_184 (by decide) ?_
  refine lv_iadd hx hb dL_law_185 ?_
  refine ka_top (w := .int 5) (congrArg Value.int (by decide)) ?_
  refine va_sld hx hb hX hbl hbA hS (ka_in (by decide) (by decide)) dL_law_186 ?_
  refine ka_top (w := .int z5) (congrArg Value.int ez5.symm) ?_
  refine ka_EV (n := 5) (wr := [(q_387, .inr (3, [.ref q_386, .ref q_392, .int 0, .int 0, .int 0, .int (-1), .int 3, .int 0])), (q_388, .inr (0, [.ref q_393, .ref q_394, .int 0])), (q_393, .inl (k_395, 6, .inr (.inr (.inr (.inr (va_up (va_up (va_up (va_up (va_up (va_up (fun _ => none) 0 (some q_396)) 1 (some q_397)) 2 (some q_398)) 3 (some q_399)) 4 (some q_400)) 5 (some q_401))))))), (q_394, .inl (k_402, 6, .inl (fun _ => 0))), (q_396, .inr (2, [.ref q_403, .ref q_404, .int 0, .null])), (q_397, .inr (2, [.ref q_405, .ref q_406, .int 0, .null])), (q_398, .inr (2, [.ref q_407, .ref q_408, .int 0, .null])), (q_399, .inr (2, [.ref q_409, .ref q_410, .int 0, .null])), (q_400, .inr (2, [.ref q_411, .ref q_412, .int 0, .null])), (q_401, .inr (2, [.ref q_413, .ref q_414, .int 0, .null])), (q_389, .inr (4, [.ref q_415, .ref q_416, .ref q_417, .int 0, .int 0, .int 0, .int 0, .int 0, .int 0])), (q_507, .inl (k_518, 6, .inl (fun _ => 0))), (q_508, .inl (k_519, 6, .inl (fun _ => 0))), (q_509, .inl (k_520, 36, .inl (fun _ => 0))), (q_510, .inl (k_521, 6, .inl (fun _ => 0)))]) C (ct_X7_feed_19 l D q_418 z1 z2 z3 z4 z5 q_503 q_504 q_505 q_506 q_507 q_508 q_509 q_510 q_511 q_512 q_513 q_514 q_515 q_516 k_517) gL_law_X7_feed rfl (by decide +kernel) ⟨Nat.le_of_ble_eq_true rfl, Nat.le_of_ble_eq_true rfl⟩ hK hP hD hS hA hE hN [11, 12] rfl (by decide) [0, 1, 2, 3, 4, 5, 6, 7, 8, 9, 10, 13, 14, 15, 16] rfl (by decide) (by decide) [3] rfl (ci := 7) rfl rfl 11 rfl rfl hl.1 (rest := [.int 20]) rfl (Nat.le_of_ble_eq_true rfl) dL_law_187 ⟨Nat.le_of_ble_eq_true rfl, Nat.le_of_ble_eq_true rfl⟩ (fun u H locs _ hP hD hK hS => ?_)
  have hP : va_P D vwCl [(q_387, .inr (3, [.ref q_386, .ref q_392, .int 0, .int 0, .int 0, .int (-1), .int 3, .int 0])), (q_388, .inr (0, [.ref q_393, .ref q_394, .int 0])), (q_393, .inl (k_395, 6, .inr (.inr (.inr (.inr (va_up (va_up (va_up (va_up (va_up (va_up (fun _ => none) 0 (some q_396)) 1 (some q_397)) 2 (some q_398)) 3 (some q_399)) 4 (some q_400)) 5 (some q_401))))))), (q_394, .inl (k_402, 6, .inl (fun _ => 0))), (q_396, .inr (2, [.ref q_403, .ref q_404, .int 0, .null])), (q_397, .inr (2, [.ref q_405, .ref q_406, .int 0, .null])), (q_398, .inr (2, [.ref q_407, .ref q_408, .int 0, .null])), (q_399, .inr (2, [.ref q_409, .ref q_410, .int 0, .null])), (q_400, .inr (2, [.ref q_411, .ref q_412, .int 0, .null])), (q_401, .inr (2, [.ref q_413, .ref q_414, .int 0, .null])), (q_389, .inr (4, [.ref q_415, .ref q_416, .ref q_417, .int 0, .int 0, .int 0, .int 0, .int 0, .int 0])), (q_507, .inl (k_518, 6, .inl (fun _ => 0))), (q_508, .inl (k_519, 6, .inl (fun _ => 0))), (q_509, .inl (k_520, 36, .inl (fun _ => 0))), (q_510, .inl (k_521, 6, .inl (fun _ => 0)))] H := hP
  have hD : va_D A [(q_387, .inr (3, [.ref q_386, .ref q_392, .int 0, .int 0, .int 0, .int (-1), .int 3, .int 0])), (q_388, .inr (0, [.ref q_393, .ref q_394, .int 0])), (q_393, .inl (k_395, 6, .inr (.inr (.inr (.inr (va_up (va_up (va_up (va_up (va_up (va_up (fun _ => none) 0 (some q_396)) 1 (some q_397)) 2 (some q_398)) 3 (some q_399)) 4 (some q_400)) 5 (some q_401))))))), (q_394, .inl (k_402, 6, .inl (fun _ => 0))), (q_396, .inr (2, [.ref q_403, .ref q_404, .int 0, .null])), (q_397, .inr (2, [.ref q_405, .ref q_406, .int 0, .null])), (q_398, .inr (2, [.ref q_407, .ref q_408, .int 0, .null])), (q_399, .inr (2, [.ref q_409, .ref q_410, .int 0, .null])), (q_400, .inr (2, [.ref q_411, .ref q_412, .int 0, .null])), (q_401, .inr (2, [.ref q_413, .ref q_414, .int 0, .null])), (q_389, .inr (4, [.ref q_415, .ref q_416, .ref q_417, .int 0, .int 0, .int 0, .int 0, .int 0, .int 0])), (q_507, .inl (k_518, 6, .inl (fun _ => 0))), (q_508, .inl (k_519, 6, .inl (fun _ => 0))), (q_509, .inl (k_520, 36, .inl (fun _ => 0))), (q_510, .inl (k_521, 6, .inl (fun _ => 0)))] := hD
  have hK : va_K D vwCl [(k_391, .byte), (k_395, .object RX2), (k_402, .int), (k_517, .byte), (k_518, .boolean), (k_519, .boolean), (k_520, .boolean), (k_521, .int)] s := hK
  refine ka_stk (w := [.int 20, .int 20]) rfl ?_
  refine lv_icmp_eq (tgt := 725) hx hb dL_law_190 (by decide) (fun _ => ?_) (fun c_ => absurd (by decide) c_)
  refine lv_iinc (v := 6) (lv' := [(3, .int 6), (2, .ref q_418), (1, .ref q_1), (0, .ref b)]) hx hb dL_law_725 hl (k := 0) rfl (by decide) (by decide) rfl (fun ls hl => ?_)
  refine lv_goto (tgt := 18) hx hb dL_law_728 (by decide) ?_
  refine lv_iload_n hx hb dL_law_18 rfl (lv_at hl 0 rfl) ?_
  refine lv_aload_n hx hb dL_law_19 rfl (lv_at hl 3 rfl) ?_
  refine va_slen hx hb hX hbl hbA hS dL_law_20 ?_
  refine ka_top (w := .int 6) (congrArg Value.int rfl) ?_
  refine lv_bipush (v := 6) hx hb dL_law_21 (by decide) ?_
  refine lv_isub hx hb dL_law_23 ?_
  refine ka_top (w := .int 0) (congrArg Value.int (by decide)) ?_
  refine lv_icmp_gt (tgt := 731) hx hb dL_law_24 (by decide) (fun _ => ?_) (fun c_ => absurd (by decide) c_)
  refine lv_iconst (v := 1) hx hb dL_law_731 (by decide) ?_
  refine va_forget (fun q hq => by have h9 := hS.2.2 q hq; rw [hAe] at h9; exact h9) ?_
  refine W.widen (k := 600000) (n := 7302250) (Nat.le_of_ble_eq_true rfl) (Nat.le_of_ble_eq_true rfl) ?_
  exact lw_ret hx hb hr hlk dL_law_732
