theorem lq_0 : ∀ w ∈ wsX50, w ∈ wsX5_append := by decide +kernel
theorem lq_1 : Cond.fieldLink RX5 15 "AskedBack$Tape" "length" "I" ∈ wsX5_append := by decide +kernel
theorem lq_2 : Cond.fieldLink RX5 9 "AskedBack$Tape" "bytes" "[B" ∈ wsX5_append := by decide +kernel
set_option maxHeartbeats 4000000 in
set_option maxRecDepth 100000 in
theorem cg_X5_append_1 (l : Launch) (D : va_G) (F : Nat → Prop) (a0 : Nat) (x0 : Int32) (a1 : Nat) (x1 : Int32) (k0 : ClassId) (f0 : Nat → Int32) (hx1 : 0 ≤ x1.toInt ∧ x1.toInt ≤ 80) (hf0 : sb_Fit f0) : ka_E l D F yX5_append wsX5_append 0 0 0 0 [.ref a0, .int x0] [(a0, .inr (5, [.ref a1, .int x1])), (a1, .inl (k0, 80, .inl f0))] [(k0, .byte)] (fun (u : (Int32) × (Nat → Int32)) => none) (fun (u : (Int32) × (Nat → Int32)) => (0 ≤ (u.1).toInt ∧ (u.1).toInt ≤ 80) ∧ (sb_Fit (u.2))) (fun (u : (Int32) × (Nat → Int32)) => [(a0, .inr (5, [.ref a1, .int (u.1)])), (a1, .inl (k0, 80, .inl (u.2)))]) (fun (u : (Int32) × (Nat → Int32)) => []) := by
  refine ka_E_of (cc := cX5_append) (maxL := 3) (ret := none) (by decide) rfl (Nat.le_of_ble_eq_true rfl) ?_
  intro p e s m below meth c ls A C hr hlk hin hP hK hD hS hA hE hN hl
  have C : CallFix p m c cX5_append 3 s [.ref a0, .int x0].toArray wsX5_append RX5 := C
  obtain ⟨hx, hb, hml, hown, hts⟩ := id C
  have hl : lv_has ls 3 [(0, .ref a0), (1, .int x0)] := hl
  have rx0 := ka_rng x0
  have rx1 := ka_rng x1
  refine lv_bipush (v := 24) hx hb dX5_append_0 (by decide) ?_
  refine lv_istore_n (lv' := [(2, .int 24), (0, .ref a0), (1, .int x0)]) hx hb dX5_append_2 rfl hl (by decide) rfl (fun ls hl => ?_)
  refine lv_iload_n hx hb dX5_append_3 rfl (lv_at hl 0 rfl) ?_
  refine lv_if_lt (tgt := 55) hx hb dX5_append_4 (by decide) (fun c_ => absurd c_ (by decide)) (fun _ => ?_)
  refine lv_aload_n hx hb dX5_append_7 rfl (lv_at hl 1 rfl) ?_
  refine ka_get C lq_0 rfl hK hP 0 rfl 1 (by decide) lq_1 rfl dX5_append_8 ?_
  refine lv_if_lt (tgt := 49) hx hb dX5_append_11 (by decide) (fun c_ => absurd c_ (by rw [ka_lt', show ((0 : Int32)).toInt = 0 from by decide]; omega)) (fun _ => ?_)
  refine lv_aload_n hx hb dX5_append_14 rfl (lv_at hl 1 rfl) ?_
  refine ka_get C lq_0 rfl hK hP 0 rfl 1 (by decide) lq_1 rfl dX5_append_15 ?_
  refine lv_aload_n hx hb dX5_append_18 rfl (lv_at hl 1 rfl) ?_
  refine ka_get C lq_0 rfl hK hP 0 rfl 0 (by decide) lq_2 rfl dX5_append_19 ?_
  refine va_alen hx hb hK hP 1 0 rfl (ty := .byte) rfl (v := 80) rfl dX5_append_22 ?_
  refine lv_icmp_ge (tgt := 49) hx hb dX5_append_23 (by decide) (fun c_78 => ?_) (fun c_78 => ?_)
  · have c_78 : 80 ≤ x1.toInt := by rw [ka_le', show ((80 : Int32)).toInt = 80 from by decide] at c_78; exact c_78
    refine lv_iinc (v := 16) (lv' := [(2, .int 16), (0, .ref a0), (1, .int x0)]) hx hb dX5_append_49 hl (k := 0) rfl (by decide) (by decide) rfl (fun ls hl => ?_)
    refine lv_goto (tgt := 3) hx hb dX5_append_52 (by decide) ?_
    refine lv_iload_n hx hb dX5_append_3 rfl (lv_at hl 0 rfl) ?_
    refine lv_if_lt (tgt := 55) hx hb dX5_append_4 (by decide) (fun c_ => absurd c_ (by decide)) (fun _ => ?_)
    refine lv_aload_n hx hb dX5_append_7 rfl (lv_at hl 1 rfl) ?_
    refine ka_get C lq_0 rfl hK hP 0 rfl 1 (by decide) lq_1 rfl dX5_append_8 ?_
    refine lv_if_lt (tgt := 49) hx hb dX5_append_11 (by decide) (fun c_ => absurd c_ (by rw [ka_lt', show ((0 : Int32)).toInt = 0 from by decide]; omega)) (fun _ => ?_)
    refine lv_aload_n hx hb dX5_append_14 rfl (lv_at hl 1 rfl) ?_
    refine ka_get C lq_0 rfl hK hP 0 rfl 1 (by decide) lq_1 rfl dX5_append_15 ?_
    refine lv_aload_n hx hb dX5_append_18 rfl (lv_at hl 1 rfl) ?_
    refine ka_get C lq_0 rfl hK hP 0 rfl 0 (by decide) lq_2 rfl dX5_append_19 ?_
    refine va_alen hx hb hK hP 1 0 rfl (ty := .byte) rfl (v := 80) rfl dX5_append_22 ?_
    refine lv_icmp_ge (tgt := 49) hx hb dX5_append_23 (by decide) (fun _ => ?_) (fun c_ => absurd (by rw [ka_le', show ((80 : Int32)).toInt = 80 from by decide]; omega) c_)
    refine lv_iinc (v := 8) (lv' := [(2, .int 8), (0, .ref a0), (1, .int x0)]) hx hb dX5_append_49 hl (k := 0) rfl (by decide) (by decide) rfl (fun ls hl => ?_)
    refine lv_goto (tgt := 3) hx hb dX5_append_52 (by decide) ?_
    refine lv_iload_n hx hb dX5_append_3 rfl (lv_at hl 0 rfl) ?_
    refine lv_if_lt (tgt := 55) hx hb dX5_append_4 (by decide) (fun c_ => absurd c_ (by decide)) (fun _ => ?_)
    refine lv_aload_n hx hb dX5_append_7 rfl (lv_at hl 1 rfl) ?_
    refine ka_get C lq_0 rfl hK hP 0 rfl 1 (by decide) lq_1 rfl dX5_append_8 ?_
    refine lv_if_lt (tgt := 49) hx hb dX5_append_11 (by decide) (fun c_ => absurd c_ (by rw [ka_lt', show ((0 : Int32)).toInt = 0 from by decide]; omega)) (fun _ => ?_)
    refine lv_aload_n hx hb dX5_append_14 rfl (lv_at hl 1 rfl) ?_
    refine ka_get C lq_0 rfl hK hP 0 rfl 1 (by decide) lq_1 rfl dX5_append_15 ?_
    refine lv_aload_n hx hb dX5_append_18 rfl (lv_at hl 1 rfl) ?_
    refine ka_get C lq_0 rfl hK hP 0 rfl 0 (by decide) lq_2 rfl dX5_append_19 ?_
    refine va_alen hx hb hK hP 1 0 rfl (ty := .byte) rfl (v := 80) rfl dX5_append_22 ?_
    refine lv_icmp_ge (tgt := 49) hx hb dX5_append_23 (by decide) (fun _ => ?_) (fun c_ => absurd (by rw [ka_le', show ((80 : Int32)).toInt = 80 from by decide]; omega) c_)
    refine lv_iinc (v := 0) (lv' := [(2, .int 0), (0, .ref a0), (1, .int x0)]) hx hb dX5_append_49 hl (k := 0) rfl (by decide) (by decide) rfl (fun ls hl => ?_)
    refine lv_goto (tgt := 3) hx hb dX5_append_52 (by decide) ?_
    refine lv_iload_n hx hb dX5_append_3 rfl (lv_at hl 0 rfl) ?_
    refine lv_if_lt (tgt := 55) hx hb dX5_append_4 (by decide) (fun c_ => absurd c_ (by decide)) (fun _ => ?_)
    refine lv_aload_n hx hb dX5_append_7 rfl (lv_at hl 1 rfl) ?_
    refine ka_get C lq_0 rfl hK hP 0 rfl 1 (by decide) lq_1 rfl dX5_append_8 ?_
    refine lv_if_lt (tgt := 49) hx hb dX5_append_11 (by decide) (fun c_ => absurd c_ (by rw [ka_lt', show ((0 : Int32)).toInt = 0 from by decide]; omega)) (fun _ => ?_)
    refine lv_aload_n hx hb dX5_append_14 rfl (lv_at hl 1 rfl) ?_
    refine ka_get C lq_0 rfl hK hP 0 rfl 1 (by decide) lq_1 rfl dX5_append_15 ?_
    refine lv_aload_n hx hb dX5_append_18 rfl (lv_at hl 1 rfl) ?_
    refine ka_get C lq_0 rfl hK hP 0 rfl 0 (by decide) lq_2 rfl dX5_append_19 ?_
    refine va_alen hx hb hK hP 1 0 rfl (ty := .byte) rfl (v := 80) rfl dX5_append_22 ?_
    refine lv_icmp_ge (tgt := 49) hx hb dX5_append_23 (by decide) (fun _ => ?_) (fun c_ => absurd (by rw [ka_le', show ((80 : Int32)).toInt = 80 from by decide]; omega) c_)
    refine lv_iinc (v := (-8)) (lv' := [(2, .int (-8)), (0, .ref a0), (1, .int x0)]) hx hb dX5_append_49 hl (k := 0) rfl (by decide) (by decide) rfl (fun ls hl => ?_)
    refine lv_goto (tgt := 3) hx hb dX5_append_52 (by decide) ?_
    refine lv_iload_n hx hb dX5_append_3 rfl (lv_at hl 0 rfl) ?_
    refine lv_if_lt (tgt := 55) hx hb dX5_append_4 (by decide) (fun _ => ?_) (fun c_ => absurd (by decide) c_)
    exact ka_rEv C hr hlk (Nat.le_of_ble_eq_true rfl) (Nat.le_of_ble_eq_true rfl) hS (ka_qE (x1, f0) rfl ⟨(show 0 ≤ x1.toInt ∧ x1.toInt ≤ 80 from ⟨by omega, by omega⟩), hf0⟩ hK hP hD hS [0, 1] (by decide) rfl [] rfl) dX5_append_55
  · have c_78 : ¬ 80 ≤ x1.toInt := by rw [ka_le', show ((80 : Int32)).toInt = 80 from by decide] at c_78; exact c_78
    refine lv_aload_n hx hb dX5_append_26 rfl (lv_at hl 1 rfl) ?_
    refine ka_get C lq_0 rfl hK hP 0 rfl 0 (by decide) lq_2 rfl dX5_append_27 ?_
    refine lv_aload_n hx hb dX5_append_30 rfl (lv_at hl 1 rfl) ?_
    refine ka_get C lq_0 rfl hK hP 0 rfl 1 (by decide) lq_1 rfl dX5_append_31 ?_
    refine lv_iload_n hx hb dX5_append_34 rfl (lv_at hl 2 rfl) ?_
    refine lv_iload_n hx hb dX5_append_35 rfl (lv_at hl 0 rfl) ?_
    refine lv_iushr hx hb dX5_append_36 rfl ?_
    refine lv_topi (fun v_79 ev_79 => ?_)
    refine lv_i2b hx hb dX5_append_37 rfl ?_
    refine lv_topi (fun v_80 ev_80 => ?_)
    refine va_bast hx hb hK hP hD hS 1 0 rfl rfl (ka_in (by omega) (by omega)) dX5_append_38 (fun H locs hP hD hS => ?_)
    have hP : va_P D vwCl [(a0, .inr (5, [.ref a1, .int x1])), (a1, .inl (k0, 80, .inl (upd f0 (Int32.toNatClampNeg x1) (vp_nar .byte v_80))))] H := hP
    have hD : va_D A [(a0, .inr (5, [.ref a1, .int x1])), (a1, .inl (k0, 80, .inl (upd f0 (Int32.toNatClampNeg x1) (vp_nar .byte v_80))))] := hD
    have hg_81 : sb_Fit (upd f0 (Int32.toNatClampNeg x1) (vp_nar .byte v_80)) := sb_fitU hf0 (kb_nb _)
    generalize (upd f0 (Int32.toNatClampNeg x1) (vp_nar .byte v_80)) = g_81 at hP hD hg_81
    refine lv_aload_n hx hb dX5_append_39 rfl (lv_at hl 1 rfl) ?_
    refine lv_dup hx hb dX5_append_40 rfl ?_
    refine ka_get C lq_0 rfl hK hP 0 rfl 1 (by decide) lq_1 rfl dX5_append_41 ?_
    refine lv_iconst (v := 1) hx hb dX5_append_44 (by decide) ?_
    refine lv_iadd hx hb dX5_append_45 ?_
    refine lv_topi (fun v_82 ev_82 => ?_)
    have fv_82 : v_82.toInt = x1.toInt + 1 := by rw [ev_82]; exact ka_add (x := x1.toInt) (y := 1) rfl (by decide) (by omega) (by omega)
    refine ka_put C lq_0 tyX5 tyX5_ok nmX5 rfl hK hP hD hS 0 rfl 1 (by decide) lq_1 rfl rfl rfl (Nat.le_of_ble_eq_true rfl) dX5_append_46 (fun H locs hP hD hS => ?_)
    have hP : va_P D vwCl [(a0, .inr (5, [.ref a1, .int v_82])), (a1, .inl (k0, 80, .inl g_81))] H := hP
    have hD : va_D A [(a0, .inr (5, [.ref a1, .int v_82])), (a1, .inl (k0, 80, .inl g_81))] := hD
    refine lv_iinc (v := 16) (lv' := [(2, .int 16), (0, .ref a0), (1, .int x0)]) hx hb dX5_append_49 hl (k := 0) rfl (by decide) (by decide) rfl (fun ls hl => ?_)
    refine lv_goto (tgt := 3) hx hb dX5_append_52 (by decide) ?_
    refine lv_iload_n hx hb dX5_append_3 rfl (lv_at hl 0 rfl) ?_
    refine lv_if_lt (tgt := 55) hx hb dX5_append_4 (by decide) (fun c_ => absurd c_ (by decide)) (fun _ => ?_)
    refine lv_aload_n hx hb dX5_append_7 rfl (lv_at hl 1 rfl) ?_
    refine ka_get C lq_0 rfl hK hP 0 rfl 1 (by decide) lq_1 rfl dX5_append_8 ?_
    refine lv_if_lt (tgt := 49) hx hb dX5_append_11 (by decide) (fun c_ => absurd c_ (by rw [ka_lt', show ((0 : Int32)).toInt = 0 from by decide]; omega)) (fun _ => ?_)
    refine lv_aload_n hx hb dX5_append_14 rfl (lv_at hl 1 rfl) ?_
    refine ka_get C lq_0 rfl hK hP 0 rfl 1 (by decide) lq_1 rfl dX5_append_15 ?_
    refine lv_aload_n hx hb dX5_append_18 rfl (lv_at hl 1 rfl) ?_
    refine ka_get C lq_0 rfl hK hP 0 rfl 0 (by decide) lq_2 rfl dX5_append_19 ?_
    refine va_alen hx hb hK hP 1 0 rfl (ty := .byte) rfl (v := 80) rfl dX5_append_22 ?_
    refine lv_icmp_ge (tgt := 49) hx hb dX5_append_23 (by decide) (fun c_83 => ?_) (fun c_83 => ?_)
    · have c_83 : 80 ≤ v_82.toInt := by rw [ka_le', show ((80 : Int32)).toInt = 80 from by decide] at c_83; exact c_83
      refine lv_iinc (v := 8) (lv' := [(2, .int 8), (0, .ref a0), (1, .int x0)]) hx hb dX5_append_49 hl (k := 0) rfl (by decide) (by decide) rfl (fun ls hl => ?_)
      refine lv_goto (tgt := 3) hx hb dX5_append_52 (by decide) ?_
      refine lv_iload_n hx hb dX5_append_3 rfl (lv_at hl 0 rfl) ?_
      refine lv_if_lt (tgt := 55) hx hb dX5_append_4 (by decide) (fun c_ => absurd c_ (by decide)) (fun _ => ?_)
      refine lv_aload_n hx hb dX5_append_7 rfl (lv_at hl 1 rfl) ?_
      refine ka_get C lq_0 rfl hK hP 0 rfl 1 (by decide) lq_1 rfl dX5_append_8 ?_
      refine lv_if_lt (tgt := 49) hx hb dX5_append_11 (by decide) (fun c_ => absurd c_ (by rw [ka_lt', show ((0 : Int32)).toInt = 0 from by decide]; omega)) (fun _ => ?_)
      refine lv_aload_n hx hb dX5_append_14 rfl (lv_at hl 1 rfl) ?_
      refine ka_get C lq_0 rfl hK hP 0 rfl 1 (by decide) lq_1 rfl dX5_append_15 ?_
      refine lv_aload_n hx hb dX5_append_18 rfl (lv_at hl 1 rfl) ?_
      refine ka_get C lq_0 rfl hK hP 0 rfl 0 (by decide) lq_2 rfl dX5_append_19 ?_
      refine va_alen hx hb hK hP 1 0 rfl (ty := .byte) rfl (v := 80) rfl dX5_append_22 ?_
      refine lv_icmp_ge (tgt := 49) hx hb dX5_append_23 (by decide) (fun _ => ?_) (fun c_ => absurd (by rw [ka_le', show ((80 : Int32)).toInt = 80 from by decide]; omega) c_)
      refine lv_iinc (v := 0) (lv' := [(2, .int 0), (0, .ref a0), (1, .int x0)]) hx hb dX5_append_49 hl (k := 0) rfl (by decide) (by decide) rfl (fun ls hl => ?_)
      refine lv_goto (tgt := 3) hx hb dX5_append_52 (by decide) ?_
      refine lv_iload_n hx hb dX5_append_3 rfl (lv_at hl 0 rfl) ?_
      refine lv_if_lt (tgt := 55) hx hb dX5_append_4 (by decide) (fun c_ => absurd c_ (by decide)) (fun _ => ?_)
      refine lv_aload_n hx hb dX5_append_7 rfl (lv_at hl 1 rfl) ?_
      refine ka_get C lq_0 rfl hK hP 0 rfl 1 (by decide) lq_1 rfl dX5_append_8 ?_
      refine lv_if_lt (tgt := 49) hx hb dX5_append_11 (by decide) (fun c_ => absurd c_ (by rw [ka_lt', show ((0 : Int32)).toInt = 0 from by decide]; omega)) (fun _ => ?_)
      refine lv_aload_n hx hb dX5_append_14 rfl (lv_at hl 1 rfl) ?_
      refine ka_get C lq_0 rfl hK hP 0 rfl 1 (by decide) lq_1 rfl dX5_append_15 ?_
      refine lv_aload_n hx hb dX5_append_18 rfl (lv_at hl 1 rfl) ?_
      refine ka_get C lq_0 rfl hK hP 0 rfl 0 (by decide) lq_2 rfl dX5_append_19 ?_
      refine va_alen hx hb hK hP 1 0 rfl (ty := .byte) rfl (v := 80) rfl dX5_append_22 ?_
      refine lv_icmp_ge (tgt := 49) hx hb dX5_append_23 (by decide) (fun _ => ?_) (fun c_ => absurd (by rw [ka_le', show ((80 : Int32)).toInt = 80 from by decide]; omega) c_)
      refine lv_iinc (v := (-8)) (lv' := [(2, .int (-8)), (0, .ref a0), (1, .int x0)]) hx hb dX5_append_49 hl (k := 0) rfl (by decide) (by decide) rfl (fun ls hl => ?_)
      refine lv_goto (tgt := 3) hx hb dX5_append_52 (by decide) ?_
      refine lv_iload_n hx hb dX5_append_3 rfl (lv_at hl 0 rfl) ?_
      refine lv_if_lt (tgt := 55) hx hb dX5_append_4 (by decide) (fun _ => ?_) (fun c_ => absurd (by decide) c_)
      exact ka_rEv C hr hlk (Nat.le_of_ble_eq_true rfl) (Nat.le_of_ble_eq_true rfl) hS (ka_qE (v_82, g_81) rfl ⟨(show 0 ≤ v_82.toInt ∧ v_82.toInt ≤ 80 from ⟨by omega, by omega⟩), hg_81⟩ hK hP hD hS [0, 1] (by decide) rfl [] rfl) dX5_append_55
    · have c_83 : ¬ 80 ≤ v_82.toInt := by rw [ka_le', show ((80 : Int32)).toInt = 80 from by decide] at c_83; exact c_83
      refine lv_aload_n hx hb dX5_append_26 rfl (lv_at hl 1 rfl) ?_
      refine ka_get C lq_0 rfl hK hP 0 rfl 0 (by decide) lq_2 rfl dX5_append_27 ?_
      refine lv_aload_n hx hb dX5_append_30 rfl (lv_at hl 1 rfl) ?_
      refine ka_get C lq_0 rfl hK hP 0 rfl 1 (by decide) lq_1 rfl dX5_append_31 ?_
      refine lv_iload_n hx hb dX5_append_34 rfl (lv_at hl 2 rfl) ?_
      refine lv_iload_n hx hb dX5_append_35 rfl (lv_at hl 0 rfl) ?_
      refine lv_iushr hx hb dX5_append_36 rfl ?_
      refine lv_topi (fun v_84 ev_84 => ?_)
      refine lv_i2b hx hb dX5_append_37 rfl ?_
      refine lv_topi (fun v_85 ev_85 => ?_)
      refine va_bast hx hb hK hP hD hS 1 0 rfl rfl (ka_in (by omega) (by omega)) dX5_append_38 (fun H locs hP hD hS => ?_)
      have hP : va_P D vwCl [(a0, .inr (5, [.ref a1, .int v_82])), (a1, .inl (k0, 80, .inl (upd g_81 (Int32.toNatClampNeg v_82) (vp_nar .byte v_85))))] H := hP
      have hD : va_D A [(a0, .inr (5, [.ref a1, .int v_82])), (a1, .inl (k0, 80, .inl (upd g_81 (Int32.toNatClampNeg v_82) (vp_nar .byte v_85))))] := hD
      have hg_86 : sb_Fit (upd g_81 (Int32.toNatClampNeg v_82) (vp_nar .byte v_85)) := sb_fitU hg_81 (kb_nb _)
      generalize (upd g_81 (Int32.toNatClampNeg v_82) (vp_nar .byte v_85)) = g_86 at hP hD hg_86
      refine lv_aload_n hx hb dX5_append_39 rfl (lv_at hl 1 rfl) ?_
      refine lv_dup hx hb dX5_append_40 rfl ?_
      refine ka_get C lq_0 rfl hK hP 0 rfl 1 (by decide) lq_1 rfl dX5_append_41 ?_
      refine lv_iconst (v := 1) hx hb dX5_append_44 (by decide) ?_
      refine lv_iadd hx hb dX5_append_45 ?_
      refine lv_topi (fun v_87 ev_87 => ?_)
      have fv_87 : v_87.toInt = v_82.toInt + 1 := by rw [ev_87]; exact ka_add (x := v_82.toInt) (y := 1) rfl (by decide) (by omega) (by omega)
      refine ka_put C lq_0 tyX5 tyX5_ok nmX5 rfl hK hP hD hS 0 rfl 1 (by decide) lq_1 rfl rfl rfl (Nat.le_of_ble_eq_true rfl) dX5_append_46 (fun H locs hP hD hS => ?_)
      have hP : va_P D vwCl [(a0, .inr (5, [.ref a1, .int v_87])), (a1, .inl (k0, 80, .inl g_86))] H := hP
      have hD : va_D A [(a0, .inr (5, [.ref a1, .int v_87])), (a1, .inl (k0, 80, .inl g_86))] := hD
      refine lv_iinc (v := 8) (lv' := [(2, .int 8), (0, .ref a0), (1, .int x0)]) hx hb dX5_append_49 hl (k := 0) rfl (by decide) (by decide) rfl (fun ls hl => ?_)
      refine lv_goto (tgt := 3) hx hb dX5_append_52 (by decide) ?_
      refine lv_iload_n hx hb dX5_append_3 rfl (lv_at hl 0 rfl) ?_
      refine lv_if_lt (tgt := 55) hx hb dX5_append_4 (by decide) (fun c_ => absurd c_ (by decide)) (fun _ => ?_)
      refine lv_aload_n hx hb dX5_append_7 rfl (lv_at hl 1 rfl) ?_
      refine ka_get C lq_0 rfl hK hP 0 rfl 1 (by decide) lq_1 rfl dX5_append_8 ?_
      refine lv_if_lt (tgt := 49) hx hb dX5_append_11 (by decide) (fun c_ => absurd c_ (by rw [ka_lt', show ((0 : Int32)).toInt = 0 from by decide]; omega)) (fun _ => ?_)
      refine lv_aload_n hx hb dX5_append_14 rfl (lv_at hl 1 rfl) ?_
      refine ka_get C lq_0 rfl hK hP 0 rfl 1 (by decide) lq_1 rfl dX5_append_15 ?_
      refine lv_aload_n hx hb dX5_append_18 rfl (lv_at hl 1 rfl) ?_
      refine ka_get C lq_0 rfl hK hP 0 rfl 0 (by decide) lq_2 rfl dX5_append_19 ?_
      refine va_alen hx hb hK hP 1 0 rfl (ty := .byte) rfl (v := 80) rfl dX5_append_22 ?_
      refine lv_icmp_ge (tgt := 49) hx hb dX5_append_23 (by decide) (fun c_88 => ?_) (fun c_88 => ?_)
      · have c_88 : 80 ≤ v_87.toInt := by rw [ka_le', show ((80 : Int32)).toInt = 80 from by decide] at c_88; exact c_88
        refine lv_iinc (v := 0) (lv' := [(2, .int 0), (0, .ref a0), (1, .int x0)]) hx hb dX5_append_49 hl (k := 0) rfl (by decide) (by decide) rfl (fun ls hl => ?_)
        refine lv_goto (tgt := 3) hx hb dX5_append_52 (by decide) ?_
        refine lv_iload_n hx hb dX5_append_3 rfl (lv_at hl 0 rfl) ?_
        refine lv_if_lt (tgt := 55) hx hb dX5_append_4 (by decide) (fun c_ => absurd c_ (by decide)) (fun _ => ?_)
        refine lv_aload_n hx hb dX5_append_7 rfl (lv_at hl 1 rfl) ?_
        refine ka_get C lq_0 rfl hK hP 0 rfl 1 (by decide) lq_1 rfl dX5_append_8 ?_
        refine lv_if_lt (tgt := 49) hx hb dX5_append_11 (by decide) (fun c_ => absurd c_ (by rw [ka_lt', show ((0 : Int32)).toInt = 0 from by decide]; omega)) (fun _ => ?_)
        refine lv_aload_n hx hb dX5_append_14 rfl (lv_at hl 1 rfl) ?_
        refine ka_get C lq_0 rfl hK hP 0 rfl 1 (by decide) lq_1 rfl dX5_append_15 ?_
        refine lv_aload_n hx hb dX5_append_18 rfl (lv_at hl 1 rfl) ?_
        refine ka_get C lq_0 rfl hK hP 0 rfl 0 (by decide) lq_2 rfl dX5_append_19 ?_
        refine va_alen hx hb hK hP 1 0 rfl (ty := .byte) rfl (v := 80) rfl dX5_append_22 ?_
        refine lv_icmp_ge (tgt := 49) hx hb dX5_append_23 (by decide) (fun _ => ?_) (fun c_ => absurd (by rw [ka_le', show ((80 : Int32)).toInt = 80 from by decide]; omega) c_)
        refine lv_iinc (v := (-8)) (lv' := [(2, .int (-8)), (0, .ref a0), (1, .int x0)]) hx hb dX5_append_49 hl (k := 0) rfl (by decide) (by decide) rfl (fun ls hl => ?_)
        refine lv_goto (tgt := 3) hx hb dX5_append_52 (by decide) ?_
        refine lv_iload_n hx hb dX5_append_3 rfl (lv_at hl 0 rfl) ?_
        refine lv_if_lt (tgt := 55) hx hb dX5_append_4 (by decide) (fun _ => ?_) (fun c_ => absurd (by decide) c_)
        exact ka_rEv C hr hlk (Nat.le_of_ble_eq_true rfl) (Nat.le_of_ble_eq_true rfl) hS (ka_qE (v_87, g_86) rfl ⟨(show 0 ≤ v_87.toInt ∧ v_87.toInt ≤ 80 from ⟨by omega, by omega⟩), hg_86⟩ hK hP hD hS [0, 1] (by decide) rfl [] rfl) dX5_append_55
      · have c_88 : ¬ 80 ≤ v_87.toInt := by rw [ka_le', show ((80 : Int32)).toInt = 80 from by decide] at c_88; exact c_88
        refine lv_aload_n hx hb dX5_append_26 rfl (lv_at hl 1 rfl) ?_
        refine ka_get C lq_0 rfl hK hP 0 rfl 0 (by decide) lq_2 rfl dX5_append_27 ?_
        refine lv_aload_n hx hb dX5_append_30 rfl (lv_at hl 1 rfl) ?_
        refine ka_get C lq_0 rfl hK hP 0 rfl 1 (by decide) lq_1 rfl dX5_append_31 ?_
        refine lv_iload_n hx hb dX5_append_34 rfl (lv_at hl 2 rfl) ?_
        refine lv_iload_n hx hb dX5_append_35 rfl (lv_at hl 0 rfl) ?_
        refine lv_iushr hx hb dX5_append_36 rfl ?_
        refine lv_topi (fun v_89 ev_89 => ?_)
        refine lv_i2b hx hb dX5_append_37 rfl ?_
        refine lv_topi (fun v_90 ev_90 => ?_)
        refine va_bast hx hb hK hP hD hS 1 0 rfl rfl (ka_in (by omega) (by omega)) dX5_append_38 (fun H locs hP hD hS => ?_)
        have hP : va_P D vwCl [(a0, .inr (5, [.ref a1, .int v_87])), (a1, .inl (k0, 80, .inl (upd g_86 (Int32.toNatClampNeg v_87) (vp_nar .byte v_90))))] H := hP
        have hD : va_D A [(a0, .inr (5, [.ref a1, .int v_87])), (a1, .inl (k0, 80, .inl (upd g_86 (Int32.toNatClampNeg v_87) (vp_nar .byte v_90))))] := hD
        have hg_91 : sb_Fit (upd g_86 (Int32.toNatClampNeg v_87) (vp_nar .byte v_90)) := sb_fitU hg_86 (kb_nb _)
        generalize (upd g_86 (Int32.toNatClampNeg v_87) (vp_nar .byte v_90)) = g_91 at hP hD hg_91
        refine lv_aload_n hx hb dX5_append_39 rfl (lv_at hl 1 rfl) ?_
        refine lv_dup hx hb dX5_append_40 rfl ?_
        refine ka_get C lq_0 rfl hK hP 0 rfl 1 (by decide) lq_1 rfl dX5_append_41 ?_
        refine lv_iconst (v := 1) hx hb dX5_append_44 (by decide) ?_
        refine lv_iadd hx hb dX5_append_45 ?_
        refine lv_topi (fun v_92 ev_92 => ?_)
        have fv_92 : v_92.toInt = v_87.toInt + 1 := by rw [ev_92]; exact ka_add (x := v_87.toInt) (y := 1) rfl (by decide) (by omega) (by omega)
        refine ka_put C lq_0 tyX5 tyX5_ok nmX5 rfl hK hP hD hS 0 rfl 1 (by decide) lq_1 rfl rfl rfl (Nat.le_of_ble_eq_true rfl) dX5_append_46 (fun H locs hP hD hS => ?_)
        have hP : va_P D vwCl [(a0, .inr (5, [.ref a1, .int v_92])), (a1, .inl (k0, 80, .inl g_91))] H := hP
        have hD : va_D A [(a0, .inr (5, [.ref a1, .int v_92])), (a1, .inl (k0, 80, .inl g_91))] := hD
        refine lv_iinc (v := 0) (lv' := [(2, .int 0), (0, .ref a0), (1, .int x0)]) hx hb dX5_append_49 hl (k := 0) rfl (by decide) (by decide) rfl (fun ls hl => ?_)
        refine lv_goto (tgt := 3) hx hb dX5_append_52 (by decide) ?_
        refine lv_iload_n hx hb dX5_append_3 rfl (lv_at hl 0 rfl) ?_
        refine lv_if_lt (tgt := 55) hx hb dX5_append_4 (by decide) (fun c_ => absurd c_ (by decide)) (fun _ => ?_)
        refine lv_aload_n hx hb dX5_append_7 rfl (lv_at hl 1 rfl) ?_
        refine ka_get C lq_0 rfl hK hP 0 rfl 1 (by decide) lq_1 rfl dX5_append_8 ?_
        refine lv_if_lt (tgt := 49) hx hb dX5_append_11 (by decide) (fun c_ => absurd c_ (by rw [ka_lt', show ((0 : Int32)).toInt = 0 from by decide]; omega)) (fun _ => ?_)
        refine lv_aload_n hx hb dX5_append_14 rfl (lv_at hl 1 rfl) ?_
        refine ka_get C lq_0 rfl hK hP 0 rfl 1 (by decide) lq_1 rfl dX5_append_15 ?_
        refine lv_aload_n hx hb dX5_append_18 rfl (lv_at hl 1 rfl) ?_
        refine ka_get C lq_0 rfl hK hP 0 rfl 0 (by decide) lq_2 rfl dX5_append_19 ?_
        refine va_alen hx hb hK hP 1 0 rfl (ty := .byte) rfl (v := 80) rfl dX5_append_22 ?_
        refine lv_icmp_ge (tgt := 49) hx hb dX5_append_23 (by decide) (fun c_93 => ?_) (fun c_93 => ?_)
        · have c_93 : 80 ≤ v_92.toInt := by rw [ka_le', show ((80 : Int32)).toInt = 80 from by decide] at c_93; exact c_93
          refine lv_iinc (v := (-8)) (lv' := [(2, .int (-8)), (0, .ref a0), (1, .int x0)]) hx hb dX5_append_49 hl (k := 0) rfl (by decide) (by decide) rfl (fun ls hl => ?_)
          refine lv_goto (tgt := 3) hx hb dX5_append_52 (by decide) ?_
          refine lv_iload_n hx hb dX5_append_3 rfl (lv_at hl 0 rfl) ?_
          refine lv_if_lt (tgt := 55) hx hb dX5_append_4 (by decide) (fun _ => ?_) (fun c_ => absurd (by decide) c_)
          exact ka_rEv C hr hlk (Nat.le_of_ble_eq_true rfl) (Nat.le_of_ble_eq_true rfl) hS (ka_qE (v_92, g_91) rfl ⟨(show 0 ≤ v_92.toInt ∧ v_92.toInt ≤ 80 from ⟨by omega, by omega⟩), hg_91⟩ hK hP hD hS [0, 1] (by decide) rfl [] rfl) dX5_append_55
        · have c_93 : ¬ 80 ≤ v_92.toInt := by rw [ka_le', show ((80 : Int32)).toInt = 80 from by decide] at c_93; exact c_93
          refine lv_aload_n hx hb dX5_append_26 rfl (lv_at hl 1 rfl) ?_
          refine ka_get C lq_0 rfl hK hP 0 rfl 0 (by decide) lq_2 rfl dX5_append_27 ?_
          refine lv_aload_n hx hb dX5_append_30 rfl (lv_at hl 1 rfl) ?_
          refine ka_get C lq_0 rfl hK hP 0 rfl 1 (by decide) lq_1 rfl dX5_append_31 ?_
          refine lv_iload_n hx hb dX5_append_34 rfl (lv_at hl 2 rfl) ?_
          refine lv_iload_n hx hb dX5_append_35 rfl (lv_at hl 0 rfl) ?_
          refine lv_iushr hx hb dX5_append_36 rfl ?_
          refine lv_topi (fun v_94 ev_94 => ?_)
          refine lv_i2b hx hb dX5_append_37 rfl ?_
          refine lv_topi (fun v_95 ev_95 => ?_)
          refine va_bast hx hb hK hP hD hS 1 0 rfl rfl (ka_in (by omega) (by omega)) dX5_append_38 (fun H locs hP hD hS => ?_)
          have hP : va_P D vwCl [(a0, .inr (5, [.ref a1, .int v_92])), (a1, .inl (k0, 80, .inl (upd g_91 (Int32.toNatClampNeg v_92) (vp_nar .byte v_95))))] H := hP
          have hD : va_D A [(a0, .inr (5, [.ref a1, .int v_92])), (a1, .inl (k0, 80, .inl (upd g_91 (Int32.toNatClampNeg v_92) (vp_nar .byte v_95))))] := hD
          have hg_96 : sb_Fit (upd g_91 (Int32.toNatClampNeg v_92) (vp_nar .byte v_95)) := sb_fitU hg_91 (kb_nb _)
          generalize (upd g_91 (Int32.toNatClampNeg v_92) (vp_nar .byte v_95)) = g_96 at hP hD hg_96
          refine lv_aload_n hx hb dX5_append_39 rfl (lv_at hl 1 rfl) ?_
          refine lv_dup hx hb dX5_append_40 rfl ?_
          refine ka_get C lq_0 rfl hK hP 0 rfl 1 (by decide) lq_1 rfl dX5_append_41 ?_
          refine lv_iconst (v := 1) hx hb dX5_append_44 (by decide) ?_
          refine lv_iadd hx hb dX5_append_45 ?_
          refine lv_topi (fun v_97 ev_97 => ?_)
          have fv_97 : v_97.toInt = v_92.toInt + 1 := by rw [ev_97]; exact ka_add (x := v_92.toInt) (y := 1) rfl (by decide) (by omega) (by omega)
          refine ka_put C lq_0 tyX5 tyX5_ok nmX5 rfl hK hP hD hS 0 rfl 1 (by decide) lq_1 rfl rfl rfl (Nat.le_of_ble_eq_true rfl) dX5_append_46 (fun H locs hP hD hS => ?_)
          have hP : va_P D vwCl [(a0, .inr (5, [.ref a1, .int v_97])), (a1, .inl (k0, 80, .inl g_96))] H := hP
          have hD : va_D A [(a0, .inr (5, [.ref a1, .int v_97])), (a1, .inl (k0, 80, .inl g_96))] := hD
          refine lv_iinc (v := (-8)) (lv' := [(2, .int (-8)), (0, .ref a0), (1, .int x0)]) hx hb dX5_append_49 hl (k := 0) rfl (by decide) (by decide) rfl (fun ls hl => ?_)
          refine lv_goto (tgt := 3) hx hb dX5_append_52 (by decide) ?_
          refine lv_iload_n hx hb dX5_append_3 rfl (lv_at hl 0 rfl) ?_
          refine lv_if_lt (tgt := 55) hx hb dX5_append_4 (by decide) (fun _ => ?_) (fun c_ => absurd (by decide) c_)
          exact ka_rEv C hr hlk (Nat.le_of_ble_eq_true rfl) (Nat.le_of_ble_eq_true rfl) hS (ka_qE (v_97, g_96) rfl ⟨(show 0 ≤ v_97.toInt ∧ v_97.toInt ≤ 80 from ⟨by omega, by omega⟩), hg_96⟩ hK hP hD hS [0, 1] (by decide) rfl [] rfl) dX5_append_55
theorem lq_3 : ∀ w ∈ wsX50, w ∈ wsX5_offers := by decide +kernel
theorem lq_4 : Cond.fieldLink RX5 15 "AskedBack$Tape" "length" "I" ∈ wsX5_offers := by decide +kernel
set_option maxHeartbeats 4000000 in
set_option maxRecDepth 100000 in
theorem cg_X5_offers_2 (l : Launch) (D : va_G) (F : Nat → Prop) (a0 : Nat) (x0 : Int32) (a1 : Nat) (x1 : Int32) (hx1 : 0 ≤ x1.toInt ∧ x1.toInt ≤ 80) : ka_R l D F yX5_offers wsX5_offers 0 0 [.ref a0, .int x0] [(a0, .inr (5, [.ref a1, .int x1]))] [] (fun v => ∃ x : Int32, v = some (.int x) ∧ 0 ≤ x.toInt ∧ x.toInt ≤ 1) := by
  refine ka_R_of (cc := cX5_offers) (maxL := 2) (ret := (some .boolean)) (by decide) rfl (Nat.le_of_ble_eq_true rfl) ?_
  intro p e s m below meth c ls C hr hlk hP hK hE hN hl
  have hS : va_S (fun _ => False) s.heap s.heap [] := va_S.rf
  have C : CallFix p m c cX5_offers 2 s [.ref a0, .int x0].toArray wsX5_offers RX5 := C
  obtain ⟨hx, hb, hml, hown, hts⟩ := id C
  have hl : lv_has ls 2 [(0, .ref a0), (1, .int x0)] := hl
  have rx0 := ka_rng x0
  have rx1 := ka_rng x1
  refine lv_iload_n hx hb dX5_offers_0 rfl (lv_at hl 1 rfl) ?_
  refine lv_if_lt (tgt := 22) hx hb dX5_offers_1 (by decide) (fun c_141 => ?_) (fun c_141 => ?_)
  · have c_141 : x0.toInt < 0 := by rw [ka_lt', show ((0 : Int32)).toInt = 0 from by decide] at c_141; exact c_141
    refine lv_iconst (v := 0) hx hb dX5_offers_22 (by decide) ?_
    exact ka_rRz C hr hlk rfl ⟨_, rfl, ⟨by decide, by decide⟩⟩ dX5_offers_23
  · have c_141 : ¬ x0.toInt < 0 := by rw [ka_lt', show ((0 : Int32)).toInt = 0 from by decide] at c_141; exact c_141
    refine lv_iload_n hx hb dX5_offers_4 rfl (lv_at hl 1 rfl) ?_
    refine lv_bipush (v := 60) hx hb dX5_offers_5 (by decide) ?_
    refine lv_icmp_gt (tgt := 22) hx hb dX5_offers_7 (by decide) (fun c_142 => ?_) (fun c_142 => ?_)
    · have c_142 : 60 < x0.toInt := by rw [ka_lt', show ((60 : Int32)).toInt = 60 from by decide] at c_142; exact c_142
      refine lv_iconst (v := 0) hx hb dX5_offers_22 (by decide) ?_
      exact ka_rRz C hr hlk rfl ⟨_, rfl, ⟨by decide, by decide⟩⟩ dX5_offers_23
    · have c_142 : ¬ 60 < x0.toInt := by rw [ka_lt', show ((60 : Int32)).toInt = 60 from by decide] at c_142; exact c_142
      refine lv_iload_n hx hb dX5_offers_10 rfl (lv_at hl 1 rfl) ?_
      refine lv_aload_n hx hb dX5_offers_11 rfl (lv_at hl 0 rfl) ?_
      refine ka_get C lq_3 rfl hK hP 0 rfl 1 (by decide) lq_4 rfl dX5_offers_12 ?_
      refine lv_icmp_gt (tgt := 22) hx hb dX5_offers_15 (by decide) (fun c_143 => ?_) (fun c_143 => ?_)
      · have c_143 : x1.toInt < x0.toInt := by rw [ka_lt'] at c_143; exact c_143
        refine lv_iconst (v := 0) hx hb dX5_offers_22 (by decide) ?_
        exact ka_rRz C hr hlk rfl ⟨_, rfl, ⟨by decide, by decide⟩⟩ dX5_offers_23
      · have c_143 : ¬ x1.toInt < x0.toInt := by rw [ka_lt'] at c_143; exact c_143
        refine lv_iconst (v := 1) hx hb dX5_offers_18 (by decide) ?_
        refine lv_goto (tgt := 23) hx hb dX5_offers_19 (by decide) ?_
        exact ka_rRz C hr hlk rfl ⟨_, rfl, ⟨by decide, by decide⟩⟩ dX5_offers_23
theorem lq_5 : ∀ w ∈ wsX50, w ∈ wsX5_byteAt := by decide +kernel
theorem lq_6 : Cond.fieldLink RX5 15 "AskedBack$Tape" "length" "I" ∈ wsX5_byteAt := by decide +kernel
theorem lq_7 : Cond.fieldLink RX5 9 "AskedBack$Tape" "bytes" "[B" ∈ wsX5_byteAt := by decide +kernel
set_option maxHeartbeats 4000000 in
set_option maxRecDepth 100000 in
theorem cg_X5_byteAt_3 (l : Launch) (D : va_G) (F : Nat → Prop) (a0 : Nat) (x0 : Int32) (a1 : Nat) (x1 : Int32) (k0 : ClassId) (f0 : Nat → Int32) (hx1 : 0 ≤ x1.toInt ∧ x1.toInt ≤ 80) (hf0 : sb_Fit f0) : ka_R l D F yX5_byteAt wsX5_byteAt 0 0 [.ref a0, .int x0] [(a0, .inr (5, [.ref a1, .int x1])), (a1, .inl (k0, 80, .inl f0))] [(k0, .byte)] (fun v => ∃ x : Int32, v = some (.int x)) := by
  refine ka_R_of (cc := cX5_byteAt) (maxL := 2) (ret := (some .int)) (by decide) rfl (Nat.le_of_ble_eq_true rfl) ?_
  intro p e s m below meth c ls C hr hlk hP hK hE hN hl
  have hS : va_S (fun _ => False) s.heap s.heap [] := va_S.rf
  have C : CallFix p m c cX5_byteAt 2 s [.ref a0, .int x0].toArray wsX5_byteAt RX5 := C
  obtain ⟨hx, hb, hml, hown, hts⟩ := id C
  have hl : lv_has ls 2 [(0, .ref a0), (1, .int x0)] := hl
  have rx0 := ka_rng x0
  have rx1 := ka_rng x1
  refine lv_iload_n hx hb dX5_byteAt_0 rfl (lv_at hl 1 rfl) ?_
  refine lv_if_lt (tgt := 34) hx hb dX5_byteAt_1 (by decide) (fun c_189 => ?_) (fun c_189 => ?_)
  · have c_189 : x0.toInt < 0 := by rw [ka_lt', show ((0 : Int32)).toInt = 0 from by decide] at c_189; exact c_189
    refine lv_iconst (v := (-1)) hx hb dX5_byteAt_34 (by decide) ?_
    exact ka_rRi C hr hlk ⟨_, rfl⟩ dX5_byteAt_35
  · have c_189 : ¬ x0.toInt < 0 := by rw [ka_lt', show ((0 : Int32)).toInt = 0 from by decide] at c_189; exact c_189
    refine lv_iload_n hx hb dX5_byteAt_4 rfl (lv_at hl 1 rfl) ?_
    refine lv_aload_n hx hb dX5_byteAt_5 rfl (lv_at hl 0 rfl) ?_
    refine ka_get C lq_5 rfl hK hP 0 rfl 1 (by decide) lq_6 rfl dX5_byteAt_6 ?_
    refine lv_icmp_ge (tgt := 34) hx hb dX5_byteAt_9 (by decide) (fun c_190 => ?_) (fun c_190 => ?_)
    · have c_190 : x1.toInt ≤ x0.toInt := by rw [ka_le'] at c_190; exact c_190
      refine lv_iconst (v := (-1)) hx hb dX5_byteAt_34 (by decide) ?_
      exact ka_rRi C hr hlk ⟨_, rfl⟩ dX5_byteAt_35
    · have c_190 : ¬ x1.toInt ≤ x0.toInt := by rw [ka_le'] at c_190; exact c_190
      refine lv_iload_n hx hb dX5_byteAt_12 rfl (lv_at hl 1 rfl) ?_
      refine lv_aload_n hx hb dX5_byteAt_13 rfl (lv_at hl 0 rfl) ?_
      refine ka_get C lq_5 rfl hK hP 0 rfl 0 (by decide) lq_7 rfl dX5_byteAt_14 ?_
      refine va_alen hx hb hK hP 1 0 rfl (ty := .byte) rfl (v := 80) rfl dX5_byteAt_17 ?_
      refine lv_icmp_ge (tgt := 34) hx hb dX5_byteAt_18 (by decide) (fun c_ => absurd c_ (by rw [ka_le', show ((80 : Int32)).toInt = 80 from by decide]; omega)) (fun _ => ?_)
      refine lv_aload_n hx hb dX5_byteAt_21 rfl (lv_at hl 0 rfl) ?_
      refine ka_get C lq_5 rfl hK hP 0 rfl 0 (by decide) lq_7 rfl dX5_byteAt_22 ?_
      refine lv_iload_n hx hb dX5_byteAt_25 rfl (lv_at hl 1 rfl) ?_
      refine va_bald hx hb hK hP 1 0 rfl rfl (ka_in (by omega) (by omega)) dX5_byteAt_26 ?_
      refine lv_topi (fun v_191 ev_191 => ?_)
      refine lv_sipush (v := 255) hx hb dX5_byteAt_27 (by decide) ?_
      refine lv_iand hx hb dX5_byteAt_30 ?_
      refine lv_topi (fun v_192 ev_192 => ?_)
      refine lv_goto (tgt := 35) hx hb dX5_byteAt_31 (by decide) ?_
      exact ka_rRi C hr hlk ⟨_, rfl⟩ dX5_byteAt_35
theorem lq_8 : ∀ w ∈ wsX50, w ∈ wsX5_clear := by decide +kernel
theorem lq_9 : Cond.fieldLink RX5 15 "AskedBack$Tape" "length" "I" ∈ wsX5_clear := by decide +kernel
set_option maxHeartbeats 4000000 in
set_option maxRecDepth 100000 in
theorem cg_X5_clear_4 (l : Launch) (D : va_G) (F : Nat → Prop) (a0 : Nat) (a1 : Nat) (x0 : Int32) (hx0 : 0 ≤ x0.toInt ∧ x0.toInt ≤ 80) : ka_E l D F yX5_clear wsX5_clear 0 0 0 0 [.ref a0] [(a0, .inr (5, [.ref a1, .int x0]))] [] (fun (u : Unit) => none) (fun (u : Unit) => True) (fun (u : Unit) => [(a0, .inr (5, [.ref a1, .int 0]))]) (fun (u : Unit) => []) := by
  refine ka_E_of (cc := cX5_clear) (maxL := 1) (ret := none) (by decide) rfl (Nat.le_of_ble_eq_true rfl) ?_
  intro p e s m below meth c ls A C hr hlk hin hP hK hD hS hA hE hN hl
  have C : CallFix p m c cX5_clear 1 s [.ref a0].toArray wsX5_clear RX5 := C
  obtain ⟨hx, hb, hml, hown, hts⟩ := id C
  have hl : lv_has ls 1 [(0, .ref a0)] := hl
  have rx0 := ka_rng x0
  refine lv_aload_n hx hb dX5_clear_0 rfl (lv_at hl 0 rfl) ?_
  refine lv_iconst (v := 0) hx hb dX5_clear_1 (by decide) ?_
  refine ka_put C lq_8 tyX5 tyX5_ok nmX5 rfl hK hP hD hS 0 rfl 1 (by decide) lq_9 rfl rfl rfl (Nat.le_of_ble_eq_true rfl) dX5_clear_2 (fun H locs hP hD hS => ?_)
  have hP : va_P D vwCl [(a0, .inr (5, [.ref a1, .int 0]))] H := hP
  have hD : va_D A [(a0, .inr (5, [.ref a1, .int 0]))] := hD
  exact ka_rEv C hr hlk (Nat.le_of_ble_eq_true rfl) (Nat.le_of_ble_eq_true rfl) hS (ka_qE () rfl trivial hK hP hD hS [0] (by decide) rfl [] rfl) dX5_clear_5
set_option maxHeartbeats 4000000 in
set_option maxRecDepth 100000 in
theorem cg_X6_isCase_5 (l : Launch) (D : va_G) (F : Nat → Prop) (x0 : Int32) (hx0 : x0.toInt ≤ -1) : ka_R l D F yX6_isCase wsX6_isCase 0 0 [.int x0] [] [] (fun v => v = some (.int 0)) := by
  refine ka_R_of (cc := cX6_isCase) (maxL := 1) (ret := (some .boolean)) (by decide) rfl (Nat.le_of_ble_eq_true rfl) ?_
  intro p e s m below meth c ls C hr hlk hP hK hE hN hl
  have hS : va_S (fun _ => False) s.heap s.heap [] := va_S.rf
  have C : CallFix p m c cX6_isCase 1 s [.int x0].toArray wsX6_isCase RX6 := C
  obtain ⟨hx, hb, hml, hown, hts⟩ := id C
  have hl : lv_has ls 1 [(0, .int x0)] := hl
  have rx0 := ka_rng x0
  refine lv_iload_n hx hb dX6_isCase_0 rfl (lv_at hl 0 rfl) ?_
  refine lv_if_lt (tgt := 14) hx hb dX6_isCase_1 (by decide) (fun _ => ?_) (fun c_ => absurd (by rw [ka_lt', show ((0 : Int32)).toInt = 0 from by decide]; omega) c_)
  refine lv_iconst (v := 0) hx hb dX6_isCase_14 (by decide) ?_
  exact ka_rRz C hr hlk rfl rfl dX6_isCase_15
set_option maxHeartbeats 4000000 in
set_option maxRecDepth 100000 in
theorem cg_X6_isCase_6 (l : Launch) (D : va_G) (F : Nat → Prop) (x0 : Int32) (hx0 : 0 ≤ x0.toInt ∧ x0.toInt ≤ 31) : ka_R l D F yX6_isCase wsX6_isCase 0 0 [.int x0] [] [] (fun v => v = some (.int 1)) := by
  refine ka_R_of (cc := cX6_isCase) (maxL := 1) (ret := (some .boolean)) (by decide) rfl (Nat.le_of_ble_eq_true rfl) ?_
  intro p e s m below meth c ls C hr hlk hP hK hE hN hl
  have hS : va_S (fun _ => False) s.heap s.heap [] := va_S.rf
  have C : CallFix p m c cX6_isCase 1 s [.int x0].toArray wsX6_isCase RX6 := C
  obtain ⟨hx, hb, hml, hown, hts⟩ := id C
  have hl : lv_has ls 1 [(0, .int x0)] := hl
  have rx0 := ka_rng x0
  refine lv_iload_n hx hb dX6_isCase_0 rfl (lv_at hl 0 rfl) ?_
  refine lv_if_lt (tgt := 14) hx hb dX6_isCase_1 (by decide) (fun c_ => absurd c_ (by rw [ka_lt', show ((0 : Int32)).toInt = 0 from by decide]; omega)) (fun _ => ?_)
  refine lv_iload_n hx hb dX6_isCase_4 rfl (lv_at hl 0 rfl) ?_
  refine lv_bipush (v := 32) hx hb dX6_isCase_5 (by decide) ?_
  refine lv_icmp_ge (tgt := 14) hx hb dX6_isCase_7 (by decide) (fun c_ => absurd c_ (by rw [ka_le', show ((32 : Int32)).toInt = 32 from by decide]; omega)) (fun _ => ?_)
  refine lv_iconst (v := 1) hx hb dX6_isCase_10 (by decide) ?_
  refine lv_goto (tgt := 15) hx hb dX6_isCase_11 (by decide) ?_
  exact ka_rRz C hr hlk rfl rfl dX6_isCase_15
set_option maxHeartbeats 4000000 in
set_option maxRecDepth 100000 in
theorem cg_X6_isCase_7 (l : Launch) (D : va_G) (F : Nat → Prop) (x0 : Int32) (hx0 : 32 ≤ x0.toInt) : ka_R l D F yX6_isCase wsX6_isCase 0 0 [.int x0] [] [] (fun v => v = some (.int 0)) := by
  refine ka_R_of (cc := cX6_isCase) (maxL := 1) (ret := (some .boolean)) (by decide) rfl (Nat.le_of_ble_eq_true rfl) ?_
  intro p e s m below meth c ls C hr hlk hP hK hE hN hl
  have hS : va_S (fun _ => False) s.heap s.heap [] := va_S.rf
  have C : CallFix p m c cX6_isCase 1 s [.int x0].toArray wsX6_isCase RX6 := C
  obtain ⟨hx, hb, hml, hown, hts⟩ := id C
  have hl : lv_has ls 1 [(0, .int x0)] := hl
  have rx0 := ka_rng x0
  refine lv_iload_n hx hb dX6_isCase_0 rfl (lv_at hl 0 rfl) ?_
  refine lv_if_lt (tgt := 14) hx hb dX6_isCase_1 (by decide) (fun c_ => absurd c_ (by rw [ka_lt', show ((0 : Int32)).toInt = 0 from by decide]; omega)) (fun _ => ?_)
  refine lv_iload_n hx hb dX6_isCase_4 rfl (lv_at hl 0 rfl) ?_
  refine lv_bipush (v := 32) hx hb dX6_isCase_5 (by decide) ?_
  refine lv_icmp_ge (tgt := 14) hx hb dX6_isCase_7 (by decide) (fun _ => ?_) (fun c_ => absurd (by rw [ka_le', show ((32 : Int32)).toInt = 32 from by decide]; omega) c_)
  refine lv_iconst (v := 0) hx hb dX6_isCase_14 (by decide) ?_
  exact ka_rRz C hr hlk rfl rfl dX6_isCase_15
theorem lq_10 : Cond.initialized RX6 ∈ wsX4_wrongOf := by decide +kernel
theorem lq_11 : Cond.static yX6_isCase ∈ wsX4_wrongOf := by decide +kernel
theorem lq_12 : Cond.static yX6_bitAt ∈ wsX4_wrongOf := by decide +kernel
theorem lq_13 : ∀ w ∈ wsX40, w ∈ wsX4_wrongOf := by decide +kernel
theorem lq_14 : Cond.fieldLink RX4 15 "AskedBack$Talk" "ones" "[I" ∈ wsX4_wrongOf := by decide +kernel
theorem lq_15 : Cond.fieldLink RX4 9 "AskedBack$Talk" "zeros" "[I" ∈ wsX4_wrongOf := by decide +kernel
set_option maxHeartbeats 4000000 in
set_option maxRecDepth 100000 in
theorem cg_X4_wrongOf_8 (l : Launch) (D : va_G) (F : Nat → Prop) (a0 : Nat) (x0 : Int32) (x1 : Int32) (a1 : Nat) (a2 : Nat) (a3 : Nat) (x2 : Int32) (x3 : Int32) (x4 : Int32) (x5 : Int32) (x6 : Int32) (x7 : Int32) (k0 : ClassId) (f0 : Nat → Int32) (k1 : ClassId) (f1 : Nat → Int32) (hx2 : 0 ≤ x2.toInt ∧ x2.toInt ≤ 10) : ka_R l D F yX4_wrongOf wsX4_wrongOf 1 21 [.ref a0, .int x0, .int x1] [(a0, .inr (4, [.ref a1, .ref a2, .ref a3, .int x2, .int x3, .int x4, .int x5, .int x6, .int x7])), (a1, .inl (k0, 32, .inl f0)), (a2, .inl (k1, 32, .inl f1))] [(k0, .int), (k1, .int)] (fun v => ∃ x : Int32, v = some (.int x)) := by
  refine ka_R_of (cc := cX4_wrongOf) (maxL := 3) (ret := (some .int)) (by decide) rfl (Nat.le_of_ble_eq_true rfl) ?_
  intro p e s m below meth c ls C hr hlk hP hK hE hN hl
  have hS : va_S (fun _ => False) s.heap s.heap [] := va_S.rf
  have C : CallFix p m c cX4_wrongOf 3 s [.ref a0, .int x0, .int x1].toArray wsX4_wrongOf RX4 := C
  obtain ⟨hx, hb, hml, hown, hts⟩ := id C
  have hl : lv_has ls 3 [(0, .ref a0), (1, .int x0), (2, .int x1)] := hl
  have rx0 := ka_rng x0
  have rx1 := ka_rng x1
  have rx2 := ka_rng x2
  have rx3 := ka_rng x3
  have rx4 := ka_rng x4
  have rx5 := ka_rng x5
  have rx6 := ka_rng x6
  have rx7 := ka_rng x7
  rcases (show x0.toInt ≤ -1 ∨ (0 ≤ x0.toInt ∧ x0.toInt ≤ 31) ∨ 32 ≤ x0.toInt by omega) with y_386 | y_386 | y_386
  · skip
    refine lv_iload_n hx hb dX4_wrongOf_0 rfl (lv_at hl 1 rfl) ?_
    refine ka_RN (n := 1) C (cg_X6_isCase_5 l D F x0 (by omega)) gX4_wrongOf_X6_isCase_n46 rfl hN.2.2.2.2.2.1 lq_10 lq_11 (by decide +kernel) ⟨Nat.le_of_ble_eq_true rfl, Nat.le_of_ble_eq_true rfl⟩ hK hP hS hE hN [] rfl [] rfl rfl hl.1 (rest := []) rfl (Nat.le_of_ble_eq_true rfl) dX4_wrongOf_1 ⟨Nat.le_of_ble_eq_true rfl, Nat.le_of_ble_eq_true rfl⟩ (fun v hv => ?_)
    subst hv
    refine ka_stk (w := [.int 0]) rfl ?_
    refine lv_if_ne (tgt := 9) hx hb dX4_wrongOf_4 (by decide) (fun c_ => absurd (by decide) c_) (fun _ => ?_)
    refine lv_iconst (v := 0) hx hb dX4_wrongOf_7 (by decide) ?_
    exact ka_rRi C hr hlk ⟨_, rfl⟩ dX4_wrongOf_8
  · skip
    refine lv_iload_n hx hb dX4_wrongOf_0 rfl (lv_at hl 1 rfl) ?_
    refine ka_RN (n := 1) C (cg_X6_isCase_6 l D F x0 ⟨by omega, by omega⟩) gX4_wrongOf_X6_isCase_n46 rfl hN.2.2.2.2.2.1 lq_10 lq_11 (by decide +kernel) ⟨Nat.le_of_ble_eq_true rfl, Nat.le_of_ble_eq_true rfl⟩ hK hP hS hE hN [] rfl [] rfl rfl hl.1 (rest := []) rfl (Nat.le_of_ble_eq_true rfl) dX4_wrongOf_1 ⟨Nat.le_of_ble_eq_true rfl, Nat.le_of_ble_eq_true rfl⟩ (fun v hv => ?_)
    subst hv
    refine ka_stk (w := [.int 1]) rfl ?_
    refine lv_if_ne (tgt := 9) hx hb dX4_wrongOf_4 (by decide) (fun _ => ?_) (fun c_ => absurd c_ (by decide))
    refine lv_iload_n hx hb dX4_wrongOf_9 rfl (lv_at hl 2 rfl) ?_
    refine lv_iload_n hx hb dX4_wrongOf_10 rfl (lv_at hl 1 rfl) ?_
    refine ka_RN (n := 2) C (ka_c_bitAt l D F x1 x0) gX4_wrongOf_X6_bitAt_n50 rfl hN.2.2.2.2.2.2.1 lq_10 lq_12 (by decide +kernel) ⟨Nat.le_of_ble_eq_true rfl, Nat.le_of_ble_eq_true rfl⟩ hK hP hS hE hN [] rfl [] rfl rfl hl.1 (rest := []) rfl (Nat.le_of_ble_eq_true rfl) dX4_wrongOf_11 ⟨Nat.le_of_ble_eq_true rfl, Nat.le_of_ble_eq_true rfl⟩ (fun v hv => ?_)
    subst hv
    refine ka_stk (w := .int (ka_bit x1 x0) :: []) rfl ?_
    refine lv_topi (fun v_387 ev_387 => ?_)
    have fv_387 := ka_bit_in x1 x0; rw [← ev_387] at fv_387
    refine lv_iconst (v := 1) hx hb dX4_wrongOf_14 (by decide) ?_
    refine lv_icmp_ne (tgt := 27) hx hb dX4_wrongOf_15 (by decide) (fun c_388 => ?_) (fun c_388 => ?_)
    · have c_388 : ¬ v_387.toInt = 1 := by rw [ka_eq', show ((1 : Int32)).toInt = 1 from by decide] at c_388; exact c_388
      refine lv_aload_n hx hb dX4_wrongOf_27 rfl (lv_at hl 0 rfl) ?_
      refine ka_get C lq_13 rfl hK hP 0 rfl 1 (by decide) lq_14 rfl dX4_wrongOf_28 ?_
      refine lv_iload_n hx hb dX4_wrongOf_31 rfl (lv_at hl 1 rfl) ?_
      refine va_iald hx hb hK hP 2 1 rfl rfl (ka_in (by omega) (by omega)) dX4_wrongOf_32 ?_
      refine lv_topi (fun v_389 ev_389 => ?_)
      exact ka_rRi C hr hlk ⟨_, rfl⟩ dX4_wrongOf_33
    · have c_388 : v_387.toInt = 1 := by rw [ka_eq', show ((1 : Int32)).toInt = 1 from by decide] at c_388; exact c_388
      refine lv_aload_n hx hb dX4_wrongOf_18 rfl (lv_at hl 0 rfl) ?_
      refine ka_get C lq_13 rfl hK hP 0 rfl 0 (by decide) lq_15 rfl dX4_wrongOf_19 ?_
      refine lv_iload_n hx hb dX4_wrongOf_22 rfl (lv_at hl 1 rfl) ?_
      refine va_iald hx hb hK hP 1 0 rfl rfl (ka_in (by omega) (by omega)) dX4_wrongOf_23 ?_
      refine lv_topi (fun v_390 ev_390 => ?_)
      refine lv_goto (tgt := 33) hx hb dX4_wrongOf_24 (by decide) ?_
      exact ka_rRi C hr hlk ⟨_, rfl⟩ dX4_wrongOf_33
  · skip
    refine lv_iload_n hx hb dX4_wrongOf_0 rfl (lv_at hl 1 rfl) ?_
    refine ka_RN (n := 1) C (cg_X6_isCase_7 l D F x0 (by omega)) gX4_wrongOf_X6_isCase_n46 rfl hN.2.2.2.2.2.1 lq_10 lq_11 (by decide +kernel) ⟨Nat.le_of_ble_eq_true rfl, Nat.le_of_ble_eq_true rfl⟩ hK hP hS hE hN [] rfl [] rfl rfl hl.1 (rest := []) rfl (Nat.le_of_ble_eq_true rfl) dX4_wrongOf_1 ⟨Nat.le_of_ble_eq_true rfl, Nat.le_of_ble_eq_true rfl⟩ (fun v hv => ?_)
    subst hv
    refine ka_stk (w := [.int 0]) rfl ?_
    refine lv_if_ne (tgt := 9) hx hb dX4_wrongOf_4 (by decide) (fun c_ => absurd (by decide) c_) (fun _ => ?_)
    refine lv_iconst (v := 0) hx hb dX4_wrongOf_7 (by decide) ?_
    exact ka_rRi C hr hlk ⟨_, rfl⟩ dX4_wrongOf_8
theorem lq_16 : Cond.initialized RX6 ∈ wsX4_timesAsked := by decide +kernel
theorem lq_17 : Cond.static yX6_isCase ∈ wsX4_timesAsked := by decide +kernel
theorem lq_18 : ∀ w ∈ wsX40, w ∈ wsX4_timesAsked := by decide +kernel
theorem lq_19 : Cond.fieldLink RX4 9 "AskedBack$Talk" "zeros" "[I" ∈ wsX4_timesAsked := by decide +kernel
theorem lq_20 : Cond.fieldLink RX4 15 "AskedBack$Talk" "ones" "[I" ∈ wsX4_timesAsked := by decide +kernel
set_option maxHeartbeats 4000000 in
set_option maxRecDepth 100000 in
theorem cg_X4_timesAsked_9 (l : Launch) (D : va_G) (F : Nat → Prop) (a0 : Nat) (x0 : Int32) (a1 : Nat) (a2 : Nat) (a3 : Nat) (x1 : Int32) (x2 : Int32) (x3 : Int32) (x4 : Int32) (x5 : Int32) (x6 : Int32) (k0 : ClassId) (f0 : Nat → Int32) (k1 : ClassId) (f1 : Nat → Int32) (hx1 : 0 ≤ x1.toInt ∧ x1.toInt ≤ 10) : ka_R l D F yX4_timesAsked wsX4_timesAsked 1 20 [.ref a0, .int x0] [(a0, .inr (4, [.ref a1, .ref a2, .ref a3, .int x1, .int x2, .int x3, .int x4, .int x5, .int x6])), (a1, .inl (k0, 32, .inl f0)), (a2, .inl (k1, 32, .inl f1))] [(k0, .int), (k1, .int)] (fun v => ∃ x : Int32, v = some (.int x)) := by
  refine ka_R_of (cc := cX4_timesAsked) (maxL := 2) (ret := (some .int)) (by decide) rfl (Nat.le_of_ble_eq_true rfl) ?_
  intro p e s m below meth c ls C hr hlk hP hK hE hN hl
  have hS : va_S (fun _ => False) s.heap s.heap [] := va_S.rf
  have C : CallFix p m c cX4_timesAsked 2 s [.ref a0, .int x0].toArray wsX4_timesAsked RX4 := C
  obtain ⟨hx, hb, hml, hown, hts⟩ := id C
  have hl : lv_has ls 2 [(0, .ref a0), (1, .int x0)] := hl
  have rx0 := ka_rng x0
  have rx1 := ka_rng x1
  have rx2 := ka_rng x2
  have rx3 := ka_rng x3
  have rx4 := ka_rng x4
  have rx5 := ka_rng x5
  have rx6 := ka_rng x6
  rcases (show x0.toInt ≤ -1 ∨ (0 ≤ x0.toInt ∧ x0.toInt ≤ 31) ∨ 32 ≤ x0.toInt by omega) with y_434 | y_434 | y_434
  · skip
    refine lv_iload_n hx hb dX4_timesAsked_0 rfl (lv_at hl 1 rfl) ?_
    refine ka_RN (n := 1) C (cg_X6_isCase_5 l D F x0 (by omega)) gX4_timesAsked_X6_isCase_n46 rfl hN.2.2.2.2.2.1 lq_16 lq_17 (by decide +kernel) ⟨Nat.le_of_ble_eq_true rfl, Nat.le_of_ble_eq_true rfl⟩ hK hP hS hE hN [] rfl [] rfl rfl hl.1 (rest := []) rfl (Nat.le_of_ble_eq_true rfl) dX4_timesAsked_1 ⟨Nat.le_of_ble_eq_true rfl, Nat.le_of_ble_eq_true rfl⟩ (fun v hv => ?_)
    subst hv
    refine ka_stk (w := [.int 0]) rfl ?_
    refine lv_if_eq (tgt := 23) hx hb dX4_timesAsked_4 (by decide) (fun _ => ?_) (fun c_ => absurd (by decide) c_)
    refine lv_iconst (v := 0) hx hb dX4_timesAsked_23 (by decide) ?_
    exact ka_rRi C hr hlk ⟨_, rfl⟩ dX4_timesAsked_24
  · skip
    refine lv_iload_n hx hb dX4_timesAsked_0 rfl (lv_at hl 1 rfl) ?_
    refine ka_RN (n := 1) C (cg_X6_isCase_6 l D F x0 ⟨by omega, by omega⟩) gX4_timesAsked_X6_isCase_n46 rfl hN.2.2.2.2.2.1 lq_16 lq_17 (by decide +kernel) ⟨Nat.le_of_ble_eq_true rfl, Nat.le_of_ble_eq_true rfl⟩ hK hP hS hE hN [] rfl [] rfl rfl hl.1 (rest := []) rfl (Nat.le_of_ble_eq_true rfl) dX4_timesAsked_1 ⟨Nat.le_of_ble_eq_true rfl, Nat.le_of_ble_eq_true rfl⟩ (fun v hv => ?_)
    subst hv
    refine ka_stk (w := [.int 1]) rfl ?_
    refine lv_if_eq (tgt := 23) hx hb dX4_timesAsked_4 (by decide) (fun c_ => absurd c_ (by decide)) (fun _ => ?_)
    refine lv_aload_n hx hb dX4_timesAsked_7 rfl (lv_at hl 0 rfl) ?_
    refine ka_get C lq_18 rfl hK hP 0 rfl 0 (by decide) lq_19 rfl dX4_timesAsked_8 ?_
    refine lv_iload_n hx hb dX4_timesAsked_11 rfl (lv_at hl 1 rfl) ?_
    refine va_iald hx hb hK hP 1 0 rfl rfl (ka_in (by omega) (by omega)) dX4_timesAsked_12 ?_
    refine lv_topi (fun v_435 ev_435 => ?_)
    refine lv_aload_n hx hb dX4_timesAsked_13 rfl (lv_at hl 0 rfl) ?_
    refine ka_get C lq_18 rfl hK hP 0 rfl 1 (by decide) lq_20 rfl dX4_timesAsked_14 ?_
    refine lv_iload_n hx hb dX4_timesAsked_17 rfl (lv_at hl 1 rfl) ?_
    refine va_iald hx hb hK hP 2 1 rfl rfl (ka_in (by omega) (by omega)) dX4_timesAsked_18 ?_
    refine lv_topi (fun v_436 ev_436 => ?_)
    refine lv_iadd hx hb dX4_timesAsked_19 ?_
    refine lv_topi (fun v_437 ev_437 => ?_)
    refine lv_goto (tgt := 24) hx hb dX4_timesAsked_20 (by decide) ?_
    exact ka_rRi C hr hlk ⟨_, rfl⟩ dX4_timesAsked_24
  · skip
    refine lv_iload_n hx hb dX4_timesAsked_0 rfl (lv_at hl 1 rfl) ?_
    refine ka_RN (n := 1) C (cg_X6_isCase_7 l D F x0 (by omega)) gX4_timesAsked_X6_isCase_n46 rfl hN.2.2.2.2.2.1 lq_16 lq_17 (by decide +kernel) ⟨Nat.le_of_ble_eq_true rfl, Nat.le_of_ble_eq_true rfl⟩ hK hP hS hE hN [] rfl [] rfl rfl hl.1 (rest := []) rfl (Nat.le_of_ble_eq_true rfl) dX4_timesAsked_1 ⟨Nat.le_of_ble_eq_true rfl, Nat.le_of_ble_eq_true rfl⟩ (fun v hv => ?_)
    subst hv
    refine ka_stk (w := [.int 0]) rfl ?_
    refine lv_if_eq (tgt := 23) hx hb dX4_timesAsked_4 (by decide) (fun _ => ?_) (fun c_ => absurd (by decide) c_)
    refine lv_iconst (v := 0) hx hb dX4_timesAsked_23 (by decide) ?_
    exact ka_rRi C hr hlk ⟨_, rfl⟩ dX4_timesAsked_24
theorem lq_21 : ∀ w ∈ wsX40, w ∈ wsX4_latestOf := by decide +kernel
theorem lq_22 : Cond.fieldLink RX4 25 "AskedBack$Talk" "asked" "I" ∈ wsX4_latestOf := by decide +kernel
theorem lq_23 : Cond.initialized RX6 ∈ wsX4_latestOf := by decide +kernel
theorem lq_24 : Cond.static yX6_bitAt ∈ wsX4_latestOf := by decide +kernel
theorem lq_25 : Cond.fieldLink RX4 28 "AskedBack$Talk" "latestOnes" "I" ∈ wsX4_latestOf := by decide +kernel
set_option maxHeartbeats 4000000 in
set_option maxRecDepth 100000 in
theorem cg_X4_latestOf_10 (l : Launch) (D : va_G) (F : Nat → Prop) (a0 : Nat) (x0 : Int32) (a1 : Nat) (a2 : Nat) (a3 : Nat) (x1 : Int32) (x2 : Int32) (x3 : Int32) (x4 : Int32) (x5 : Int32) (x6 : Int32) (hx1 : 0 ≤ x1.toInt ∧ x1.toInt ≤ 10) : ka_R l D F yX4_latestOf wsX4_latestOf 1 21 [.ref a0, .int x0] [(a0, .inr (4, [.ref a1, .ref a2, .ref a3, .int x1, .int x2, .int x3, .int x4, .int x5, .int x6]))] [] (fun v => ∃ x : Int32, v = some (.int x) ∧ -1 ≤ x.toInt ∧ x.toInt ≤ 1) := by
  refine ka_R_of (cc := cX4_latestOf) (maxL := 2) (ret := (some .int)) (by decide) rfl (Nat.le_of_ble_eq_true rfl) ?_
  intro p e s m below meth c ls C hr hlk hP hK hE hN hl
  have hS : va_S (fun _ => False) s.heap s.heap [] := va_S.rf
  have C : CallFix p m c cX4_latestOf 2 s [.ref a0, .int x0].toArray wsX4_latestOf RX4 := C
  obtain ⟨hx, hb, hml, hown, hts⟩ := id C
  have hl : lv_has ls 2 [(0, .ref a0), (1, .int x0)] := hl
  have rx0 := ka_rng x0
  have rx1 := ka_rng x1
  have rx2 := ka_rng x2
  have rx3 := ka_rng x3
  have rx4 := ka_rng x4
  have rx5 := ka_rng x5
  have rx6 := ka_rng x6
  refine lv_aload_n hx hb dX4_latestOf_0 rfl (lv_at hl 0 rfl) ?_
  refine ka_get C lq_21 rfl hK hP 0 rfl 4 (by decide) lq_22 rfl dX4_latestOf_1 ?_
  refine lv_iload_n hx hb dX4_latestOf_4 rfl (lv_at hl 1 rfl) ?_
  refine ka_RN (n := 2) C (ka_c_bitAt l D F x2 x0) gX4_latestOf_X6_bitAt_n50 rfl hN.2.2.2.2.2.2.1 lq_23 lq_24 (by decide +kernel) ⟨Nat.le_of_ble_eq_true rfl, Nat.le_of_ble_eq_true rfl⟩ hK hP hS hE hN [] rfl [] rfl rfl hl.1 (rest := []) rfl (Nat.le_of_ble_eq_true rfl) dX4_latestOf_5 ⟨Nat.le_of_ble_eq_true rfl, Nat.le_of_ble_eq_true rfl⟩ (fun v hv => ?_)
  subst hv
  refine ka_stk (w := .int (ka_bit x2 x0) :: []) rfl ?_
  refine lv_topi (fun v_481 ev_481 => ?_)
  have fv_481 := ka_bit_in x2 x0; rw [← ev_481] at fv_481
  refine lv_iconst (v := 1) hx hb dX4_latestOf_8 (by decide) ?_
  refine lv_icmp_ne (tgt := 23) hx hb dX4_latestOf_9 (by decide) (fun c_482 => ?_) (fun c_482 => ?_)
  · have c_482 : ¬ v_481.toInt = 1 := by rw [ka_eq', show ((1 : Int32)).toInt = 1 from by decide] at c_482; exact c_482
    refine lv_iconst (v := (-1)) hx hb dX4_latestOf_23 (by decide) ?_
    exact ka_rRi C hr hlk ⟨_, rfl, ⟨by decide, by decide⟩⟩ dX4_latestOf_24
  · have c_482 : v_481.toInt = 1 := by rw [ka_eq', show ((1 : Int32)).toInt = 1 from by decide] at c_482; exact c_482
    refine lv_aload_n hx hb dX4_latestOf_12 rfl (lv_at hl 0 rfl) ?_
    refine ka_get C lq_21 rfl hK hP 0 rfl 5 (by decide) lq_25 rfl dX4_latestOf_13 ?_
    refine lv_iload_n hx hb dX4_latestOf_16 rfl (lv_at hl 1 rfl) ?_
    refine ka_RN (n := 2) C (ka_c_bitAt l D F x3 x0) gX4_latestOf_X6_bitAt_n50 rfl hN.2.2.2.2.2.2.1 lq_23 lq_24 (by decide +kernel) ⟨Nat.le_of_ble_eq_true rfl, Nat.le_of_ble_eq_true rfl⟩ hK hP hS hE hN [] rfl [] rfl rfl hl.1 (rest := []) rfl (Nat.le_of_ble_eq_true rfl) dX4_latestOf_17 ⟨Nat.le_of_ble_eq_true rfl, Nat.le_of_ble_eq_true rfl⟩ (fun v hv => ?_)
    subst hv
    refine ka_stk (w := .int (ka_bit x3 x0) :: []) rfl ?_
    refine lv_topi (fun v_483 ev_483 => ?_)
    have fv_483 := ka_bit_in x3 x0; rw [← ev_483] at fv_483
    refine lv_goto (tgt := 24) hx hb dX4_latestOf_20 (by decide) ?_
    exact ka_rRi C hr hlk ⟨_, rfl, ⟨by omega, by omega⟩⟩ dX4_latestOf_24
theorem lq_26 : ∀ w ∈ wsX40, w ∈ wsX4_saidApart := by decide +kernel
theorem lq_27 : Cond.fieldLink RX4 21 "AskedBack$Talk" "saidCount" "I" ∈ wsX4_saidApart := by decide +kernel
theorem lq_28 : Cond.fieldLink RX4 18 "AskedBack$Talk" "said" "[I" ∈ wsX4_saidApart := by decide +kernel
set_option maxHeartbeats 4000000 in
set_option maxRecDepth 100000 in
theorem cg_X4_saidApart_11 (l : Launch) (D : va_G) (F : Nat → Prop) (a0 : Nat) (a1 : Nat) (a2 : Nat) (a3 : Nat) (x0 : Int32) (x1 : Int32) (x2 : Int32) (x3 : Int32) (x4 : Int32) (x5 : Int32) (k0 : ClassId) (f0 : Nat → Int32) (hx0 : 0 ≤ x0.toInt ∧ x0.toInt ≤ 10) : ka_R l D F yX4_saidApart wsX4_saidApart 0 0 [.ref a0] [(a0, .inr (4, [.ref a1, .ref a2, .ref a3, .int x0, .int x1, .int x2, .int x3, .int x4, .int x5])), (a3, .inl (k0, 10, .inl f0))] [(k0, .int)] (fun v => ∃ x : Int32, v = some (.int x)) := by
  refine ka_R_of (cc := cX4_saidApart) (maxL := 3) (ret := (some .int)) (by decide) rfl (Nat.le_of_ble_eq_true rfl) ?_
  intro p e s m below meth c ls C hr hlk hP hK hE hN hl
  have hS : va_S (fun _ => False) s.heap s.heap [] := va_S.rf
  have C : CallFix p m c cX4_saidApart 3 s [.ref a0].toArray wsX4_saidApart RX4 := C
  obtain ⟨hx, hb, hml, hown, hts⟩ := id C
  have hl : lv_has ls 3 [(0, .ref a0)] := hl
  have rx0 := ka_rng x0
  have rx1 := ka_rng x1
  have rx2 := ka_rng x2
  have rx3 := ka_rng x3
  have rx4 := ka_rng x4
  have rx5 := ka_rng x5
  refine lv_iconst (v := 0) hx hb dX4_saidApart_0 (by decide) ?_
  refine lv_istore_n (lv' := [(1, .int 0), (0, .ref a0)]) hx hb dX4_saidApart_1 rfl hl (by decide) rfl (fun ls hl => ?_)
  refine lv_iconst (v := 1) hx hb dX4_saidApart_2 (by decide) ?_
  refine lv_istore_n (lv' := [(2, .int 1), (1, .int 0), (0, .ref a0)]) hx hb dX4_saidApart_3 rfl hl (by decide) rfl (fun ls hl => ?_)
  have lp_547 : ∀ (n : Nat) (i547_1 : Int32) (i547_2 : Int32), (1 ≤ i547_2.toInt ∧ i547_2.toInt ≤ 10) → (10 - i547_2.toInt).toNat < n → ∀ (ls : Array Slot), lv_has ls 3 [(0, .ref a0), (1, .int i547_1), (2, .int i547_2)] → W p l e ({ frames := 0, cells := 0, slots := 0, locals := 0 }) s m [.ref a0].toArray below meth c s.heap [] 0 0 (MQ below (ka_QR (fun v => ∃ x : Int32, v = some (.int x))) [.ref a0].toArray s 0 0 (fun _ => False)) (F0 m 4 ls []) := by
    intro n
    induction n with
    | zero =>
      intro i547_1 i547_2 hi547_2 hm
      exact absurd hm (Nat.not_lt_zero _)
    | succ n ih_547 =>
      intro i547_1 i547_2 hi547_2 hm ls hl
      have ri547_1 := ka_rng i547_1
      have ri547_2 := ka_rng i547_2
      refine lv_iload_n hx hb dX4_saidApart_4 rfl (lv_at hl 2 rfl) ?_
      refine lv_aload_n hx hb dX4_saidApart_5 rfl (lv_at hl 0 rfl) ?_
      refine ka_get C lq_26 rfl hK hP 0 rfl 3 (by decide) lq_27 rfl dX4_saidApart_6 ?_
      refine lv_icmp_ge (tgt := 43) hx hb dX4_saidApart_9 (by decide) (fun c_554 => ?_) (fun c_554 => ?_)
      · have c_554 : x0.toInt ≤ i547_2.toInt := by rw [ka_le'] at c_554; exact c_554
        refine lv_iload_n hx hb dX4_saidApart_43 rfl (lv_at hl 1 rfl) ?_
        exact ka_rRi C hr hlk ⟨_, rfl⟩ dX4_saidApart_44
      · have c_554 : ¬ x0.toInt ≤ i547_2.toInt := by rw [ka_le'] at c_554; exact c_554
        refine lv_iload_n hx hb dX4_saidApart_12 rfl (lv_at hl 2 rfl) ?_
        refine lv_aload_n hx hb dX4_saidApart_13 rfl (lv_at hl 0 rfl) ?_
        refine ka_get C lq_26 rfl hK hP 0 rfl 2 (by decide) lq_28 rfl dX4_saidApart_14 ?_
        refine va_alen hx hb hK hP 1 0 rfl (ty := .int) rfl (v := 10) rfl dX4_saidApart_17 ?_
        refine lv_icmp_ge (tgt := 43) hx hb dX4_saidApart_18 (by decide) (fun c_ => absurd c_ (by rw [ka_le', show ((10 : Int32)).toInt = 10 from by decide]; omega)) (fun _ => ?_)
        refine lv_iload_n hx hb dX4_saidApart_21 rfl (lv_at hl 1 rfl) ?_
        refine lv_aload_n hx hb dX4_saidApart_22 rfl (lv_at hl 0 rfl) ?_
        refine ka_get C lq_26 rfl hK hP 0 rfl 2 (by decide) lq_28 rfl dX4_saidApart_23 ?_
        refine lv_iconst (v := 0) hx hb dX4_saidApart_26 (by decide) ?_
        refine va_iald hx hb hK hP 1 0 rfl rfl (ka_in (by decide) (by decide)) dX4_saidApart_27 ?_
        refine lv_topi (fun v_555 ev_555 => ?_)
        refine lv_aload_n hx hb dX4_saidApart_28 rfl (lv_at hl 0 rfl) ?_
        refine ka_get C lq_26 rfl hK hP 0 rfl 2 (by decide) lq_28 rfl dX4_saidApart_29 ?_
        refine lv_iload_n hx hb dX4_saidApart_32 rfl (lv_at hl 2 rfl) ?_
        refine va_iald hx hb hK hP 1 0 rfl rfl (ka_in (by omega) (by omega)) dX4_saidApart_33 ?_
        refine lv_topi (fun v_556 ev_556 => ?_)
        refine lv_ixor hx hb dX4_saidApart_34 ?_
        refine lv_topi (fun v_557 ev_557 => ?_)
        refine lv_ior hx hb dX4_saidApart_35 ?_
        refine lv_topi (fun v_558 ev_558 => ?_)
        refine lv_istore_n (lv' := [(1, .int v_558), (0, .ref a0), (2, .int i547_2)]) hx hb dX4_saidApart_36 rfl hl (by decide) rfl (fun ls hl => ?_)
        obtain ⟨v_559, ev_559⟩ : ∃ y : Int32, y = i547_2 + 1 := ⟨_, rfl⟩
        refine lv_iinc (v := v_559) (lv' := [(2, .int v_559), (1, .int v_558), (0, .ref a0)]) hx hb dX4_saidApart_37 hl (k := 2) rfl (by rw [ev_559]; rfl) (by decide) rfl (fun ls hl => ?_)
        have fv_559 : v_559.toInt = i547_2.toInt + 1 := by rw [ev_559]; exact ka_add (x := i547_2.toInt) (y := 1) rfl (by decide) (by omega) (by omega)
        refine lv_goto (tgt := 4) hx hb dX4_saidApart_40 (by decide) ?_
        exact ih_547 v_558 v_559 ⟨by omega, by omega⟩ (by omega) ls (lv_sub hl [2, 1, 0] rfl)
  exact lp_547 _ 0 1 ⟨by decide, by decide⟩ (Nat.lt_succ_self _) ls (lv_sub hl [2, 1, 0] rfl)
theorem lq_29 : ∀ w ∈ wsX40, w ∈ wsX4_saidUnlikeAnswers := by decide +kernel
theorem lq_30 : Cond.fieldLink RX4 21 "AskedBack$Talk" "saidCount" "I" ∈ wsX4_saidUnlikeAnswers := by decide +kernel
theorem lq_31 : Cond.fieldLink RX4 18 "AskedBack$Talk" "said" "[I" ∈ wsX4_saidUnlikeAnswers := by decide +kernel
theorem lq_32 : Cond.fieldLink RX4 28 "AskedBack$Talk" "latestOnes" "I" ∈ wsX4_saidUnlikeAnswers := by decide +kernel
theorem lq_33 : Cond.fieldLink RX4 25 "AskedBack$Talk" "asked" "I" ∈ wsX4_saidUnlikeAnswers := by decide +kernel
set_option maxHeartbeats 4000000 in
set_option maxRecDepth 100000 in
theorem cg_X4_saidUnlikeAnswers_12 (l : Launch) (D : va_G) (F : Nat → Prop) (a0 : Nat) (a1 : Nat) (a2 : Nat) (a3 : Nat) (x0 : Int32) (x1 : Int32) (x2 : Int32) (x3 : Int32) (x4 : Int32) (x5 : Int32) (k0 : ClassId) (f0 : Nat → Int32) (hx0 : 0 ≤ x0.toInt ∧ x0.toInt ≤ 10) : ka_R l D F yX4_saidUnlikeAnswers wsX4_saidUnlikeAnswers 0 0 [.ref a0] [(a0, .inr (4, [.ref a1, .ref a2, .ref a3, .int x0, .int x1, .int x2, .int x3, .int x4, .int x5])), (a3, .inl (k0, 10, .inl f0))] [(k0, .int)] (fun v => ∃ x : Int32, v = some (.int x)) := by
  refine ka_R_of (cc := cX4_saidUnlikeAnswers) (maxL := 1) (ret := (some .int)) (by decide) rfl (Nat.le_of_ble_eq_true rfl) ?_
  intro p e s m below meth c ls C hr hlk hP hK hE hN hl
  have hS : va_S (fun _ => False) s.heap s.heap [] := va_S.rf
  have C : CallFix p m c cX4_saidUnlikeAnswers 1 s [.ref a0].toArray wsX4_saidUnlikeAnswers RX4 := C
  obtain ⟨hx, hb, hml, hown, hts⟩ := id C
  have hl : lv_has ls 1 [(0, .ref a0)] := hl
  have rx0 := ka_rng x0
  have rx1 := ka_rng x1
  have rx2 := ka_rng x2
  have rx3 := ka_rng x3
  have rx4 := ka_rng x4
  have rx5 := ka_rng x5
  refine lv_aload_n hx hb dX4_saidUnlikeAnswers_0 rfl (lv_at hl 0 rfl) ?_
  refine ka_get C lq_29 rfl hK hP 0 rfl 3 (by decide) lq_30 rfl dX4_saidUnlikeAnswers_1 ?_
  refine lv_if_le (tgt := 26) hx hb dX4_saidUnlikeAnswers_4 (by decide) (fun c_605 => ?_) (fun c_605 => ?_)
  · have c_605 : x0.toInt ≤ 0 := by rw [ka_le', show ((0 : Int32)).toInt = 0 from by decide] at c_605; exact c_605
    refine lv_iconst (v := 0) hx hb dX4_saidUnlikeAnswers_26 (by decide) ?_
    exact ka_rRi C hr hlk ⟨_, rfl⟩ dX4_saidUnlikeAnswers_27
  · have c_605 : ¬ x0.toInt ≤ 0 := by rw [ka_le', show ((0 : Int32)).toInt = 0 from by decide] at c_605; exact c_605
    refine lv_aload_n hx hb dX4_saidUnlikeAnswers_7 rfl (lv_at hl 0 rfl) ?_
    refine ka_get C lq_29 rfl hK hP 0 rfl 2 (by decide) lq_31 rfl dX4_saidUnlikeAnswers_8 ?_
    refine lv_iconst (v := 0) hx hb dX4_saidUnlikeAnswers_11 (by decide) ?_
    refine va_iald hx hb hK hP 1 0 rfl rfl (ka_in (by decide) (by decide)) dX4_saidUnlikeAnswers_12 ?_
    refine lv_topi (fun v_606 ev_606 => ?_)
    refine lv_aload_n hx hb dX4_saidUnlikeAnswers_13 rfl (lv_at hl 0 rfl) ?_
    refine ka_get C lq_29 rfl hK hP 0 rfl 5 (by decide) lq_32 rfl dX4_saidUnlikeAnswers_14 ?_
    refine lv_ixor hx hb dX4_saidUnlikeAnswers_17 ?_
    refine lv_topi (fun v_607 ev_607 => ?_)
    refine lv_aload_n hx hb dX4_saidUnlikeAnswers_18 rfl (lv_at hl 0 rfl) ?_
    refine ka_get C lq_29 rfl hK hP 0 rfl 4 (by decide) lq_33 rfl dX4_saidUnlikeAnswers_19 ?_
    refine lv_iand hx hb dX4_saidUnlikeAnswers_22 ?_
    refine lv_topi (fun v_608 ev_608 => ?_)
    refine lv_goto (tgt := 27) hx hb dX4_saidUnlikeAnswers_23 (by decide) ?_
    exact ka_rRi C hr hlk ⟨_, rfl⟩ dX4_saidUnlikeAnswers_27
theorem lq_34 : ∀ w ∈ wsX40, w ∈ wsX4_firstUnlikeFirst := by decide +kernel
theorem lq_35 : Cond.fieldLink RX4 21 "AskedBack$Talk" "saidCount" "I" ∈ wsX4_firstUnlikeFirst := by decide +kernel
theorem lq_36 : Cond.fieldLink RX4 18 "AskedBack$Talk" "said" "[I" ∈ wsX4_firstUnlikeFirst := by decide +kernel
theorem lq_37 : Cond.initialized RX6 ∈ wsX4_firstUnlikeFirst := by decide +kernel
theorem lq_38 : Cond.static yX6_bitAt ∈ wsX4_firstUnlikeFirst := by decide +kernel
set_option maxHeartbeats 4000000 in
set_option maxRecDepth 100000 in
theorem cg_X4_firstUnlikeFirst_13 (l : Launch) (D : va_G) (F : Nat → Prop) (a0 : Nat) (x0 : Int32) (a1 : Nat) (a2 : Nat) (a3 : Nat) (x1 : Int32) (x2 : Int32) (x3 : Int32) (x4 : Int32) (x5 : Int32) (x6 : Int32) (k0 : ClassId) (f0 : Nat → Int32) (hx1 : 0 ≤ x1.toInt ∧ x1.toInt ≤ 10) : ka_R l D F yX4_firstUnlikeFirst wsX4_firstUnlikeFirst 1 21 [.ref a0, .int x0] [(a0, .inr (4, [.ref a1, .ref a2, .ref a3, .int x1, .int x2, .int x3, .int x4, .int x5, .int x6])), (a3, .inl (k0, 10, .inl f0))] [(k0, .int)] (fun v => ∃ x : Int32, v = some (.int x) ∧ -1 ≤ x.toInt ∧ x.toInt ≤ 9) := by
  refine ka_R_of (cc := cX4_firstUnlikeFirst) (maxL := 3) (ret := (some .int)) (by decide) rfl (Nat.le_of_ble_eq_true rfl) ?_
  intro p e s m below meth c ls C hr hlk hP hK hE hN hl
  have hS : va_S (fun _ => False) s.heap s.heap [] := va_S.rf
  have C : CallFix p m c cX4_firstUnlikeFirst 3 s [.ref a0, .int x0].toArray wsX4_firstUnlikeFirst RX4 := C
  obtain ⟨hx, hb, hml, hown, hts⟩ := id C
  have hl : lv_has ls 3 [(0, .ref a0), (1, .int x0)] := hl
  have rx0 := ka_rng x0
  have rx1 := ka_rng x1
  have rx2 := ka_rng x2
  have rx3 := ka_rng x3
  have rx4 := ka_rng x4
  have rx5 := ka_rng x5
  have rx6 := ka_rng x6
  refine lv_iconst (v := 1) hx hb dX4_firstUnlikeFirst_0 (by decide) ?_
  refine lv_istore_n (lv' := [(2, .int 1), (0, .ref a0), (1, .int x0)]) hx hb dX4_firstUnlikeFirst_1 rfl hl (by decide) rfl (fun ls hl => ?_)
  have lp_676 : ∀ (n : Nat) (i676_2 : Int32), (1 ≤ i676_2.toInt ∧ i676_2.toInt ≤ 10) → (10 - i676_2.toInt).toNat < n → ∀ (ls : Array Slot), lv_has ls 3 [(0, .ref a0), (1, .int x0), (2, .int i676_2)] → W p l e ({ frames := 1, cells := 0, slots := 0, locals := 21 }) s m [.ref a0, .int x0].toArray below meth c s.heap [] 0 0 (MQ below (ka_QR (fun v => ∃ x : Int32, v = some (.int x) ∧ -1 ≤ x.toInt ∧ x.toInt ≤ 9)) [.ref a0, .int x0].toArray s 0 0 (fun _ => False)) (F0 m 2 ls []) := by
    intro n
    induction n with
    | zero =>
      intro i676_2 hi676_2 hm
      exact absurd hm (Nat.not_lt_zero _)
    | succ n ih_676 =>
      intro i676_2 hi676_2 hm ls hl
      have ri676_2 := ka_rng i676_2
      refine lv_iload_n hx hb dX4_firstUnlikeFirst_2 rfl (lv_at hl 2 rfl) ?_
      refine lv_aload_n hx hb dX4_firstUnlikeFirst_3 rfl (lv_at hl 0 rfl) ?_
      refine ka_get C lq_34 rfl hK hP 0 rfl 3 (by decide) lq_35 rfl dX4_firstUnlikeFirst_4 ?_
      refine lv_icmp_ge (tgt := 48) hx hb dX4_firstUnlikeFirst_7 (by decide) (fun c_684 => ?_) (fun c_684 => ?_)
      · have c_684 : x1.toInt ≤ i676_2.toInt := by rw [ka_le'] at c_684; exact c_684
        refine lv_iconst (v := (-1)) hx hb dX4_firstUnlikeFirst_48 (by decide) ?_
        exact ka_rRi C hr hlk ⟨_, rfl, ⟨by decide, by decide⟩⟩ dX4_firstUnlikeFirst_49
      · have c_684 : ¬ x1.toInt ≤ i676_2.toInt := by rw [ka_le'] at c_684; exact c_684
        refine lv_iload_n hx hb dX4_firstUnlikeFirst_10 rfl (lv_at hl 2 rfl) ?_
        refine lv_aload_n hx hb dX4_firstUnlikeFirst_11 rfl (lv_at hl 0 rfl) ?_
        refine ka_get C lq_34 rfl hK hP 0 rfl 2 (by decide) lq_36 rfl dX4_firstUnlikeFirst_12 ?_
        refine va_alen hx hb hK hP 1 0 rfl (ty := .int) rfl (v := 10) rfl dX4_firstUnlikeFirst_15 ?_
        refine lv_icmp_ge (tgt := 48) hx hb dX4_firstUnlikeFirst_16 (by decide) (fun c_ => absurd c_ (by rw [ka_le', show ((10 : Int32)).toInt = 10 from by decide]; omega)) (fun _ => ?_)
        refine lv_aload_n hx hb dX4_firstUnlikeFirst_19 rfl (lv_at hl 0 rfl) ?_
        refine ka_get C lq_34 rfl hK hP 0 rfl 2 (by decide) lq_36 rfl dX4_firstUnlikeFirst_20 ?_
        refine lv_iconst (v := 0) hx hb dX4_firstUnlikeFirst_23 (by decide) ?_
        refine va_iald hx hb hK hP 1 0 rfl rfl (ka_in (by decide) (by decide)) dX4_firstUnlikeFirst_24 ?_
        refine lv_topi (fun v_685 ev_685 => ?_)
        refine lv_aload_n hx hb dX4_firstUnlikeFirst_25 rfl (lv_at hl 0 rfl) ?_
        refine ka_get C lq_34 rfl hK hP 0 rfl 2 (by decide) lq_36 rfl dX4_firstUnlikeFirst_26 ?_
        refine lv_iload_n hx hb dX4_firstUnlikeFirst_29 rfl (lv_at hl 2 rfl) ?_
        refine va_iald hx hb hK hP 1 0 rfl rfl (ka_in (by omega) (by omega)) dX4_firstUnlikeFirst_30 ?_
        refine lv_topi (fun v_686 ev_686 => ?_)
        refine lv_ixor hx hb dX4_firstUnlikeFirst_31 ?_
        refine lv_topi (fun v_687 ev_687 => ?_)
        refine lv_iload_n hx hb dX4_firstUnlikeFirst_32 rfl (lv_at hl 1 rfl) ?_
        refine ka_RN (n := 2) C (ka_c_bitAt l D F v_687 x0) gX4_firstUnlikeFirst_X6_bitAt_n50 rfl hN.2.2.2.2.2.2.1 lq_37 lq_38 (by decide +kernel) ⟨Nat.le_of_ble_eq_true rfl, Nat.le_of_ble_eq_true rfl⟩ hK hP hS hE hN [] rfl [] rfl rfl hl.1 (rest := []) rfl (Nat.le_of_ble_eq_true rfl) dX4_firstUnlikeFirst_33 ⟨Nat.le_of_ble_eq_true rfl, Nat.le_of_ble_eq_true rfl⟩ (fun v hv => ?_)
        subst hv
        refine ka_stk (w := .int (ka_bit v_687 x0) :: []) rfl ?_
        refine lv_topi (fun v_688 ev_688 => ?_)
        have fv_688 := ka_bit_in v_687 x0; rw [← ev_688] at fv_688
        refine lv_iconst (v := 1) hx hb dX4_firstUnlikeFirst_36 (by decide) ?_
        refine lv_icmp_ne (tgt := 42) hx hb dX4_firstUnlikeFirst_37 (by decide) (fun c_689 => ?_) (fun c_689 => ?_)
        · have c_689 : ¬ v_688.toInt = 1 := by rw [ka_eq', show ((1 : Int32)).toInt = 1 from by decide] at c_689; exact c_689
          obtain ⟨v_690, ev_690⟩ : ∃ y : Int32, y = i676_2 + 1 := ⟨_, rfl⟩
          refine lv_iinc (v := v_690) (lv' := [(2, .int v_690), (0, .ref a0), (1, .int x0)]) hx hb dX4_firstUnlikeFirst_42 hl (k := 2) rfl (by rw [ev_690]; rfl) (by decide) rfl (fun ls hl => ?_)
          have fv_690 : v_690.toInt = i676_2.toInt + 1 := by rw [ev_690]; exact ka_add (x := i676_2.toInt) (y := 1) rfl (by decide) (by omega) (by omega)
          refine lv_goto (tgt := 2) hx hb dX4_firstUnlikeFirst_45 (by decide) ?_
          exact ih_676 v_690 ⟨by omega, by omega⟩ (by omega) ls (lv_sub hl [1, 2, 0] rfl)
        · have c_689 : v_688.toInt = 1 := by rw [ka_eq', show ((1 : Int32)).toInt = 1 from by decide] at c_689; exact c_689
          refine lv_iload_n hx hb dX4_firstUnlikeFirst_40 rfl (lv_at hl 2 rfl) ?_
          exact ka_rRi C hr hlk ⟨_, rfl, ⟨by omega, by omega⟩⟩ dX4_firstUnlikeFirst_41
  exact lp_676 _ 1 ⟨by decide, by decide⟩ (Nat.lt_succ_self _) ls (lv_sub hl [1, 2, 0] rfl)
set_option maxHeartbeats 4000000 in
set_option maxRecDepth 100000 in
theorem cg_X4_wrongOf_14 (l : Launch) (D : va_G) (F : Nat → Prop) (a0 : Nat) (x0 : Int32) (x1 : Int32) (a1 : Nat) (a2 : Nat) (a3 : Nat) (x2 : Int32) (x3 : Int32) (x4 : Int32) (x5 : Int32) (x6 : Int32) (x7 : Int32) (k0 : ClassId) (f0 : Nat → Int32) (k1 : ClassId) (f1 : Nat → Int32) (hx0 : 0 ≤ x0.toInt ∧ x0.toInt ≤ 31) (hx2 : 0 ≤ x2.toInt ∧ x2.toInt ≤ 10) : ka_R l D F yX4_wrongOf wsX4_wrongOf 1 21 [.ref a0, .int x0, .int x1] [(a0, .inr (4, [.ref a1, .ref a2, .ref a3, .int x2, .int x3, .int x4, .int x5, .int x6, .int x7])), (a1, .inl (k0, 32, .inl f0)), (a2, .inl (k1, 32, .inl f1))] [(k0, .int), (k1, .int)] (fun v => ∃ x : Int32, v = some (.int x)) := by
  refine ka_R_of (cc := cX4_wrongOf) (maxL := 3) (ret := (some .int)) (by decide) rfl (Nat.le_of_ble_eq_true rfl) ?_
  intro p e s m below meth c ls C hr hlk hP hK hE hN hl
  have hS : va_S (fun _ => False) s.heap s.heap [] := va_S.rf
  have C : CallFix p m c cX4_wrongOf 3 s [.ref a0, .int x0, .int x1].toArray wsX4_wrongOf RX4 := C
  obtain ⟨hx, hb, hml, hown, hts⟩ := id C
  have hl : lv_has ls 3 [(0, .ref a0), (1, .int x0), (2, .int x1)] := hl
  have rx0 := ka_rng x0
  have rx1 := ka_rng x1
  have rx2 := ka_rng x2
  have rx3 := ka_rng x3
  have rx4 := ka_rng x4
  have rx5 := ka_rng x5
  have rx6 := ka_rng x6
  have rx7 := ka_rng x7
  refine lv_iload_n hx hb dX4_wrongOf_0 rfl (lv_at hl 1 rfl) ?_
  refine ka_RN (n := 1) C (cg_X6_isCase_6 l D F x0 ⟨by omega, by omega⟩) gX4_wrongOf_X6_isCase_n46 rfl hN.2.2.2.2.2.1 lq_10 lq_11 (by decide +kernel) ⟨Nat.le_of_ble_eq_true rfl, Nat.le_of_ble_eq_true rfl⟩ hK hP hS hE hN [] rfl [] rfl rfl hl.1 (rest := []) rfl (Nat.le_of_ble_eq_true rfl) dX4_wrongOf_1 ⟨Nat.le_of_ble_eq_true rfl, Nat.le_of_ble_eq_true rfl⟩ (fun v hv => ?_)
  subst hv
  refine ka_stk (w := [.int 1]) rfl ?_
  refine lv_if_ne (tgt := 9) hx hb dX4_wrongOf_4 (by decide) (fun _ => ?_) (fun c_ => absurd c_ (by decide))
  refine lv_iload_n hx hb dX4_wrongOf_9 rfl (lv_at hl 2 rfl) ?_
  refine lv_iload_n hx hb dX4_wrongOf_10 rfl (lv_at hl 1 rfl) ?_
  refine ka_RN (n := 2) C (ka_c_bitAt l D F x1 x0) gX4_wrongOf_X6_bitAt_n50 rfl hN.2.2.2.2.2.2.1 lq_10 lq_12 (by decide +kernel) ⟨Nat.le_of_ble_eq_true rfl, Nat.le_of_ble_eq_true rfl⟩ hK hP hS hE hN [] rfl [] rfl rfl hl.1 (rest := []) rfl (Nat.le_of_ble_eq_true rfl) dX4_wrongOf_11 ⟨Nat.le_of_ble_eq_true rfl, Nat.le_of_ble_eq_true rfl⟩ (fun v hv => ?_)
  subst hv
  refine ka_stk (w := .int (ka_bit x1 x0) :: []) rfl ?_
  refine lv_topi (fun v_775 ev_775 => ?_)
  have fv_775 := ka_bit_in x1 x0; rw [← ev_775] at fv_775
  refine lv_iconst (v := 1) hx hb dX4_wrongOf_14 (by decide) ?_
  refine lv_icmp_ne (tgt := 27) hx hb dX4_wrongOf_15 (by decide) (fun c_776 => ?_) (fun c_776 => ?_)
  · have c_776 : ¬ v_775.toInt = 1 := by rw [ka_eq', show ((1 : Int32)).toInt = 1 from by decide] at c_776; exact c_776
    refine lv_aload_n hx hb dX4_wrongOf_27 rfl (lv_at hl 0 rfl) ?_
    refine ka_get C lq_13 rfl hK hP 0 rfl 1 (by decide) lq_14 rfl dX4_wrongOf_28 ?_
    refine lv_iload_n hx hb dX4_wrongOf_31 rfl (lv_at hl 1 rfl) ?_
    refine va_iald hx hb hK hP 2 1 rfl rfl (ka_in (by omega) (by omega)) dX4_wrongOf_32 ?_
    refine lv_topi (fun v_777 ev_777 => ?_)
    exact ka_rRi C hr hlk ⟨_, rfl⟩ dX4_wrongOf_33
  · have c_776 : v_775.toInt = 1 := by rw [ka_eq', show ((1 : Int32)).toInt = 1 from by decide] at c_776; exact c_776
    refine lv_aload_n hx hb dX4_wrongOf_18 rfl (lv_at hl 0 rfl) ?_
    refine ka_get C lq_13 rfl hK hP 0 rfl 0 (by decide) lq_15 rfl dX4_wrongOf_19 ?_
    refine lv_iload_n hx hb dX4_wrongOf_22 rfl (lv_at hl 1 rfl) ?_
    refine va_iald hx hb hK hP 1 0 rfl rfl (ka_in (by omega) (by omega)) dX4_wrongOf_23 ?_
    refine lv_topi (fun v_778 ev_778 => ?_)
    refine lv_goto (tgt := 33) hx hb dX4_wrongOf_24 (by decide) ?_
    exact ka_rRi C hr hlk ⟨_, rfl⟩ dX4_wrongOf_33
set_option maxHeartbeats 4000000 in
set_option maxRecDepth 100000 in
theorem cg_X4_slipsOf_15 (l : Launch) (D : va_G) (F : Nat → Prop) (a0 : Nat) (x0 : Int32) (a1 : Nat) (a2 : Nat) (a3 : Nat) (x1 : Int32) (x2 : Int32) (x3 : Int32) (x4 : Int32) (x5 : Int32) (x6 : Int32) (k0 : ClassId) (f0 : Nat → Int32) (k1 : ClassId) (f1 : Nat → Int32) (hx1 : 0 ≤ x1.toInt ∧ x1.toInt ≤ 10) : ka_R l D F yX4_slipsOf wsX4_slipsOf 2 43 [.ref a0, .int x0] [(a0, .inr (4, [.ref a1, .ref a2, .ref a3, .int x1, .int x2, .int x3, .int x4, .int x5, .int x6])), (a1, .inl (k0, 32, .inl f0)), (a2, .inl (k1, 32, .inl f1))] [(k0, .int), (k1, .int)] (fun v => ∃ x : Int32, v = some (.int x)) := by
  refine ka_R_of (cc := cX4_slipsOf) (maxL := 4) (ret := (some .int)) (by decide) rfl (Nat.le_of_ble_eq_true rfl) ?_
  intro p e s m below meth c ls C hr hlk hP hK hE hN hl
  have hS : va_S (fun _ => False) s.heap s.heap [] := va_S.rf
  have C : CallFix p m c cX4_slipsOf 4 s [.ref a0, .int x0].toArray wsX4_slipsOf RX4 := C
  obtain ⟨hx, hb, hml, hown, hts⟩ := id C
  have hl : lv_has ls 4 [(0, .ref a0), (1, .int x0)] := hl
  have rx0 := ka_rng x0
  have rx1 := ka_rng x1
  have rx2 := ka_rng x2
  have rx3 := ka_rng x3
  have rx4 := ka_rng x4
  have rx5 := ka_rng x5
  have rx6 := ka_rng x6
  refine lv_iconst (v := 0) hx hb dX4_slipsOf_0 (by decide) ?_
  refine lv_istore_n (lv' := [(2, .int 0), (0, .ref a0), (1, .int x0)]) hx hb dX4_slipsOf_1 rfl hl (by decide) rfl (fun ls hl => ?_)
  refine lv_iconst (v := 0) hx hb dX4_slipsOf_2 (by decide) ?_
  refine lv_istore_n (lv' := [(3, .int 0), (2, .int 0), (0, .ref a0), (1, .int x0)]) hx hb dX4_slipsOf_3 rfl hl (by decide) rfl (fun ls hl => ?_)
  have lp_795 : ∀ (n : Nat) (i795_2 : Int32) (i795_3 : Int32), (0 ≤ i795_3.toInt ∧ i795_3.toInt ≤ 32) → (32 - i795_3.toInt).toNat < n → ∀ (ls : Array Slot), lv_has ls 4 [(0, .ref a0), (1, .int x0), (2, .int i795_2), (3, .int i795_3)] → W p l e ({ frames := 2, cells := 0, slots := 0, locals := 43 }) s m [.ref a0, .int x0].toArray below meth c s.heap [] 0 0 (MQ below (ka_QR (fun v => ∃ x : Int32, v = some (.int x))) [.ref a0, .int x0].toArray s 0 0 (fun _ => False)) (F0 m 4 ls []) := by
    intro n
    induction n with
    | zero =>
      intro i795_2 i795_3 hi795_3 hm
      exact absurd hm (Nat.not_lt_zero _)
    | succ n ih_795 =>
      intro i795_2 i795_3 hi795_3 hm ls hl
      have ri795_2 := ka_rng i795_2
      have ri795_3 := ka_rng i795_3
      refine lv_iload_n hx hb dX4_slipsOf_4 rfl (lv_at hl 3 rfl) ?_
      refine lv_bipush (v := 32) hx hb dX4_slipsOf_5 (by decide) ?_
      refine lv_icmp_ge (tgt := 25) hx hb dX4_slipsOf_7 (by decide) (fun c_800 => ?_) (fun c_800 => ?_)
      · have c_800 : 32 ≤ i795_3.toInt := by rw [ka_le', show ((32 : Int32)).toInt = 32 from by decide] at c_800; exact c_800
        refine lv_iload_n hx hb dX4_slipsOf_25 rfl (lv_at hl 2 rfl) ?_
        exact ka_rRi C hr hlk ⟨_, rfl⟩ dX4_slipsOf_26
      · have c_800 : ¬ 32 ≤ i795_3.toInt := by rw [ka_le', show ((32 : Int32)).toInt = 32 from by decide] at c_800; exact c_800
        refine lv_iload_n hx hb dX4_slipsOf_10 rfl (lv_at hl 2 rfl) ?_
        refine lv_aload_n hx hb dX4_slipsOf_11 rfl (lv_at hl 0 rfl) ?_
        refine lv_iload_n hx hb dX4_slipsOf_12 rfl (lv_at hl 3 rfl) ?_
        refine lv_iload_n hx hb dX4_slipsOf_13 rfl (lv_at hl 1 rfl) ?_
        refine ka_RV (n := 2) C (cg_X4_wrongOf_14 l D F a0 i795_3 x0 a1 a2 a3 x1 x2 x3 x4 x5 x6 k0 f0 k1 f1 ⟨by omega, by omega⟩ ⟨by omega, by omega⟩) gX4_slipsOf_X4_wrongOf rfl (by decide +kernel) ⟨Nat.le_of_ble_eq_true rfl, Nat.le_of_ble_eq_true rfl⟩ hK hP hS hE hN [0, 1, 2] rfl [0, 1] rfl (ci := 4) rfl rfl 0 rfl rfl hl.1 (rest := [.int i795_2]) rfl (Nat.le_of_ble_eq_true rfl) dX4_slipsOf_14 ⟨Nat.le_of_ble_eq_true rfl, Nat.le_of_ble_eq_true rfl⟩ (fun v hv => ?_)
        obtain ⟨v_801, rfl⟩ := hv
        have rv_801 := ka_rng v_801
        refine ka_stk (w := [.int v_801, .int i795_2]) rfl ?_
        refine lv_iadd hx hb dX4_slipsOf_17 ?_
        refine lv_topi (fun v_802 ev_802 => ?_)
        refine lv_istore_n (lv' := [(2, .int v_802), (0, .ref a0), (1, .int x0), (3, .int i795_3)]) hx hb dX4_slipsOf_18 rfl hl (by decide) rfl (fun ls hl => ?_)
        obtain ⟨v_803, ev_803⟩ : ∃ y : Int32, y = i795_3 + 1 := ⟨_, rfl⟩
        refine lv_iinc (v := v_803) (lv' := [(3, .int v_803), (2, .int v_802), (0, .ref a0), (1, .int x0)]) hx hb dX4_slipsOf_19 hl (k := 3) rfl (by rw [ev_803]; rfl) (by decide) rfl (fun ls hl => ?_)
        have fv_803 : v_803.toInt = i795_3.toInt + 1 := by rw [ev_803]; exact ka_add (x := i795_3.toInt) (y := 1) rfl (by decide) (by omega) (by omega)
        refine lv_goto (tgt := 4) hx hb dX4_slipsOf_22 (by decide) ?_
        exact ih_795 v_802 v_803 ⟨by omega, by omega⟩ (by omega) ls (lv_sub hl [2, 3, 1, 0] rfl)
  exact lp_795 _ 0 0 ⟨by decide, by decide⟩ (Nat.lt_succ_self _) ls (lv_sub hl [2, 3, 1, 0] rfl)
theorem lq_39 : ∀ w ∈ wsX40, w ∈ wsX4_addSaid := by decide +kernel
theorem lq_40 : Cond.fieldLink RX4 21 "AskedBack$Talk" "saidCount" "I" ∈ wsX4_addSaid := by decide +kernel
theorem lq_41 : Cond.fieldLink RX4 18 "AskedBack$Talk" "said" "[I" ∈ wsX4_addSaid := by decide +kernel
set_option maxHeartbeats 4000000 in
set_option maxRecDepth 100000 in
theorem cg_X4_addSaid_16 (l : Launch) (D : va_G) (F : Nat → Prop) (a0 : Nat) (x0 : Int32) (a1 : Nat) (a2 : Nat) (a3 : Nat) (x1 : Int32) (x2 : Int32) (x3 : Int32) (x4 : Int32) (x5 : Int32) (x6 : Int32) (k0 : ClassId) (f0 : Nat → Int32) (hx1 : 0 ≤ x1.toInt ∧ x1.toInt ≤ 10) : ka_E l D F yX4_addSaid wsX4_addSaid 0 0 0 0 [.ref a0, .int x0] [(a0, .inr (4, [.ref a1, .ref a2, .ref a3, .int x1, .int x2, .int x3, .int x4, .int x5, .int x6])), (a3, .inl (k0, 10, .inl f0))] [(k0, .int)] (fun (u : (Int32) × (Nat → Int32) × (Int32)) => some (.int (u.2.2))) (fun (u : (Int32) × (Nat → Int32) × (Int32)) => (0 ≤ (u.1).toInt ∧ (u.1).toInt ≤ 10) ∧ (-1 ≤ (u.2.2).toInt ∧ (u.2.2).toInt ≤ 9)) (fun (u : (Int32) × (Nat → Int32) × (Int32)) => [(a0, .inr (4, [.ref a1, .ref a2, .ref a3, .int (u.1), .int x2, .int x3, .int x4, .int x5, .int x6])), (a3, .inl (k0, 10, .inl (u.2.1)))]) (fun (u : (Int32) × (Nat → Int32) × (Int32)) => []) := by
  refine ka_E_of (cc := cX4_addSaid) (maxL := 3) (ret := (some .int)) (by decide) rfl (Nat.le_of_ble_eq_true rfl) ?_
  intro p e s m below meth c ls A C hr hlk hin hP hK hD hS hA hE hN hl
  have C : CallFix p m c cX4_addSaid 3 s [.ref a0, .int x0].toArray wsX4_addSaid RX4 := C
  obtain ⟨hx, hb, hml, hown, hts⟩ := id C
  have hl : lv_has ls 3 [(0, .ref a0), (1, .int x0)] := hl
  have rx0 := ka_rng x0
  have rx1 := ka_rng x1
  have rx2 := ka_rng x2
  have rx3 := ka_rng x3
  have rx4 := ka_rng x4
  have rx5 := ka_rng x5
  have rx6 := ka_rng x6
  refine lv_aload_n hx hb dX4_addSaid_0 rfl (lv_at hl 0 rfl) ?_
  refine ka_get C lq_39 rfl hK hP 0 rfl 3 (by decide) lq_40 rfl dX4_addSaid_1 ?_
  refine lv_istore_n (lv' := [(2, .int x1), (0, .ref a0), (1, .int x0)]) hx hb dX4_addSaid_4 rfl hl (by decide) rfl (fun ls hl => ?_)
  refine lv_iload_n hx hb dX4_addSaid_5 rfl (lv_at hl 0 rfl) ?_
  refine lv_if_lt (tgt := 18) hx hb dX4_addSaid_6 (by decide) (fun c_ => absurd c_ (by rw [ka_lt', show ((0 : Int32)).toInt = 0 from by decide]; omega)) (fun _ => ?_)
  refine lv_iload_n hx hb dX4_addSaid_9 rfl (lv_at hl 0 rfl) ?_
  refine lv_aload_n hx hb dX4_addSaid_10 rfl (lv_at hl 1 rfl) ?_
  refine ka_get C lq_39 rfl hK hP 0 rfl 2 (by decide) lq_41 rfl dX4_addSaid_11 ?_
  refine va_alen hx hb hK hP 1 0 rfl (ty := .int) rfl (v := 10) rfl dX4_addSaid_14 ?_
  refine lv_icmp_lt (tgt := 20) hx hb dX4_addSaid_15 (by decide) (fun c_847 => ?_) (fun c_847 => ?_)
  · have c_847 : x1.toInt < 10 := by rw [ka_lt', show ((10 : Int32)).toInt = 10 from by decide] at c_847; exact c_847
    refine lv_aload_n hx hb dX4_addSaid_20 rfl (lv_at hl 1 rfl) ?_
    refine ka_get C lq_39 rfl hK hP 0 rfl 2 (by decide) lq_41 rfl dX4_addSaid_21 ?_
    refine lv_iload_n hx hb dX4_addSaid_24 rfl (lv_at hl 0 rfl) ?_
    refine lv_iload_n hx hb dX4_addSaid_25 rfl (lv_at hl 2 rfl) ?_
    refine va_iast hx hb hK hP hD hS 1 0 rfl rfl (ka_in (by omega) (by omega)) dX4_addSaid_26 (fun H locs hP hD hS => ?_)
    have hP : va_P D vwCl [(a0, .inr (4, [.ref a1, .ref a2, .ref a3, .int x1, .int x2, .int x3, .int x4, .int x5, .int x6])), (a3, .inl (k0, 10, .inl (upd f0 (Int32.toNatClampNeg x1) x0)))] H := hP
    have hD : va_D A [(a0, .inr (4, [.ref a1, .ref a2, .ref a3, .int x1, .int x2, .int x3, .int x4, .int x5, .int x6])), (a3, .inl (k0, 10, .inl (upd f0 (Int32.toNatClampNeg x1) x0)))] := hD
    generalize (upd f0 (Int32.toNatClampNeg x1) x0) = g_848 at hP hD
    refine lv_aload_n hx hb dX4_addSaid_27 rfl (lv_at hl 1 rfl) ?_
    refine lv_dup hx hb dX4_addSaid_28 rfl ?_
    refine ka_get C lq_39 rfl hK hP 0 rfl 3 (by decide) lq_40 rfl dX4_addSaid_29 ?_
    refine lv_iconst (v := 1) hx hb dX4_addSaid_32 (by decide) ?_
    refine lv_iadd hx hb dX4_addSaid_33 ?_
    refine lv_topi (fun v_849 ev_849 => ?_)
    have fv_849 : v_849.toInt = x1.toInt + 1 := by rw [ev_849]; exact ka_add (x := x1.toInt) (y := 1) rfl (by decide) (by omega) (by omega)
    refine ka_put C lq_39 tyX4 tyX4_ok nmX4 rfl hK hP hD hS 0 rfl 3 (by decide) lq_40 rfl rfl rfl (Nat.le_of_ble_eq_true rfl) dX4_addSaid_34 (fun H locs hP hD hS => ?_)
    have hP : va_P D vwCl [(a0, .inr (4, [.ref a1, .ref a2, .ref a3, .int v_849, .int x2, .int x3, .int x4, .int x5, .int x6])), (a3, .inl (k0, 10, .inl g_848))] H := hP
    have hD : va_D A [(a0, .inr (4, [.ref a1, .ref a2, .ref a3, .int v_849, .int x2, .int x3, .int x4, .int x5, .int x6])), (a3, .inl (k0, 10, .inl g_848))] := hD
    refine lv_iload_n hx hb dX4_addSaid_37 rfl (lv_at hl 0 rfl) ?_
    exact ka_rEi C hr hlk (Nat.le_of_ble_eq_true rfl) (Nat.le_of_ble_eq_true rfl) hS (ka_qE (v_849, g_848, x1) rfl ⟨(show 0 ≤ v_849.toInt ∧ v_849.toInt ≤ 10 from ⟨by omega, by omega⟩), (show -1 ≤ x1.toInt ∧ x1.toInt ≤ 9 from ⟨by omega, by omega⟩)⟩ hK hP hD hS [0, 1] (by decide) rfl [] rfl) dX4_addSaid_38
  · have c_847 : ¬ x1.toInt < 10 := by rw [ka_lt', show ((10 : Int32)).toInt = 10 from by decide] at c_847; exact c_847
    refine lv_iconst (v := (-1)) hx hb dX4_addSaid_18 (by decide) ?_
    exact ka_rEi C hr hlk (Nat.le_of_ble_eq_true rfl) (Nat.le_of_ble_eq_true rfl) hS (ka_qE (x1, f0, (-1)) rfl ⟨(show 0 ≤ x1.toInt ∧ x1.toInt ≤ 10 from ⟨by omega, by omega⟩), (show -1 ≤ ((-1 : Int32)).toInt ∧ ((-1 : Int32)).toInt ≤ 9 from ⟨by decide, by decide⟩)⟩ hK hP hD hS [0, 1] (by decide) rfl [] rfl) dX4_addSaid_19
theorem lq_42 : Cond.initialized RX6 ∈ wsX4_addAnswer := by decide +kernel
theorem lq_43 : Cond.static yX6_isCase ∈ wsX4_addAnswer := by decide +kernel
theorem lq_44 : ∀ w ∈ wsX40, w ∈ wsX4_addAnswer := by decide +kernel
theorem lq_45 : Cond.fieldLink RX4 25 "AskedBack$Talk" "asked" "I" ∈ wsX4_addAnswer := by decide +kernel
theorem lq_46 : Cond.static yX6_bitAt ∈ wsX4_addAnswer := by decide +kernel
theorem lq_47 : Cond.fieldLink RX4 9 "AskedBack$Talk" "zeros" "[I" ∈ wsX4_addAnswer := by decide +kernel
theorem lq_48 : Cond.fieldLink RX4 28 "AskedBack$Talk" "latestOnes" "I" ∈ wsX4_addAnswer := by decide +kernel
theorem lq_49 : Cond.fieldLink RX4 31 "AskedBack$Talk" "answers" "I" ∈ wsX4_addAnswer := by decide +kernel
theorem lq_50 : Cond.fieldLink RX4 34 "AskedBack$Talk" "rightAnswers" "I" ∈ wsX4_addAnswer := by decide +kernel
theorem lq_51 : Cond.fieldLink RX4 37 "AskedBack$Talk" "freshRun" "I" ∈ wsX4_addAnswer := by decide +kernel
theorem lq_52 : Cond.fieldLink RX4 15 "AskedBack$Talk" "ones" "[I" ∈ wsX4_addAnswer := by decide +kernel
set_option maxHeartbeats 4000000 in
set_option maxRecDepth 100000 in
theorem cg_X4_addAnswer_17 (l : Launch) (D : va_G) (F : Nat → Prop) (a0 : Nat) (x0 : Int32) (x1 : Int32) (x2 : Int32) (a1 : Nat) (a2 : Nat) (a3 : Nat) (x3 : Int32) (x4 : Int32) (x5 : Int32) (x6 : Int32) (x7 : Int32) (x8 : Int32) (k0 : ClassId) (f0 : Nat → Int32) (k1 : ClassId) (f1 : Nat → Int32) (hx2 : 0 ≤ x2.toInt ∧ x2.toInt ≤ 1) (hx3 : 0 ≤ x3.toInt ∧ x3.toInt ≤ 10) : ka_E l D F yX4_addAnswer wsX4_addAnswer 1 21 0 0 [.ref a0, .int x0, .int x1, .int x2] [(a0, .inr (4, [.ref a1, .ref a2, .ref a3, .int x3, .int x4, .int x5, .int x6, .int x7, .int x8])), (a1, .inl (k0, 32, .inl f0)), (a2, .inl (k1, 32, .inl f1))] [(k0, .int), (k1, .int)] (fun (u : (Int32) × (Int32) × (Int32) × (Int32) × (Int32) × (Nat → Int32) × (Nat → Int32)) => none) (fun (u : (Int32) × (Int32) × (Int32) × (Int32) × (Int32) × (Nat → Int32) × (Nat → Int32)) => True) (fun (u : (Int32) × (Int32) × (Int32) × (Int32) × (Int32) × (Nat → Int32) × (Nat → Int32)) => [(a0, .inr (4, [.ref a1, .ref a2, .ref a3, .int x3, .int (u.1), .int (u.2.1), .int (u.2.2.1), .int (u.2.2.2.1), .int (u.2.2.2.2.1)])), (a1, .inl (k0, 32, .inl (u.2.2.2.2.2.1))), (a2, .inl (k1, 32, .inl (u.2.2.2.2.2.2)))]) (fun (u : (Int32) × (Int32) × (Int32) × (Int32) × (Int32) × (Nat → Int32) × (Nat → Int32)) => []) := by
  refine ka_E_of (cc := cX4_addAnswer) (maxL := 6) (ret := none) (by decide) rfl (Nat.le_of_ble_eq_true rfl) ?_
  intro p e s m below meth c ls A C hr hlk hin hP hK hD hS hA hE hN hl
  have C : CallFix p m c cX4_addAnswer 6 s [.ref a0, .int x0, .int x1, .int x2].toArray wsX4_addAnswer RX4 := C
  obtain ⟨hx, hb, hml, hown, hts⟩ := id C
  have hl : lv_has ls 6 [(0, .ref a0), (1, .int x0), (2, .int x1), (3, .int x2)] := hl
  have rx0 := ka_rng x0
  have rx1 := ka_rng x1
  have rx2 := ka_rng x2
  have rx3 := ka_rng x3
  have rx4 := ka_rng x4
  have rx5 := ka_rng x5
  have rx6 := ka_rng x6
  have rx7 := ka_rng x7
  have rx8 := ka_rng x8
  rcases (show x0.toInt ≤ -1 ∨ (0 ≤ x0.toInt ∧ x0.toInt ≤ 31) ∨ 32 ≤ x0.toInt by omega) with y_975 | y_975 | y_975
  · skip
    refine lv_iload_n hx hb dX4_addAnswer_0 rfl (lv_at hl 1 rfl) ?_
    refine ka_RN (n := 1) C (cg_X6_isCase_5 l D F x0 (by omega)) gX4_addAnswer_X6_isCase_n46 rfl hN.2.2.2.2.2.1 lq_42 lq_43 (by decide +kernel) ⟨Nat.le_of_ble_eq_true rfl, Nat.le_of_ble_eq_true rfl⟩ hK hP hS hE hN [] rfl [] rfl rfl hl.1 (rest := []) rfl (Nat.le_of_ble_eq_true rfl) dX4_addAnswer_1 ⟨Nat.le_of_ble_eq_true rfl, Nat.le_of_ble_eq_true rfl⟩ (fun v hv => ?_)
    subst hv
    refine ka_stk (w := [.int 0]) rfl ?_
    refine lv_if_ne (tgt := 8) hx hb dX4_addAnswer_4 (by decide) (fun c_ => absurd (by decide) c_) (fun _ => ?_)
    exact ka_rEv C hr hlk (Nat.le_of_ble_eq_true rfl) (Nat.le_of_ble_eq_true rfl) hS (ka_qE (x4, x5, x6, x7, x8, f0, f1) rfl trivial hK hP hD hS [0, 1, 2] (by decide) rfl [] rfl) dX4_addAnswer_7
  · skip
    refine lv_iload_n hx hb dX4_addAnswer_0 rfl (lv_at hl 1 rfl) ?_
    refine ka_RN (n := 1) C (cg_X6_isCase_6 l D F x0 ⟨by omega, by omega⟩) gX4_addAnswer_X6_isCase_n46 rfl hN.2.2.2.2.2.1 lq_42 lq_43 (by decide +kernel) ⟨Nat.le_of_ble_eq_true rfl, Nat.le_of_ble_eq_true rfl⟩ hK hP hS hE hN [] rfl [] rfl rfl hl.1 (rest := []) rfl (Nat.le_of_ble_eq_true rfl) dX4_addAnswer_1 ⟨Nat.le_of_ble_eq_true rfl, Nat.le_of_ble_eq_true rfl⟩ (fun v hv => ?_)
    subst hv
    refine ka_stk (w := [.int 1]) rfl ?_
    refine lv_if_ne (tgt := 8) hx hb dX4_addAnswer_4 (by decide) (fun _ => ?_) (fun c_ => absurd c_ (by decide))
    refine lv_aload_n hx hb dX4_addAnswer_8 rfl (lv_at hl 0 rfl) ?_
    refine ka_get C lq_44 rfl hK hP 0 rfl 4 (by decide) lq_45 rfl dX4_addAnswer_9 ?_
    refine lv_iload_n hx hb dX4_addAnswer_12 rfl (lv_at hl 1 rfl) ?_
    refine ka_RN (n := 2) C (ka_c_bitAt l D F x4 x0) gX4_addAnswer_X6_bitAt_n50 rfl hN.2.2.2.2.2.2.1 lq_42 lq_46 (by decide +kernel) ⟨Nat.le_of_ble_eq_true rfl, Nat.le_of_ble_eq_true rfl⟩ hK hP hS hE hN [] rfl [] rfl rfl hl.1 (rest := []) rfl (Nat.le_of_ble_eq_true rfl) dX4_addAnswer_13 ⟨Nat.le_of_ble_eq_true rfl, Nat.le_of_ble_eq_true rfl⟩ (fun v hv => ?_)
    subst hv
    refine ka_stk (w := .int (ka_bit x4 x0) :: []) rfl ?_
    refine lv_topi (fun v_976 ev_976 => ?_)
    have fv_976 := ka_bit_in x4 x0; rw [← ev_976] at fv_976
    refine lv_if_ne (tgt := 23) hx hb dX4_addAnswer_16 (by decide) (fun c_977 => ?_) (fun c_977 => ?_)
    · have c_977 : ¬ v_976.toInt = 0 := by rw [ka_eq', show ((0 : Int32)).toInt = 0 from by decide] at c_977; exact c_977
      refine lv_iconst (v := 0) hx hb dX4_addAnswer_23 (by decide) ?_
      refine lv_istore (lv' := [(4, .int 0), (0, .ref a0), (1, .int x0), (2, .int x1), (3, .int x2)]) hx hb dX4_addAnswer_24 hl (by decide) rfl (fun ls hl => ?_)
      refine lv_iconst (v := 1) hx hb dX4_addAnswer_26 (by decide) ?_
      refine lv_iload_n hx hb dX4_addAnswer_27 rfl (lv_at hl 2 rfl) ?_
      refine lv_ishl hx hb dX4_addAnswer_28 ?_
      refine lv_topi (fun v_978 ev_978 => ?_)
      refine lv_istore (lv' := [(5, .int v_978), (4, .int 0), (0, .ref a0), (1, .int x0), (2, .int x1), (3, .int x2)]) hx hb dX4_addAnswer_29 hl (by decide) rfl (fun ls hl => ?_)
      refine lv_aload_n hx hb dX4_addAnswer_31 rfl (lv_at hl 2 rfl) ?_
      refine lv_dup hx hb dX4_addAnswer_32 rfl ?_
      refine ka_get C lq_44 rfl hK hP 0 rfl 4 (by decide) lq_45 rfl dX4_addAnswer_33 ?_
      refine lv_iload hx hb dX4_addAnswer_36 (lv_at hl 0 rfl) ?_
      refine lv_ior hx hb dX4_addAnswer_38 ?_
      refine lv_topi (fun v_979 ev_979 => ?_)
      refine ka_put C lq_44 tyX4 tyX4_ok nmX4 rfl hK hP hD hS 0 rfl 4 (by decide) lq_45 rfl rfl rfl (Nat.le_of_ble_eq_true rfl) dX4_addAnswer_39 (fun H locs hP hD hS => ?_)
      have hP : va_P D vwCl [(a0, .inr (4, [.ref a1, .ref a2, .ref a3, .int x3, .int v_979, .int x5, .int x6, .int x7, .int x8])), (a1, .inl (k0, 32, .inl f0)), (a2, .inl (k1, 32, .inl f1))] H := hP
      have hD : va_D A [(a0, .inr (4, [.ref a1, .ref a2, .ref a3, .int x3, .int v_979, .int x5, .int x6, .int x7, .int x8])), (a1, .inl (k0, 32, .inl f0)), (a2, .inl (k1, 32, .inl f1))] := hD
      refine lv_iload_n hx hb dX4_addAnswer_42 rfl (lv_at hl 4 rfl) ?_
      refine lv_iconst (v := 1) hx hb dX4_addAnswer_43 (by decide) ?_
      refine lv_icmp_ne (tgt := 71) hx hb dX4_addAnswer_44 (by decide) (fun c_980 => ?_) (fun c_980 => ?_)
      · have c_980 : ¬ x1.toInt = 1 := by rw [ka_eq', show ((1 : Int32)).toInt = 1 from by decide] at c_980; exact c_980
        refine lv_aload_n hx hb dX4_addAnswer_71 rfl (lv_at hl 2 rfl) ?_
        refine ka_get C lq_44 rfl hK hP 0 rfl 0 (by decide) lq_47 rfl dX4_addAnswer_72 ?_
        refine lv_iload_n hx hb dX4_addAnswer_75 rfl (lv_at hl 3 rfl) ?_
        refine lv_dup2_11 hx hb dX4_addAnswer_76 rfl rfl ?_
        refine va_iald hx hb hK hP 1 0 rfl rfl (ka_in (by omega) (by omega)) dX4_addAnswer_77 ?_
        refine lv_topi (fun v_981 ev_981 => ?_)
        refine lv_iconst (v := 1) hx hb dX4_addAnswer_78 (by decide) ?_
        refine lv_iadd hx hb dX4_addAnswer_79 ?_
        refine lv_topi (fun v_982 ev_982 => ?_)
        refine va_iast hx hb hK hP hD hS 1 0 rfl rfl (ka_in (by omega) (by omega)) dX4_addAnswer_80 (fun H locs hP hD hS => ?_)
        have hP : va_P D vwCl [(a0, .inr (4, [.ref a1, .ref a2, .ref a3, .int x3, .int v_979, .int x5, .int x6, .int x7, .int x8])), (a1, .inl (k0, 32, .inl (upd f0 (Int32.toNatClampNeg x0) v_982))), (a2, .inl (k1, 32, .inl f1))] H := hP
        have hD : va_D A [(a0, .inr (4, [.ref a1, .ref a2, .ref a3, .int x3, .int v_979, .int x5, .int x6, .int x7, .int x8])), (a1, .inl (k0, 32, .inl (upd f0 (Int32.toNatClampNeg x0) v_982))), (a2, .inl (k1, 32, .inl f1))] := hD
        generalize (upd f0 (Int32.toNatClampNeg x0) v_982) = g_983 at hP hD
        refine lv_aload_n hx hb dX4_addAnswer_81 rfl (lv_at hl 2 rfl) ?_
        refine lv_dup hx hb dX4_addAnswer_82 rfl ?_
        refine ka_get C lq_44 rfl hK hP 0 rfl 5 (by decide) lq_48 rfl dX4_addAnswer_83 ?_
        refine lv_iload hx hb dX4_addAnswer_86 (lv_at hl 0 rfl) ?_
        refine lv_iconst (v := (-1)) hx hb dX4_addAnswer_88 (by decide) ?_
        refine lv_ixor hx hb dX4_addAnswer_89 ?_
        refine lv_topi (fun v_984 ev_984 => ?_)
        refine lv_iand hx hb dX4_addAnswer_90 ?_
        refine lv_topi (fun v_985 ev_985 => ?_)
        refine ka_put C lq_44 tyX4 tyX4_ok nmX4 rfl hK hP hD hS 0 rfl 5 (by decide) lq_48 rfl rfl rfl (Nat.le_of_ble_eq_true rfl) dX4_addAnswer_91 (fun H locs hP hD hS => ?_)
        have hP : va_P D vwCl [(a0, .inr (4, [.ref a1, .ref a2, .ref a3, .int x3, .int v_979, .int v_985, .int x6, .int x7, .int x8])), (a1, .inl (k0, 32, .inl g_983)), (a2, .inl (k1, 32, .inl f1))] H := hP
        have hD : va_D A [(a0, .inr (4, [.ref a1, .ref a2, .ref a3, .int x3, .int v_979, .int v_985, .int x6, .int x7, .int x8])), (a1, .inl (k0, 32, .inl g_983)), (a2, .inl (k1, 32, .inl f1))] := hD
        refine lv_aload_n hx hb dX4_addAnswer_94 rfl (lv_at hl 2 rfl) ?_
        refine lv_dup hx hb dX4_addAnswer_95 rfl ?_
        refine ka_get C lq_44 rfl hK hP 0 rfl 6 (by decide) lq_49 rfl dX4_addAnswer_96 ?_
        refine lv_iconst (v := 1) hx hb dX4_addAnswer_99 (by decide) ?_
        refine lv_iadd hx hb dX4_addAnswer_100 ?_
        refine lv_topi (fun v_986 ev_986 => ?_)
        refine ka_put C lq_44 tyX4 tyX4_ok nmX4 rfl hK hP hD hS 0 rfl 6 (by decide) lq_49 rfl rfl rfl (Nat.le_of_ble_eq_true rfl) dX4_addAnswer_101 (fun H locs hP hD hS => ?_)
        have hP : va_P D vwCl [(a0, .inr (4, [.ref a1, .ref a2, .ref a3, .int x3, .int v_979, .int v_985, .int v_986, .int x7, .int x8])), (a1, .inl (k0, 32, .inl g_983)), (a2, .inl (k1, 32, .inl f1))] H := hP
        have hD : va_D A [(a0, .inr (4, [.ref a1, .ref a2, .ref a3, .int x3, .int v_979, .int v_985, .int v_986, .int x7, .int x8])), (a1, .inl (k0, 32, .inl g_983)), (a2, .inl (k1, 32, .inl f1))] := hD
        refine lv_aload_n hx hb dX4_addAnswer_104 rfl (lv_at hl 2 rfl) ?_
        refine lv_dup hx hb dX4_addAnswer_105 rfl ?_
        refine ka_get C lq_44 rfl hK hP 0 rfl 7 (by decide) lq_50 rfl dX4_addAnswer_106 ?_
        refine lv_iload_n hx hb dX4_addAnswer_109 rfl (lv_at hl 5 rfl) ?_
        refine lv_if_eq (tgt := 117) hx hb dX4_addAnswer_110 (by decide) (fun c_987 => ?_) (fun c_987 => ?_)
        · have c_987 : x2.toInt = 0 := by rw [ka_eq', show ((0 : Int32)).toInt = 0 from by decide] at c_987; exact c_987
          refine lv_iconst (v := 0) hx hb dX4_addAnswer_117 (by decide) ?_
          refine lv_iadd hx hb dX4_addAnswer_118 ?_
          refine lv_topi (fun v_988 ev_988 => ?_)
          have fv_988 : v_988.toInt = x7.toInt + 0 := by rw [ev_988]; exact ka_add (x := x7.toInt) (y := 0) rfl (by decide) (by omega) (by omega)
          refine ka_put C lq_44 tyX4 tyX4_ok nmX4 rfl hK hP hD hS 0 rfl 7 (by decide) lq_50 rfl rfl rfl (Nat.le_of_ble_eq_true rfl) dX4_addAnswer_119 (fun H locs hP hD hS => ?_)
          have hP : va_P D vwCl [(a0, .inr (4, [.ref a1, .ref a2, .ref a3, .int x3, .int v_979, .int v_985, .int v_986, .int v_988, .int x8])), (a1, .inl (k0, 32, .inl g_983)), (a2, .inl (k1, 32, .inl f1))] H := hP
          have hD : va_D A [(a0, .inr (4, [.ref a1, .ref a2, .ref a3, .int x3, .int v_979, .int v_985, .int v_986, .int v_988, .int x8])), (a1, .inl (k0, 32, .inl g_983)), (a2, .inl (k1, 32, .inl f1))] := hD
          refine lv_aload_n hx hb dX4_addAnswer_122 rfl (lv_at hl 2 rfl) ?_
          refine lv_iload_n hx hb dX4_addAnswer_123 rfl (lv_at hl 5 rfl) ?_
          refine lv_if_eq (tgt := 141) hx hb dX4_addAnswer_124 (by decide) (fun _ => ?_) (fun c_ => absurd (by rw [ka_eq', show ((0 : Int32)).toInt = 0 from by decide]; omega) c_)
          refine lv_iconst (v := 0) hx hb dX4_addAnswer_141 (by decide) ?_
          refine ka_put C lq_44 tyX4 tyX4_ok nmX4 rfl hK hP hD hS 0 rfl 8 (by decide) lq_51 rfl rfl rfl (Nat.le_of_ble_eq_true rfl) dX4_addAnswer_142 (fun H locs hP hD hS => ?_)
          have hP : va_P D vwCl [(a0, .inr (4, [.ref a1, .ref a2, .ref a3, .int x3, .int v_979, .int v_985, .int v_986, .int v_988, .int 0])), (a1, .inl (k0, 32, .inl g_983)), (a2, .inl (k1, 32, .inl f1))] H := hP
          have hD : va_D A [(a0, .inr (4, [.ref a1, .ref a2, .ref a3, .int x3, .int v_979, .int v_985, .int v_986, .int v_988, .int 0])), (a1, .inl (k0, 32, .inl g_983)), (a2, .inl (k1, 32, .inl f1))] := hD
          exact ka_rEv C hr hlk (Nat.le_of_ble_eq_true rfl) (Nat.le_of_ble_eq_true rfl) hS (ka_qE (v_979, v_985, v_986, v_988, 0, g_983, f1) rfl trivial hK hP hD hS [0, 1, 2] (by decide) rfl [] rfl) dX4_addAnswer_145
        · have c_987 : ¬ x2.toInt = 0 := by rw [ka_eq', show ((0 : Int32)).toInt = 0 from by decide] at c_987; exact c_987
          refine lv_iconst (v := 1) hx hb dX4_addAnswer_113 (by decide) ?_
          refine lv_goto (tgt := 118) hx hb dX4_addAnswer_114 (by decide) ?_
          refine lv_iadd hx hb dX4_addAnswer_118 ?_
          refine lv_topi (fun v_989 ev_989 => ?_)
          refine ka_put C lq_44 tyX4 tyX4_ok nmX4 rfl hK hP hD hS 0 rfl 7 (by decide) lq_50 rfl rfl rfl (Nat.le_of_ble_eq_true rfl) dX4_addAnswer_119 (fun H locs hP hD hS => ?_)
          have hP : va_P D vwCl [(a0, .inr (4, [.ref a1, .ref a2, .ref a3, .int x3, .int v_979, .int v_985, .int v_986, .int v_989, .int x8])), (a1, .inl (k0, 32, .inl g_983)), (a2, .inl (k1, 32, .inl f1))] H := hP
          have hD : va_D A [(a0, .inr (4, [.ref a1, .ref a2, .ref a3, .int x3, .int v_979, .int v_985, .int v_986, .int v_989, .int x8])), (a1, .inl (k0, 32, .inl g_983)), (a2, .inl (k1, 32, .inl f1))] := hD
          refine lv_aload_n hx hb dX4_addAnswer_122 rfl (lv_at hl 2 rfl) ?_
          refine lv_iload_n hx hb dX4_addAnswer_123 rfl (lv_at hl 5 rfl) ?_
          refine lv_if_eq (tgt := 141) hx hb dX4_addAnswer_124 (by decide) (fun c_ => absurd c_ (by rw [ka_eq', show ((0 : Int32)).toInt = 0 from by decide]; omega)) (fun _ => ?_)
          refine lv_iload hx hb dX4_addAnswer_127 (lv_at hl 1 rfl) ?_
          refine lv_if_eq (tgt := 141) hx hb dX4_addAnswer_129 (by decide) (fun _ => ?_) (fun c_ => absurd (by decide) c_)
          refine lv_iconst (v := 0) hx hb dX4_addAnswer_141 (by decide) ?_
          refine ka_put C lq_44 tyX4 tyX4_ok nmX4 rfl hK hP hD hS 0 rfl 8 (by decide) lq_51 rfl rfl rfl (Nat.le_of_ble_eq_true rfl) dX4_addAnswer_142 (fun H locs hP hD hS => ?_)
          have hP : va_P D vwCl [(a0, .inr (4, [.ref a1, .ref a2, .ref a3, .int x3, .int v_979, .int v_985, .int v_986, .int v_989, .int 0])), (a1, .inl (k0, 32, .inl g_983)), (a2, .inl (k1, 32, .inl f1))] H := hP
          have hD : va_D A [(a0, .inr (4, [.ref a1, .ref a2, .ref a3, .int x3, .int v_979, .int v_985, .int v_986, .int v_989, .int 0])), (a1, .inl (k0, 32, .inl g_983)), (a2, .inl (k1, 32, .inl f1))] := hD
          exact ka_rEv C hr hlk (Nat.le_of_ble_eq_true rfl) (Nat.le_of_ble_eq_true rfl) hS (ka_qE (v_979, v_985, v_986, v_989, 0, g_983, f1) rfl trivial hK hP hD hS [0, 1, 2] (by decide) rfl [] rfl) dX4_addAnswer_145
      · have c_980 : x1.toInt = 1 := by rw [ka_eq', show ((1 : Int32)).toInt = 1 from by decide] at c_980; exact c_980
        refine lv_aload_n hx hb dX4_addAnswer_47 rfl (lv_at hl 2 rfl) ?_
        refine ka_get C lq_44 rfl hK hP 0 rfl 1 (by decide) lq_52 rfl dX4_addAnswer_48 ?_
        refine lv_iload_n hx hb dX4_addAnswer_51 rfl (lv_at hl 3 rfl) ?_
        refine lv_dup2_11 hx hb dX4_addAnswer_52 rfl rfl ?_
        refine va_iald hx hb hK hP 2 1 rfl rfl (ka_in (by omega) (by omega)) dX4_addAnswer_53 ?_
        refine lv_topi (fun v_990 ev_990 => ?_)
        refine lv_iconst (v := 1) hx hb dX4_addAnswer_54 (by decide) ?_
        refine lv_iadd hx hb dX4_addAnswer_55 ?_
        refine lv_topi (fun v_991 ev_991 => ?_)
        refine va_iast hx hb hK hP hD hS 2 1 rfl rfl (ka_in (by omega) (by omega)) dX4_addAnswer_56 (fun H locs hP hD hS => ?_)
        have hP : va_P D vwCl [(a0, .inr (4, [.ref a1, .ref a2, .ref a3, .int x3, .int v_979, .int x5, .int x6, .int x7, .int x8])), (a1, .inl (k0, 32, .inl f0)), (a2, .inl (k1, 32, .inl (upd f1 (Int32.toNatClampNeg x0) v_991)))] H := hP
        have hD : va_D A [(a0, .inr (4, [.ref a1, .ref a2, .ref a3, .int x3, .int v_979, .int x5, .int x6, .int x7, .int x8])), (a1, .inl (k0, 32, .inl f0)), (a2, .inl (k1, 32, .inl (upd f1 (Int32.toNatClampNeg x0) v_991)))] := hD
        generalize (upd f1 (Int32.toNatClampNeg x0) v_991) = g_992 at hP hD
        refine lv_aload_n hx hb dX4_addAnswer_57 rfl (lv_at hl 2 rfl) ?_
        refine lv_dup hx hb dX4_addAnswer_58 rfl ?_
        refine ka_get C lq_44 rfl hK hP 0 rfl 5 (by decide) lq_48 rfl dX4_addAnswer_59 ?_
        refine lv_iload hx hb dX4_addAnswer_62 (lv_at hl 0 rfl) ?_
        refine lv_ior hx hb dX4_addAnswer_64 ?_
        refine lv_topi (fun v_993 ev_993 => ?_)
        refine ka_put C lq_44 tyX4 tyX4_ok nmX4 rfl hK hP hD hS 0 rfl 5 (by decide) lq_48 rfl rfl rfl (Nat.le_of_ble_eq_true rfl) dX4_addAnswer_65 (fun H locs hP hD hS => ?_)
        have hP : va_P D vwCl [(a0, .inr (4, [.ref a1, .ref a2, .ref a3, .int x3, .int v_979, .int v_993, .int x6, .int x7, .int x8])), (a1, .inl (k0, 32, .inl f0)), (a2, .inl (k1, 32, .inl g_992))] H := hP
        have hD : va_D A [(a0, .inr (4, [.ref a1, .ref a2, .ref a3, .int x3, .int v_979, .int v_993, .int x6, .int x7, .int x8])), (a1, .inl (k0, 32, .inl f0)), (a2, .inl (k1, 32, .inl g_992))] := hD
        refine lv_goto (tgt := 94) hx hb dX4_addAnswer_68 (by decide) ?_
        refine lv_aload_n hx hb dX4_addAnswer_94 rfl (lv_at hl 2 rfl) ?_
        refine lv_dup hx hb dX4_addAnswer_95 rfl ?_
        refine ka_get C lq_44 rfl hK hP 0 rfl 6 (by decide) lq_49 rfl dX4_addAnswer_96 ?_
        refine lv_iconst (v := 1) hx hb dX4_addAnswer_99 (by decide) ?_
        refine lv_iadd hx hb dX4_addAnswer_100 ?_
        refine lv_topi (fun v_994 ev_994 => ?_)
        refine ka_put C lq_44 tyX4 tyX4_ok nmX4 rfl hK hP hD hS 0 rfl 6 (by decide) lq_49 rfl rfl rfl (Nat.le_of_ble_eq_true rfl) dX4_addAnswer_101 (fun H locs hP hD hS => ?_)
        have hP : va_P D vwCl [(a0, .inr (4, [.ref a1, .ref a2, .ref a3, .int x3, .int v_979, .int v_993, .int v_994, .int x7, .int x8])), (a1, .inl (k0, 32, .inl f0)), (a2, .inl (k1, 32, .inl g_992))] H := hP
        have hD : va_D A [(a0, .inr (4, [.ref a1, .ref a2, .ref a3, .int x3, .int v_979, .int v_993, .int v_994, .int x7, .int x8])), (a1, .inl (k0, 32, .inl f0)), (a2, .inl (k1, 32, .inl g_992))] := hD
        refine lv_aload_n hx hb dX4_addAnswer_104 rfl (lv_at hl 2 rfl) ?_
        refine lv_dup hx hb dX4_addAnswer_105 rfl ?_
        refine ka_get C lq_44 rfl hK hP 0 rfl 7 (by decide) lq_50 rfl dX4_addAnswer_106 ?_
        refine lv_iload_n hx hb dX4_addAnswer_109 rfl (lv_at hl 5 rfl) ?_
        refine lv_if_eq (tgt := 117) hx hb dX4_addAnswer_110 (by decide) (fun c_995 => ?_) (fun c_995 => ?_)
        · have c_995 : x2.toInt = 0 := by rw [ka_eq', show ((0 : Int32)).toInt = 0 from by decide] at c_995; exact c_995
          refine lv_iconst (v := 0) hx hb dX4_addAnswer_117 (by decide) ?_
          refine lv_iadd hx hb dX4_addAnswer_118 ?_
          refine lv_topi (fun v_996 ev_996 => ?_)
          have fv_996 : v_996.toInt = x7.toInt + 0 := by rw [ev_996]; exact ka_add (x := x7.toInt) (y := 0) rfl (by decide) (by omega) (by omega)
          refine ka_put C lq_44 tyX4 tyX4_ok nmX4 rfl hK hP hD hS 0 rfl 7 (by decide) lq_50 rfl rfl rfl (Nat.le_of_ble_eq_true rfl) dX4_addAnswer_119 (fun H locs hP hD hS => ?_)
          have hP : va_P D vwCl [(a0, .inr (4, [.ref a1, .ref a2, .ref a3, .int x3, .int v_979, .int v_993, .int v_994, .int v_996, .int x8])), (a1, .inl (k0, 32, .inl f0)), (a2, .inl (k1, 32, .inl g_992))] H := hP
          have hD : va_D A [(a0, .inr (4, [.ref a1, .ref a2, .ref a3, .int x3, .int v_979, .int v_993, .int v_994, .int v_996, .int x8])), (a1, .inl (k0, 32, .inl f0)), (a2, .inl (k1, 32, .inl g_992))] := hD
          refine lv_aload_n hx hb dX4_addAnswer_122 rfl (lv_at hl 2 rfl) ?_
          refine lv_iload_n hx hb dX4_addAnswer_123 rfl (lv_at hl 5 rfl) ?_
          refine lv_if_eq (tgt := 141) hx hb dX4_addAnswer_124 (by decide) (fun _ => ?_) (fun c_ => absurd (by rw [ka_eq', show ((0 : Int32)).toInt = 0 from by decide]; omega) c_)
          refine lv_iconst (v := 0) hx hb dX4_addAnswer_141 (by decide) ?_
          refine ka_put C lq_44 tyX4 tyX4_ok nmX4 rfl hK hP hD hS 0 rfl 8 (by decide) lq_51 rfl rfl rfl (Nat.le_of_ble_eq_true rfl) dX4_addAnswer_142 (fun H locs hP hD hS => ?_)
          have hP : va_P D vwCl [(a0, .inr (4, [.ref a1, .ref a2, .ref a3, .int x3, .int v_979, .int v_993, .int v_994, .int v_996, .int 0])), (a1, .inl (k0, 32, .inl f0)), (a2, .inl (k1, 32, .inl g_992))] H := hP
          have hD : va_D A [(a0, .inr (4, [.ref a1, .ref a2, .ref a3, .int x3, .int v_979, .int v_993, .int v_994, .int v_996, .int 0])), (a1, .inl (k0, 32, .inl f0)), (a2, .inl (k1, 32, .inl g_992))] := hD
          exact ka_rEv C hr hlk (Nat.le_of_ble_eq_true rfl) (Nat.le_of_ble_eq_true rfl) hS (ka_qE (v_979, v_993, v_994, v_996, 0, f0, g_992) rfl trivial hK hP hD hS [0, 1, 2] (by decide) rfl [] rfl) dX4_addAnswer_145
        · have c_995 : ¬ x2.toInt = 0 := by rw [ka_eq', show ((0 : Int32)).toInt = 0 from by decide] at c_995; exact c_995
          refine lv_iconst (v := 1) hx hb dX4_addAnswer_113 (by decide) ?_
          refine lv_goto (tgt := 118) hx hb dX4_addAnswer_114 (by decide) ?_
          refine lv_iadd hx hb dX4_addAnswer_118 ?_
          refine lv_topi (fun v_997 ev_997 => ?_)
          refine ka_put C lq_44 tyX4 tyX4_ok nmX4 rfl hK hP hD hS 0 rfl 7 (by decide) lq_50 rfl rfl rfl (Nat.le_of_ble_eq_true rfl) dX4_addAnswer_119 (fun H locs hP hD hS => ?_)
          have hP : va_P D vwCl [(a0, .inr (4, [.ref a1, .ref a2, .ref a3, .int x3, .int v_979, .int v_993, .int v_994, .int v_997, .int x8])), (a1, .inl (k0, 32, .inl f0)), (a2, .inl (k1, 32, .inl g_992))] H := hP
          have hD : va_D A [(a0, .inr (4, [.ref a1, .ref a2, .ref a3, .int x3, .int v_979, .int v_993, .int v_994, .int v_997, .int x8])), (a1, .inl (k0, 32, .inl f0)), (a2, .inl (k1, 32, .inl g_992))] := hD
          refine lv_aload_n hx hb dX4_addAnswer_122 rfl (lv_at hl 2 rfl) ?_
          refine lv_iload_n hx hb dX4_addAnswer_123 rfl (lv_at hl 5 rfl) ?_
          refine lv_if_eq (tgt := 141) hx hb dX4_addAnswer_124 (by decide) (fun c_ => absurd c_ (by rw [ka_eq', show ((0 : Int32)).toInt = 0 from by decide]; omega)) (fun _ => ?_)
          refine lv_iload hx hb dX4_addAnswer_127 (lv_at hl 1 rfl) ?_
          refine lv_if_eq (tgt := 141) hx hb dX4_addAnswer_129 (by decide) (fun _ => ?_) (fun c_ => absurd (by decide) c_)
          refine lv_iconst (v := 0) hx hb dX4_addAnswer_141 (by decide) ?_
          refine ka_put C lq_44 tyX4 tyX4_ok nmX4 rfl hK hP hD hS 0 rfl 8 (by decide) lq_51 rfl rfl rfl (Nat.le_of_ble_eq_true rfl) dX4_addAnswer_142 (fun H locs hP hD hS => ?_)
          have hP : va_P D vwCl [(a0, .inr (4, [.ref a1, .ref a2, .ref a3, .int x3, .int v_979, .int v_993, .int v_994, .int v_997, .int 0])), (a1, .inl (k0, 32, .inl f0)), (a2, .inl (k1, 32, .inl g_992))] H := hP
          have hD : va_D A [(a0, .inr (4, [.ref a1, .ref a2, .ref a3, .int x3, .int v_979, .int v_993, .int v_994, .int v_997, .int 0])), (a1, .inl (k0, 32, .inl f0)), (a2, .inl (k1, 32, .inl g_992))] := hD
          exact ka_rEv C hr hlk (Nat.le_of_ble_eq_true rfl) (Nat.le_of_ble_eq_true rfl) hS (ka_qE (v_979, v_993, v_994, v_997, 0, f0, g_992) rfl trivial hK hP hD hS [0, 1, 2] (by decide) rfl [] rfl) dX4_addAnswer_145
    · have c_977 : v_976.toInt = 0 := by rw [ka_eq', show ((0 : Int32)).toInt = 0 from by decide] at c_977; exact c_977
      refine lv_iconst (v := 1) hx hb dX4_addAnswer_19 (by decide) ?_
      refine lv_goto (tgt := 24) hx hb dX4_addAnswer_20 (by decide) ?_
      refine lv_istore (lv' := [(4, .int 1), (0, .ref a0), (1, .int x0), (2, .int x1), (3, .int x2)]) hx hb dX4_addAnswer_24 hl (by decide) rfl (fun ls hl => ?_)
      refine lv_iconst (v := 1) hx hb dX4_addAnswer_26 (by decide) ?_
      refine lv_iload_n hx hb dX4_addAnswer_27 rfl (lv_at hl 2 rfl) ?_
      refine lv_ishl hx hb dX4_addAnswer_28 ?_
      refine lv_topi (fun v_998 ev_998 => ?_)
      refine lv_istore (lv' := [(5, .int v_998), (4, .int 1), (0, .ref a0), (1, .int x0), (2, .int x1), (3, .int x2)]) hx hb dX4_addAnswer_29 hl (by decide) rfl (fun ls hl => ?_)
      refine lv_aload_n hx hb dX4_addAnswer_31 rfl (lv_at hl 2 rfl) ?_
      refine lv_dup hx hb dX4_addAnswer_32 rfl ?_
      refine ka_get C lq_44 rfl hK hP 0 rfl 4 (by decide) lq_45 rfl dX4_addAnswer_33 ?_
      refine lv_iload hx hb dX4_addAnswer_36 (lv_at hl 0 rfl) ?_
      refine lv_ior hx hb dX4_addAnswer_38 ?_
      refine lv_topi (fun v_999 ev_999 => ?_)
      refine ka_put C lq_44 tyX4 tyX4_ok nmX4 rfl hK hP hD hS 0 rfl 4 (by decide) lq_45 rfl rfl rfl (Nat.le_of_ble_eq_true rfl) dX4_addAnswer_39 (fun H locs hP hD hS => ?_)
      have hP : va_P D vwCl [(a0, .inr (4, [.ref a1, .ref a2, .ref a3, .int x3, .int v_999, .int x5, .int x6, .int x7, .int x8])), (a1, .inl (k0, 32, .inl f0)), (a2, .inl (k1, 32, .inl f1))] H := hP
      have hD : va_D A [(a0, .inr (4, [.ref a1, .ref a2, .ref a3, .int x3, .int v_999, .int x5, .int x6, .int x7, .int x8])), (a1, .inl (k0, 32, .inl f0)), (a2, .inl (k1, 32, .inl f1))] := hD
      refine lv_iload_n hx hb dX4_addAnswer_42 rfl (lv_at hl 4 rfl) ?_
      refine lv_iconst (v := 1) hx hb dX4_addAnswer_43 (by decide) ?_
      refine lv_icmp_ne (tgt := 71) hx hb dX4_addAnswer_44 (by decide) (fun c_1000 => ?_) (fun c_1000 => ?_)
      · have c_1000 : ¬ x1.toInt = 1 := by rw [ka_eq', show ((1 : Int32)).toInt = 1 from by decide] at c_1000; exact c_1000
        refine lv_aload_n hx hb dX4_addAnswer_71 rfl (lv_at hl 2 rfl) ?_
        refine ka_get C lq_44 rfl hK hP 0 rfl 0 (by decide) lq_47 rfl dX4_addAnswer_72 ?_
        refine lv_iload_n hx hb dX4_addAnswer_75 rfl (lv_at hl 3 rfl) ?_
        refine lv_dup2_11 hx hb dX4_addAnswer_76 rfl rfl ?_
        refine va_iald hx hb hK hP 1 0 rfl rfl (ka_in (by omega) (by omega)) dX4_addAnswer_77 ?_
        refine lv_topi (fun v_1001 ev_1001 => ?_)
        refine lv_iconst (v := 1) hx hb dX4_addAnswer_78 (by decide) ?_
        refine lv_iadd hx hb dX4_addAnswer_79 ?_
        refine lv_topi (fun v_1002 ev_1002 => ?_)
        refine va_iast hx hb hK hP hD hS 1 0 rfl rfl (ka_in (by omega) (by omega)) dX4_addAnswer_80 (fun H locs hP hD hS => ?_)
        have hP : va_P D vwCl [(a0, .inr (4, [.ref a1, .ref a2, .ref a3, .int x3, .int v_999, .int x5, .int x6, .int x7, .int x8])), (a1, .inl (k0, 32, .inl (upd f0 (Int32.toNatClampNeg x0) v_1002))), (a2, .inl (k1, 32, .inl f1))] H := hP
        have hD : va_D A [(a0, .inr (4, [.ref a1, .ref a2, .ref a3, .int x3, .int v_999, .int x5, .int x6, .int x7, .int x8])), (a1, .inl (k0, 32, .inl (upd f0 (Int32.toNatClampNeg x0) v_1002))), (a2, .inl (k1, 32, .inl f1))] := hD
        generalize (upd f0 (Int32.toNatClampNeg x0) v_1002) = g_1003 at hP hD
        refine lv_aload_n hx hb dX4_addAnswer_81 rfl (lv_at hl 2 rfl) ?_
        refine lv_dup hx hb dX4_addAnswer_82 rfl ?_
        refine ka_get C lq_44 rfl hK hP 0 rfl 5 (by decide) lq_48 rfl dX4_addAnswer_83 ?_
        refine lv_iload hx hb dX4_addAnswer_86 (lv_at hl 0 rfl) ?_
        refine lv_iconst (v := (-1)) hx hb dX4_addAnswer_88 (by decide) ?_
        refine lv_ixor hx hb dX4_addAnswer_89 ?_
        refine lv_topi (fun v_1004 ev_1004 => ?_)
        refine lv_iand hx hb dX4_addAnswer_90 ?_
        refine lv_topi (fun v_1005 ev_1005 => ?_)
        refine ka_put C lq_44 tyX4 tyX4_ok nmX4 rfl hK hP hD hS 0 rfl 5 (by decide) lq_48 rfl rfl rfl (Nat.le_of_ble_eq_true rfl) dX4_addAnswer_91 (fun H locs hP hD hS => ?_)
        have hP : va_P D vwCl [(a0, .inr (4, [.ref a1, .ref a2, .ref a3, .int x3, .int v_999, .int v_1005, .int x6, .int x7, .int x8])), (a1, .inl (k0, 32, .inl g_1003)), (a2, .inl (k1, 32, .inl f1))] H := hP
        have hD : va_D A [(a0, .inr (4, [.ref a1, .ref a2, .ref a3, .int x3, .int v_999, .int v_1005, .int x6, .int x7, .int x8])), (a1, .inl (k0, 32, .inl g_1003)), (a2, .inl (k1, 32, .inl f1))] := hD
        refine lv_aload_n hx hb dX4_addAnswer_94 rfl (lv_at hl 2 rfl) ?_
        refine lv_dup hx hb dX4_addAnswer_95 rfl ?_
        refine ka_get C lq_44 rfl hK hP 0 rfl 6 (by decide) lq_49 rfl dX4_addAnswer_96 ?_
        refine lv_iconst (v := 1) hx hb dX4_addAnswer_99 (by decide) ?_
        refine lv_iadd hx hb dX4_addAnswer_100 ?_
        refine lv_topi (fun v_1006 ev_1006 => ?_)
        refine ka_put C lq_44 tyX4 tyX4_ok nmX4 rfl hK hP hD hS 0 rfl 6 (by decide) lq_49 rfl rfl rfl (Nat.le_of_ble_eq_true rfl) dX4_addAnswer_101 (fun H locs hP hD hS => ?_)
        have hP : va_P D vwCl [(a0, .inr (4, [.ref a1, .ref a2, .ref a3, .int x3, .int v_999, .int v_1005, .int v_1006, .int x7, .int x8])), (a1, .inl (k0, 32, .inl g_1003)), (a2, .inl (k1, 32, .inl f1))] H := hP
        have hD : va_D A [(a0, .inr (4, [.ref a1, .ref a2, .ref a3, .int x3, .int v_999, .int v_1005, .int v_1006, .int x7, .int x8])), (a1, .inl (k0, 32, .inl g_1003)), (a2, .inl (k1, 32, .inl f1))] := hD
        refine lv_aload_n hx hb dX4_addAnswer_104 rfl (lv_at hl 2 rfl) ?_
        refine lv_dup hx hb dX4_addAnswer_105 rfl ?_
        refine ka_get C lq_44 rfl hK hP 0 rfl 7 (by decide) lq_50 rfl dX4_addAnswer_106 ?_
        refine lv_iload_n hx hb dX4_addAnswer_109 rfl (lv_at hl 5 rfl) ?_
        refine lv_if_eq (tgt := 117) hx hb dX4_addAnswer_110 (by decide) (fun c_1007 => ?_) (fun c_1007 => ?_)
        · have c_1007 : x2.toInt = 0 := by rw [ka_eq', show ((0 : Int32)).toInt = 0 from by decide] at c_1007; exact c_1007
          refine lv_iconst (v := 0) hx hb dX4_addAnswer_117 (by decide) ?_
          refine lv_iadd hx hb dX4_addAnswer_118 ?_
          refine lv_topi (fun v_1008 ev_1008 => ?_)
          have fv_1008 : v_1008.toInt = x7.toInt + 0 := by rw [ev_1008]; exact ka_add (x := x7.toInt) (y := 0) rfl (by decide) (by omega) (by omega)
          refine ka_put C lq_44 tyX4 tyX4_ok nmX4 rfl hK hP hD hS 0 rfl 7 (by decide) lq_50 rfl rfl rfl (Nat.le_of_ble_eq_true rfl) dX4_addAnswer_119 (fun H locs hP hD hS => ?_)
          have hP : va_P D vwCl [(a0, .inr (4, [.ref a1, .ref a2, .ref a3, .int x3, .int v_999, .int v_1005, .int v_1006, .int v_1008, .int x8])), (a1, .inl (k0, 32, .inl g_1003)), (a2, .inl (k1, 32, .inl f1))] H := hP
          have hD : va_D A [(a0, .inr (4, [.ref a1, .ref a2, .ref a3, .int x3, .int v_999, .int v_1005, .int v_1006, .int v_1008, .int x8])), (a1, .inl (k0, 32, .inl g_1003)), (a2, .inl (k1, 32, .inl f1))] := hD
          refine lv_aload_n hx hb dX4_addAnswer_122 rfl (lv_at hl 2 rfl) ?_
          refine lv_iload_n hx hb dX4_addAnswer_123 rfl (lv_at hl 5 rfl) ?_
          refine lv_if_eq (tgt := 141) hx hb dX4_addAnswer_124 (by decide) (fun _ => ?_) (fun c_ => absurd (by rw [ka_eq', show ((0 : Int32)).toInt = 0 from by decide]; omega) c_)
          refine lv_iconst (v := 0) hx hb dX4_addAnswer_141 (by decide) ?_
          refine ka_put C lq_44 tyX4 tyX4_ok nmX4 rfl hK hP hD hS 0 rfl 8 (by decide) lq_51 rfl rfl rfl (Nat.le_of_ble_eq_true rfl) dX4_addAnswer_142 (fun H locs hP hD hS => ?_)
          have hP : va_P D vwCl [(a0, .inr (4, [.ref a1, .ref a2, .ref a3, .int x3, .int v_999, .int v_1005, .int v_1006, .int v_1008, .int 0])), (a1, .inl (k0, 32, .inl g_1003)), (a2, .inl (k1, 32, .inl f1))] H := hP
          have hD : va_D A [(a0, .inr (4, [.ref a1, .ref a2, .ref a3, .int x3, .int v_999, .int v_1005, .int v_1006, .int v_1008, .int 0])), (a1, .inl (k0, 32, .inl g_1003)), (a2, .inl (k1, 32, .inl f1))] := hD
          exact ka_rEv C hr hlk (Nat.le_of_ble_eq_true rfl) (Nat.le_of_ble_eq_true rfl) hS (ka_qE (v_999, v_1005, v_1006, v_1008, 0, g_1003, f1) rfl trivial hK hP hD hS [0, 1, 2] (by decide) rfl [] rfl) dX4_addAnswer_145
        · have c_1007 : ¬ x2.toInt = 0 := by rw [ka_eq', show ((0 : Int32)).toInt = 0 from by decide] at c_1007; exact c_1007
          refine lv_iconst (v := 1) hx hb dX4_addAnswer_113 (by decide) ?_
          refine lv_goto (tgt := 118) hx hb dX4_addAnswer_114 (by decide) ?_
          refine lv_iadd hx hb dX4_addAnswer_118 ?_
          refine lv_topi (fun v_1009 ev_1009 => ?_)
          refine ka_put C lq_44 tyX4 tyX4_ok nmX4 rfl hK hP hD hS 0 rfl 7 (by decide) lq_50 rfl rfl rfl (Nat.le_of_ble_eq_true rfl) dX4_addAnswer_119 (fun H locs hP hD hS => ?_)
          have hP : va_P D vwCl [(a0, .inr (4, [.ref a1, .ref a2, .ref a3, .int x3, .int v_999, .int v_1005, .int v_1006, .int v_1009, .int x8])), (a1, .inl (k0, 32, .inl g_1003)), (a2, .inl (k1, 32, .inl f1))] H := hP
          have hD : va_D A [(a0, .inr (4, [.ref a1, .ref a2, .ref a3, .int x3, .int v_999, .int v_1005, .int v_1006, .int v_1009, .int x8])), (a1, .inl (k0, 32, .inl g_1003)), (a2, .inl (k1, 32, .inl f1))] := hD
          refine lv_aload_n hx hb dX4_addAnswer_122 rfl (lv_at hl 2 rfl) ?_
          refine lv_iload_n hx hb dX4_addAnswer_123 rfl (lv_at hl 5 rfl) ?_
          refine lv_if_eq (tgt := 141) hx hb dX4_addAnswer_124 (by decide) (fun c_ => absurd c_ (by rw [ka_eq', show ((0 : Int32)).toInt = 0 from by decide]; omega)) (fun _ => ?_)
          refine lv_iload hx hb dX4_addAnswer_127 (lv_at hl 1 rfl) ?_
          refine lv_if_eq (tgt := 141) hx hb dX4_addAnswer_129 (by decide) (fun c_ => absurd c_ (by decide)) (fun _ => ?_)
          refine lv_aload_n hx hb dX4_addAnswer_132 rfl (lv_at hl 2 rfl) ?_
          refine ka_get C lq_44 rfl hK hP 0 rfl 8 (by decide) lq_51 rfl dX4_addAnswer_133 ?_
          refine lv_iconst (v := 1) hx hb dX4_addAnswer_136 (by decide) ?_
          refine lv_iadd hx hb dX4_addAnswer_137 ?_
          refine lv_topi (fun v_1010 ev_1010 => ?_)
          refine lv_goto (tgt := 142) hx hb dX4_addAnswer_138 (by decide) ?_
          refine ka_put C lq_44 tyX4 tyX4_ok nmX4 rfl hK hP hD hS 0 rfl 8 (by decide) lq_51 rfl rfl rfl (Nat.le_of_ble_eq_true rfl) dX4_addAnswer_142 (fun H locs hP hD hS => ?_)
          have hP : va_P D vwCl [(a0, .inr (4, [.ref a1, .ref a2, .ref a3, .int x3, .int v_999, .int v_1005, .int v_1006, .int v_1009, .int v_1010])), (a1, .inl (k0, 32, .inl g_1003)), (a2, .inl (k1, 32, .inl f1))] H := hP
          have hD : va_D A [(a0, .inr (4, [.ref a1, .ref a2, .ref a3, .int x3, .int v_999, .int v_1005, .int v_1006, .int v_1009, .int v_1010])), (a1, .inl (k0, 32, .inl g_1003)), (a2, .inl (k1, 32, .inl f1))] := hD
          exact ka_rEv C hr hlk (Nat.le_of_ble_eq_true rfl) (Nat.le_of_ble_eq_true rfl) hS (ka_qE (v_999, v_1005, v_1006, v_1009, v_1010, g_1003, f1) rfl trivial hK hP hD hS [0, 1, 2] (by decide) rfl [] rfl) dX4_addAnswer_145
      · have c_1000 : x1.toInt = 1 := by rw [ka_eq', show ((1 : Int32)).toInt = 1 from by decide] at c_1000; exact c_1000
        refine lv_aload_n hx hb dX4_addAnswer_47 rfl (lv_at hl 2 rfl) ?_
        refine ka_get C lq_44 rfl hK hP 0 rfl 1 (by decide) lq_52 rfl dX4_addAnswer_48 ?_
        refine lv_iload_n hx hb dX4_addAnswer_51 rfl (lv_at hl 3 rfl) ?_
        refine lv_dup2_11 hx hb dX4_addAnswer_52 rfl rfl ?_
        refine va_iald hx hb hK hP 2 1 rfl rfl (ka_in (by omega) (by omega)) dX4_addAnswer_53 ?_
        refine lv_topi (fun v_1011 ev_1011 => ?_)
        refine lv_iconst (v := 1) hx hb dX4_addAnswer_54 (by decide) ?_
        refine lv_iadd hx hb dX4_addAnswer_55 ?_
        refine lv_topi (fun v_1012 ev_1012 => ?_)
        refine va_iast hx hb hK hP hD hS 2 1 rfl rfl (ka_in (by omega) (by omega)) dX4_addAnswer_56 (fun H locs hP hD hS => ?_)
        have hP : va_P D vwCl [(a0, .inr (4, [.ref a1, .ref a2, .ref a3, .int x3, .int v_999, .int x5, .int x6, .int x7, .int x8])), (a1, .inl (k0, 32, .inl f0)), (a2, .inl (k1, 32, .inl (upd f1 (Int32.toNatClampNeg x0) v_1012)))] H := hP
        have hD : va_D A [(a0, .inr (4, [.ref a1, .ref a2, .ref a3, .int x3, .int v_999, .int x5, .int x6, .int x7, .int x8])), (a1, .inl (k0, 32, .inl f0)), (a2, .inl (k1, 32, .inl (upd f1 (Int32.toNatClampNeg x0) v_1012)))] := hD
        generalize (upd f1 (Int32.toNatClampNeg x0) v_1012) = g_1013 at hP hD
        refine lv_aload_n hx hb dX4_addAnswer_57 rfl (lv_at hl 2 rfl) ?_
        refine lv_dup hx hb dX4_addAnswer_58 rfl ?_
        refine ka_get C lq_44 rfl hK hP 0 rfl 5 (by decide) lq_48 rfl dX4_addAnswer_59 ?_
        refine lv_iload hx hb dX4_addAnswer_62 (lv_at hl 0 rfl) ?_
        refine lv_ior hx hb dX4_addAnswer_64 ?_
        refine lv_topi (fun v_1014 ev_1014 => ?_)
        refine ka_put C lq_44 tyX4 tyX4_ok nmX4 rfl hK hP hD hS 0 rfl 5 (by decide) lq_48 rfl rfl rfl (Nat.le_of_ble_eq_true rfl) dX4_addAnswer_65 (fun H locs hP hD hS => ?_)
        have hP : va_P D vwCl [(a0, .inr (4, [.ref a1, .ref a2, .ref a3, .int x3, .int v_999, .int v_1014, .int x6, .int x7, .int x8])), (a1, .inl (k0, 32, .inl f0)), (a2, .inl (k1, 32, .inl g_1013))] H := hP
        have hD : va_D A [(a0, .inr (4, [.ref a1, .ref a2, .ref a3, .int x3, .int v_999, .int v_1014, .int x6, .int x7, .int x8])), (a1, .inl (k0, 32, .inl f0)), (a2, .inl (k1, 32, .inl g_1013))] := hD
        refine lv_goto (tgt := 94) hx hb dX4_addAnswer_68 (by decide) ?_
        refine lv_aload_n hx hb dX4_addAnswer_94 rfl (lv_at hl 2 rfl) ?_
        refine lv_dup hx hb dX4_addAnswer_95 rfl ?_
        refine ka_get C lq_44 rfl hK hP 0 rfl 6 (by decide) lq_49 rfl dX4_addAnswer_96 ?_
        refine lv_iconst (v := 1) hx hb dX4_addAnswer_99 (by decide) ?_
        refine lv_iadd hx hb dX4_addAnswer_100 ?_
        refine lv_topi (fun v_1015 ev_1015 => ?_)
        refine ka_put C lq_44 tyX4 tyX4_ok nmX4 rfl hK hP hD hS 0 rfl 6 (by decide) lq_49 rfl rfl rfl (Nat.le_of_ble_eq_true rfl) dX4_addAnswer_101 (fun H locs hP hD hS => ?_)
        have hP : va_P D vwCl [(a0, .inr (4, [.ref a1, .ref a2, .ref a3, .int x3, .int v_999, .int v_1014, .int v_1015, .int x7, .int x8])), (a1, .inl (k0, 32, .inl f0)), (a2, .inl (k1, 32, .inl g_1013))] H := hP
        have hD : va_D A [(a0, .inr (4, [.ref a1, .ref a2, .ref a3, .int x3, .int v_999, .int v_1014, .int v_1015, .int x7, .int x8])), (a1, .inl (k0, 32, .inl f0)), (a2, .inl (k1, 32, .inl g_1013))] := hD
        refine lv_aload_n hx hb dX4_addAnswer_104 rfl (lv_at hl 2 rfl) ?_
        refine lv_dup hx hb dX4_addAnswer_105 rfl ?_
        refine ka_get C lq_44 rfl hK hP 0 rfl 7 (by decide) lq_50 rfl dX4_addAnswer_106 ?_
        refine lv_iload_n hx hb dX4_addAnswer_109 rfl (lv_at hl 5 rfl) ?_
        refine lv_if_eq (tgt := 117) hx hb dX4_addAnswer_110 (by decide) (fun c_1016 => ?_) (fun c_1016 => ?_)
        · have c_1016 : x2.toInt = 0 := by rw [ka_eq', show ((0 : Int32)).toInt = 0 from by decide] at c_1016; exact c_1016
          refine lv_iconst (v := 0) hx hb dX4_addAnswer_117 (by decide) ?_
          refine lv_iadd hx hb dX4_addAnswer_118 ?_
          refine lv_topi (fun v_1017 ev_1017 => ?_)
          have fv_1017 : v_1017.toInt = x7.toInt + 0 := by rw [ev_1017]; exact ka_add (x := x7.toInt) (y := 0) rfl (by decide) (by omega) (by omega)
          refine ka_put C lq_44 tyX4 tyX4_ok nmX4 rfl hK hP hD hS 0 rfl 7 (by decide) lq_50 rfl rfl rfl (Nat.le_of_ble_eq_true rfl) dX4_addAnswer_119 (fun H locs hP hD hS => ?_)
          have hP : va_P D vwCl [(a0, .inr (4, [.ref a1, .ref a2, .ref a3, .int x3, .int v_999, .int v_1014, .int v_1015, .int v_1017, .int x8])), (a1, .inl (k0, 32, .inl f0)), (a2, .inl (k1, 32, .inl g_1013))] H := hP
          have hD : va_D A [(a0, .inr (4, [.ref a1, .ref a2, .ref a3, .int x3, .int v_999, .int v_1014, .int v_1015, .int v_1017, .int x8])), (a1, .inl (k0, 32, .inl f0)), (a2, .inl (k1, 32, .inl g_1013))] := hD
          refine lv_aload_n hx hb dX4_addAnswer_122 rfl (lv_at hl 2 rfl) ?_
          refine lv_iload_n hx hb dX4_addAnswer_123 rfl (lv_at hl 5 rfl) ?_
          refine lv_if_eq (tgt := 141) hx hb dX4_addAnswer_124 (by decide) (fun _ => ?_) (fun c_ => absurd (by rw [ka_eq', show ((0 : Int32)).toInt = 0 from by decide]; omega) c_)
          refine lv_iconst (v := 0) hx hb dX4_addAnswer_141 (by decide) ?_
          refine ka_put C lq_44 tyX4 tyX4_ok nmX4 rfl hK hP hD hS 0 rfl 8 (by decide) lq_51 rfl rfl rfl (Nat.le_of_ble_eq_true rfl) dX4_addAnswer_142 (fun H locs hP hD hS => ?_)
          have hP : va_P D vwCl [(a0, .inr (4, [.ref a1, .ref a2, .ref a3, .int x3, .int v_999, .int v_1014, .int v_1015, .int v_1017, .int 0])), (a1, .inl (k0, 32, .inl f0)), (a2, .inl (k1, 32, .inl g_1013))] H := hP
          have hD : va_D A [(a0, .inr (4, [.ref a1, .ref a2, .ref a3, .int x3, .int v_999, .int v_1014, .int v_1015, .int v_1017, .int 0])), (a1, .inl (k0, 32, .inl f0)), (a2, .inl (k1, 32, .inl g_1013))] := hD
          exact ka_rEv C hr hlk (Nat.le_of_ble_eq_true rfl) (Nat.le_of_ble_eq_true rfl) hS (ka_qE (v_999, v_1014, v_1015, v_1017, 0, f0, g_1013) rfl trivial hK hP hD hS [0, 1, 2] (by decide) rfl [] rfl) dX4_addAnswer_145
        · have c_1016 : ¬ x2.toInt = 0 := by rw [ka_eq', show ((0 : Int32)).toInt = 0 from by decide] at c_1016; exact c_1016
          refine lv_iconst (v := 1) hx hb dX4_addAnswer_113 (by decide) ?_
          refine lv_goto (tgt := 118) hx hb dX4_addAnswer_114 (by decide) ?_
          refine lv_iadd hx hb dX4_addAnswer_118 ?_
          refine lv_topi (fun v_1018 ev_1018 => ?_)
          refine ka_put C lq_44 tyX4 tyX4_ok nmX4 rfl hK hP hD hS 0 rfl 7 (by decide) lq_50 rfl rfl rfl (Nat.le_of_ble_eq_true rfl) dX4_addAnswer_119 (fun H locs hP hD hS => ?_)
          have hP : va_P D vwCl [(a0, .inr (4, [.ref a1, .ref a2, .ref a3, .int x3, .int v_999, .int v_1014, .int v_1015, .int v_1018, .int x8])), (a1, .inl (k0, 32, .inl f0)), (a2, .inl (k1, 32, .inl g_1013))] H := hP
          have hD : va_D A [(a0, .inr (4, [.ref a1, .ref a2, .ref a3, .int x3, .int v_999, .int v_1014, .int v_1015, .int v_1018, .int x8])), (a1, .inl (k0, 32, .inl f0)), (a2, .inl (k1, 32, .inl g_1013))] := hD
          refine lv_aload_n hx hb dX4_addAnswer_122 rfl (lv_at hl 2 rfl) ?_
          refine lv_iload_n hx hb dX4_addAnswer_123 rfl (lv_at hl 5 rfl) ?_
          refine lv_if_eq (tgt := 141) hx hb dX4_addAnswer_124 (by decide) (fun c_ => absurd c_ (by rw [ka_eq', show ((0 : Int32)).toInt = 0 from by decide]; omega)) (fun _ => ?_)
          refine lv_iload hx hb dX4_addAnswer_127 (lv_at hl 1 rfl) ?_
          refine lv_if_eq (tgt := 141) hx hb dX4_addAnswer_129 (by decide) (fun c_ => absurd c_ (by decide)) (fun _ => ?_)
          refine lv_aload_n hx hb dX4_addAnswer_132 rfl (lv_at hl 2 rfl) ?_
          refine ka_get C lq_44 rfl hK hP 0 rfl 8 (by decide) lq_51 rfl dX4_addAnswer_133 ?_
          refine lv_iconst (v := 1) hx hb dX4_addAnswer_136 (by decide) ?_
          refine lv_iadd hx hb dX4_addAnswer_137 ?_
          refine lv_topi (fun v_1019 ev_1019 => ?_)
          refine lv_goto (tgt := 142) hx hb dX4_addAnswer_138 (by decide) ?_
          refine ka_put C lq_44 tyX4 tyX4_ok nmX4 rfl hK hP hD hS 0 rfl 8 (by decide) lq_51 rfl rfl rfl (Nat.le_of_ble_eq_true rfl) dX4_addAnswer_142 (fun H locs hP hD hS => ?_)
          have hP : va_P D vwCl [(a0, .inr (4, [.ref a1, .ref a2, .ref a3, .int x3, .int v_999, .int v_1014, .int v_1015, .int v_1018, .int v_1019])), (a1, .inl (k0, 32, .inl f0)), (a2, .inl (k1, 32, .inl g_1013))] H := hP
          have hD : va_D A [(a0, .inr (4, [.ref a1, .ref a2, .ref a3, .int x3, .int v_999, .int v_1014, .int v_1015, .int v_1018, .int v_1019])), (a1, .inl (k0, 32, .inl f0)), (a2, .inl (k1, 32, .inl g_1013))] := hD
          exact ka_rEv C hr hlk (Nat.le_of_ble_eq_true rfl) (Nat.le_of_ble_eq_true rfl) hS (ka_qE (v_999, v_1014, v_1015, v_1018, v_1019, f0, g_1013) rfl trivial hK hP hD hS [0, 1, 2] (by decide) rfl [] rfl) dX4_addAnswer_145
  · skip
    refine lv_iload_n hx hb dX4_addAnswer_0 rfl (lv_at hl 1 rfl) ?_
    refine ka_RN (n := 1) C (cg_X6_isCase_7 l D F x0 (by omega)) gX4_addAnswer_X6_isCase_n46 rfl hN.2.2.2.2.2.1 lq_42 lq_43 (by decide +kernel) ⟨Nat.le_of_ble_eq_true rfl, Nat.le_of_ble_eq_true rfl⟩ hK hP hS hE hN [] rfl [] rfl rfl hl.1 (rest := []) rfl (Nat.le_of_ble_eq_true rfl) dX4_addAnswer_1 ⟨Nat.le_of_ble_eq_true rfl, Nat.le_of_ble_eq_true rfl⟩ (fun v hv => ?_)
    subst hv
    refine ka_stk (w := [.int 0]) rfl ?_
    refine lv_if_ne (tgt := 8) hx hb dX4_addAnswer_4 (by decide) (fun c_ => absurd (by decide) c_) (fun _ => ?_)
    exact ka_rEv C hr hlk (Nat.le_of_ble_eq_true rfl) (Nat.le_of_ble_eq_true rfl) hS (ka_qE (x4, x5, x6, x7, x8, f0, f1) rfl trivial hK hP hD hS [0, 1, 2] (by decide) rfl [] rfl) dX4_addAnswer_7
set_option maxHeartbeats 4000000 in
set_option maxRecDepth 100000 in
theorem cg_J7_fill_53178_18 (l : Launch) (D : va_G) (F : Nat → Prop) (a0 : Nat) (k0 : ClassId) (f0 : Nat → Int32) : ka_E l D F yJ7_fill_53178 wsJ7_fill_53178 0 0 0 0 [.ref a0, .int 0] [(a0, .inl (k0, 32, .inl f0))] [(k0, .int)] (fun (u : (Nat → Int32)) => none) (fun (u : (Nat → Int32)) => True) (fun (u : (Nat → Int32)) => [(a0, .inl (k0, 32, .inl u))]) (fun (u : (Nat → Int32)) => []) := by
  refine ka_E_of (cc := cJ7_fill_53178) (maxL := 4) (ret := none) (by decide) rfl (Nat.le_of_ble_eq_true rfl) ?_
  intro p e s m below meth c ls A C hr hlk hin hP hK hD hS hA hE hN hl
  have C : CallFix p m c cJ7_fill_53178 4 s [.ref a0, .int 0].toArray wsJ7_fill_53178 RJ7 := C
  obtain ⟨hx, hb, hml, hown, hts⟩ := id C
  have hl : lv_has ls 4 [(0, .ref a0), (1, .int 0)] := hl
  refine lv_iconst (v := 0) hx hb dJ7_fill_53178_0 (by decide) ?_
  refine lv_istore_n (lv' := [(2, .int 0), (0, .ref a0), (1, .int 0)]) hx hb dJ7_fill_53178_1 rfl hl (by decide) rfl (fun ls hl => ?_)
  refine lv_aload_n hx hb dJ7_fill_53178_2 rfl (lv_at hl 1 rfl) ?_
  refine va_alen hx hb hK hP 0 0 rfl (ty := .int) rfl (v := 32) rfl dJ7_fill_53178_3 ?_
  refine lv_istore_n (lv' := [(3, .int 32), (2, .int 0), (0, .ref a0), (1, .int 0)]) hx hb dJ7_fill_53178_4 rfl hl (by decide) rfl (fun ls hl => ?_)
  have lp_1120 : ∀ (n : Nat) (i1120_2 : Int32) (w1120_0 : Nat → Int32), (0 ≤ i1120_2.toInt ∧ i1120_2.toInt ≤ 32) → (32 - i1120_2.toInt).toNat < n → ∀ (H : Heap) (locs : List Loc), va_P D vwCl [(a0, .inl (k0, 32, .inl w1120_0))] H → va_D A [(a0, .inl (k0, 32, .inl w1120_0))] → va_S A s.heap H locs → ∀ (ls : Array Slot), lv_has ls 4 [(0, .ref a0), (1, .int 0), (2, .int i1120_2), (3, .int 32)] → W p l e ({ frames := 0, cells := 0, slots := 0, locals := 0 }) s m [.ref a0, .int 0].toArray below meth c H locs 0 0 (MQ below (ka_QE D A (fun (u : (Nat → Int32)) => none) (fun (u : (Nat → Int32)) => True) (fun (u : (Nat → Int32)) => [(a0, .inl (k0, 32, .inl u))]) (fun (u : (Nat → Int32)) => [])) [.ref a0, .int 0].toArray s 0 0 A) (F0 m 5 ls []) := by
    intro n
    induction n with
    | zero =>
      intro i1120_2 w1120_0 hi1120_2 hm
      exact absurd hm (Nat.not_lt_zero _)
    | succ n ih_1120 =>
      intro i1120_2 w1120_0 hi1120_2 hm H locs hP hD hS ls hl
      have ri1120_2 := ka_rng i1120_2
      refine lv_iload_n hx hb dJ7_fill_53178_5 rfl (lv_at hl 2 rfl) ?_
      refine lv_iload_n hx hb dJ7_fill_53178_6 rfl (lv_at hl 3 rfl) ?_
      refine lv_icmp_ge (tgt := 20) hx hb dJ7_fill_53178_7 (by decide) (fun c_1124 => ?_) (fun c_1124 => ?_)
      · have c_1124 : 32 ≤ i1120_2.toInt := by rw [ka_le', show ((32 : Int32)).toInt = 32 from by decide] at c_1124; exact c_1124
        exact ka_rEv C hr hlk (Nat.le_of_ble_eq_true rfl) (Nat.le_of_ble_eq_true rfl) hS (ka_qE w1120_0 rfl trivial hK hP hD hS [0] (by decide) rfl [] rfl) dJ7_fill_53178_20
      · have c_1124 : ¬ 32 ≤ i1120_2.toInt := by rw [ka_le', show ((32 : Int32)).toInt = 32 from by decide] at c_1124; exact c_1124
        refine lv_aload_n hx hb dJ7_fill_53178_10 rfl (lv_at hl 0 rfl) ?_
        refine lv_iload_n hx hb dJ7_fill_53178_11 rfl (lv_at hl 2 rfl) ?_
        refine lv_iload_n hx hb dJ7_fill_53178_12 rfl (lv_at hl 1 rfl) ?_
        refine va_iast hx hb hK hP hD hS 0 0 rfl rfl (ka_in (by omega) (by omega)) dJ7_fill_53178_13 (fun H locs hP hD hS => ?_)
        have hP : va_P D vwCl [(a0, .inl (k0, 32, .inl (upd w1120_0 (Int32.toNatClampNeg i1120_2) 0)))] H := hP
        have hD : va_D A [(a0, .inl (k0, 32, .inl (upd w1120_0 (Int32.toNatClampNeg i1120_2) 0)))] := hD
        generalize (upd w1120_0 (Int32.toNatClampNeg i1120_2) 0) = g_1125 at hP hD
        obtain ⟨v_1126, ev_1126⟩ : ∃ y : Int32, y = i1120_2 + 1 := ⟨_, rfl⟩
        refine lv_iinc (v := v_1126) (lv' := [(2, .int v_1126), (0, .ref a0), (1, .int 0), (3, .int 32)]) hx hb dJ7_fill_53178_14 hl (k := 2) rfl (by rw [ev_1126]; rfl) (by decide) rfl (fun ls hl => ?_)
        have fv_1126 : v_1126.toInt = i1120_2.toInt + 1 := by rw [ev_1126]; exact ka_add (x := i1120_2.toInt) (y := 1) rfl (by decide) (by omega) (by omega)
        refine lv_goto (tgt := 5) hx hb dJ7_fill_53178_17 (by decide) ?_
        exact ih_1120 v_1126 g_1125 ⟨by omega, by omega⟩ (by omega) H locs (hP.sub [0] rfl) (hD.sub [0] (by decide) rfl) hS ls (lv_sub hl [1, 2, 0, 3] rfl)
  exact lp_1120 _ 0 f0 ⟨by decide, by decide⟩ (Nat.lt_succ_self _) _ _ hP hD hS ls (lv_sub hl [2, 3, 1, 0] rfl)
theorem lq_53 : ∀ w ∈ wsX40, w ∈ wsX4_clear := by decide +kernel
theorem lq_54 : Cond.fieldLink RX4 9 "AskedBack$Talk" "zeros" "[I" ∈ wsX4_clear := by decide +kernel
theorem lq_55 : Cond.fieldLink RX4 15 "AskedBack$Talk" "ones" "[I" ∈ wsX4_clear := by decide +kernel
theorem lq_56 : Cond.fieldLink RX4 21 "AskedBack$Talk" "saidCount" "I" ∈ wsX4_clear := by decide +kernel
theorem lq_57 : Cond.fieldLink RX4 25 "AskedBack$Talk" "asked" "I" ∈ wsX4_clear := by decide +kernel
theorem lq_58 : Cond.fieldLink RX4 28 "AskedBack$Talk" "latestOnes" "I" ∈ wsX4_clear := by decide +kernel
theorem lq_59 : Cond.fieldLink RX4 31 "AskedBack$Talk" "answers" "I" ∈ wsX4_clear := by decide +kernel
theorem lq_60 : Cond.fieldLink RX4 34 "AskedBack$Talk" "rightAnswers" "I" ∈ wsX4_clear := by decide +kernel
theorem lq_61 : Cond.fieldLink RX4 37 "AskedBack$Talk" "freshRun" "I" ∈ wsX4_clear := by decide +kernel
set_option maxHeartbeats 4000000 in
set_option maxRecDepth 100000 in
theorem cg_X4_clear_19 (l : Launch) (D : va_G) (F : Nat → Prop) (a0 : Nat) (a1 : Nat) (a2 : Nat) (a3 : Nat) (x0 : Int32) (x1 : Int32) (x2 : Int32) (x3 : Int32) (x4 : Int32) (x5 : Int32) (k0 : ClassId) (f0 : Nat → Int32) (k1 : ClassId) (f1 : Nat → Int32) (hx0 : 0 ≤ x0.toInt ∧ x0.toInt ≤ 10) : ka_E l D F yX4_clear wsX4_clear 1 23 0 0 [.ref a0] [(a0, .inr (4, [.ref a1, .ref a2, .ref a3, .int x0, .int x1, .int x2, .int x3, .int x4, .int x5])), (a1, .inl (k0, 32, .inl f0)), (a2, .inl (k1, 32, .inl f1))] [(k0, .int), (k1, .int)] (fun (u : (Nat → Int32) × (Nat → Int32)) => none) (fun (u : (Nat → Int32) × (Nat → Int32)) => True) (fun (u : (Nat → Int32) × (Nat → Int32)) => [(a0, .inr (4, [.ref a1, .ref a2, .ref a3, .int 0, .int 0, .int 0, .int 0, .int 0, .int 0])), (a1, .inl (k0, 32, .inl (u.1))), (a2, .inl (k1, 32, .inl (u.2)))]) (fun (u : (Nat → Int32) × (Nat → Int32)) => []) := by
  refine ka_E_of (cc := cX4_clear) (maxL := 1) (ret := none) (by decide) rfl (Nat.le_of_ble_eq_true rfl) ?_
  intro p e s m below meth c ls A C hr hlk hin hP hK hD hS hA hE hN hl
  have C : CallFix p m c cX4_clear 1 s [.ref a0].toArray wsX4_clear RX4 := C
  obtain ⟨hx, hb, hml, hown, hts⟩ := id C
  have hl : lv_has ls 1 [(0, .ref a0)] := hl
  have rx0 := ka_rng x0
  have rx1 := ka_rng x1
  have rx2 := ka_rng x2
  have rx3 := ka_rng x3
  have rx4 := ka_rng x4
  have rx5 := ka_rng x5
  refine lv_aload_n hx hb dX4_clear_0 rfl (lv_at hl 0 rfl) ?_
  refine ka_get C lq_53 rfl hK hP 0 rfl 0 (by decide) lq_54 rfl dX4_clear_1 ?_
  refine lv_iconst (v := 0) hx hb dX4_clear_4 (by decide) ?_
  refine kb_ES (n := 2) (wr := [(a0, .inr (4, [.ref a1, .ref a2, .ref a3, .int x0, .int x1, .int x2, .int x3, .int x4, .int x5])), (a2, .inl (k1, 32, .inl f1))]) C (cg_J7_fill_53178_18 l D F a1 k0 f0) gX4_clear_J7_fill_53178 rfl (by decide +kernel) ⟨Nat.le_of_ble_eq_true rfl, Nat.le_of_ble_eq_true rfl⟩ hK hP hD hS hA hE hN [1] rfl (by decide) [0, 2] rfl (by decide) (by decide) [0] rfl rfl hl.1 (rest := []) rfl (Nat.le_of_ble_eq_true rfl) dX4_clear_5 ⟨Nat.le_of_ble_eq_true rfl, Nat.le_of_ble_eq_true rfl⟩ (fun u H locs hq hP hD hK hS => ?_)
  obtain ⟨g_1131, rfl⟩ : ∃ z, z = u := ⟨_, rfl⟩
  have hP : va_P D vwCl [(a0, .inr (4, [.ref a1, .ref a2, .ref a3, .int x0, .int x1, .int x2, .int x3, .int x4, .int x5])), (a2, .inl (k1, 32, .inl f1)), (a1, .inl (k0, 32, .inl g_1131))] H := hP
  have hD : va_D A [(a0, .inr (4, [.ref a1, .ref a2, .ref a3, .int x0, .int x1, .int x2, .int x3, .int x4, .int x5])), (a2, .inl (k1, 32, .inl f1)), (a1, .inl (k0, 32, .inl g_1131))] := hD
  have hK : va_K D vwCl [(k0, .int), (k1, .int)] s := by simpa using hK
  refine ka_stk (w := []) rfl ?_
  refine lv_aload_n hx hb dX4_clear_8 rfl (lv_at hl 0 rfl) ?_
  refine ka_get C lq_53 rfl hK hP 0 rfl 1 (by decide) lq_55 rfl dX4_clear_9 ?_
  refine lv_iconst (v := 0) hx hb dX4_clear_12 (by decide) ?_
  refine kb_ES (n := 2) (wr := [(a0, .inr (4, [.ref a1, .ref a2, .ref a3, .int x0, .int x1, .int x2, .int x3, .int x4, .int x5])), (a1, .inl (k0, 32, .inl g_1131))]) C (cg_J7_fill_53178_18 l D F a2 k1 f1) gX4_clear_J7_fill_53178 rfl (by decide +kernel) ⟨Nat.le_of_ble_eq_true rfl, Nat.le_of_ble_eq_true rfl⟩ hK hP hD hS hA hE hN [1] rfl (by decide) [0, 2] rfl (by decide) (by decide) [1] rfl rfl hl.1 (rest := []) rfl (Nat.le_of_ble_eq_true rfl) dX4_clear_13 ⟨Nat.le_of_ble_eq_true rfl, Nat.le_of_ble_eq_true rfl⟩ (fun u H locs hq hP hD hK hS => ?_)
  obtain ⟨g_1132, rfl⟩ : ∃ z, z = u := ⟨_, rfl⟩
  have hP : va_P D vwCl [(a0, .inr (4, [.ref a1, .ref a2, .ref a3, .int x0, .int x1, .int x2, .int x3, .int x4, .int x5])), (a1, .inl (k0, 32, .inl g_1131)), (a2, .inl (k1, 32, .inl g_1132))] H := hP
  have hD : va_D A [(a0, .inr (4, [.ref a1, .ref a2, .ref a3, .int x0, .int x1, .int x2, .int x3, .int x4, .int x5])), (a1, .inl (k0, 32, .inl g_1131)), (a2, .inl (k1, 32, .inl g_1132))] := hD
  have hK : va_K D vwCl [(k0, .int), (k1, .int)] s := by simpa using hK
  refine ka_stk (w := []) rfl ?_
  refine lv_aload_n hx hb dX4_clear_16 rfl (lv_at hl 0 rfl) ?_
  refine lv_iconst (v := 0) hx hb dX4_clear_17 (by decide) ?_
  refine ka_put C lq_53 tyX4 tyX4_ok nmX4 rfl hK hP hD hS 0 rfl 3 (by decide) lq_56 rfl rfl rfl (Nat.le_of_ble_eq_true rfl) dX4_clear_18 (fun H locs hP hD hS => ?_)
  have hP : va_P D vwCl [(a0, .inr (4, [.ref a1, .ref a2, .ref a3, .int 0, .int x1, .int x2, .int x3, .int x4, .int x5])), (a1, .inl (k0, 32, .inl g_1131)), (a2, .inl (k1, 32, .inl g_1132))] H := hP
  have hD : va_D A [(a0, .inr (4, [.ref a1, .ref a2, .ref a3, .int 0, .int x1, .int x2, .int x3, .int x4, .int x5])), (a1, .inl (k0, 32, .inl g_1131)), (a2, .inl (k1, 32, .inl g_1132))] := hD
  refine lv_aload_n hx hb dX4_clear_21 rfl (lv_at hl 0 rfl) ?_
  refine lv_iconst (v := 0) hx hb dX4_clear_22 (by decide) ?_
  refine ka_put C lq_53 tyX4 tyX4_ok nmX4 rfl hK hP hD hS 0 rfl 4 (by decide) lq_57 rfl rfl rfl (Nat.le_of_ble_eq_true rfl) dX4_clear_23 (fun H locs hP hD hS => ?_)
  have hP : va_P D vwCl [(a0, .inr (4, [.ref a1, .ref a2, .ref a3, .int 0, .int 0, .int x2, .int x3, .int x4, .int x5])), (a1, .inl (k0, 32, .inl g_1131)), (a2, .inl (k1, 32, .inl g_1132))] H := hP
  have hD : va_D A [(a0, .inr (4, [.ref a1, .ref a2, .ref a3, .int 0, .int 0, .int x2, .int x3, .int x4, .int x5])), (a1, .inl (k0, 32, .inl g_1131)), (a2, .inl (k1, 32, .inl g_1132))] := hD
  refine lv_aload_n hx hb dX4_clear_26 rfl (lv_at hl 0 rfl) ?_
  refine lv_iconst (v := 0) hx hb dX4_clear_27 (by decide) ?_
  refine ka_put C lq_53 tyX4 tyX4_ok nmX4 rfl hK hP hD hS 0 rfl 5 (by decide) lq_58 rfl rfl rfl (Nat.le_of_ble_eq_true rfl) dX4_clear_28 (fun H locs hP hD hS => ?_)
  have hP : va_P D vwCl [(a0, .inr (4, [.ref a1, .ref a2, .ref a3, .int 0, .int 0, .int 0, .int x3, .int x4, .int x5])), (a1, .inl (k0, 32, .inl g_1131)), (a2, .inl (k1, 32, .inl g_1132))] H := hP
  have hD : va_D A [(a0, .inr (4, [.ref a1, .ref a2, .ref a3, .int 0, .int 0, .int 0, .int x3, .int x4, .int x5])), (a1, .inl (k0, 32, .inl g_1131)), (a2, .inl (k1, 32, .inl g_1132))] := hD
  refine lv_aload_n hx hb dX4_clear_31 rfl (lv_at hl 0 rfl) ?_
  refine lv_iconst (v := 0) hx hb dX4_clear_32 (by decide) ?_
  refine ka_put C lq_53 tyX4 tyX4_ok nmX4 rfl hK hP hD hS 0 rfl 6 (by decide) lq_59 rfl rfl rfl (Nat.le_of_ble_eq_true rfl) dX4_clear_33 (fun H locs hP hD hS => ?_)
  have hP : va_P D vwCl [(a0, .inr (4, [.ref a1, .ref a2, .ref a3, .int 0, .int 0, .int 0, .int 0, .int x4, .int x5])), (a1, .inl (k0, 32, .inl g_1131)), (a2, .inl (k1, 32, .inl g_1132))] H := hP
  have hD : va_D A [(a0, .inr (4, [.ref a1, .ref a2, .ref a3, .int 0, .int 0, .int 0, .int 0, .int x4, .int x5])), (a1, .inl (k0, 32, .inl g_1131)), (a2, .inl (k1, 32, .inl g_1132))] := hD
  refine lv_aload_n hx hb dX4_clear_36 rfl (lv_at hl 0 rfl) ?_
  refine lv_iconst (v := 0) hx hb dX4_clear_37 (by decide) ?_
  refine ka_put C lq_53 tyX4 tyX4_ok nmX4 rfl hK hP hD hS 0 rfl 7 (by decide) lq_60 rfl rfl rfl (Nat.le_of_ble_eq_true rfl) dX4_clear_38 (fun H locs hP hD hS => ?_)
  have hP : va_P D vwCl [(a0, .inr (4, [.ref a1, .ref a2, .ref a3, .int 0, .int 0, .int 0, .int 0, .int 0, .int x5])), (a1, .inl (k0, 32, .inl g_1131)), (a2, .inl (k1, 32, .inl g_1132))] H := hP
  have hD : va_D A [(a0, .inr (4, [.ref a1, .ref a2, .ref a3, .int 0, .int 0, .int 0, .int 0, .int 0, .int x5])), (a1, .inl (k0, 32, .inl g_1131)), (a2, .inl (k1, 32, .inl g_1132))] := hD
  refine lv_aload_n hx hb dX4_clear_41 rfl (lv_at hl 0 rfl) ?_
  refine lv_iconst (v := 0) hx hb dX4_clear_42 (by decide) ?_
  refine ka_put C lq_53 tyX4 tyX4_ok nmX4 rfl hK hP hD hS 0 rfl 8 (by decide) lq_61 rfl rfl rfl (Nat.le_of_ble_eq_true rfl) dX4_clear_43 (fun H locs hP hD hS => ?_)
  have hP : va_P D vwCl [(a0, .inr (4, [.ref a1, .ref a2, .ref a3, .int 0, .int 0, .int 0, .int 0, .int 0, .int 0])), (a1, .inl (k0, 32, .inl g_1131)), (a2, .inl (k1, 32, .inl g_1132))] H := hP
  have hD : va_D A [(a0, .inr (4, [.ref a1, .ref a2, .ref a3, .int 0, .int 0, .int 0, .int 0, .int 0, .int 0])), (a1, .inl (k0, 32, .inl g_1131)), (a2, .inl (k1, 32, .inl g_1132))] := hD
  exact ka_rEv C hr hlk (Nat.le_of_ble_eq_true rfl) (Nat.le_of_ble_eq_true rfl) hS (ka_qE (g_1131, g_1132) rfl trivial hK hP hD hS [0, 1, 2] (by decide) rfl [] rfl) dX4_clear_46
set_option maxHeartbeats 4000000 in
set_option maxRecDepth 100000 in
theorem cg_X6_leastBit_20 (l : Launch) (D : va_G) (F : Nat → Prop) (x0 : Int32) : ka_R l D F yX6_leastBit wsX6_leastBit 1 21 [.int x0] [] [] (fun v => ∃ x : Int32, v = some (.int x) ∧ -1 ≤ x.toInt ∧ x.toInt ≤ 31) := by
  refine ka_R_of (cc := cX6_leastBit) (maxL := 2) (ret := (some .int)) (by decide) rfl (Nat.le_of_ble_eq_true rfl) ?_
  intro p e s m below meth c ls C hr hlk hP hK hE hN hl
  have hS : va_S (fun _ => False) s.heap s.heap [] := va_S.rf
  have C : CallFix p m c cX6_leastBit 2 s [.int x0].toArray wsX6_leastBit RX6 := C
  obtain ⟨hx, hb, hml, hown, hts⟩ := id C
  have hl : lv_has ls 2 [(0, .int x0)] := hl
  have rx0 := ka_rng x0
  refine lv_iconst (v := 0) hx hb dX6_leastBit_0 (by decide) ?_
  refine lv_istore_n (lv' := [(1, .int 0), (0, .int x0)]) hx hb dX6_leastBit_1 rfl hl (by decide) rfl (fun ls hl => ?_)
  have lp_1188 : ∀ (n : Nat) (i1188_1 : Int32), (0 ≤ i1188_1.toInt ∧ i1188_1.toInt ≤ 32) → (32 - i1188_1.toInt).toNat < n → ∀ (ls : Array Slot), lv_has ls 2 [(0, .int x0), (1, .int i1188_1)] → W p l e ({ frames := 1, cells := 0, slots := 0, locals := 21 }) s m [.int x0].toArray below meth c s.heap [] 0 0 (MQ below (ka_QR (fun v => ∃ x : Int32, v = some (.int x) ∧ -1 ≤ x.toInt ∧ x.toInt ≤ 31)) [.int x0].toArray s 0 0 (fun _ => False)) (F0 m 2 ls []) := by
    intro n
    induction n with
    | zero =>
      intro i1188_1 hi1188_1 hm
      exact absurd hm (Nat.not_lt_zero _)
    | succ n ih_1188 =>
      intro i1188_1 hi1188_1 hm ls hl
      have ri1188_1 := ka_rng i1188_1
      refine lv_iload_n hx hb dX6_leastBit_2 rfl (lv_at hl 1 rfl) ?_
      refine lv_bipush (v := 32) hx hb dX6_leastBit_3 (by decide) ?_
      refine lv_icmp_ge (tgt := 25) hx hb dX6_leastBit_5 (by decide) (fun c_1193 => ?_) (fun c_1193 => ?_)
      · have c_1193 : 32 ≤ i1188_1.toInt := by rw [ka_le', show ((32 : Int32)).toInt = 32 from by decide] at c_1193; exact c_1193
        refine lv_iconst (v := (-1)) hx hb dX6_leastBit_25 (by decide) ?_
        exact ka_rRi C hr hlk ⟨_, rfl, ⟨by decide, by decide⟩⟩ dX6_leastBit_26
      · have c_1193 : ¬ 32 ≤ i1188_1.toInt := by rw [ka_le', show ((32 : Int32)).toInt = 32 from by decide] at c_1193; exact c_1193
        refine lv_iload_n hx hb dX6_leastBit_8 rfl (lv_at hl 0 rfl) ?_
        refine lv_iload_n hx hb dX6_leastBit_9 rfl (lv_at hl 1 rfl) ?_
        refine ka_RS (n := 2) C (ka_c_bitAt l D F x0 i1188_1) gX6_leastBit_X6_bitAt rfl (by decide +kernel) ⟨Nat.le_of_ble_eq_true rfl, Nat.le_of_ble_eq_true rfl⟩ hK hP hS hE hN [] rfl [] rfl rfl hl.1 (rest := []) rfl (Nat.le_of_ble_eq_true rfl) dX6_leastBit_10 ⟨Nat.le_of_ble_eq_true rfl, Nat.le_of_ble_eq_true rfl⟩ (fun v hv => ?_)
        subst hv
        refine ka_stk (w := .int (ka_bit x0 i1188_1) :: []) rfl ?_
        refine lv_topi (fun v_1194 ev_1194 => ?_)
        have fv_1194 := ka_bit_in x0 i1188_1; rw [← ev_1194] at fv_1194
        refine lv_iconst (v := 1) hx hb dX6_leastBit_13 (by decide) ?_
        refine lv_icmp_ne (tgt := 19) hx hb dX6_leastBit_14 (by decide) (fun c_1195 => ?_) (fun c_1195 => ?_)
        · have c_1195 : ¬ v_1194.toInt = 1 := by rw [ka_eq', show ((1 : Int32)).toInt = 1 from by decide] at c_1195; exact c_1195
          obtain ⟨v_1196, ev_1196⟩ : ∃ y : Int32, y = i1188_1 + 1 := ⟨_, rfl⟩
          refine lv_iinc (v := v_1196) (lv' := [(1, .int v_1196), (0, .int x0)]) hx hb dX6_leastBit_19 hl (k := 1) rfl (by rw [ev_1196]; rfl) (by decide) rfl (fun ls hl => ?_)
          have fv_1196 : v_1196.toInt = i1188_1.toInt + 1 := by rw [ev_1196]; exact ka_add (x := i1188_1.toInt) (y := 1) rfl (by decide) (by omega) (by omega)
          refine lv_goto (tgt := 2) hx hb dX6_leastBit_22 (by decide) ?_
          exact ih_1188 v_1196 ⟨by omega, by omega⟩ (by omega) ls (lv_sub hl [1, 0] rfl)
        · have c_1195 : v_1194.toInt = 1 := by rw [ka_eq', show ((1 : Int32)).toInt = 1 from by decide] at c_1195; exact c_1195
          refine lv_iload_n hx hb dX6_leastBit_17 rfl (lv_at hl 1 rfl) ?_
          exact ka_rRi C hr hlk ⟨_, rfl, ⟨by omega, by omega⟩⟩ dX6_leastBit_18
  exact lp_1188 _ 0 ⟨by decide, by decide⟩ (Nat.lt_succ_self _) ls (lv_sub hl [1, 0] rfl)
set_option maxHeartbeats 4000000 in
set_option maxRecDepth 100000 in
theorem cg_X0_isLesson_21 (l : Launch) (D : va_G) (F : Nat → Prop) (x0 : Int32) (hx0 : x0.toInt ≤ -1) : ka_R l D F yX0_isLesson wsX0_isLesson 0 0 [.int x0] [] [] (fun v => v = some (.int 0)) := by
  refine ka_R_of (cc := cX0_isLesson) (maxL := 1) (ret := (some .boolean)) (by decide) rfl (Nat.le_of_ble_eq_true rfl) ?_
  intro p e s m below meth c ls C hr hlk hP hK hE hN hl
  have hS : va_S (fun _ => False) s.heap s.heap [] := va_S.rf
  have C : CallFix p m c cX0_isLesson 1 s [.int x0].toArray wsX0_isLesson RX0 := C
  obtain ⟨hx, hb, hml, hown, hts⟩ := id C
  have hl : lv_has ls 1 [(0, .int x0)] := hl
  have rx0 := ka_rng x0
  refine lv_iload_n hx hb dX0_isLesson_0 rfl (lv_at hl 0 rfl) ?_
  refine lv_if_lt (tgt := 14) hx hb dX0_isLesson_1 (by decide) (fun _ => ?_) (fun c_ => absurd (by rw [ka_lt', show ((0 : Int32)).toInt = 0 from by decide]; omega) c_)
  refine lv_iconst (v := 0) hx hb dX0_isLesson_14 (by decide) ?_
  exact ka_rRz C hr hlk rfl rfl dX0_isLesson_15
set_option maxHeartbeats 4000000 in
set_option maxRecDepth 100000 in
theorem cg_X0_isLesson_22 (l : Launch) (D : va_G) (F : Nat → Prop) : ka_R l D F yX0_isLesson wsX0_isLesson 0 0 [.int 0] [] [] (fun v => v = some (.int 1)) := by
  refine ka_R_of (cc := cX0_isLesson) (maxL := 1) (ret := (some .boolean)) (by decide) rfl (Nat.le_of_ble_eq_true rfl) ?_
  intro p e s m below meth c ls C hr hlk hP hK hE hN hl
  have hS : va_S (fun _ => False) s.heap s.heap [] := va_S.rf
  have C : CallFix p m c cX0_isLesson 1 s [.int 0].toArray wsX0_isLesson RX0 := C
  obtain ⟨hx, hb, hml, hown, hts⟩ := id C
  have hl : lv_has ls 1 [(0, .int 0)] := hl
  refine lv_iload_n hx hb dX0_isLesson_0 rfl (lv_at hl 0 rfl) ?_
  refine lv_if_lt (tgt := 14) hx hb dX0_isLesson_1 (by decide) (fun c_ => absurd c_ (by decide)) (fun _ => ?_)
  refine lv_iload_n hx hb dX0_isLesson_4 rfl (lv_at hl 0 rfl) ?_
  refine lv_bipush (v := 6) hx hb dX0_isLesson_5 (by decide) ?_
  refine lv_icmp_ge (tgt := 14) hx hb dX0_isLesson_7 (by decide) (fun c_ => absurd c_ (by decide)) (fun _ => ?_)
  refine lv_iconst (v := 1) hx hb dX0_isLesson_10 (by decide) ?_
  refine lv_goto (tgt := 15) hx hb dX0_isLesson_11 (by decide) ?_
  exact ka_rRz C hr hlk rfl rfl dX0_isLesson_15
set_option maxHeartbeats 4000000 in
set_option maxRecDepth 100000 in
theorem cg_X0_isLesson_23 (l : Launch) (D : va_G) (F : Nat → Prop) : ka_R l D F yX0_isLesson wsX0_isLesson 0 0 [.int 1] [] [] (fun v => v = some (.int 1)) := by
  refine ka_R_of (cc := cX0_isLesson) (maxL := 1) (ret := (some .boolean)) (by decide) rfl (Nat.le_of_ble_eq_true rfl) ?_
  intro p e s m below meth c ls C hr hlk hP hK hE hN hl
  have hS : va_S (fun _ => False) s.heap s.heap [] := va_S.rf
  have C : CallFix p m c cX0_isLesson 1 s [.int 1].toArray wsX0_isLesson RX0 := C
  obtain ⟨hx, hb, hml, hown, hts⟩ := id C
  have hl : lv_has ls 1 [(0, .int 1)] := hl
  refine lv_iload_n hx hb dX0_isLesson_0 rfl (lv_at hl 0 rfl) ?_
  refine lv_if_lt (tgt := 14) hx hb dX0_isLesson_1 (by decide) (fun c_ => absurd c_ (by decide)) (fun _ => ?_)
  refine lv_iload_n hx hb dX0_isLesson_4 rfl (lv_at hl 0 rfl) ?_
  refine lv_bipush (v := 6) hx hb dX0_isLesson_5 (by decide) ?_
  refine lv_icmp_ge (tgt := 14) hx hb dX0_isLesson_7 (by decide) (fun c_ => absurd c_ (by decide)) (fun _ => ?_)
  refine lv_iconst (v := 1) hx hb dX0_isLesson_10 (by decide) ?_
  refine lv_goto (tgt := 15) hx hb dX0_isLesson_11 (by decide) ?_
  exact ka_rRz C hr hlk rfl rfl dX0_isLesson_15
set_option maxHeartbeats 4000000 in
set_option maxRecDepth 100000 in
theorem cg_X0_isLesson_24 (l : Launch) (D : va_G) (F : Nat → Prop) : ka_R l D F yX0_isLesson wsX0_isLesson 0 0 [.int 2] [] [] (fun v => v = some (.int 1)) := by
  refine ka_R_of (cc := cX0_isLesson) (maxL := 1) (ret := (some .boolean)) (by decide) rfl (Nat.le_of_ble_eq_true rfl) ?_
  intro p e s m below meth c ls C hr hlk hP hK hE hN hl
  have hS : va_S (fun _ => False) s.heap s.heap [] := va_S.rf
  have C : CallFix p m c cX0_isLesson 1 s [.int 2].toArray wsX0_isLesson RX0 := C
  obtain ⟨hx, hb, hml, hown, hts⟩ := id C
  have hl : lv_has ls 1 [(0, .int 2)] := hl
  refine lv_iload_n hx hb dX0_isLesson_0 rfl (lv_at hl 0 rfl) ?_
  refine lv_if_lt (tgt := 14) hx hb dX0_isLesson_1 (by decide) (fun c_ => absurd c_ (by decide)) (fun _ => ?_)
  refine lv_iload_n hx hb dX0_isLesson_4 rfl (lv_at hl 0 rfl) ?_
  refine lv_bipush (v := 6) hx hb dX0_isLesson_5 (by decide) ?_
  refine lv_icmp_ge (tgt := 14) hx hb dX0_isLesson_7 (by decide) (fun c_ => absurd c_ (by decide)) (fun _ => ?_)
  refine lv_iconst (v := 1) hx hb dX0_isLesson_10 (by decide) ?_
  refine lv_goto (tgt := 15) hx hb dX0_isLesson_11 (by decide) ?_
  exact ka_rRz C hr hlk rfl rfl dX0_isLesson_15
set_option maxHeartbeats 4000000 in
set_option maxRecDepth 100000 in
theorem cg_X0_isLesson_25 (l : Launch) (D : va_G) (F : Nat → Prop) : ka_R l D F yX0_isLesson wsX0_isLesson 0 0 [.int 3] [] [] (fun v => v = some (.int 1)) := by
  refine ka_R_of (cc := cX0_isLesson) (maxL := 1) (ret := (some .boolean)) (by decide) rfl (Nat.le_of_ble_eq_true rfl) ?_
  intro p e s m below meth c ls C hr hlk hP hK hE hN hl
  have hS : va_S (fun _ => False) s.heap s.heap [] := va_S.rf
  have C : CallFix p m c cX0_isLesson 1 s [.int 3].toArray wsX0_isLesson RX0 := C
  obtain ⟨hx, hb, hml, hown, hts⟩ := id C
  have hl : lv_has ls 1 [(0, .int 3)] := hl
  refine lv_iload_n hx hb dX0_isLesson_0 rfl (lv_at hl 0 rfl) ?_
  refine lv_if_lt (tgt := 14) hx hb dX0_isLesson_1 (by decide) (fun c_ => absurd c_ (by decide)) (fun _ => ?_)
  refine lv_iload_n hx hb dX0_isLesson_4 rfl (lv_at hl 0 rfl) ?_
  refine lv_bipush (v := 6) hx hb dX0_isLesson_5 (by decide) ?_
  refine lv_icmp_ge (tgt := 14) hx hb dX0_isLesson_7 (by decide) (fun c_ => absurd c_ (by decide)) (fun _ => ?_)
  refine lv_iconst (v := 1) hx hb dX0_isLesson_10 (by decide) ?_
  refine lv_goto (tgt := 15) hx hb dX0_isLesson_11 (by decide) ?_
  exact ka_rRz C hr hlk rfl rfl dX0_isLesson_15
set_option maxHeartbeats 4000000 in
set_option maxRecDepth 100000 in
theorem cg_X0_isLesson_26 (l : Launch) (D : va_G) (F : Nat → Prop) : ka_R l D F yX0_isLesson wsX0_isLesson 0 0 [.int 4] [] [] (fun v => v = some (.int 1)) := by
  refine ka_R_of (cc := cX0_isLesson) (maxL := 1) (ret := (some .boolean)) (by decide) rfl (Nat.le_of_ble_eq_true rfl) ?_
  intro p e s m below meth c ls C hr hlk hP hK hE hN hl
  have hS : va_S (fun _ => False) s.heap s.heap [] := va_S.rf
  have C : CallFix p m c cX0_isLesson 1 s [.int 4].toArray wsX0_isLesson RX0 := C
  obtain ⟨hx, hb, hml, hown, hts⟩ := id C
  have hl : lv_has ls 1 [(0, .int 4)] := hl
  refine lv_iload_n hx hb dX0_isLesson_0 rfl (lv_at hl 0 rfl) ?_
  refine lv_if_lt (tgt := 14) hx hb dX0_isLesson_1 (by decide) (fun c_ => absurd c_ (by decide)) (fun _ => ?_)
  refine lv_iload_n hx hb dX0_isLesson_4 rfl (lv_at hl 0 rfl) ?_
  refine lv_bipush (v := 6) hx hb dX0_isLesson_5 (by decide) ?_
  refine lv_icmp_ge (tgt := 14) hx hb dX0_isLesson_7 (by decide) (fun c_ => absurd c_ (by decide)) (fun _ => ?_)
  refine lv_iconst (v := 1) hx hb dX0_isLesson_10 (by decide) ?_
  refine lv_goto (tgt := 15) hx hb dX0_isLesson_11 (by decide) ?_
  exact ka_rRz C hr hlk rfl rfl dX0_isLesson_15
set_option maxHeartbeats 4000000 in
set_option maxRecDepth 100000 in
theorem cg_X0_isLesson_27 (l : Launch) (D : va_G) (F : Nat → Prop) : ka_R l D F yX0_isLesson wsX0_isLesson 0 0 [.int 5] [] [] (fun v => v = some (.int 1)) := by
  refine ka_R_of (cc := cX0_isLesson) (maxL := 1) (ret := (some .boolean)) (by decide) rfl (Nat.le_of_ble_eq_true rfl) ?_
  intro p e s m below meth c ls C hr hlk hP hK hE hN hl
  have hS : va_S (fun _ => False) s.heap s.heap [] := va_S.rf
  have C : CallFix p m c cX0_isLesson 1 s [.int 5].toArray wsX0_isLesson RX0 := C
  obtain ⟨hx, hb, hml, hown, hts⟩ := id C
  have hl : lv_has ls 1 [(0, .int 5)] := hl
  refine lv_iload_n hx hb dX0_isLesson_0 rfl (lv_at hl 0 rfl) ?_
  refine lv_if_lt (tgt := 14) hx hb dX0_isLesson_1 (by decide) (fun c_ => absurd c_ (by decide)) (fun _ => ?_)
  refine lv_iload_n hx hb dX0_isLesson_4 rfl (lv_at hl 0 rfl) ?_
  refine lv_bipush (v := 6) hx hb dX0_isLesson_5 (by decide) ?_
  refine lv_icmp_ge (tgt := 14) hx hb dX0_isLesson_7 (by decide) (fun c_ => absurd c_ (by decide)) (fun _ => ?_)
  refine lv_iconst (v := 1) hx hb dX0_isLesson_10 (by decide) ?_
  refine lv_goto (tgt := 15) hx hb dX0_isLesson_11 (by decide) ?_
  exact ka_rRz C hr hlk rfl rfl dX0_isLesson_15
set_option maxHeartbeats 4000000 in
set_option maxRecDepth 100000 in
theorem cg_X0_isLesson_28 (l : Launch) (D : va_G) (F : Nat → Prop) (x0 : Int32) (hx0 : 6 ≤ x0.toInt) : ka_R l D F yX0_isLesson wsX0_isLesson 0 0 [.int x0] [] [] (fun v => v = some (.int 0)) := by
  refine ka_R_of (cc := cX0_isLesson) (maxL := 1) (ret := (some .boolean)) (by decide) rfl (Nat.le_of_ble_eq_true rfl) ?_
  intro p e s m below meth c ls C hr hlk hP hK hE hN hl
  have hS : va_S (fun _ => False) s.heap s.heap [] := va_S.rf
  have C : CallFix p m c cX0_isLesson 1 s [.int x0].toArray wsX0_isLesson RX0 := C
  obtain ⟨hx, hb, hml, hown, hts⟩ := id C
  have hl : lv_has ls 1 [(0, .int x0)] := hl
  have rx0 := ka_rng x0
  refine lv_iload_n hx hb dX0_isLesson_0 rfl (lv_at hl 0 rfl) ?_
  refine lv_if_lt (tgt := 14) hx hb dX0_isLesson_1 (by decide) (fun c_ => absurd c_ (by rw [ka_lt', show ((0 : Int32)).toInt = 0 from by decide]; omega)) (fun _ => ?_)
  refine lv_iload_n hx hb dX0_isLesson_4 rfl (lv_at hl 0 rfl) ?_
  refine lv_bipush (v := 6) hx hb dX0_isLesson_5 (by decide) ?_
  refine lv_icmp_ge (tgt := 14) hx hb dX0_isLesson_7 (by decide) (fun _ => ?_) (fun c_ => absurd (by rw [ka_le', show ((6 : Int32)).toInt = 6 from by decide]; omega) c_)
  refine lv_iconst (v := 0) hx hb dX0_isLesson_14 (by decide) ?_
  exact ka_rRz C hr hlk rfl rfl dX0_isLesson_15
theorem lq_62 : ∀ w ∈ wsX00, w ∈ wsX0_isDone := by decide +kernel
theorem lq_63 : Cond.fieldLink RX0 21 "AskedBack$Course" "done" "I" ∈ wsX0_isDone := by decide +kernel
theorem lq_64 : Cond.initialized RX6 ∈ wsX0_isDone := by decide +kernel
theorem lq_65 : Cond.static yX6_bitAt ∈ wsX0_isDone := by decide +kernel
set_option maxHeartbeats 4000000 in
set_option maxRecDepth 100000 in
theorem cg_X0_isDone_29 (l : Launch) (D : va_G) (F : Nat → Prop) (a0 : Nat) (x0 : Int32) (a1 : Nat) (a2 : Nat) (x1 : Int32) : ka_R l D F yX0_isDone wsX0_isDone 1 21 [.ref a0, .int x0] [(a0, .inr (0, [.ref a1, .ref a2, .int x1]))] [] (fun v => ∃ x : Int32, v = some (.int x) ∧ 0 ≤ x.toInt ∧ x.toInt ≤ 1) := by
  refine ka_R_of (cc := cX0_isDone) (maxL := 2) (ret := (some .boolean)) (by decide) rfl (Nat.le_of_ble_eq_true rfl) ?_
  intro p e s m below meth c ls C hr hlk hP hK hE hN hl
  have hS : va_S (fun _ => False) s.heap s.heap [] := va_S.rf
  have C : CallFix p m c cX0_isDone 2 s [.ref a0, .int x0].toArray wsX0_isDone RX0 := C
  obtain ⟨hx, hb, hml, hown, hts⟩ := id C
  have hl : lv_has ls 2 [(0, .ref a0), (1, .int x0)] := hl
  have rx0 := ka_rng x0
  have rx1 := ka_rng x1
  rcases (show x0.toInt ≤ -1 ∨ x0.toInt = 0 ∨ x0.toInt = 1 ∨ x0.toInt = 2 ∨ x0.toInt = 3 ∨ x0.toInt = 4 ∨ x0.toInt = 5 ∨ 6 ≤ x0.toInt by omega) with y_1554 | y_1554 | y_1554 | y_1554 | y_1554 | y_1554 | y_1554 | y_1554
  · skip
    refine lv_iload_n hx hb dX0_isDone_0 rfl (lv_at hl 1 rfl) ?_
    refine ka_RS (n := 1) C (cg_X0_isLesson_21 l D F x0 (by omega)) gX0_isDone_X0_isLesson rfl (by decide +kernel) ⟨Nat.le_of_ble_eq_true rfl, Nat.le_of_ble_eq_true rfl⟩ hK hP hS hE hN [] rfl [] rfl rfl hl.1 (rest := []) rfl (Nat.le_of_ble_eq_true rfl) dX0_isDone_1 ⟨Nat.le_of_ble_eq_true rfl, Nat.le_of_ble_eq_true rfl⟩ (fun v hv => ?_)
    subst hv
    refine ka_stk (w := [.int 0]) rfl ?_
    refine lv_if_eq (tgt := 23) hx hb dX0_isDone_4 (by decide) (fun _ => ?_) (fun c_ => absurd (by decide) c_)
    refine lv_iconst (v := 0) hx hb dX0_isDone_23 (by decide) ?_
    exact ka_rRz C hr hlk rfl ⟨_, rfl, ⟨by decide, by decide⟩⟩ dX0_isDone_24
  · obtain rfl : x0 = 0 := (ka_eq' _ _).mpr (y_1554.trans (by decide))
    refine lv_iload_n hx hb dX0_isDone_0 rfl (lv_at hl 1 rfl) ?_
    refine ka_RS (n := 1) C (cg_X0_isLesson_22 l D F ) gX0_isDone_X0_isLesson rfl (by decide +kernel) ⟨Nat.le_of_ble_eq_true rfl, Nat.le_of_ble_eq_true rfl⟩ hK hP hS hE hN [] rfl [] rfl rfl hl.1 (rest := []) rfl (Nat.le_of_ble_eq_true rfl) dX0_isDone_1 ⟨Nat.le_of_ble_eq_true rfl, Nat.le_of_ble_eq_true rfl⟩ (fun v hv => ?_)
    subst hv
    refine ka_stk (w := [.int 1]) rfl ?_
    refine lv_if_eq (tgt := 23) hx hb dX0_isDone_4 (by decide) (fun c_ => absurd c_ (by decide)) (fun _ => ?_)
    refine lv_aload_n hx hb dX0_isDone_7 rfl (lv_at hl 0 rfl) ?_
    refine ka_get C lq_62 rfl hK hP 0 rfl 2 (by decide) lq_63 rfl dX0_isDone_8 ?_
    refine lv_iload_n hx hb dX0_isDone_11 rfl (lv_at hl 1 rfl) ?_
    refine ka_RN (n := 2) C (ka_c_bitAt l D F x1 0) gX0_isDone_X6_bitAt_n30 rfl hN.2.2.2.1 lq_64 lq_65 (by decide +kernel) ⟨Nat.le_of_ble_eq_true rfl, Nat.le_of_ble_eq_true rfl⟩ hK hP hS hE hN [] rfl [] rfl rfl hl.1 (rest := []) rfl (Nat.le_of_ble_eq_true rfl) dX0_isDone_12 ⟨Nat.le_of_ble_eq_true rfl, Nat.le_of_ble_eq_true rfl⟩ (fun v hv => ?_)
    subst hv
    refine ka_stk (w := .int (ka_bit x1 0) :: []) rfl ?_
    refine lv_topi (fun v_1555 ev_1555 => ?_)
    have fv_1555 := ka_bit_in x1 0; rw [← ev_1555] at fv_1555
    refine lv_iconst (v := 1) hx hb dX0_isDone_15 (by decide) ?_
    refine lv_icmp_ne (tgt := 23) hx hb dX0_isDone_16 (by decide) (fun c_1556 => ?_) (fun c_1556 => ?_)
    · have c_1556 : ¬ v_1555.toInt = 1 := by rw [ka_eq', show ((1 : Int32)).toInt = 1 from by decide] at c_1556; exact c_1556
      refine lv_iconst (v := 0) hx hb dX0_isDone_23 (by decide) ?_
      exact ka_rRz C hr hlk rfl ⟨_, rfl, ⟨by decide, by decide⟩⟩ dX0_isDone_24
    · have c_1556 : v_1555.toInt = 1 := by rw [ka_eq', show ((1 : Int32)).toInt = 1 from by decide] at c_1556; exact c_1556
      refine lv_iconst (v := 1) hx hb dX0_isDone_19 (by decide) ?_
      refine lv_goto (tgt := 24) hx hb dX0_isDone_20 (by decide) ?_
      exact ka_rRz C hr hlk rfl ⟨_, rfl, ⟨by decide, by decide⟩⟩ dX0_isDone_24
  · obtain rfl : x0 = 1 := (ka_eq' _ _).mpr (y_1554.trans (by decide))
    refine lv_iload_n hx hb dX0_isDone_0 rfl (lv_at hl 1 rfl) ?_
    refine ka_RS (n := 1) C (cg_X0_isLesson_23 l D F ) gX0_isDone_X0_isLesson rfl (by decide +kernel) ⟨Nat.le_of_ble_eq_true rfl, Nat.le_of_ble_eq_true rfl⟩ hK hP hS hE hN [] rfl [] rfl rfl hl.1 (rest := []) rfl (Nat.le_of_ble_eq_true rfl) dX0_isDone_1 ⟨Nat.le_of_ble_eq_true rfl, Nat.le_of_ble_eq_true rfl⟩ (fun v hv => ?_)
    subst hv
    refine ka_stk (w := [.int 1]) rfl ?_
    refine lv_if_eq (tgt := 23) hx hb dX0_isDone_4 (by decide) (fun c_ => absurd c_ (by decide)) (fun _ => ?_)
    refine lv_aload_n hx hb dX0_isDone_7 rfl (lv_at hl 0 rfl) ?_
    refine ka_get C lq_62 rfl hK hP 0 rfl 2 (by decide) lq_63 rfl dX0_isDone_8 ?_
    refine lv_iload_n hx hb dX0_isDone_11 rfl (lv_at hl 1 rfl) ?_
    refine ka_RN (n := 2) C (ka_c_bitAt l D F x1 1) gX0_isDone_X6_bitAt_n30 rfl hN.2.2.2.1 lq_64 lq_65 (by decide +kernel) ⟨Nat.le_of_ble_eq_true rfl, Nat.le_of_ble_eq_true rfl⟩ hK hP hS hE hN [] rfl [] rfl rfl hl.1 (rest := []) rfl (Nat.le_of_ble_eq_true rfl) dX0_isDone_12 ⟨Nat.le_of_ble_eq_true rfl, Nat.le_of_ble_eq_true rfl⟩ (fun v hv => ?_)
    subst hv
    refine ka_stk (w := .int (ka_bit x1 1) :: []) rfl ?_
    refine lv_topi (fun v_1557 ev_1557 => ?_)
    have fv_1557 := ka_bit_in x1 1; rw [← ev_1557] at fv_1557
    refine lv_iconst (v := 1) hx hb dX0_isDone_15 (by decide) ?_
    refine lv_icmp_ne (tgt := 23) hx hb dX0_isDone_16 (by decide) (fun c_1558 => ?_) (fun c_1558 => ?_)
    · have c_1558 : ¬ v_1557.toInt = 1 := by rw [ka_eq', show ((1 : Int32)).toInt = 1 from by decide] at c_1558; exact c_1558
      refine lv_iconst (v := 0) hx hb dX0_isDone_23 (by decide) ?_
      exact ka_rRz C hr hlk rfl ⟨_, rfl, ⟨by decide, by decide⟩⟩ dX0_isDone_24
    · have c_1558 : v_1557.toInt = 1 := by rw [ka_eq', show ((1 : Int32)).toInt = 1 from by decide] at c_1558; exact c_1558
      refine lv_iconst (v := 1) hx hb dX0_isDone_19 (by decide) ?_
      refine lv_goto (tgt := 24) hx hb dX0_isDone_20 (by decide) ?_
      exact ka_rRz C hr hlk rfl ⟨_, rfl, ⟨by decide, by decide⟩⟩ dX0_isDone_24
  · obtain rfl : x0 = 2 := (ka_eq' _ _).mpr (y_1554.trans (by decide))
    refine lv_iload_n hx hb dX0_isDone_0 rfl (lv_at hl 1 rfl) ?_
    refine ka_RS (n := 1) C (cg_X0_isLesson_24 l D F ) gX0_isDone_X0_isLesson rfl (by decide +kernel) ⟨Nat.le_of_ble_eq_true rfl, Nat.le_of_ble_eq_true rfl⟩ hK hP hS hE hN [] rfl [] rfl rfl hl.1 (rest := []) rfl (Nat.le_of_ble_eq_true rfl) dX0_isDone_1 ⟨Nat.le_of_ble_eq_true rfl, Nat.le_of_ble_eq_true rfl⟩ (fun v hv => ?_)
    subst hv
    refine ka_stk (w := [.int 1]) rfl ?_
    refine lv_if_eq (tgt := 23) hx hb dX0_isDone_4 (by decide) (fun c_ => absurd c_ (by decide)) (fun _ => ?_)
    refine lv_aload_n hx hb dX0_isDone_7 rfl (lv_at hl 0 rfl) ?_
    refine ka_get C lq_62 rfl hK hP 0 rfl 2 (by decide) lq_63 rfl dX0_isDone_8 ?_
    refine lv_iload_n hx hb dX0_isDone_11 rfl (lv_at hl 1 rfl) ?_
    refine ka_RN (n := 2) C (ka_c_bitAt l D F x1 2) gX0_isDone_X6_bitAt_n30 rfl hN.2.2.2.1 lq_64 lq_65 (by decide +kernel) ⟨Nat.le_of_ble_eq_true rfl, Nat.le_of_ble_eq_true rfl⟩ hK hP hS hE hN [] rfl [] rfl rfl hl.1 (rest := []) rfl (Nat.le_of_ble_eq_true rfl) dX0_isDone_12 ⟨Nat.le_of_ble_eq_true rfl, Nat.le_of_ble_eq_true rfl⟩ (fun v hv => ?_)
    subst hv
    refine ka_stk (w := .int (ka_bit x1 2) :: []) rfl ?_
    refine lv_topi (fun v_1559 ev_1559 => ?_)
    have fv_1559 := ka_bit_in x1 2; rw [← ev_1559] at fv_1559
    refine lv_iconst (v := 1) hx hb dX0_isDone_15 (by decide) ?_
    refine lv_icmp_ne (tgt := 23) hx hb dX0_isDone_16 (by decide) (fun c_1560 => ?_) (fun c_1560 => ?_)
    · have c_1560 : ¬ v_1559.toInt = 1 := by rw [ka_eq', show ((1 : Int32)).toInt = 1 from by decide] at c_1560; exact c_1560
      refine lv_iconst (v := 0) hx hb dX0_isDone_23 (by decide) ?_
      exact ka_rRz C hr hlk rfl ⟨_, rfl, ⟨by decide, by decide⟩⟩ dX0_isDone_24
    · have c_1560 : v_1559.toInt = 1 := by rw [ka_eq', show ((1 : Int32)).toInt = 1 from by decide] at c_1560; exact c_1560
      refine lv_iconst (v := 1) hx hb dX0_isDone_19 (by decide) ?_
      refine lv_goto (tgt := 24) hx hb dX0_isDone_20 (by decide) ?_
      exact ka_rRz C hr hlk rfl ⟨_, rfl, ⟨by decide, by decide⟩⟩ dX0_isDone_24
  · obtain rfl : x0 = 3 := (ka_eq' _ _).mpr (y_1554.trans (by decide))
    refine lv_iload_n hx hb dX0_isDone_0 rfl (lv_at hl 1 rfl) ?_
    refine ka_RS (n := 1) C (cg_X0_isLesson_25 l D F ) gX0_isDone_X0_isLesson rfl (by decide +kernel) ⟨Nat.le_of_ble_eq_true rfl, Nat.le_of_ble_eq_true rfl⟩ hK hP hS hE hN [] rfl [] rfl rfl hl.1 (rest := []) rfl (Nat.le_of_ble_eq_true rfl) dX0_isDone_1 ⟨Nat.le_of_ble_eq_true rfl, Nat.le_of_ble_eq_true rfl⟩ (fun v hv => ?_)
    subst hv
    refine ka_stk (w := [.int 1]) rfl ?_
    refine lv_if_eq (tgt := 23) hx hb dX0_isDone_4 (by decide) (fun c_ => absurd c_ (by decide)) (fun _ => ?_)
    refine lv_aload_n hx hb dX0_isDone_7 rfl (lv_at hl 0 rfl) ?_
    refine ka_get C lq_62 rfl hK hP 0 rfl 2 (by decide) lq_63 rfl dX0_isDone_8 ?_
    refine lv_iload_n hx hb dX0_isDone_11 rfl (lv_at hl 1 rfl) ?_
    refine ka_RN (n := 2) C (ka_c_bitAt l D F x1 3) gX0_isDone_X6_bitAt_n30 rfl hN.2.2.2.1 lq_64 lq_65 (by decide +kernel) ⟨Nat.le_of_ble_eq_true rfl, Nat.le_of_ble_eq_true rfl⟩ hK hP hS hE hN [] rfl [] rfl rfl hl.1 (rest := []) rfl (Nat.le_of_ble_eq_true rfl) dX0_isDone_12 ⟨Nat.le_of_ble_eq_true rfl, Nat.le_of_ble_eq_true rfl⟩ (fun v hv => ?_)
    subst hv
    refine ka_stk (w := .int (ka_bit x1 3) :: []) rfl ?_
    refine lv_topi (fun v_1561 ev_1561 => ?_)
    have fv_1561 := ka_bit_in x1 3; rw [← ev_1561] at fv_1561
    refine lv_iconst (v := 1) hx hb dX0_isDone_15 (by decide) ?_
    refine lv_icmp_ne (tgt := 23) hx hb dX0_isDone_16 (by decide) (fun c_1562 => ?_) (fun c_1562 => ?_)
    · have c_1562 : ¬ v_1561.toInt = 1 := by rw [ka_eq', show ((1 : Int32)).toInt = 1 from by decide] at c_1562; exact c_1562
      refine lv_iconst (v := 0) hx hb dX0_isDone_23 (by decide) ?_
      exact ka_rRz C hr hlk rfl ⟨_, rfl, ⟨by decide, by decide⟩⟩ dX0_isDone_24
    · have c_1562 : v_1561.toInt = 1 := by rw [ka_eq', show ((1 : Int32)).toInt = 1 from by decide] at c_1562; exact c_1562
      refine lv_iconst (v := 1) hx hb dX0_isDone_19 (by decide) ?_
      refine lv_goto (tgt := 24) hx hb dX0_isDone_20 (by decide) ?_
      exact ka_rRz C hr hlk rfl ⟨_, rfl, ⟨by decide, by decide⟩⟩ dX0_isDone_24
  · obtain rfl : x0 = 4 := (ka_eq' _ _).mpr (y_1554.trans (by decide))
    refine lv_iload_n hx hb dX0_isDone_0 rfl (lv_at hl 1 rfl) ?_
    refine ka_RS (n := 1) C (cg_X0_isLesson_26 l D F ) gX0_isDone_X0_isLesson rfl (by decide +kernel) ⟨Nat.le_of_ble_eq_true rfl, Nat.le_of_ble_eq_true rfl⟩ hK hP hS hE hN [] rfl [] rfl rfl hl.1 (rest := []) rfl (Nat.le_of_ble_eq_true rfl) dX0_isDone_1 ⟨Nat.le_of_ble_eq_true rfl, Nat.le_of_ble_eq_true rfl⟩ (fun v hv => ?_)
    subst hv
    refine ka_stk (w := [.int 1]) rfl ?_
    refine lv_if_eq (tgt := 23) hx hb dX0_isDone_4 (by decide) (fun c_ => absurd c_ (by decide)) (fun _ => ?_)
    refine lv_aload_n hx hb dX0_isDone_7 rfl (lv_at hl 0 rfl) ?_
    refine ka_get C lq_62 rfl hK hP 0 rfl 2 (by decide) lq_63 rfl dX0_isDone_8 ?_
    refine lv_iload_n hx hb dX0_isDone_11 rfl (lv_at hl 1 rfl) ?_
    refine ka_RN (n := 2) C (ka_c_bitAt l D F x1 4) gX0_isDone_X6_bitAt_n30 rfl hN.2.2.2.1 lq_64 lq_65 (by decide +kernel) ⟨Nat.le_of_ble_eq_true rfl, Nat.le_of_ble_eq_true rfl⟩ hK hP hS hE hN [] rfl [] rfl rfl hl.1 (rest := []) rfl (Nat.le_of_ble_eq_true rfl) dX0_isDone_12 ⟨Nat.le_of_ble_eq_true rfl, Nat.le_of_ble_eq_true rfl⟩ (fun v hv => ?_)
    subst hv
    refine ka_stk (w := .int (ka_bit x1 4) :: []) rfl ?_
    refine lv_topi (fun v_1563 ev_1563 => ?_)
    have fv_1563 := ka_bit_in x1 4; rw [← ev_1563] at fv_1563
    refine lv_iconst (v := 1) hx hb dX0_isDone_15 (by decide) ?_
    refine lv_icmp_ne (tgt := 23) hx hb dX0_isDone_16 (by decide) (fun c_1564 => ?_) (fun c_1564 => ?_)
    · have c_1564 : ¬ v_1563.toInt = 1 := by rw [ka_eq', show ((1 : Int32)).toInt = 1 from by decide] at c_1564; exact c_1564
      refine lv_iconst (v := 0) hx hb dX0_isDone_23 (by decide) ?_
      exact ka_rRz C hr hlk rfl ⟨_, rfl, ⟨by decide, by decide⟩⟩ dX0_isDone_24
    · have c_1564 : v_1563.toInt = 1 := by rw [ka_eq', show ((1 : Int32)).toInt = 1 from by decide] at c_1564; exact c_1564
      refine lv_iconst (v := 1) hx hb dX0_isDone_19 (by decide) ?_
      refine lv_goto (tgt := 24) hx hb dX0_isDone_20 (by decide) ?_
      exact ka_rRz C hr hlk rfl ⟨_, rfl, ⟨by decide, by decide⟩⟩ dX0_isDone_24
  · obtain rfl : x0 = 5 := (ka_eq' _ _).mpr (y_1554.trans (by decide))
    refine lv_iload_n hx hb dX0_isDone_0 rfl (lv_at hl 1 rfl) ?_
    refine ka_RS (n := 1) C (cg_X0_isLesson_27 l D F ) gX0_isDone_X0_isLesson rfl (by decide +kernel) ⟨Nat.le_of_ble_eq_true rfl, Nat.le_of_ble_eq_true rfl⟩ hK hP hS hE hN [] rfl [] rfl rfl hl.1 (rest := []) rfl (Nat.le_of_ble_eq_true rfl) dX0_isDone_1 ⟨Nat.le_of_ble_eq_true rfl, Nat.le_of_ble_eq_true rfl⟩ (fun v hv => ?_)
    subst hv
    refine ka_stk (w := [.int 1]) rfl ?_
    refine lv_if_eq (tgt := 23) hx hb dX0_isDone_4 (by decide) (fun c_ => absurd c_ (by decide)) (fun _ => ?_)
    refine lv_aload_n hx hb dX0_isDone_7 rfl (lv_at hl 0 rfl) ?_
    refine ka_get C lq_62 rfl hK hP 0 rfl 2 (by decide) lq_63 rfl dX0_isDone_8 ?_
    refine lv_iload_n hx hb dX0_isDone_11 rfl (lv_at hl 1 rfl) ?_
    refine ka_RN (n := 2) C (ka_c_bitAt l D F x1 5) gX0_isDone_X6_bitAt_n30 rfl hN.2.2.2.1 lq_64 lq_65 (by decide +kernel) ⟨Nat.le_of_ble_eq_true rfl, Nat.le_of_ble_eq_true rfl⟩ hK hP hS hE hN [] rfl [] rfl rfl hl.1 (rest := []) rfl (Nat.le_of_ble_eq_true rfl) dX0_isDone_12 ⟨Nat.le_of_ble_eq_true rfl, Nat.le_of_ble_eq_true rfl⟩ (fun v hv => ?_)
    subst hv
    refine ka_stk (w := .int (ka_bit x1 5) :: []) rfl ?_
    refine lv_topi (fun v_1565 ev_1565 => ?_)
    have fv_1565 := ka_bit_in x1 5; rw [← ev_1565] at fv_1565
    refine lv_iconst (v := 1) hx hb dX0_isDone_15 (by decide) ?_
    refine lv_icmp_ne (tgt := 23) hx hb dX0_isDone_16 (by decide) (fun c_1566 => ?_) (fun c_1566 => ?_)
    · have c_1566 : ¬ v_1565.toInt = 1 := by rw [ka_eq', show ((1 : Int32)).toInt = 1 from by decide] at c_1566; exact c_1566
      refine lv_iconst (v := 0) hx hb dX0_isDone_23 (by decide) ?_
      exact ka_rRz C hr hlk rfl ⟨_, rfl, ⟨by decide, by decide⟩⟩ dX0_isDone_24
    · have c_1566 : v_1565.toInt = 1 := by rw [ka_eq', show ((1 : Int32)).toInt = 1 from by decide] at c_1566; exact c_1566
      refine lv_iconst (v := 1) hx hb dX0_isDone_19 (by decide) ?_
      refine lv_goto (tgt := 24) hx hb dX0_isDone_20 (by decide) ?_
      exact ka_rRz C hr hlk rfl ⟨_, rfl, ⟨by decide, by decide⟩⟩ dX0_isDone_24
  · skip
    refine lv_iload_n hx hb dX0_isDone_0 rfl (lv_at hl 1 rfl) ?_
    refine ka_RS (n := 1) C (cg_X0_isLesson_28 l D F x0 (by omega)) gX0_isDone_X0_isLesson rfl (by decide +kernel) ⟨Nat.le_of_ble_eq_true rfl, Nat.le_of_ble_eq_true rfl⟩ hK hP hS hE hN [] rfl [] rfl rfl hl.1 (rest := []) rfl (Nat.le_of_ble_eq_true rfl) dX0_isDone_1 ⟨Nat.le_of_ble_eq_true rfl, Nat.le_of_ble_eq_true rfl⟩ (fun v hv => ?_)
    subst hv
    refine ka_stk (w := [.int 0]) rfl ?_
    refine lv_if_eq (tgt := 23) hx hb dX0_isDone_4 (by decide) (fun _ => ?_) (fun c_ => absurd (by decide) c_)
    refine lv_iconst (v := 0) hx hb dX0_isDone_23 (by decide) ?_
    exact ka_rRz C hr hlk rfl ⟨_, rfl, ⟨by decide, by decide⟩⟩ dX0_isDone_24
theorem lq_66 : ∀ w ∈ wsX00, w ∈ wsX0_end := by decide +kernel
theorem lq_67 : Cond.fieldLink RX0 21 "AskedBack$Course" "done" "I" ∈ wsX0_end := by decide +kernel
set_option maxHeartbeats 4000000 in
set_option maxRecDepth 100000 in
theorem cg_X0_end_30 (l : Launch) (D : va_G) (F : Nat → Prop) (a0 : Nat) (x0 : Int32) (a1 : Nat) (a2 : Nat) (x1 : Int32) : ka_E l D F yX0_end wsX0_end 1 20 0 0 [.ref a0, .int x0] [(a0, .inr (0, [.ref a1, .ref a2, .int x1]))] [] (fun (u : (Int32)) => none) (fun (u : (Int32)) => True) (fun (u : (Int32)) => [(a0, .inr (0, [.ref a1, .ref a2, .int u]))]) (fun (u : (Int32)) => []) := by
  refine ka_E_of (cc := cX0_end) (maxL := 2) (ret := none) (by decide) rfl (Nat.le_of_ble_eq_true rfl) ?_
  intro p e s m below meth c ls A C hr hlk hin hP hK hD hS hA hE hN hl
  have C : CallFix p m c cX0_end 2 s [.ref a0, .int x0].toArray wsX0_end RX0 := C
  obtain ⟨hx, hb, hml, hown, hts⟩ := id C
  have hl : lv_has ls 2 [(0, .ref a0), (1, .int x0)] := hl
  have rx0 := ka_rng x0
  have rx1 := ka_rng x1
  rcases (show x0.toInt ≤ -1 ∨ x0.toInt = 0 ∨ x0.toInt = 1 ∨ x0.toInt = 2 ∨ x0.toInt = 3 ∨ x0.toInt = 4 ∨ x0.toInt = 5 ∨ 6 ≤ x0.toInt by omega) with y_1616 | y_1616 | y_1616 | y_1616 | y_1616 | y_1616 | y_1616 | y_1616
  · skip
    refine lv_iload_n hx hb dX0_end_0 rfl (lv_at hl 1 rfl) ?_
    refine ka_RS (n := 1) C (cg_X0_isLesson_21 l D F x0 (by omega)) gX0_end_X0_isLesson rfl (by decide +kernel) ⟨Nat.le_of_ble_eq_true rfl, Nat.le_of_ble_eq_true rfl⟩ hK hP hS hE hN [] rfl [] rfl rfl hl.1 (rest := []) rfl (Nat.le_of_ble_eq_true rfl) dX0_end_1 ⟨Nat.le_of_ble_eq_true rfl, Nat.le_of_ble_eq_true rfl⟩ (fun v hv => ?_)
    subst hv
    refine ka_stk (w := [.int 0]) rfl ?_
    refine lv_if_eq (tgt := 19) hx hb dX0_end_4 (by decide) (fun _ => ?_) (fun c_ => absurd (by decide) c_)
    exact ka_rEv C hr hlk (Nat.le_of_ble_eq_true rfl) (Nat.le_of_ble_eq_true rfl) hS (ka_qE x1 rfl trivial hK hP hD hS [0] (by decide) rfl [] rfl) dX0_end_19
  · obtain rfl : x0 = 0 := (ka_eq' _ _).mpr (y_1616.trans (by decide))
    refine lv_iload_n hx hb dX0_end_0 rfl (lv_at hl 1 rfl) ?_
    refine ka_RS (n := 1) C (cg_X0_isLesson_22 l D F ) gX0_end_X0_isLesson rfl (by decide +kernel) ⟨Nat.le_of_ble_eq_true rfl, Nat.le_of_ble_eq_true rfl⟩ hK hP hS hE hN [] rfl [] rfl rfl hl.1 (rest := []) rfl (Nat.le_of_ble_eq_true rfl) dX0_end_1 ⟨Nat.le_of_ble_eq_true rfl, Nat.le_of_ble_eq_true rfl⟩ (fun v hv => ?_)
    subst hv
    refine ka_stk (w := [.int 1]) rfl ?_
    refine lv_if_eq (tgt := 19) hx hb dX0_end_4 (by decide) (fun c_ => absurd c_ (by decide)) (fun _ => ?_)
    refine lv_aload_n hx hb dX0_end_7 rfl (lv_at hl 0 rfl) ?_
    refine lv_dup hx hb dX0_end_8 rfl ?_
    refine ka_get C lq_66 rfl hK hP 0 rfl 2 (by decide) lq_67 rfl dX0_end_9 ?_
    refine lv_iconst (v := 1) hx hb dX0_end_12 (by decide) ?_
    refine lv_iload_n hx hb dX0_end_13 rfl (lv_at hl 1 rfl) ?_
    refine lv_ishl hx hb dX0_end_14 ?_
    refine ka_top (w := .int 1) (congrArg Value.int (by decide)) ?_
    refine lv_ior hx hb dX0_end_15 ?_
    refine lv_topi (fun v_1617 ev_1617 => ?_)
    refine ka_put C lq_66 tyX0 tyX0_ok nmX0 rfl hK hP hD hS 0 rfl 2 (by decide) lq_67 rfl rfl rfl (Nat.le_of_ble_eq_true rfl) dX0_end_16 (fun H locs hP hD hS => ?_)
    have hP : va_P D vwCl [(a0, .inr (0, [.ref a1, .ref a2, .int v_1617]))] H := hP
    have hD : va_D A [(a0, .inr (0, [.ref a1, .ref a2, .int v_1617]))] := hD
    exact ka_rEv C hr hlk (Nat.le_of_ble_eq_true rfl) (Nat.le_of_ble_eq_true rfl) hS (ka_qE v_1617 rfl trivial hK hP hD hS [0] (by decide) rfl [] rfl) dX0_end_19
  · obtain rfl : x0 = 1 := (ka_eq' _ _).mpr (y_1616.trans (by decide))
    refine lv_iload_n hx hb dX0_end_0 rfl (lv_at hl 1 rfl) ?_
    refine ka_RS (n := 1) C (cg_X0_isLesson_23 l D F ) gX0_end_X0_isLesson rfl (by decide +kernel) ⟨Nat.le_of_ble_eq_true rfl, Nat.le_of_ble_eq_true rfl⟩ hK hP hS hE hN [] rfl [] rfl rfl hl.1 (rest := []) rfl (Nat.le_of_ble_eq_true rfl) dX0_end_1 ⟨Nat.le_of_ble_eq_true rfl, Nat.le_of_ble_eq_true rfl⟩ (fun v hv => ?_)
    subst hv
    refine ka_stk (w := [.int 1]) rfl ?_
    refine lv_if_eq (tgt := 19) hx hb dX0_end_4 (by decide) (fun c_ => absurd c_ (by decide)) (fun _ => ?_)
    refine lv_aload_n hx hb dX0_end_7 rfl (lv_at hl 0 rfl) ?_
    refine lv_dup hx hb dX0_end_8 rfl ?_
    refine ka_get C lq_66 rfl hK hP 0 rfl 2 (by decide) lq_67 rfl dX0_end_9 ?_
    refine lv_iconst (v := 1) hx hb dX0_end_12 (by decide) ?_
    refine lv_iload_n hx hb dX0_end_13 rfl (lv_at hl 1 rfl) ?_
    refine lv_ishl hx hb dX0_end_14 ?_
    refine ka_top (w := .int 2) (congrArg Value.int (by decide)) ?_
    refine lv_ior hx hb dX0_end_15 ?_
    refine lv_topi (fun v_1618 ev_1618 => ?_)
    refine ka_put C lq_66 tyX0 tyX0_ok nmX0 rfl hK hP hD hS 0 rfl 2 (by decide) lq_67 rfl rfl rfl (Nat.le_of_ble_eq_true rfl) dX0_end_16 (fun H locs hP hD hS => ?_)
    have hP : va_P D vwCl [(a0, .inr (0, [.ref a1, .ref a2, .int v_1618]))] H := hP
    have hD : va_D A [(a0, .inr (0, [.ref a1, .ref a2, .int v_1618]))] := hD
    exact ka_rEv C hr hlk (Nat.le_of_ble_eq_true rfl) (Nat.le_of_ble_eq_true rfl) hS (ka_qE v_1618 rfl trivial hK hP hD hS [0] (by decide) rfl [] rfl) dX0_end_19
  · obtain rfl : x0 = 2 := (ka_eq' _ _).mpr (y_1616.trans (by decide))
    refine lv_iload_n hx hb dX0_end_0 rfl (lv_at hl 1 rfl) ?_
    refine ka_RS (n := 1) C (cg_X0_isLesson_24 l D F ) gX0_end_X0_isLesson rfl (by decide +kernel) ⟨Nat.le_of_ble_eq_true rfl, Nat.le_of_ble_eq_true rfl⟩ hK hP hS hE hN [] rfl [] rfl rfl hl.1 (rest := []) rfl (Nat.le_of_ble_eq_true rfl) dX0_end_1 ⟨Nat.le_of_ble_eq_true rfl, Nat.le_of_ble_eq_true rfl⟩ (fun v hv => ?_)
    subst hv
    refine ka_stk (w := [.int 1]) rfl ?_
    refine lv_if_eq (tgt := 19) hx hb dX0_end_4 (by decide) (fun c_ => absurd c_ (by decide)) (fun _ => ?_)
    refine lv_aload_n hx hb dX0_end_7 rfl (lv_at hl 0 rfl) ?_
    refine lv_dup hx hb dX0_end_8 rfl ?_
    refine ka_get C lq_66 rfl hK hP 0 rfl 2 (by decide) lq_67 rfl dX0_end_9 ?_
    refine lv_iconst (v := 1) hx hb dX0_end_12 (by decide) ?_
    refine lv_iload_n hx hb dX0_end_13 rfl (lv_at hl 1 rfl) ?_
    refine lv_ishl hx hb dX0_end_14 ?_
    refine ka_top (w := .int 4) (congrArg Value.int (by decide)) ?_
    refine lv_ior hx hb dX0_end_15 ?_
    refine lv_topi (fun v_1619 ev_1619 => ?_)
    refine ka_put C lq_66 tyX0 tyX0_ok nmX0 rfl hK hP hD hS 0 rfl 2 (by decide) lq_67 rfl rfl rfl (Nat.le_of_ble_eq_true rfl) dX0_end_16 (fun H locs hP hD hS => ?_)
    have hP : va_P D vwCl [(a0, .inr (0, [.ref a1, .ref a2, .int v_1619]))] H := hP
    have hD : va_D A [(a0, .inr (0, [.ref a1, .ref a2, .int v_1619]))] := hD
    exact ka_rEv C hr hlk (Nat.le_of_ble_eq_true rfl) (Nat.le_of_ble_eq_true rfl) hS (ka_qE v_1619 rfl trivial hK hP hD hS [0] (by decide) rfl [] rfl) dX0_end_19
  · obtain rfl : x0 = 3 := (ka_eq' _ _).mpr (y_1616.trans (by decide))
    refine lv_iload_n hx hb dX0_end_0 rfl (lv_at hl 1 rfl) ?_
    refine ka_RS (n := 1) C (cg_X0_isLesson_25 l D F ) gX0_end_X0_isLesson rfl (by decide +kernel) ⟨Nat.le_of_ble_eq_true rfl, Nat.le_of_ble_eq_true rfl⟩ hK hP hS hE hN [] rfl [] rfl rfl hl.1 (rest := []) rfl (Nat.le_of_ble_eq_true rfl) dX0_end_1 ⟨Nat.le_of_ble_eq_true rfl, Nat.le_of_ble_eq_true rfl⟩ (fun v hv => ?_)
    subst hv
    refine ka_stk (w := [.int 1]) rfl ?_
    refine lv_if_eq (tgt := 19) hx hb dX0_end_4 (by decide) (fun c_ => absurd c_ (by decide)) (fun _ => ?_)
    refine lv_aload_n hx hb dX0_end_7 rfl (lv_at hl 0 rfl) ?_
    refine lv_dup hx hb dX0_end_8 rfl ?_
    refine ka_get C lq_66 rfl hK hP 0 rfl 2 (by decide) lq_67 rfl dX0_end_9 ?_
    refine lv_iconst (v := 1) hx hb dX0_end_12 (by decide) ?_
    refine lv_iload_n hx hb dX0_end_13 rfl (lv_at hl 1 rfl) ?_
    refine lv_ishl hx hb dX0_end_14 ?_
    refine ka_top (w := .int 8) (congrArg Value.int (by decide)) ?_
    refine lv_ior hx hb dX0_end_15 ?_
    refine lv_topi (fun v_1620 ev_1620 => ?_)
    refine ka_put C lq_66 tyX0 tyX0_ok nmX0 rfl hK hP hD hS 0 rfl 2 (by decide) lq_67 rfl rfl rfl (Nat.le_of_ble_eq_true rfl) dX0_end_16 (fun H locs hP hD hS => ?_)
    have hP : va_P D vwCl [(a0, .inr (0, [.ref a1, .ref a2, .int v_1620]))] H := hP
    have hD : va_D A [(a0, .inr (0, [.ref a1, .ref a2, .int v_1620]))] := hD
    exact ka_rEv C hr hlk (Nat.le_of_ble_eq_true rfl) (Nat.le_of_ble_eq_true rfl) hS (ka_qE v_1620 rfl trivial hK hP hD hS [0] (by decide) rfl [] rfl) dX0_end_19
  · obtain rfl : x0 = 4 := (ka_eq' _ _).mpr (y_1616.trans (by decide))
    refine lv_iload_n hx hb dX0_end_0 rfl (lv_at hl 1 rfl) ?_
    refine ka_RS (n := 1) C (cg_X0_isLesson_26 l D F ) gX0_end_X0_isLesson rfl (by decide +kernel) ⟨Nat.le_of_ble_eq_true rfl, Nat.le_of_ble_eq_true rfl⟩ hK hP hS hE hN [] rfl [] rfl rfl hl.1 (rest := []) rfl (Nat.le_of_ble_eq_true rfl) dX0_end_1 ⟨Nat.le_of_ble_eq_true rfl, Nat.le_of_ble_eq_true rfl⟩ (fun v hv => ?_)
    subst hv
    refine ka_stk (w := [.int 1]) rfl ?_
    refine lv_if_eq (tgt := 19) hx hb dX0_end_4 (by decide) (fun c_ => absurd c_ (by decide)) (fun _ => ?_)
    refine lv_aload_n hx hb dX0_end_7 rfl (lv_at hl 0 rfl) ?_
    refine lv_dup hx hb dX0_end_8 rfl ?_
    refine ka_get C lq_66 rfl hK hP 0 rfl 2 (by decide) lq_67 rfl dX0_end_9 ?_
    refine lv_iconst (v := 1) hx hb dX0_end_12 (by decide) ?_
    refine lv_iload_n hx hb dX0_end_13 rfl (lv_at hl 1 rfl) ?_
    refine lv_ishl hx hb dX0_end_14 ?_
    refine ka_top (w := .int 16) (congrArg Value.int (by decide)) ?_
    refine lv_ior hx hb dX0_end_15 ?_
    refine lv_topi (fun v_1621 ev_1621 => ?_)
    refine ka_put C lq_66 tyX0 tyX0_ok nmX0 rfl hK hP hD hS 0 rfl 2 (by decide) lq_67 rfl rfl rfl (Nat.le_of_ble_eq_true rfl) dX0_end_16 (fun H locs hP hD hS => ?_)
    have hP : va_P D vwCl [(a0, .inr (0, [.ref a1, .ref a2, .int v_1621]))] H := hP
    have hD : va_D A [(a0, .inr (0, [.ref a1, .ref a2, .int v_1621]))] := hD
    exact ka_rEv C hr hlk (Nat.le_of_ble_eq_true rfl) (Nat.le_of_ble_eq_true rfl) hS (ka_qE v_1621 rfl trivial hK hP hD hS [0] (by decide) rfl [] rfl) dX0_end_19
  · obtain rfl : x0 = 5 := (ka_eq' _ _).mpr (y_1616.trans (by decide))
    refine lv_iload_n hx hb dX0_end_0 rfl (lv_at hl 1 rfl) ?_
    refine ka_RS (n := 1) C (cg_X0_isLesson_27 l D F ) gX0_end_X0_isLesson rfl (by decide +kernel) ⟨Nat.le_of_ble_eq_true rfl, Nat.le_of_ble_eq_true rfl⟩ hK hP hS hE hN [] rfl [] rfl rfl hl.1 (rest := []) rfl (Nat.le_of_ble_eq_true rfl) dX0_end_1 ⟨Nat.le_of_ble_eq_true rfl, Nat.le_of_ble_eq_true rfl⟩ (fun v hv => ?_)
    subst hv
    refine ka_stk (w := [.int 1]) rfl ?_
    refine lv_if_eq (tgt := 19) hx hb dX0_end_4 (by decide) (fun c_ => absurd c_ (by decide)) (fun _ => ?_)
    refine lv_aload_n hx hb dX0_end_7 rfl (lv_at hl 0 rfl) ?_
    refine lv_dup hx hb dX0_end_8 rfl ?_
    refine ka_get C lq_66 rfl hK hP 0 rfl 2 (by decide) lq_67 rfl dX0_end_9 ?_
    refine lv_iconst (v := 1) hx hb dX0_end_12 (by decide) ?_
    refine lv_iload_n hx hb dX0_end_13 rfl (lv_at hl 1 rfl) ?_
    refine lv_ishl hx hb dX0_end_14 ?_
    refine ka_top (w := .int 32) (congrArg Value.int (by decide)) ?_
    refine lv_ior hx hb dX0_end_15 ?_
    refine lv_topi (fun v_1622 ev_1622 => ?_)
    refine ka_put C lq_66 tyX0 tyX0_ok nmX0 rfl hK hP hD hS 0 rfl 2 (by decide) lq_67 rfl rfl rfl (Nat.le_of_ble_eq_true rfl) dX0_end_16 (fun H locs hP hD hS => ?_)
    have hP : va_P D vwCl [(a0, .inr (0, [.ref a1, .ref a2, .int v_1622]))] H := hP
    have hD : va_D A [(a0, .inr (0, [.ref a1, .ref a2, .int v_1622]))] := hD
    exact ka_rEv C hr hlk (Nat.le_of_ble_eq_true rfl) (Nat.le_of_ble_eq_true rfl) hS (ka_qE v_1622 rfl trivial hK hP hD hS [0] (by decide) rfl [] rfl) dX0_end_19
  · skip
    refine lv_iload_n hx hb dX0_end_0 rfl (lv_at hl 1 rfl) ?_
    refine ka_RS (n := 1) C (cg_X0_isLesson_28 l D F x0 (by omega)) gX0_end_X0_isLesson rfl (by decide +kernel) ⟨Nat.le_of_ble_eq_true rfl, Nat.le_of_ble_eq_true rfl⟩ hK hP hS hE hN [] rfl [] rfl rfl hl.1 (rest := []) rfl (Nat.le_of_ble_eq_true rfl) dX0_end_1 ⟨Nat.le_of_ble_eq_true rfl, Nat.le_of_ble_eq_true rfl⟩ (fun v hv => ?_)
    subst hv
    refine ka_stk (w := [.int 0]) rfl ?_
    refine lv_if_eq (tgt := 19) hx hb dX0_end_4 (by decide) (fun _ => ?_) (fun c_ => absurd (by decide) c_)
    exact ka_rEv C hr hlk (Nat.le_of_ble_eq_true rfl) (Nat.le_of_ble_eq_true rfl) hS (ka_qE x1 rfl trivial hK hP hD hS [0] (by decide) rfl [] rfl) dX0_end_19
theorem lq_68 : ∀ w ∈ wsX00, w ∈ wsX0_neededInTheEnd := by decide +kernel
theorem lq_69 : Cond.fieldLink RX0 17 "AskedBack$Course" "needed" "[I" ∈ wsX0_neededInTheEnd := by decide +kernel
theorem lq_70 : Cond.initialized RX6 ∈ wsX0_neededInTheEnd := by decide +kernel
theorem lq_71 : Cond.static yX6_bitAt ∈ wsX0_neededInTheEnd := by decide +kernel
set_option maxHeartbeats 4000000 in
set_option maxRecDepth 100000 in
theorem cg_X0_neededInTheEnd_31 (l : Launch) (D : va_G) (F : Nat → Prop) (a0 : Nat) (x0 : Int32) (a1 : Nat) (a2 : Nat) (x1 : Int32) (k0 : ClassId) (f0 : Nat → Int32) (hx0 : 0 ≤ x0.toInt ∧ x0.toInt ≤ 5) : ka_R l D F yX0_neededInTheEnd wsX0_neededInTheEnd 1 21 [.ref a0, .int x0] [(a0, .inr (0, [.ref a1, .ref a2, .int x1])), (a2, .inl (k0, 6, .inl f0))] [(k0, .int)] (fun v => ∃ x : Int32, v = some (.int x)) := by
  refine ka_R_of (cc := cX0_neededInTheEnd) (maxL := 5) (ret := (some .int)) (by decide) rfl (Nat.le_of_ble_eq_true rfl) ?_
  intro p e s m below meth c ls C hr hlk hP hK hE hN hl
  have hS : va_S (fun _ => False) s.heap s.heap [] := va_S.rf
  have C : CallFix p m c cX0_neededInTheEnd 5 s [.ref a0, .int x0].toArray wsX0_neededInTheEnd RX0 := C
  obtain ⟨hx, hb, hml, hown, hts⟩ := id C
  have hl : lv_has ls 5 [(0, .ref a0), (1, .int x0)] := hl
  have rx0 := ka_rng x0
  have rx1 := ka_rng x1
  refine lv_iconst (v := 1) hx hb dX0_neededInTheEnd_0 (by decide) ?_
  refine lv_iload_n hx hb dX0_neededInTheEnd_1 rfl (lv_at hl 1 rfl) ?_
  refine lv_ishl hx hb dX0_neededInTheEnd_2 ?_
  refine lv_topi (fun v_1736 ev_1736 => ?_)
  refine lv_istore_n (lv' := [(2, .int v_1736), (0, .ref a0), (1, .int x0)]) hx hb dX0_neededInTheEnd_3 rfl hl (by decide) rfl (fun ls hl => ?_)
  refine lv_iconst (v := 0) hx hb dX0_neededInTheEnd_4 (by decide) ?_
  refine lv_istore_n (lv' := [(3, .int 0), (2, .int v_1736), (0, .ref a0), (1, .int x0)]) hx hb dX0_neededInTheEnd_5 rfl hl (by decide) rfl (fun ls hl => ?_)
  have lp_1737 : ∀ (n : Nat) (i1737_2 : Int32) (i1737_3 : Int32), (0 ≤ i1737_3.toInt ∧ i1737_3.toInt ≤ 6) → (6 - i1737_3.toInt).toNat < n → ∀ (ls : Array Slot), lv_has ls 5 [(0, .ref a0), (1, .int x0), (2, .int i1737_2), (3, .int i1737_3)] → W p l e ({ frames := 1, cells := 0, slots := 0, locals := 21 }) s m [.ref a0, .int x0].toArray below meth c s.heap [] 0 0 (MQ below (ka_QR (fun v => ∃ x : Int32, v = some (.int x))) [.ref a0, .int x0].toArray s 0 0 (fun _ => False)) (F0 m 6 ls []) := by
    intro n
    induction n with
    | zero =>
      intro i1737_2 i1737_3 hi1737_3 hm
      exact absurd hm (Nat.not_lt_zero _)
    | succ n ih_1737 =>
      intro i1737_2 i1737_3 hi1737_3 hm ls hl
      have ri1737_2 := ka_rng i1737_2
      have ri1737_3 := ka_rng i1737_3
      refine lv_iload_n hx hb dX0_neededInTheEnd_6 rfl (lv_at hl 3 rfl) ?_
      refine lv_bipush (v := 6) hx hb dX0_neededInTheEnd_7 (by decide) ?_
      refine lv_icmp_ge (tgt := 57) hx hb dX0_neededInTheEnd_9 (by decide) (fun c_1756 => ?_) (fun c_1756 => ?_)
      · have c_1756 : 6 ≤ i1737_3.toInt := by rw [ka_le', show ((6 : Int32)).toInt = 6 from by decide] at c_1756; exact c_1756
        refine lv_iload_n hx hb dX0_neededInTheEnd_57 rfl (lv_at hl 2 rfl) ?_
        exact ka_rRi C hr hlk ⟨_, rfl⟩ dX0_neededInTheEnd_58
      · have c_1756 : ¬ 6 ≤ i1737_3.toInt := by rw [ka_le', show ((6 : Int32)).toInt = 6 from by decide] at c_1756; exact c_1756
        refine lv_iconst (v := 0) hx hb dX0_neededInTheEnd_12 (by decide) ?_
        refine lv_istore (lv' := [(4, .int 0), (0, .ref a0), (1, .int x0), (2, .int i1737_2), (3, .int i1737_3)]) hx hb dX0_neededInTheEnd_13 hl (by decide) rfl (fun ls hl => ?_)
        have lp_1757 : ∀ (n : Nat) (i1757_2 : Int32) (i1757_4 : Int32), (0 ≤ i1757_4.toInt ∧ i1757_4.toInt ≤ 6) → (6 - i1757_4.toInt).toNat < n → ∀ (ls : Array Slot), lv_has ls 5 [(0, .ref a0), (1, .int x0), (2, .int i1757_2), (3, .int i1737_3), (4, .int i1757_4)] → W p l e ({ frames := 1, cells := 0, slots := 0, locals := 21 }) s m [.ref a0, .int x0].toArray below meth c s.heap [] 0 0 (MQ below (ka_QR (fun v => ∃ x : Int32, v = some (.int x))) [.ref a0, .int x0].toArray s 0 0 (fun _ => False)) (F0 m 15 ls []) := by
          intro n
          induction n with
          | zero =>
            intro i1757_2 i1757_4 hi1757_4 hm
            exact absurd hm (Nat.not_lt_zero _)
          | succ n ih_1757 =>
            intro i1757_2 i1757_4 hi1757_4 hm ls hl
            have ri1757_2 := ka_rng i1757_2
            have ri1757_4 := ka_rng i1757_4
            refine lv_iload hx hb dX0_neededInTheEnd_15 (lv_at hl 4 rfl) ?_
            refine lv_aload_n hx hb dX0_neededInTheEnd_17 rfl (lv_at hl 0 rfl) ?_
            refine ka_get C lq_68 rfl hK hP 0 rfl 1 (by decide) lq_69 rfl dX0_neededInTheEnd_18 ?_
            refine va_alen hx hb hK hP 1 0 rfl (ty := .int) rfl (v := 6) rfl dX0_neededInTheEnd_21 ?_
            refine lv_icmp_ge (tgt := 51) hx hb dX0_neededInTheEnd_22 (by decide) (fun c_1766 => ?_) (fun c_1766 => ?_)
            · have c_1766 : 6 ≤ i1757_4.toInt := by rw [ka_le', show ((6 : Int32)).toInt = 6 from by decide] at c_1766; exact c_1766
              obtain ⟨v_1767, ev_1767⟩ : ∃ y : Int32, y = i1737_3 + 1 := ⟨_, rfl⟩
              refine lv_iinc (v := v_1767) (lv' := [(3, .int v_1767), (0, .ref a0), (1, .int x0), (2, .int i1757_2), (4, .int i1757_4)]) hx hb dX0_neededInTheEnd_51 hl (k := 3) rfl (by rw [ev_1767]; rfl) (by decide) rfl (fun ls hl => ?_)
              have fv_1767 : v_1767.toInt = i1737_3.toInt + 1 := by rw [ev_1767]; exact ka_add (x := i1737_3.toInt) (y := 1) rfl (by decide) (by omega) (by omega)
              refine lv_goto (tgt := 6) hx hb dX0_neededInTheEnd_54 (by decide) ?_
              exact ih_1737 i1757_2 v_1767 ⟨by omega, by omega⟩ (by omega) ls (lv_sub hl [1, 2, 3, 0] rfl)
            · have c_1766 : ¬ 6 ≤ i1757_4.toInt := by rw [ka_le', show ((6 : Int32)).toInt = 6 from by decide] at c_1766; exact c_1766
              refine lv_iload_n hx hb dX0_neededInTheEnd_25 rfl (lv_at hl 2 rfl) ?_
              refine lv_iload hx hb dX0_neededInTheEnd_26 (lv_at hl 4 rfl) ?_
              refine ka_RN (n := 2) C (ka_c_bitAt l D F i1757_2 i1757_4) gX0_neededInTheEnd_X6_bitAt_n30 rfl hN.2.2.2.1 lq_70 lq_71 (by decide +kernel) ⟨Nat.le_of_ble_eq_true rfl, Nat.le_of_ble_eq_true rfl⟩ hK hP hS hE hN [] rfl [] rfl rfl hl.1 (rest := []) rfl (Nat.le_of_ble_eq_true rfl) dX0_neededInTheEnd_28 ⟨Nat.le_of_ble_eq_true rfl, Nat.le_of_ble_eq_true rfl⟩ (fun v hv => ?_)
              subst hv
              refine ka_stk (w := .int (ka_bit i1757_2 i1757_4) :: []) rfl ?_
              refine lv_topi (fun v_1768 ev_1768 => ?_)
              have fv_1768 := ka_bit_in i1757_2 i1757_4; rw [← ev_1768] at fv_1768
              refine lv_iconst (v := 1) hx hb dX0_neededInTheEnd_31 (by decide) ?_
              refine lv_icmp_ne (tgt := 45) hx hb dX0_neededInTheEnd_32 (by decide) (fun c_1769 => ?_) (fun c_1769 => ?_)
              · have c_1769 : ¬ v_1768.toInt = 1 := by rw [ka_eq', show ((1 : Int32)).toInt = 1 from by decide] at c_1769; exact c_1769
                obtain ⟨v_1770, ev_1770⟩ : ∃ y : Int32, y = i1757_4 + 1 := ⟨_, rfl⟩
                refine lv_iinc (v := v_1770) (lv' := [(4, .int v_1770), (0, .ref a0), (1, .int x0), (2, .int i1757_2), (3, .int i1737_3)]) hx hb dX0_neededInTheEnd_45 hl (k := 4) rfl (by rw [ev_1770]; rfl) (by decide) rfl (fun ls hl => ?_)
                have fv_1770 : v_1770.toInt = i1757_4.toInt + 1 := by rw [ev_1770]; exact ka_add (x := i1757_4.toInt) (y := 1) rfl (by decide) (by omega) (by omega)
                refine lv_goto (tgt := 15) hx hb dX0_neededInTheEnd_48 (by decide) ?_
                exact ih_1757 i1757_2 v_1770 ⟨by omega, by omega⟩ (by omega) ls (lv_sub hl [1, 2, 3, 4, 0] rfl)
              · have c_1769 : v_1768.toInt = 1 := by rw [ka_eq', show ((1 : Int32)).toInt = 1 from by decide] at c_1769; exact c_1769
                refine lv_iload_n hx hb dX0_neededInTheEnd_35 rfl (lv_at hl 2 rfl) ?_
                refine lv_aload_n hx hb dX0_neededInTheEnd_36 rfl (lv_at hl 0 rfl) ?_
                refine ka_get C lq_68 rfl hK hP 0 rfl 1 (by decide) lq_69 rfl dX0_neededInTheEnd_37 ?_
                refine lv_iload hx hb dX0_neededInTheEnd_40 (lv_at hl 4 rfl) ?_
                refine va_iald hx hb hK hP 1 0 rfl rfl (ka_in (by omega) (by omega)) dX0_neededInTheEnd_42 ?_
                refine lv_topi (fun v_1771 ev_1771 => ?_)
                refine lv_ior hx hb dX0_neededInTheEnd_43 ?_
                refine lv_topi (fun v_1772 ev_1772 => ?_)
                refine lv_istore_n (lv' := [(2, .int v_1772), (0, .ref a0), (1, .int x0), (3, .int i1737_3), (4, .int i1757_4)]) hx hb dX0_neededInTheEnd_44 rfl hl (by decide) rfl (fun ls hl => ?_)
                obtain ⟨v_1773, ev_1773⟩ : ∃ y : Int32, y = i1757_4 + 1 := ⟨_, rfl⟩
                refine lv_iinc (v := v_1773) (lv' := [(4, .int v_1773), (2, .int v_1772), (0, .ref a0), (1, .int x0), (3, .int i1737_3)]) hx hb dX0_neededInTheEnd_45 hl (k := 4) rfl (by rw [ev_1773]; rfl) (by decide) rfl (fun ls hl => ?_)
                have fv_1773 : v_1773.toInt = i1757_4.toInt + 1 := by rw [ev_1773]; exact ka_add (x := i1757_4.toInt) (y := 1) rfl (by decide) (by omega) (by omega)
                refine lv_goto (tgt := 15) hx hb dX0_neededInTheEnd_48 (by decide) ?_
                exact ih_1757 v_1772 v_1773 ⟨by omega, by omega⟩ (by omega) ls (lv_sub hl [2, 3, 1, 4, 0] rfl)
        exact lp_1757 _ i1737_2 0 ⟨by decide, by decide⟩ (Nat.lt_succ_self _) ls (lv_sub hl [1, 2, 3, 4, 0] rfl)
  exact lp_1737 _ v_1736 0 ⟨by decide, by decide⟩ (Nat.lt_succ_self _) ls (lv_sub hl [2, 3, 1, 0] rfl)
set_option maxHeartbeats 4000000 in
set_option maxRecDepth 100000 in
theorem cg_X0_neededInTheEnd_32 (l : Launch) (D : va_G) (F : Nat → Prop) (a0 : Nat) (a1 : Nat) (a2 : Nat) (x0 : Int32) (k0 : ClassId) (f0 : Nat → Int32) : ka_R l D F yX0_neededInTheEnd wsX0_neededInTheEnd 1 21 [.ref a0, .int 1] [(a0, .inr (0, [.ref a1, .ref a2, .int x0])), (a2, .inl (k0, 6, .inl f0))] [(k0, .int)] (fun v => ∃ x : Int32, v = some (.int x)) := by
  refine ka_R_of (cc := cX0_neededInTheEnd) (maxL := 5) (ret := (some .int)) (by decide) rfl (Nat.le_of_ble_eq_true rfl) ?_
  intro p e s m below meth c ls C hr hlk hP hK hE hN hl
  have hS : va_S (fun _ => False) s.heap s.heap [] := va_S.rf
  have C : CallFix p m c cX0_neededInTheEnd 5 s [.ref a0, .int 1].toArray wsX0_neededInTheEnd RX0 := C
  obtain ⟨hx, hb, hml, hown, hts⟩ := id C
  have hl : lv_has ls 5 [(0, .ref a0), (1, .int 1)] := hl
  have rx0 := ka_rng x0
  refine lv_iconst (v := 1) hx hb dX0_neededInTheEnd_0 (by decide) ?_
  refine lv_iload_n hx hb dX0_neededInTheEnd_1 rfl (lv_at hl 1 rfl) ?_
  refine lv_ishl hx hb dX0_neededInTheEnd_2 ?_
  refine ka_top (w := .int 2) (congrArg Value.int (by decide)) ?_
  refine lv_istore_n (lv' := [(2, .int 2), (0, .ref a0), (1, .int 1)]) hx hb dX0_neededInTheEnd_3 rfl hl (by decide) rfl (fun ls hl => ?_)
  refine lv_iconst (v := 0) hx hb dX0_neededInTheEnd_4 (by decide) ?_
  refine lv_istore_n (lv' := [(3, .int 0), (2, .int 2), (0, .ref a0), (1, .int 1)]) hx hb dX0_neededInTheEnd_5 rfl hl (by decide) rfl (fun ls hl => ?_)
  have lp_1925 : ∀ (n : Nat) (i1925_2 : Int32) (i1925_3 : Int32), (0 ≤ i1925_3.toInt ∧ i1925_3.toInt ≤ 6) → (6 - i1925_3.toInt).toNat < n → ∀ (ls : Array Slot), lv_has ls 5 [(0, .ref a0), (1, .int 1), (2, .int i1925_2), (3, .int i1925_3)] → W p l e ({ frames := 1, cells := 0, slots := 0, locals := 21 }) s m [.ref a0, .int 1].toArray below meth c s.heap [] 0 0 (MQ below (ka_QR (fun v => ∃ x : Int32, v = some (.int x))) [.ref a0, .int 1].toArray s 0 0 (fun _ => False)) (F0 m 6 ls []) := by
    intro n
    induction n with
    | zero =>
      intro i1925_2 i1925_3 hi1925_3 hm
      exact absurd hm (Nat.not_lt_zero _)
    | succ n ih_1925 =>
      intro i1925_2 i1925_3 hi1925_3 hm ls hl
      have ri1925_2 := ka_rng i1925_2
      have ri1925_3 := ka_rng i1925_3
      refine lv_iload_n hx hb dX0_neededInTheEnd_6 rfl (lv_at hl 3 rfl) ?_
      refine lv_bipush (v := 6) hx hb dX0_neededInTheEnd_7 (by decide) ?_
      refine lv_icmp_ge (tgt := 57) hx hb dX0_neededInTheEnd_9 (by decide) (fun c_1944 => ?_) (fun c_1944 => ?_)
      · have c_1944 : 6 ≤ i1925_3.toInt := by rw [ka_le', show ((6 : Int32)).toInt = 6 from by decide] at c_1944; exact c_1944
        refine lv_iload_n hx hb dX0_neededInTheEnd_57 rfl (lv_at hl 2 rfl) ?_
        exact ka_rRi C hr hlk ⟨_, rfl⟩ dX0_neededInTheEnd_58
      · have c_1944 : ¬ 6 ≤ i1925_3.toInt := by rw [ka_le', show ((6 : Int32)).toInt = 6 from by decide] at c_1944; exact c_1944
        refine lv_iconst (v := 0) hx hb dX0_neededInTheEnd_12 (by decide) ?_
        refine lv_istore (lv' := [(4, .int 0), (0, .ref a0), (1, .int 1), (2, .int i1925_2), (3, .int i1925_3)]) hx hb dX0_neededInTheEnd_13 hl (by decide) rfl (fun ls hl => ?_)
        have lp_1945 : ∀ (n : Nat) (i1945_2 : Int32) (i1945_4 : Int32), (0 ≤ i1945_4.toInt ∧ i1945_4.toInt ≤ 6) → (6 - i1945_4.toInt).toNat < n → ∀ (ls : Array Slot), lv_has ls 5 [(0, .ref a0), (1, .int 1), (2, .int i1945_2), (3, .int i1925_3), (4, .int i1945_4)] → W p l e ({ frames := 1, cells := 0, slots := 0, locals := 21 }) s m [.ref a0, .int 1].toArray below meth c s.heap [] 0 0 (MQ below (ka_QR (fun v => ∃ x : Int32, v = some (.int x))) [.ref a0, .int 1].toArray s 0 0 (fun _ => False)) (F0 m 15 ls []) := by
          intro n
          induction n with
          | zero =>
            intro i1945_2 i1945_4 hi1945_4 hm
            exact absurd hm (Nat.not_lt_zero _)
          | succ n ih_1945 =>
            intro i1945_2 i1945_4 hi1945_4 hm ls hl
            have ri1945_2 := ka_rng i1945_2
            have ri1945_4 := ka_rng i1945_4
            refine lv_iload hx hb dX0_neededInTheEnd_15 (lv_at hl 4 rfl) ?_
            refine lv_aload_n hx hb dX0_neededInTheEnd_17 rfl (lv_at hl 0 rfl) ?_
            refine ka_get C lq_68 rfl hK hP 0 rfl 1 (by decide) lq_69 rfl dX0_neededInTheEnd_18 ?_
            refine va_alen hx hb hK hP 1 0 rfl (ty := .int) rfl (v := 6) rfl dX0_neededInTheEnd_21 ?_
            refine lv_icmp_ge (tgt := 51) hx hb dX0_neededInTheEnd_22 (by decide) (fun c_1954 => ?_) (fun c_1954 => ?_)
            · have c_1954 : 6 ≤ i1945_4.toInt := by rw [ka_le', show ((6 : Int32)).toInt = 6 from by decide] at c_1954; exact c_1954
              obtain ⟨v_1955, ev_1955⟩ : ∃ y : Int32, y = i1925_3 + 1 := ⟨_, rfl⟩
              refine lv_iinc (v := v_1955) (lv' := [(3, .int v_1955), (0, .ref a0), (1, .int 1), (2, .int i1945_2), (4, .int i1945_4)]) hx hb dX0_neededInTheEnd_51 hl (k := 3) rfl (by rw [ev_1955]; rfl) (by decide) rfl (fun ls hl => ?_)
              have fv_1955 : v_1955.toInt = i1925_3.toInt + 1 := by rw [ev_1955]; exact ka_add (x := i1925_3.toInt) (y := 1) rfl (by decide) (by omega) (by omega)
              refine lv_goto (tgt := 6) hx hb dX0_neededInTheEnd_54 (by decide) ?_
              exact ih_1925 i1945_2 v_1955 ⟨by omega, by omega⟩ (by omega) ls (lv_sub hl [1, 2, 3, 0] rfl)
            · have c_1954 : ¬ 6 ≤ i1945_4.toInt := by rw [ka_le', show ((6 : Int32)).toInt = 6 from by decide] at c_1954; exact c_1954
              refine lv_iload_n hx hb dX0_neededInTheEnd_25 rfl (lv_at hl 2 rfl) ?_
              refine lv_iload hx hb dX0_neededInTheEnd_26 (lv_at hl 4 rfl) ?_
              refine ka_RN (n := 2) C (ka_c_bitAt l D F i1945_2 i1945_4) gX0_neededInTheEnd_X6_bitAt_n30 rfl hN.2.2.2.1 lq_70 lq_71 (by decide +kernel) ⟨Nat.le_of_ble_eq_true rfl, Nat.le_of_ble_eq_true rfl⟩ hK hP hS hE hN [] rfl [] rfl rfl hl.1 (rest := []) rfl (Nat.le_of_ble_eq_true rfl) dX0_neededInTheEnd_28 ⟨Nat.le_of_ble_eq_true rfl, Nat.le_of_ble_eq_true rfl⟩ (fun v hv => ?_)
              subst hv
              refine ka_stk (w := .int (ka_bit i1945_2 i1945_4) :: []) rfl ?_
              refine lv_topi (fun v_1956 ev_1956 => ?_)
              have fv_1956 := ka_bit_in i1945_2 i1945_4; rw [← ev_1956] at fv_1956
              refine lv_iconst (v := 1) hx hb dX0_neededInTheEnd_31 (by decide) ?_
              refine lv_icmp_ne (tgt := 45) hx hb dX0_neededInTheEnd_32 (by decide) (fun c_1957 => ?_) (fun c_1957 => ?_)
              · have c_1957 : ¬ v_1956.toInt = 1 := by rw [ka_eq', show ((1 : Int32)).toInt = 1 from by decide] at c_1957; exact c_1957
                obtain ⟨v_1958, ev_1958⟩ : ∃ y : Int32, y = i1945_4 + 1 := ⟨_, rfl⟩
                refine lv_iinc (v := v_1958) (lv' := [(4, .int v_1958), (0, .ref a0), (1, .int 1), (2, .int i1945_2), (3, .int i1925_3)]) hx hb dX0_neededInTheEnd_45 hl (k := 4) rfl (by rw [ev_1958]; rfl) (by decide) rfl (fun ls hl => ?_)
                have fv_1958 : v_1958.toInt = i1945_4.toInt + 1 := by rw [ev_1958]; exact ka_add (x := i1945_4.toInt) (y := 1) rfl (by decide) (by omega) (by omega)
                refine lv_goto (tgt := 15) hx hb dX0_neededInTheEnd_48 (by decide) ?_
                exact ih_1945 i1945_2 v_1958 ⟨by omega, by omega⟩ (by omega) ls (lv_sub hl [1, 2, 3, 4, 0] rfl)
              · have c_1957 : v_1956.toInt = 1 := by rw [ka_eq', show ((1 : Int32)).toInt = 1 from by decide] at c_1957; exact c_1957
                refine lv_iload_n hx hb dX0_neededInTheEnd_35 rfl (lv_at hl 2 rfl) ?_
                refine lv_aload_n hx hb dX0_neededInTheEnd_36 rfl (lv_at hl 0 rfl) ?_
                refine ka_get C lq_68 rfl hK hP 0 rfl 1 (by decide) lq_69 rfl dX0_neededInTheEnd_37 ?_
                refine lv_iload hx hb dX0_neededInTheEnd_40 (lv_at hl 4 rfl) ?_
                refine va_iald hx hb hK hP 1 0 rfl rfl (ka_in (by omega) (by omega)) dX0_neededInTheEnd_42 ?_
                refine lv_topi (fun v_1959 ev_1959 => ?_)
                refine lv_ior hx hb dX0_neededInTheEnd_43 ?_
                refine lv_topi (fun v_1960 ev_1960 => ?_)
                refine lv_istore_n (lv' := [(2, .int v_1960), (0, .ref a0), (1, .int 1), (3, .int i1925_3), (4, .int i1945_4)]) hx hb dX0_neededInTheEnd_44 rfl hl (by decide) rfl (fun ls hl => ?_)
                obtain ⟨v_1961, ev_1961⟩ : ∃ y : Int32, y = i1945_4 + 1 := ⟨_, rfl⟩
                refine lv_iinc (v := v_1961) (lv' := [(4, .int v_1961), (2, .int v_1960), (0, .ref a0), (1, .int 1), (3, .int i1925_3)]) hx hb dX0_neededInTheEnd_45 hl (k := 4) rfl (by rw [ev_1961]; rfl) (by decide) rfl (fun ls hl => ?_)
                have fv_1961 : v_1961.toInt = i1945_4.toInt + 1 := by rw [ev_1961]; exact ka_add (x := i1945_4.toInt) (y := 1) rfl (by decide) (by omega) (by omega)
                refine lv_goto (tgt := 15) hx hb dX0_neededInTheEnd_48 (by decide) ?_
                exact ih_1945 v_1960 v_1961 ⟨by omega, by omega⟩ (by omega) ls (lv_sub hl [2, 3, 1, 4, 0] rfl)
        exact lp_1945 _ i1925_2 0 ⟨by decide, by decide⟩ (Nat.lt_succ_self _) ls (lv_sub hl [1, 2, 3, 4, 0] rfl)
  exact lp_1925 _ 2 0 ⟨by decide, by decide⟩ (Nat.lt_succ_self _) ls (lv_sub hl [2, 3, 1, 0] rfl)
set_option maxHeartbeats 4000000 in
set_option maxRecDepth 100000 in
theorem cg_X0_neededInTheEnd_33 (l : Launch) (D : va_G) (F : Nat → Prop) (a0 : Nat) (a1 : Nat) (a2 : Nat) (x0 : Int32) (k0 : ClassId) (f0 : Nat → Int32) : ka_R l D F yX0_neededInTheEnd wsX0_neededInTheEnd 1 21 [.ref a0, .int 2] [(a0, .inr (0, [.ref a1, .ref a2, .int x0])), (a2, .inl (k0, 6, .inl f0))] [(k0, .int)] (fun v => ∃ x : Int32, v = some (.int x)) := by
  refine ka_R_of (cc := cX0_neededInTheEnd) (maxL := 5) (ret := (some .int)) (by decide) rfl (Nat.le_of_ble_eq_true rfl) ?_
  intro p e s m below meth c ls C hr hlk hP hK hE hN hl
  have hS : va_S (fun _ => False) s.heap s.heap [] := va_S.rf
  have C : CallFix p m c cX0_neededInTheEnd 5 s [.ref a0, .int 2].toArray wsX0_neededInTheEnd RX0 := C
  obtain ⟨hx, hb, hml, hown, hts⟩ := id C
  have hl : lv_has ls 5 [(0, .ref a0), (1, .int 2)] := hl
  have rx0 := ka_rng x0
  refine lv_iconst (v := 1) hx hb dX0_neededInTheEnd_0 (by decide) ?_
  refine lv_iload_n hx hb dX0_neededInTheEnd_1 rfl (lv_at hl 1 rfl) ?_
  refine lv_ishl hx hb dX0_neededInTheEnd_2 ?_
  refine ka_top (w := .int 4) (congrArg Value.int (by decide)) ?_
  refine lv_istore_n (lv' := [(2, .int 4), (0, .ref a0), (1, .int 2)]) hx hb dX0_neededInTheEnd_3 rfl hl (by decide) rfl (fun ls hl => ?_)
  refine lv_iconst (v := 0) hx hb dX0_neededInTheEnd_4 (by decide) ?_
  refine lv_istore_n (lv' := [(3, .int 0), (2, .int 4), (0, .ref a0), (1, .int 2)]) hx hb dX0_neededInTheEnd_5 rfl hl (by decide) rfl (fun ls hl => ?_)
  have lp_2082 : ∀ (n : Nat) (i2082_2 : Int32) (i2082_3 : Int32), (0 ≤ i2082_3.toInt ∧ i2082_3.toInt ≤ 6) → (6 - i2082_3.toInt).toNat < n → ∀ (ls : Array Slot), lv_has ls 5 [(0, .ref a0), (1, .int 2), (2, .int i2082_2), (3, .int i2082_3)] → W p l e ({ frames := 1, cells := 0, slots := 0, locals := 21 }) s m [.ref a0, .int 2].toArray below meth c s.heap [] 0 0 (MQ below (ka_QR (fun v => ∃ x : Int32, v = some (.int x))) [.ref a0, .int 2].toArray s 0 0 (fun _ => False)) (F0 m 6 ls []) := by
    intro n
    induction n with
    | zero =>
      intro i2082_2 i2082_3 hi2082_3 hm
      exact absurd hm (Nat.not_lt_zero _)
    | succ n ih_2082 =>
      intro i2082_2 i2082_3 hi2082_3 hm ls hl
      have ri2082_2 := ka_rng i2082_2
      have ri2082_3 := ka_rng i2082_3
      refine lv_iload_n hx hb dX0_neededInTheEnd_6 rfl (lv_at hl 3 rfl) ?_
      refine lv_bipush (v := 6) hx hb dX0_neededInTheEnd_7 (by decide) ?_
      refine lv_icmp_ge (tgt := 57) hx hb dX0_neededInTheEnd_9 (by decide) (fun c_2101 => ?_) (fun c_2101 => ?_)
      · have c_2101 : 6 ≤ i2082_3.toInt := by rw [ka_le', show ((6 : Int32)).toInt = 6 from by decide] at c_2101; exact c_2101
        refine lv_iload_n hx hb dX0_neededInTheEnd_57 rfl (lv_at hl 2 rfl) ?_
        exact ka_rRi C hr hlk ⟨_, rfl⟩ dX0_neededInTheEnd_58
      · have c_2101 : ¬ 6 ≤ i2082_3.toInt := by rw [ka_le', show ((6 : Int32)).toInt = 6 from by decide] at c_2101; exact c_2101
        refine lv_iconst (v := 0) hx hb dX0_neededInTheEnd_12 (by decide) ?_
        refine lv_istore (lv' := [(4, .int 0), (0, .ref a0), (1, .int 2), (2, .int i2082_2), (3, .int i2082_3)]) hx hb dX0_neededInTheEnd_13 hl (by decide) rfl (fun ls hl => ?_)
        have lp_2102 : ∀ (n : Nat) (i2102_2 : Int32) (i2102_4 : Int32), (0 ≤ i2102_4.toInt ∧ i2102_4.toInt ≤ 6) → (6 - i2102_4.toInt).toNat < n → ∀ (ls : Array Slot), lv_has ls 5 [(0, .ref a0), (1, .int 2), (2, .int i2102_2), (3, .int i2082_3), (4, .int i2102_4)] → W p l e ({ frames := 1, cells := 0, slots := 0, locals := 21 }) s m [.ref a0, .int 2].toArray below meth c s.heap [] 0 0 (MQ below (ka_QR (fun v => ∃ x : Int32, v = some (.int x))) [.ref a0, .int 2].toArray s 0 0 (fun _ => False)) (F0 m 15 ls []) := by
          intro n
          induction n with
          | zero =>
            intro i2102_2 i2102_4 hi2102_4 hm
            exact absurd hm (Nat.not_lt_zero _)
          | succ n ih_2102 =>
            intro i2102_2 i2102_4 hi2102_4 hm ls hl
            have ri2102_2 := ka_rng i2102_2
            have ri2102_4 := ka_rng i2102_4
            refine lv_iload hx hb dX0_neededInTheEnd_15 (lv_at hl 4 rfl) ?_
            refine lv_aload_n hx hb dX0_neededInTheEnd_17 rfl (lv_at hl 0 rfl) ?_
            refine ka_get C lq_68 rfl hK hP 0 rfl 1 (by decide) lq_69 rfl dX0_neededInTheEnd_18 ?_
            refine va_alen hx hb hK hP 1 0 rfl (ty := .int) rfl (v := 6) rfl dX0_neededInTheEnd_21 ?_
            refine lv_icmp_ge (tgt := 51) hx hb dX0_neededInTheEnd_22 (by decide) (fun c_2111 => ?_) (fun c_2111 => ?_)
            · have c_2111 : 6 ≤ i2102_4.toInt := by rw [ka_le', show ((6 : Int32)).toInt = 6 from by decide] at c_2111; exact c_2111
              obtain ⟨v_2112, ev_2112⟩ : ∃ y : Int32, y = i2082_3 + 1 := ⟨_, rfl⟩
              refine lv_iinc (v := v_2112) (lv' := [(3, .int v_2112), (0, .ref a0), (1, .int 2), (2, .int i2102_2), (4, .int i2102_4)]) hx hb dX0_neededInTheEnd_51 hl (k := 3) rfl (by rw [ev_2112]; rfl) (by decide) rfl (fun ls hl => ?_)
              have fv_2112 : v_2112.toInt = i2082_3.toInt + 1 := by rw [ev_2112]; exact ka_add (x := i2082_3.toInt) (y := 1) rfl (by decide) (by omega) (by omega)
              refine lv_goto (tgt := 6) hx hb dX0_neededInTheEnd_54 (by decide) ?_
              exact ih_2082 i2102_2 v_2112 ⟨by omega, by omega⟩ (by omega) ls (lv_sub hl [1, 2, 3, 0] rfl)
            · have c_2111 : ¬ 6 ≤ i2102_4.toInt := by rw [ka_le', show ((6 : Int32)).toInt = 6 from by decide] at c_2111; exact c_2111
              refine lv_iload_n hx hb dX0_neededInTheEnd_25 rfl (lv_at hl 2 rfl) ?_
              refine lv_iload hx hb dX0_neededInTheEnd_26 (lv_at hl 4 rfl) ?_
              refine ka_RN (n := 2) C (ka_c_bitAt l D F i2102_2 i2102_4) gX0_neededInTheEnd_X6_bitAt_n30 rfl hN.2.2.2.1 lq_70 lq_71 (by decide +kernel) ⟨Nat.le_of_ble_eq_true rfl, Nat.le_of_ble_eq_true rfl⟩ hK hP hS hE hN [] rfl [] rfl rfl hl.1 (rest := []) rfl (Nat.le_of_ble_eq_true rfl) dX0_neededInTheEnd_28 ⟨Nat.le_of_ble_eq_true rfl, Nat.le_of_ble_eq_true rfl⟩ (fun v hv => ?_)
              subst hv
              refine ka_stk (w := .int (ka_bit i2102_2 i2102_4) :: []) rfl ?_
              refine lv_topi (fun v_2113 ev_2113 => ?_)
              have fv_2113 := ka_bit_in i2102_2 i2102_4; rw [← ev_2113] at fv_2113
              refine lv_iconst (v := 1) hx hb dX0_neededInTheEnd_31 (by decide) ?_
              refine lv_icmp_ne (tgt := 45) hx hb dX0_neededInTheEnd_32 (by decide) (fun c_2114 => ?_) (fun c_2114 => ?_)
              · have c_2114 : ¬ v_2113.toInt = 1 := by rw [ka_eq', show ((1 : Int32)).toInt = 1 from by decide] at c_2114; exact c_2114
                obtain ⟨v_2115, ev_2115⟩ : ∃ y : Int32, y = i2102_4 + 1 := ⟨_, rfl⟩
                refine lv_iinc (v := v_2115) (lv' := [(4, .int v_2115), (0, .ref a0), (1, .int 2), (2, .int i2102_2), (3, .int i2082_3)]) hx hb dX0_neededInTheEnd_45 hl (k := 4) rfl (by rw [ev_2115]; rfl) (by decide) rfl (fun ls hl => ?_)
                have fv_2115 : v_2115.toInt = i2102_4.toInt + 1 := by rw [ev_2115]; exact ka_add (x := i2102_4.toInt) (y := 1) rfl (by decide) (by omega) (by omega)
                refine lv_goto (tgt := 15) hx hb dX0_neededInTheEnd_48 (by decide) ?_
                exact ih_2102 i2102_2 v_2115 ⟨by omega, by omega⟩ (by omega) ls (lv_sub hl [1, 2, 3, 4, 0] rfl)
              · have c_2114 : v_2113.toInt = 1 := by rw [ka_eq', show ((1 : Int32)).toInt = 1 from by decide] at c_2114; exact c_2114
                refine lv_iload_n hx hb dX0_neededInTheEnd_35 rfl (lv_at hl 2 rfl) ?_
                refine lv_aload_n hx hb dX0_neededInTheEnd_36 rfl (lv_at hl 0 rfl) ?_
                refine ka_get C lq_68 rfl hK hP 0 rfl 1 (by decide) lq_69 rfl dX0_neededInTheEnd_37 ?_
                refine lv_iload hx hb dX0_neededInTheEnd_40 (lv_at hl 4 rfl) ?_
                refine va_iald hx hb hK hP 1 0 rfl rfl (ka_in (by omega) (by omega)) dX0_neededInTheEnd_42 ?_
                refine lv_topi (fun v_2116 ev_2116 => ?_)
                refine lv_ior hx hb dX0_neededInTheEnd_43 ?_
                refine lv_topi (fun v_2117 ev_2117 => ?_)
                refine lv_istore_n (lv' := [(2, .int v_2117), (0, .ref a0), (1, .int 2), (3, .int i2082_3), (4, .int i2102_4)]) hx hb dX0_neededInTheEnd_44 rfl hl (by decide) rfl (fun ls hl => ?_)
                obtain ⟨v_2118, ev_2118⟩ : ∃ y : Int32, y = i2102_4 + 1 := ⟨_, rfl⟩
                refine lv_iinc (v := v_2118) (lv' := [(4, .int v_2118), (2, .int v_2117), (0, .ref a0), (1, .int 2), (3, .int i2082_3)]) hx hb dX0_neededInTheEnd_45 hl (k := 4) rfl (by rw [ev_2118]; rfl) (by decide) rfl (fun ls hl => ?_)
                have fv_2118 : v_2118.toInt = i2102_4.toInt + 1 := by rw [ev_2118]; exact ka_add (x := i2102_4.toInt) (y := 1) rfl (by decide) (by omega) (by omega)
                refine lv_goto (tgt := 15) hx hb dX0_neededInTheEnd_48 (by decide) ?_
                exact ih_2102 v_2117 v_2118 ⟨by omega, by omega⟩ (by omega) ls (lv_sub hl [2, 3, 1, 4, 0] rfl)
        exact lp_2102 _ i2082_2 0 ⟨by decide, by decide⟩ (Nat.lt_succ_self _) ls (lv_sub hl [1, 2, 3, 4, 0] rfl)
  exact lp_2082 _ 4 0 ⟨by decide, by decide⟩ (Nat.lt_succ_self _) ls (lv_sub hl [2, 3, 1, 0] rfl)
set_option maxHeartbeats 4000000 in
set_option maxRecDepth 100000 in
theorem cg_X0_neededInTheEnd_34 (l : Launch) (D : va_G) (F : Nat → Prop) (a0 : Nat) (a1 : Nat) (a2 : Nat) (x0 : Int32) (k0 : ClassId) (f0 : Nat → Int32) : ka_R l D F yX0_neededInTheEnd wsX0_neededInTheEnd 1 21 [.ref a0, .int 3] [(a0, .inr (0, [.ref a1, .ref a2, .int x0])), (a2, .inl (k0, 6, .inl f0))] [(k0, .int)] (fun v => ∃ x : Int32, v = some (.int x)) := by
  refine ka_R_of (cc := cX0_neededInTheEnd) (maxL := 5) (ret := (some .int)) (by decide) rfl (Nat.le_of_ble_eq_true rfl) ?_
  intro p e s m below meth c ls C hr hlk hP hK hE hN hl
  have hS : va_S (fun _ => False) s.heap s.heap [] := va_S.rf
  have C : CallFix p m c cX0_neededInTheEnd 5 s [.ref a0, .int 3].toArray wsX0_neededInTheEnd RX0 := C
  obtain ⟨hx, hb, hml, hown, hts⟩ := id C
  have hl : lv_has ls 5 [(0, .ref a0), (1, .int 3)] := hl
  have rx0 := ka_rng x0
  refine lv_iconst (v := 1) hx hb dX0_neededInTheEnd_0 (by decide) ?_
  refine lv_iload_n hx hb dX0_neededInTheEnd_1 rfl (lv_at hl 1 rfl) ?_
  refine lv_ishl hx hb dX0_neededInTheEnd_2 ?_
  refine ka_top (w := .int 8) (congrArg Value.int (by decide)) ?_
  refine lv_istore_n (lv' := [(2, .int 8), (0, .ref a0), (1, .int 3)]) hx hb dX0_neededInTheEnd_3 rfl hl (by decide) rfl (fun ls hl => ?_)
  refine lv_iconst (v := 0) hx hb dX0_neededInTheEnd_4 (by decide) ?_
  refine lv_istore_n (lv' := [(3, .int 0), (2, .int 8), (0, .ref a0), (1, .int 3)]) hx hb dX0_neededInTheEnd_5 rfl hl (by decide) rfl (fun ls hl => ?_)
  have lp_2239 : ∀ (n : Nat) (i2239_2 : Int32) (i2239_3 : Int32), (0 ≤ i2239_3.toInt ∧ i2239_3.toInt ≤ 6) → (6 - i2239_3.toInt).toNat < n → ∀ (ls : Array Slot), lv_has ls 5 [(0, .ref a0), (1, .int 3), (2, .int i2239_2), (3, .int i2239_3)] → W p l e ({ frames := 1, cells := 0, slots := 0, locals := 21 }) s m [.ref a0, .int 3].toArray below meth c s.heap [] 0 0 (MQ below (ka_QR (fun v => ∃ x : Int32, v = some (.int x))) [.ref a0, .int 3].toArray s 0 0 (fun _ => False)) (F0 m 6 ls []) := by
    intro n
    induction n with
    | zero =>
      intro i2239_2 i2239_3 hi2239_3 hm
      exact absurd hm (Nat.not_lt_zero _)
    | succ n ih_2239 =>
      intro i2239_2 i2239_3 hi2239_3 hm ls hl
      have ri2239_2 := ka_rng i2239_2
      have ri2239_3 := ka_rng i2239_3
      refine lv_iload_n hx hb dX0_neededInTheEnd_6 rfl (lv_at hl 3 rfl) ?_
      refine lv_bipush (v := 6) hx hb dX0_neededInTheEnd_7 (by decide) ?_
      refine lv_icmp_ge (tgt := 57) hx hb dX0_neededInTheEnd_9 (by decide) (fun c_2258 => ?_) (fun c_2258 => ?_)
      · have c_2258 : 6 ≤ i2239_3.toInt := by rw [ka_le', show ((6 : Int32)).toInt = 6 from by decide] at c_2258; exact c_2258
        refine lv_iload_n hx hb dX0_neededInTheEnd_57 rfl (lv_at hl 2 rfl) ?_
        exact ka_rRi C hr hlk ⟨_, rfl⟩ dX0_neededInTheEnd_58
      · have c_2258 : ¬ 6 ≤ i2239_3.toInt := by rw [ka_le', show ((6 : Int32)).toInt = 6 from by decide] at c_2258; exact c_2258
        refine lv_iconst (v := 0) hx hb dX0_neededInTheEnd_12 (by decide) ?_
        refine lv_istore (lv' := [(4, .int 0), (0, .ref a0), (1, .int 3), (2, .int i2239_2), (3, .int i2239_3)]) hx hb dX0_neededInTheEnd_13 hl (by decide) rfl (fun ls hl => ?_)
        have lp_2259 : ∀ (n : Nat) (i2259_2 : Int32) (i2259_4 : Int32), (0 ≤ i2259_4.toInt ∧ i2259_4.toInt ≤ 6) → (6 - i2259_4.toInt).toNat < n → ∀ (ls : Array Slot), lv_has ls 5 [(0, .ref a0), (1, .int 3), (2, .int i2259_2), (3, .int i2239_3), (4, .int i2259_4)] → W p l e ({ frames := 1, cells := 0, slots := 0, locals := 21 }) s m [.ref a0, .int 3].toArray below meth c s.heap [] 0 0 (MQ below (ka_QR (fun v => ∃ x : Int32, v = some (.int x))) [.ref a0, .int 3].toArray s 0 0 (fun _ => False)) (F0 m 15 ls []) := by
          intro n
          induction n with
          | zero =>
            intro i2259_2 i2259_4 hi2259_4 hm
            exact absurd hm (Nat.not_lt_zero _)
          | succ n ih_2259 =>
            intro i2259_2 i2259_4 hi2259_4 hm ls hl
            have ri2259_2 := ka_rng i2259_2
            have ri2259_4 := ka_rng i2259_4
            refine lv_iload hx hb dX0_neededInTheEnd_15 (lv_at hl 4 rfl) ?_
            refine lv_aload_n hx hb dX0_neededInTheEnd_17 rfl (lv_at hl 0 rfl) ?_
            refine ka_get C lq_68 rfl hK hP 0 rfl 1 (by decide) lq_69 rfl dX0_neededInTheEnd_18 ?_
            refine va_alen hx hb hK hP 1 0 rfl (ty := .int) rfl (v := 6) rfl dX0_neededInTheEnd_21 ?_
            refine lv_icmp_ge (tgt := 51) hx hb dX0_neededInTheEnd_22 (by decide) (fun c_2268 => ?_) (fun c_2268 => ?_)
            · have c_2268 : 6 ≤ i2259_4.toInt := by rw [ka_le', show ((6 : Int32)).toInt = 6 from by decide] at c_2268; exact c_2268
              obtain ⟨v_2269, ev_2269⟩ : ∃ y : Int32, y = i2239_3 + 1 := ⟨_, rfl⟩
              refine lv_iinc (v := v_2269) (lv' := [(3, .int v_2269), (0, .ref a0), (1, .int 3), (2, .int i2259_2), (4, .int i2259_4)]) hx hb dX0_neededInTheEnd_51 hl (k := 3) rfl (by rw [ev_2269]; rfl) (by decide) rfl (fun ls hl => ?_)
              have fv_2269 : v_2269.toInt = i2239_3.toInt + 1 := by rw [ev_2269]; exact ka_add (x := i2239_3.toInt) (y := 1) rfl (by decide) (by omega) (by omega)
              refine lv_goto (tgt := 6) hx hb dX0_neededInTheEnd_54 (by decide) ?_
              exact ih_2239 i2259_2 v_2269 ⟨by omega, by omega⟩ (by omega) ls (lv_sub hl [1, 2, 3, 0] rfl)
            · have c_2268 : ¬ 6 ≤ i2259_4.toInt := by rw [ka_le', show ((6 : Int32)).toInt = 6 from by decide] at c_2268; exact c_2268
              refine lv_iload_n hx hb dX0_neededInTheEnd_25 rfl (lv_at hl 2 rfl) ?_
              refine lv_iload hx hb dX0_neededInTheEnd_26 (lv_at hl 4 rfl) ?_
              refine ka_RN (n := 2) C (ka_c_bitAt l D F i2259_2 i2259_4) gX0_neededInTheEnd_X6_bitAt_n30 rfl hN.2.2.2.1 lq_70 lq_71 (by decide +kernel) ⟨Nat.le_of_ble_eq_true rfl, Nat.le_of_ble_eq_true rfl⟩ hK hP hS hE hN [] rfl [] rfl rfl hl.1 (rest := []) rfl (Nat.le_of_ble_eq_true rfl) dX0_neededInTheEnd_28 ⟨Nat.le_of_ble_eq_true rfl, Nat.le_of_ble_eq_true rfl⟩ (fun v hv => ?_)
              subst hv
              refine ka_stk (w := .int (ka_bit i2259_2 i2259_4) :: []) rfl ?_
              refine lv_topi (fun v_2270 ev_2270 => ?_)
              have fv_2270 := ka_bit_in i2259_2 i2259_4; rw [← ev_2270] at fv_2270
              refine lv_iconst (v := 1) hx hb dX0_neededInTheEnd_31 (by decide) ?_
              refine lv_icmp_ne (tgt := 45) hx hb dX0_neededInTheEnd_32 (by decide) (fun c_2271 => ?_) (fun c_2271 => ?_)
              · have c_2271 : ¬ v_2270.toInt = 1 := by rw [ka_eq', show ((1 : Int32)).toInt = 1 from by decide] at c_2271; exact c_2271
                obtain ⟨v_2272, ev_2272⟩ : ∃ y : Int32, y = i2259_4 + 1 := ⟨_, rfl⟩
                refine lv_iinc (v := v_2272) (lv' := [(4, .int v_2272), (0, .ref a0), (1, .int 3), (2, .int i2259_2), (3, .int i2239_3)]) hx hb dX0_neededInTheEnd_45 hl (k := 4) rfl (by rw [ev_2272]; rfl) (by decide) rfl (fun ls hl => ?_)
                have fv_2272 : v_2272.toInt = i2259_4.toInt + 1 := by rw [ev_2272]; exact ka_add (x := i2259_4.toInt) (y := 1) rfl (by decide) (by omega) (by omega)
                refine lv_goto (tgt := 15) hx hb dX0_neededInTheEnd_48 (by decide) ?_
                exact ih_2259 i2259_2 v_2272 ⟨by omega, by omega⟩ (by omega) ls (lv_sub hl [1, 2, 3, 4, 0] rfl)
              · have c_2271 : v_2270.toInt = 1 := by rw [ka_eq', show ((1 : Int32)).toInt = 1 from by decide] at c_2271; exact c_2271
                refine lv_iload_n hx hb dX0_neededInTheEnd_35 rfl (lv_at hl 2 rfl) ?_
                refine lv_aload_n hx hb dX0_neededInTheEnd_36 rfl (lv_at hl 0 rfl) ?_
                refine ka_get C lq_68 rfl hK hP 0 rfl 1 (by decide) lq_69 rfl dX0_neededInTheEnd_37 ?_
                refine lv_iload hx hb dX0_neededInTheEnd_40 (lv_at hl 4 rfl) ?_
                refine va_iald hx hb hK hP 1 0 rfl rfl (ka_in (by omega) (by omega)) dX0_neededInTheEnd_42 ?_
                refine lv_topi (fun v_2273 ev_2273 => ?_)
                refine lv_ior hx hb dX0_neededInTheEnd_43 ?_
                refine lv_topi (fun v_2274 ev_2274 => ?_)
                refine lv_istore_n (lv' := [(2, .int v_2274), (0, .ref a0), (1, .int 3), (3, .int i2239_3), (4, .int i2259_4)]) hx hb dX0_neededInTheEnd_44 rfl hl (by decide) rfl (fun ls hl => ?_)
                obtain ⟨v_2275, ev_2275⟩ : ∃ y : Int32, y = i2259_4 + 1 := ⟨_, rfl⟩
                refine lv_iinc (v := v_2275) (lv' := [(4, .int v_2275), (2, .int v_2274), (0, .ref a0), (1, .int 3), (3, .int i2239_3)]) hx hb dX0_neededInTheEnd_45 hl (k := 4) rfl (by rw [ev_2275]; rfl) (by decide) rfl (fun ls hl => ?_)
                have fv_2275 : v_2275.toInt = i2259_4.toInt + 1 := by rw [ev_2275]; exact ka_add (x := i2259_4.toInt) (y := 1) rfl (by decide) (by omega) (by omega)
                refine lv_goto (tgt := 15) hx hb dX0_neededInTheEnd_48 (by decide) ?_
                exact ih_2259 v_2274 v_2275 ⟨by omega, by omega⟩ (by omega) ls (lv_sub hl [2, 3, 1, 4, 0] rfl)
        exact lp_2259 _ i2239_2 0 ⟨by decide, by decide⟩ (Nat.lt_succ_self _) ls (lv_sub hl [1, 2, 3, 4, 0] rfl)
  exact lp_2239 _ 8 0 ⟨by decide, by decide⟩ (Nat.lt_succ_self _) ls (lv_sub hl [2, 3, 1, 0] rfl)
set_option maxHeartbeats 4000000 in
set_option maxRecDepth 100000 in
theorem cg_X0_neededInTheEnd_35 (l : Launch) (D : va_G) (F : Nat → Prop) (a0 : Nat) (a1 : Nat) (a2 : Nat) (x0 : Int32) (k0 : ClassId) (f0 : Nat → Int32) : ka_R l D F yX0_neededInTheEnd wsX0_neededInTheEnd 1 21 [.ref a0, .int 4] [(a0, .inr (0, [.ref a1, .ref a2, .int x0])), (a2, .inl (k0, 6, .inl f0))] [(k0, .int)] (fun v => ∃ x : Int32, v = some (.int x)) := by
  refine ka_R_of (cc := cX0_neededInTheEnd) (maxL := 5) (ret := (some .int)) (by decide) rfl (Nat.le_of_ble_eq_true rfl) ?_
  intro p e s m below meth c ls C hr hlk hP hK hE hN hl
  have hS : va_S (fun _ => False) s.heap s.heap [] := va_S.rf
  have C : CallFix p m c cX0_neededInTheEnd 5 s [.ref a0, .int 4].toArray wsX0_neededInTheEnd RX0 := C
  obtain ⟨hx, hb, hml, hown, hts⟩ := id C
  have hl : lv_has ls 5 [(0, .ref a0), (1, .int 4)] := hl
  have rx0 := ka_rng x0
  refine lv_iconst (v := 1) hx hb dX0_neededInTheEnd_0 (by decide) ?_
  refine lv_iload_n hx hb dX0_neededInTheEnd_1 rfl (lv_at hl 1 rfl) ?_
  refine lv_ishl hx hb dX0_neededInTheEnd_2 ?_
  refine ka_top (w := .int 16) (congrArg Value.int (by decide)) ?_
  refine lv_istore_n (lv' := [(2, .int 16), (0, .ref a0), (1, .int 4)]) hx hb dX0_neededInTheEnd_3 rfl hl (by decide) rfl (fun ls hl => ?_)
  refine lv_iconst (v := 0) hx hb dX0_neededInTheEnd_4 (by decide) ?_
  refine lv_istore_n (lv' := [(3, .int 0), (2, .int 16), (0, .ref a0), (1, .int 4)]) hx hb dX0_neededInTheEnd_5 rfl hl (by decide) rfl (fun ls hl => ?_)
  have lp_2396 : ∀ (n : Nat) (i2396_2 : Int32) (i2396_3 : Int32), (0 ≤ i2396_3.toInt ∧ i2396_3.toInt ≤ 6) → (6 - i2396_3.toInt).toNat < n → ∀ (ls : Array Slot), lv_has ls 5 [(0, .ref a0), (1, .int 4), (2, .int i2396_2), (3, .int i2396_3)] → W p l e ({ frames := 1, cells := 0, slots := 0, locals := 21 }) s m [.ref a0, .int 4].toArray below meth c s.heap [] 0 0 (MQ below (ka_QR (fun v => ∃ x : Int32, v = some (.int x))) [.ref a0, .int 4].toArray s 0 0 (fun _ => False)) (F0 m 6 ls []) := by
    intro n
    induction n with
    | zero =>
      intro i2396_2 i2396_3 hi2396_3 hm
      exact absurd hm (Nat.not_lt_zero _)
    | succ n ih_2396 =>
      intro i2396_2 i2396_3 hi2396_3 hm ls hl
      have ri2396_2 := ka_rng i2396_2
      have ri2396_3 := ka_rng i2396_3
      refine lv_iload_n hx hb dX0_neededInTheEnd_6 rfl (lv_at hl 3 rfl) ?_
      refine lv_bipush (v := 6) hx hb dX0_neededInTheEnd_7 (by decide) ?_
      refine lv_icmp_ge (tgt := 57) hx hb dX0_neededInTheEnd_9 (by decide) (fun c_2415 => ?_) (fun c_2415 => ?_)
      · have c_2415 : 6 ≤ i2396_3.toInt := by rw [ka_le', show ((6 : Int32)).toInt = 6 from by decide] at c_2415; exact c_2415
        refine lv_iload_n hx hb dX0_neededInTheEnd_57 rfl (lv_at hl 2 rfl) ?_
        exact ka_rRi C hr hlk ⟨_, rfl⟩ dX0_neededInTheEnd_58
      · have c_2415 : ¬ 6 ≤ i2396_3.toInt := by rw [ka_le', show ((6 : Int32)).toInt = 6 from by decide] at c_2415; exact c_2415
        refine lv_iconst (v := 0) hx hb dX0_neededInTheEnd_12 (by decide) ?_
        refine lv_istore (lv' := [(4, .int 0), (0, .ref a0), (1, .int 4), (2, .int i2396_2), (3, .int i2396_3)]) hx hb dX0_neededInTheEnd_13 hl (by decide) rfl (fun ls hl => ?_)
        have lp_2416 : ∀ (n : Nat) (i2416_2 : Int32) (i2416_4 : Int32), (0 ≤ i2416_4.toInt ∧ i2416_4.toInt ≤ 6) → (6 - i2416_4.toInt).toNat < n → ∀ (ls : Array Slot), lv_has ls 5 [(0, .ref a0), (1, .int 4), (2, .int i2416_2), (3, .int i2396_3), (4, .int i2416_4)] → W p l e ({ frames := 1, cells := 0, slots := 0, locals := 21 }) s m [.ref a0, .int 4].toArray below meth c s.heap [] 0 0 (MQ below (ka_QR (fun v => ∃ x : Int32, v = some (.int x))) [.ref a0, .int 4].toArray s 0 0 (fun _ => False)) (F0 m 15 ls []) := by
          intro n
          induction n with
          | zero =>
            intro i2416_2 i2416_4 hi2416_4 hm
            exact absurd hm (Nat.not_lt_zero _)
          | succ n ih_2416 =>
            intro i2416_2 i2416_4 hi2416_4 hm ls hl
            have ri2416_2 := ka_rng i2416_2
            have ri2416_4 := ka_rng i2416_4
            refine lv_iload hx hb dX0_neededInTheEnd_15 (lv_at hl 4 rfl) ?_
            refine lv_aload_n hx hb dX0_neededInTheEnd_17 rfl (lv_at hl 0 rfl) ?_
            refine ka_get C lq_68 rfl hK hP 0 rfl 1 (by decide) lq_69 rfl dX0_neededInTheEnd_18 ?_
            refine va_alen hx hb hK hP 1 0 rfl (ty := .int) rfl (v := 6) rfl dX0_neededInTheEnd_21 ?_
            refine lv_icmp_ge (tgt := 51) hx hb dX0_neededInTheEnd_22 (by decide) (fun c_2425 => ?_) (fun c_2425 => ?_)
            · have c_2425 : 6 ≤ i2416_4.toInt := by rw [ka_le', show ((6 : Int32)).toInt = 6 from by decide] at c_2425; exact c_2425
              obtain ⟨v_2426, ev_2426⟩ : ∃ y : Int32, y = i2396_3 + 1 := ⟨_, rfl⟩
              refine lv_iinc (v := v_2426) (lv' := [(3, .int v_2426), (0, .ref a0), (1, .int 4), (2, .int i2416_2), (4, .int i2416_4)]) hx hb dX0_neededInTheEnd_51 hl (k := 3) rfl (by rw [ev_2426]; rfl) (by decide) rfl (fun ls hl => ?_)
              have fv_2426 : v_2426.toInt = i2396_3.toInt + 1 := by rw [ev_2426]; exact ka_add (x := i2396_3.toInt) (y := 1) rfl (by decide) (by omega) (by omega)
              refine lv_goto (tgt := 6) hx hb dX0_neededInTheEnd_54 (by decide) ?_
              exact ih_2396 i2416_2 v_2426 ⟨by omega, by omega⟩ (by omega) ls (lv_sub hl [1, 2, 3, 0] rfl)
            · have c_2425 : ¬ 6 ≤ i2416_4.toInt := by rw [ka_le', show ((6 : Int32)).toInt = 6 from by decide] at c_2425; exact c_2425
              refine lv_iload_n hx hb dX0_neededInTheEnd_25 rfl (lv_at hl 2 rfl) ?_
              refine lv_iload hx hb dX0_neededInTheEnd_26 (lv_at hl 4 rfl) ?_
              refine ka_RN (n := 2) C (ka_c_bitAt l D F i2416_2 i2416_4) gX0_neededInTheEnd_X6_bitAt_n30 rfl hN.2.2.2.1 lq_70 lq_71 (by decide +kernel) ⟨Nat.le_of_ble_eq_true rfl, Nat.le_of_ble_eq_true rfl⟩ hK hP hS hE hN [] rfl [] rfl rfl hl.1 (rest := []) rfl (Nat.le_of_ble_eq_true rfl) dX0_neededInTheEnd_28 ⟨Nat.le_of_ble_eq_true rfl, Nat.le_of_ble_eq_true rfl⟩ (fun v hv => ?_)
              subst hv
              refine ka_stk (w := .int (ka_bit i2416_2 i2416_4) :: []) rfl ?_
              refine lv_topi (fun v_2427 ev_2427 => ?_)
              have fv_2427 := ka_bit_in i2416_2 i2416_4; rw [← ev_2427] at fv_2427
              refine lv_iconst (v := 1) hx hb dX0_neededInTheEnd_31 (by decide) ?_
              refine lv_icmp_ne (tgt := 45) hx hb dX0_neededInTheEnd_32 (by decide) (fun c_2428 => ?_) (fun c_2428 => ?_)
              · have c_2428 : ¬ v_2427.toInt = 1 := by rw [ka_eq', show ((1 : Int32)).toInt = 1 from by decide] at c_2428; exact c_2428
                obtain ⟨v_2429, ev_2429⟩ : ∃ y : Int32, y = i2416_4 + 1 := ⟨_, rfl⟩
                refine lv_iinc (v := v_2429) (lv' := [(4, .int v_2429), (0, .ref a0), (1, .int 4), (2, .int i2416_2), (3, .int i2396_3)]) hx hb dX0_neededInTheEnd_45 hl (k := 4) rfl (by rw [ev_2429]; rfl) (by decide) rfl (fun ls hl => ?_)
                have fv_2429 : v_2429.toInt = i2416_4.toInt + 1 := by rw [ev_2429]; exact ka_add (x := i2416_4.toInt) (y := 1) rfl (by decide) (by omega) (by omega)
                refine lv_goto (tgt := 15) hx hb dX0_neededInTheEnd_48 (by decide) ?_
                exact ih_2416 i2416_2 v_2429 ⟨by omega, by omega⟩ (by omega) ls (lv_sub hl [1, 2, 3, 4, 0] rfl)
              · have c_2428 : v_2427.toInt = 1 := by rw [ka_eq', show ((1 : Int32)).toInt = 1 from by decide] at c_2428; exact c_2428
                refine lv_iload_n hx hb dX0_neededInTheEnd_35 rfl (lv_at hl 2 rfl) ?_
                refine lv_aload_n hx hb dX0_neededInTheEnd_36 rfl (lv_at hl 0 rfl) ?_
                refine ka_get C lq_68 rfl hK hP 0 rfl 1 (by decide) lq_69 rfl dX0_neededInTheEnd_37 ?_
                refine lv_iload hx hb dX0_neededInTheEnd_40 (lv_at hl 4 rfl) ?_
                refine va_iald hx hb hK hP 1 0 rfl rfl (ka_in (by omega) (by omega)) dX0_neededInTheEnd_42 ?_
                refine lv_topi (fun v_2430 ev_2430 => ?_)
                refine lv_ior hx hb dX0_neededInTheEnd_43 ?_
                refine lv_topi (fun v_2431 ev_2431 => ?_)
                refine lv_istore_n (lv' := [(2, .int v_2431), (0, .ref a0), (1, .int 4), (3, .int i2396_3), (4, .int i2416_4)]) hx hb dX0_neededInTheEnd_44 rfl hl (by decide) rfl (fun ls hl => ?_)
                obtain ⟨v_2432, ev_2432⟩ : ∃ y : Int32, y = i2416_4 + 1 := ⟨_, rfl⟩
                refine lv_iinc (v := v_2432) (lv' := [(4, .int v_2432), (2, .int v_2431), (0, .ref a0), (1, .int 4), (3, .int i2396_3)]) hx hb dX0_neededInTheEnd_45 hl (k := 4) rfl (by rw [ev_2432]; rfl) (by decide) rfl (fun ls hl => ?_)
                have fv_2432 : v_2432.toInt = i2416_4.toInt + 1 := by rw [ev_2432]; exact ka_add (x := i2416_4.toInt) (y := 1) rfl (by decide) (by omega) (by omega)
                refine lv_goto (tgt := 15) hx hb dX0_neededInTheEnd_48 (by decide) ?_
                exact ih_2416 v_2431 v_2432 ⟨by omega, by omega⟩ (by omega) ls (lv_sub hl [2, 3, 1, 4, 0] rfl)
        exact lp_2416 _ i2396_2 0 ⟨by decide, by decide⟩ (Nat.lt_succ_self _) ls (lv_sub hl [1, 2, 3, 4, 0] rfl)
  exact lp_2396 _ 16 0 ⟨by decide, by decide⟩ (Nat.lt_succ_self _) ls (lv_sub hl [2, 3, 1, 0] rfl)
set_option maxHeartbeats 4000000 in
set_option maxRecDepth 100000 in
theorem cg_X0_neededInTheEnd_36 (l : Launch) (D : va_G) (F : Nat → Prop) (a0 : Nat) (a1 : Nat) (a2 : Nat) (x0 : Int32) (k0 : ClassId) (f0 : Nat → Int32) : ka_R l D F yX0_neededInTheEnd wsX0_neededInTheEnd 1 21 [.ref a0, .int 5] [(a0, .inr (0, [.ref a1, .ref a2, .int x0])), (a2, .inl (k0, 6, .inl f0))] [(k0, .int)] (fun v => ∃ x : Int32, v = some (.int x)) := by
  refine ka_R_of (cc := cX0_neededInTheEnd) (maxL := 5) (ret := (some .int)) (by decide) rfl (Nat.le_of_ble_eq_true rfl) ?_
  intro p e s m below meth c ls C hr hlk hP hK hE hN hl
  have hS : va_S (fun _ => False) s.heap s.heap [] := va_S.rf
  have C : CallFix p m c cX0_neededInTheEnd 5 s [.ref a0, .int 5].toArray wsX0_neededInTheEnd RX0 := C
  obtain ⟨hx, hb, hml, hown, hts⟩ := id C
  have hl : lv_has ls 5 [(0, .ref a0), (1, .int 5)] := hl
  have rx0 := ka_rng x0
  refine lv_iconst (v := 1) hx hb dX0_neededInTheEnd_0 (by decide) ?_
  refine lv_iload_n hx hb dX0_neededInTheEnd_1 rfl (lv_at hl 1 rfl) ?_
  refine lv_ishl hx hb dX0_neededInTheEnd_2 ?_
  refine ka_top (w := .int 32) (congrArg Value.int (by decide)) ?_
  refine lv_istore_n (lv' := [(2, .int 32), (0, .ref a0), (1, .int 5)]) hx hb dX0_neededInTheEnd_3 rfl hl (by decide) rfl (fun ls hl => ?_)
  refine lv_iconst (v := 0) hx hb dX0_neededInTheEnd_4 (by decide) ?_
  refine lv_istore_n (lv' := [(3, .int 0), (2, .int 32), (0, .ref a0), (1, .int 5)]) hx hb dX0_neededInTheEnd_5 rfl hl (by decide) rfl (fun ls hl => ?_)
  have lp_2553 : ∀ (n : Nat) (i2553_2 : Int32) (i2553_3 : Int32), (0 ≤ i2553_3.toInt ∧ i2553_3.toInt ≤ 6) → (6 - i2553_3.toInt).toNat < n → ∀ (ls : Array Slot), lv_has ls 5 [(0, .ref a0), (1, .int 5), (2, .int i2553_2), (3, .int i2553_3)] → W p l e ({ frames := 1, cells := 0, slots := 0, locals := 21 }) s m [.ref a0, .int 5].toArray below meth c s.heap [] 0 0 (MQ below (ka_QR (fun v => ∃ x : Int32, v = some (.int x))) [.ref a0, .int 5].toArray s 0 0 (fun _ => False)) (F0 m 6 ls []) := by
    intro n
    induction n with
    | zero =>
      intro i2553_2 i2553_3 hi2553_3 hm
      exact absurd hm (Nat.not_lt_zero _)
    | succ n ih_2553 =>
      intro i2553_2 i2553_3 hi2553_3 hm ls hl
      have ri2553_2 := ka_rng i2553_2
      have ri2553_3 := ka_rng i2553_3
      refine lv_iload_n hx hb dX0_neededInTheEnd_6 rfl (lv_at hl 3 rfl) ?_
      refine lv_bipush (v := 6) hx hb dX0_neededInTheEnd_7 (by decide) ?_
      refine lv_icmp_ge (tgt := 57) hx hb dX0_neededInTheEnd_9 (by decide) (fun c_2572 => ?_) (fun c_2572 => ?_)
      · have c_2572 : 6 ≤ i2553_3.toInt := by rw [ka_le', show ((6 : Int32)).toInt = 6 from by decide] at c_2572; exact c_2572
        refine lv_iload_n hx hb dX0_neededInTheEnd_57 rfl (lv_at hl 2 rfl) ?_
        exact ka_rRi C hr hlk ⟨_, rfl⟩ dX0_neededInTheEnd_58
      · have c_2572 : ¬ 6 ≤ i2553_3.toInt := by rw [ka_le', show ((6 : Int32)).toInt = 6 from by decide] at c_2572; exact c_2572
        refine lv_iconst (v := 0) hx hb dX0_neededInTheEnd_12 (by decide) ?_
        refine lv_istore (lv' := [(4, .int 0), (0, .ref a0), (1, .int 5), (2, .int i2553_2), (3, .int i2553_3)]) hx hb dX0_neededInTheEnd_13 hl (by decide) rfl (fun ls hl => ?_)
        have lp_2573 : ∀ (n : Nat) (i2573_2 : Int32) (i2573_4 : Int32), (0 ≤ i2573_4.toInt ∧ i2573_4.toInt ≤ 6) → (6 - i2573_4.toInt).toNat < n → ∀ (ls : Array Slot), lv_has ls 5 [(0, .ref a0), (1, .int 5), (2, .int i2573_2), (3, .int i2553_3), (4, .int i2573_4)] → W p l e ({ frames := 1, cells := 0, slots := 0, locals := 21 }) s m [.ref a0, .int 5].toArray below meth c s.heap [] 0 0 (MQ below (ka_QR (fun v => ∃ x : Int32, v = some (.int x))) [.ref a0, .int 5].toArray s 0 0 (fun _ => False)) (F0 m 15 ls []) := by
          intro n
          induction n with
          | zero =>
            intro i2573_2 i2573_4 hi2573_4 hm
            exact absurd hm (Nat.not_lt_zero _)
          | succ n ih_2573 =>
            intro i2573_2 i2573_4 hi2573_4 hm ls hl
            have ri2573_2 := ka_rng i2573_2
            have ri2573_4 := ka_rng i2573_4
            refine lv_iload hx hb dX0_neededInTheEnd_15 (lv_at hl 4 rfl) ?_
            refine lv_aload_n hx hb dX0_neededInTheEnd_17 rfl (lv_at hl 0 rfl) ?_
            refine ka_get C lq_68 rfl hK hP 0 rfl 1 (by decide) lq_69 rfl dX0_neededInTheEnd_18 ?_
            refine va_alen hx hb hK hP 1 0 rfl (ty := .int) rfl (v := 6) rfl dX0_neededInTheEnd_21 ?_
            refine lv_icmp_ge (tgt := 51) hx hb dX0_neededInTheEnd_22 (by decide) (fun c_2582 => ?_) (fun c_2582 => ?_)
            · have c_2582 : 6 ≤ i2573_4.toInt := by rw [ka_le', show ((6 : Int32)).toInt = 6 from by decide] at c_2582; exact c_2582
              obtain ⟨v_2583, ev_2583⟩ : ∃ y : Int32, y = i2553_3 + 1 := ⟨_, rfl⟩
              refine lv_iinc (v := v_2583) (lv' := [(3, .int v_2583), (0, .ref a0), (1, .int 5), (2, .int i2573_2), (4, .int i2573_4)]) hx hb dX0_neededInTheEnd_51 hl (k := 3) rfl (by rw [ev_2583]; rfl) (by decide) rfl (fun ls hl => ?_)
              have fv_2583 : v_2583.toInt = i2553_3.toInt + 1 := by rw [ev_2583]; exact ka_add (x := i2553_3.toInt) (y := 1) rfl (by decide) (by omega) (by omega)
              refine lv_goto (tgt := 6) hx hb dX0_neededInTheEnd_54 (by decide) ?_
              exact ih_2553 i2573_2 v_2583 ⟨by omega, by omega⟩ (by omega) ls (lv_sub hl [1, 2, 3, 0] rfl)
            · have c_2582 : ¬ 6 ≤ i2573_4.toInt := by rw [ka_le', show ((6 : Int32)).toInt = 6 from by decide] at c_2582; exact c_2582
              refine lv_iload_n hx hb dX0_neededInTheEnd_25 rfl (lv_at hl 2 rfl) ?_
              refine lv_iload hx hb dX0_neededInTheEnd_26 (lv_at hl 4 rfl) ?_
              refine ka_RN (n := 2) C (ka_c_bitAt l D F i2573_2 i2573_4) gX0_neededInTheEnd_X6_bitAt_n30 rfl hN.2.2.2.1 lq_70 lq_71 (by decide +kernel) ⟨Nat.le_of_ble_eq_true rfl, Nat.le_of_ble_eq_true rfl⟩ hK hP hS hE hN [] rfl [] rfl rfl hl.1 (rest := []) rfl (Nat.le_of_ble_eq_true rfl) dX0_neededInTheEnd_28 ⟨Nat.le_of_ble_eq_true rfl, Nat.le_of_ble_eq_true rfl⟩ (fun v hv => ?_)
              subst hv
              refine ka_stk (w := .int (ka_bit i2573_2 i2573_4) :: []) rfl ?_
              refine lv_topi (fun v_2584 ev_2584 => ?_)
              have fv_2584 := ka_bit_in i2573_2 i2573_4; rw [← ev_2584] at fv_2584
              refine lv_iconst (v := 1) hx hb dX0_neededInTheEnd_31 (by decide) ?_
              refine lv_icmp_ne (tgt := 45) hx hb dX0_neededInTheEnd_32 (by decide) (fun c_2585 => ?_) (fun c_2585 => ?_)
              · have c_2585 : ¬ v_2584.toInt = 1 := by rw [ka_eq', show ((1 : Int32)).toInt = 1 from by decide] at c_2585; exact c_2585
                obtain ⟨v_2586, ev_2586⟩ : ∃ y : Int32, y = i2573_4 + 1 := ⟨_, rfl⟩
                refine lv_iinc (v := v_2586) (lv' := [(4, .int v_2586), (0, .ref a0), (1, .int 5), (2, .int i2573_2), (3, .int i2553_3)]) hx hb dX0_neededInTheEnd_45 hl (k := 4) rfl (by rw [ev_2586]; rfl) (by decide) rfl (fun ls hl => ?_)
                have fv_2586 : v_2586.toInt = i2573_4.toInt + 1 := by rw [ev_2586]; exact ka_add (x := i2573_4.toInt) (y := 1) rfl (by decide) (by omega) (by omega)
                refine lv_goto (tgt := 15) hx hb dX0_neededInTheEnd_48 (by decide) ?_
                exact ih_2573 i2573_2 v_2586 ⟨by omega, by omega⟩ (by omega) ls (lv_sub hl [1, 2, 3, 4, 0] rfl)
              · have c_2585 : v_2584.toInt = 1 := by rw [ka_eq', show ((1 : Int32)).toInt = 1 from by decide] at c_2585; exact c_2585
                refine lv_iload_n hx hb dX0_neededInTheEnd_35 rfl (lv_at hl 2 rfl) ?_
                refine lv_aload_n hx hb dX0_neededInTheEnd_36 rfl (lv_at hl 0 rfl) ?_
                refine ka_get C lq_68 rfl hK hP 0 rfl 1 (by decide) lq_69 rfl dX0_neededInTheEnd_37 ?_
                refine lv_iload hx hb dX0_neededInTheEnd_40 (lv_at hl 4 rfl) ?_
                refine va_iald hx hb hK hP 1 0 rfl rfl (ka_in (by omega) (by omega)) dX0_neededInTheEnd_42 ?_
                refine lv_topi (fun v_2587 ev_2587 => ?_)
                refine lv_ior hx hb dX0_neededInTheEnd_43 ?_
                refine lv_topi (fun v_2588 ev_2588 => ?_)
                refine lv_istore_n (lv' := [(2, .int v_2588), (0, .ref a0), (1, .int 5), (3, .int i2553_3), (4, .int i2573_4)]) hx hb dX0_neededInTheEnd_44 rfl hl (by decide) rfl (fun ls hl => ?_)
                obtain ⟨v_2589, ev_2589⟩ : ∃ y : Int32, y = i2573_4 + 1 := ⟨_, rfl⟩
                refine lv_iinc (v := v_2589) (lv' := [(4, .int v_2589), (2, .int v_2588), (0, .ref a0), (1, .int 5), (3, .int i2553_3)]) hx hb dX0_neededInTheEnd_45 hl (k := 4) rfl (by rw [ev_2589]; rfl) (by decide) rfl (fun ls hl => ?_)
                have fv_2589 : v_2589.toInt = i2573_4.toInt + 1 := by rw [ev_2589]; exact ka_add (x := i2573_4.toInt) (y := 1) rfl (by decide) (by omega) (by omega)
                refine lv_goto (tgt := 15) hx hb dX0_neededInTheEnd_48 (by decide) ?_
                exact ih_2573 v_2588 v_2589 ⟨by omega, by omega⟩ (by omega) ls (lv_sub hl [2, 3, 1, 4, 0] rfl)
        exact lp_2573 _ i2553_2 0 ⟨by decide, by decide⟩ (Nat.lt_succ_self _) ls (lv_sub hl [1, 2, 3, 4, 0] rfl)
  exact lp_2553 _ 32 0 ⟨by decide, by decide⟩ (Nat.lt_succ_self _) ls (lv_sub hl [2, 3, 1, 0] rfl)
set_option maxHeartbeats 4000000 in
set_option maxRecDepth 100000 in
theorem cg_X0_neededInTheEnd_37 (l : Launch) (D : va_G) (F : Nat → Prop) (a0 : Nat) (a1 : Nat) (a2 : Nat) (x0 : Int32) (k0 : ClassId) (f0 : Nat → Int32) : ka_R l D F yX0_neededInTheEnd wsX0_neededInTheEnd 1 21 [.ref a0, .int 0] [(a0, .inr (0, [.ref a1, .ref a2, .int x0])), (a2, .inl (k0, 6, .inl f0))] [(k0, .int)] (fun v => ∃ x : Int32, v = some (.int x)) := by
  refine ka_R_of (cc := cX0_neededInTheEnd) (maxL := 5) (ret := (some .int)) (by decide) rfl (Nat.le_of_ble_eq_true rfl) ?_
  intro p e s m below meth c ls C hr hlk hP hK hE hN hl
  have hS : va_S (fun _ => False) s.heap s.heap [] := va_S.rf
  have C : CallFix p m c cX0_neededInTheEnd 5 s [.ref a0, .int 0].toArray wsX0_neededInTheEnd RX0 := C
  obtain ⟨hx, hb, hml, hown, hts⟩ := id C
  have hl : lv_has ls 5 [(0, .ref a0), (1, .int 0)] := hl
  have rx0 := ka_rng x0
  refine lv_iconst (v := 1) hx hb dX0_neededInTheEnd_0 (by decide) ?_
  refine lv_iload_n hx hb dX0_neededInTheEnd_1 rfl (lv_at hl 1 rfl) ?_
  refine lv_ishl hx hb dX0_neededInTheEnd_2 ?_
  refine ka_top (w := .int 1) (congrArg Value.int (by decide)) ?_
  refine lv_istore_n (lv' := [(2, .int 1), (0, .ref a0), (1, .int 0)]) hx hb dX0_neededInTheEnd_3 rfl hl (by decide) rfl (fun ls hl => ?_)
  refine lv_iconst (v := 0) hx hb dX0_neededInTheEnd_4 (by decide) ?_
  refine lv_istore_n (lv' := [(3, .int 0), (2, .int 1), (0, .ref a0), (1, .int 0)]) hx hb dX0_neededInTheEnd_5 rfl hl (by decide) rfl (fun ls hl => ?_)
  have lp_2710 : ∀ (n : Nat) (i2710_2 : Int32) (i2710_3 : Int32), (0 ≤ i2710_3.toInt ∧ i2710_3.toInt ≤ 6) → (6 - i2710_3.toInt).toNat < n → ∀ (ls : Array Slot), lv_has ls 5 [(0, .ref a0), (1, .int 0), (2, .int i2710_2), (3, .int i2710_3)] → W p l e ({ frames := 1, cells := 0, slots := 0, locals := 21 }) s m [.ref a0, .int 0].toArray below meth c s.heap [] 0 0 (MQ below (ka_QR (fun v => ∃ x : Int32, v = some (.int x))) [.ref a0, .int 0].toArray s 0 0 (fun _ => False)) (F0 m 6 ls []) := by
    intro n
    induction n with
    | zero =>
      intro i2710_2 i2710_3 hi2710_3 hm
      exact absurd hm (Nat.not_lt_zero _)
    | succ n ih_2710 =>
      intro i2710_2 i2710_3 hi2710_3 hm ls hl
      have ri2710_2 := ka_rng i2710_2
      have ri2710_3 := ka_rng i2710_3
      refine lv_iload_n hx hb dX0_neededInTheEnd_6 rfl (lv_at hl 3 rfl) ?_
      refine lv_bipush (v := 6) hx hb dX0_neededInTheEnd_7 (by decide) ?_
      refine lv_icmp_ge (tgt := 57) hx hb dX0_neededInTheEnd_9 (by decide) (fun c_2729 => ?_) (fun c_2729 => ?_)
      · have c_2729 : 6 ≤ i2710_3.toInt := by rw [ka_le', show ((6 : Int32)).toInt = 6 from by decide] at c_2729; exact c_2729
        refine lv_iload_n hx hb dX0_neededInTheEnd_57 rfl (lv_at hl 2 rfl) ?_
        exact ka_rRi C hr hlk ⟨_, rfl⟩ dX0_neededInTheEnd_58
      · have c_2729 : ¬ 6 ≤ i2710_3.toInt := by rw [ka_le', show ((6 : Int32)).toInt = 6 from by decide] at c_2729; exact c_2729
        refine lv_iconst (v := 0) hx hb dX0_neededInTheEnd_12 (by decide) ?_
        refine lv_istore (lv' := [(4, .int 0), (0, .ref a0), (1, .int 0), (2, .int i2710_2), (3, .int i2710_3)]) hx hb dX0_neededInTheEnd_13 hl (by decide) rfl (fun ls hl => ?_)
        have lp_2730 : ∀ (n : Nat) (i2730_2 : Int32) (i2730_4 : Int32), (0 ≤ i2730_4.toInt ∧ i2730_4.toInt ≤ 6) → (6 - i2730_4.toInt).toNat < n → ∀ (ls : Array Slot), lv_has ls 5 [(0, .ref a0), (1, .int 0), (2, .int i2730_2), (3, .int i2710_3), (4, .int i2730_4)] → W p l e ({ frames := 1, cells := 0, slots := 0, locals := 21 }) s m [.ref a0, .int 0].toArray below meth c s.heap [] 0 0 (MQ below (ka_QR (fun v => ∃ x : Int32, v = some (.int x))) [.ref a0, .int 0].toArray s 0 0 (fun _ => False)) (F0 m 15 ls []) := by
          intro n
          induction n with
          | zero =>
            intro i2730_2 i2730_4 hi2730_4 hm
            exact absurd hm (Nat.not_lt_zero _)
          | succ n ih_2730 =>
            intro i2730_2 i2730_4 hi2730_4 hm ls hl
            have ri2730_2 := ka_rng i2730_2
            have ri2730_4 := ka_rng i2730_4
            refine lv_iload hx hb dX0_neededInTheEnd_15 (lv_at hl 4 rfl) ?_
            refine lv_aload_n hx hb dX0_neededInTheEnd_17 rfl (lv_at hl 0 rfl) ?_
            refine ka_get C lq_68 rfl hK hP 0 rfl 1 (by decide) lq_69 rfl dX0_neededInTheEnd_18 ?_
            refine va_alen hx hb hK hP 1 0 rfl (ty := .int) rfl (v := 6) rfl dX0_neededInTheEnd_21 ?_
            refine lv_icmp_ge (tgt := 51) hx hb dX0_neededInTheEnd_22 (by decide) (fun c_2739 => ?_) (fun c_2739 => ?_)
            · have c_2739 : 6 ≤ i2730_4.toInt := by rw [ka_le', show ((6 : Int32)).toInt = 6 from by decide] at c_2739; exact c_2739
              obtain ⟨v_2740, ev_2740⟩ : ∃ y : Int32, y = i2710_3 + 1 := ⟨_, rfl⟩
              refine lv_iinc (v := v_2740) (lv' := [(3, .int v_2740), (0, .ref a0), (1, .int 0), (2, .int i2730_2), (4, .int i2730_4)]) hx hb dX0_neededInTheEnd_51 hl (k := 3) rfl (by rw [ev_2740]; rfl) (by decide) rfl (fun ls hl => ?_)
              have fv_2740 : v_2740.toInt = i2710_3.toInt + 1 := by rw [ev_2740]; exact ka_add (x := i2710_3.toInt) (y := 1) rfl (by decide) (by omega) (by omega)
              refine lv_goto (tgt := 6) hx hb dX0_neededInTheEnd_54 (by decide) ?_
              exact ih_2710 i2730_2 v_2740 ⟨by omega, by omega⟩ (by omega) ls (lv_sub hl [1, 2, 3, 0] rfl)
            · have c_2739 : ¬ 6 ≤ i2730_4.toInt := by rw [ka_le', show ((6 : Int32)).toInt = 6 from by decide] at c_2739; exact c_2739
              refine lv_iload_n hx hb dX0_neededInTheEnd_25 rfl (lv_at hl 2 rfl) ?_
              refine lv_iload hx hb dX0_neededInTheEnd_26 (lv_at hl 4 rfl) ?_
              refine ka_RN (n := 2) C (ka_c_bitAt l D F i2730_2 i2730_4) gX0_neededInTheEnd_X6_bitAt_n30 rfl hN.2.2.2.1 lq_70 lq_71 (by decide +kernel) ⟨Nat.le_of_ble_eq_true rfl, Nat.le_of_ble_eq_true rfl⟩ hK hP hS hE hN [] rfl [] rfl rfl hl.1 (rest := []) rfl (Nat.le_of_ble_eq_true rfl) dX0_neededInTheEnd_28 ⟨Nat.le_of_ble_eq_true rfl, Nat.le_of_ble_eq_true rfl⟩ (fun v hv => ?_)
              subst hv
              refine ka_stk (w := .int (ka_bit i2730_2 i2730_4) :: []) rfl ?_
              refine lv_topi (fun v_2741 ev_2741 => ?_)
              have fv_2741 := ka_bit_in i2730_2 i2730_4; rw [← ev_2741] at fv_2741
              refine lv_iconst (v := 1) hx hb dX0_neededInTheEnd_31 (by decide) ?_
              refine lv_icmp_ne (tgt := 45) hx hb dX0_neededInTheEnd_32 (by decide) (fun c_2742 => ?_) (fun c_2742 => ?_)
              · have c_2742 : ¬ v_2741.toInt = 1 := by rw [ka_eq', show ((1 : Int32)).toInt = 1 from by decide] at c_2742; exact c_2742
                obtain ⟨v_2743, ev_2743⟩ : ∃ y : Int32, y = i2730_4 + 1 := ⟨_, rfl⟩
                refine lv_iinc (v := v_2743) (lv' := [(4, .int v_2743), (0, .ref a0), (1, .int 0), (2, .int i2730_2), (3, .int i2710_3)]) hx hb dX0_neededInTheEnd_45 hl (k := 4) rfl (by rw [ev_2743]; rfl) (by decide) rfl (fun ls hl => ?_)
                have fv_2743 : v_2743.toInt = i2730_4.toInt + 1 := by rw [ev_2743]; exact ka_add (x := i2730_4.toInt) (y := 1) rfl (by decide) (by omega) (by omega)
                refine lv_goto (tgt := 15) hx hb dX0_neededInTheEnd_48 (by decide) ?_
                exact ih_2730 i2730_2 v_2743 ⟨by omega, by omega⟩ (by omega) ls (lv_sub hl [1, 2, 3, 4, 0] rfl)
              · have c_2742 : v_2741.toInt = 1 := by rw [ka_eq', show ((1 : Int32)).toInt = 1 from by decide] at c_2742; exact c_2742
                refine lv_iload_n hx hb dX0_neededInTheEnd_35 rfl (lv_at hl 2 rfl) ?_
                refine lv_aload_n hx hb dX0_neededInTheEnd_36 rfl (lv_at hl 0 rfl) ?_
                refine ka_get C lq_68 rfl hK hP 0 rfl 1 (by decide) lq_69 rfl dX0_neededInTheEnd_37 ?_
                refine lv_iload hx hb dX0_neededInTheEnd_40 (lv_at hl 4 rfl) ?_
                refine va_iald hx hb hK hP 1 0 rfl rfl (ka_in (by omega) (by omega)) dX0_neededInTheEnd_42 ?_
                refine lv_topi (fun v_2744 ev_2744 => ?_)
                refine lv_ior hx hb dX0_neededInTheEnd_43 ?_
                refine lv_topi (fun v_2745 ev_2745 => ?_)
                refine lv_istore_n (lv' := [(2, .int v_2745), (0, .ref a0), (1, .int 0), (3, .int i2710_3), (4, .int i2730_4)]) hx hb dX0_neededInTheEnd_44 rfl hl (by decide) rfl (fun ls hl => ?_)
                obtain ⟨v_2746, ev_2746⟩ : ∃ y : Int32, y = i2730_4 + 1 := ⟨_, rfl⟩
                refine lv_iinc (v := v_2746) (lv' := [(4, .int v_2746), (2, .int v_2745), (0, .ref a0), (1, .int 0), (3, .int i2710_3)]) hx hb dX0_neededInTheEnd_45 hl (k := 4) rfl (by rw [ev_2746]; rfl) (by decide) rfl (fun ls hl => ?_)
                have fv_2746 : v_2746.toInt = i2730_4.toInt + 1 := by rw [ev_2746]; exact ka_add (x := i2730_4.toInt) (y := 1) rfl (by decide) (by omega) (by omega)
                refine lv_goto (tgt := 15) hx hb dX0_neededInTheEnd_48 (by decide) ?_
                exact ih_2730 v_2745 v_2746 ⟨by omega, by omega⟩ (by omega) ls (lv_sub hl [2, 3, 1, 4, 0] rfl)
        exact lp_2730 _ i2710_2 0 ⟨by decide, by decide⟩ (Nat.lt_succ_self _) ls (lv_sub hl [1, 2, 3, 4, 0] rfl)
  exact lp_2710 _ 1 0 ⟨by decide, by decide⟩ (Nat.lt_succ_self _) ls (lv_sub hl [2, 3, 1, 0] rfl)
theorem lq_72 : ∀ w ∈ wsX00, w ∈ wsX0_addNeed := by decide +kernel
theorem lq_73 : Cond.fieldLink RX0 17 "AskedBack$Course" "needed" "[I" ∈ wsX0_addNeed := by decide +kernel
theorem lq_74 : Cond.initialized RX6 ∈ wsX0_addNeed := by decide +kernel
theorem lq_75 : Cond.static yX6_bitAt ∈ wsX0_addNeed := by decide +kernel
set_option maxHeartbeats 4000000 in
set_option maxRecDepth 100000 in
theorem cg_X0_addNeed_38 (l : Launch) (D : va_G) (F : Nat → Prop) (a0 : Nat) (x0 : Int32) (x1 : Int32) (a1 : Nat) (a2 : Nat) (x2 : Int32) (k0 : ClassId) (f0 : Nat → Int32) : ka_E l D F yX0_addNeed wsX0_addNeed 2 45 0 0 [.ref a0, .int x0, .int x1] [(a0, .inr (0, [.ref a1, .ref a2, .int x2])), (a2, .inl (k0, 6, .inl f0))] [(k0, .int)] (fun (u : (Nat → Int32) × (Int32)) => some (.int (u.2))) (fun (u : (Nat → Int32) × (Int32)) => (0 ≤ (u.2).toInt ∧ (u.2).toInt ≤ 1)) (fun (u : (Nat → Int32) × (Int32)) => [(a0, .inr (0, [.ref a1, .ref a2, .int x2])), (a2, .inl (k0, 6, .inl (u.1)))]) (fun (u : (Nat → Int32) × (Int32)) => []) := by
  refine ka_E_of (cc := cX0_addNeed) (maxL := 3) (ret := (some .boolean)) (by decide) rfl (Nat.le_of_ble_eq_true rfl) ?_
  intro p e s m below meth c ls A C hr hlk hin hP hK hD hS hA hE hN hl
  have C : CallFix p m c cX0_addNeed 3 s [.ref a0, .int x0, .int x1].toArray wsX0_addNeed RX0 := C
  obtain ⟨hx, hb, hml, hown, hts⟩ := id C
  have hl : lv_has ls 3 [(0, .ref a0), (1, .int x0), (2, .int x1)] := hl
  have rx0 := ka_rng x0
  have rx1 := ka_rng x1
  have rx2 := ka_rng x2
  rcases (show x0.toInt ≤ -1 ∨ x0.toInt = 0 ∨ x0.toInt = 1 ∨ x0.toInt = 2 ∨ x0.toInt = 3 ∨ x0.toInt = 4 ∨ x0.toInt = 5 ∨ 6 ≤ x0.toInt by omega) with y_3239 | y_3239 | y_3239 | y_3239 | y_3239 | y_3239 | y_3239 | y_3239
  · skip
    rcases (show x1.toInt ≤ -1 ∨ x1.toInt = 0 ∨ x1.toInt = 1 ∨ x1.toInt = 2 ∨ x1.toInt = 3 ∨ x1.toInt = 4 ∨ x1.toInt = 5 ∨ 6 ≤ x1.toInt by omega) with y_3240 | y_3240 | y_3240 | y_3240 | y_3240 | y_3240 | y_3240 | y_3240
    · skip
      refine lv_iload_n hx hb dX0_addNeed_0 rfl (lv_at hl 1 rfl) ?_
      refine ka_RS (n := 1) C (cg_X0_isLesson_21 l D F x0 (by omega)) gX0_addNeed_X0_isLesson rfl (by decide +kernel) ⟨Nat.le_of_ble_eq_true rfl, Nat.le_of_ble_eq_true rfl⟩ hK hP hS hE hN [] rfl [] rfl rfl hl.1 (rest := []) rfl (Nat.le_of_ble_eq_true rfl) dX0_addNeed_1 ⟨Nat.le_of_ble_eq_true rfl, Nat.le_of_ble_eq_true rfl⟩ (fun v hv => ?_)
      subst hv
      refine ka_stk (w := [.int 0]) rfl ?_
      refine lv_if_eq (tgt := 19) hx hb dX0_addNeed_4 (by decide) (fun _ => ?_) (fun c_ => absurd (by decide) c_)
      refine lv_iconst (v := 0) hx hb dX0_addNeed_19 (by decide) ?_
      exact ka_rEz C hr hlk rfl (Nat.le_of_ble_eq_true rfl) (Nat.le_of_ble_eq_true rfl) hS (ka_qE (f0, 0) rfl (show 0 ≤ ((0 : Int32)).toInt ∧ ((0 : Int32)).toInt ≤ 1 from ⟨by decide, by decide⟩) hK hP hD hS [0, 1] (by decide) rfl [] rfl) dX0_addNeed_20
    · obtain rfl : x1 = 0 := (ka_eq' _ _).mpr (y_3240.trans (by decide))
      refine lv_iload_n hx hb dX0_addNeed_0 rfl (lv_at hl 1 rfl) ?_
      refine ka_RS (n := 1) C (cg_X0_isLesson_21 l D F x0 (by omega)) gX0_addNeed_X0_isLesson rfl (by decide +kernel) ⟨Nat.le_of_ble_eq_true rfl, Nat.le_of_ble_eq_true rfl⟩ hK hP hS hE hN [] rfl [] rfl rfl hl.1 (rest := []) rfl (Nat.le_of_ble_eq_true rfl) dX0_addNeed_1 ⟨Nat.le_of_ble_eq_true rfl, Nat.le_of_ble_eq_true rfl⟩ (fun v hv => ?_)
      subst hv
      refine ka_stk (w := [.int 0]) rfl ?_
      refine lv_if_eq (tgt := 19) hx hb dX0_addNeed_4 (by decide) (fun _ => ?_) (fun c_ => absurd (by decide) c_)
      refine lv_iconst (v := 0) hx hb dX0_addNeed_19 (by decide) ?_
      exact ka_rEz C hr hlk rfl (Nat.le_of_ble_eq_true rfl) (Nat.le_of_ble_eq_true rfl) hS (ka_qE (f0, 0) rfl (show 0 ≤ ((0 : Int32)).toInt ∧ ((0 : Int32)).toInt ≤ 1 from ⟨by decide, by decide⟩) hK hP hD hS [0, 1] (by decide) rfl [] rfl) dX0_addNeed_20
    · obtain rfl : x1 = 1 := (ka_eq' _ _).mpr (y_3240.trans (by decide))
      refine lv_iload_n hx hb dX0_addNeed_0 rfl (lv_at hl 1 rfl) ?_
      refine ka_RS (n := 1) C (cg_X0_isLesson_21 l D F x0 (by omega)) gX0_addNeed_X0_isLesson rfl (by decide +kernel) ⟨Nat.le_of_ble_eq_true rfl, Nat.le_of_ble_eq_true rfl⟩ hK hP hS hE hN [] rfl [] rfl rfl hl.1 (rest := []) rfl (Nat.le_of_ble_eq_true rfl) dX0_addNeed_1 ⟨Nat.le_of_ble_eq_true rfl, Nat.le_of_ble_eq_true rfl⟩ (fun v hv => ?_)
      subst hv
      refine ka_stk (w := [.int 0]) rfl ?_
      refine lv_if_eq (tgt := 19) hx hb dX0_addNeed_4 (by decide) (fun _ => ?_) (fun c_ => absurd (by decide) c_)
      refine lv_iconst (v := 0) hx hb dX0_addNeed_19 (by decide) ?_
      exact ka_rEz C hr hlk rfl (Nat.le_of_ble_eq_true rfl) (Nat.le_of_ble_eq_true rfl) hS (ka_qE (f0, 0) rfl (show 0 ≤ ((0 : Int32)).toInt ∧ ((0 : Int32)).toInt ≤ 1 from ⟨by decide, by decide⟩) hK hP hD hS [0, 1] (by decide) rfl [] rfl) dX0_addNeed_20
    · obtain rfl : x1 = 2 := (ka_eq' _ _).mpr (y_3240.trans (by decide))
      refine lv_iload_n hx hb dX0_addNeed_0 rfl (lv_at hl 1 rfl) ?_
      refine ka_RS (n := 1) C (cg_X0_isLesson_21 l D F x0 (by omega)) gX0_addNeed_X0_isLesson rfl (by decide +kernel) ⟨Nat.le_of_ble_eq_true rfl, Nat.le_of_ble_eq_true rfl⟩ hK hP hS hE hN [] rfl [] rfl rfl hl.1 (rest := []) rfl (Nat.le_of_ble_eq_true rfl) dX0_addNeed_1 ⟨Nat.le_of_ble_eq_true rfl, Nat.le_of_ble_eq_true rfl⟩ (fun v hv => ?_)
      subst hv
      refine ka_stk (w := [.int 0]) rfl ?_
      refine lv_if_eq (tgt := 19) hx hb dX0_addNeed_4 (by decide) (fun _ => ?_) (fun c_ => absurd (by decide) c_)
      refine lv_iconst (v := 0) hx hb dX0_addNeed_19 (by decide) ?_
      exact ka_rEz C hr hlk rfl (Nat.le_of_ble_eq_true rfl) (Nat.le_of_ble_eq_true rfl) hS (ka_qE (f0, 0) rfl (show 0 ≤ ((0 : Int32)).toInt ∧ ((0 : Int32)).toInt ≤ 1 from ⟨by decide, by decide⟩) hK hP hD hS [0, 1] (by decide) rfl [] rfl) dX0_addNeed_20
    · obtain rfl : x1 = 3 := (ka_eq' _ _).mpr (y_3240.trans (by decide))
      refine lv_iload_n hx hb dX0_addNeed_0 rfl (lv_at hl 1 rfl) ?_
      refine ka_RS (n := 1) C (cg_X0_isLesson_21 l D F x0 (by omega)) gX0_addNeed_X0_isLesson rfl (by decide +kernel) ⟨Nat.le_of_ble_eq_true rfl, Nat.le_of_ble_eq_true rfl⟩ hK hP hS hE hN [] rfl [] rfl rfl hl.1 (rest := []) rfl (Nat.le_of_ble_eq_true rfl) dX0_addNeed_1 ⟨Nat.le_of_ble_eq_true rfl, Nat.le_of_ble_eq_true rfl⟩ (fun v hv => ?_)
      subst hv
      refine ka_stk (w := [.int 0]) rfl ?_
      refine lv_if_eq (tgt := 19) hx hb dX0_addNeed_4 (by decide) (fun _ => ?_) (fun c_ => absurd (by decide) c_)
      refine lv_iconst (v := 0) hx hb dX0_addNeed_19 (by decide) ?_
      exact ka_rEz C hr hlk rfl (Nat.le_of_ble_eq_true rfl) (Nat.le_of_ble_eq_true rfl) hS (ka_qE (f0, 0) rfl (show 0 ≤ ((0 : Int32)).toInt ∧ ((0 : Int32)).toInt ≤ 1 from ⟨by decide, by decide⟩) hK hP hD hS [0, 1] (by decide) rfl [] rfl) dX0_addNeed_20
    · obtain rfl : x1 = 4 := (ka_eq' _ _).mpr (y_3240.trans (by decide))
      refine lv_iload_n hx hb dX0_addNeed_0 rfl (lv_at hl 1 rfl) ?_
      refine ka_RS (n := 1) C (cg_X0_isLesson_21 l D F x0 (by omega)) gX0_addNeed_X0_isLesson rfl (by decide +kernel) ⟨Nat.le_of_ble_eq_true rfl, Nat.le_of_ble_eq_true rfl⟩ hK hP hS hE hN [] rfl [] rfl rfl hl.1 (rest := []) rfl (Nat.le_of_ble_eq_true rfl) dX0_addNeed_1 ⟨Nat.le_of_ble_eq_true rfl, Nat.le_of_ble_eq_true rfl⟩ (fun v hv => ?_)
      subst hv
      refine ka_stk (w := [.int 0]) rfl ?_
      refine lv_if_eq (tgt := 19) hx hb dX0_addNeed_4 (by decide) (fun _ => ?_) (fun c_ => absurd (by decide) c_)
      refine lv_iconst (v := 0) hx hb dX0_addNeed_19 (by decide) ?_
      exact ka_rEz C hr hlk rfl (Nat.le_of_ble_eq_true rfl) (Nat.le_of_ble_eq_true rfl) hS (ka_qE (f0, 0) rfl (show 0 ≤ ((0 : Int32)).toInt ∧ ((0 : Int32)).toInt ≤ 1 from ⟨by decide, by decide⟩) hK hP hD hS [0, 1] (by decide) rfl [] rfl) dX0_addNeed_20
    · obtain rfl : x1 = 5 := (ka_eq' _ _).mpr (y_3240.trans (by decide))
      refine lv_iload_n hx hb dX0_addNeed_0 rfl (lv_at hl 1 rfl) ?_
      refine ka_RS (n := 1) C (cg_X0_isLesson_21 l D F x0 (by omega)) gX0_addNeed_X0_isLesson rfl (by decide +kernel) ⟨Nat.le_of_ble_eq_true rfl, Nat.le_of_ble_eq_true rfl⟩ hK hP hS hE hN [] rfl [] rfl rfl hl.1 (rest := []) rfl (Nat.le_of_ble_eq_true rfl) dX0_addNeed_1 ⟨Nat.le_of_ble_eq_true rfl, Nat.le_of_ble_eq_true rfl⟩ (fun v hv => ?_)
      subst hv
      refine ka_stk (w := [.int 0]) rfl ?_
      refine lv_if_eq (tgt := 19) hx hb dX0_addNeed_4 (by decide) (fun _ => ?_) (fun c_ => absurd (by decide) c_)
      refine lv_iconst (v := 0) hx hb dX0_addNeed_19 (by decide) ?_
      exact ka_rEz C hr hlk rfl (Nat.le_of_ble_eq_true rfl) (Nat.le_of_ble_eq_true rfl) hS (ka_qE (f0, 0) rfl (show 0 ≤ ((0 : Int32)).toInt ∧ ((0 : Int32)).toInt ≤ 1 from ⟨by decide, by decide⟩) hK hP hD hS [0, 1] (by decide) rfl [] rfl) dX0_addNeed_20
    · skip
      refine lv_iload_n hx hb dX0_addNeed_0 rfl (lv_at hl 1 rfl) ?_
      refine ka_RS (n := 1) C (cg_X0_isLesson_21 l D F x0 (by omega)) gX0_addNeed_X0_isLesson rfl (by decide +kernel) ⟨Nat.le_of_ble_eq_true rfl, Nat.le_of_ble_eq_true rfl⟩ hK hP hS hE hN [] rfl [] rfl rfl hl.1 (rest := []) rfl (Nat.le_of_ble_eq_true rfl) dX0_addNeed_1 ⟨Nat.le_of_ble_eq_true rfl, Nat.le_of_ble_eq_true rfl⟩ (fun v hv => ?_)
      subst hv
      refine ka_stk (w := [.int 0]) rfl ?_
      refine lv_if_eq (tgt := 19) hx hb dX0_addNeed_4 (by decide) (fun _ => ?_) (fun c_ => absurd (by decide) c_)
      refine lv_iconst (v := 0) hx hb dX0_addNeed_19 (by decide) ?_
      exact ka_rEz C hr hlk rfl (Nat.le_of_ble_eq_true rfl) (Nat.le_of_ble_eq_true rfl) hS (ka_qE (f0, 0) rfl (show 0 ≤ ((0 : Int32)).toInt ∧ ((0 : Int32)).toInt ≤ 1 from ⟨by decide, by decide⟩) hK hP hD hS [0, 1] (by decide) rfl [] rfl) dX0_addNeed_20
  · obtain rfl : x0 = 0 := (ka_eq' _ _).mpr (y_3239.trans (by decide))
    rcases (show x1.toInt ≤ -1 ∨ x1.toInt = 0 ∨ x1.toInt = 1 ∨ x1.toInt = 2 ∨ x1.toInt = 3 ∨ x1.toInt = 4 ∨ x1.toInt = 5 ∨ 6 ≤ x1.toInt by omega) with y_3241 | y_3241 | y_3241 | y_3241 | y_3241 | y_3241 | y_3241 | y_3241
    · skip
      refine lv_iload_n hx hb dX0_addNeed_0 rfl (lv_at hl 1 rfl) ?_
      refine ka_RS (n := 1) C (cg_X0_isLesson_22 l D F ) gX0_addNeed_X0_isLesson rfl (by decide +kernel) ⟨Nat.le_of_ble_eq_true rfl, Nat.le_of_ble_eq_true rfl⟩ hK hP hS hE hN [] rfl [] rfl rfl hl.1 (rest := []) rfl (Nat.le_of_ble_eq_true rfl) dX0_addNeed_1 ⟨Nat.le_of_ble_eq_true rfl, Nat.le_of_ble_eq_true rfl⟩ (fun v hv => ?_)
      subst hv
      refine ka_stk (w := [.int 1]) rfl ?_
      refine lv_if_eq (tgt := 19) hx hb dX0_addNeed_4 (by decide) (fun c_ => absurd c_ (by decide)) (fun _ => ?_)
      refine lv_iload_n hx hb dX0_addNeed_7 rfl (lv_at hl 2 rfl) ?_
      refine ka_RS (n := 1) C (cg_X0_isLesson_21 l D F x1 (by omega)) gX0_addNeed_X0_isLesson rfl (by decide +kernel) ⟨Nat.le_of_ble_eq_true rfl, Nat.le_of_ble_eq_true rfl⟩ hK hP hS hE hN [] rfl [] rfl rfl hl.1 (rest := []) rfl (Nat.le_of_ble_eq_true rfl) dX0_addNeed_8 ⟨Nat.le_of_ble_eq_true rfl, Nat.le_of_ble_eq_true rfl⟩ (fun v hv => ?_)
      subst hv
      refine ka_stk (w := [.int 0]) rfl ?_
      refine lv_if_eq (tgt := 19) hx hb dX0_addNeed_11 (by decide) (fun _ => ?_) (fun c_ => absurd (by decide) c_)
      refine lv_iconst (v := 0) hx hb dX0_addNeed_19 (by decide) ?_
      exact ka_rEz C hr hlk rfl (Nat.le_of_ble_eq_true rfl) (Nat.le_of_ble_eq_true rfl) hS (ka_qE (f0, 0) rfl (show 0 ≤ ((0 : Int32)).toInt ∧ ((0 : Int32)).toInt ≤ 1 from ⟨by decide, by decide⟩) hK hP hD hS [0, 1] (by decide) rfl [] rfl) dX0_addNeed_20
    · obtain rfl : x1 = 0 := (ka_eq' _ _).mpr (y_3241.trans (by decide))
      refine lv_iload_n hx hb dX0_addNeed_0 rfl (lv_at hl 1 rfl) ?_
      refine ka_RS (n := 1) C (cg_X0_isLesson_22 l D F ) gX0_addNeed_X0_isLesson rfl (by decide +kernel) ⟨Nat.le_of_ble_eq_true rfl, Nat.le_of_ble_eq_true rfl⟩ hK hP hS hE hN [] rfl [] rfl rfl hl.1 (rest := []) rfl (Nat.le_of_ble_eq_true rfl) dX0_addNeed_1 ⟨Nat.le_of_ble_eq_true rfl, Nat.le_of_ble_eq_true rfl⟩ (fun v hv => ?_)
      subst hv
      refine ka_stk (w := [.int 1]) rfl ?_
      refine lv_if_eq (tgt := 19) hx hb dX0_addNeed_4 (by decide) (fun c_ => absurd c_ (by decide)) (fun _ => ?_)
      refine lv_iload_n hx hb dX0_addNeed_7 rfl (lv_at hl 2 rfl) ?_
      refine ka_RS (n := 1) C (cg_X0_isLesson_22 l D F ) gX0_addNeed_X0_isLesson rfl (by decide +kernel) ⟨Nat.le_of_ble_eq_true rfl, Nat.le_of_ble_eq_true rfl⟩ hK hP hS hE hN [] rfl [] rfl rfl hl.1 (rest := []) rfl (Nat.le_of_ble_eq_true rfl) dX0_addNeed_8 ⟨Nat.le_of_ble_eq_true rfl, Nat.le_of_ble_eq_true rfl⟩ (fun v hv => ?_)
      subst hv
      refine ka_stk (w := [.int 1]) rfl ?_
      refine lv_if_eq (tgt := 19) hx hb dX0_addNeed_11 (by decide) (fun c_ => absurd c_ (by decide)) (fun _ => ?_)
      refine lv_iload_n hx hb dX0_addNeed_14 rfl (lv_at hl 1 rfl) ?_
      refine lv_iload_n hx hb dX0_addNeed_15 rfl (lv_at hl 2 rfl) ?_
      refine lv_icmp_ne (tgt := 21) hx hb dX0_addNeed_16 (by decide) (fun c_ => absurd (by decide) c_) (fun _ => ?_)
      refine lv_iconst (v := 0) hx hb dX0_addNeed_19 (by decide) ?_
      exact ka_rEz C hr hlk rfl (Nat.le_of_ble_eq_true rfl) (Nat.le_of_ble_eq_true rfl) hS (ka_qE (f0, 0) rfl (show 0 ≤ ((0 : Int32)).toInt ∧ ((0 : Int32)).toInt ≤ 1 from ⟨by decide, by decide⟩) hK hP hD hS [0, 1] (by decide) rfl [] rfl) dX0_addNeed_20
    · obtain rfl : x1 = 1 := (ka_eq' _ _).mpr (y_3241.trans (by decide))
      refine lv_iload_n hx hb dX0_addNeed_0 rfl (lv_at hl 1 rfl) ?_
      refine ka_RS (n := 1) C (cg_X0_isLesson_22 l D F ) gX0_addNeed_X0_isLesson rfl (by decide +kernel) ⟨Nat.le_of_ble_eq_true rfl, Nat.le_of_ble_eq_true rfl⟩ hK hP hS hE hN [] rfl [] rfl rfl hl.1 (rest := []) rfl (Nat.le_of_ble_eq_true rfl) dX0_addNeed_1 ⟨Nat.le_of_ble_eq_true rfl, Nat.le_of_ble_eq_true rfl⟩ (fun v hv => ?_)
      subst hv
      refine ka_stk (w := [.int 1]) rfl ?_
      refine lv_if_eq (tgt := 19) hx hb dX0_addNeed_4 (by decide) (fun c_ => absurd c_ (by decide)) (fun _ => ?_)
      refine lv_iload_n hx hb dX0_addNeed_7 rfl (lv_at hl 2 rfl) ?_
      refine ka_RS (n := 1) C (cg_X0_isLesson_23 l D F ) gX0_addNeed_X0_isLesson rfl (by decide +kernel) ⟨Nat.le_of_ble_eq_true rfl, Nat.le_of_ble_eq_true rfl⟩ hK hP hS hE hN [] rfl [] rfl rfl hl.1 (rest := []) rfl (Nat.le_of_ble_eq_true rfl) dX0_addNeed_8 ⟨Nat.le_of_ble_eq_true rfl, Nat.le_of_ble_eq_true rfl⟩ (fun v hv => ?_)
      subst hv
      refine ka_stk (w := [.int 1]) rfl ?_
      refine lv_if_eq (tgt := 19) hx hb dX0_addNeed_11 (by decide) (fun c_ => absurd c_ (by decide)) (fun _ => ?_)
      refine lv_iload_n hx hb dX0_addNeed_14 rfl (lv_at hl 1 rfl) ?_
      refine lv_iload_n hx hb dX0_addNeed_15 rfl (lv_at hl 2 rfl) ?_
      refine lv_icmp_ne (tgt := 21) hx hb dX0_addNeed_16 (by decide) (fun _ => ?_) (fun c_ => absurd c_ (by decide))
      refine lv_aload_n hx hb dX0_addNeed_21 rfl (lv_at hl 0 rfl) ?_
      refine ka_get C lq_72 rfl hK hP 0 rfl 1 (by decide) lq_73 rfl dX0_addNeed_22 ?_
      refine lv_iload_n hx hb dX0_addNeed_25 rfl (lv_at hl 1 rfl) ?_
      refine va_iald hx hb hK hP 1 0 rfl rfl (ka_in (by decide) (by decide)) dX0_addNeed_26 ?_
      refine lv_topi (fun v_3242 ev_3242 => ?_)
      refine lv_iload_n hx hb dX0_addNeed_27 rfl (lv_at hl 2 rfl) ?_
      refine ka_RN (n := 2) C (ka_c_bitAt l D F v_3242 1) gX0_addNeed_X6_bitAt_n30 rfl hN.2.2.2.1 lq_74 lq_75 (by decide +kernel) ⟨Nat.le_of_ble_eq_true rfl, Nat.le_of_ble_eq_true rfl⟩ hK hP hS hE hN [] rfl [] rfl rfl hl.1 (rest := []) rfl (Nat.le_of_ble_eq_true rfl) dX0_addNeed_28 ⟨Nat.le_of_ble_eq_true rfl, Nat.le_of_ble_eq_true rfl⟩ (fun v hv => ?_)
      subst hv
      refine ka_stk (w := .int (ka_bit v_3242 1) :: []) rfl ?_
      refine lv_topi (fun v_3243 ev_3243 => ?_)
      have fv_3243 := ka_bit_in v_3242 1; rw [← ev_3243] at fv_3243
      refine lv_iconst (v := 1) hx hb dX0_addNeed_31 (by decide) ?_
      refine lv_icmp_eq (tgt := 48) hx hb dX0_addNeed_32 (by decide) (fun c_3244 => ?_) (fun c_3244 => ?_)
      · have c_3244 : v_3243.toInt = 1 := by rw [ka_eq', show ((1 : Int32)).toInt = 1 from by decide] at c_3244; exact c_3244
        refine lv_iconst (v := 0) hx hb dX0_addNeed_48 (by decide) ?_
        exact ka_rEz C hr hlk rfl (Nat.le_of_ble_eq_true rfl) (Nat.le_of_ble_eq_true rfl) hS (ka_qE (f0, 0) rfl (show 0 ≤ ((0 : Int32)).toInt ∧ ((0 : Int32)).toInt ≤ 1 from ⟨by decide, by decide⟩) hK hP hD hS [0, 1] (by decide) rfl [] rfl) dX0_addNeed_49
      · have c_3244 : ¬ v_3243.toInt = 1 := by rw [ka_eq', show ((1 : Int32)).toInt = 1 from by decide] at c_3244; exact c_3244
        refine lv_aload_n hx hb dX0_addNeed_35 rfl (lv_at hl 0 rfl) ?_
        refine lv_iload_n hx hb dX0_addNeed_36 rfl (lv_at hl 2 rfl) ?_
        refine ka_RV (n := 1) C (cg_X0_neededInTheEnd_32 l D F a0 a1 a2 x2 k0 f0) gX0_addNeed_X0_neededInTheEnd rfl (by decide +kernel) ⟨Nat.le_of_ble_eq_true rfl, Nat.le_of_ble_eq_true rfl⟩ hK hP hS hE hN [0, 1] rfl [0] rfl (ci := 0) rfl rfl 0 rfl rfl hl.1 (rest := []) rfl (Nat.le_of_ble_eq_true rfl) dX0_addNeed_37 ⟨Nat.le_of_ble_eq_true rfl, Nat.le_of_ble_eq_true rfl⟩ (fun v hv => ?_)
        obtain ⟨v_3245, rfl⟩ := hv
        have rv_3245 := ka_rng v_3245
        refine ka_stk (w := [.int v_3245]) rfl ?_
        refine lv_iload_n hx hb dX0_addNeed_40 rfl (lv_at hl 1 rfl) ?_
        refine ka_RN (n := 2) C (ka_c_bitAt l D F v_3245 0) gX0_addNeed_X6_bitAt_n30 rfl hN.2.2.2.1 lq_74 lq_75 (by decide +kernel) ⟨Nat.le_of_ble_eq_true rfl, Nat.le_of_ble_eq_true rfl⟩ hK hP hS hE hN [] rfl [] rfl rfl hl.1 (rest := []) rfl (Nat.le_of_ble_eq_true rfl) dX0_addNeed_41 ⟨Nat.le_of_ble_eq_true rfl, Nat.le_of_ble_eq_true rfl⟩ (fun v hv => ?_)
        subst hv
        refine ka_stk (w := .int (ka_bit v_3245 0) :: []) rfl ?_
        refine lv_topi (fun v_3246 ev_3246 => ?_)
        have fv_3246 := ka_bit_in v_3245 0; rw [← ev_3246] at fv_3246
        refine lv_iconst (v := 1) hx hb dX0_addNeed_44 (by decide) ?_
        refine lv_icmp_ne (tgt := 50) hx hb dX0_addNeed_45 (by decide) (fun c_3247 => ?_) (fun c_3247 => ?_)
        · have c_3247 : ¬ v_3246.toInt = 1 := by rw [ka_eq', show ((1 : Int32)).toInt = 1 from by decide] at c_3247; exact c_3247
          refine lv_aload_n hx hb dX0_addNeed_50 rfl (lv_at hl 0 rfl) ?_
          refine ka_get C lq_72 rfl hK hP 0 rfl 1 (by decide) lq_73 rfl dX0_addNeed_51 ?_
          refine lv_iload_n hx hb dX0_addNeed_54 rfl (lv_at hl 1 rfl) ?_
          refine lv_dup2_11 hx hb dX0_addNeed_55 rfl rfl ?_
          refine va_iald hx hb hK hP 1 0 rfl rfl (ka_in (by decide) (by decide)) dX0_addNeed_56 ?_
          refine lv_topi (fun v_3248 ev_3248 => ?_)
          refine lv_iconst (v := 1) hx hb dX0_addNeed_57 (by decide) ?_
          refine lv_iload_n hx hb dX0_addNeed_58 rfl (lv_at hl 2 rfl) ?_
          refine lv_ishl hx hb dX0_addNeed_59 ?_
          refine ka_top (w := .int 2) (congrArg Value.int (by decide)) ?_
          refine lv_ior hx hb dX0_addNeed_60 ?_
          refine lv_topi (fun v_3249 ev_3249 => ?_)
          refine va_iast hx hb hK hP hD hS 1 0 rfl rfl (ka_in (by decide) (by decide)) dX0_addNeed_61 (fun H locs hP hD hS => ?_)
          have hP : va_P D vwCl [(a0, .inr (0, [.ref a1, .ref a2, .int x2])), (a2, .inl (k0, 6, .inl (upd f0 (Int32.toNatClampNeg 0) v_3249)))] H := hP
          have hD : va_D A [(a0, .inr (0, [.ref a1, .ref a2, .int x2])), (a2, .inl (k0, 6, .inl (upd f0 (Int32.toNatClampNeg 0) v_3249)))] := hD
          generalize (upd f0 (Int32.toNatClampNeg 0) v_3249) = g_3250 at hP hD
          refine lv_iconst (v := 1) hx hb dX0_addNeed_62 (by decide) ?_
          exact ka_rEz C hr hlk rfl (Nat.le_of_ble_eq_true rfl) (Nat.le_of_ble_eq_true rfl) hS (ka_qE (g_3250, 1) rfl (show 0 ≤ ((1 : Int32)).toInt ∧ ((1 : Int32)).toInt ≤ 1 from ⟨by decide, by decide⟩) hK hP hD hS [0, 1] (by decide) rfl [] rfl) dX0_addNeed_63
        · have c_3247 : v_3246.toInt = 1 := by rw [ka_eq', show ((1 : Int32)).toInt = 1 from by decide] at c_3247; exact c_3247
          refine lv_iconst (v := 0) hx hb dX0_addNeed_48 (by decide) ?_
          exact ka_rEz C hr hlk rfl (Nat.le_of_ble_eq_true rfl) (Nat.le_of_ble_eq_true rfl) hS (ka_qE (f0, 0) rfl (show 0 ≤ ((0 : Int32)).toInt ∧ ((0 : Int32)).toInt ≤ 1 from ⟨by decide, by decide⟩) hK hP hD hS [0, 1] (by decide) rfl [] rfl) dX0_addNeed_49
    · obtain rfl : x1 = 2 := (ka_eq' _ _).mpr (y_3241.trans (by decide))
      refine lv_iload_n hx hb dX0_addNeed_0 rfl (lv_at hl 1 rfl) ?_
      refine ka_RS (n := 1) C (cg_X0_isLesson_22 l D F ) gX0_addNeed_X0_isLesson rfl (by decide +kernel) ⟨Nat.le_of_ble_eq_true rfl, Nat.le_of_ble_eq_true rfl⟩ hK hP hS hE hN [] rfl [] rfl rfl hl.1 (rest := []) rfl (Nat.le_of_ble_eq_true rfl) dX0_addNeed_1 ⟨Nat.le_of_ble_eq_true rfl, Nat.le_of_ble_eq_true rfl⟩ (fun v hv => ?_)
      subst hv
      refine ka_stk (w := [.int 1]) rfl ?_
      refine lv_if_eq (tgt := 19) hx hb dX0_addNeed_4 (by decide) (fun c_ => absurd c_ (by decide)) (fun _ => ?_)
      refine lv_iload_n hx hb dX0_addNeed_7 rfl (lv_at hl 2 rfl) ?_
      refine ka_RS (n := 1) C (cg_X0_isLesson_24 l D F ) gX0_addNeed_X0_isLesson rfl (by decide +kernel) ⟨Nat.le_of_ble_eq_true rfl, Nat.le_of_ble_eq_true rfl⟩ hK hP hS hE hN [] rfl [] rfl rfl hl.1 (rest := []) rfl (Nat.le_of_ble_eq_true rfl) dX0_addNeed_8 ⟨Nat.le_of_ble_eq_true rfl, Nat.le_of_ble_eq_true rfl⟩ (fun v hv => ?_)
      subst hv
      refine ka_stk (w := [.int 1]) rfl ?_
      refine lv_if_eq (tgt := 19) hx hb dX0_addNeed_11 (by decide) (fun c_ => absurd c_ (by decide)) (fun _ => ?_)
      refine lv_iload_n hx hb dX0_addNeed_14 rfl (lv_at hl 1 rfl) ?_
      refine lv_iload_n hx hb dX0_addNeed_15 rfl (lv_at hl 2 rfl) ?_
      refine lv_icmp_ne (tgt := 21) hx hb dX0_addNeed_16 (by decide) (fun _ => ?_) (fun c_ => absurd c_ (by decide))
      refine lv_aload_n hx hb dX0_addNeed_21 rfl (lv_at hl 0 rfl) ?_
      refine ka_get C lq_72 rfl hK hP 0 rfl 1 (by decide) lq_73 rfl dX0_addNeed_22 ?_
      refine lv_iload_n hx hb dX0_addNeed_25 rfl (lv_at hl 1 rfl) ?_
      refine va_iald hx hb hK hP 1 0 rfl rfl (ka_in (by decide) (by decide)) dX0_addNeed_26 ?_
      refine lv_topi (fun v_3251 ev_3251 => ?_)
      refine lv_iload_n hx hb dX0_addNeed_27 rfl (lv_at hl 2 rfl) ?_
      refine ka_RN (n := 2) C (ka_c_bitAt l D F v_3251 2) gX0_addNeed_X6_bitAt_n30 rfl hN.2.2.2.1 lq_74 lq_75 (by decide +kernel) ⟨Nat.le_of_ble_eq_true rfl, Nat.le_of_ble_eq_true rfl⟩ hK hP hS hE hN [] rfl [] rfl rfl hl.1 (rest := []) rfl (Nat.le_of_ble_eq_true rfl) dX0_addNeed_28 ⟨Nat.le_of_ble_eq_true rfl, Nat.le_of_ble_eq_true rfl⟩ (fun v hv => ?_)
      subst hv
      refine ka_stk (w := .int (ka_bit v_3251 2) :: []) rfl ?_
      refine lv_topi (fun v_3252 ev_3252 => ?_)
      have fv_3252 := ka_bit_in v_3251 2; rw [← ev_3252] at fv_3252
      refine lv_iconst (v := 1) hx hb dX0_addNeed_31 (by decide) ?_
      refine lv_icmp_eq (tgt := 48) hx hb dX0_addNeed_32 (by decide) (fun c_3253 => ?_) (fun c_3253 => ?_)
      · have c_3253 : v_3252.toInt = 1 := by rw [ka_eq', show ((1 : Int32)).toInt = 1 from by decide] at c_3253; exact c_3253
        refine lv_iconst (v := 0) hx hb dX0_addNeed_48 (by decide) ?_
        exact ka_rEz C hr hlk rfl (Nat.le_of_ble_eq_true rfl) (Nat.le_of_ble_eq_true rfl) hS (ka_qE (f0, 0) rfl (show 0 ≤ ((0 : Int32)).toInt ∧ ((0 : Int32)).toInt ≤ 1 from ⟨by decide, by decide⟩) hK hP hD hS [0, 1] (by decide) rfl [] rfl) dX0_addNeed_49
      · have c_3253 : ¬ v_3252.toInt = 1 := by rw [ka_eq', show ((1 : Int32)).toInt = 1 from by decide] at c_3253; exact c_3253
        refine lv_aload_n hx hb dX0_addNeed_35 rfl (lv_at hl 0 rfl) ?_
        refine lv_iload_n hx hb dX0_addNeed_36 rfl (lv_at hl 2 rfl) ?_
        refine ka_RV (n := 1) C (cg_X0_neededInTheEnd_33 l D F a0 a1 a2 x2 k0 f0) gX0_addNeed_X0_neededInTheEnd rfl (by decide +kernel) ⟨Nat.le_of_ble_eq_true rfl, Nat.le_of_ble_eq_true rfl⟩ hK hP hS hE hN [0, 1] rfl [0] rfl (ci := 0) rfl rfl 0 rfl rfl hl.1 (rest := []) rfl (Nat.le_of_ble_eq_true rfl) dX0_addNeed_37 ⟨Nat.le_of_ble_eq_true rfl, Nat.le_of_ble_eq_true rfl⟩ (fun v hv => ?_)
        obtain ⟨v_3254, rfl⟩ := hv
        have rv_3254 := ka_rng v_3254
        refine ka_stk (w := [.int v_3254]) rfl ?_
        refine lv_iload_n hx hb dX0_addNeed_40 rfl (lv_at hl 1 rfl) ?_
        refine ka_RN (n := 2) C (ka_c_bitAt l D F v_3254 0) gX0_addNeed_X6_bitAt_n30 rfl hN.2.2.2.1 lq_74 lq_75 (by decide +kernel) ⟨Nat.le_of_ble_eq_true rfl, Nat.le_of_ble_eq_true rfl⟩ hK hP hS hE hN [] rfl [] rfl rfl hl.1 (rest := []) rfl (Nat.le_of_ble_eq_true rfl) dX0_addNeed_41 ⟨Nat.le_of_ble_eq_true rfl, Nat.le_of_ble_eq_true rfl⟩ (fun v hv => ?_)
        subst hv
        refine ka_stk (w := .int (ka_bit v_3254 0) :: []) rfl ?_
        refine lv_topi (fun v_3255 ev_3255 => ?_)
        have fv_3255 := ka_bit_in v_3254 0; rw [← ev_3255] at fv_3255
        refine lv_iconst (v := 1) hx hb dX0_addNeed_44 (by decide) ?_
        refine lv_icmp_ne (tgt := 50) hx hb dX0_addNeed_45 (by decide) (fun c_3256 => ?_) (fun c_3256 => ?_)
        · have c_3256 : ¬ v_3255.toInt = 1 := by rw [ka_eq', show ((1 : Int32)).toInt = 1 from by decide] at c_3256; exact c_3256
          refine lv_aload_n hx hb dX0_addNeed_50 rfl (lv_at hl 0 rfl) ?_
          refine ka_get C lq_72 rfl hK hP 0 rfl 1 (by decide) lq_73 rfl dX0_addNeed_51 ?_
          refine lv_iload_n hx hb dX0_addNeed_54 rfl (lv_at hl 1 rfl) ?_
          refine lv_dup2_11 hx hb dX0_addNeed_55 rfl rfl ?_
          refine va_iald hx hb hK hP 1 0 rfl rfl (ka_in (by decide) (by decide)) dX0_addNeed_56 ?_
          refine lv_topi (fun v_3257 ev_3257 => ?_)
          refine lv_iconst (v := 1) hx hb dX0_addNeed_57 (by decide) ?_
          refine lv_iload_n hx hb dX0_addNeed_58 rfl (lv_at hl 2 rfl) ?_
          refine lv_ishl hx hb dX0_addNeed_59 ?_
          refine ka_top (w := .int 4) (congrArg Value.int (by decide)) ?_
          refine lv_ior hx hb dX0_addNeed_60 ?_
          refine lv_topi (fun v_3258 ev_3258 => ?_)
          refine va_iast hx hb hK hP hD hS 1 0 rfl rfl (ka_in (by decide) (by decide)) dX0_addNeed_61 (fun H locs hP hD hS => ?_)
          have hP : va_P D vwCl [(a0, .inr (0, [.ref a1, .ref a2, .int x2])), (a2, .inl (k0, 6, .inl (upd f0 (Int32.toNatClampNeg 0) v_3258)))] H := hP
          have hD : va_D A [(a0, .inr (0, [.ref a1, .ref a2, .int x2])), (a2, .inl (k0, 6, .inl (upd f0 (Int32.toNatClampNeg 0) v_3258)))] := hD
          generalize (upd f0 (Int32.toNatClampNeg 0) v_3258) = g_3259 at hP hD
          refine lv_iconst (v := 1) hx hb dX0_addNeed_62 (by decide) ?_
          exact ka_rEz C hr hlk rfl (Nat.le_of_ble_eq_true rfl) (Nat.le_of_ble_eq_true rfl) hS (ka_qE (g_3259, 1) rfl (show 0 ≤ ((1 : Int32)).toInt ∧ ((1 : Int32)).toInt ≤ 1 from ⟨by decide, by decide⟩) hK hP hD hS [0, 1] (by decide) rfl [] rfl) dX0_addNeed_63
        · have c_3256 : v_3255.toInt = 1 := by rw [ka_eq', show ((1 : Int32)).toInt = 1 from by decide] at c_3256; exact c_3256
          refine lv_iconst (v := 0) hx hb dX0_addNeed_48 (by decide) ?_
          exact ka_rEz C hr hlk rfl (Nat.le_of_ble_eq_true rfl) (Nat.le_of_ble_eq_true rfl) hS (ka_qE (f0, 0) rfl (show 0 ≤ ((0 : Int32)).toInt ∧ ((0 : Int32)).toInt ≤ 1 from ⟨by decide, by decide⟩) hK hP hD hS [0, 1] (by decide) rfl [] rfl) dX0_addNeed_49
    · obtain rfl : x1 = 3 := (ka_eq' _ _).mpr (y_3241.trans (by decide))
      refine lv_iload_n hx hb dX0_addNeed_0 rfl (lv_at hl 1 rfl) ?_
      refine ka_RS (n := 1) C (cg_X0_isLesson_22 l D F ) gX0_addNeed_X0_isLesson rfl (by decide +kernel) ⟨Nat.le_of_ble_eq_true rfl, Nat.le_of_ble_eq_true rfl⟩ hK hP hS hE hN [] rfl [] rfl rfl hl.1 (rest := []) rfl (Nat.le_of_ble_eq_true rfl) dX0_addNeed_1 ⟨Nat.le_of_ble_eq_true rfl, Nat.le_of_ble_eq_true rfl⟩ (fun v hv => ?_)
      subst hv
      refine ka_stk (w := [.int 1]) rfl ?_
      refine lv_if_eq (tgt := 19) hx hb dX0_addNeed_4 (by decide) (fun c_ => absurd c_ (by decide)) (fun _ => ?_)
      refine lv_iload_n hx hb dX0_addNeed_7 rfl (lv_at hl 2 rfl) ?_
      refine ka_RS (n := 1) C (cg_X0_isLesson_25 l D F ) gX0_addNeed_X0_isLesson rfl (by decide +kernel) ⟨Nat.le_of_ble_eq_true rfl, Nat.le_of_ble_eq_true rfl⟩ hK hP hS hE hN [] rfl [] rfl rfl hl.1 (rest := []) rfl (Nat.le_of_ble_eq_true rfl) dX0_addNeed_8 ⟨Nat.le_of_ble_eq_true rfl, Nat.le_of_ble_eq_true rfl⟩ (fun v hv => ?_)
      subst hv
      refine ka_stk (w := [.int 1]) rfl ?_
      refine lv_if_eq (tgt := 19) hx hb dX0_addNeed_11 (by decide) (fun c_ => absurd c_ (by decide)) (fun _ => ?_)
      refine lv_iload_n hx hb dX0_addNeed_14 rfl (lv_at hl 1 rfl) ?_
      refine lv_iload_n hx hb dX0_addNeed_15 rfl (lv_at hl 2 rfl) ?_
      refine lv_icmp_ne (tgt := 21) hx hb dX0_addNeed_16 (by decide) (fun _ => ?_) (fun c_ => absurd c_ (by decide))
      refine lv_aload_n hx hb dX0_addNeed_21 rfl (lv_at hl 0 rfl) ?_
      refine ka_get C lq_72 rfl hK hP 0 rfl 1 (by decide) lq_73 rfl dX0_addNeed_22 ?_
      refine lv_iload_n hx hb dX0_addNeed_25 rfl (lv_at hl 1 rfl) ?_
      refine va_iald hx hb hK hP 1 0 rfl rfl (ka_in (by decide) (by decide)) dX0_addNeed_26 ?_
      refine lv_topi (fun v_3260 ev_3260 => ?_)
      refine lv_iload_n hx hb dX0_addNeed_27 rfl (lv_at hl 2 rfl) ?_
      refine ka_RN (n := 2) C (ka_c_bitAt l D F v_3260 3) gX0_addNeed_X6_bitAt_n30 rfl hN.2.2.2.1 lq_74 lq_75 (by decide +kernel) ⟨Nat.le_of_ble_eq_true rfl, Nat.le_of_ble_eq_true rfl⟩ hK hP hS hE hN [] rfl [] rfl rfl hl.1 (rest := []) rfl (Nat.le_of_ble_eq_true rfl) dX0_addNeed_28 ⟨Nat.le_of_ble_eq_true rfl, Nat.le_of_ble_eq_true rfl⟩ (fun v hv => ?_)
      subst hv
      refine ka_stk (w := .int (ka_bit v_3260 3) :: []) rfl ?_
      refine lv_topi (fun v_3261 ev_3261 => ?_)
      have fv_3261 := ka_bit_in v_3260 3; rw [← ev_3261] at fv_3261
      refine lv_iconst (v := 1) hx hb dX0_addNeed_31 (by decide) ?_
      refine lv_icmp_eq (tgt := 48) hx hb dX0_addNeed_32 (by decide) (fun c_3262 => ?_) (fun c_3262 => ?_)
      · have c_3262 : v_3261.toInt = 1 := by rw [ka_eq', show ((1 : Int32)).toInt = 1 from by decide] at c_3262; exact c_3262
        refine lv_iconst (v := 0) hx hb dX0_addNeed_48 (by decide) ?_
        exact ka_rEz C hr hlk rfl (Nat.le_of_ble_eq_true rfl) (Nat.le_of_ble_eq_true rfl) hS (ka_qE (f0, 0) rfl (show 0 ≤ ((0 : Int32)).toInt ∧ ((0 : Int32)).toInt ≤ 1 from ⟨by decide, by decide⟩) hK hP hD hS [0, 1] (by decide) rfl [] rfl) dX0_addNeed_49
      · have c_3262 : ¬ v_3261.toInt = 1 := by rw [ka_eq', show ((1 : Int32)).toInt = 1 from by decide] at c_3262; exact c_3262
        refine lv_aload_n hx hb dX0_addNeed_35 rfl (lv_at hl 0 rfl) ?_
        refine lv_iload_n hx hb dX0_addNeed_36 rfl (lv_at hl 2 rfl) ?_
        refine ka_RV (n := 1) C (cg_X0_neededInTheEnd_34 l D F a0 a1 a2 x2 k0 f0) gX0_addNeed_X0_neededInTheEnd rfl (by decide +kernel) ⟨Nat.le_of_ble_eq_true rfl, Nat.le_of_ble_eq_true rfl⟩ hK hP hS hE hN [0, 1] rfl [0] rfl (ci := 0) rfl rfl 0 rfl rfl hl.1 (rest := []) rfl (Nat.le_of_ble_eq_true rfl) dX0_addNeed_37 ⟨Nat.le_of_ble_eq_true rfl, Nat.le_of_ble_eq_true rfl⟩ (fun v hv => ?_)
        obtain ⟨v_3263, rfl⟩ := hv
        have rv_3263 := ka_rng v_3263
        refine ka_stk (w := [.int v_3263]) rfl ?_
        refine lv_iload_n hx hb dX0_addNeed_40 rfl (lv_at hl 1 rfl) ?_
        refine ka_RN (n := 2) C (ka_c_bitAt l D F v_3263 0) gX0_addNeed_X6_bitAt_n30 rfl hN.2.2.2.1 lq_74 lq_75 (by decide +kernel) ⟨Nat.le_of_ble_eq_true rfl, Nat.le_of_ble_eq_true rfl⟩ hK hP hS hE hN [] rfl [] rfl rfl hl.1 (rest := []) rfl (Nat.le_of_ble_eq_true rfl) dX0_addNeed_41 ⟨Nat.le_of_ble_eq_true rfl, Nat.le_of_ble_eq_true rfl⟩ (fun v hv => ?_)
        subst hv
        refine ka_stk (w := .int (ka_bit v_3263 0) :: []) rfl ?_
        refine lv_topi (fun v_3264 ev_3264 => ?_)
        have fv_3264 := ka_bit_in v_3263 0; rw [← ev_3264] at fv_3264
        refine lv_iconst (v := 1) hx hb dX0_addNeed_44 (by decide) ?_
        refine lv_icmp_ne (tgt := 50) hx hb dX0_addNeed_45 (by decide) (fun c_3265 => ?_) (fun c_3265 => ?_)
        · have c_3265 : ¬ v_3264.toInt = 1 := by rw [ka_eq', show ((1 : Int32)).toInt = 1 from by decide] at c_3265; exact c_3265
          refine lv_aload_n hx hb dX0_addNeed_50 rfl (lv_at hl 0 rfl) ?_
          refine ka_get C lq_72 rfl hK hP 0 rfl 1 (by decide) lq_73 rfl dX0_addNeed_51 ?_
          refine lv_iload_n hx hb dX0_addNeed_54 rfl (lv_at hl 1 rfl) ?_
          refine lv_dup2_11 hx hb dX0_addNeed_55 rfl rfl ?_
          refine va_iald hx hb hK hP 1 0 rfl rfl (ka_in (by decide) (by decide)) dX0_addNeed_56 ?_
          refine lv_topi (fun v_3266 ev_3266 => ?_)
          refine lv_iconst (v := 1) hx hb dX0_addNeed_57 (by decide) ?_
          refine lv_iload_n hx hb dX0_addNeed_58 rfl (lv_at hl 2 rfl) ?_
          refine lv_ishl hx hb dX0_addNeed_59 ?_
          refine ka_top (w := .int 8) (congrArg Value.int (by decide)) ?_
          refine lv_ior hx hb dX0_addNeed_60 ?_
          refine lv_topi (fun v_3267 ev_3267 => ?_)
          refine va_iast hx hb hK hP hD hS 1 0 rfl rfl (ka_in (by decide) (by decide)) dX0_addNeed_61 (fun H locs hP hD hS => ?_)
          have hP : va_P D vwCl [(a0, .inr (0, [.ref a1, .ref a2, .int x2])), (a2, .inl (k0, 6, .inl (upd f0 (Int32.toNatClampNeg 0) v_3267)))] H := hP
          have hD : va_D A [(a0, .inr (0, [.ref a1, .ref a2, .int x2])), (a2, .inl (k0, 6, .inl (upd f0 (Int32.toNatClampNeg 0) v_3267)))] := hD
          generalize (upd f0 (Int32.toNatClampNeg 0) v_3267) = g_3268 at hP hD
          refine lv_iconst (v := 1) hx hb dX0_addNeed_62 (by decide) ?_
          exact ka_rEz C hr hlk rfl (Nat.le_of_ble_eq_true rfl) (Nat.le_of_ble_eq_true rfl) hS (ka_qE (g_3268, 1) rfl (show 0 ≤ ((1 : Int32)).toInt ∧ ((1 : Int32)).toInt ≤ 1 from ⟨by decide, by decide⟩) hK hP hD hS [0, 1] (by decide) rfl [] rfl) dX0_addNeed_63
        · have c_3265 : v_3264.toInt = 1 := by rw [ka_eq', show ((1 : Int32)).toInt = 1 from by decide] at c_3265; exact c_3265
          refine lv_iconst (v := 0) hx hb dX0_addNeed_48 (by decide) ?_
          exact ka_rEz C hr hlk rfl (Nat.le_of_ble_eq_true rfl) (Nat.le_of_ble_eq_true rfl) hS (ka_qE (f0, 0) rfl (show 0 ≤ ((0 : Int32)).toInt ∧ ((0 : Int32)).toInt ≤ 1 from ⟨by decide, by decide⟩) hK hP hD hS [0, 1] (by decide) rfl [] rfl) dX0_addNeed_49
    · obtain rfl : x1 = 4 := (ka_eq' _ _).mpr (y_3241.trans (by decide))
      refine lv_iload_n hx hb dX0_addNeed_0 rfl (lv_at hl 1 rfl) ?_
      refine ka_RS (n := 1) C (cg_X0_isLesson_22 l D F ) gX0_addNeed_X0_isLesson rfl (by decide +kernel) ⟨Nat.le_of_ble_eq_true rfl, Nat.le_of_ble_eq_true rfl⟩ hK hP hS hE hN [] rfl [] rfl rfl hl.1 (rest := []) rfl (Nat.le_of_ble_eq_true rfl) dX0_addNeed_1 ⟨Nat.le_of_ble_eq_true rfl, Nat.le_of_ble_eq_true rfl⟩ (fun v hv => ?_)
      subst hv
      refine ka_stk (w := [.int 1]) rfl ?_
      refine lv_if_eq (tgt := 19) hx hb dX0_addNeed_4 (by decide) (fun c_ => absurd c_ (by decide)) (fun _ => ?_)
      refine lv_iload_n hx hb dX0_addNeed_7 rfl (lv_at hl 2 rfl) ?_
      refine ka_RS (n := 1) C (cg_X0_isLesson_26 l D F ) gX0_addNeed_X0_isLesson rfl (by decide +kernel) ⟨Nat.le_of_ble_eq_true rfl, Nat.le_of_ble_eq_true rfl⟩ hK hP hS hE hN [] rfl [] rfl rfl hl.1 (rest := []) rfl (Nat.le_of_ble_eq_true rfl) dX0_addNeed_8 ⟨Nat.le_of_ble_eq_true rfl, Nat.le_of_ble_eq_true rfl⟩ (fun v hv => ?_)
      subst hv
      refine ka_stk (w := [.int 1]) rfl ?_
      refine lv_if_eq (tgt := 19) hx hb dX0_addNeed_11 (by decide) (fun c_ => absurd c_ (by decide)) (fun _ => ?_)
      refine lv_iload_n hx hb dX0_addNeed_14 rfl (lv_at hl 1 rfl) ?_
      refine lv_iload_n hx hb dX0_addNeed_15 rfl (lv_at hl 2 rfl) ?_
      refine lv_icmp_ne (tgt := 21) hx hb dX0_addNeed_16 (by decide) (fun _ => ?_) (fun c_ => absurd c_ (by decide))
      refine lv_aload_n hx hb dX0_addNeed_21 rfl (lv_at hl 0 rfl) ?_
      refine ka_get C lq_72 rfl hK hP 0 rfl 1 (by decide) lq_73 rfl dX0_addNeed_22 ?_
      refine lv_iload_n hx hb dX0_addNeed_25 rfl (lv_at hl 1 rfl) ?_
      refine va_iald hx hb hK hP 1 0 rfl rfl (ka_in (by decide) (by decide)) dX0_addNeed_26 ?_
      refine lv_topi (fun v_3269 ev_3269 => ?_)
      refine lv_iload_n hx hb dX0_addNeed_27 rfl (lv_at hl 2 rfl) ?_
      refine ka_RN (n := 2) C (ka_c_bitAt l D F v_3269 4) gX0_addNeed_X6_bitAt_n30 rfl hN.2.2.2.1 lq_74 lq_75 (by decide +kernel) ⟨Nat.le_of_ble_eq_true rfl, Nat.le_of_ble_eq_true rfl⟩ hK hP hS hE hN [] rfl [] rfl rfl hl.1 (rest := []) rfl (Nat.le_of_ble_eq_true rfl) dX0_addNeed_28 ⟨Nat.le_of_ble_eq_true rfl, Nat.le_of_ble_eq_true rfl⟩ (fun v hv => ?_)
      subst hv
      refine ka_stk (w := .int (ka_bit v_3269 4) :: []) rfl ?_
      refine lv_topi (fun v_3270 ev_3270 => ?_)
      have fv_3270 := ka_bit_in v_3269 4; rw [← ev_3270] at fv_3270
      refine lv_iconst (v := 1) hx hb dX0_addNeed_31 (by decide) ?_
      refine lv_icmp_eq (tgt := 48) hx hb dX0_addNeed_32 (by decide) (fun c_3271 => ?_) (fun c_3271 => ?_)
      · have c_3271 : v_3270.toInt = 1 := by rw [ka_eq', show ((1 : Int32)).toInt = 1 from by decide] at c_3271; exact c_3271
        refine lv_iconst (v := 0) hx hb dX0_addNeed_48 (by decide) ?_
        exact ka_rEz C hr hlk rfl (Nat.le_of_ble_eq_true rfl) (Nat.le_of_ble_eq_true rfl) hS (ka_qE (f0, 0) rfl (show 0 ≤ ((0 : Int32)).toInt ∧ ((0 : Int32)).toInt ≤ 1 from ⟨by decide, by decide⟩) hK hP hD hS [0, 1] (by decide) rfl [] rfl) dX0_addNeed_49
      · have c_3271 : ¬ v_3270.toInt = 1 := by rw [ka_eq', show ((1 : Int32)).toInt = 1 from by decide] at c_3271; exact c_3271
        refine lv_aload_n hx hb dX0_addNeed_35 rfl (lv_at hl 0 rfl) ?_
        refine lv_iload_n hx hb dX0_addNeed_36 rfl (lv_at hl 2 rfl) ?_
        refine ka_RV (n := 1) C (cg_X0_neededInTheEnd_35 l D F a0 a1 a2 x2 k0 f0) gX0_addNeed_X0_neededInTheEnd rfl (by decide +kernel) ⟨Nat.le_of_ble_eq_true rfl, Nat.le_of_ble_eq_true rfl⟩ hK hP hS hE hN [0, 1] rfl [0] rfl (ci := 0) rfl rfl 0 rfl rfl hl.1 (rest := []) rfl (Nat.le_of_ble_eq_true rfl) dX0_addNeed_37 ⟨Nat.le_of_ble_eq_true rfl, Nat.le_of_ble_eq_true rfl⟩ (fun v hv => ?_)
        obtain ⟨v_3272, rfl⟩ := hv
        have rv_3272 := ka_rng v_3272
        refine ka_stk (w := [.int v_3272]) rfl ?_
        refine lv_iload_n hx hb dX0_addNeed_40 rfl (lv_at hl 1 rfl) ?_
        refine ka_RN (n := 2) C (ka_c_bitAt l D F v_3272 0) gX0_addNeed_X6_bitAt_n30 rfl hN.2.2.2.1 lq_74 lq_75 (by decide +kernel) ⟨Nat.le_of_ble_eq_true rfl, Nat.le_of_ble_eq_true rfl⟩ hK hP hS hE hN [] rfl [] rfl rfl hl.1 (rest := []) rfl (Nat.le_of_ble_eq_true rfl) dX0_addNeed_41 ⟨Nat.le_of_ble_eq_true rfl, Nat.le_of_ble_eq_true rfl⟩ (fun v hv => ?_)
        subst hv
        refine ka_stk (w := .int (ka_bit v_3272 0) :: []) rfl ?_
        refine lv_topi (fun v_3273 ev_3273 => ?_)
        have fv_3273 := ka_bit_in v_3272 0; rw [← ev_3273] at fv_3273
        refine lv_iconst (v := 1) hx hb dX0_addNeed_44 (by decide) ?_
        refine lv_icmp_ne (tgt := 50) hx hb dX0_addNeed_45 (by decide) (fun c_3274 => ?_) (fun c_3274 => ?_)
        · have c_3274 : ¬ v_3273.toInt = 1 := by rw [ka_eq', show ((1 : Int32)).toInt = 1 from by decide] at c_3274; exact c_3274
          refine lv_aload_n hx hb dX0_addNeed_50 rfl (lv_at hl 0 rfl) ?_
          refine ka_get C lq_72 rfl hK hP 0 rfl 1 (by decide) lq_73 rfl dX0_addNeed_51 ?_
          refine lv_iload_n hx hb dX0_addNeed_54 rfl (lv_at hl 1 rfl) ?_
          refine lv_dup2_11 hx hb dX0_addNeed_55 rfl rfl ?_
          refine va_iald hx hb hK hP 1 0 rfl rfl (ka_in (by decide) (by decide)) dX0_addNeed_56 ?_
          refine lv_topi (fun v_3275 ev_3275 => ?_)
          refine lv_iconst (v := 1) hx hb dX0_addNeed_57 (by decide) ?_
          refine lv_iload_n hx hb dX0_addNeed_58 rfl (lv_at hl 2 rfl) ?_
          refine lv_ishl hx hb dX0_addNeed_59 ?_
          refine ka_top (w := .int 16) (congrArg Value.int (by decide)) ?_
          refine lv_ior hx hb dX0_addNeed_60 ?_
          refine lv_topi (fun v_3276 ev_3276 => ?_)
          refine va_iast hx hb hK hP hD hS 1 0 rfl rfl (ka_in (by decide) (by decide)) dX0_addNeed_61 (fun H locs hP hD hS => ?_)
          have hP : va_P D vwCl [(a0, .inr (0, [.ref a1, .ref a2, .int x2])), (a2, .inl (k0, 6, .inl (upd f0 (Int32.toNatClampNeg 0) v_3276)))] H := hP
          have hD : va_D A [(a0, .inr (0, [.ref a1, .ref a2, .int x2])), (a2, .inl (k0, 6, .inl (upd f0 (Int32.toNatClampNeg 0) v_3276)))] := hD
          generalize (upd f0 (Int32.toNatClampNeg 0) v_3276) = g_3277 at hP hD
          refine lv_iconst (v := 1) hx hb dX0_addNeed_62 (by decide) ?_
          exact ka_rEz C hr hlk rfl (Nat.le_of_ble_eq_true rfl) (Nat.le_of_ble_eq_true rfl) hS (ka_qE (g_3277, 1) rfl (show 0 ≤ ((1 : Int32)).toInt ∧ ((1 : Int32)).toInt ≤ 1 from ⟨by decide, by decide⟩) hK hP hD hS [0, 1] (by decide) rfl [] rfl) dX0_addNeed_63
        · have c_3274 : v_3273.toInt = 1 := by rw [ka_eq', show ((1 : Int32)).toInt = 1 from by decide] at c_3274; exact c_3274
          refine lv_iconst (v := 0) hx hb dX0_addNeed_48 (by decide) ?_
          exact ka_rEz C hr hlk rfl (Nat.le_of_ble_eq_true rfl) (Nat.le_of_ble_eq_true rfl) hS (ka_qE (f0, 0) rfl (show 0 ≤ ((0 : Int32)).toInt ∧ ((0 : Int32)).toInt ≤ 1 from ⟨by decide, by decide⟩) hK hP hD hS [0, 1] (by decide) rfl [] rfl) dX0_addNeed_49
    · obtain rfl : x1 = 5 := (ka_eq' _ _).mpr (y_3241.trans (by decide))
      refine lv_iload_n hx hb dX0_addNeed_0 rfl (lv_at hl 1 rfl) ?_
      refine ka_RS (n := 1) C (cg_X0_isLesson_22 l D F ) gX0_addNeed_X0_isLesson rfl (by decide +kernel) ⟨Nat.le_of_ble_eq_true rfl, Nat.le_of_ble_eq_true rfl⟩ hK hP hS hE hN [] rfl [] rfl rfl hl.1 (rest := []) rfl (Nat.le_of_ble_eq_true rfl) dX0_addNeed_1 ⟨Nat.le_of_ble_eq_true rfl, Nat.le_of_ble_eq_true rfl⟩ (fun v hv => ?_)
      subst hv
      refine ka_stk (w := [.int 1]) rfl ?_
      refine lv_if_eq (tgt := 19) hx hb dX0_addNeed_4 (by decide) (fun c_ => absurd c_ (by decide)) (fun _ => ?_)
      refine lv_iload_n hx hb dX0_addNeed_7 rfl (lv_at hl 2 rfl) ?_
      refine ka_RS (n := 1) C (cg_X0_isLesson_27 l D F ) gX0_addNeed_X0_isLesson rfl (by decide +kernel) ⟨Nat.le_of_ble_eq_true rfl, Nat.le_of_ble_eq_true rfl⟩ hK hP hS hE hN [] rfl [] rfl rfl hl.1 (rest := []) rfl (Nat.le_of_ble_eq_true rfl) dX0_addNeed_8 ⟨Nat.le_of_ble_eq_true rfl, Nat.le_of_ble_eq_true rfl⟩ (fun v hv => ?_)
      subst hv
      refine ka_stk (w := [.int 1]) rfl ?_
      refine lv_if_eq (tgt := 19) hx hb dX0_addNeed_11 (by decide) (fun c_ => absurd c_ (by decide)) (fun _ => ?_)
      refine lv_iload_n hx hb dX0_addNeed_14 rfl (lv_at hl 1 rfl) ?_
      refine lv_iload_n hx hb dX0_addNeed_15 rfl (lv_at hl 2 rfl) ?_
      refine lv_icmp_ne (tgt := 21) hx hb dX0_addNeed_16 (by decide) (fun _ => ?_) (fun c_ => absurd c_ (by decide))
      refine lv_aload_n hx hb dX0_addNeed_21 rfl (lv_at hl 0 rfl) ?_
      refine ka_get C lq_72 rfl hK hP 0 rfl 1 (by decide) lq_73 rfl dX0_addNeed_22 ?_
      refine lv_iload_n hx hb dX0_addNeed_25 rfl (lv_at hl 1 rfl) ?_
      refine va_iald hx hb hK hP 1 0 rfl rfl (ka_in (by decide) (by decide)) dX0_addNeed_26 ?_
      refine lv_topi (fun v_3278 ev_3278 => ?_)
      refine lv_iload_n hx hb dX0_addNeed_27 rfl (lv_at hl 2 rfl) ?_
      refine ka_RN (n := 2) C (ka_c_bitAt l D F v_3278 5) gX0_addNeed_X6_bitAt_n30 rfl hN.2.2.2.1 lq_74 lq_75 (by decide +kernel) ⟨Nat.le_of_ble_eq_true rfl, Nat.le_of_ble_eq_true rfl⟩ hK hP hS hE hN [] rfl [] rfl rfl hl.1 (rest := []) rfl (Nat.le_of_ble_eq_true rfl) dX0_addNeed_28 ⟨Nat.le_of_ble_eq_true rfl, Nat.le_of_ble_eq_true rfl⟩ (fun v hv => ?_)
      subst hv
      refine ka_stk (w := .int (ka_bit v_3278 5) :: []) rfl ?_
      refine lv_topi (fun v_3279 ev_3279 => ?_)
      have fv_3279 := ka_bit_in v_3278 5; rw [← ev_3279] at fv_3279
      refine lv_iconst (v := 1) hx hb dX0_addNeed_31 (by decide) ?_
      refine lv_icmp_eq (tgt := 48) hx hb dX0_addNeed_32 (by decide) (fun c_3280 => ?_) (fun c_3280 => ?_)
      · have c_3280 : v_3279.toInt = 1 := by rw [ka_eq', show ((1 : Int32)).toInt = 1 from by decide] at c_3280; exact c_3280
        refine lv_iconst (v := 0) hx hb dX0_addNeed_48 (by decide) ?_
        exact ka_rEz C hr hlk rfl (Nat.le_of_ble_eq_true rfl) (Nat.le_of_ble_eq_true rfl) hS (ka_qE (f0, 0) rfl (show 0 ≤ ((0 : Int32)).toInt ∧ ((0 : Int32)).toInt ≤ 1 from ⟨by decide, by decide⟩) hK hP hD hS [0, 1] (by decide) rfl [] rfl) dX0_addNeed_49
      · have c_3280 : ¬ v_3279.toInt = 1 := by rw [ka_eq', show ((1 : Int32)).toInt = 1 from by decide] at c_3280; exact c_3280
        refine lv_aload_n hx hb dX0_addNeed_35 rfl (lv_at hl 0 rfl) ?_
        refine lv_iload_n hx hb dX0_addNeed_36 rfl (lv_at hl 2 rfl) ?_
        refine ka_RV (n := 1) C (cg_X0_neededInTheEnd_36 l D F a0 a1 a2 x2 k0 f0) gX0_addNeed_X0_neededInTheEnd rfl (by decide +kernel) ⟨Nat.le_of_ble_eq_true rfl, Nat.le_of_ble_eq_true rfl⟩ hK hP hS hE hN [0, 1] rfl [0] rfl (ci := 0) rfl rfl 0 rfl rfl hl.1 (rest := []) rfl (Nat.le_of_ble_eq_true rfl) dX0_addNeed_37 ⟨Nat.le_of_ble_eq_true rfl, Nat.le_of_ble_eq_true rfl⟩ (fun v hv => ?_)
        obtain ⟨v_3281, rfl⟩ := hv
        have rv_3281 := ka_rng v_3281
        refine ka_stk (w := [.int v_3281]) rfl ?_
        refine lv_iload_n hx hb dX0_addNeed_40 rfl (lv_at hl 1 rfl) ?_
        refine ka_RN (n := 2) C (ka_c_bitAt l D F v_3281 0) gX0_addNeed_X6_bitAt_n30 rfl hN.2.2.2.1 lq_74 lq_75 (by decide +kernel) ⟨Nat.le_of_ble_eq_true rfl, Nat.le_of_ble_eq_true rfl⟩ hK hP hS hE hN [] rfl [] rfl rfl hl.1 (rest := []) rfl (Nat.le_of_ble_eq_true rfl) dX0_addNeed_41 ⟨Nat.le_of_ble_eq_true rfl, Nat.le_of_ble_eq_true rfl⟩ (fun v hv => ?_)
        subst hv
        refine ka_stk (w := .int (ka_bit v_3281 0) :: []) rfl ?_
        refine lv_topi (fun v_3282 ev_3282 => ?_)
        have fv_3282 := ka_bit_in v_3281 0; rw [← ev_3282] at fv_3282
        refine lv_iconst (v := 1) hx hb dX0_addNeed_44 (by decide) ?_
        refine lv_icmp_ne (tgt := 50) hx hb dX0_addNeed_45 (by decide) (fun c_3283 => ?_) (fun c_3283 => ?_)
        · have c_3283 : ¬ v_3282.toInt = 1 := by rw [ka_eq', show ((1 : Int32)).toInt = 1 from by decide] at c_3283; exact c_3283
          refine lv_aload_n hx hb dX0_addNeed_50 rfl (lv_at hl 0 rfl) ?_
          refine ka_get C lq_72 rfl hK hP 0 rfl 1 (by decide) lq_73 rfl dX0_addNeed_51 ?_
          refine lv_iload_n hx hb dX0_addNeed_54 rfl (lv_at hl 1 rfl) ?_
          refine lv_dup2_11 hx hb dX0_addNeed_55 rfl rfl ?_
          refine va_iald hx hb hK hP 1 0 rfl rfl (ka_in (by decide) (by decide)) dX0_addNeed_56 ?_
          refine lv_topi (fun v_3284 ev_3284 => ?_)
          refine lv_iconst (v := 1) hx hb dX0_addNeed_57 (by decide) ?_
          refine lv_iload_n hx hb dX0_addNeed_58 rfl (lv_at hl 2 rfl) ?_
          refine lv_ishl hx hb dX0_addNeed_59 ?_
          refine ka_top (w := .int 32) (congrArg Value.int (by decide)) ?_
          refine lv_ior hx hb dX0_addNeed_60 ?_
          refine lv_topi (fun v_3285 ev_3285 => ?_)
          refine va_iast hx hb hK hP hD hS 1 0 rfl rfl (ka_in (by decide) (by decide)) dX0_addNeed_61 (fun H locs hP hD hS => ?_)
          have hP : va_P D vwCl [(a0, .inr (0, [.ref a1, .ref a2, .int x2])), (a2, .inl (k0, 6, .inl (upd f0 (Int32.toNatClampNeg 0) v_3285)))] H := hP
          have hD : va_D A [(a0, .inr (0, [.ref a1, .ref a2, .int x2])), (a2, .inl (k0, 6, .inl (upd f0 (Int32.toNatClampNeg 0) v_3285)))] := hD
          generalize (upd f0 (Int32.toNatClampNeg 0) v_3285) = g_3286 at hP hD
          refine lv_iconst (v := 1) hx hb dX0_addNeed_62 (by decide) ?_
          exact ka_rEz C hr hlk rfl (Nat.le_of_ble_eq_true rfl) (Nat.le_of_ble_eq_true rfl) hS (ka_qE (g_3286, 1) rfl (show 0 ≤ ((1 : Int32)).toInt ∧ ((1 : Int32)).toInt ≤ 1 from ⟨by decide, by decide⟩) hK hP hD hS [0, 1] (by decide) rfl [] rfl) dX0_addNeed_63
        · have c_3283 : v_3282.toInt = 1 := by rw [ka_eq', show ((1 : Int32)).toInt = 1 from by decide] at c_3283; exact c_3283
          refine lv_iconst (v := 0) hx hb dX0_addNeed_48 (by decide) ?_
          exact ka_rEz C hr hlk rfl (Nat.le_of_ble_eq_true rfl) (Nat.le_of_ble_eq_true rfl) hS (ka_qE (f0, 0) rfl (show 0 ≤ ((0 : Int32)).toInt ∧ ((0 : Int32)).toInt ≤ 1 from ⟨by decide, by decide⟩) hK hP hD hS [0, 1] (by decide) rfl [] rfl) dX0_addNeed_49
    · skip
      refine lv_iload_n hx hb dX0_addNeed_0 rfl (lv_at hl 1 rfl) ?_
      refine ka_RS (n := 1) C (cg_X0_isLesson_22 l D F ) gX0_addNeed_X0_isLesson rfl (by decide +kernel) ⟨Nat.le_of_ble_eq_true rfl, Nat.le_of_ble_eq_true rfl⟩ hK hP hS hE hN [] rfl [] rfl rfl hl.1 (rest := []) rfl (Nat.le_of_ble_eq_true rfl) dX0_addNeed_1 ⟨Nat.le_of_ble_eq_true rfl, Nat.le_of_ble_eq_true rfl⟩ (fun v hv => ?_)
      subst hv
      refine ka_stk (w := [.int 1]) rfl ?_
      refine lv_if_eq (tgt := 19) hx hb dX0_addNeed_4 (by decide) (fun c_ => absurd c_ (by decide)) (fun _ => ?_)
      refine lv_iload_n hx hb dX0_addNeed_7 rfl (lv_at hl 2 rfl) ?_
      refine ka_RS (n := 1) C (cg_X0_isLesson_28 l D F x1 (by omega)) gX0_addNeed_X0_isLesson rfl (by decide +kernel) ⟨Nat.le_of_ble_eq_true rfl, Nat.le_of_ble_eq_true rfl⟩ hK hP hS hE hN [] rfl [] rfl rfl hl.1 (rest := []) rfl (Nat.le_of_ble_eq_true rfl) dX0_addNeed_8 ⟨Nat.le_of_ble_eq_true rfl, Nat.le_of_ble_eq_true rfl⟩ (fun v hv => ?_)
      subst hv
      refine ka_stk (w := [.int 0]) rfl ?_
      refine lv_if_eq (tgt := 19) hx hb dX0_addNeed_11 (by decide) (fun _ => ?_) (fun c_ => absurd (by decide) c_)
      refine lv_iconst (v := 0) hx hb dX0_addNeed_19 (by decide) ?_
      exact ka_rEz C hr hlk rfl (Nat.le_of_ble_eq_true rfl) (Nat.le_of_ble_eq_true rfl) hS (ka_qE (f0, 0) rfl (show 0 ≤ ((0 : Int32)).toInt ∧ ((0 : Int32)).toInt ≤ 1 from ⟨by decide, by decide⟩) hK hP hD hS [0, 1] (by decide) rfl [] rfl) dX0_addNeed_20
  · obtain rfl : x0 = 1 := (ka_eq' _ _).mpr (y_3239.trans (by decide))
    rcases (show x1.toInt ≤ -1 ∨ x1.toInt = 0 ∨ x1.toInt = 1 ∨ x1.toInt = 2 ∨ x1.toInt = 3 ∨ x1.toInt = 4 ∨ x1.toInt = 5 ∨ 6 ≤ x1.toInt by omega) with y_3287 | y_3287 | y_3287 | y_3287 | y_3287 | y_3287 | y_3287 | y_3287
    · skip
      refine lv_iload_n hx hb dX0_addNeed_0 rfl (lv_at hl 1 rfl) ?_
      refine ka_RS (n := 1) C (cg_X0_isLesson_23 l D F ) gX0_addNeed_X0_isLesson rfl (by decide +kernel) ⟨Nat.le_of_ble_eq_true rfl, Nat.le_of_ble_eq_true rfl⟩ hK hP hS hE hN [] rfl [] rfl rfl hl.1 (rest := []) rfl (Nat.le_of_ble_eq_true rfl) dX0_addNeed_1 ⟨Nat.le_of_ble_eq_true rfl, Nat.le_of_ble_eq_true rfl⟩ (fun v hv => ?_)
      subst hv
      refine ka_stk (w := [.int 1]) rfl ?_
      refine lv_if_eq (tgt := 19) hx hb dX0_addNeed_4 (by decide) (fun c_ => absurd c_ (by decide)) (fun _ => ?_)
      refine lv_iload_n hx hb dX0_addNeed_7 rfl (lv_at hl 2 rfl) ?_
      refine ka_RS (n := 1) C (cg_X0_isLesson_21 l D F x1 (by omega)) gX0_addNeed_X0_isLesson rfl (by decide +kernel) ⟨Nat.le_of_ble_eq_true rfl, Nat.le_of_ble_eq_true rfl⟩ hK hP hS hE hN [] rfl [] rfl rfl hl.1 (rest := []) rfl (Nat.le_of_ble_eq_true rfl) dX0_addNeed_8 ⟨Nat.le_of_ble_eq_true rfl, Nat.le_of_ble_eq_true rfl⟩ (fun v hv => ?_)
      subst hv
      refine ka_stk (w := [.int 0]) rfl ?_
      refine lv_if_eq (tgt := 19) hx hb dX0_addNeed_11 (by decide) (fun _ => ?_) (fun c_ => absurd (by decide) c_)
      refine lv_iconst (v := 0) hx hb dX0_addNeed_19 (by decide) ?_
      exact ka_rEz C hr hlk rfl (Nat.le_of_ble_eq_true rfl) (Nat.le_of_ble_eq_true rfl) hS (ka_qE (f0, 0) rfl (show 0 ≤ ((0 : Int32)).toInt ∧ ((0 : Int32)).toInt ≤ 1 from ⟨by decide, by decide⟩) hK hP hD hS [0, 1] (by decide) rfl [] rfl) dX0_addNeed_20
    · obtain rfl : x1 = 0 := (ka_eq' _ _).mpr (y_3287.trans (by decide))
      refine lv_iload_n hx hb dX0_addNeed_0 rfl (lv_at hl 1 rfl) ?_
      refine ka_RS (n := 1) C (cg_X0_isLesson_23 l D F ) gX0_addNeed_X0_isLesson rfl (by decide +kernel) ⟨Nat.le_of_ble_eq_true rfl, Nat.le_of_ble_eq_true rfl⟩ hK hP hS hE hN [] rfl [] rfl rfl hl.1 (rest := []) rfl (Nat.le_of_ble_eq_true rfl) dX0_addNeed_1 ⟨Nat.le_of_ble_eq_true rfl, Nat.le_of_ble_eq_true rfl⟩ (fun v hv => ?_)
      subst hv
      refine ka_stk (w := [.int 1]) rfl ?_
      refine lv_if_eq (tgt := 19) hx hb dX0_addNeed_4 (by decide) (fun c_ => absurd c_ (by decide)) (fun _ => ?_)
      refine lv_iload_n hx hb dX0_addNeed_7 rfl (lv_at hl 2 rfl) ?_
      refine ka_RS (n := 1) C (cg_X0_isLesson_22 l D F ) gX0_addNeed_X0_isLesson rfl (by decide +kernel) ⟨Nat.le_of_ble_eq_true rfl, Nat.le_of_ble_eq_true rfl⟩ hK hP hS hE hN [] rfl [] rfl rfl hl.1 (rest := []) rfl (Nat.le_of_ble_eq_true rfl) dX0_addNeed_8 ⟨Nat.le_of_ble_eq_true rfl, Nat.le_of_ble_eq_true rfl⟩ (fun v hv => ?_)
      subst hv
      refine ka_stk (w := [.int 1]) rfl ?_
      refine lv_if_eq (tgt := 19) hx hb dX0_addNeed_11 (by decide) (fun c_ => absurd c_ (by decide)) (fun _ => ?_)
      refine lv_iload_n hx hb dX0_addNeed_14 rfl (lv_at hl 1 rfl) ?_
      refine lv_iload_n hx hb dX0_addNeed_15 rfl (lv_at hl 2 rfl) ?_
      refine lv_icmp_ne (tgt := 21) hx hb dX0_addNeed_16 (by decide) (fun _ => ?_) (fun c_ => absurd c_ (by decide))
      refine lv_aload_n hx hb dX0_addNeed_21 rfl (lv_at hl 0 rfl) ?_
      refine ka_get C lq_72 rfl hK hP 0 rfl 1 (by decide) lq_73 rfl dX0_addNeed_22 ?_
      refine lv_iload_n hx hb dX0_addNeed_25 rfl (lv_at hl 1 rfl) ?_
      refine va_iald hx hb hK hP 1 0 rfl rfl (ka_in (by decide) (by decide)) dX0_addNeed_26 ?_
      refine lv_topi (fun v_3288 ev_3288 => ?_)
      refine lv_iload_n hx hb dX0_addNeed_27 rfl (lv_at hl 2 rfl) ?_
      refine ka_RN (n := 2) C (ka_c_bitAt l D F v_3288 0) gX0_addNeed_X6_bitAt_n30 rfl hN.2.2.2.1 lq_74 lq_75 (by decide +kernel) ⟨Nat.le_of_ble_eq_true rfl, Nat.le_of_ble_eq_true rfl⟩ hK hP hS hE hN [] rfl [] rfl rfl hl.1 (rest := []) rfl (Nat.le_of_ble_eq_true rfl) dX0_addNeed_28 ⟨Nat.le_of_ble_eq_true rfl, Nat.le_of_ble_eq_true rfl⟩ (fun v hv => ?_)
      subst hv
      refine ka_stk (w := .int (ka_bit v_3288 0) :: []) rfl ?_
      refine lv_topi (fun v_3289 ev_3289 => ?_)
      have fv_3289 := ka_bit_in v_3288 0; rw [← ev_3289] at fv_3289
      refine lv_iconst (v := 1) hx hb dX0_addNeed_31 (by decide) ?_
      refine lv_icmp_eq (tgt := 48) hx hb dX0_addNeed_32 (by decide) (fun c_3290 => ?_) (fun c_3290 => ?_)
      · have c_3290 : v_3289.toInt = 1 := by rw [ka_eq', show ((1 : Int32)).toInt = 1 from by decide] at c_3290; exact c_3290
        refine lv_iconst (v := 0) hx hb dX0_addNeed_48 (by decide) ?_
        exact ka_rEz C hr hlk rfl (Nat.le_of_ble_eq_true rfl) (Nat.le_of_ble_eq_true rfl) hS (ka_qE (f0, 0) rfl (show 0 ≤ ((0 : Int32)).toInt ∧ ((0 : Int32)).toInt ≤ 1 from ⟨by decide, by decide⟩) hK hP hD hS [0, 1] (by decide) rfl [] rfl) dX0_addNeed_49
      · have c_3290 : ¬ v_3289.toInt = 1 := by rw [ka_eq', show ((1 : Int32)).toInt = 1 from by decide] at c_3290; exact c_3290
        refine lv_aload_n hx hb dX0_addNeed_35 rfl (lv_at hl 0 rfl) ?_
        refine lv_iload_n hx hb dX0_addNeed_36 rfl (lv_at hl 2 rfl) ?_
        refine ka_RV (n := 1) C (cg_X0_neededInTheEnd_37 l D F a0 a1 a2 x2 k0 f0) gX0_addNeed_X0_neededInTheEnd rfl (by decide +kernel) ⟨Nat.le_of_ble_eq_true rfl, Nat.le_of_ble_eq_true rfl⟩ hK hP hS hE hN [0, 1] rfl [0] rfl (ci := 0) rfl rfl 0 rfl rfl hl.1 (rest := []) rfl (Nat.le_of_ble_eq_true rfl) dX0_addNeed_37 ⟨Nat.le_of_ble_eq_true rfl, Nat.le_of_ble_eq_true rfl⟩ (fun v hv => ?_)
        obtain ⟨v_3291, rfl⟩ := hv
        have rv_3291 := ka_rng v_3291
        refine ka_stk (w := [.int v_3291]) rfl ?_
        refine lv_iload_n hx hb dX0_addNeed_40 rfl (lv_at hl 1 rfl) ?_
        refine ka_RN (n := 2) C (ka_c_bitAt l D F v_3291 1) gX0_addNeed_X6_bitAt_n30 rfl hN.2.2.2.1 lq_74 lq_75 (by decide +kernel) ⟨Nat.le_of_ble_eq_true rfl, Nat.le_of_ble_eq_true rfl⟩ hK hP hS hE hN [] rfl [] rfl rfl hl.1 (rest := []) rfl (Nat.le_of_ble_eq_true rfl) dX0_addNeed_41 ⟨Nat.le_of_ble_eq_true rfl, Nat.le_of_ble_eq_true rfl⟩ (fun v hv => ?_)
        subst hv
        refine ka_stk (w := .int (ka_bit v_3291 1) :: []) rfl ?_
        refine lv_topi (fun v_3292 ev_3292 => ?_)
        have fv_3292 := ka_bit_in v_3291 1; rw [← ev_3292] at fv_3292
        refine lv_iconst (v := 1) hx hb dX0_addNeed_44 (by decide) ?_
        refine lv_icmp_ne (tgt := 50) hx hb dX0_addNeed_45 (by decide) (fun c_3293 => ?_) (fun c_3293 => ?_)
        · have c_3293 : ¬ v_3292.toInt = 1 := by rw [ka_eq', show ((1 : Int32)).toInt = 1 from by decide] at c_3293; exact c_3293
          refine lv_aload_n hx hb dX0_addNeed_50 rfl (lv_at hl 0 rfl) ?_
          refine ka_get C lq_72 rfl hK hP 0 rfl 1 (by decide) lq_73 rfl dX0_addNeed_51 ?_
          refine lv_iload_n hx hb dX0_addNeed_54 rfl (lv_at hl 1 rfl) ?_
          refine lv_dup2_11 hx hb dX0_addNeed_55 rfl rfl ?_
          refine va_iald hx hb hK hP 1 0 rfl rfl (ka_in (by decide) (by decide)) dX0_addNeed_56 ?_
          refine lv_topi (fun v_3294 ev_3294 => ?_)
          refine lv_iconst (v := 1) hx hb dX0_addNeed_57 (by decide) ?_
          refine lv_iload_n hx hb dX0_addNeed_58 rfl (lv_at hl 2 rfl) ?_
          refine lv_ishl hx hb dX0_addNeed_59 ?_
          refine ka_top (w := .int 1) (congrArg Value.int (by decide)) ?_
          refine lv_ior hx hb dX0_addNeed_60 ?_
          refine lv_topi (fun v_3295 ev_3295 => ?_)
          refine va_iast hx hb hK hP hD hS 1 0 rfl rfl (ka_in (by decide) (by decide)) dX0_addNeed_61 (fun H locs hP hD hS => ?_)
          have hP : va_P D vwCl [(a0, .inr (0, [.ref a1, .ref a2, .int x2])), (a2, .inl (k0, 6, .inl (upd f0 (Int32.toNatClampNeg 1) v_3295)))] H := hP
          have hD : va_D A [(a0, .inr (0, [.ref a1, .ref a2, .int x2])), (a2, .inl (k0, 6, .inl (upd f0 (Int32.toNatClampNeg 1) v_3295)))] := hD
          generalize (upd f0 (Int32.toNatClampNeg 1) v_3295) = g_3296 at hP hD
          refine lv_iconst (v := 1) hx hb dX0_addNeed_62 (by decide) ?_
          exact ka_rEz C hr hlk rfl (Nat.le_of_ble_eq_true rfl) (Nat.le_of_ble_eq_true rfl) hS (ka_qE (g_3296, 1) rfl (show 0 ≤ ((1 : Int32)).toInt ∧ ((1 : Int32)).toInt ≤ 1 from ⟨by decide, by decide⟩) hK hP hD hS [0, 1] (by decide) rfl [] rfl) dX0_addNeed_63
        · have c_3293 : v_3292.toInt = 1 := by rw [ka_eq', show ((1 : Int32)).toInt = 1 from by decide] at c_3293; exact c_3293
          refine lv_iconst (v := 0) hx hb dX0_addNeed_48 (by decide) ?_
          exact ka_rEz C hr hlk rfl (Nat.le_of_ble_eq_true rfl) (Nat.le_of_ble_eq_true rfl) hS (ka_qE (f0, 0) rfl (show 0 ≤ ((0 : Int32)).toInt ∧ ((0 : Int32)).toInt ≤ 1 from ⟨by decide, by decide⟩) hK hP hD hS [0, 1] (by decide) rfl [] rfl) dX0_addNeed_49
    · obtain rfl : x1 = 1 := (ka_eq' _ _).mpr (y_3287.trans (by decide))
      refine lv_iload_n hx hb dX0_addNeed_0 rfl (lv_at hl 1 rfl) ?_
      refine ka_RS (n := 1) C (cg_X0_isLesson_23 l D F ) gX0_addNeed_X0_isLesson rfl (by decide +kernel) ⟨Nat.le_of_ble_eq_true rfl, Nat.le_of_ble_eq_true rfl⟩ hK hP hS hE hN [] rfl [] rfl rfl hl.1 (rest := []) rfl (Nat.le_of_ble_eq_true rfl) dX0_addNeed_1 ⟨Nat.le_of_ble_eq_true rfl, Nat.le_of_ble_eq_true rfl⟩ (fun v hv => ?_)
      subst hv
      refine ka_stk (w := [.int 1]) rfl ?_
      refine lv_if_eq (tgt := 19) hx hb dX0_addNeed_4 (by decide) (fun c_ => absurd c_ (by decide)) (fun _ => ?_)
      refine lv_iload_n hx hb dX0_addNeed_7 rfl (lv_at hl 2 rfl) ?_
      refine ka_RS (n := 1) C (cg_X0_isLesson_23 l D F ) gX0_addNeed_X0_isLesson rfl (by decide +kernel) ⟨Nat.le_of_ble_eq_true rfl, Nat.le_of_ble_eq_true rfl⟩ hK hP hS hE hN [] rfl [] rfl rfl hl.1 (rest := []) rfl (Nat.le_of_ble_eq_true rfl) dX0_addNeed_8 ⟨Nat.le_of_ble_eq_true rfl, Nat.le_of_ble_eq_true rfl⟩ (fun v hv => ?_)
      subst hv
      refine ka_stk (w := [.int 1]) rfl ?_
      refine lv_if_eq (tgt := 19) hx hb dX0_addNeed_11 (by decide) (fun c_ => absurd c_ (by decide)) (fun _ => ?_)
      refine lv_iload_n hx hb dX0_addNeed_14 rfl (lv_at hl 1 rfl) ?_
      refine lv_iload_n hx hb dX0_addNeed_15 rfl (lv_at hl 2 rfl) ?_
      refine lv_icmp_ne (tgt := 21) hx hb dX0_addNeed_16 (by decide) (fun c_ => absurd (by decide) c_) (fun _ => ?_)
      refine lv_iconst (v := 0) hx hb dX0_addNeed_19 (by decide) ?_
      exact ka_rEz C hr hlk rfl (Nat.le_of_ble_eq_true rfl) (Nat.le_of_ble_eq_true rfl) hS (ka_qE (f0, 0) rfl (show 0 ≤ ((0 : Int32)).toInt ∧ ((0 : Int32)).toInt ≤ 1 from ⟨by decide, by decide⟩) hK hP hD hS [0, 1] (by decide) rfl [] rfl) dX0_addNeed_20
    · obtain rfl : x1 = 2 := (ka_eq' _ _).mpr (y_3287.trans (by decide))
      refine lv_iload_n hx hb dX0_addNeed_0 rfl (lv_at hl 1 rfl) ?_
      refine ka_RS (n := 1) C (cg_X0_isLesson_23 l D F ) gX0_addNeed_X0_isLesson rfl (by decide +kernel) ⟨Nat.le_of_ble_eq_true rfl, Nat.le_of_ble_eq_true rfl⟩ hK hP hS hE hN [] rfl [] rfl rfl hl.1 (rest := []) rfl (Nat.le_of_ble_eq_true rfl) dX0_addNeed_1 ⟨Nat.le_of_ble_eq_true rfl, Nat.le_of_ble_eq_true rfl⟩ (fun v hv => ?_)
      subst hv
      refine ka_stk (w := [.int 1]) rfl ?_
      refine lv_if_eq (tgt := 19) hx hb dX0_addNeed_4 (by decide) (fun c_ => absurd c_ (by decide)) (fun _ => ?_)
      refine lv_iload_n hx hb dX0_addNeed_7 rfl (lv_at hl 2 rfl) ?_
      refine ka_RS (n := 1) C (cg_X0_isLesson_24 l D F ) gX0_addNeed_X0_isLesson rfl (by decide +kernel) ⟨Nat.le_of_ble_eq_true rfl, Nat.le_of_ble_eq_true rfl⟩ hK hP hS hE hN [] rfl [] rfl rfl hl.1 (rest := []) rfl (Nat.le_of_ble_eq_true rfl) dX0_addNeed_8 ⟨Nat.le_of_ble_eq_true rfl, Nat.le_of_ble_eq_true rfl⟩ (fun v hv => ?_)
      subst hv
      refine ka_stk (w := [.int 1]) rfl ?_
      refine lv_if_eq (tgt := 19) hx hb dX0_addNeed_11 (by decide) (fun c_ => absurd c_ (by decide)) (fun _ => ?_)
      refine lv_iload_n hx hb dX0_addNeed_14 rfl (lv_at hl 1 rfl) ?_
      refine lv_iload_n hx hb dX0_addNeed_15 rfl (lv_at hl 2 rfl) ?_
      refine lv_icmp_ne (tgt := 21) hx hb dX0_addNeed_16 (by decide) (fun _ => ?_) (fun c_ => absurd c_ (by decide))
      refine lv_aload_n hx hb dX0_addNeed_21 rfl (lv_at hl 0 rfl) ?_
      refine ka_get C lq_72 rfl hK hP 0 rfl 1 (by decide) lq_73 rfl dX0_addNeed_22 ?_
      refine lv_iload_n hx hb dX0_addNeed_25 rfl (lv_at hl 1 rfl) ?_
      refine va_iald hx hb hK hP 1 0 rfl rfl (ka_in (by decide) (by decide)) dX0_addNeed_26 ?_
      refine lv_topi (fun v_3297 ev_3297 => ?_)
      refine lv_iload_n hx hb dX0_addNeed_27 rfl (lv_at hl 2 rfl) ?_
      refine ka_RN (n := 2) C (ka_c_bitAt l D F v_3297 2) gX0_addNeed_X6_bitAt_n30 rfl hN.2.2.2.1 lq_74 lq_75 (by decide +kernel) ⟨Nat.le_of_ble_eq_true rfl, Nat.le_of_ble_eq_true rfl⟩ hK hP hS hE hN [] rfl [] rfl rfl hl.1 (rest := []) rfl (Nat.le_of_ble_eq_true rfl) dX0_addNeed_28 ⟨Nat.le_of_ble_eq_true rfl, Nat.le_of_ble_eq_true rfl⟩ (fun v hv => ?_)
      subst hv
      refine ka_stk (w := .int (ka_bit v_3297 2) :: []) rfl ?_
      refine lv_topi (fun v_3298 ev_3298 => ?_)
      have fv_3298 := ka_bit_in v_3297 2; rw [← ev_3298] at fv_3298
      refine lv_iconst (v := 1) hx hb dX0_addNeed_31 (by decide) ?_
      refine lv_icmp_eq (tgt := 48) hx hb dX0_addNeed_32 (by decide) (fun c_3299 => ?_) (fun c_3299 => ?_)
      · have c_3299 : v_3298.toInt = 1 := by rw [ka_eq', show ((1 : Int32)).toInt = 1 from by decide] at c_3299; exact c_3299
        refine lv_iconst (v := 0) hx hb dX0_addNeed_48 (by decide) ?_
        exact ka_rEz C hr hlk rfl (Nat.le_of_ble_eq_true rfl) (Nat.le_of_ble_eq_true rfl) hS (ka_qE (f0, 0) rfl (show 0 ≤ ((0 : Int32)).toInt ∧ ((0 : Int32)).toInt ≤ 1 from ⟨by decide, by decide⟩) hK hP hD hS [0, 1] (by decide) rfl [] rfl) dX0_addNeed_49
      · have c_3299 : ¬ v_3298.toInt = 1 := by rw [ka_eq', show ((1 : Int32)).toInt = 1 from by decide] at c_3299; exact c_3299
        refine lv_aload_n hx hb dX0_addNeed_35 rfl (lv_at hl 0 rfl) ?_
        refine lv_iload_n hx hb dX0_addNeed_36 rfl (lv_at hl 2 rfl) ?_
        refine ka_RV (n := 1) C (cg_X0_neededInTheEnd_33 l D F a0 a1 a2 x2 k0 f0) gX0_addNeed_X0_neededInTheEnd rfl (by decide +kernel) ⟨Nat.le_of_ble_eq_true rfl, Nat.le_of_ble_eq_true rfl⟩ hK hP hS hE hN [0, 1] rfl [0] rfl (ci := 0) rfl rfl 0 rfl rfl hl.1 (rest := []) rfl (Nat.le_of_ble_eq_true rfl) dX0_addNeed_37 ⟨Nat.le_of_ble_eq_true rfl, Nat.le_of_ble_eq_true rfl⟩ (fun v hv => ?_)
        obtain ⟨v_3300, rfl⟩ := hv
        have rv_3300 := ka_rng v_3300
        refine ka_stk (w := [.int v_3300]) rfl ?_
        refine lv_iload_n hx hb dX0_addNeed_40 rfl (lv_at hl 1 rfl) ?_
        refine ka_RN (n := 2) C (ka_c_bitAt l D F v_3300 1) gX0_addNeed_X6_bitAt_n30 rfl hN.2.2.2.1 lq_74 lq_75 (by decide +kernel) ⟨Nat.le_of_ble_eq_true rfl, Nat.le_of_ble_eq_true rfl⟩ hK hP hS hE hN [] rfl [] rfl rfl hl.1 (rest := []) rfl (Nat.le_of_ble_eq_true rfl) dX0_addNeed_41 ⟨Nat.le_of_ble_eq_true rfl, Nat.le_of_ble_eq_true rfl⟩ (fun v hv => ?_)
        subst hv
        refine ka_stk (w := .int (ka_bit v_3300 1) :: []) rfl ?_
        refine lv_topi (fun v_3301 ev_3301 => ?_)
        have fv_3301 := ka_bit_in v_3300 1; rw [← ev_3301] at fv_3301
        refine lv_iconst (v := 1) hx hb dX0_addNeed_44 (by decide) ?_
        refine lv_icmp_ne (tgt := 50) hx hb dX0_addNeed_45 (by decide) (fun c_3302 => ?_) (fun c_3302 => ?_)
        · have c_3302 : ¬ v_3301.toInt = 1 := by rw [ka_eq', show ((1 : Int32)).toInt = 1 from by decide] at c_3302; exact c_3302
          refine lv_aload_n hx hb dX0_addNeed_50 rfl (lv_at hl 0 rfl) ?_
          refine ka_get C lq_72 rfl hK hP 0 rfl 1 (by decide) lq_73 rfl dX0_addNeed_51 ?_
          refine lv_iload_n hx hb dX0_addNeed_54 rfl (lv_at hl 1 rfl) ?_
          refine lv_dup2_11 hx hb dX0_addNeed_55 rfl rfl ?_
          refine va_iald hx hb hK hP 1 0 rfl rfl (ka_in (by decide) (by decide)) dX0_addNeed_56 ?_
          refine lv_topi (fun v_3303 ev_3303 => ?_)
          refine lv_iconst (v := 1) hx hb dX0_addNeed_57 (by decide) ?_
          refine lv_iload_n hx hb dX0_addNeed_58 rfl (lv_at hl 2 rfl) ?_
          refine lv_ishl hx hb dX0_addNeed_59 ?_
          refine ka_top (w := .int 4) (congrArg Value.int (by decide)) ?_
          refine lv_ior hx hb dX0_addNeed_60 ?_
          refine lv_topi (fun v_3304 ev_3304 => ?_)
          refine va_iast hx hb hK hP hD hS 1 0 rfl rfl (ka_in (by decide) (by decide)) dX0_addNeed_61 (fun H locs hP hD hS => ?_)
          have hP : va_P D vwCl [(a0, .inr (0, [.ref a1, .ref a2, .int x2])), (a2, .inl (k0, 6, .inl (upd f0 (Int32.toNatClampNeg 1) v_3304)))] H := hP
          have hD : va_D A [(a0, .inr (0, [.ref a1, .ref a2, .int x2])), (a2, .inl (k0, 6, .inl (upd f0 (Int32.toNatClampNeg 1) v_3304)))] := hD
          generalize (upd f0 (Int32.toNatClampNeg 1) v_3304) = g_3305 at hP hD
          refine lv_iconst (v := 1) hx hb dX0_addNeed_62 (by decide) ?_
          exact ka_rEz C hr hlk rfl (Nat.le_of_ble_eq_true rfl) (Nat.le_of_ble_eq_true rfl) hS (ka_qE (g_3305, 1) rfl (show 0 ≤ ((1 : Int32)).toInt ∧ ((1 : Int32)).toInt ≤ 1 from ⟨by decide, by decide⟩) hK hP hD hS [0, 1] (by decide) rfl [] rfl) dX0_addNeed_63
        · have c_3302 : v_3301.toInt = 1 := by rw [ka_eq', show ((1 : Int32)).toInt = 1 from by decide] at c_3302; exact c_3302
          refine lv_iconst (v := 0) hx hb dX0_addNeed_48 (by decide) ?_
          exact ka_rEz C hr hlk rfl (Nat.le_of_ble_eq_true rfl) (Nat.le_of_ble_eq_true rfl) hS (ka_qE (f0, 0) rfl (show 0 ≤ ((0 : Int32)).toInt ∧ ((0 : Int32)).toInt ≤ 1 from ⟨by decide, by decide⟩) hK hP hD hS [0, 1] (by decide) rfl [] rfl) dX0_addNeed_49
    · obtain rfl : x1 = 3 := (ka_eq' _ _).mpr (y_3287.trans (by decide))
      refine lv_iload_n hx hb dX0_addNeed_0 rfl (lv_at hl 1 rfl) ?_
      refine ka_RS (n := 1) C (cg_X0_isLesson_23 l D F ) gX0_addNeed_X0_isLesson rfl (by decide +kernel) ⟨Nat.le_of_ble_eq_true rfl, Nat.le_of_ble_eq_true rfl⟩ hK hP hS hE hN [] rfl [] rfl rfl hl.1 (rest := []) rfl (Nat.le_of_ble_eq_true rfl) dX0_addNeed_1 ⟨Nat.le_of_ble_eq_true rfl, Nat.le_of_ble_eq_true rfl⟩ (fun v hv => ?_)
      subst hv
      refine ka_stk (w := [.int 1]) rfl ?_
      refine lv_if_eq (tgt := 19) hx hb dX0_addNeed_4 (by decide) (fun c_ => absurd c_ (by decide)) (fun _ => ?_)
      refine lv_iload_n hx hb dX0_addNeed_7 rfl (lv_at hl 2 rfl) ?_
      refine ka_RS (n := 1) C (cg_X0_isLesson_25 l D F ) gX0_addNeed_X0_isLesson rfl (by decide +kernel) ⟨Nat.le_of_ble_eq_true rfl, Nat.le_of_ble_eq_true rfl⟩ hK hP hS hE hN [] rfl [] rfl rfl hl.1 (rest := []) rfl (Nat.le_of_ble_eq_true rfl) dX0_addNeed_8 ⟨Nat.le_of_ble_eq_true rfl, Nat.le_of_ble_eq_true rfl⟩ (fun v hv => ?_)
      subst hv
      refine ka_stk (w := [.int 1]) rfl ?_
      refine lv_if_eq (tgt := 19) hx hb dX0_addNeed_11 (by decide) (fun c_ => absurd c_ (by decide)) (fun _ => ?_)
      refine lv_iload_n hx hb dX0_addNeed_14 rfl (lv_at hl 1 rfl) ?_
      refine lv_iload_n hx hb dX0_addNeed_15 rfl (lv_at hl 2 rfl) ?_
      refine lv_icmp_ne (tgt := 21) hx hb dX0_addNeed_16 (by decide) (fun _ => ?_) (fun c_ => absurd c_ (by decide))
      refine lv_aload_n hx hb dX0_addNeed_21 rfl (lv_at hl 0 rfl) ?_
      refine ka_get C lq_72 rfl hK hP 0 rfl 1 (by decide) lq_73 rfl dX0_addNeed_22 ?_
      refine lv_iload_n hx hb dX0_addNeed_25 rfl (lv_at hl 1 rfl) ?_
      refine va_iald hx hb hK hP 1 0 rfl rfl (ka_in (by decide) (by decide)) dX0_addNeed_26 ?_
      refine lv_topi (fun v_3306 ev_3306 => ?_)
      refine lv_iload_n hx hb dX0_addNeed_27 rfl (lv_at hl 2 rfl) ?_
      refine ka_RN (n := 2) C (ka_c_bitAt l D F v_3306 3) gX0_addNeed_X6_bitAt_n30 rfl hN.2.2.2.1 lq_74 lq_75 (by decide +kernel) ⟨Nat.le_of_ble_eq_true rfl, Nat.le_of_ble_eq_true rfl⟩ hK hP hS hE hN [] rfl [] rfl rfl hl.1 (rest := []) rfl (Nat.le_of_ble_eq_true rfl) dX0_addNeed_28 ⟨Nat.le_of_ble_eq_true rfl, Nat.le_of_ble_eq_true rfl⟩ (fun v hv => ?_)
      subst hv
      refine ka_stk (w := .int (ka_bit v_3306 3) :: []) rfl ?_
      refine lv_topi (fun v_3307 ev_3307 => ?_)
      have fv_3307 := ka_bit_in v_3306 3; rw [← ev_3307] at fv_3307
      refine lv_iconst (v := 1) hx hb dX0_addNeed_31 (by decide) ?_
      refine lv_icmp_eq (tgt := 48) hx hb dX0_addNeed_32 (by decide) (fun c_3308 => ?_) (fun c_3308 => ?_)
      · have c_3308 : v_3307.toInt = 1 := by rw [ka_eq', show ((1 : Int32)).toInt = 1 from by decide] at c_3308; exact c_3308
        refine lv_iconst (v := 0) hx hb dX0_addNeed_48 (by decide) ?_
        exact ka_rEz C hr hlk rfl (Nat.le_of_ble_eq_true rfl) (Nat.le_of_ble_eq_true rfl) hS (ka_qE (f0, 0) rfl (show 0 ≤ ((0 : Int32)).toInt ∧ ((0 : Int32)).toInt ≤ 1 from ⟨by decide, by decide⟩) hK hP hD hS [0, 1] (by decide) rfl [] rfl) dX0_addNeed_49
      · have c_3308 : ¬ v_3307.toInt = 1 := by rw [ka_eq', show ((1 : Int32)).toInt = 1 from by decide] at c_3308; exact c_3308
        refine lv_aload_n hx hb dX0_addNeed_35 rfl (lv_at hl 0 rfl) ?_
        refine lv_iload_n hx hb dX0_addNeed_36 rfl (lv_at hl 2 rfl) ?_
        refine ka_RV (n := 1) C (cg_X0_neededInTheEnd_34 l D F a0 a1 a2 x2 k0 f0) gX0_addNeed_X0_neededInTheEnd rfl (by decide +kernel) ⟨Nat.le_of_ble_eq_true rfl, Nat.le_of_ble_eq_true rfl⟩ hK hP hS hE hN [0, 1] rfl [0] rfl (ci := 0) rfl rfl 0 rfl rfl hl.1 (rest := []) rfl (Nat.le_of_ble_eq_true rfl) dX0_addNeed_37 ⟨Nat.le_of_ble_eq_true rfl, Nat.le_of_ble_eq_true rfl⟩ (fun v hv => ?_)
        obtain ⟨v_3309, rfl⟩ := hv
        have rv_3309 := ka_rng v_3309
        refine ka_stk (w := [.int v_3309]) rfl ?_
        refine lv_iload_n hx hb dX0_addNeed_40 rfl (lv_at hl 1 rfl) ?_
        refine ka_RN (n := 2) C (ka_c_bitAt l D F v_3309 1) gX0_addNeed_X6_bitAt_n30 rfl hN.2.2.2.1 lq_74 lq_75 (by decide +kernel) ⟨Nat.le_of_ble_eq_true rfl, Nat.le_of_ble_eq_true rfl⟩ hK hP hS hE hN [] rfl [] rfl rfl hl.1 (rest := []) rfl (Nat.le_of_ble_eq_true rfl) dX0_addNeed_41 ⟨Nat.le_of_ble_eq_true rfl, Nat.le_of_ble_eq_true rfl⟩ (fun v hv => ?_)
        subst hv
        refine ka_stk (w := .int (ka_bit v_3309 1) :: []) rfl ?_
        refine lv_topi (fun v_3310 ev_3310 => ?_)
        have fv_3310 := ka_bit_in v_3309 1; rw [← ev_3310] at fv_3310
        refine lv_iconst (v := 1) hx hb dX0_addNeed_44 (by decide) ?_
        refine lv_icmp_ne (tgt := 50) hx hb dX0_addNeed_45 (by decide) (fun c_3311 => ?_) (fun c_3311 => ?_)
        · have c_3311 : ¬ v_3310.toInt = 1 := by rw [ka_eq', show ((1 : Int32)).toInt = 1 from by decide] at c_3311; exact c_3311
          refine lv_aload_n hx hb dX0_addNeed_50 rfl (lv_at hl 0 rfl) ?_
          refine ka_get C lq_72 rfl hK hP 0 rfl 1 (by decide) lq_73 rfl dX0_addNeed_51 ?_
          refine lv_iload_n hx hb dX0_addNeed_54 rfl (lv_at hl 1 rfl) ?_
          refine lv_dup2_11 hx hb dX0_addNeed_55 rfl rfl ?_
          refine va_iald hx hb hK hP 1 0 rfl rfl (ka_in (by decide) (by decide)) dX0_addNeed_56 ?_
          refine lv_topi (fun v_3312 ev_3312 => ?_)
          refine lv_iconst (v := 1) hx hb dX0_addNeed_57 (by decide) ?_
          refine lv_iload_n hx hb dX0_addNeed_58 rfl (lv_at hl 2 rfl) ?_
          refine lv_ishl hx hb dX0_addNeed_59 ?_
          refine ka_top (w := .int 8) (congrArg Value.int (by decide)) ?_
          refine lv_ior hx hb dX0_addNeed_60 ?_
          refine lv_topi (fun v_3313 ev_3313 => ?_)
          refine va_iast hx hb hK hP hD hS 1 0 rfl rfl (ka_in (by decide) (by decide)) dX0_addNeed_61 (fun H locs hP hD hS => ?_)
          have hP : va_P D vwCl [(a0, .inr (0, [.ref a1, .ref a2, .int x2])), (a2, .inl (k0, 6, .inl (upd f0 (Int32.toNatClampNeg 1) v_3313)))] H := hP
          have hD : va_D A [(a0, .inr (0, [.ref a1, .ref a2, .int x2])), (a2, .inl (k0, 6, .inl (upd f0 (Int32.toNatClampNeg 1) v_3313)))] := hD
          generalize (upd f0 (Int32.toNatClampNeg 1) v_3313) = g_3314 at hP hD
          refine lv_iconst (v := 1) hx hb dX0_addNeed_62 (by decide) ?_
          exact ka_rEz C hr hlk rfl (Nat.le_of_ble_eq_true rfl) (Nat.le_of_ble_eq_true rfl) hS (ka_qE (g_3314, 1) rfl (show 0 ≤ ((1 : Int32)).toInt ∧ ((1 : Int32)).toInt ≤ 1 from ⟨by decide, by decide⟩) hK hP hD hS [0, 1] (by decide) rfl [] rfl) dX0_addNeed_63
        · have c_3311 : v_3310.toInt = 1 := by rw [ka_eq', show ((1 : Int32)).toInt = 1 from by decide] at c_3311; exact c_3311
          refine lv_iconst (v := 0) hx hb dX0_addNeed_48 (by decide) ?_
          exact ka_rEz C hr hlk rfl (Nat.le_of_ble_eq_true rfl) (Nat.le_of_ble_eq_true rfl) hS (ka_qE (f0, 0) rfl (show 0 ≤ ((0 : Int32)).toInt ∧ ((0 : Int32)).toInt ≤ 1 from ⟨by decide, by decide⟩) hK hP hD hS [0, 1] (by decide) rfl [] rfl) dX0_addNeed_49
    · obtain rfl : x1 = 4 := (ka_eq' _ _).mpr (y_3287.trans (by decide))
      refine lv_iload_n hx hb dX0_addNeed_0 rfl (lv_at hl 1 rfl) ?_
      refine ka_RS (n := 1) C (cg_X0_isLesson_23 l D F ) gX0_addNeed_X0_isLesson rfl (by decide +kernel) ⟨Nat.le_of_ble_eq_true rfl, Nat.le_of_ble_eq_true rfl⟩ hK hP hS hE hN [] rfl [] rfl rfl hl.1 (rest := []) rfl (Nat.le_of_ble_eq_true rfl) dX0_addNeed_1 ⟨Nat.le_of_ble_eq_true rfl, Nat.le_of_ble_eq_true rfl⟩ (fun v hv => ?_)
      subst hv
      refine ka_stk (w := [.int 1]) rfl ?_
      refine lv_if_eq (tgt := 19) hx hb dX0_addNeed_4 (by decide) (fun c_ => absurd c_ (by decide)) (fun _ => ?_)
      refine lv_iload_n hx hb dX0_addNeed_7 rfl (lv_at hl 2 rfl) ?_
      refine ka_RS (n := 1) C (cg_X0_isLesson_26 l D F ) gX0_addNeed_X0_isLesson rfl (by decide +kernel) ⟨Nat.le_of_ble_eq_true rfl, Nat.le_of_ble_eq_true rfl⟩ hK hP hS hE hN [] rfl [] rfl rfl hl.1 (rest := []) rfl (Nat.le_of_ble_eq_true rfl) dX0_addNeed_8 ⟨Nat.le_of_ble_eq_true rfl, Nat.le_of_ble_eq_true rfl⟩ (fun v hv => ?_)
      subst hv
      refine ka_stk (w := [.int 1]) rfl ?_
      refine lv_if_eq (tgt := 19) hx hb dX0_addNeed_11 (by decide) (fun c_ => absurd c_ (by decide)) (fun _ => ?_)
      refine lv_iload_n hx hb dX0_addNeed_14 rfl (lv_at hl 1 rfl) ?_
      refine lv_iload_n hx hb dX0_addNeed_15 rfl (lv_at hl 2 rfl) ?_
      refine lv_icmp_ne (tgt := 21) hx hb dX0_addNeed_16 (by decide) (fun _ => ?_) (fun c_ => absurd c_ (by decide))
      refine lv_aload_n hx hb dX0_addNeed_21 rfl (lv_at hl 0 rfl) ?_
      refine ka_get C lq_72 rfl hK hP 0 rfl 1 (by decide) lq_73 rfl dX0_addNeed_22 ?_
      refine lv_iload_n hx hb dX0_addNeed_25 rfl (lv_at hl 1 rfl) ?_
      refine va_iald hx hb hK hP 1 0 rfl rfl (ka_in (by decide) (by decide)) dX0_addNeed_26 ?_
      refine lv_topi (fun v_3315 ev_3315 => ?_)
      refine lv_iload_n hx hb dX0_addNeed_27 rfl (lv_at hl 2 rfl) ?_
      refine ka_RN (n := 2) C (ka_c_bitAt l D F v_3315 4) gX0_addNeed_X6_bitAt_n30 rfl hN.2.2.2.1 lq_74 lq_75 (by decide +kernel) ⟨Nat.le_of_ble_eq_true rfl, Nat.le_of_ble_eq_true rfl⟩ hK hP hS hE hN [] rfl [] rfl rfl hl.1 (rest := []) rfl (Nat.le_of_ble_eq_true rfl) dX0_addNeed_28 ⟨Nat.le_of_ble_eq_true rfl, Nat.le_of_ble_eq_true rfl⟩ (fun v hv => ?_)
      subst hv
      refine ka_stk (w := .int (ka_bit v_3315 4) :: []) rfl ?_
      refine lv_topi (fun v_3316 ev_3316 => ?_)
      have fv_3316 := ka_bit_in v_3315 4; rw [← ev_3316] at fv_3316
      refine lv_iconst (v := 1) hx hb dX0_addNeed_31 (by decide) ?_
      refine lv_icmp_eq (tgt := 48) hx hb dX0_addNeed_32 (by decide) (fun c_3317 => ?_) (fun c_3317 => ?_)
      · have c_3317 : v_3316.toInt = 1 := by rw [ka_eq', show ((1 : Int32)).toInt = 1 from by decide] at c_3317; exact c_3317
        refine lv_iconst (v := 0) hx hb dX0_addNeed_48 (by decide) ?_
        exact ka_rEz C hr hlk rfl (Nat.le_of_ble_eq_true rfl) (Nat.le_of_ble_eq_true rfl) hS (ka_qE (f0, 0) rfl (show 0 ≤ ((0 : Int32)).toInt ∧ ((0 : Int32)).toInt ≤ 1 from ⟨by decide, by decide⟩) hK hP hD hS [0, 1] (by decide) rfl [] rfl) dX0_addNeed_49
      · have c_3317 : ¬ v_3316.toInt = 1 := by rw [ka_eq', show ((1 : Int32)).toInt = 1 from by decide] at c_3317; exact c_3317
        refine lv_aload_n hx hb dX0_addNeed_35 rfl (lv_at hl 0 rfl) ?_
        refine lv_iload_n hx hb dX0_addNeed_36 rfl (lv_at hl 2 rfl) ?_
        refine ka_RV (n := 1) C (cg_X0_neededInTheEnd_35 l D F a0 a1 a2 x2 k0 f0) gX0_addNeed_X0_neededInTheEnd rfl (by decide +kernel) ⟨Nat.le_of_ble_eq_true rfl, Nat.le_of_ble_eq_true rfl⟩ hK hP hS hE hN [0, 1] rfl [0] rfl (ci := 0) rfl rfl 0 rfl rfl hl.1 (rest := []) rfl (Nat.le_of_ble_eq_true rfl) dX0_addNeed_37 ⟨Nat.le_of_ble_eq_true rfl, Nat.le_of_ble_eq_true rfl⟩ (fun v hv => ?_)
        obtain ⟨v_3318, rfl⟩ := hv
        have rv_3318 := ka_rng v_3318
        refine ka_stk (w := [.int v_3318]) rfl ?_
        refine lv_iload_n hx hb dX0_addNeed_40 rfl (lv_at hl 1 rfl) ?_
        refine ka_RN (n := 2) C (ka_c_bitAt l D F v_3318 1) gX0_addNeed_X6_bitAt_n30 rfl hN.2.2.2.1 lq_74 lq_75 (by decide +kernel) ⟨Nat.le_of_ble_eq_true rfl, Nat.le_of_ble_eq_true rfl⟩ hK hP hS hE hN [] rfl [] rfl rfl hl.1 (rest := []) rfl (Nat.le_of_ble_eq_true rfl) dX0_addNeed_41 ⟨Nat.le_of_ble_eq_true rfl, Nat.le_of_ble_eq_true rfl⟩ (fun v hv => ?_)
        subst hv
        refine ka_stk (w := .int (ka_bit v_3318 1) :: []) rfl ?_
        refine lv_topi (fun v_3319 ev_3319 => ?_)
        have fv_3319 := ka_bit_in v_3318 1; rw [← ev_3319] at fv_3319
        refine lv_iconst (v := 1) hx hb dX0_addNeed_44 (by decide) ?_
        refine lv_icmp_ne (tgt := 50) hx hb dX0_addNeed_45 (by decide) (fun c_3320 => ?_) (fun c_3320 => ?_)
        · have c_3320 : ¬ v_3319.toInt = 1 := by rw [ka_eq', show ((1 : Int32)).toInt = 1 from by decide] at c_3320; exact c_3320
          refine lv_aload_n hx hb dX0_addNeed_50 rfl (lv_at hl 0 rfl) ?_
          refine ka_get C lq_72 rfl hK hP 0 rfl 1 (by decide) lq_73 rfl dX0_addNeed_51 ?_
          refine lv_iload_n hx hb dX0_addNeed_54 rfl (lv_at hl 1 rfl) ?_
          refine lv_dup2_11 hx hb dX0_addNeed_55 rfl rfl ?_
          refine va_iald hx hb hK hP 1 0 rfl rfl (ka_in (by decide) (by decide)) dX0_addNeed_56 ?_
          refine lv_topi (fun v_3321 ev_3321 => ?_)
          refine lv_iconst (v := 1) hx hb dX0_addNeed_57 (by decide) ?_
          refine lv_iload_n hx hb dX0_addNeed_58 rfl (lv_at hl 2 rfl) ?_
          refine lv_ishl hx hb dX0_addNeed_59 ?_
          refine ka_top (w := .int 16) (congrArg Value.int (by decide)) ?_
          refine lv_ior hx hb dX0_addNeed_60 ?_
          refine lv_topi (fun v_3322 ev_3322 => ?_)
          refine va_iast hx hb hK hP hD hS 1 0 rfl rfl (ka_in (by decide) (by decide)) dX0_addNeed_61 (fun H locs hP hD hS => ?_)
          have hP : va_P D vwCl [(a0, .inr (0, [.ref a1, .ref a2, .int x2])), (a2, .inl (k0, 6, .inl (upd f0 (Int32.toNatClampNeg 1) v_3322)))] H := hP
          have hD : va_D A [(a0, .inr (0, [.ref a1, .ref a2, .int x2])), (a2, .inl (k0, 6, .inl (upd f0 (Int32.toNatClampNeg 1) v_3322)))] := hD
          generalize (upd f0 (Int32.toNatClampNeg 1) v_3322) = g_3323 at hP hD
          refine lv_iconst (v := 1) hx hb dX0_addNeed_62 (by decide) ?_
          exact ka_rEz C hr hlk rfl (Nat.le_of_ble_eq_true rfl) (Nat.le_of_ble_eq_true rfl) hS (ka_qE (g_3323, 1) rfl (show 0 ≤ ((1 : Int32)).toInt ∧ ((1 : Int32)).toInt ≤ 1 from ⟨by decide, by decide⟩) hK hP hD hS [0, 1] (by decide) rfl [] rfl) dX0_addNeed_63
        · have c_3320 : v_3319.toInt = 1 := by rw [ka_eq', show ((1 : Int32)).toInt = 1 from by decide] at c_3320; exact c_3320
          refine lv_iconst (v := 0) hx hb dX0_addNeed_48 (by decide) ?_
          exact ka_rEz C hr hlk rfl (Nat.le_of_ble_eq_true rfl) (Nat.le_of_ble_eq_true rfl) hS (ka_qE (f0, 0) rfl (show 0 ≤ ((0 : Int32)).toInt ∧ ((0 : Int32)).toInt ≤ 1 from ⟨by decide, by decide⟩) hK hP hD hS [0, 1] (by decide) rfl [] rfl) dX0_addNeed_49
    · obtain rfl : x1 = 5 := (ka_eq' _ _).mpr (y_3287.trans (by decide))
      refine lv_iload_n hx hb dX0_addNeed_0 rfl (lv_at hl 1 rfl) ?_
      refine ka_RS (n := 1) C (cg_X0_isLesson_23 l D F ) gX0_addNeed_X0_isLesson rfl (by decide +kernel) ⟨Nat.le_of_ble_eq_true rfl, Nat.le_of_ble_eq_true rfl⟩ hK hP hS hE hN [] rfl [] rfl rfl hl.1 (rest := []) rfl (Nat.le_of_ble_eq_true rfl) dX0_addNeed_1 ⟨Nat.le_of_ble_eq_true rfl, Nat.le_of_ble_eq_true rfl⟩ (fun v hv => ?_)
      subst hv
      refine ka_stk (w := [.int 1]) rfl ?_
      refine lv_if_eq (tgt := 19) hx hb dX0_addNeed_4 (by decide) (fun c_ => absurd c_ (by decide)) (fun _ => ?_)
      refine lv_iload_n hx hb dX0_addNeed_7 rfl (lv_at hl 2 rfl) ?_
      refine ka_RS (n := 1) C (cg_X0_isLesson_27 l D F ) gX0_addNeed_X0_isLesson rfl (by decide +kernel) ⟨Nat.le_of_ble_eq_true rfl, Nat.le_of_ble_eq_true rfl⟩ hK hP hS hE hN [] rfl [] rfl rfl hl.1 (rest := []) rfl (Nat.le_of_ble_eq_true rfl) dX0_addNeed_8 ⟨Nat.le_of_ble_eq_true rfl, Nat.le_of_ble_eq_true rfl⟩ (fun v hv => ?_)
      subst hv
      refine ka_stk (w := [.int 1]) rfl ?_
      refine lv_if_eq (tgt := 19) hx hb dX0_addNeed_11 (by decide) (fun c_ => absurd c_ (by decide)) (fun _ => ?_)
      refine lv_iload_n hx hb dX0_addNeed_14 rfl (lv_at hl 1 rfl) ?_
      refine lv_iload_n hx hb dX0_addNeed_15 rfl (lv_at hl 2 rfl) ?_
      refine lv_icmp_ne (tgt := 21) hx hb dX0_addNeed_16 (by decide) (fun _ => ?_) (fun c_ => absurd c_ (by decide))
      refine lv_aload_n hx hb dX0_addNeed_21 rfl (lv_at hl 0 rfl) ?_
      refine ka_get C lq_72 rfl hK hP 0 rfl 1 (by decide) lq_73 rfl dX0_addNeed_22 ?_
      refine lv_iload_n hx hb dX0_addNeed_25 rfl (lv_at hl 1 rfl) ?_
      refine va_iald hx hb hK hP 1 0 rfl rfl (ka_in (by decide) (by decide)) dX0_addNeed_26 ?_
      refine lv_topi (fun v_3324 ev_3324 => ?_)
      refine lv_iload_n hx hb dX0_addNeed_27 rfl (lv_at hl 2 rfl) ?_
      refine ka_RN (n := 2) C (ka_c_bitAt l D F v_3324 5) gX0_addNeed_X6_bitAt_n30 rfl hN.2.2.2.1 lq_74 lq_75 (by decide +kernel) ⟨Nat.le_of_ble_eq_true rfl, Nat.le_of_ble_eq_true rfl⟩ hK hP hS hE hN [] rfl [] rfl rfl hl.1 (rest := []) rfl (Nat.le_of_ble_eq_true rfl) dX0_addNeed_28 ⟨Nat.le_of_ble_eq_true rfl, Nat.le_of_ble_eq_true rfl⟩ (fun v hv => ?_)
      subst hv
      refine ka_stk (w := .int (ka_bit v_3324 5) :: []) rfl ?_
      refine lv_topi (fun v_3325 ev_3325 => ?_)
      have fv_3325 := ka_bit_in v_3324 5; rw [← ev_3325] at fv_3325
      refine lv_iconst (v := 1) hx hb dX0_addNeed_31 (by decide) ?_
      refine lv_icmp_eq (tgt := 48) hx hb dX0_addNeed_32 (by decide) (fun c_3326 => ?_) (fun c_3326 => ?_)
      · have c_3326 : v_3325.toInt = 1 := by rw [ka_eq', show ((1 : Int32)).toInt = 1 from by decide] at c_3326; exact c_3326
        refine lv_iconst (v := 0) hx hb dX0_addNeed_48 (by decide) ?_
        exact ka_rEz C hr hlk rfl (Nat.le_of_ble_eq_true rfl) (Nat.le_of_ble_eq_true rfl) hS (ka_qE (f0, 0) rfl (show 0 ≤ ((0 : Int32)).toInt ∧ ((0 : Int32)).toInt ≤ 1 from ⟨by decide, by decide⟩) hK hP hD hS [0, 1] (by decide) rfl [] rfl) dX0_addNeed_49
      · have c_3326 : ¬ v_3325.toInt = 1 := by rw [ka_eq', show ((1 : Int32)).toInt = 1 from by decide] at c_3326; exact c_3326
        refine lv_aload_n hx hb dX0_addNeed_35 rfl (lv_at hl 0 rfl) ?_
        refine lv_iload_n hx hb dX0_addNeed_36 rfl (lv_at hl 2 rfl) ?_
        refine ka_RV (n := 1) C (cg_X0_neededInTheEnd_36 l D F a0 a1 a2 x2 k0 f0) gX0_addNeed_X0_neededInTheEnd rfl (by decide +kernel) ⟨Nat.le_of_ble_eq_true rfl, Nat.le_of_ble_eq_true rfl⟩ hK hP hS hE hN [0, 1] rfl [0] rfl (ci := 0) rfl rfl 0 rfl rfl hl.1 (rest := []) rfl (Nat.le_of_ble_eq_true rfl) dX0_addNeed_37 ⟨Nat.le_of_ble_eq_true rfl, Nat.le_of_ble_eq_true rfl⟩ (fun v hv => ?_)
        obtain ⟨v_3327, rfl⟩ := hv
        have rv_3327 := ka_rng v_3327
        refine ka_stk (w := [.int v_3327]) rfl ?_
        refine lv_iload_n hx hb dX0_addNeed_40 rfl (lv_at hl 1 rfl) ?_
        refine ka_RN (n := 2) C (ka_c_bitAt l D F v_3327 1) gX0_addNeed_X6_bitAt_n30 rfl hN.2.2.2.1 lq_74 lq_75 (by decide +kernel) ⟨Nat.le_of_ble_eq_true rfl, Nat.le_of_ble_eq_true rfl⟩ hK hP hS hE hN [] rfl [] rfl rfl hl.1 (rest := []) rfl (Nat.le_of_ble_eq_true rfl) dX0_addNeed_41 ⟨Nat.le_of_ble_eq_true rfl, Nat.le_of_ble_eq_true rfl⟩ (fun v hv => ?_)
        subst hv
        refine ka_stk (w := .int (ka_bit v_3327 1) :: []) rfl ?_
        refine lv_topi (fun v_3328 ev_3328 => ?_)
        have fv_3328 := ka_bit_in v_3327 1; rw [← ev_3328] at fv_3328
        refine lv_iconst (v := 1) hx hb dX0_addNeed_44 (by decide) ?_
        refine lv_icmp_ne (tgt := 50) hx hb dX0_addNeed_45 (by decide) (fun c_3329 => ?_) (fun c_3329 => ?_)
        · have c_3329 : ¬ v_3328.toInt = 1 := by rw [ka_eq', show ((1 : Int32)).toInt = 1 from by decide] at c_3329; exact c_3329
          refine lv_aload_n hx hb dX0_addNeed_50 rfl (lv_at hl 0 rfl) ?_
          refine ka_get C lq_72 rfl hK hP 0 rfl 1 (by decide) lq_73 rfl dX0_addNeed_51 ?_
          refine lv_iload_n hx hb dX0_addNeed_54 rfl (lv_at hl 1 rfl) ?_
          refine lv_dup2_11 hx hb dX0_addNeed_55 rfl rfl ?_
          refine va_iald hx hb hK hP 1 0 rfl rfl (ka_in (by decide) (by decide)) dX0_addNeed_56 ?_
          refine lv_topi (fun v_3330 ev_3330 => ?_)
          refine lv_iconst (v := 1) hx hb dX0_addNeed_57 (by decide) ?_
          refine lv_iload_n hx hb dX0_addNeed_58 rfl (lv_at hl 2 rfl) ?_
          refine lv_ishl hx hb dX0_addNeed_59 ?_
          refine ka_top (w := .int 32) (congrArg Value.int (by decide)) ?_
          refine lv_ior hx hb dX0_addNeed_60 ?_
          refine lv_topi (fun v_3331 ev_3331 => ?_)
          refine va_iast hx hb hK hP hD hS 1 0 rfl rfl (ka_in (by decide) (by decide)) dX0_addNeed_61 (fun H locs hP hD hS => ?_)
          have hP : va_P D vwCl [(a0, .inr (0, [.ref a1, .ref a2, .int x2])), (a2, .inl (k0, 6, .inl (upd f0 (Int32.toNatClampNeg 1) v_3331)))] H := hP
          have hD : va_D A [(a0, .inr (0, [.ref a1, .ref a2, .int x2])), (a2, .inl (k0, 6, .inl (upd f0 (Int32.toNatClampNeg 1) v_3331)))] := hD
          generalize (upd f0 (Int32.toNatClampNeg 1) v_3331) = g_3332 at hP hD
          refine lv_iconst (v := 1) hx hb dX0_addNeed_62 (by decide) ?_
          exact ka_rEz C hr hlk rfl (Nat.le_of_ble_eq_true rfl) (Nat.le_of_ble_eq_true rfl) hS (ka_qE (g_3332, 1) rfl (show 0 ≤ ((1 : Int32)).toInt ∧ ((1 : Int32)).toInt ≤ 1 from ⟨by decide, by decide⟩) hK hP hD hS [0, 1] (by decide) rfl [] rfl) dX0_addNeed_63
        · have c_3329 : v_3328.toInt = 1 := by rw [ka_eq', show ((1 : Int32)).toInt = 1 from by decide] at c_3329; exact c_3329
          refine lv_iconst (v := 0) hx hb dX0_addNeed_48 (by decide) ?_
          exact ka_rEz C hr hlk rfl (Nat.le_of_ble_eq_true rfl) (Nat.le_of_ble_eq_true rfl) hS (ka_qE (f0, 0) rfl (show 0 ≤ ((0 : Int32)).toInt ∧ ((0 : Int32)).toInt ≤ 1 from ⟨by decide, by decide⟩) hK hP hD hS [0, 1] (by decide) rfl [] rfl) dX0_addNeed_49
    · skip
      refine lv_iload_n hx hb dX0_addNeed_0 rfl (lv_at hl 1 rfl) ?_
      refine ka_RS (n := 1) C (cg_X0_isLesson_23 l D F ) gX0_addNeed_X0_isLesson rfl (by decide +kernel) ⟨Nat.le_of_ble_eq_true rfl, Nat.le_of_ble_eq_true rfl⟩ hK hP hS hE hN [] rfl [] rfl rfl hl.1 (rest := []) rfl (Nat.le_of_ble_eq_true rfl) dX0_addNeed_1 ⟨Nat.le_of_ble_eq_true rfl, Nat.le_of_ble_eq_true rfl⟩ (fun v hv => ?_)
      subst hv
      refine ka_stk (w := [.int 1]) rfl ?_
      refine lv_if_eq (tgt := 19) hx hb dX0_addNeed_4 (by decide) (fun c_ => absurd c_ (by decide)) (fun _ => ?_)
      refine lv_iload_n hx hb dX0_addNeed_7 rfl (lv_at hl 2 rfl) ?_
      refine ka_RS (n := 1) C (cg_X0_isLesson_28 l D F x1 (by omega)) gX0_addNeed_X0_isLesson rfl (by decide +kernel) ⟨Nat.le_of_ble_eq_true rfl, Nat.le_of_ble_eq_true rfl⟩ hK hP hS hE hN [] rfl [] rfl rfl hl.1 (rest := []) rfl (Nat.le_of_ble_eq_true rfl) dX0_addNeed_8 ⟨Nat.le_of_ble_eq_true rfl, Nat.le_of_ble_eq_true rfl⟩ (fun v hv => ?_)
      subst hv
      refine ka_stk (w := [.int 0]) rfl ?_
      refine lv_if_eq (tgt := 19) hx hb dX0_addNeed_11 (by decide) (fun _ => ?_) (fun c_ => absurd (by decide) c_)
      refine lv_iconst (v := 0) hx hb dX0_addNeed_19 (by decide) ?_
      exact ka_rEz C hr hlk rfl (Nat.le_of_ble_eq_true rfl) (Nat.le_of_ble_eq_true rfl) hS (ka_qE (f0, 0) rfl (show 0 ≤ ((0 : Int32)).toInt ∧ ((0 : Int32)).toInt ≤ 1 from ⟨by decide, by decide⟩) hK hP hD hS [0, 1] (by decide) rfl [] rfl) dX0_addNeed_20
  · obtain rfl : x0 = 2 := (ka_eq' _ _).mpr (y_3239.trans (by decide))
    rcases (show x1.toInt ≤ -1 ∨ x1.toInt = 0 ∨ x1.toInt = 1 ∨ x1.toInt = 2 ∨ x1.toInt = 3 ∨ x1.toInt = 4 ∨ x1.toInt = 5 ∨ 6 ≤ x1.toInt by omega) with y_3333 | y_3333 | y_3333 | y_3333 | y_3333 | y_3333 | y_3333 | y_3333
    · skip
      refine lv_iload_n hx hb dX0_addNeed_0 rfl (lv_at hl 1 rfl) ?_
      refine ka_RS (n := 1) C (cg_X0_isLesson_24 l D F ) gX0_addNeed_X0_isLesson rfl (by decide +kernel) ⟨Nat.le_of_ble_eq_true rfl, Nat.le_of_ble_eq_true rfl⟩ hK hP hS hE hN [] rfl [] rfl rfl hl.1 (rest := []) rfl (Nat.le_of_ble_eq_true rfl) dX0_addNeed_1 ⟨Nat.le_of_ble_eq_true rfl, Nat.le_of_ble_eq_true rfl⟩ (fun v hv => ?_)
      subst hv
      refine ka_stk (w := [.int 1]) rfl ?_
      refine lv_if_eq (tgt := 19) hx hb dX0_addNeed_4 (by decide) (fun c_ => absurd c_ (by decide)) (fun _ => ?_)
      refine lv_iload_n hx hb dX0_addNeed_7 rfl (lv_at hl 2 rfl) ?_
      refine ka_RS (n := 1) C (cg_X0_isLesson_21 l D F x1 (by omega)) gX0_addNeed_X0_isLesson rfl (by decide +kernel) ⟨Nat.le_of_ble_eq_true rfl, Nat.le_of_ble_eq_true rfl⟩ hK hP hS hE hN [] rfl [] rfl rfl hl.1 (rest := []) rfl (Nat.le_of_ble_eq_true rfl) dX0_addNeed_8 ⟨Nat.le_of_ble_eq_true rfl, Nat.le_of_ble_eq_true rfl⟩ (fun v hv => ?_)
      subst hv
      refine ka_stk (w := [.int 0]) rfl ?_
      refine lv_if_eq (tgt := 19) hx hb dX0_addNeed_11 (by decide) (fun _ => ?_) (fun c_ => absurd (by decide) c_)
      refine lv_iconst (v := 0) hx hb dX0_addNeed_19 (by decide) ?_
      exact ka_rEz C hr hlk rfl (Nat.le_of_ble_eq_true rfl) (Nat.le_of_ble_eq_true rfl) hS (ka_qE (f0, 0) rfl (show 0 ≤ ((0 : Int32)).toInt ∧ ((0 : Int32)).toInt ≤ 1 from ⟨by decide, by decide⟩) hK hP hD hS [0, 1] (by decide) rfl [] rfl) dX0_addNeed_20
    · obtain rfl : x1 = 0 := (ka_eq' _ _).mpr (y_3333.trans (by decide))
      refine lv_iload_n hx hb dX0_addNeed_0 rfl (lv_at hl 1 rfl) ?_
      refine ka_RS (n := 1) C (cg_X0_isLesson_24 l D F ) gX0_addNeed_X0_isLesson rfl (by decide +kernel) ⟨Nat.le_of_ble_eq_true rfl, Nat.le_of_ble_eq_true rfl⟩ hK hP hS hE hN [] rfl [] rfl rfl hl.1 (rest := []) rfl (Nat.le_of_ble_eq_true rfl) dX0_addNeed_1 ⟨Nat.le_of_ble_eq_true rfl, Nat.le_of_ble_eq_true rfl⟩ (fun v hv => ?_)
      subst hv
      refine ka_stk (w := [.int 1]) rfl ?_
      refine lv_if_eq (tgt := 19) hx hb dX0_addNeed_4 (by decide) (fun c_ => absurd c_ (by decide)) (fun _ => ?_)
      refine lv_iload_n hx hb dX0_addNeed_7 rfl (lv_at hl 2 rfl) ?_
      refine ka_RS (n := 1) C (cg_X0_isLesson_22 l D F ) gX0_addNeed_X0_isLesson rfl (by decide +kernel) ⟨Nat.le_of_ble_eq_true rfl, Nat.le_of_ble_eq_true rfl⟩ hK hP hS hE hN [] rfl [] rfl rfl hl.1 (rest := []) rfl (Nat.le_of_ble_eq_true rfl) dX0_addNeed_8 ⟨Nat.le_of_ble_eq_true rfl, Nat.le_of_ble_eq_true rfl⟩ (fun v hv => ?_)
      subst hv
      refine ka_stk (w := [.int 1]) rfl ?_
      refine lv_if_eq (tgt := 19) hx hb dX0_addNeed_11 (by decide) (fun c_ => absurd c_ (by decide)) (fun _ => ?_)
      refine lv_iload_n hx hb dX0_addNeed_14 rfl (lv_at hl 1 rfl) ?_
      refine lv_iload_n hx hb dX0_addNeed_15 rfl (lv_at hl 2 rfl) ?_
      refine lv_icmp_ne (tgt := 21) hx hb dX0_addNeed_16 (by decide) (fun _ => ?_) (fun c_ => absurd c_ (by decide))
      refine lv_aload_n hx hb dX0_addNeed_21 rfl (lv_at hl 0 rfl) ?_
      refine ka_get C lq_72 rfl hK hP 0 rfl 1 (by decide) lq_73 rfl dX0_addNeed_22 ?_
      refine lv_iload_n hx hb dX0_addNeed_25 rfl (lv_at hl 1 rfl) ?_
      refine va_iald hx hb hK hP 1 0 rfl rfl (ka_in (by decide) (by decide)) dX0_addNeed_26 ?_
      refine lv_topi (fun v_3334 ev_3334 => ?_)
      refine lv_iload_n hx hb dX0_addNeed_27 rfl (lv_at hl 2 rfl) ?_
      refine ka_RN (n := 2) C (ka_c_bitAt l D F v_3334 0) gX0_addNeed_X6_bitAt_n30 rfl hN.2.2.2.1 lq_74 lq_75 (by decide +kernel) ⟨Nat.le_of_ble_eq_true rfl, Nat.le_of_ble_eq_true rfl⟩ hK hP hS hE hN [] rfl [] rfl rfl hl.1 (rest := []) rfl (Nat.le_of_ble_eq_true rfl) dX0_addNeed_28 ⟨Nat.le_of_ble_eq_true rfl, Nat.le_of_ble_eq_true rfl⟩ (fun v hv => ?_)
      subst hv
      refine ka_stk (w := .int (ka_bit v_3334 0) :: []) rfl ?_
      refine lv_topi (fun v_3335 ev_3335 => ?_)
      have fv_3335 := ka_bit_in v_3334 0; rw [← ev_3335] at fv_3335
      refine lv_iconst (v := 1) hx hb dX0_addNeed_31 (by decide) ?_
      refine lv_icmp_eq (tgt := 48) hx hb dX0_addNeed_32 (by decide) (fun c_3336 => ?_) (fun c_3336 => ?_)
      · have c_3336 : v_3335.toInt = 1 := by rw [ka_eq', show ((1 : Int32)).toInt = 1 from by decide] at c_3336; exact c_3336
        refine lv_iconst (v := 0) hx hb dX0_addNeed_48 (by decide) ?_
        exact ka_rEz C hr hlk rfl (Nat.le_of_ble_eq_true rfl) (Nat.le_of_ble_eq_true rfl) hS (ka_qE (f0, 0) rfl (show 0 ≤ ((0 : Int32)).toInt ∧ ((0 : Int32)).toInt ≤ 1 from ⟨by decide, by decide⟩) hK hP hD hS [0, 1] (by decide) rfl [] rfl) dX0_addNeed_49
      · have c_3336 : ¬ v_3335.toInt = 1 := by rw [ka_eq', show ((1 : Int32)).toInt = 1 from by decide] at c_3336; exact c_3336
        refine lv_aload_n hx hb dX0_addNeed_35 rfl (lv_at hl 0 rfl) ?_
        refine lv_iload_n hx hb dX0_addNeed_36 rfl (lv_at hl 2 rfl) ?_
        refine ka_RV (n := 1) C (cg_X0_neededInTheEnd_37 l D F a0 a1 a2 x2 k0 f0) gX0_addNeed_X0_neededInTheEnd rfl (by decide +kernel) ⟨Nat.le_of_ble_eq_true rfl, Nat.le_of_ble_eq_true rfl⟩ hK hP hS hE hN [0, 1] rfl [0] rfl (ci := 0) rfl rfl 0 rfl rfl hl.1 (rest := []) rfl (Nat.le_of_ble_eq_true rfl) dX0_addNeed_37 ⟨Nat.le_of_ble_eq_true rfl, Nat.le_of_ble_eq_true rfl⟩ (fun v hv => ?_)
        obtain ⟨v_3337, rfl⟩ := hv
        have rv_3337 := ka_rng v_3337
        refine ka_stk (w := [.int v_3337]) rfl ?_
        refine lv_iload_n hx hb dX0_addNeed_40 rfl (lv_at hl 1 rfl) ?_
        refine ka_RN (n := 2) C (ka_c_bitAt l D F v_3337 2) gX0_addNeed_X6_bitAt_n30 rfl hN.2.2.2.1 lq_74 lq_75 (by decide +kernel) ⟨Nat.le_of_ble_eq_true rfl, Nat.le_of_ble_eq_true rfl⟩ hK hP hS hE hN [] rfl [] rfl rfl hl.1 (rest := []) rfl (Nat.le_of_ble_eq_true rfl) dX0_addNeed_41 ⟨Nat.le_of_ble_eq_true rfl, Nat.le_of_ble_eq_true rfl⟩ (fun v hv => ?_)
        subst hv
        refine ka_stk (w := .int (ka_bit v_3337 2) :: []) rfl ?_
        refine lv_topi (fun v_3338 ev_3338 => ?_)
        have fv_3338 := ka_bit_in v_3337 2; rw [← ev_3338] at fv_3338
        refine lv_iconst (v := 1) hx hb dX0_addNeed_44 (by decide) ?_
        refine lv_icmp_ne (tgt := 50) hx hb dX0_addNeed_45 (by decide) (fun c_3339 => ?_) (fun c_3339 => ?_)
        · have c_3339 : ¬ v_3338.toInt = 1 := by rw [ka_eq', show ((1 : Int32)).toInt = 1 from by decide] at c_3339; exact c_3339
          refine lv_aload_n hx hb dX0_addNeed_50 rfl (lv_at hl 0 rfl) ?_
          refine ka_get C lq_72 rfl hK hP 0 rfl 1 (by decide) lq_73 rfl dX0_addNeed_51 ?_
          refine lv_iload_n hx hb dX0_addNeed_54 rfl (lv_at hl 1 rfl) ?_
          refine lv_dup2_11 hx hb dX0_addNeed_55 rfl rfl ?_
          refine va_iald hx hb hK hP 1 0 rfl rfl (ka_in (by decide) (by decide)) dX0_addNeed_56 ?_
          refine lv_topi (fun v_3340 ev_3340 => ?_)
          refine lv_iconst (v := 1) hx hb dX0_addNeed_57 (by decide) ?_
          refine lv_iload_n hx hb dX0_addNeed_58 rfl (lv_at hl 2 rfl) ?_
          refine lv_ishl hx hb dX0_addNeed_59 ?_
          refine ka_top (w := .int 1) (congrArg Value.int (by decide)) ?_
          refine lv_ior hx hb dX0_addNeed_60 ?_
          refine lv_topi (fun v_3341 ev_3341 => ?_)
          refine va_iast hx hb hK hP hD hS 1 0 rfl rfl (ka_in (by decide) (by decide)) dX0_addNeed_61 (fun H locs hP hD hS => ?_)
          have hP : va_P D vwCl [(a0, .inr (0, [.ref a1, .ref a2, .int x2])), (a2, .inl (k0, 6, .inl (upd f0 (Int32.toNatClampNeg 2) v_3341)))] H := hP
          have hD : va_D A [(a0, .inr (0, [.ref a1, .ref a2, .int x2])), (a2, .inl (k0, 6, .inl (upd f0 (Int32.toNatClampNeg 2) v_3341)))] := hD
          generalize (upd f0 (Int32.toNatClampNeg 2) v_3341) = g_3342 at hP hD
          refine lv_iconst (v := 1) hx hb dX0_addNeed_62 (by decide) ?_
          exact ka_rEz C hr hlk rfl (Nat.le_of_ble_eq_true rfl) (Nat.le_of_ble_eq_true rfl) hS (ka_qE (g_3342, 1) rfl (show 0 ≤ ((1 : Int32)).toInt ∧ ((1 : Int32)).toInt ≤ 1 from ⟨by decide, by decide⟩) hK hP hD hS [0, 1] (by decide) rfl [] rfl) dX0_addNeed_63
        · have c_3339 : v_3338.toInt = 1 := by rw [ka_eq', show ((1 : Int32)).toInt = 1 from by decide] at c_3339; exact c_3339
          refine lv_iconst (v := 0) hx hb dX0_addNeed_48 (by decide) ?_
          exact ka_rEz C hr hlk rfl (Nat.le_of_ble_eq_true rfl) (Nat.le_of_ble_eq_true rfl) hS (ka_qE (f0, 0) rfl (show 0 ≤ ((0 : Int32)).toInt ∧ ((0 : Int32)).toInt ≤ 1 from ⟨by decide, by decide⟩) hK hP hD hS [0, 1] (by decide) rfl [] rfl) dX0_addNeed_49
    · obtain rfl : x1 = 1 := (ka_eq' _ _).mpr (y_3333.trans (by decide))
      refine lv_iload_n hx hb dX0_addNeed_0 rfl (lv_at hl 1 rfl) ?_
      refine ka_RS (n := 1) C (cg_X0_isLesson_24 l D F ) gX0_addNeed_X0_isLesson rfl (by decide +kernel) ⟨Nat.le_of_ble_eq_true rfl, Nat.le_of_ble_eq_true rfl⟩ hK hP hS hE hN [] rfl [] rfl rfl hl.1 (rest := []) rfl (Nat.le_of_ble_eq_true rfl) dX0_addNeed_1 ⟨Nat.le_of_ble_eq_true rfl, Nat.le_of_ble_eq_true rfl⟩ (fun v hv => ?_)
      subst hv
      refine ka_stk (w := [.int 1]) rfl ?_
      refine lv_if_eq (tgt := 19) hx hb dX0_addNeed_4 (by decide) (fun c_ => absurd c_ (by decide)) (fun _ => ?_)
      refine lv_iload_n hx hb dX0_addNeed_7 rfl (lv_at hl 2 rfl) ?_
      refine ka_RS (n := 1) C (cg_X0_isLesson_23 l D F ) gX0_addNeed_X0_isLesson rfl (by decide +kernel) ⟨Nat.le_of_ble_eq_true rfl, Nat.le_of_ble_eq_true rfl⟩ hK hP hS hE hN [] rfl [] rfl rfl hl.1 (rest := []) rfl (Nat.le_of_ble_eq_true rfl) dX0_addNeed_8 ⟨Nat.le_of_ble_eq_true rfl, Nat.le_of_ble_eq_true rfl⟩ (fun v hv => ?_)
      subst hv
      refine ka_stk (w := [.int 1]) rfl ?_
      refine lv_if_eq (tgt := 19) hx hb dX0_addNeed_11 (by decide) (fun c_ => absurd c_ (by decide)) (fun _ => ?_)
      refine lv_iload_n hx hb dX0_addNeed_14 rfl (lv_at hl 1 rfl) ?_
      refine lv_iload_n hx hb dX0_addNeed_15 rfl (lv_at hl 2 rfl) ?_
      refine lv_icmp_ne (tgt := 21) hx hb dX0_addNeed_16 (by decide) (fun _ => ?_) (fun c_ => absurd c_ (by decide))
      refine lv_aload_n hx hb dX0_addNeed_21 rfl (lv_at hl 0 rfl) ?_
      refine ka_get C lq_72 rfl hK hP 0 rfl 1 (by decide) lq_73 rfl dX0_addNeed_22 ?_
      refine lv_iload_n hx hb dX0_addNeed_25 rfl (lv_at hl 1 rfl) ?_
      refine va_iald hx hb hK hP 1 0 rfl rfl (ka_in (by decide) (by decide)) dX0_addNeed_26 ?_
      refine lv_topi (fun v_3343 ev_3343 => ?_)
      refine lv_iload_n hx hb dX0_addNeed_27 rfl (lv_at hl 2 rfl) ?_
      refine ka_RN (n := 2) C (ka_c_bitAt l D F v_3343 1) gX0_addNeed_X6_bitAt_n30 rfl hN.2.2.2.1 lq_74 lq_75 (by decide +kernel) ⟨Nat.le_of_ble_eq_true rfl, Nat.le_of_ble_eq_true rfl⟩ hK hP hS hE hN [] rfl [] rfl rfl hl.1 (rest := []) rfl (Nat.le_of_ble_eq_true rfl) dX0_addNeed_28 ⟨Nat.le_of_ble_eq_true rfl, Nat.le_of_ble_eq_true rfl⟩ (fun v hv => ?_)
      subst hv
      refine ka_stk (w := .int (ka_bit v_3343 1) :: []) rfl ?_
      refine lv_topi (fun v_3344 ev_3344 => ?_)
      have fv_3344 := ka_bit_in v_3343 1; rw [← ev_3344] at fv_3344
      refine lv_iconst (v := 1) hx hb dX0_addNeed_31 (by decide) ?_
      refine lv_icmp_eq (tgt := 48) hx hb dX0_addNeed_32 (by decide) (fun c_3345 => ?_) (fun c_3345 => ?_)
      · have c_3345 : v_3344.toInt = 1 := by rw [ka_eq', show ((1 : Int32)).toInt = 1 from by decide] at c_3345; exact c_3345
        refine lv_iconst (v := 0) hx hb dX0_addNeed_48 (by decide) ?_
        exact ka_rEz C hr hlk rfl (Nat.le_of_ble_eq_true rfl) (Nat.le_of_ble_eq_true rfl) hS (ka_qE (f0, 0) rfl (show 0 ≤ ((0 : Int32)).toInt ∧ ((0 : Int32)).toInt ≤ 1 from ⟨by decide, by decide⟩) hK hP hD hS [0, 1] (by decide) rfl [] rfl) dX0_addNeed_49
      · have c_3345 : ¬ v_3344.toInt = 1 := by rw [ka_eq', show ((1 : Int32)).toInt = 1 from by decide] at c_3345; exact c_3345
        refine lv_aload_n hx hb dX0_addNeed_35 rfl (lv_at hl 0 rfl) ?_
        refine lv_iload_n hx hb dX0_addNeed_36 rfl (lv_at hl 2 rfl) ?_
        refine ka_RV (n := 1) C (cg_X0_neededInTheEnd_32 l D F a0 a1 a2 x2 k0 f0) gX0_addNeed_X0_neededInTheEnd rfl (by decide +kernel) ⟨Nat.le_of_ble_eq_true rfl, Nat.le_of_ble_eq_true rfl⟩ hK hP hS hE hN [0, 1] rfl [0] rfl (ci := 0) rfl rfl 0 rfl rfl hl.1 (rest := []) rfl (Nat.le_of_ble_eq_true rfl) dX0_addNeed_37 ⟨Nat.le_of_ble_eq_true rfl, Nat.le_of_ble_eq_true rfl⟩ (fun v hv => ?_)
        obtain ⟨v_3346, rfl⟩ := hv
        have rv_3346 := ka_rng v_3346
        refine ka_stk (w := [.int v_3346]) rfl ?_
        refine lv_iload_n hx hb dX0_addNeed_40 rfl (lv_at hl 1 rfl) ?_
        refine ka_RN (n := 2) C (ka_c_bitAt l D F v_3346 2) gX0_addNeed_X6_bitAt_n30 rfl hN.2.2.2.1 lq_74 lq_75 (by decide +kernel) ⟨Nat.le_of_ble_eq_true rfl, Nat.le_of_ble_eq_true rfl⟩ hK hP hS hE hN [] rfl [] rfl rfl hl.1 (rest := []) rfl (Nat.le_of_ble_eq_true rfl) dX0_addNeed_41 ⟨Nat.le_of_ble_eq_true rfl, Nat.le_of_ble_eq_true rfl⟩ (fun v hv => ?_)
        subst hv
        refine ka_stk (w := .int (ka_bit v_3346 2) :: []) rfl ?_
        refine lv_topi (fun v_3347 ev_3347 => ?_)
        have fv_3347 := ka_bit_in v_3346 2; rw [← ev_3347] at fv_3347
        refine lv_iconst (v := 1) hx hb dX0_addNeed_44 (by decide) ?_
        refine lv_icmp_ne (tgt := 50) hx hb dX0_addNeed_45 (by decide) (fun c_3348 => ?_) (fun c_3348 => ?_)
        · have c_3348 : ¬ v_3347.toInt = 1 := by rw [ka_eq', show ((1 : Int32)).toInt = 1 from by decide] at c_3348; exact c_3348
          refine lv_aload_n hx hb dX0_addNeed_50 rfl (lv_at hl 0 rfl) ?_
          refine ka_get C lq_72 rfl hK hP 0 rfl 1 (by decide) lq_73 rfl dX0_addNeed_51 ?_
          refine lv_iload_n hx hb dX0_addNeed_54 rfl (lv_at hl 1 rfl) ?_
          refine lv_dup2_11 hx hb dX0_addNeed_55 rfl rfl ?_
          refine va_iald hx hb hK hP 1 0 rfl rfl (ka_in (by decide) (by decide)) dX0_addNeed_56 ?_
          refine lv_topi (fun v_3349 ev_3349 => ?_)
          refine lv_iconst (v := 1) hx hb dX0_addNeed_57 (by decide) ?_
          refine lv_iload_n hx hb dX0_addNeed_58 rfl (lv_at hl 2 rfl) ?_
          refine lv_ishl hx hb dX0_addNeed_59 ?_
          refine ka_top (w := .int 2) (congrArg Value.int (by decide)) ?_
          refine lv_ior hx hb dX0_addNeed_60 ?_
          refine lv_topi (fun v_3350 ev_3350 => ?_)
          refine va_iast hx hb hK hP hD hS 1 0 rfl rfl (ka_in (by decide) (by decide)) dX0_addNeed_61 (fun H locs hP hD hS => ?_)
          have hP : va_P D vwCl [(a0, .inr (0, [.ref a1, .ref a2, .int x2])), (a2, .inl (k0, 6, .inl (upd f0 (Int32.toNatClampNeg 2) v_3350)))] H := hP
          have hD : va_D A [(a0, .inr (0, [.ref a1, .ref a2, .int x2])), (a2, .inl (k0, 6, .inl (upd f0 (Int32.toNatClampNeg 2) v_3350)))] := hD
          generalize (upd f0 (Int32.toNatClampNeg 2) v_3350) = g_3351 at hP hD
          refine lv_iconst (v := 1) hx hb dX0_addNeed_62 (by decide) ?_
          exact ka_rEz C hr hlk rfl (Nat.le_of_ble_eq_true rfl) (Nat.le_of_ble_eq_true rfl) hS (ka_qE (g_3351, 1) rfl (show 0 ≤ ((1 : Int32)).toInt ∧ ((1 : Int32)).toInt ≤ 1 from ⟨by decide, by decide⟩) hK hP hD hS [0, 1] (by decide) rfl [] rfl) dX0_addNeed_63
        · have c_3348 : v_3347.toInt = 1 := by rw [ka_eq', show ((1 : Int32)).toInt = 1 from by decide] at c_3348; exact c_3348
          refine lv_iconst (v := 0) hx hb dX0_addNeed_48 (by decide) ?_
          exact ka_rEz C hr hlk rfl (Nat.le_of_ble_eq_true rfl) (Nat.le_of_ble_eq_true rfl) hS (ka_qE (f0, 0) rfl (show 0 ≤ ((0 : Int32)).toInt ∧ ((0 : Int32)).toInt ≤ 1 from ⟨by decide, by decide⟩) hK hP hD hS [0, 1] (by decide) rfl [] rfl) dX0_addNeed_49
    · obtain rfl : x1 = 2 := (ka_eq' _ _).mpr (y_3333.trans (by decide))
      refine lv_iload_n hx hb dX0_addNeed_0 rfl (lv_at hl 1 rfl) ?_
      refine ka_RS (n := 1) C (cg_X0_isLesson_24 l D F ) gX0_addNeed_X0_isLesson rfl (by decide +kernel) ⟨Nat.le_of_ble_eq_true rfl, Nat.le_of_ble_eq_true rfl⟩ hK hP hS hE hN [] rfl [] rfl rfl hl.1 (rest := []) rfl (Nat.le_of_ble_eq_true rfl) dX0_addNeed_1 ⟨Nat.le_of_ble_eq_true rfl, Nat.le_of_ble_eq_true rfl⟩ (fun v hv => ?_)
      subst hv
      refine ka_stk (w := [.int 1]) rfl ?_
      refine lv_if_eq (tgt := 19) hx hb dX0_addNeed_4 (by decide) (fun c_ => absurd c_ (by decide)) (fun _ => ?_)
      refine lv_iload_n hx hb dX0_addNeed_7 rfl (lv_at hl 2 rfl) ?_
      refine ka_RS (n := 1) C (cg_X0_isLesson_24 l D F ) gX0_addNeed_X0_isLesson rfl (by decide +kernel) ⟨Nat.le_of_ble_eq_true rfl, Nat.le_of_ble_eq_true rfl⟩ hK hP hS hE hN [] rfl [] rfl rfl hl.1 (rest := []) rfl (Nat.le_of_ble_eq_true rfl) dX0_addNeed_8 ⟨Nat.le_of_ble_eq_true rfl, Nat.le_of_ble_eq_true rfl⟩ (fun v hv => ?_)
      subst hv
      refine ka_stk (w := [.int 1]) rfl ?_
      refine lv_if_eq (tgt := 19) hx hb dX0_addNeed_11 (by decide) (fun c_ => absurd c_ (by decide)) (fun _ => ?_)
      refine lv_iload_n hx hb dX0_addNeed_14 rfl (lv_at hl 1 rfl) ?_
      refine lv_iload_n hx hb dX0_addNeed_15 rfl (lv_at hl 2 rfl) ?_
      refine lv_icmp_ne (tgt := 21) hx hb dX0_addNeed_16 (by decide) (fun c_ => absurd (by decide) c_) (fun _ => ?_)
      refine lv_iconst (v := 0) hx hb dX0_addNeed_19 (by decide) ?_
      exact ka_rEz C hr hlk rfl (Nat.le_of_ble_eq_true rfl) (Nat.le_of_ble_eq_true rfl) hS (ka_qE (f0, 0) rfl (show 0 ≤ ((0 : Int32)).toInt ∧ ((0 : Int32)).toInt ≤ 1 from ⟨by decide, by decide⟩) hK hP hD hS [0, 1] (by decide) rfl [] rfl) dX0_addNeed_20
    · obtain rfl : x1 = 3 := (ka_eq' _ _).mpr (y_3333.trans (by decide))
      refine lv_iload_n hx hb dX0_addNeed_0 rfl (lv_at hl 1 rfl) ?_
      refine ka_RS (n := 1) C (cg_X0_isLesson_24 l D F ) gX0_addNeed_X0_isLesson rfl (by decide +kernel) ⟨Nat.le_of_ble_eq_true rfl, Nat.le_of_ble_eq_true rfl⟩ hK hP hS hE hN [] rfl [] rfl rfl hl.1 (rest := []) rfl (Nat.le_of_ble_eq_true rfl) dX0_addNeed_1 ⟨Nat.le_of_ble_eq_true rfl, Nat.le_of_ble_eq_true rfl⟩ (fun v hv => ?_)
      subst hv
      refine ka_stk (w := [.int 1]) rfl ?_
      refine lv_if_eq (tgt := 19) hx hb dX0_addNeed_4 (by decide) (fun c_ => absurd c_ (by decide)) (fun _ => ?_)
      refine lv_iload_n hx hb dX0_addNeed_7 rfl (lv_at hl 2 rfl) ?_
      refine ka_RS (n := 1) C (cg_X0_isLesson_25 l D F ) gX0_addNeed_X0_isLesson rfl (by decide +kernel) ⟨Nat.le_of_ble_eq_true rfl, Nat.le_of_ble_eq_true rfl⟩ hK hP hS hE hN [] rfl [] rfl rfl hl.1 (rest := []) rfl (Nat.le_of_ble_eq_true rfl) dX0_addNeed_8 ⟨Nat.le_of_ble_eq_true rfl, Nat.le_of_ble_eq_true rfl⟩ (fun v hv => ?_)
      subst hv
      refine ka_stk (w := [.int 1]) rfl ?_
      refine lv_if_eq (tgt := 19) hx hb dX0_addNeed_11 (by decide) (fun c_ => absurd c_ (by decide)) (fun _ => ?_)
      refine lv_iload_n hx hb dX0_addNeed_14 rfl (lv_at hl 1 rfl) ?_
      refine lv_iload_n hx hb dX0_addNeed_15 rfl (lv_at hl 2 rfl) ?_
      refine lv_icmp_ne (tgt := 21) hx hb dX0_addNeed_16 (by decide) (fun _ => ?_) (fun c_ => absurd c_ (by decide))
      refine lv_aload_n hx hb dX0_addNeed_21 rfl (lv_at hl 0 rfl) ?_
      refine ka_get C lq_72 rfl hK hP 0 rfl 1 (by decide) lq_73 rfl dX0_addNeed_22 ?_
      refine lv_iload_n hx hb dX0_addNeed_25 rfl (lv_at hl 1 rfl) ?_
      refine va_iald hx hb hK hP 1 0 rfl rfl (ka_in (by decide) (by decide)) dX0_addNeed_26 ?_
      refine lv_topi (fun v_3352 ev_3352 => ?_)
      refine lv_iload_n hx hb dX0_addNeed_27 rfl (lv_at hl 2 rfl) ?_
      refine ka_RN (n := 2) C (ka_c_bitAt l D F v_3352 3) gX0_addNeed_X6_bitAt_n30 rfl hN.2.2.2.1 lq_74 lq_75 (by decide +kernel) ⟨Nat.le_of_ble_eq_true rfl, Nat.le_of_ble_eq_true rfl⟩ hK hP hS hE hN [] rfl [] rfl rfl hl.1 (rest := []) rfl (Nat.le_of_ble_eq_true rfl) dX0_addNeed_28 ⟨Nat.le_of_ble_eq_true rfl, Nat.le_of_ble_eq_true rfl⟩ (fun v hv => ?_)
      subst hv
      refine ka_stk (w := .int (ka_bit v_3352 3) :: []) rfl ?_
      refine lv_topi (fun v_3353 ev_3353 => ?_)
      have fv_3353 := ka_bit_in v_3352 3; rw [← ev_3353] at fv_3353
      refine lv_iconst (v := 1) hx hb dX0_addNeed_31 (by decide) ?_
      refine lv_icmp_eq (tgt := 48) hx hb dX0_addNeed_32 (by decide) (fun c_3354 => ?_) (fun c_3354 => ?_)
      · have c_3354 : v_3353.toInt = 1 := by rw [ka_eq', show ((1 : Int32)).toInt = 1 from by decide] at c_3354; exact c_3354
        refine lv_iconst (v := 0) hx hb dX0_addNeed_48 (by decide) ?_
        exact ka_rEz C hr hlk rfl (Nat.le_of_ble_eq_true rfl) (Nat.le_of_ble_eq_true rfl) hS (ka_qE (f0, 0) rfl (show 0 ≤ ((0 : Int32)).toInt ∧ ((0 : Int32)).toInt ≤ 1 from ⟨by decide, by decide⟩) hK hP hD hS [0, 1] (by decide) rfl [] rfl) dX0_addNeed_49
      · have c_3354 : ¬ v_3353.toInt = 1 := by rw [ka_eq', show ((1 : Int32)).toInt = 1 from by decide] at c_3354; exact c_3354
        refine lv_aload_n hx hb dX0_addNeed_35 rfl (lv_at hl 0 rfl) ?_
        refine lv_iload_n hx hb dX0_addNeed_36 rfl (lv_at hl 2 rfl) ?_
        refine ka_RV (n := 1) C (cg_X0_neededInTheEnd_34 l D F a0 a1 a2 x2 k0 f0) gX0_addNeed_X0_neededInTheEnd rfl (by decide +kernel) ⟨Nat.le_of_ble_eq_true rfl, Nat.le_of_ble_eq_true rfl⟩ hK hP hS hE hN [0, 1] rfl [0] rfl (ci := 0) rfl rfl 0 rfl rfl hl.1 (rest := []) rfl (Nat.le_of_ble_eq_true rfl) dX0_addNeed_37 ⟨Nat.le_of_ble_eq_true rfl, Nat.le_of_ble_eq_true rfl⟩ (fun v hv => ?_)
        obtain ⟨v_3355, rfl⟩ := hv
        have rv_3355 := ka_rng v_3355
        refine ka_stk (w := [.int v_3355]) rfl ?_
        refine lv_iload_n hx hb dX0_addNeed_40 rfl (lv_at hl 1 rfl) ?_
        refine ka_RN (n := 2) C (ka_c_bitAt l D F v_3355 2) gX0_addNeed_X6_bitAt_n30 rfl hN.2.2.2.1 lq_74 lq_75 (by decide +kernel) ⟨Nat.le_of_ble_eq_true rfl, Nat.le_of_ble_eq_true rfl⟩ hK hP hS hE hN [] rfl [] rfl rfl hl.1 (rest := []) rfl (Nat.le_of_ble_eq_true rfl) dX0_addNeed_41 ⟨Nat.le_of_ble_eq_true rfl, Nat.le_of_ble_eq_true rfl⟩ (fun v hv => ?_)
        subst hv
        refine ka_stk (w := .int (ka_bit v_3355 2) :: []) rfl ?_
        refine lv_topi (fun v_3356 ev_3356 => ?_)
        have fv_3356 := ka_bit_in v_3355 2; rw [← ev_3356] at fv_3356
        refine lv_iconst (v := 1) hx hb dX0_addNeed_44 (by decide) ?_
        refine lv_icmp_ne (tgt := 50) hx hb dX0_addNeed_45 (by decide) (fun c_3357 => ?_) (fun c_3357 => ?_)
        · have c_3357 : ¬ v_3356.toInt = 1 := by rw [ka_eq', show ((1 : Int32)).toInt = 1 from by decide] at c_3357; exact c_3357
          refine lv_aload_n hx hb dX0_addNeed_50 rfl (lv_at hl 0 rfl) ?_
          refine ka_get C lq_72 rfl hK hP 0 rfl 1 (by decide) lq_73 rfl dX0_addNeed_51 ?_
          refine lv_iload_n hx hb dX0_addNeed_54 rfl (lv_at hl 1 rfl) ?_
          refine lv_dup2_11 hx hb dX0_addNeed_55 rfl rfl ?_
          refine va_iald hx hb hK hP 1 0 rfl rfl (ka_in (by decide) (by decide)) dX0_addNeed_56 ?_
          refine lv_topi (fun v_3358 ev_3358 => ?_)
          refine lv_iconst (v := 1) hx hb dX0_addNeed_57 (by decide) ?_
          refine lv_iload_n hx hb dX0_addNeed_58 rfl (lv_at hl 2 rfl) ?_
          refine lv_ishl hx hb dX0_addNeed_59 ?_
          refine ka_top (w := .int 8) (congrArg Value.int (by decide)) ?_
          refine lv_ior hx hb dX0_addNeed_60 ?_
          refine lv_topi (fun v_3359 ev_3359 => ?_)
          refine va_iast hx hb hK hP hD hS 1 0 rfl rfl (ka_in (by decide) (by decide)) dX0_addNeed_61 (fun H locs hP hD hS => ?_)
          have hP : va_P D vwCl [(a0, .inr (0, [.ref a1, .ref a2, .int x2])), (a2, .inl (k0, 6, .inl (upd f0 (Int32.toNatClampNeg 2) v_3359)))] H := hP
          have hD : va_D A [(a0, .inr (0, [.ref a1, .ref a2, .int x2])), (a2, .inl (k0, 6, .inl (upd f0 (Int32.toNatClampNeg 2) v_3359)))] := hD
          generalize (upd f0 (Int32.toNatClampNeg 2) v_3359) = g_3360 at hP hD
          refine lv_iconst (v := 1) hx hb dX0_addNeed_62 (by decide) ?_
          exact ka_rEz C hr hlk rfl (Nat.le_of_ble_eq_true rfl) (Nat.le_of_ble_eq_true rfl) hS (ka_qE (g_3360, 1) rfl (show 0 ≤ ((1 : Int32)).toInt ∧ ((1 : Int32)).toInt ≤ 1 from ⟨by decide, by decide⟩) hK hP hD hS [0, 1] (by decide) rfl [] rfl) dX0_addNeed_63
        · have c_3357 : v_3356.toInt = 1 := by rw [ka_eq', show ((1 : Int32)).toInt = 1 from by decide] at c_3357; exact c_3357
          refine lv_iconst (v := 0) hx hb dX0_addNeed_48 (by decide) ?_
          exact ka_rEz C hr hlk rfl (Nat.le_of_ble_eq_true rfl) (Nat.le_of_ble_eq_true rfl) hS (ka_qE (f0, 0) rfl (show 0 ≤ ((0 : Int32)).toInt ∧ ((0 : Int32)).toInt ≤ 1 from ⟨by decide, by decide⟩) hK hP hD hS [0, 1] (by decide) rfl [] rfl) dX0_addNeed_49
    · obtain rfl : x1 = 4 := (ka_eq' _ _).mpr (y_3333.trans (by decide))
      refine lv_iload_n hx hb dX0_addNeed_0 rfl (lv_at hl 1 rfl) ?_
      refine ka_RS (n := 1) C (cg_X0_isLesson_24 l D F ) gX0_addNeed_X0_isLesson rfl (by decide +kernel) ⟨Nat.le_of_ble_eq_true rfl, Nat.le_of_ble_eq_true rfl⟩ hK hP hS hE hN [] rfl [] rfl rfl hl.1 (rest := []) rfl (Nat.le_of_ble_eq_true rfl) dX0_addNeed_1 ⟨Nat.le_of_ble_eq_true rfl, Nat.le_of_ble_eq_true rfl⟩ (fun v hv => ?_)
      subst hv
      refine ka_stk (w := [.int 1]) rfl ?_
      refine lv_if_eq (tgt := 19) hx hb dX0_addNeed_4 (by decide) (fun c_ => absurd c_ (by decide)) (fun _ => ?_)
      refine lv_iload_n hx hb dX0_addNeed_7 rfl (lv_at hl 2 rfl) ?_
      refine ka_RS (n := 1) C (cg_X0_isLesson_26 l D F ) gX0_addNeed_X0_isLesson rfl (by decide +kernel) ⟨Nat.le_of_ble_eq_true rfl, Nat.le_of_ble_eq_true rfl⟩ hK hP hS hE hN [] rfl [] rfl rfl hl.1 (rest := []) rfl (Nat.le_of_ble_eq_true rfl) dX0_addNeed_8 ⟨Nat.le_of_ble_eq_true rfl, Nat.le_of_ble_eq_true rfl⟩ (fun v hv => ?_)
      subst hv
      refine ka_stk (w := [.int 1]) rfl ?_
      refine lv_if_eq (tgt := 19) hx hb dX0_addNeed_11 (by decide) (fun c_ => absurd c_ (by decide)) (fun _ => ?_)
      refine lv_iload_n hx hb dX0_addNeed_14 rfl (lv_at hl 1 rfl) ?_
      refine lv_iload_n hx hb dX0_addNeed_15 rfl (lv_at hl 2 rfl) ?_
      refine lv_icmp_ne (tgt := 21) hx hb dX0_addNeed_16 (by decide) (fun _ => ?_) (fun c_ => absurd c_ (by decide))
      refine lv_aload_n hx hb dX0_addNeed_21 rfl (lv_at hl 0 rfl) ?_
      refine ka_get C lq_72 rfl hK hP 0 rfl 1 (by decide) lq_73 rfl dX0_addNeed_22 ?_
      refine lv_iload_n hx hb dX0_addNeed_25 rfl (lv_at hl 1 rfl) ?_
      refine va_iald hx hb hK hP 1 0 rfl rfl (ka_in (by decide) (by decide)) dX0_addNeed_26 ?_
      refine lv_topi (fun v_3361 ev_3361 => ?_)
      refine lv_iload_n hx hb dX0_addNeed_27 rfl (lv_at hl 2 rfl) ?_
      refine ka_RN (n := 2) C (ka_c_bitAt l D F v_3361 4) gX0_addNeed_X6_bitAt_n30 rfl hN.2.2.2.1 lq_74 lq_75 (by decide +kernel) ⟨Nat.le_of_ble_eq_true rfl, Nat.le_of_ble_eq_true rfl⟩ hK hP hS hE hN [] rfl [] rfl rfl hl.1 (rest := []) rfl (Nat.le_of_ble_eq_true rfl) dX0_addNeed_28 ⟨Nat.le_of_ble_eq_true rfl, Nat.le_of_ble_eq_true rfl⟩ (fun v hv => ?_)
      subst hv
      refine ka_stk (w := .int (ka_bit v_3361 4) :: []) rfl ?_
      refine lv_topi (fun v_3362 ev_3362 => ?_)
      have fv_3362 := ka_bit_in v_3361 4; rw [← ev_3362] at fv_3362
      refine lv_iconst (v := 1) hx hb dX0_addNeed_31 (by decide) ?_
      refine lv_icmp_eq (tgt := 48) hx hb dX0_addNeed_32 (by decide) (fun c_3363 => ?_) (fun c_3363 => ?_)
      · have c_3363 : v_3362.toInt = 1 := by rw [ka_eq', show ((1 : Int32)).toInt = 1 from by decide] at c_3363; exact c_3363
        refine lv_iconst (v := 0) hx hb dX0_addNeed_48 (by decide) ?_
        exact ka_rEz C hr hlk rfl (Nat.le_of_ble_eq_true rfl) (Nat.le_of_ble_eq_true rfl) hS (ka_qE (f0, 0) rfl (show 0 ≤ ((0 : Int32)).toInt ∧ ((0 : Int32)).toInt ≤ 1 from ⟨by decide, by decide⟩) hK hP hD hS [0, 1] (by decide) rfl [] rfl) dX0_addNeed_49
      · have c_3363 : ¬ v_3362.toInt = 1 := by rw [ka_eq', show ((1 : Int32)).toInt = 1 from by decide] at c_3363; exact c_3363
        refine lv_aload_n hx hb dX0_addNeed_35 rfl (lv_at hl 0 rfl) ?_
        refine lv_iload_n hx hb dX0_addNeed_36 rfl (lv_at hl 2 rfl) ?_
        refine ka_RV (n := 1) C (cg_X0_neededInTheEnd_35 l D F a0 a1 a2 x2 k0 f0) gX0_addNeed_X0_neededInTheEnd rfl (by decide +kernel) ⟨Nat.le_of_ble_eq_true rfl, Nat.le_of_ble_eq_true rfl⟩ hK hP hS hE hN [0, 1] rfl [0] rfl (ci := 0) rfl rfl 0 rfl rfl hl.1 (rest := []) rfl (Nat.le_of_ble_eq_true rfl) dX0_addNeed_37 ⟨Nat.le_of_ble_eq_true rfl, Nat.le_of_ble_eq_true rfl⟩ (fun v hv => ?_)
        obtain ⟨v_3364, rfl⟩ := hv
        have rv_3364 := ka_rng v_3364
        refine ka_stk (w := [.int v_3364]) rfl ?_
        refine lv_iload_n hx hb dX0_addNeed_40 rfl (lv_at hl 1 rfl) ?_
        refine ka_RN (n := 2) C (ka_c_bitAt l D F v_3364 2) gX0_addNeed_X6_bitAt_n30 rfl hN.2.2.2.1 lq_74 lq_75 (by decide +kernel) ⟨Nat.le_of_ble_eq_true rfl, Nat.le_of_ble_eq_true rfl⟩ hK hP hS hE hN [] rfl [] rfl rfl hl.1 (rest := []) rfl (Nat.le_of_ble_eq_true rfl) dX0_addNeed_41 ⟨Nat.le_of_ble_eq_true rfl, Nat.le_of_ble_eq_true rfl⟩ (fun v hv => ?_)
        subst hv
        refine ka_stk (w := .int (ka_bit v_3364 2) :: []) rfl ?_
        refine lv_topi (fun v_3365 ev_3365 => ?_)
        have fv_3365 := ka_bit_in v_3364 2; rw [← ev_3365] at fv_3365
        refine lv_iconst (v := 1) hx hb dX0_addNeed_44 (by decide) ?_
        refine lv_icmp_ne (tgt := 50) hx hb dX0_addNeed_45 (by decide) (fun c_3366 => ?_) (fun c_3366 => ?_)
        · have c_3366 : ¬ v_3365.toInt = 1 := by rw [ka_eq', show ((1 : Int32)).toInt = 1 from by decide] at c_3366; exact c_3366
          refine lv_aload_n hx hb dX0_addNeed_50 rfl (lv_at hl 0 rfl) ?_
          refine ka_get C lq_72 rfl hK hP 0 rfl 1 (by decide) lq_73 rfl dX0_addNeed_51 ?_
          refine lv_iload_n hx hb dX0_addNeed_54 rfl (lv_at hl 1 rfl) ?_
          refine lv_dup2_11 hx hb dX0_addNeed_55 rfl rfl ?_
          refine va_iald hx hb hK hP 1 0 rfl rfl (ka_in (by decide) (by decide)) dX0_addNeed_56 ?_
          refine lv_topi (fun v_3367 ev_3367 => ?_)
          refine lv_iconst (v := 1) hx hb dX0_addNeed_57 (by decide) ?_
          refine lv_iload_n hx hb dX0_addNeed_58 rfl (lv_at hl 2 rfl) ?_
          refine lv_ishl hx hb dX0_addNeed_59 ?_
          refine ka_top (w := .int 16) (congrArg Value.int (by decide)) ?_
          refine lv_ior hx hb dX0_addNeed_60 ?_
          refine lv_topi (fun v_3368 ev_3368 => ?_)
          refine va_iast hx hb hK hP hD hS 1 0 rfl rfl (ka_in (by decide) (by decide)) dX0_addNeed_61 (fun H locs hP hD hS => ?_)
          have hP : va_P D vwCl [(a0, .inr (0, [.ref a1, .ref a2, .int x2])), (a2, .inl (k0, 6, .inl (upd f0 (Int32.toNatClampNeg 2) v_3368)))] H := hP
          have hD : va_D A [(a0, .inr (0, [.ref a1, .ref a2, .int x2])), (a2, .inl (k0, 6, .inl (upd f0 (Int32.toNatClampNeg 2) v_3368)))] := hD
          generalize (upd f0 (Int32.toNatClampNeg 2) v_3368) = g_3369 at hP hD
          refine lv_iconst (v := 1) hx hb dX0_addNeed_62 (by decide) ?_
          exact ka_rEz C hr hlk rfl (Nat.le_of_ble_eq_true rfl) (Nat.le_of_ble_eq_true rfl) hS (ka_qE (g_3369, 1) rfl (show 0 ≤ ((1 : Int32)).toInt ∧ ((1 : Int32)).toInt ≤ 1 from ⟨by decide, by decide⟩) hK hP hD hS [0, 1] (by decide) rfl [] rfl) dX0_addNeed_63
        · have c_3366 : v_3365.toInt = 1 := by rw [ka_eq', show ((1 : Int32)).toInt = 1 from by decide] at c_3366; exact c_3366
          refine lv_iconst (v := 0) hx hb dX0_addNeed_48 (by decide) ?_
          exact ka_rEz C hr hlk rfl (Nat.le_of_ble_eq_true rfl) (Nat.le_of_ble_eq_true rfl) hS (ka_qE (f0, 0) rfl (show 0 ≤ ((0 : Int32)).toInt ∧ ((0 : Int32)).toInt ≤ 1 from ⟨by decide, by decide⟩) hK hP hD hS [0, 1] (by decide) rfl [] rfl) dX0_addNeed_49
    · obtain rfl : x1 = 5 := (ka_eq' _ _).mpr (y_3333.trans (by decide))
      refine lv_iload_n hx hb dX0_addNeed_0 rfl (lv_at hl 1 rfl) ?_
      refine ka_RS (n := 1) C (cg_X0_isLesson_24 l D F ) gX0_addNeed_X0_isLesson rfl (by decide +kernel) ⟨Nat.le_of_ble_eq_true rfl, Nat.le_of_ble_eq_true rfl⟩ hK hP hS hE hN [] rfl [] rfl rfl hl.1 (rest := []) rfl (Nat.le_of_ble_eq_true rfl) dX0_addNeed_1 ⟨Nat.le_of_ble_eq_true rfl, Nat.le_of_ble_eq_true rfl⟩ (fun v hv => ?_)
      subst hv
      refine ka_stk (w := [.int 1]) rfl ?_
      refine lv_if_eq (tgt := 19) hx hb dX0_addNeed_4 (by decide) (fun c_ => absurd c_ (by decide)) (fun _ => ?_)
      refine lv_iload_n hx hb dX0_addNeed_7 rfl (lv_at hl 2 rfl) ?_
      refine ka_RS (n := 1) C (cg_X0_isLesson_27 l D F ) gX0_addNeed_X0_isLesson rfl (by decide +kernel) ⟨Nat.le_of_ble_eq_true rfl, Nat.le_of_ble_eq_true rfl⟩ hK hP hS hE hN [] rfl [] rfl rfl hl.1 (rest := []) rfl (Nat.le_of_ble_eq_true rfl) dX0_addNeed_8 ⟨Nat.le_of_ble_eq_true rfl, Nat.le_of_ble_eq_true rfl⟩ (fun v hv => ?_)
      subst hv
      refine ka_stk (w := [.int 1]) rfl ?_
      refine lv_if_eq (tgt := 19) hx hb dX0_addNeed_11 (by decide) (fun c_ => absurd c_ (by decide)) (fun _ => ?_)
      refine lv_iload_n hx hb dX0_addNeed_14 rfl (lv_at hl 1 rfl) ?_
      refine lv_iload_n hx hb dX0_addNeed_15 rfl (lv_at hl 2 rfl) ?_
      refine lv_icmp_ne (tgt := 21) hx hb dX0_addNeed_16 (by decide) (fun _ => ?_) (fun c_ => absurd c_ (by decide))
      refine lv_aload_n hx hb dX0_addNeed_21 rfl (lv_at hl 0 rfl) ?_
      refine ka_get C lq_72 rfl hK hP 0 rfl 1 (by decide) lq_73 rfl dX0_addNeed_22 ?_
      refine lv_iload_n hx hb dX0_addNeed_25 rfl (lv_at hl 1 rfl) ?_
      refine va_iald hx hb hK hP 1 0 rfl rfl (ka_in (by decide) (by decide)) dX0_addNeed_26 ?_
      refine lv_topi (fun v_3370 ev_3370 => ?_)
      refine lv_iload_n hx hb dX0_addNeed_27 rfl (lv_at hl 2 rfl) ?_
      refine ka_RN (n := 2) C (ka_c_bitAt l D F v_3370 5) gX0_addNeed_X6_bitAt_n30 rfl hN.2.2.2.1 lq_74 lq_75 (by decide +kernel) ⟨Nat.le_of_ble_eq_true rfl, Nat.le_of_ble_eq_true rfl⟩ hK hP hS hE hN [] rfl [] rfl rfl hl.1 (rest := []) rfl (Nat.le_of_ble_eq_true rfl) dX0_addNeed_28 ⟨Nat.le_of_ble_eq_true rfl, Nat.le_of_ble_eq_true rfl⟩ (fun v hv => ?_)
      subst hv
      refine ka_stk (w := .int (ka_bit v_3370 5) :: []) rfl ?_
      refine lv_topi (fun v_3371 ev_3371 => ?_)
      have fv_3371 := ka_bit_in v_3370 5; rw [← ev_3371] at fv_3371
      refine lv_iconst (v := 1) hx hb dX0_addNeed_31 (by decide) ?_
      refine lv_icmp_eq (tgt := 48) hx hb dX0_addNeed_32 (by decide) (fun c_3372 => ?_) (fun c_3372 => ?_)
      · have c_3372 : v_3371.toInt = 1 := by rw [ka_eq', show ((1 : Int32)).toInt = 1 from by decide] at c_3372; exact c_3372
        refine lv_iconst (v := 0) hx hb dX0_addNeed_48 (by decide) ?_
        exact ka_rEz C hr hlk rfl (Nat.le_of_ble_eq_true rfl) (Nat.le_of_ble_eq_true rfl) hS (ka_qE (f0, 0) rfl (show 0 ≤ ((0 : Int32)).toInt ∧ ((0 : Int32)).toInt ≤ 1 from ⟨by decide, by decide⟩) hK hP hD hS [0, 1] (by decide) rfl [] rfl) dX0_addNeed_49
      · have c_3372 : ¬ v_3371.toInt = 1 := by rw [ka_eq', show ((1 : Int32)).toInt = 1 from by decide] at c_3372; exact c_3372
        refine lv_aload_n hx hb dX0_addNeed_35 rfl (lv_at hl 0 rfl) ?_
        refine lv_iload_n hx hb dX0_addNeed_36 rfl (lv_at hl 2 rfl) ?_
        refine ka_RV (n := 1) C (cg_X0_neededInTheEnd_36 l D F a0 a1 a2 x2 k0 f0) gX0_addNeed_X0_neededInTheEnd rfl (by decide +kernel) ⟨Nat.le_of_ble_eq_true rfl, Nat.le_of_ble_eq_true rfl⟩ hK hP hS hE hN [0, 1] rfl [0] rfl (ci := 0) rfl rfl 0 rfl rfl hl.1 (rest := []) rfl (Nat.le_of_ble_eq_true rfl) dX0_addNeed_37 ⟨Nat.le_of_ble_eq_true rfl, Nat.le_of_ble_eq_true rfl⟩ (fun v hv => ?_)
        obtain ⟨v_3373, rfl⟩ := hv
        have rv_3373 := ka_rng v_3373
        refine ka_stk (w := [.int v_3373]) rfl ?_
        refine lv_iload_n hx hb dX0_addNeed_40 rfl (lv_at hl 1 rfl) ?_
        refine ka_RN (n := 2) C (ka_c_bitAt l D F v_3373 2) gX0_addNeed_X6_bitAt_n30 rfl hN.2.2.2.1 lq_74 lq_75 (by decide +kernel) ⟨Nat.le_of_ble_eq_true rfl, Nat.le_of_ble_eq_true rfl⟩ hK hP hS hE hN [] rfl [] rfl rfl hl.1 (rest := []) rfl (Nat.le_of_ble_eq_true rfl) dX0_addNeed_41 ⟨Nat.le_of_ble_eq_true rfl, Nat.le_of_ble_eq_true rfl⟩ (fun v hv => ?_)
        subst hv
        refine ka_stk (w := .int (ka_bit v_3373 2) :: []) rfl ?_
        refine lv_topi (fun v_3374 ev_3374 => ?_)
        have fv_3374 := ka_bit_in v_3373 2; rw [← ev_3374] at fv_3374
        refine lv_iconst (v := 1) hx hb dX0_addNeed_44 (by decide) ?_
        refine lv_icmp_ne (tgt := 50) hx hb dX0_addNeed_45 (by decide) (fun c_3375 => ?_) (fun c_3375 => ?_)
        · have c_3375 : ¬ v_3374.toInt = 1 := by rw [ka_eq', show ((1 : Int32)).toInt = 1 from by decide] at c_3375; exact c_3375
          refine lv_aload_n hx hb dX0_addNeed_50 rfl (lv_at hl 0 rfl) ?_
          refine ka_get C lq_72 rfl hK hP 0 rfl 1 (by decide) lq_73 rfl dX0_addNeed_51 ?_
          refine lv_iload_n hx hb dX0_addNeed_54 rfl (lv_at hl 1 rfl) ?_
          refine lv_dup2_11 hx hb dX0_addNeed_55 rfl rfl ?_
          refine va_iald hx hb hK hP 1 0 rfl rfl (ka_in (by decide) (by decide)) dX0_addNeed_56 ?_
          refine lv_topi (fun v_3376 ev_3376 => ?_)
          refine lv_iconst (v := 1) hx hb dX0_addNeed_57 (by decide) ?_
          refine lv_iload_n hx hb dX0_addNeed_58 rfl (lv_at hl 2 rfl) ?_
          refine lv_ishl hx hb dX0_addNeed_59 ?_
          refine ka_top (w := .int 32) (congrArg Value.int (by decide)) ?_
          refine lv_ior hx hb dX0_addNeed_60 ?_
          refine lv_topi (fun v_3377 ev_3377 => ?_)
          refine va_iast hx hb hK hP hD hS 1 0 rfl rfl (ka_in (by decide) (by decide)) dX0_addNeed_61 (fun H locs hP hD hS => ?_)
          have hP : va_P D vwCl [(a0, .inr (0, [.ref a1, .ref a2, .int x2])), (a2, .inl (k0, 6, .inl (upd f0 (Int32.toNatClampNeg 2) v_3377)))] H := hP
          have hD : va_D A [(a0, .inr (0, [.ref a1, .ref a2, .int x2])), (a2, .inl (k0, 6, .inl (upd f0 (Int32.toNatClampNeg 2) v_3377)))] := hD
          generalize (upd f0 (Int32.toNatClampNeg 2) v_3377) = g_3378 at hP hD
          refine lv_iconst (v := 1) hx hb dX0_addNeed_62 (by decide) ?_
          exact ka_rEz C hr hlk rfl (Nat.le_of_ble_eq_true rfl) (Nat.le_of_ble_eq_true rfl) hS (ka_qE (g_3378, 1) rfl (show 0 ≤ ((1 : Int32)).toInt ∧ ((1 : Int32)).toInt ≤ 1 from ⟨by decide, by decide⟩) hK hP hD hS [0, 1] (by decide) rfl [] rfl) dX0_addNeed_63
        · have c_3375 : v_3374.toInt = 1 := by rw [ka_eq', show ((1 : Int32)).toInt = 1 from by decide] at c_3375; exact c_3375
          refine lv_iconst (v := 0) hx hb dX0_addNeed_48 (by decide) ?_
          exact ka_rEz C hr hlk rfl (Nat.le_of_ble_eq_true rfl) (Nat.le_of_ble_eq_true rfl) hS (ka_qE (f0, 0) rfl (show 0 ≤ ((0 : Int32)).toInt ∧ ((0 : Int32)).toInt ≤ 1 from ⟨by decide, by decide⟩) hK hP hD hS [0, 1] (by decide) rfl [] rfl) dX0_addNeed_49
    · skip
      refine lv_iload_n hx hb dX0_addNeed_0 rfl (lv_at hl 1 rfl) ?_
      refine ka_RS (n := 1) C (cg_X0_isLesson_24 l D F ) gX0_addNeed_X0_isLesson rfl (by decide +kernel) ⟨Nat.le_of_ble_eq_true rfl, Nat.le_of_ble_eq_true rfl⟩ hK hP hS hE hN [] rfl [] rfl rfl hl.1 (rest := []) rfl (Nat.le_of_ble_eq_true rfl) dX0_addNeed_1 ⟨Nat.le_of_ble_eq_true rfl, Nat.le_of_ble_eq_true rfl⟩ (fun v hv => ?_)
      subst hv
      refine ka_stk (w := [.int 1]) rfl ?_
      refine lv_if_eq (tgt := 19) hx hb dX0_addNeed_4 (by decide) (fun c_ => absurd c_ (by decide)) (fun _ => ?_)
      refine lv_iload_n hx hb dX0_addNeed_7 rfl (lv_at hl 2 rfl) ?_
      refine ka_RS (n := 1) C (cg_X0_isLesson_28 l D F x1 (by omega)) gX0_addNeed_X0_isLesson rfl (by decide +kernel) ⟨Nat.le_of_ble_eq_true rfl, Nat.le_of_ble_eq_true rfl⟩ hK hP hS hE hN [] rfl [] rfl rfl hl.1 (rest := []) rfl (Nat.le_of_ble_eq_true rfl) dX0_addNeed_8 ⟨Nat.le_of_ble_eq_true rfl, Nat.le_of_ble_eq_true rfl⟩ (fun v hv => ?_)
      subst hv
      refine ka_stk (w := [.int 0]) rfl ?_
      refine lv_if_eq (tgt := 19) hx hb dX0_addNeed_11 (by decide) (fun _ => ?_) (fun c_ => absurd (by decide) c_)
      refine lv_iconst (v := 0) hx hb dX0_addNeed_19 (by decide) ?_
      exact ka_rEz C hr hlk rfl (Nat.le_of_ble_eq_true rfl) (Nat.le_of_ble_eq_true rfl) hS (ka_qE (f0, 0) rfl (show 0 ≤ ((0 : Int32)).toInt ∧ ((0 : Int32)).toInt ≤ 1 from ⟨by decide, by decide⟩) hK hP hD hS [0, 1] (by decide) rfl [] rfl) dX0_addNeed_20
  · obtain rfl : x0 = 3 := (ka_eq' _ _).mpr (y_3239.trans (by decide))
    rcases (show x1.toInt ≤ -1 ∨ x1.toInt = 0 ∨ x1.toInt = 1 ∨ x1.toInt = 2 ∨ x1.toInt = 3 ∨ x1.toInt = 4 ∨ x1.toInt = 5 ∨ 6 ≤ x1.toInt by omega) with y_3379 | y_3379 | y_3379 | y_3379 | y_3379 | y_3379 | y_3379 | y_3379
    · skip
      refine lv_iload_n hx hb dX0_addNeed_0 rfl (lv_at hl 1 rfl) ?_
      refine ka_RS (n := 1) C (cg_X0_isLesson_25 l D F ) gX0_addNeed_X0_isLesson rfl (by decide +kernel) ⟨Nat.le_of_ble_eq_true rfl, Nat.le_of_ble_eq_true rfl⟩ hK hP hS hE hN [] rfl [] rfl rfl hl.1 (rest := []) rfl (Nat.le_of_ble_eq_true rfl) dX0_addNeed_1 ⟨Nat.le_of_ble_eq_true rfl, Nat.le_of_ble_eq_true rfl⟩ (fun v hv => ?_)
      subst hv
      refine ka_stk (w := [.int 1]) rfl ?_
      refine lv_if_eq (tgt := 19) hx hb dX0_addNeed_4 (by decide) (fun c_ => absurd c_ (by decide)) (fun _ => ?_)
      refine lv_iload_n hx hb dX0_addNeed_7 rfl (lv_at hl 2 rfl) ?_
      refine ka_RS (n := 1) C (cg_X0_isLesson_21 l D F x1 (by omega)) gX0_addNeed_X0_isLesson rfl (by decide +kernel) ⟨Nat.le_of_ble_eq_true rfl, Nat.le_of_ble_eq_true rfl⟩ hK hP hS hE hN [] rfl [] rfl rfl hl.1 (rest := []) rfl (Nat.le_of_ble_eq_true rfl) dX0_addNeed_8 ⟨Nat.le_of_ble_eq_true rfl, Nat.le_of_ble_eq_true rfl⟩ (fun v hv => ?_)
      subst hv
      refine ka_stk (w := [.int 0]) rfl ?_
      refine lv_if_eq (tgt := 19) hx hb dX0_addNeed_11 (by decide) (fun _ => ?_) (fun c_ => absurd (by decide) c_)
      refine lv_iconst (v := 0) hx hb dX0_addNeed_19 (by decide) ?_
      exact ka_rEz C hr hlk rfl (Nat.le_of_ble_eq_true rfl) (Nat.le_of_ble_eq_true rfl) hS (ka_qE (f0, 0) rfl (show 0 ≤ ((0 : Int32)).toInt ∧ ((0 : Int32)).toInt ≤ 1 from ⟨by decide, by decide⟩) hK hP hD hS [0, 1] (by decide) rfl [] rfl) dX0_addNeed_20
    · obtain rfl : x1 = 0 := (ka_eq' _ _).mpr (y_3379.trans (by decide))
      refine lv_iload_n hx hb dX0_addNeed_0 rfl (lv_at hl 1 rfl) ?_
      refine ka_RS (n := 1) C (cg_X0_isLesson_25 l D F ) gX0_addNeed_X0_isLesson rfl (by decide +kernel) ⟨Nat.le_of_ble_eq_true rfl, Nat.le_of_ble_eq_true rfl⟩ hK hP hS hE hN [] rfl [] rfl rfl hl.1 (rest := []) rfl (Nat.le_of_ble_eq_true rfl) dX0_addNeed_1 ⟨Nat.le_of_ble_eq_true rfl, Nat.le_of_ble_eq_true rfl⟩ (fun v hv => ?_)
      subst hv
      refine ka_stk (w := [.int 1]) rfl ?_
      refine lv_if_eq (tgt := 19) hx hb dX0_addNeed_4 (by decide) (fun c_ => absurd c_ (by decide)) (fun _ => ?_)
      refine lv_iload_n hx hb dX0_addNeed_7 rfl (lv_at hl 2 rfl) ?_
      refine ka_RS (n := 1) C (cg_X0_isLesson_22 l D F ) gX0_addNeed_X0_isLesson rfl (by decide +kernel) ⟨Nat.le_of_ble_eq_true rfl, Nat.le_of_ble_eq_true rfl⟩ hK hP hS hE hN [] rfl [] rfl rfl hl.1 (rest := []) rfl (Nat.le_of_ble_eq_true rfl) dX0_addNeed_8 ⟨Nat.le_of_ble_eq_true rfl, Nat.le_of_ble_eq_true rfl⟩ (fun v hv => ?_)
      subst hv
      refine ka_stk (w := [.int 1]) rfl ?_
      refine lv_if_eq (tgt := 19) hx hb dX0_addNeed_11 (by decide) (fun c_ => absurd c_ (by decide)) (fun _ => ?_)
      refine lv_iload_n hx hb dX0_addNeed_14 rfl (lv_at hl 1 rfl) ?_
      refine lv_iload_n hx hb dX0_addNeed_15 rfl (lv_at hl 2 rfl) ?_
      refine lv_icmp_ne (tgt := 21) hx hb dX0_addNeed_16 (by decide) (fun _ => ?_) (fun c_ => absurd c_ (by decide))
      refine lv_aload_n hx hb dX0_addNeed_21 rfl (lv_at hl 0 rfl) ?_
      refine ka_get C lq_72 rfl hK hP 0 rfl 1 (by decide) lq_73 rfl dX0_addNeed_22 ?_
      refine lv_iload_n hx hb dX0_addNeed_25 rfl (lv_at hl 1 rfl) ?_
      refine va_iald hx hb hK hP 1 0 rfl rfl (ka_in (by decide) (by decide)) dX0_addNeed_26 ?_
      refine lv_topi (fun v_3380 ev_3380 => ?_)
      refine lv_iload_n hx hb dX0_addNeed_27 rfl (lv_at hl 2 rfl) ?_
      refine ka_RN (n := 2) C (ka_c_bitAt l D F v_3380 0) gX0_addNeed_X6_bitAt_n30 rfl hN.2.2.2.1 lq_74 lq_75 (by decide +kernel) ⟨Nat.le_of_ble_eq_true rfl, Nat.le_of_ble_eq_true rfl⟩ hK hP hS hE hN [] rfl [] rfl rfl hl.1 (rest := []) rfl (Nat.le_of_ble_eq_true rfl) dX0_addNeed_28 ⟨Nat.le_of_ble_eq_true rfl, Nat.le_of_ble_eq_true rfl⟩ (fun v hv => ?_)
      subst hv
      refine ka_stk (w := .int (ka_bit v_3380 0) :: []) rfl ?_
      refine lv_topi (fun v_3381 ev_3381 => ?_)
      have fv_3381 := ka_bit_in v_3380 0; rw [← ev_3381] at fv_3381
      refine lv_iconst (v := 1) hx hb dX0_addNeed_31 (by decide) ?_
      refine lv_icmp_eq (tgt := 48) hx hb dX0_addNeed_32 (by decide) (fun c_3382 => ?_) (fun c_3382 => ?_)
      · have c_3382 : v_3381.toInt = 1 := by rw [ka_eq', show ((1 : Int32)).toInt = 1 from by decide] at c_3382; exact c_3382
        refine lv_iconst (v := 0) hx hb dX0_addNeed_48 (by decide) ?_
        exact ka_rEz C hr hlk rfl (Nat.le_of_ble_eq_true rfl) (Nat.le_of_ble_eq_true rfl) hS (ka_qE (f0, 0) rfl (show 0 ≤ ((0 : Int32)).toInt ∧ ((0 : Int32)).toInt ≤ 1 from ⟨by decide, by decide⟩) hK hP hD hS [0, 1] (by decide) rfl [] rfl) dX0_addNeed_49
      · have c_3382 : ¬ v_3381.toInt = 1 := by rw [ka_eq', show ((1 : Int32)).toInt = 1 from by decide] at c_3382; exact c_3382
        refine lv_aload_n hx hb dX0_addNeed_35 rfl (lv_at hl 0 rfl) ?_
        refine lv_iload_n hx hb dX0_addNeed_36 rfl (lv_at hl 2 rfl) ?_
        refine ka_RV (n := 1) C (cg_X0_neededInTheEnd_37 l D F a0 a1 a2 x2 k0 f0) gX0_addNeed_X0_neededInTheEnd rfl (by decide +kernel) ⟨Nat.le_of_ble_eq_true rfl, Nat.le_of_ble_eq_true rfl⟩ hK hP hS hE hN [0, 1] rfl [0] rfl (ci := 0) rfl rfl 0 rfl rfl hl.1 (rest := []) rfl (Nat.le_of_ble_eq_true rfl) dX0_addNeed_37 ⟨Nat.le_of_ble_eq_true rfl, Nat.le_of_ble_eq_true rfl⟩ (fun v hv => ?_)
        obtain ⟨v_3383, rfl⟩ := hv
        have rv_3383 := ka_rng v_3383
        refine ka_stk (w := [.int v_3383]) rfl ?_
        refine lv_iload_n hx hb dX0_addNeed_40 rfl (lv_at hl 1 rfl) ?_
        refine ka_RN (n := 2) C (ka_c_bitAt l D F v_3383 3) gX0_addNeed_X6_bitAt_n30 rfl hN.2.2.2.1 lq_74 lq_75 (by decide +kernel) ⟨Nat.le_of_ble_eq_true rfl, Nat.le_of_ble_eq_true rfl⟩ hK hP hS hE hN [] rfl [] rfl rfl hl.1 (rest := []) rfl (Nat.le_of_ble_eq_true rfl) dX0_addNeed_41 ⟨Nat.le_of_ble_eq_true rfl, Nat.le_of_ble_eq_true rfl⟩ (fun v hv => ?_)
        subst hv
        refine ka_stk (w := .int (ka_bit v_3383 3) :: []) rfl ?_
        refine lv_topi (fun v_3384 ev_3384 => ?_)
        have fv_3384 := ka_bit_in v_3383 3; rw [← ev_3384] at fv_3384
        refine lv_iconst (v := 1) hx hb dX0_addNeed_44 (by decide) ?_
        refine lv_icmp_ne (tgt := 50) hx hb dX0_addNeed_45 (by decide) (fun c_3385 => ?_) (fun c_3385 => ?_)
        · have c_3385 : ¬ v_3384.toInt = 1 := by rw [ka_eq', show ((1 : Int32)).toInt = 1 from by decide] at c_3385; exact c_3385
          refine lv_aload_n hx hb dX0_addNeed_50 rfl (lv_at hl 0 rfl) ?_
          refine ka_get C lq_72 rfl hK hP 0 rfl 1 (by decide) lq_73 rfl dX0_addNeed_51 ?_
          refine lv_iload_n hx hb dX0_addNeed_54 rfl (lv_at hl 1 rfl) ?_
          refine lv_dup2_11 hx hb dX0_addNeed_55 rfl rfl ?_
          refine va_iald hx hb hK hP 1 0 rfl rfl (ka_in (by decide) (by decide)) dX0_addNeed_56 ?_
          refine lv_topi (fun v_3386 ev_3386 => ?_)
          refine lv_iconst (v := 1) hx hb dX0_addNeed_57 (by decide) ?_
          refine lv_iload_n hx hb dX0_addNeed_58 rfl (lv_at hl 2 rfl) ?_
          refine lv_ishl hx hb dX0_addNeed_59 ?_
          refine ka_top (w := .int 1) (congrArg Value.int (by decide)) ?_
          refine lv_ior hx hb dX0_addNeed_60 ?_
          refine lv_topi (fun v_3387 ev_3387 => ?_)
          refine va_iast hx hb hK hP hD hS 1 0 rfl rfl (ka_in (by decide) (by decide)) dX0_addNeed_61 (fun H locs hP hD hS => ?_)
          have hP : va_P D vwCl [(a0, .inr (0, [.ref a1, .ref a2, .int x2])), (a2, .inl (k0, 6, .inl (upd f0 (Int32.toNatClampNeg 3) v_3387)))] H := hP
          have hD : va_D A [(a0, .inr (0, [.ref a1, .ref a2, .int x2])), (a2, .inl (k0, 6, .inl (upd f0 (Int32.toNatClampNeg 3) v_3387)))] := hD
          generalize (upd f0 (Int32.toNatClampNeg 3) v_3387) = g_3388 at hP hD
          refine lv_iconst (v := 1) hx hb dX0_addNeed_62 (by decide) ?_
          exact ka_rEz C hr hlk rfl (Nat.le_of_ble_eq_true rfl) (Nat.le_of_ble_eq_true rfl) hS (ka_qE (g_3388, 1) rfl (show 0 ≤ ((1 : Int32)).toInt ∧ ((1 : Int32)).toInt ≤ 1 from ⟨by decide, by decide⟩) hK hP hD hS [0, 1] (by decide) rfl [] rfl) dX0_addNeed_63
        · have c_3385 : v_3384.toInt = 1 := by rw [ka_eq', show ((1 : Int32)).toInt = 1 from by decide] at c_3385; exact c_3385
          refine lv_iconst (v := 0) hx hb dX0_addNeed_48 (by decide) ?_
          exact ka_rEz C hr hlk rfl (Nat.le_of_ble_eq_true rfl) (Nat.le_of_ble_eq_true rfl) hS (ka_qE (f0, 0) rfl (show 0 ≤ ((0 : Int32)).toInt ∧ ((0 : Int32)).toInt ≤ 1 from ⟨by decide, by decide⟩) hK hP hD hS [0, 1] (by decide) rfl [] rfl) dX0_addNeed_49
    · obtain rfl : x1 = 1 := (ka_eq' _ _).mpr (y_3379.trans (by decide))
      refine lv_iload_n hx hb dX0_addNeed_0 rfl (lv_at hl 1 rfl) ?_
      refine ka_RS (n := 1) C (cg_X0_isLesson_25 l D F ) gX0_addNeed_X0_isLesson rfl (by decide +kernel) ⟨Nat.le_of_ble_eq_true rfl, Nat.le_of_ble_eq_true rfl⟩ hK hP hS hE hN [] rfl [] rfl rfl hl.1 (rest := []) rfl (Nat.le_of_ble_eq_true rfl) dX0_addNeed_1 ⟨Nat.le_of_ble_eq_true rfl, Nat.le_of_ble_eq_true rfl⟩ (fun v hv => ?_)
      subst hv
      refine ka_stk (w := [.int 1]) rfl ?_
      refine lv_if_eq (tgt := 19) hx hb dX0_addNeed_4 (by decide) (fun c_ => absurd c_ (by decide)) (fun _ => ?_)
      refine lv_iload_n hx hb dX0_addNeed_7 rfl (lv_at hl 2 rfl) ?_
      refine ka_RS (n := 1) C (cg_X0_isLesson_23 l D F ) gX0_addNeed_X0_isLesson rfl (by decide +kernel) ⟨Nat.le_of_ble_eq_true rfl, Nat.le_of_ble_eq_true rfl⟩ hK hP hS hE hN [] rfl [] rfl rfl hl.1 (rest := []) rfl (Nat.le_of_ble_eq_true rfl) dX0_addNeed_8 ⟨Nat.le_of_ble_eq_true rfl, Nat.le_of_ble_eq_true rfl⟩ (fun v hv => ?_)
      subst hv
      refine ka_stk (w := [.int 1]) rfl ?_
      refine lv_if_eq (tgt := 19) hx hb dX0_addNeed_11 (by decide) (fun c_ => absurd c_ (by decide)) (fun _ => ?_)
      refine lv_iload_n hx hb dX0_addNeed_14 rfl (lv_at hl 1 rfl) ?_
      refine lv_iload_n hx hb dX0_addNeed_15 rfl (lv_at hl 2 rfl) ?_
      refine lv_icmp_ne (tgt := 21) hx hb dX0_addNeed_16 (by decide) (fun _ => ?_) (fun c_ => absurd c_ (by decide))
      refine lv_aload_n hx hb dX0_addNeed_21 rfl (lv_at hl 0 rfl) ?_
      refine ka_get C lq_72 rfl hK hP 0 rfl 1 (by decide) lq_73 rfl dX0_addNeed_22 ?_
      refine lv_iload_n hx hb dX0_addNeed_25 rfl (lv_at hl 1 rfl) ?_
      refine va_iald hx hb hK hP 1 0 rfl rfl (ka_in (by decide) (by decide)) dX0_addNeed_26 ?_
      refine lv_topi (fun v_3389 ev_3389 => ?_)
      refine lv_iload_n hx hb dX0_addNeed_27 rfl (lv_at hl 2 rfl) ?_
      refine ka_RN (n := 2) C (ka_c_bitAt l D F v_3389 1) gX0_addNeed_X6_bitAt_n30 rfl hN.2.2.2.1 lq_74 lq_75 (by decide +kernel) ⟨Nat.le_of_ble_eq_true rfl, Nat.le_of_ble_eq_true rfl⟩ hK hP hS hE hN [] rfl [] rfl rfl hl.1 (rest := []) rfl (Nat.le_of_ble_eq_true rfl) dX0_addNeed_28 ⟨Nat.le_of_ble_eq_true rfl, Nat.le_of_ble_eq_true rfl⟩ (fun v hv => ?_)
      subst hv
      refine ka_stk (w := .int (ka_bit v_3389 1) :: []) rfl ?_
      refine lv_topi (fun v_3390 ev_3390 => ?_)
      have fv_3390 := ka_bit_in v_3389 1; rw [← ev_3390] at fv_3390
      refine lv_iconst (v := 1) hx hb dX0_addNeed_31 (by decide) ?_
      refine lv_icmp_eq (tgt := 48) hx hb dX0_addNeed_32 (by decide) (fun c_3391 => ?_) (fun c_3391 => ?_)
      · have c_3391 : v_3390.toInt = 1 := by rw [ka_eq', show ((1 : Int32)).toInt = 1 from by decide] at c_3391; exact c_3391
        refine lv_iconst (v := 0) hx hb dX0_addNeed_48 (by decide) ?_
        exact ka_rEz C hr hlk rfl (Nat.le_of_ble_eq_true rfl) (Nat.le_of_ble_eq_true rfl) hS (ka_qE (f0, 0) rfl (show 0 ≤ ((0 : Int32)).toInt ∧ ((0 : Int32)).toInt ≤ 1 from ⟨by decide, by decide⟩) hK hP hD hS [0, 1] (by decide) rfl [] rfl) dX0_addNeed_49
      · have c_3391 : ¬ v_3390.toInt = 1 := by rw [ka_eq', show ((1 : Int32)).toInt = 1 from by decide] at c_3391; exact c_3391
        refine lv_aload_n hx hb dX0_addNeed_35 rfl (lv_at hl 0 rfl) ?_
        refine lv_iload_n hx hb dX0_addNeed_36 rfl (lv_at hl 2 rfl) ?_
        refine ka_RV (n := 1) C (cg_X0_neededInTheEnd_32 l D F a0 a1 a2 x2 k0 f0) gX0_addNeed_X0_neededInTheEnd rfl (by decide +kernel) ⟨Nat.le_of_ble_eq_true rfl, Nat.le_of_ble_eq_true rfl⟩ hK hP hS hE hN [0, 1] rfl [0] rfl (ci := 0) rfl rfl 0 rfl rfl hl.1 (rest := []) rfl (Nat.le_of_ble_eq_true rfl) dX0_addNeed_37 ⟨Nat.le_of_ble_eq_true rfl, Nat.le_of_ble_eq_true rfl⟩ (fun v hv => ?_)
        obtain ⟨v_3392, rfl⟩ := hv
        have rv_3392 := ka_rng v_3392
        refine ka_stk (w := [.int v_3392]) rfl ?_
        refine lv_iload_n hx hb dX0_addNeed_40 rfl (lv_at hl 1 rfl) ?_
        refine ka_RN (n := 2) C (ka_c_bitAt l D F v_3392 3) gX0_addNeed_X6_bitAt_n30 rfl hN.2.2.2.1 lq_74 lq_75 (by decide +kernel) ⟨Nat.le_of_ble_eq_true rfl, Nat.le_of_ble_eq_true rfl⟩ hK hP hS hE hN [] rfl [] rfl rfl hl.1 (rest := []) rfl (Nat.le_of_ble_eq_true rfl) dX0_addNeed_41 ⟨Nat.le_of_ble_eq_true rfl, Nat.le_of_ble_eq_true rfl⟩ (fun v hv => ?_)
        subst hv
        refine ka_stk (w := .int (ka_bit v_3392 3) :: []) rfl ?_
        refine lv_topi (fun v_3393 ev_3393 => ?_)
        have fv_3393 := ka_bit_in v_3392 3; rw [← ev_3393] at fv_3393
        refine lv_iconst (v := 1) hx hb dX0_addNeed_44 (by decide) ?_
        refine lv_icmp_ne (tgt := 50) hx hb dX0_addNeed_45 (by decide) (fun c_3394 => ?_) (fun c_3394 => ?_)
        · have c_3394 : ¬ v_3393.toInt = 1 := by rw [ka_eq', show ((1 : Int32)).toInt = 1 from by decide] at c_3394; exact c_3394
          refine lv_aload_n hx hb dX0_addNeed_50 rfl (lv_at hl 0 rfl) ?_
          refine ka_get C lq_72 rfl hK hP 0 rfl 1 (by decide) lq_73 rfl dX0_addNeed_51 ?_
          refine lv_iload_n hx hb dX0_addNeed_54 rfl (lv_at hl 1 rfl) ?_
          refine lv_dup2_11 hx hb dX0_addNeed_55 rfl rfl ?_
          refine va_iald hx hb hK hP 1 0 rfl rfl (ka_in (by decide) (by decide)) dX0_addNeed_56 ?_
          refine lv_topi (fun v_3395 ev_3395 => ?_)
          refine lv_iconst (v := 1) hx hb dX0_addNeed_57 (by decide) ?_
          refine lv_iload_n hx hb dX0_addNeed_58 rfl (lv_at hl 2 rfl) ?_
          refine lv_ishl hx hb dX0_addNeed_59 ?_
          refine ka_top (w := .int 2) (congrArg Value.int (by decide)) ?_
          refine lv_ior hx hb dX0_addNeed_60 ?_
          refine lv_topi (fun v_3396 ev_3396 => ?_)
          refine va_iast hx hb hK hP hD hS 1 0 rfl rfl (ka_in (by decide) (by decide)) dX0_addNeed_61 (fun H locs hP hD hS => ?_)
          have hP : va_P D vwCl [(a0, .inr (0, [.ref a1, .ref a2, .int x2])), (a2, .inl (k0, 6, .inl (upd f0 (Int32.toNatClampNeg 3) v_3396)))] H := hP
          have hD : va_D A [(a0, .inr (0, [.ref a1, .ref a2, .int x2])), (a2, .inl (k0, 6, .inl (upd f0 (Int32.toNatClampNeg 3) v_3396)))] := hD
          generalize (upd f0 (Int32.toNatClampNeg 3) v_3396) = g_3397 at hP hD
          refine lv_iconst (v := 1) hx hb dX0_addNeed_62 (by decide) ?_
          exact ka_rEz C hr hlk rfl (Nat.le_of_ble_eq_true rfl) (Nat.le_of_ble_eq_true rfl) hS (ka_qE (g_3397, 1) rfl (show 0 ≤ ((1 : Int32)).toInt ∧ ((1 : Int32)).toInt ≤ 1 from ⟨by decide, by decide⟩) hK hP hD hS [0, 1] (by decide) rfl [] rfl) dX0_addNeed_63
        · have c_3394 : v_3393.toInt = 1 := by rw [ka_eq', show ((1 : Int32)).toInt = 1 from by decide] at c_3394; exact c_3394
          refine lv_iconst (v := 0) hx hb dX0_addNeed_48 (by decide) ?_
          exact ka_rEz C hr hlk rfl (Nat.le_of_ble_eq_true rfl) (Nat.le_of_ble_eq_true rfl) hS (ka_qE (f0, 0) rfl (show 0 ≤ ((0 : Int32)).toInt ∧ ((0 : Int32)).toInt ≤ 1 from ⟨by decide, by decide⟩) hK hP hD hS [0, 1] (by decide) rfl [] rfl) dX0_addNeed_49
    · obtain rfl : x1 = 2 := (ka_eq' _ _).mpr (y_3379.trans (by decide))
      refine lv_iload_n hx hb dX0_addNeed_0 rfl (lv_at hl 1 rfl) ?_
      refine ka_RS (n := 1) C (cg_X0_isLesson_25 l D F ) gX0_addNeed_X0_isLesson rfl (by decide +kernel) ⟨Nat.le_of_ble_eq_true rfl, Nat.le_of_ble_eq_true rfl⟩ hK hP hS hE hN [] rfl [] rfl rfl hl.1 (rest := []) rfl (Nat.le_of_ble_eq_true rfl) dX0_addNeed_1 ⟨Nat.le_of_ble_eq_true rfl, Nat.le_of_ble_eq_true rfl⟩ (fun v hv => ?_)
      subst hv
      refine ka_stk (w := [.int 1]) rfl ?_
      refine lv_if_eq (tgt := 19) hx hb dX0_addNeed_4 (by decide) (fun c_ => absurd c_ (by decide)) (fun _ => ?_)
      refine lv_iload_n hx hb dX0_addNeed_7 rfl (lv_at hl 2 rfl) ?_
      refine ka_RS (n := 1) C (cg_X0_isLesson_24 l D F ) gX0_addNeed_X0_isLesson rfl (by decide +kernel) ⟨Nat.le_of_ble_eq_true rfl, Nat.le_of_ble_eq_true rfl⟩ hK hP hS hE hN [] rfl [] rfl rfl hl.1 (rest := []) rfl (Nat.le_of_ble_eq_true rfl) dX0_addNeed_8 ⟨Nat.le_of_ble_eq_true rfl, Nat.le_of_ble_eq_true rfl⟩ (fun v hv => ?_)
      subst hv
      refine ka_stk (w := [.int 1]) rfl ?_
      refine lv_if_eq (tgt := 19) hx hb dX0_addNeed_11 (by decide) (fun c_ => absurd c_ (by decide)) (fun _ => ?_)
      refine lv_iload_n hx hb dX0_addNeed_14 rfl (lv_at hl 1 rfl) ?_
      refine lv_iload_n hx hb dX0_addNeed_15 rfl (lv_at hl 2 rfl) ?_
      refine lv_icmp_ne (tgt := 21) hx hb dX0_addNeed_16 (by decide) (fun _ => ?_) (fun c_ => absurd c_ (by decide))
      refine lv_aload_n hx hb dX0_addNeed_21 rfl (lv_at hl 0 rfl) ?_
      refine ka_get C lq_72 rfl hK hP 0 rfl 1 (by decide) lq_73 rfl dX0_addNeed_22 ?_
      refine lv_iload_n hx hb dX0_addNeed_25 rfl (lv_at hl 1 rfl) ?_
      refine va_iald hx hb hK hP 1 0 rfl rfl (ka_in (by decide) (by decide)) dX0_addNeed_26 ?_
      refine lv_topi (fun v_3398 ev_3398 => ?_)
      refine lv_iload_n hx hb dX0_addNeed_27 rfl (lv_at hl 2 rfl) ?_
      refine ka_RN (n := 2) C (ka_c_bitAt l D F v_3398 2) gX0_addNeed_X6_bitAt_n30 rfl hN.2.2.2.1 lq_74 lq_75 (by decide +kernel) ⟨Nat.le_of_ble_eq_true rfl, Nat.le_of_ble_eq_true rfl⟩ hK hP hS hE hN [] rfl [] rfl rfl hl.1 (rest := []) rfl (Nat.le_of_ble_eq_true rfl) dX0_addNeed_28 ⟨Nat.le_of_ble_eq_true rfl, Nat.le_of_ble_eq_true rfl⟩ (fun v hv => ?_)
      subst hv
      refine ka_stk (w := .int (ka_bit v_3398 2) :: []) rfl ?_
      refine lv_topi (fun v_3399 ev_3399 => ?_)
      have fv_3399 := ka_bit_in v_3398 2; rw [← ev_3399] at fv_3399
      refine lv_iconst (v := 1) hx hb dX0_addNeed_31 (by decide) ?_
      refine lv_icmp_eq (tgt := 48) hx hb dX0_addNeed_32 (by decide) (fun c_3400 => ?_) (fun c_3400 => ?_)
      · have c_3400 : v_3399.toInt = 1 := by rw [ka_eq', show ((1 : Int32)).toInt = 1 from by decide] at c_3400; exact c_3400
        refine lv_iconst (v := 0) hx hb dX0_addNeed_48 (by decide) ?_
        exact ka_rEz C hr hlk rfl (Nat.le_of_ble_eq_true rfl) (Nat.le_of_ble_eq_true rfl) hS (ka_qE (f0, 0) rfl (show 0 ≤ ((0 : Int32)).toInt ∧ ((0 : Int32)).toInt ≤ 1 from ⟨by decide, by decide⟩) hK hP hD hS [0, 1] (by decide) rfl [] rfl) dX0_addNeed_49
      · have c_3400 : ¬ v_3399.toInt = 1 := by rw [ka_eq', show ((1 : Int32)).toInt = 1 from by decide] at c_3400; exact c_3400
        refine lv_aload_n hx hb dX0_addNeed_35 rfl (lv_at hl 0 rfl) ?_
        refine lv_iload_n hx hb dX0_addNeed_36 rfl (lv_at hl 2 rfl) ?_
        refine ka_RV (n := 1) C (cg_X0_neededInTheEnd_33 l D F a0 a1 a2 x2 k0 f0) gX0_addNeed_X0_neededInTheEnd rfl (by decide +kernel) ⟨Nat.le_of_ble_eq_true rfl, Nat.le_of_ble_eq_true rfl⟩ hK hP hS hE hN [0, 1] rfl [0] rfl (ci := 0) rfl rfl 0 rfl rfl hl.1 (rest := []) rfl (Nat.le_of_ble_eq_true rfl) dX0_addNeed_37 ⟨Nat.le_of_ble_eq_true rfl, Nat.le_of_ble_eq_true rfl⟩ (fun v hv => ?_)
        obtain ⟨v_3401, rfl⟩ := hv
        have rv_3401 := ka_rng v_3401
        refine ka_stk (w := [.int v_3401]) rfl ?_
        refine lv_iload_n hx hb dX0_addNeed_40 rfl (lv_at hl 1 rfl) ?_
        refine ka_RN (n := 2) C (ka_c_bitAt l D F v_3401 3) gX0_addNeed_X6_bitAt_n30 rfl hN.2.2.2.1 lq_74 lq_75 (by decide +kernel) ⟨Nat.le_of_ble_eq_true rfl, Nat.le_of_ble_eq_true rfl⟩ hK hP hS hE hN [] rfl [] rfl rfl hl.1 (rest := []) rfl (Nat.le_of_ble_eq_true rfl) dX0_addNeed_41 ⟨Nat.le_of_ble_eq_true rfl, Nat.le_of_ble_eq_true rfl⟩ (fun v hv => ?_)
        subst hv
        refine ka_stk (w := .int (ka_bit v_3401 3) :: []) rfl ?_
        refine lv_topi (fun v_3402 ev_3402 => ?_)
        have fv_3402 := ka_bit_in v_3401 3; rw [← ev_3402] at fv_3402
        refine lv_iconst (v := 1) hx hb dX0_addNeed_44 (by decide) ?_
        refine lv_icmp_ne (tgt := 50) hx hb dX0_addNeed_45 (by decide) (fun c_3403 => ?_) (fun c_3403 => ?_)
        · have c_3403 : ¬ v_3402.toInt = 1 := by rw [ka_eq', show ((1 : Int32)).toInt = 1 from by decide] at c_3403; exact c_3403
          refine lv_aload_n hx hb dX0_addNeed_50 rfl (lv_at hl 0 rfl) ?_
          refine ka_get C lq_72 rfl hK hP 0 rfl 1 (by decide) lq_73 rfl dX0_addNeed_51 ?_
          refine lv_iload_n hx hb dX0_addNeed_54 rfl (lv_at hl 1 rfl) ?_
          refine lv_dup2_11 hx hb dX0_addNeed_55 rfl rfl ?_
          refine va_iald hx hb hK hP 1 0 rfl rfl (ka_in (by decide) (by decide)) dX0_addNeed_56 ?_
          refine lv_topi (fun v_3404 ev_3404 => ?_)
          refine lv_iconst (v := 1) hx hb dX0_addNeed_57 (by decide) ?_
          refine lv_iload_n hx hb dX0_addNeed_58 rfl (lv_at hl 2 rfl) ?_
          refine lv_ishl hx hb dX0_addNeed_59 ?_
          refine ka_top (w := .int 4) (congrArg Value.int (by decide)) ?_
          refine lv_ior hx hb dX0_addNeed_60 ?_
          refine lv_topi (fun v_3405 ev_3405 => ?_)
          refine va_iast hx hb hK hP hD hS 1 0 rfl rfl (ka_in (by decide) (by decide)) dX0_addNeed_61 (fun H locs hP hD hS => ?_)
          have hP : va_P D vwCl [(a0, .inr (0, [.ref a1, .ref a2, .int x2])), (a2, .inl (k0, 6, .inl (upd f0 (Int32.toNatClampNeg 3) v_3405)))] H := hP
          have hD : va_D A [(a0, .inr (0, [.ref a1, .ref a2, .int x2])), (a2, .inl (k0, 6, .inl (upd f0 (Int32.toNatClampNeg 3) v_3405)))] := hD
          generalize (upd f0 (Int32.toNatClampNeg 3) v_3405) = g_3406 at hP hD
          refine lv_iconst (v := 1) hx hb dX0_addNeed_62 (by decide) ?_
          exact ka_rEz C hr hlk rfl (Nat.le_of_ble_eq_true rfl) (Nat.le_of_ble_eq_true rfl) hS (ka_qE (g_3406, 1) rfl (show 0 ≤ ((1 : Int32)).toInt ∧ ((1 : Int32)).toInt ≤ 1 from ⟨by decide, by decide⟩) hK hP hD hS [0, 1] (by decide) rfl [] rfl) dX0_addNeed_63
        · have c_3403 : v_3402.toInt = 1 := by rw [ka_eq', show ((1 : Int32)).toInt = 1 from by decide] at c_3403; exact c_3403
          refine lv_iconst (v := 0) hx hb dX0_addNeed_48 (by decide) ?_
          exact ka_rEz C hr hlk rfl (Nat.le_of_ble_eq_true rfl) (Nat.le_of_ble_eq_true rfl) hS (ka_qE (f0, 0) rfl (show 0 ≤ ((0 : Int32)).toInt ∧ ((0 : Int32)).toInt ≤ 1 from ⟨by decide, by decide⟩) hK hP hD hS [0, 1] (by decide) rfl [] rfl) dX0_addNeed_49
    · obtain rfl : x1 = 3 := (ka_eq' _ _).mpr (y_3379.trans (by decide))
      refine lv_iload_n hx hb dX0_addNeed_0 rfl (lv_at hl 1 rfl) ?_
      refine ka_RS (n := 1) C (cg_X0_isLesson_25 l D F ) gX0_addNeed_X0_isLesson rfl (by decide +kernel) ⟨Nat.le_of_ble_eq_true rfl, Nat.le_of_ble_eq_true rfl⟩ hK hP hS hE hN [] rfl [] rfl rfl hl.1 (rest := []) rfl (Nat.le_of_ble_eq_true rfl) dX0_addNeed_1 ⟨Nat.le_of_ble_eq_true rfl, Nat.le_of_ble_eq_true rfl⟩ (fun v hv => ?_)
      subst hv
      refine ka_stk (w := [.int 1]) rfl ?_
      refine lv_if_eq (tgt := 19) hx hb dX0_addNeed_4 (by decide) (fun c_ => absurd c_ (by decide)) (fun _ => ?_)
      refine lv_iload_n hx hb dX0_addNeed_7 rfl (lv_at hl 2 rfl) ?_
      refine ka_RS (n := 1) C (cg_X0_isLesson_25 l D F ) gX0_addNeed_X0_isLesson rfl (by decide +kernel) ⟨Nat.le_of_ble_eq_true rfl, Nat.le_of_ble_eq_true rfl⟩ hK hP hS hE hN [] rfl [] rfl rfl hl.1 (rest := []) rfl (Nat.le_of_ble_eq_true rfl) dX0_addNeed_8 ⟨Nat.le_of_ble_eq_true rfl, Nat.le_of_ble_eq_true rfl⟩ (fun v hv => ?_)
      subst hv
      refine ka_stk (w := [.int 1]) rfl ?_
      refine lv_if_eq (tgt := 19) hx hb dX0_addNeed_11 (by decide) (fun c_ => absurd c_ (by decide)) (fun _ => ?_)
      refine lv_iload_n hx hb dX0_addNeed_14 rfl (lv_at hl 1 rfl) ?_
      refine lv_iload_n hx hb dX0_addNeed_15 rfl (lv_at hl 2 rfl) ?_
      refine lv_icmp_ne (tgt := 21) hx hb dX0_addNeed_16 (by decide) (fun c_ => absurd (by decide) c_) (fun _ => ?_)
      refine lv_iconst (v := 0) hx hb dX0_addNeed_19 (by decide) ?_
      exact ka_rEz C hr hlk rfl (Nat.le_of_ble_eq_true rfl) (Nat.le_of_ble_eq_true rfl) hS (ka_qE (f0, 0) rfl (show 0 ≤ ((0 : Int32)).toInt ∧ ((0 : Int32)).toInt ≤ 1 from ⟨by decide, by decide⟩) hK hP hD hS [0, 1] (by decide) rfl [] rfl) dX0_addNeed_20
    · obtain rfl : x1 = 4 := (ka_eq' _ _).mpr (y_3379.trans (by decide))
      refine lv_iload_n hx hb dX0_addNeed_0 rfl (lv_at hl 1 rfl) ?_
      refine ka_RS (n := 1) C (cg_X0_isLesson_25 l D F ) gX0_addNeed_X0_isLesson rfl (by decide +kernel) ⟨Nat.le_of_ble_eq_true rfl, Nat.le_of_ble_eq_true rfl⟩ hK hP hS hE hN [] rfl [] rfl rfl hl.1 (rest := []) rfl (Nat.le_of_ble_eq_true rfl) dX0_addNeed_1 ⟨Nat.le_of_ble_eq_true rfl, Nat.le_of_ble_eq_true rfl⟩ (fun v hv => ?_)
      subst hv
      refine ka_stk (w := [.int 1]) rfl ?_
      refine lv_if_eq (tgt := 19) hx hb dX0_addNeed_4 (by decide) (fun c_ => absurd c_ (by decide)) (fun _ => ?_)
      refine lv_iload_n hx hb dX0_addNeed_7 rfl (lv_at hl 2 rfl) ?_
      refine ka_RS (n := 1) C (cg_X0_isLesson_26 l D F ) gX0_addNeed_X0_isLesson rfl (by decide +kernel) ⟨Nat.le_of_ble_eq_true rfl, Nat.le_of_ble_eq_true rfl⟩ hK hP hS hE hN [] rfl [] rfl rfl hl.1 (rest := []) rfl (Nat.le_of_ble_eq_true rfl) dX0_addNeed_8 ⟨Nat.le_of_ble_eq_true rfl, Nat.le_of_ble_eq_true rfl⟩ (fun v hv => ?_)
      subst hv
      refine ka_stk (w := [.int 1]) rfl ?_
      refine lv_if_eq (tgt := 19) hx hb dX0_addNeed_11 (by decide) (fun c_ => absurd c_ (by decide)) (fun _ => ?_)
      refine lv_iload_n hx hb dX0_addNeed_14 rfl (lv_at hl 1 rfl) ?_
      refine lv_iload_n hx hb dX0_addNeed_15 rfl (lv_at hl 2 rfl) ?_
      refine lv_icmp_ne (tgt := 21) hx hb dX0_addNeed_16 (by decide) (fun _ => ?_) (fun c_ => absurd c_ (by decide))
      refine lv_aload_n hx hb dX0_addNeed_21 rfl (lv_at hl 0 rfl) ?_
      refine ka_get C lq_72 rfl hK hP 0 rfl 1 (by decide) lq_73 rfl dX0_addNeed_22 ?_
      refine lv_iload_n hx hb dX0_addNeed_25 rfl (lv_at hl 1 rfl) ?_
      refine va_iald hx hb hK hP 1 0 rfl rfl (ka_in (by decide) (by decide)) dX0_addNeed_26 ?_
      refine lv_topi (fun v_3407 ev_3407 => ?_)
      refine lv_iload_n hx hb dX0_addNeed_27 rfl (lv_at hl 2 rfl) ?_
      refine ka_RN (n := 2) C (ka_c_bitAt l D F v_3407 4) gX0_addNeed_X6_bitAt_n30 rfl hN.2.2.2.1 lq_74 lq_75 (by decide +kernel) ⟨Nat.le_of_ble_eq_true rfl, Nat.le_of_ble_eq_true rfl⟩ hK hP hS hE hN [] rfl [] rfl rfl hl.1 (rest := []) rfl (Nat.le_of_ble_eq_true rfl) dX0_addNeed_28 ⟨Nat.le_of_ble_eq_true rfl, Nat.le_of_ble_eq_true rfl⟩ (fun v hv => ?_)
      subst hv
      refine ka_stk (w := .int (ka_bit v_3407 4) :: []) rfl ?_
      refine lv_topi (fun v_3408 ev_3408 => ?_)
      have fv_3408 := ka_bit_in v_3407 4; rw [← ev_3408] at fv_3408
      refine lv_iconst (v := 1) hx hb dX0_addNeed_31 (by decide) ?_
      refine lv_icmp_eq (tgt := 48) hx hb dX0_addNeed_32 (by decide) (fun c_3409 => ?_) (fun c_3409 => ?_)
      · have c_3409 : v_3408.toInt = 1 := by rw [ka_eq', show ((1 : Int32)).toInt = 1 from by decide] at c_3409; exact c_3409
        refine lv_iconst (v := 0) hx hb dX0_addNeed_48 (by decide) ?_
        exact ka_rEz C hr hlk rfl (Nat.le_of_ble_eq_true rfl) (Nat.le_of_ble_eq_true rfl) hS (ka_qE (f0, 0) rfl (show 0 ≤ ((0 : Int32)).toInt ∧ ((0 : Int32)).toInt ≤ 1 from ⟨by decide, by decide⟩) hK hP hD hS [0, 1] (by decide) rfl [] rfl) dX0_addNeed_49
      · have c_3409 : ¬ v_3408.toInt = 1 := by rw [ka_eq', show ((1 : Int32)).toInt = 1 from by decide] at c_3409; exact c_3409
        refine lv_aload_n hx hb dX0_addNeed_35 rfl (lv_at hl 0 rfl) ?_
        refine lv_iload_n hx hb dX0_addNeed_36 rfl (lv_at hl 2 rfl) ?_
        refine ka_RV (n := 1) C (cg_X0_neededInTheEnd_35 l D F a0 a1 a2 x2 k0 f0) gX0_addNeed_X0_neededInTheEnd rfl (by decide +kernel) ⟨Nat.le_of_ble_eq_true rfl, Nat.le_of_ble_eq_true rfl⟩ hK hP hS hE hN [0, 1] rfl [0] rfl (ci := 0) rfl rfl 0 rfl rfl hl.1 (rest := []) rfl (Nat.le_of_ble_eq_true rfl) dX0_addNeed_37 ⟨Nat.le_of_ble_eq_true rfl, Nat.le_of_ble_eq_true rfl⟩ (fun v hv => ?_)
        obtain ⟨v_3410, rfl⟩ := hv
        have rv_3410 := ka_rng v_3410
        refine ka_stk (w := [.int v_3410]) rfl ?_
        refine lv_iload_n hx hb dX0_addNeed_40 rfl (lv_at hl 1 rfl) ?_
        refine ka_RN (n := 2) C (ka_c_bitAt l D F v_3410 3) gX0_addNeed_X6_bitAt_n30 rfl hN.2.2.2.1 lq_74 lq_75 (by decide +kernel) ⟨Nat.le_of_ble_eq_true rfl, Nat.le_of_ble_eq_true rfl⟩ hK hP hS hE hN [] rfl [] rfl rfl hl.1 (rest := []) rfl (Nat.le_of_ble_eq_true rfl) dX0_addNeed_41 ⟨Nat.le_of_ble_eq_true rfl, Nat.le_of_ble_eq_true rfl⟩ (fun v hv => ?_)
        subst hv
        refine ka_stk (w := .int (ka_bit v_3410 3) :: []) rfl ?_
        refine lv_topi (fun v_3411 ev_3411 => ?_)
        have fv_3411 := ka_bit_in v_3410 3; rw [← ev_3411] at fv_3411
        refine lv_iconst (v := 1) hx hb dX0_addNeed_44 (by decide) ?_
        refine lv_icmp_ne (tgt := 50) hx hb dX0_addNeed_45 (by decide) (fun c_3412 => ?_) (fun c_3412 => ?_)
        · have c_3412 : ¬ v_3411.toInt = 1 := by rw [ka_eq', show ((1 : Int32)).toInt = 1 from by decide] at c_3412; exact c_3412
          refine lv_aload_n hx hb dX0_addNeed_50 rfl (lv_at hl 0 rfl) ?_
          refine ka_get C lq_72 rfl hK hP 0 rfl 1 (by decide) lq_73 rfl dX0_addNeed_51 ?_
          refine lv_iload_n hx hb dX0_addNeed_54 rfl (lv_at hl 1 rfl) ?_
          refine lv_dup2_11 hx hb dX0_addNeed_55 rfl rfl ?_
          refine va_iald hx hb hK hP 1 0 rfl rfl (ka_in (by decide) (by decide)) dX0_addNeed_56 ?_
          refine lv_topi (fun v_3413 ev_3413 => ?_)
          refine lv_iconst (v := 1) hx hb dX0_addNeed_57 (by decide) ?_
          refine lv_iload_n hx hb dX0_addNeed_58 rfl (lv_at hl 2 rfl) ?_
          refine lv_ishl hx hb dX0_addNeed_59 ?_
          refine ka_top (w := .int 16) (congrArg Value.int (by decide)) ?_
          refine lv_ior hx hb dX0_addNeed_60 ?_
          refine lv_topi (fun v_3414 ev_3414 => ?_)
          refine va_iast hx hb hK hP hD hS 1 0 rfl rfl (ka_in (by decide) (by decide)) dX0_addNeed_61 (fun H locs hP hD hS => ?_)
          have hP : va_P D vwCl [(a0, .inr (0, [.ref a1, .ref a2, .int x2])), (a2, .inl (k0, 6, .inl (upd f0 (Int32.toNatClampNeg 3) v_3414)))] H := hP
          have hD : va_D A [(a0, .inr (0, [.ref a1, .ref a2, .int x2])), (a2, .inl (k0, 6, .inl (upd f0 (Int32.toNatClampNeg 3) v_3414)))] := hD
          generalize (upd f0 (Int32.toNatClampNeg 3) v_3414) = g_3415 at hP hD
          refine lv_iconst (v := 1) hx hb dX0_addNeed_62 (by decide) ?_
          exact ka_rEz C hr hlk rfl (Nat.le_of_ble_eq_true rfl) (Nat.le_of_ble_eq_true rfl) hS (ka_qE (g_3415, 1) rfl (show 0 ≤ ((1 : Int32)).toInt ∧ ((1 : Int32)).toInt ≤ 1 from ⟨by decide, by decide⟩) hK hP hD hS [0, 1] (by decide) rfl [] rfl) dX0_addNeed_63
        · have c_3412 : v_3411.toInt = 1 := by rw [ka_eq', show ((1 : Int32)).toInt = 1 from by decide] at c_3412; exact c_3412
          refine lv_iconst (v := 0) hx hb dX0_addNeed_48 (by decide) ?_
          exact ka_rEz C hr hlk rfl (Nat.le_of_ble_eq_true rfl) (Nat.le_of_ble_eq_true rfl) hS (ka_qE (f0, 0) rfl (show 0 ≤ ((0 : Int32)).toInt ∧ ((0 : Int32)).toInt ≤ 1 from ⟨by decide, by decide⟩) hK hP hD hS [0, 1] (by decide) rfl [] rfl) dX0_addNeed_49
    · obtain rfl : x1 = 5 := (ka_eq' _ _).mpr (y_3379.trans (by decide))
      refine lv_iload_n hx hb dX0_addNeed_0 rfl (lv_at hl 1 rfl) ?_
      refine ka_RS (n := 1) C (cg_X0_isLesson_25 l D F ) gX0_addNeed_X0_isLesson rfl (by decide +kernel) ⟨Nat.le_of_ble_eq_true rfl, Nat.le_of_ble_eq_true rfl⟩ hK hP hS hE hN [] rfl [] rfl rfl hl.1 (rest := []) rfl (Nat.le_of_ble_eq_true rfl) dX0_addNeed_1 ⟨Nat.le_of_ble_eq_true rfl, Nat.le_of_ble_eq_true rfl⟩ (fun v hv => ?_)
      subst hv
      refine ka_stk (w := [.int 1]) rfl ?_
      refine lv_if_eq (tgt := 19) hx hb dX0_addNeed_4 (by decide) (fun c_ => absurd c_ (by decide)) (fun _ => ?_)
      refine lv_iload_n hx hb dX0_addNeed_7 rfl (lv_at hl 2 rfl) ?_
      refine ka_RS (n := 1) C (cg_X0_isLesson_27 l D F ) gX0_addNeed_X0_isLesson rfl (by decide +kernel) ⟨Nat.le_of_ble_eq_true rfl, Nat.le_of_ble_eq_true rfl⟩ hK hP hS hE hN [] rfl [] rfl rfl hl.1 (rest := []) rfl (Nat.le_of_ble_eq_true rfl) dX0_addNeed_8 ⟨Nat.le_of_ble_eq_true rfl, Nat.le_of_ble_eq_true rfl⟩ (fun v hv => ?_)
      subst hv
      refine ka_stk (w := [.int 1]) rfl ?_
      refine lv_if_eq (tgt := 19) hx hb dX0_addNeed_11 (by decide) (fun c_ => absurd c_ (by decide)) (fun _ => ?_)
      refine lv_iload_n hx hb dX0_addNeed_14 rfl (lv_at hl 1 rfl) ?_
      refine lv_iload_n hx hb dX0_addNeed_15 rfl (lv_at hl 2 rfl) ?_
      refine lv_icmp_ne (tgt := 21) hx hb dX0_addNeed_16 (by decide) (fun _ => ?_) (fun c_ => absurd c_ (by decide))
      refine lv_aload_n hx hb dX0_addNeed_21 rfl (lv_at hl 0 rfl) ?_
      refine ka_get C lq_72 rfl hK hP 0 rfl 1 (by decide) lq_73 rfl dX0_addNeed_22 ?_
      refine lv_iload_n hx hb dX0_addNeed_25 rfl (lv_at hl 1 rfl) ?_
      refine va_iald hx hb hK hP 1 0 rfl rfl (ka_in (by decide) (by decide)) dX0_addNeed_26 ?_
      refine lv_topi (fun v_3416 ev_3416 => ?_)
      refine lv_iload_n hx hb dX0_addNeed_27 rfl (lv_at hl 2 rfl) ?_
      refine ka_RN (n := 2) C (ka_c_bitAt l D F v_3416 5) gX0_addNeed_X6_bitAt_n30 rfl hN.2.2.2.1 lq_74 lq_75 (by decide +kernel) ⟨Nat.le_of_ble_eq_true rfl, Nat.le_of_ble_eq_true rfl⟩ hK hP hS hE hN [] rfl [] rfl rfl hl.1 (rest := []) rfl (Nat.le_of_ble_eq_true rfl) dX0_addNeed_28 ⟨Nat.le_of_ble_eq_true rfl, Nat.le_of_ble_eq_true rfl⟩ (fun v hv => ?_)
      subst hv
      refine ka_stk (w := .int (ka_bit v_3416 5) :: []) rfl ?_
      refine lv_topi (fun v_3417 ev_3417 => ?_)
      have fv_3417 := ka_bit_in v_3416 5; rw [← ev_3417] at fv_3417
      refine lv_iconst (v := 1) hx hb dX0_addNeed_31 (by decide) ?_
      refine lv_icmp_eq (tgt := 48) hx hb dX0_addNeed_32 (by decide) (fun c_3418 => ?_) (fun c_3418 => ?_)
      · have c_3418 : v_3417.toInt = 1 := by rw [ka_eq', show ((1 : Int32)).toInt = 1 from by decide] at c_3418; exact c_3418
        refine lv_iconst (v := 0) hx hb dX0_addNeed_48 (by decide) ?_
        exact ka_rEz C hr hlk rfl (Nat.le_of_ble_eq_true rfl) (Nat.le_of_ble_eq_true rfl) hS (ka_qE (f0, 0) rfl (show 0 ≤ ((0 : Int32)).toInt ∧ ((0 : Int32)).toInt ≤ 1 from ⟨by decide, by decide⟩) hK hP hD hS [0, 1] (by decide) rfl [] rfl) dX0_addNeed_49
      · have c_3418 : ¬ v_3417.toInt = 1 := by rw [ka_eq', show ((1 : Int32)).toInt = 1 from by decide] at c_3418; exact c_3418
        refine lv_aload_n hx hb dX0_addNeed_35 rfl (lv_at hl 0 rfl) ?_
        refine lv_iload_n hx hb dX0_addNeed_36 rfl (lv_at hl 2 rfl) ?_
        refine ka_RV (n := 1) C (cg_X0_neededInTheEnd_36 l D F a0 a1 a2 x2 k0 f0) gX0_addNeed_X0_neededInTheEnd rfl (by decide +kernel) ⟨Nat.le_of_ble_eq_true rfl, Nat.le_of_ble_eq_true rfl⟩ hK hP hS hE hN [0, 1] rfl [0] rfl (ci := 0) rfl rfl 0 rfl rfl hl.1 (rest := []) rfl (Nat.le_of_ble_eq_true rfl) dX0_addNeed_37 ⟨Nat.le_of_ble_eq_true rfl, Nat.le_of_ble_eq_true rfl⟩ (fun v hv => ?_)
        obtain ⟨v_3419, rfl⟩ := hv
        have rv_3419 := ka_rng v_3419
        refine ka_stk (w := [.int v_3419]) rfl ?_
        refine lv_iload_n hx hb dX0_addNeed_40 rfl (lv_at hl 1 rfl) ?_
        refine ka_RN (n := 2) C (ka_c_bitAt l D F v_3419 3) gX0_addNeed_X6_bitAt_n30 rfl hN.2.2.2.1 lq_74 lq_75 (by decide +kernel) ⟨Nat.le_of_ble_eq_true rfl, Nat.le_of_ble_eq_true rfl⟩ hK hP hS hE hN [] rfl [] rfl rfl hl.1 (rest := []) rfl (Nat.le_of_ble_eq_true rfl) dX0_addNeed_41 ⟨Nat.le_of_ble_eq_true rfl, Nat.le_of_ble_eq_true rfl⟩ (fun v hv => ?_)
        subst hv
        refine ka_stk (w := .int (ka_bit v_3419 3) :: []) rfl ?_
        refine lv_topi (fun v_3420 ev_3420 => ?_)
        have fv_3420 := ka_bit_in v_3419 3; rw [← ev_3420] at fv_3420
        refine lv_iconst (v := 1) hx hb dX0_addNeed_44 (by decide) ?_
        refine lv_icmp_ne (tgt := 50) hx hb dX0_addNeed_45 (by decide) (fun c_3421 => ?_) (fun c_3421 => ?_)
        · have c_3421 : ¬ v_3420.toInt = 1 := by rw [ka_eq', show ((1 : Int32)).toInt = 1 from by decide] at c_3421; exact c_3421
          refine lv_aload_n hx hb dX0_addNeed_50 rfl (lv_at hl 0 rfl) ?_
          refine ka_get C lq_72 rfl hK hP 0 rfl 1 (by decide) lq_73 rfl dX0_addNeed_51 ?_
          refine lv_iload_n hx hb dX0_addNeed_54 rfl (lv_at hl 1 rfl) ?_
          refine lv_dup2_11 hx hb dX0_addNeed_55 rfl rfl ?_
          refine va_iald hx hb hK hP 1 0 rfl rfl (ka_in (by decide) (by decide)) dX0_addNeed_56 ?_
          refine lv_topi (fun v_3422 ev_3422 => ?_)
          refine lv_iconst (v := 1) hx hb dX0_addNeed_57 (by decide) ?_
          refine lv_iload_n hx hb dX0_addNeed_58 rfl (lv_at hl 2 rfl) ?_
          refine lv_ishl hx hb dX0_addNeed_59 ?_
          refine ka_top (w := .int 32) (congrArg Value.int (by decide)) ?_
          refine lv_ior hx hb dX0_addNeed_60 ?_
          refine lv_topi (fun v_3423 ev_3423 => ?_)
          refine va_iast hx hb hK hP hD hS 1 0 rfl rfl (ka_in (by decide) (by decide)) dX0_addNeed_61 (fun H locs hP hD hS => ?_)
          have hP : va_P D vwCl [(a0, .inr (0, [.ref a1, .ref a2, .int x2])), (a2, .inl (k0, 6, .inl (upd f0 (Int32.toNatClampNeg 3) v_3423)))] H := hP
          have hD : va_D A [(a0, .inr (0, [.ref a1, .ref a2, .int x2])), (a2, .inl (k0, 6, .inl (upd f0 (Int32.toNatClampNeg 3) v_3423)))] := hD
          generalize (upd f0 (Int32.toNatClampNeg 3) v_3423) = g_3424 at hP hD
          refine lv_iconst (v := 1) hx hb dX0_addNeed_62 (by decide) ?_
          exact ka_rEz C hr hlk rfl (Nat.le_of_ble_eq_true rfl) (Nat.le_of_ble_eq_true rfl) hS (ka_qE (g_3424, 1) rfl (show 0 ≤ ((1 : Int32)).toInt ∧ ((1 : Int32)).toInt ≤ 1 from ⟨by decide, by decide⟩) hK hP hD hS [0, 1] (by decide) rfl [] rfl) dX0_addNeed_63
        · have c_3421 : v_3420.toInt = 1 := by rw [ka_eq', show ((1 : Int32)).toInt = 1 from by decide] at c_3421; exact c_3421
          refine lv_iconst (v := 0) hx hb dX0_addNeed_48 (by decide) ?_
          exact ka_rEz C hr hlk rfl (Nat.le_of_ble_eq_true rfl) (Nat.le_of_ble_eq_true rfl) hS (ka_qE (f0, 0) rfl (show 0 ≤ ((0 : Int32)).toInt ∧ ((0 : Int32)).toInt ≤ 1 from ⟨by decide, by decide⟩) hK hP hD hS [0, 1] (by decide) rfl [] rfl) dX0_addNeed_49
    · skip
      refine lv_iload_n hx hb dX0_addNeed_0 rfl (lv_at hl 1 rfl) ?_
      refine ka_RS (n := 1) C (cg_X0_isLesson_25 l D F ) gX0_addNeed_X0_isLesson rfl (by decide +kernel) ⟨Nat.le_of_ble_eq_true rfl, Nat.le_of_ble_eq_true rfl⟩ hK hP hS hE hN [] rfl [] rfl rfl hl.1 (rest := []) rfl (Nat.le_of_ble_eq_true rfl) dX0_addNeed_1 ⟨Nat.le_of_ble_eq_true rfl, Nat.le_of_ble_eq_true rfl⟩ (fun v hv => ?_)
      subst hv
      refine ka_stk (w := [.int 1]) rfl ?_
      refine lv_if_eq (tgt := 19) hx hb dX0_addNeed_4 (by decide) (fun c_ => absurd c_ (by decide)) (fun _ => ?_)
      refine lv_iload_n hx hb dX0_addNeed_7 rfl (lv_at hl 2 rfl) ?_
      refine ka_RS (n := 1) C (cg_X0_isLesson_28 l D F x1 (by omega)) gX0_addNeed_X0_isLesson rfl (by decide +kernel) ⟨Nat.le_of_ble_eq_true rfl, Nat.le_of_ble_eq_true rfl⟩ hK hP hS hE hN [] rfl [] rfl rfl hl.1 (rest := []) rfl (Nat.le_of_ble_eq_true rfl) dX0_addNeed_8 ⟨Nat.le_of_ble_eq_true rfl, Nat.le_of_ble_eq_true rfl⟩ (fun v hv => ?_)
      subst hv
      refine ka_stk (w := [.int 0]) rfl ?_
      refine lv_if_eq (tgt := 19) hx hb dX0_addNeed_11 (by decide) (fun _ => ?_) (fun c_ => absurd (by decide) c_)
      refine lv_iconst (v := 0) hx hb dX0_addNeed_19 (by decide) ?_
      exact ka_rEz C hr hlk rfl (Nat.le_of_ble_eq_true rfl) (Nat.le_of_ble_eq_true rfl) hS (ka_qE (f0, 0) rfl (show 0 ≤ ((0 : Int32)).toInt ∧ ((0 : Int32)).toInt ≤ 1 from ⟨by decide, by decide⟩) hK hP hD hS [0, 1] (by decide) rfl [] rfl) dX0_addNeed_20
  · obtain rfl : x0 = 4 := (ka_eq' _ _).mpr (y_3239.trans (by decide))
    rcases (show x1.toInt ≤ -1 ∨ x1.toInt = 0 ∨ x1.toInt = 1 ∨ x1.toInt = 2 ∨ x1.toInt = 3 ∨ x1.toInt = 4 ∨ x1.toInt = 5 ∨ 6 ≤ x1.toInt by omega) with y_3425 | y_3425 | y_3425 | y_3425 | y_3425 | y_3425 | y_3425 | y_3425
    · skip
      refine lv_iload_n hx hb dX0_addNeed_0 rfl (lv_at hl 1 rfl) ?_
      refine ka_RS (n := 1) C (cg_X0_isLesson_26 l D F ) gX0_addNeed_X0_isLesson rfl (by decide +kernel) ⟨Nat.le_of_ble_eq_true rfl, Nat.le_of_ble_eq_true rfl⟩ hK hP hS hE hN [] rfl [] rfl rfl hl.1 (rest := []) rfl (Nat.le_of_ble_eq_true rfl) dX0_addNeed_1 ⟨Nat.le_of_ble_eq_true rfl, Nat.le_of_ble_eq_true rfl⟩ (fun v hv => ?_)
      subst hv
      refine ka_stk (w := [.int 1]) rfl ?_
      refine lv_if_eq (tgt := 19) hx hb dX0_addNeed_4 (by decide) (fun c_ => absurd c_ (by decide)) (fun _ => ?_)
      refine lv_iload_n hx hb dX0_addNeed_7 rfl (lv_at hl 2 rfl) ?_
      refine ka_RS (n := 1) C (cg_X0_isLesson_21 l D F x1 (by omega)) gX0_addNeed_X0_isLesson rfl (by decide +kernel) ⟨Nat.le_of_ble_eq_true rfl, Nat.le_of_ble_eq_true rfl⟩ hK hP hS hE hN [] rfl [] rfl rfl hl.1 (rest := []) rfl (Nat.le_of_ble_eq_true rfl) dX0_addNeed_8 ⟨Nat.le_of_ble_eq_true rfl, Nat.le_of_ble_eq_true rfl⟩ (fun v hv => ?_)
      subst hv
      refine ka_stk (w := [.int 0]) rfl ?_
      refine lv_if_eq (tgt := 19) hx hb dX0_addNeed_11 (by decide) (fun _ => ?_) (fun c_ => absurd (by decide) c_)
      refine lv_iconst (v := 0) hx hb dX0_addNeed_19 (by decide) ?_
      exact ka_rEz C hr hlk rfl (Nat.le_of_ble_eq_true rfl) (Nat.le_of_ble_eq_true rfl) hS (ka_qE (f0, 0) rfl (show 0 ≤ ((0 : Int32)).toInt ∧ ((0 : Int32)).toInt ≤ 1 from ⟨by decide, by decide⟩) hK hP hD hS [0, 1] (by decide) rfl [] rfl) dX0_addNeed_20
    · obtain rfl : x1 = 0 := (ka_eq' _ _).mpr (y_3425.trans (by decide))
      refine lv_iload_n hx hb dX0_addNeed_0 rfl (lv_at hl 1 rfl) ?_
      refine ka_RS (n := 1) C (cg_X0_isLesson_26 l D F ) gX0_addNeed_X0_isLesson rfl (by decide +kernel) ⟨Nat.le_of_ble_eq_true rfl, Nat.le_of_ble_eq_true rfl⟩ hK hP hS hE hN [] rfl [] rfl rfl hl.1 (rest := []) rfl (Nat.le_of_ble_eq_true rfl) dX0_addNeed_1 ⟨Nat.le_of_ble_eq_true rfl, Nat.le_of_ble_eq_true rfl⟩ (fun v hv => ?_)
      subst hv
      refine ka_stk (w := [.int 1]) rfl ?_
      refine lv_if_eq (tgt := 19) hx hb dX0_addNeed_4 (by decide) (fun c_ => absurd c_ (by decide)) (fun _ => ?_)
      refine lv_iload_n hx hb dX0_addNeed_7 rfl (lv_at hl 2 rfl) ?_
      refine ka_RS (n := 1) C (cg_X0_isLesson_22 l D F ) gX0_addNeed_X0_isLesson rfl (by decide +kernel) ⟨Nat.le_of_ble_eq_true rfl, Nat.le_of_ble_eq_true rfl⟩ hK hP hS hE hN [] rfl [] rfl rfl hl.1 (rest := []) rfl (Nat.le_of_ble_eq_true rfl) dX0_addNeed_8 ⟨Nat.le_of_ble_eq_true rfl, Nat.le_of_ble_eq_true rfl⟩ (fun v hv => ?_)
      subst hv
      refine ka_stk (w := [.int 1]) rfl ?_
      refine lv_if_eq (tgt := 19) hx hb dX0_addNeed_11 (by decide) (fun c_ => absurd c_ (by decide)) (fun _ => ?_)
      refine lv_iload_n hx hb dX0_addNeed_14 rfl (lv_at hl 1 rfl) ?_
      refine lv_iload_n hx hb dX0_addNeed_15 rfl (lv_at hl 2 rfl) ?_
      refine lv_icmp_ne (tgt := 21) hx hb dX0_addNeed_16 (by decide) (fun _ => ?_) (fun c_ => absurd c_ (by decide))
      refine lv_aload_n hx hb dX0_addNeed_21 rfl (lv_at hl 0 rfl) ?_
      refine ka_get C lq_72 rfl hK hP 0 rfl 1 (by decide) lq_73 rfl dX0_addNeed_22 ?_
      refine lv_iload_n hx hb dX0_addNeed_25 rfl (lv_at hl 1 rfl) ?_
      refine va_iald hx hb hK hP 1 0 rfl rfl (ka_in (by decide) (by decide)) dX0_addNeed_26 ?_
      refine lv_topi (fun v_3426 ev_3426 => ?_)
      refine lv_iload_n hx hb dX0_addNeed_27 rfl (lv_at hl 2 rfl) ?_
      refine ka_RN (n := 2) C (ka_c_bitAt l D F v_3426 0) gX0_addNeed_X6_bitAt_n30 rfl hN.2.2.2.1 lq_74 lq_75 (by decide +kernel) ⟨Nat.le_of_ble_eq_true rfl, Nat.le_of_ble_eq_true rfl⟩ hK hP hS hE hN [] rfl [] rfl rfl hl.1 (rest := []) rfl (Nat.le_of_ble_eq_true rfl) dX0_addNeed_28 ⟨Nat.le_of_ble_eq_true rfl, Nat.le_of_ble_eq_true rfl⟩ (fun v hv => ?_)
      subst hv
      refine ka_stk (w := .int (ka_bit v_3426 0) :: []) rfl ?_
      refine lv_topi (fun v_3427 ev_3427 => ?_)
      have fv_3427 := ka_bit_in v_3426 0; rw [← ev_3427] at fv_3427
      refine lv_iconst (v := 1) hx hb dX0_addNeed_31 (by decide) ?_
      refine lv_icmp_eq (tgt := 48) hx hb dX0_addNeed_32 (by decide) (fun c_3428 => ?_) (fun c_3428 => ?_)
      · have c_3428 : v_3427.toInt = 1 := by rw [ka_eq', show ((1 : Int32)).toInt = 1 from by decide] at c_3428; exact c_3428
        refine lv_iconst (v := 0) hx hb dX0_addNeed_48 (by decide) ?_
        exact ka_rEz C hr hlk rfl (Nat.le_of_ble_eq_true rfl) (Nat.le_of_ble_eq_true rfl) hS (ka_qE (f0, 0) rfl (show 0 ≤ ((0 : Int32)).toInt ∧ ((0 : Int32)).toInt ≤ 1 from ⟨by decide, by decide⟩) hK hP hD hS [0, 1] (by decide) rfl [] rfl) dX0_addNeed_49
      · have c_3428 : ¬ v_3427.toInt = 1 := by rw [ka_eq', show ((1 : Int32)).toInt = 1 from by decide] at c_3428; exact c_3428
        refine lv_aload_n hx hb dX0_addNeed_35 rfl (lv_at hl 0 rfl) ?_
        refine lv_iload_n hx hb dX0_addNeed_36 rfl (lv_at hl 2 rfl) ?_
        refine ka_RV (n := 1) C (cg_X0_neededInTheEnd_37 l D F a0 a1 a2 x2 k0 f0) gX0_addNeed_X0_neededInTheEnd rfl (by decide +kernel) ⟨Nat.le_of_ble_eq_true rfl, Nat.le_of_ble_eq_true rfl⟩ hK hP hS hE hN [0, 1] rfl [0] rfl (ci := 0) rfl rfl 0 rfl rfl hl.1 (rest := []) rfl (Nat.le_of_ble_eq_true rfl) dX0_addNeed_37 ⟨Nat.le_of_ble_eq_true rfl, Nat.le_of_ble_eq_true rfl⟩ (fun v hv => ?_)
        obtain ⟨v_3429, rfl⟩ := hv
        have rv_3429 := ka_rng v_3429
        refine ka_stk (w := [.int v_3429]) rfl ?_
        refine lv_iload_n hx hb dX0_addNeed_40 rfl (lv_at hl 1 rfl) ?_
        refine ka_RN (n := 2) C (ka_c_bitAt l D F v_3429 4) gX0_addNeed_X6_bitAt_n30 rfl hN.2.2.2.1 lq_74 lq_75 (by decide +kernel) ⟨Nat.le_of_ble_eq_true rfl, Nat.le_of_ble_eq_true rfl⟩ hK hP hS hE hN [] rfl [] rfl rfl hl.1 (rest := []) rfl (Nat.le_of_ble_eq_true rfl) dX0_addNeed_41 ⟨Nat.le_of_ble_eq_true rfl, Nat.le_of_ble_eq_true rfl⟩ (fun v hv => ?_)
        subst hv
        refine ka_stk (w := .int (ka_bit v_3429 4) :: []) rfl ?_
        refine lv_topi (fun v_3430 ev_3430 => ?_)
        have fv_3430 := ka_bit_in v_3429 4; rw [← ev_3430] at fv_3430
        refine lv_iconst (v := 1) hx hb dX0_addNeed_44 (by decide) ?_
        refine lv_icmp_ne (tgt := 50) hx hb dX0_addNeed_45 (by decide) (fun c_3431 => ?_) (fun c_3431 => ?_)
        · have c_3431 : ¬ v_3430.toInt = 1 := by rw [ka_eq', show ((1 : Int32)).toInt = 1 from by decide] at c_3431; exact c_3431
          refine lv_aload_n hx hb dX0_addNeed_50 rfl (lv_at hl 0 rfl) ?_
          refine ka_get C lq_72 rfl hK hP 0 rfl 1 (by decide) lq_73 rfl dX0_addNeed_51 ?_
          refine lv_iload_n hx hb dX0_addNeed_54 rfl (lv_at hl 1 rfl) ?_
          refine lv_dup2_11 hx hb dX0_addNeed_55 rfl rfl ?_
          refine va_iald hx hb hK hP 1 0 rfl rfl (ka_in (by decide) (by decide)) dX0_addNeed_56 ?_
          refine lv_topi (fun v_3432 ev_3432 => ?_)
          refine lv_iconst (v := 1) hx hb dX0_addNeed_57 (by decide) ?_
          refine lv_iload_n hx hb dX0_addNeed_58 rfl (lv_at hl 2 rfl) ?_
          refine lv_ishl hx hb dX0_addNeed_59 ?_
          refine ka_top (w := .int 1) (congrArg Value.int (by decide)) ?_
          refine lv_ior hx hb dX0_addNeed_60 ?_
          refine lv_topi (fun v_3433 ev_3433 => ?_)
          refine va_iast hx hb hK hP hD hS 1 0 rfl rfl (ka_in (by decide) (by decide)) dX0_addNeed_61 (fun H locs hP hD hS => ?_)
          have hP : va_P D vwCl [(a0, .inr (0, [.ref a1, .ref a2, .int x2])), (a2, .inl (k0, 6, .inl (upd f0 (Int32.toNatClampNeg 4) v_3433)))] H := hP
          have hD : va_D A [(a0, .inr (0, [.ref a1, .ref a2, .int x2])), (a2, .inl (k0, 6, .inl (upd f0 (Int32.toNatClampNeg 4) v_3433)))] := hD
          generalize (upd f0 (Int32.toNatClampNeg 4) v_3433) = g_3434 at hP hD
          refine lv_iconst (v := 1) hx hb dX0_addNeed_62 (by decide) ?_
          exact ka_rEz C hr hlk rfl (Nat.le_of_ble_eq_true rfl) (Nat.le_of_ble_eq_true rfl) hS (ka_qE (g_3434, 1) rfl (show 0 ≤ ((1 : Int32)).toInt ∧ ((1 : Int32)).toInt ≤ 1 from ⟨by decide, by decide⟩) hK hP hD hS [0, 1] (by decide) rfl [] rfl) dX0_addNeed_63
        · have c_3431 : v_3430.toInt = 1 := by rw [ka_eq', show ((1 : Int32)).toInt = 1 from by decide] at c_3431; exact c_3431
          refine lv_iconst (v := 0) hx hb dX0_addNeed_48 (by decide) ?_
          exact ka_rEz C hr hlk rfl (Nat.le_of_ble_eq_true rfl) (Nat.le_of_ble_eq_true rfl) hS (ka_qE (f0, 0) rfl (show 0 ≤ ((0 : Int32)).toInt ∧ ((0 : Int32)).toInt ≤ 1 from ⟨by decide, by decide⟩) hK hP hD hS [0, 1] (by decide) rfl [] rfl) dX0_addNeed_49
    · obtain rfl : x1 = 1 := (ka_eq' _ _).mpr (y_3425.trans (by decide))
      refine lv_iload_n hx hb dX0_addNeed_0 rfl (lv_at hl 1 rfl) ?_
      refine ka_RS (n := 1) C (cg_X0_isLesson_26 l D F ) gX0_addNeed_X0_isLesson rfl (by decide +kernel) ⟨Nat.le_of_ble_eq_true rfl, Nat.le_of_ble_eq_true rfl⟩ hK hP hS hE hN [] rfl [] rfl rfl hl.1 (rest := []) rfl (Nat.le_of_ble_eq_true rfl) dX0_addNeed_1 ⟨Nat.le_of_ble_eq_true rfl, Nat.le_of_ble_eq_true rfl⟩ (fun v hv => ?_)
      subst hv
      refine ka_stk (w := [.int 1]) rfl ?_
      refine lv_if_eq (tgt := 19) hx hb dX0_addNeed_4 (by decide) (fun c_ => absurd c_ (by decide)) (fun _ => ?_)
      refine lv_iload_n hx hb dX0_addNeed_7 rfl (lv_at hl 2 rfl) ?_
      refine ka_RS (n := 1) C (cg_X0_isLesson_23 l D F ) gX0_addNeed_X0_isLesson rfl (by decide +kernel) ⟨Nat.le_of_ble_eq_true rfl, Nat.le_of_ble_eq_true rfl⟩ hK hP hS hE hN [] rfl [] rfl rfl hl.1 (rest := []) rfl (Nat.le_of_ble_eq_true rfl) dX0_addNeed_8 ⟨Nat.le_of_ble_eq_true rfl, Nat.le_of_ble_eq_true rfl⟩ (fun v hv => ?_)
      subst hv
      refine ka_stk (w := [.int 1]) rfl ?_
      refine lv_if_eq (tgt := 19) hx hb dX0_addNeed_11 (by decide) (fun c_ => absurd c_ (by decide)) (fun _ => ?_)
      refine lv_iload_n hx hb dX0_addNeed_14 rfl (lv_at hl 1 rfl) ?_
      refine lv_iload_n hx hb dX0_addNeed_15 rfl (lv_at hl 2 rfl) ?_
      refine lv_icmp_ne (tgt := 21) hx hb dX0_addNeed_16 (by decide) (fun _ => ?_) (fun c_ => absurd c_ (by decide))
      refine lv_aload_n hx hb dX0_addNeed_21 rfl (lv_at hl 0 rfl) ?_
      refine ka_get C lq_72 rfl hK hP 0 rfl 1 (by decide) lq_73 rfl dX0_addNeed_22 ?_
      refine lv_iload_n hx hb dX0_addNeed_25 rfl (lv_at hl 1 rfl) ?_
      refine va_iald hx hb hK hP 1 0 rfl rfl (ka_in (by decide) (by decide)) dX0_addNeed_26 ?_
      refine lv_topi (fun v_3435 ev_3435 => ?_)
      refine lv_iload_n hx hb dX0_addNeed_27 rfl (lv_at hl 2 rfl) ?_
      refine ka_RN (n := 2) C (ka_c_bitAt l D F v_3435 1) gX0_addNeed_X6_bitAt_n30 rfl hN.2.2.2.1 lq_74 lq_75 (by decide +kernel) ⟨Nat.le_of_ble_eq_true rfl, Nat.le_of_ble_eq_true rfl⟩ hK hP hS hE hN [] rfl [] rfl rfl hl.1 (rest := []) rfl (Nat.le_of_ble_eq_true rfl) dX0_addNeed_28 ⟨Nat.le_of_ble_eq_true rfl, Nat.le_of_ble_eq_true rfl⟩ (fun v hv => ?_)
      subst hv
      refine ka_stk (w := .int (ka_bit v_3435 1) :: []) rfl ?_
      refine lv_topi (fun v_3436 ev_3436 => ?_)
      have fv_3436 := ka_bit_in v_3435 1; rw [← ev_3436] at fv_3436
      refine lv_iconst (v := 1) hx hb dX0_addNeed_31 (by decide) ?_
      refine lv_icmp_eq (tgt := 48) hx hb dX0_addNeed_32 (by decide) (fun c_3437 => ?_) (fun c_3437 => ?_)
      · have c_3437 : v_3436.toInt = 1 := by rw [ka_eq', show ((1 : Int32)).toInt = 1 from by decide] at c_3437; exact c_3437
        refine lv_iconst (v := 0) hx hb dX0_addNeed_48 (by decide) ?_
        exact ka_rEz C hr hlk rfl (Nat.le_of_ble_eq_true rfl) (Nat.le_of_ble_eq_true rfl) hS (ka_qE (f0, 0) rfl (show 0 ≤ ((0 : Int32)).toInt ∧ ((0 : Int32)).toInt ≤ 1 from ⟨by decide, by decide⟩) hK hP hD hS [0, 1] (by decide) rfl [] rfl) dX0_addNeed_49
      · have c_3437 : ¬ v_3436.toInt = 1 := by rw [ka_eq', show ((1 : Int32)).toInt = 1 from by decide] at c_3437; exact c_3437
        refine lv_aload_n hx hb dX0_addNeed_35 rfl (lv_at hl 0 rfl) ?_
        refine lv_iload_n hx hb dX0_addNeed_36 rfl (lv_at hl 2 rfl) ?_
        refine ka_RV (n := 1) C (cg_X0_neededInTheEnd_32 l D F a0 a1 a2 x2 k0 f0) gX0_addNeed_X0_neededInTheEnd rfl (by decide +kernel) ⟨Nat.le_of_ble_eq_true rfl, Nat.le_of_ble_eq_true rfl⟩ hK hP hS hE hN [0, 1] rfl [0] rfl (ci := 0) rfl rfl 0 rfl rfl hl.1 (rest := []) rfl (Nat.le_of_ble_eq_true rfl) dX0_addNeed_37 ⟨Nat.le_of_ble_eq_true rfl, Nat.le_of_ble_eq_true rfl⟩ (fun v hv => ?_)
        obtain ⟨v_3438, rfl⟩ := hv
        have rv_3438 := ka_rng v_3438
        refine ka_stk (w := [.int v_3438]) rfl ?_
        refine lv_iload_n hx hb dX0_addNeed_40 rfl (lv_at hl 1 rfl) ?_
        refine ka_RN (n := 2) C (ka_c_bitAt l D F v_3438 4) gX0_addNeed_X6_bitAt_n30 rfl hN.2.2.2.1 lq_74 lq_75 (by decide +kernel) ⟨Nat.le_of_ble_eq_true rfl, Nat.le_of_ble_eq_true rfl⟩ hK hP hS hE hN [] rfl [] rfl rfl hl.1 (rest := []) rfl (Nat.le_of_ble_eq_true rfl) dX0_addNeed_41 ⟨Nat.le_of_ble_eq_true rfl, Nat.le_of_ble_eq_true rfl⟩ (fun v hv => ?_)
        subst hv
        refine ka_stk (w := .int (ka_bit v_3438 4) :: []) rfl ?_
        refine lv_topi (fun v_3439 ev_3439 => ?_)
        have fv_3439 := ka_bit_in v_3438 4; rw [← ev_3439] at fv_3439
        refine lv_iconst (v := 1) hx hb dX0_addNeed_44 (by decide) ?_
        refine lv_icmp_ne (tgt := 50) hx hb dX0_addNeed_45 (by decide) (fun c_3440 => ?_) (fun c_3440 => ?_)
        · have c_3440 : ¬ v_3439.toInt = 1 := by rw [ka_eq', show ((1 : Int32)).toInt = 1 from by decide] at c_3440; exact c_3440
          refine lv_aload_n hx hb dX0_addNeed_50 rfl (lv_at hl 0 rfl) ?_
          refine ka_get C lq_72 rfl hK hP 0 rfl 1 (by decide) lq_73 rfl dX0_addNeed_51 ?_
          refine lv_iload_n hx hb dX0_addNeed_54 rfl (lv_at hl 1 rfl) ?_
          refine lv_dup2_11 hx hb dX0_addNeed_55 rfl rfl ?_
          refine va_iald hx hb hK hP 1 0 rfl rfl (ka_in (by decide) (by decide)) dX0_addNeed_56 ?_
          refine lv_topi (fun v_3441 ev_3441 => ?_)
          refine lv_iconst (v := 1) hx hb dX0_addNeed_57 (by decide) ?_
          refine lv_iload_n hx hb dX0_addNeed_58 rfl (lv_at hl 2 rfl) ?_
          refine lv_ishl hx hb dX0_addNeed_59 ?_
          refine ka_top (w := .int 2) (congrArg Value.int (by decide)) ?_
          refine lv_ior hx hb dX0_addNeed_60 ?_
          refine lv_topi (fun v_3442 ev_3442 => ?_)
          refine va_iast hx hb hK hP hD hS 1 0 rfl rfl (ka_in (by decide) (by decide)) dX0_addNeed_61 (fun H locs hP hD hS => ?_)
          have hP : va_P D vwCl [(a0, .inr (0, [.ref a1, .ref a2, .int x2])), (a2, .inl (k0, 6, .inl (upd f0 (Int32.toNatClampNeg 4) v_3442)))] H := hP
          have hD : va_D A [(a0, .inr (0, [.ref a1, .ref a2, .int x2])), (a2, .inl (k0, 6, .inl (upd f0 (Int32.toNatClampNeg 4) v_3442)))] := hD
          generalize (upd f0 (Int32.toNatClampNeg 4) v_3442) = g_3443 at hP hD
          refine lv_iconst (v := 1) hx hb dX0_addNeed_62 (by decide) ?_
          exact ka_rEz C hr hlk rfl (Nat.le_of_ble_eq_true rfl) (Nat.le_of_ble_eq_true rfl) hS (ka_qE (g_3443, 1) rfl (show 0 ≤ ((1 : Int32)).toInt ∧ ((1 : Int32)).toInt ≤ 1 from ⟨by decide, by decide⟩) hK hP hD hS [0, 1] (by decide) rfl [] rfl) dX0_addNeed_63
        · have c_3440 : v_3439.toInt = 1 := by rw [ka_eq', show ((1 : Int32)).toInt = 1 from by decide] at c_3440; exact c_3440
          refine lv_iconst (v := 0) hx hb dX0_addNeed_48 (by decide) ?_
          exact ka_rEz C hr hlk rfl (Nat.le_of_ble_eq_true rfl) (Nat.le_of_ble_eq_true rfl) hS (ka_qE (f0, 0) rfl (show 0 ≤ ((0 : Int32)).toInt ∧ ((0 : Int32)).toInt ≤ 1 from ⟨by decide, by decide⟩) hK hP hD hS [0, 1] (by decide) rfl [] rfl) dX0_addNeed_49
    · obtain rfl : x1 = 2 := (ka_eq' _ _).mpr (y_3425.trans (by decide))
      refine lv_iload_n hx hb dX0_addNeed_0 rfl (lv_at hl 1 rfl) ?_
      refine ka_RS (n := 1) C (cg_X0_isLesson_26 l D F ) gX0_addNeed_X0_isLesson rfl (by decide +kernel) ⟨Nat.le_of_ble_eq_true rfl, Nat.le_of_ble_eq_true rfl⟩ hK hP hS hE hN [] rfl [] rfl rfl hl.1 (rest := []) rfl (Nat.le_of_ble_eq_true rfl) dX0_addNeed_1 ⟨Nat.le_of_ble_eq_true rfl, Nat.le_of_ble_eq_true rfl⟩ (fun v hv => ?_)
      subst hv
      refine ka_stk (w := [.int 1]) rfl ?_
      refine lv_if_eq (tgt := 19) hx hb dX0_addNeed_4 (by decide) (fun c_ => absurd c_ (by decide)) (fun _ => ?_)
      refine lv_iload_n hx hb dX0_addNeed_7 rfl (lv_at hl 2 rfl) ?_
      refine ka_RS (n := 1) C (cg_X0_isLesson_24 l D F ) gX0_addNeed_X0_isLesson rfl (by decide +kernel) ⟨Nat.le_of_ble_eq_true rfl, Nat.le_of_ble_eq_true rfl⟩ hK hP hS hE hN [] rfl [] rfl rfl hl.1 (rest := []) rfl (Nat.le_of_ble_eq_true rfl) dX0_addNeed_8 ⟨Nat.le_of_ble_eq_true rfl, Nat.le_of_ble_eq_true rfl⟩ (fun v hv => ?_)
      subst hv
      refine ka_stk (w := [.int 1]) rfl ?_
      refine lv_if_eq (tgt := 19) hx hb dX0_addNeed_11 (by decide) (fun c_ => absurd c_ (by decide)) (fun _ => ?_)
      refine lv_iload_n hx hb dX0_addNeed_14 rfl (lv_at hl 1 rfl) ?_
      refine lv_iload_n hx hb dX0_addNeed_15 rfl (lv_at hl 2 rfl) ?_
      refine lv_icmp_ne (tgt := 21) hx hb dX0_addNeed_16 (by decide) (fun _ => ?_) (fun c_ => absurd c_ (by decide))
      refine lv_aload_n hx hb dX0_addNeed_21 rfl (lv_at hl 0 rfl) ?_
      refine ka_get C lq_72 rfl hK hP 0 rfl 1 (by decide) lq_73 rfl dX0_addNeed_22 ?_
      refine lv_iload_n hx hb dX0_addNeed_25 rfl (lv_at hl 1 rfl) ?_
      refine va_iald hx hb hK hP 1 0 rfl rfl (ka_in (by decide) (by decide)) dX0_addNeed_26 ?_
      refine lv_topi (fun v_3444 ev_3444 => ?_)
      refine lv_iload_n hx hb dX0_addNeed_27 rfl (lv_at hl 2 rfl) ?_
      refine ka_RN (n := 2) C (ka_c_bitAt l D F v_3444 2) gX0_addNeed_X6_bitAt_n30 rfl hN.2.2.2.1 lq_74 lq_75 (by decide +kernel) ⟨Nat.le_of_ble_eq_true rfl, Nat.le_of_ble_eq_true rfl⟩ hK hP hS hE hN [] rfl [] rfl rfl hl.1 (rest := []) rfl (Nat.le_of_ble_eq_true rfl) dX0_addNeed_28 ⟨Nat.le_of_ble_eq_true rfl, Nat.le_of_ble_eq_true rfl⟩ (fun v hv => ?_)
      subst hv
      refine ka_stk (w := .int (ka_bit v_3444 2) :: []) rfl ?_
      refine lv_topi (fun v_3445 ev_3445 => ?_)
      have fv_3445 := ka_bit_in v_3444 2; rw [← ev_3445] at fv_3445
      refine lv_iconst (v := 1) hx hb dX0_addNeed_31 (by decide) ?_
      refine lv_icmp_eq (tgt := 48) hx hb dX0_addNeed_32 (by decide) (fun c_3446 => ?_) (fun c_3446 => ?_)
      · have c_3446 : v_3445.toInt = 1 := by rw [ka_eq', show ((1 : Int32)).toInt = 1 from by decide] at c_3446; exact c_3446
        refine lv_iconst (v := 0) hx hb dX0_addNeed_48 (by decide) ?_
        exact ka_rEz C hr hlk rfl (Nat.le_of_ble_eq_true rfl) (Nat.le_of_ble_eq_true rfl) hS (ka_qE (f0, 0) rfl (show 0 ≤ ((0 : Int32)).toInt ∧ ((0 : Int32)).toInt ≤ 1 from ⟨by decide, by decide⟩) hK hP hD hS [0, 1] (by decide) rfl [] rfl) dX0_addNeed_49
      · have c_3446 : ¬ v_3445.toInt = 1 := by rw [ka_eq', show ((1 : Int32)).toInt = 1 from by decide] at c_3446; exact c_3446
        refine lv_aload_n hx hb dX0_addNeed_35 rfl (lv_at hl 0 rfl) ?_
        refine lv_iload_n hx hb dX0_addNeed_36 rfl (lv_at hl 2 rfl) ?_
        refine ka_RV (n := 1) C (cg_X0_neededInTheEnd_33 l D F a0 a1 a2 x2 k0 f0) gX0_addNeed_X0_neededInTheEnd rfl (by decide +kernel) ⟨Nat.le_of_ble_eq_true rfl, Nat.le_of_ble_eq_true rfl⟩ hK hP hS hE hN [0, 1] rfl [0] rfl (ci := 0) rfl rfl 0 rfl rfl hl.1 (rest := []) rfl (Nat.le_of_ble_eq_true rfl) dX0_addNeed_37 ⟨Nat.le_of_ble_eq_true rfl, Nat.le_of_ble_eq_true rfl⟩ (fun v hv => ?_)
        obtain ⟨v_3447, rfl⟩ := hv
        have rv_3447 := ka_rng v_3447
        refine ka_stk (w := [.int v_3447]) rfl ?_
        refine lv_iload_n hx hb dX0_addNeed_40 rfl (lv_at hl 1 rfl) ?_
        refine ka_RN (n := 2) C (ka_c_bitAt l D F v_3447 4) gX0_addNeed_X6_bitAt_n30 rfl hN.2.2.2.1 lq_74 lq_75 (by decide +kernel) ⟨Nat.le_of_ble_eq_true rfl, Nat.le_of_ble_eq_true rfl⟩ hK hP hS hE hN [] rfl [] rfl rfl hl.1 (rest := []) rfl (Nat.le_of_ble_eq_true rfl) dX0_addNeed_41 ⟨Nat.le_of_ble_eq_true rfl, Nat.le_of_ble_eq_true rfl⟩ (fun v hv => ?_)
        subst hv
        refine ka_stk (w := .int (ka_bit v_3447 4) :: []) rfl ?_
        refine lv_topi (fun v_3448 ev_3448 => ?_)
        have fv_3448 := ka_bit_in v_3447 4; rw [← ev_3448] at fv_3448
        refine lv_iconst (v := 1) hx hb dX0_addNeed_44 (by decide) ?_
        refine lv_icmp_ne (tgt := 50) hx hb dX0_addNeed_45 (by decide) (fun c_3449 => ?_) (fun c_3449 => ?_)
        · have c_3449 : ¬ v_3448.toInt = 1 := by rw [ka_eq', show ((1 : Int32)).toInt = 1 from by decide] at c_3449; exact c_3449
          refine lv_aload_n hx hb dX0_addNeed_50 rfl (lv_at hl 0 rfl) ?_
          refine ka_get C lq_72 rfl hK hP 0 rfl 1 (by decide) lq_73 rfl dX0_addNeed_51 ?_
          refine lv_iload_n hx hb dX0_addNeed_54 rfl (lv_at hl 1 rfl) ?_
          refine lv_dup2_11 hx hb dX0_addNeed_55 rfl rfl ?_
          refine va_iald hx hb hK hP 1 0 rfl rfl (ka_in (by decide) (by decide)) dX0_addNeed_56 ?_
          refine lv_topi (fun v_3450 ev_3450 => ?_)
          refine lv_iconst (v := 1) hx hb dX0_addNeed_57 (by decide) ?_
          refine lv_iload_n hx hb dX0_addNeed_58 rfl (lv_at hl 2 rfl) ?_
          refine lv_ishl hx hb dX0_addNeed_59 ?_
          refine ka_top (w := .int 4) (congrArg Value.int (by decide)) ?_
          refine lv_ior hx hb dX0_addNeed_60 ?_
          refine lv_topi (fun v_3451 ev_3451 => ?_)
          refine va_iast hx hb hK hP hD hS 1 0 rfl rfl (ka_in (by decide) (by decide)) dX0_addNeed_61 (fun H locs hP hD hS => ?_)
          have hP : va_P D vwCl [(a0, .inr (0, [.ref a1, .ref a2, .int x2])), (a2, .inl (k0, 6, .inl (upd f0 (Int32.toNatClampNeg 4) v_3451)))] H := hP
          have hD : va_D A [(a0, .inr (0, [.ref a1, .ref a2, .int x2])), (a2, .inl (k0, 6, .inl (upd f0 (Int32.toNatClampNeg 4) v_3451)))] := hD
          generalize (upd f0 (Int32.toNatClampNeg 4) v_3451) = g_3452 at hP hD
          refine lv_iconst (v := 1) hx hb dX0_addNeed_62 (by decide) ?_
          exact ka_rEz C hr hlk rfl (Nat.le_of_ble_eq_true rfl) (Nat.le_of_ble_eq_true rfl) hS (ka_qE (g_3452, 1) rfl (show 0 ≤ ((1 : Int32)).toInt ∧ ((1 : Int32)).toInt ≤ 1 from ⟨by decide, by decide⟩) hK hP hD hS [0, 1] (by decide) rfl [] rfl) dX0_addNeed_63
        · have c_3449 : v_3448.toInt = 1 := by rw [ka_eq', show ((1 : Int32)).toInt = 1 from by decide] at c_3449; exact c_3449
          refine lv_iconst (v := 0) hx hb dX0_addNeed_48 (by decide) ?_
          exact ka_rEz C hr hlk rfl (Nat.le_of_ble_eq_true rfl) (Nat.le_of_ble_eq_true rfl) hS (ka_qE (f0, 0) rfl (show 0 ≤ ((0 : Int32)).toInt ∧ ((0 : Int32)).toInt ≤ 1 from ⟨by decide, by decide⟩) hK hP hD hS [0, 1] (by decide) rfl [] rfl) dX0_addNeed_49
    · obtain rfl : x1 = 3 := (ka_eq' _ _).mpr (y_3425.trans (by decide))
      refine lv_iload_n hx hb dX0_addNeed_0 rfl (lv_at hl 1 rfl) ?_
      refine ka_RS (n := 1) C (cg_X0_isLesson_26 l D F ) gX0_addNeed_X0_isLesson rfl (by decide +kernel) ⟨Nat.le_of_ble_eq_true rfl, Nat.le_of_ble_eq_true rfl⟩ hK hP hS hE hN [] rfl [] rfl rfl hl.1 (rest := []) rfl (Nat.le_of_ble_eq_true rfl) dX0_addNeed_1 ⟨Nat.le_of_ble_eq_true rfl, Nat.le_of_ble_eq_true rfl⟩ (fun v hv => ?_)
      subst hv
      refine ka_stk (w := [.int 1]) rfl ?_
      refine lv_if_eq (tgt := 19) hx hb dX0_addNeed_4 (by decide) (fun c_ => absurd c_ (by decide)) (fun _ => ?_)
      refine lv_iload_n hx hb dX0_addNeed_7 rfl (lv_at hl 2 rfl) ?_
      refine ka_RS (n := 1) C (cg_X0_isLesson_25 l D F ) gX0_addNeed_X0_isLesson rfl (by decide +kernel) ⟨Nat.le_of_ble_eq_true rfl, Nat.le_of_ble_eq_true rfl⟩ hK hP hS hE hN [] rfl [] rfl rfl hl.1 (rest := []) rfl (Nat.le_of_ble_eq_true rfl) dX0_addNeed_8 ⟨Nat.le_of_ble_eq_true rfl, Nat.le_of_ble_eq_true rfl⟩ (fun v hv => ?_)
      subst hv
      refine ka_stk (w := [.int 1]) rfl ?_
      refine lv_if_eq (tgt := 19) hx hb dX0_addNeed_11 (by decide) (fun c_ => absurd c_ (by decide)) (fun _ => ?_)
      refine lv_iload_n hx hb dX0_addNeed_14 rfl (lv_at hl 1 rfl) ?_
      refine lv_iload_n hx hb dX0_addNeed_15 rfl (lv_at hl 2 rfl) ?_
      refine lv_icmp_ne (tgt := 21) hx hb dX0_addNeed_16 (by decide) (fun _ => ?_) (fun c_ => absurd c_ (by decide))
      refine lv_aload_n hx hb dX0_addNeed_21 rfl (lv_at hl 0 rfl) ?_
      refine ka_get C lq_72 rfl hK hP 0 rfl 1 (by decide) lq_73 rfl dX0_addNeed_22 ?_
      refine lv_iload_n hx hb dX0_addNeed_25 rfl (lv_at hl 1 rfl) ?_
      refine va_iald hx hb hK hP 1 0 rfl rfl (ka_in (by decide) (by decide)) dX0_addNeed_26 ?_
      refine lv_topi (fun v_3453 ev_3453 => ?_)
      refine lv_iload_n hx hb dX0_addNeed_27 rfl (lv_at hl 2 rfl) ?_
      refine ka_RN (n := 2) C (ka_c_bitAt l D F v_3453 3) gX0_addNeed_X6_bitAt_n30 rfl hN.2.2.2.1 lq_74 lq_75 (by decide +kernel) ⟨Nat.le_of_ble_eq_true rfl, Nat.le_of_ble_eq_true rfl⟩ hK hP hS hE hN [] rfl [] rfl rfl hl.1 (rest := []) rfl (Nat.le_of_ble_eq_true rfl) dX0_addNeed_28 ⟨Nat.le_of_ble_eq_true rfl, Nat.le_of_ble_eq_true rfl⟩ (fun v hv => ?_)
      subst hv
      refine ka_stk (w := .int (ka_bit v_3453 3) :: []) rfl ?_
      refine lv_topi (fun v_3454 ev_3454 => ?_)
      have fv_3454 := ka_bit_in v_3453 3; rw [← ev_3454] at fv_3454
      refine lv_iconst (v := 1) hx hb dX0_addNeed_31 (by decide) ?_
      refine lv_icmp_eq (tgt := 48) hx hb dX0_addNeed_32 (by decide) (fun c_3455 => ?_) (fun c_3455 => ?_)
      · have c_3455 : v_3454.toInt = 1 := by rw [ka_eq', show ((1 : Int32)).toInt = 1 from by decide] at c_3455; exact c_3455
        refine lv_iconst (v := 0) hx hb dX0_addNeed_48 (by decide) ?_
        exact ka_rEz C hr hlk rfl (Nat.le_of_ble_eq_true rfl) (Nat.le_of_ble_eq_true rfl) hS (ka_qE (f0, 0) rfl (show 0 ≤ ((0 : Int32)).toInt ∧ ((0 : Int32)).toInt ≤ 1 from ⟨by decide, by decide⟩) hK hP hD hS [0, 1] (by decide) rfl [] rfl) dX0_addNeed_49
      · have c_3455 : ¬ v_3454.toInt = 1 := by rw [ka_eq', show ((1 : Int32)).toInt = 1 from by decide] at c_3455; exact c_3455
        refine lv_aload_n hx hb dX0_addNeed_35 rfl (lv_at hl 0 rfl) ?_
        refine lv_iload_n hx hb dX0_addNeed_36 rfl (lv_at hl 2 rfl) ?_
        refine ka_RV (n := 1) C (cg_X0_neededInTheEnd_34 l D F a0 a1 a2 x2 k0 f0) gX0_addNeed_X0_neededInTheEnd rfl (by decide +kernel) ⟨Nat.le_of_ble_eq_true rfl, Nat.le_of_ble_eq_true rfl⟩ hK hP hS hE hN [0, 1] rfl [0] rfl (ci := 0) rfl rfl 0 rfl rfl hl.1 (rest := []) rfl (Nat.le_of_ble_eq_true rfl) dX0_addNeed_37 ⟨Nat.le_of_ble_eq_true rfl, Nat.le_of_ble_eq_true rfl⟩ (fun v hv => ?_)
        obtain ⟨v_3456, rfl⟩ := hv
        have rv_3456 := ka_rng v_3456
        refine ka_stk (w := [.int v_3456]) rfl ?_
        refine lv_iload_n hx hb dX0_addNeed_40 rfl (lv_at hl 1 rfl) ?_
        refine ka_RN (n := 2) C (ka_c_bitAt l D F v_3456 4) gX0_addNeed_X6_bitAt_n30 rfl hN.2.2.2.1 lq_74 lq_75 (by decide +kernel) ⟨Nat.le_of_ble_eq_true rfl, Nat.le_of_ble_eq_true rfl⟩ hK hP hS hE hN [] rfl [] rfl rfl hl.1 (rest := []) rfl (Nat.le_of_ble_eq_true rfl) dX0_addNeed_41 ⟨Nat.le_of_ble_eq_true rfl, Nat.le_of_ble_eq_true rfl⟩ (fun v hv => ?_)
        subst hv
        refine ka_stk (w := .int (ka_bit v_3456 4) :: []) rfl ?_
        refine lv_topi (fun v_3457 ev_3457 => ?_)
        have fv_3457 := ka_bit_in v_3456 4; rw [← ev_3457] at fv_3457
        refine lv_iconst (v := 1) hx hb dX0_addNeed_44 (by decide) ?_
        refine lv_icmp_ne (tgt := 50) hx hb dX0_addNeed_45 (by decide) (fun c_3458 => ?_) (fun c_3458 => ?_)
        · have c_3458 : ¬ v_3457.toInt = 1 := by rw [ka_eq', show ((1 : Int32)).toInt = 1 from by decide] at c_3458; exact c_3458
          refine lv_aload_n hx hb dX0_addNeed_50 rfl (lv_at hl 0 rfl) ?_
          refine ka_get C lq_72 rfl hK hP 0 rfl 1 (by decide) lq_73 rfl dX0_addNeed_51 ?_
          refine lv_iload_n hx hb dX0_addNeed_54 rfl (lv_at hl 1 rfl) ?_
          refine lv_dup2_11 hx hb dX0_addNeed_55 rfl rfl ?_
          refine va_iald hx hb hK hP 1 0 rfl rfl (ka_in (by decide) (by decide)) dX0_addNeed_56 ?_
          refine lv_topi (fun v_3459 ev_3459 => ?_)
          refine lv_iconst (v := 1) hx hb dX0_addNeed_57 (by decide) ?_
          refine lv_iload_n hx hb dX0_addNeed_58 rfl (lv_at hl 2 rfl) ?_
          refine lv_ishl hx hb dX0_addNeed_59 ?_
          refine ka_top (w := .int 8) (congrArg Value.int (by decide)) ?_
          refine lv_ior hx hb dX0_addNeed_60 ?_
          refine lv_topi (fun v_3460 ev_3460 => ?_)
          refine va_iast hx hb hK hP hD hS 1 0 rfl rfl (ka_in (by decide) (by decide)) dX0_addNeed_61 (fun H locs hP hD hS => ?_)
          have hP : va_P D vwCl [(a0, .inr (0, [.ref a1, .ref a2, .int x2])), (a2, .inl (k0, 6, .inl (upd f0 (Int32.toNatClampNeg 4) v_3460)))] H := hP
          have hD : va_D A [(a0, .inr (0, [.ref a1, .ref a2, .int x2])), (a2, .inl (k0, 6, .inl (upd f0 (Int32.toNatClampNeg 4) v_3460)))] := hD
          generalize (upd f0 (Int32.toNatClampNeg 4) v_3460) = g_3461 at hP hD
          refine lv_iconst (v := 1) hx hb dX0_addNeed_62 (by decide) ?_
          exact ka_rEz C hr hlk rfl (Nat.le_of_ble_eq_true rfl) (Nat.le_of_ble_eq_true rfl) hS (ka_qE (g_3461, 1) rfl (show 0 ≤ ((1 : Int32)).toInt ∧ ((1 : Int32)).toInt ≤ 1 from ⟨by decide, by decide⟩) hK hP hD hS [0, 1] (by decide) rfl [] rfl) dX0_addNeed_63
        · have c_3458 : v_3457.toInt = 1 := by rw [ka_eq', show ((1 : Int32)).toInt = 1 from by decide] at c_3458; exact c_3458
          refine lv_iconst (v := 0) hx hb dX0_addNeed_48 (by decide) ?_
          exact ka_rEz C hr hlk rfl (Nat.le_of_ble_eq_true rfl) (Nat.le_of_ble_eq_true rfl) hS (ka_qE (f0, 0) rfl (show 0 ≤ ((0 : Int32)).toInt ∧ ((0 : Int32)).toInt ≤ 1 from ⟨by decide, by decide⟩) hK hP hD hS [0, 1] (by decide) rfl [] rfl) dX0_addNeed_49
    · obtain rfl : x1 = 4 := (ka_eq' _ _).mpr (y_3425.trans (by decide))
      refine lv_iload_n hx hb dX0_addNeed_0 rfl (lv_at hl 1 rfl) ?_
      refine ka_RS (n := 1) C (cg_X0_isLesson_26 l D F ) gX0_addNeed_X0_isLesson rfl (by decide +kernel) ⟨Nat.le_of_ble_eq_true rfl, Nat.le_of_ble_eq_true rfl⟩ hK hP hS hE hN [] rfl [] rfl rfl hl.1 (rest := []) rfl (Nat.le_of_ble_eq_true rfl) dX0_addNeed_1 ⟨Nat.le_of_ble_eq_true rfl, Nat.le_of_ble_eq_true rfl⟩ (fun v hv => ?_)
      subst hv
      refine ka_stk (w := [.int 1]) rfl ?_
      refine lv_if_eq (tgt := 19) hx hb dX0_addNeed_4 (by decide) (fun c_ => absurd c_ (by decide)) (fun _ => ?_)
      refine lv_iload_n hx hb dX0_addNeed_7 rfl (lv_at hl 2 rfl) ?_
      refine ka_RS (n := 1) C (cg_X0_isLesson_26 l D F ) gX0_addNeed_X0_isLesson rfl (by decide +kernel) ⟨Nat.le_of_ble_eq_true rfl, Nat.le_of_ble_eq_true rfl⟩ hK hP hS hE hN [] rfl [] rfl rfl hl.1 (rest := []) rfl (Nat.le_of_ble_eq_true rfl) dX0_addNeed_8 ⟨Nat.le_of_ble_eq_true rfl, Nat.le_of_ble_eq_true rfl⟩ (fun v hv => ?_)
      subst hv
      refine ka_stk (w := [.int 1]) rfl ?_
      refine lv_if_eq (tgt := 19) hx hb dX0_addNeed_11 (by decide) (fun c_ => absurd c_ (by decide)) (fun _ => ?_)
      refine lv_iload_n hx hb dX0_addNeed_14 rfl (lv_at hl 1 rfl) ?_
      refine lv_iload_n hx hb dX0_addNeed_15 rfl (lv_at hl 2 rfl) ?_
      refine lv_icmp_ne (tgt := 21) hx hb dX0_addNeed_16 (by decide) (fun c_ => absurd (by decide) c_) (fun _ => ?_)
      refine lv_iconst (v := 0) hx hb dX0_addNeed_19 (by decide) ?_
      exact ka_rEz C hr hlk rfl (Nat.le_of_ble_eq_true rfl) (Nat.le_of_ble_eq_true rfl) hS (ka_qE (f0, 0) rfl (show 0 ≤ ((0 : Int32)).toInt ∧ ((0 : Int32)).toInt ≤ 1 from ⟨by decide, by decide⟩) hK hP hD hS [0, 1] (by decide) rfl [] rfl) dX0_addNeed_20
    · obtain rfl : x1 = 5 := (ka_eq' _ _).mpr (y_3425.trans (by decide))
      refine lv_iload_n hx hb dX0_addNeed_0 rfl (lv_at hl 1 rfl) ?_
      refine ka_RS (n := 1) C (cg_X0_isLesson_26 l D F ) gX0_addNeed_X0_isLesson rfl (by decide +kernel) ⟨Nat.le_of_ble_eq_true rfl, Nat.le_of_ble_eq_true rfl⟩ hK hP hS hE hN [] rfl [] rfl rfl hl.1 (rest := []) rfl (Nat.le_of_ble_eq_true rfl) dX0_addNeed_1 ⟨Nat.le_of_ble_eq_true rfl, Nat.le_of_ble_eq_true rfl⟩ (fun v hv => ?_)
      subst hv
      refine ka_stk (w := [.int 1]) rfl ?_
      refine lv_if_eq (tgt := 19) hx hb dX0_addNeed_4 (by decide) (fun c_ => absurd c_ (by decide)) (fun _ => ?_)
      refine lv_iload_n hx hb dX0_addNeed_7 rfl (lv_at hl 2 rfl) ?_
      refine ka_RS (n := 1) C (cg_X0_isLesson_27 l D F ) gX0_addNeed_X0_isLesson rfl (by decide +kernel) ⟨Nat.le_of_ble_eq_true rfl, Nat.le_of_ble_eq_true rfl⟩ hK hP hS hE hN [] rfl [] rfl rfl hl.1 (rest := []) rfl (Nat.le_of_ble_eq_true rfl) dX0_addNeed_8 ⟨Nat.le_of_ble_eq_true rfl, Nat.le_of_ble_eq_true rfl⟩ (fun v hv => ?_)
      subst hv
      refine ka_stk (w := [.int 1]) rfl ?_
      refine lv_if_eq (tgt := 19) hx hb dX0_addNeed_11 (by decide) (fun c_ => absurd c_ (by decide)) (fun _ => ?_)
      refine lv_iload_n hx hb dX0_addNeed_14 rfl (lv_at hl 1 rfl) ?_
      refine lv_iload_n hx hb dX0_addNeed_15 rfl (lv_at hl 2 rfl) ?_
      refine lv_icmp_ne (tgt := 21) hx hb dX0_addNeed_16 (by decide) (fun _ => ?_) (fun c_ => absurd c_ (by decide))
      refine lv_aload_n hx hb dX0_addNeed_21 rfl (lv_at hl 0 rfl) ?_
      refine ka_get C lq_72 rfl hK hP 0 rfl 1 (by decide) lq_73 rfl dX0_addNeed_22 ?_
      refine lv_iload_n hx hb dX0_addNeed_25 rfl (lv_at hl 1 rfl) ?_
      refine va_iald hx hb hK hP 1 0 rfl rfl (ka_in (by decide) (by decide)) dX0_addNeed_26 ?_
      refine lv_topi (fun v_3462 ev_3462 => ?_)
      refine lv_iload_n hx hb dX0_addNeed_27 rfl (lv_at hl 2 rfl) ?_
      refine ka_RN (n := 2) C (ka_c_bitAt l D F v_3462 5) gX0_addNeed_X6_bitAt_n30 rfl hN.2.2.2.1 lq_74 lq_75 (by decide +kernel) ⟨Nat.le_of_ble_eq_true rfl, Nat.le_of_ble_eq_true rfl⟩ hK hP hS hE hN [] rfl [] rfl rfl hl.1 (rest := []) rfl (Nat.le_of_ble_eq_true rfl) dX0_addNeed_28 ⟨Nat.le_of_ble_eq_true rfl, Nat.le_of_ble_eq_true rfl⟩ (fun v hv => ?_)
      subst hv
      refine ka_stk (w := .int (ka_bit v_3462 5) :: []) rfl ?_
      refine lv_topi (fun v_3463 ev_3463 => ?_)
      have fv_3463 := ka_bit_in v_3462 5; rw [← ev_3463] at fv_3463
      refine lv_iconst (v := 1) hx hb dX0_addNeed_31 (by decide) ?_
      refine lv_icmp_eq (tgt := 48) hx hb dX0_addNeed_32 (by decide) (fun c_3464 => ?_) (fun c_3464 => ?_)
      · have c_3464 : v_3463.toInt = 1 := by rw [ka_eq', show ((1 : Int32)).toInt = 1 from by decide] at c_3464; exact c_3464
        refine lv_iconst (v := 0) hx hb dX0_addNeed_48 (by decide) ?_
        exact ka_rEz C hr hlk rfl (Nat.le_of_ble_eq_true rfl) (Nat.le_of_ble_eq_true rfl) hS (ka_qE (f0, 0) rfl (show 0 ≤ ((0 : Int32)).toInt ∧ ((0 : Int32)).toInt ≤ 1 from ⟨by decide, by decide⟩) hK hP hD hS [0, 1] (by decide) rfl [] rfl) dX0_addNeed_49
      · have c_3464 : ¬ v_3463.toInt = 1 := by rw [ka_eq', show ((1 : Int32)).toInt = 1 from by decide] at c_3464; exact c_3464
        refine lv_aload_n hx hb dX0_addNeed_35 rfl (lv_at hl 0 rfl) ?_
        refine lv_iload_n hx hb dX0_addNeed_36 rfl (lv_at hl 2 rfl) ?_
        refine ka_RV (n := 1) C (cg_X0_neededInTheEnd_36 l D F a0 a1 a2 x2 k0 f0) gX0_addNeed_X0_neededInTheEnd rfl (by decide +kernel) ⟨Nat.le_of_ble_eq_true rfl, Nat.le_of_ble_eq_true rfl⟩ hK hP hS hE hN [0, 1] rfl [0] rfl (ci := 0) rfl rfl 0 rfl rfl hl.1 (rest := []) rfl (Nat.le_of_ble_eq_true rfl) dX0_addNeed_37 ⟨Nat.le_of_ble_eq_true rfl, Nat.le_of_ble_eq_true rfl⟩ (fun v hv => ?_)
        obtain ⟨v_3465, rfl⟩ := hv
        have rv_3465 := ka_rng v_3465
        refine ka_stk (w := [.int v_3465]) rfl ?_
        refine lv_iload_n hx hb dX0_addNeed_40 rfl (lv_at hl 1 rfl) ?_
        refine ka_RN (n := 2) C (ka_c_bitAt l D F v_3465 4) gX0_addNeed_X6_bitAt_n30 rfl hN.2.2.2.1 lq_74 lq_75 (by decide +kernel) ⟨Nat.le_of_ble_eq_true rfl, Nat.le_of_ble_eq_true rfl⟩ hK hP hS hE hN [] rfl [] rfl rfl hl.1 (rest := []) rfl (Nat.le_of_ble_eq_true rfl) dX0_addNeed_41 ⟨Nat.le_of_ble_eq_true rfl, Nat.le_of_ble_eq_true rfl⟩ (fun v hv => ?_)
        subst hv
        refine ka_stk (w := .int (ka_bit v_3465 4) :: []) rfl ?_
        refine lv_topi (fun v_3466 ev_3466 => ?_)
        have fv_3466 := ka_bit_in v_3465 4; rw [← ev_3466] at fv_3466
        refine lv_iconst (v := 1) hx hb dX0_addNeed_44 (by decide) ?_
        refine lv_icmp_ne (tgt := 50) hx hb dX0_addNeed_45 (by decide) (fun c_3467 => ?_) (fun c_3467 => ?_)
        · have c_3467 : ¬ v_3466.toInt = 1 := by rw [ka_eq', show ((1 : Int32)).toInt = 1 from by decide] at c_3467; exact c_3467
          refine lv_aload_n hx hb dX0_addNeed_50 rfl (lv_at hl 0 rfl) ?_
          refine ka_get C lq_72 rfl hK hP 0 rfl 1 (by decide) lq_73 rfl dX0_addNeed_51 ?_
          refine lv_iload_n hx hb dX0_addNeed_54 rfl (lv_at hl 1 rfl) ?_
          refine lv_dup2_11 hx hb dX0_addNeed_55 rfl rfl ?_
          refine va_iald hx hb hK hP 1 0 rfl rfl (ka_in (by decide) (by decide)) dX0_addNeed_56 ?_
          refine lv_topi (fun v_3468 ev_3468 => ?_)
          refine lv_iconst (v := 1) hx hb dX0_addNeed_57 (by decide) ?_
          refine lv_iload_n hx hb dX0_addNeed_58 rfl (lv_at hl 2 rfl) ?_
          refine lv_ishl hx hb dX0_addNeed_59 ?_
          refine ka_top (w := .int 32) (congrArg Value.int (by decide)) ?_
          refine lv_ior hx hb dX0_addNeed_60 ?_
          refine lv_topi (fun v_3469 ev_3469 => ?_)
          refine va_iast hx hb hK hP hD hS 1 0 rfl rfl (ka_in (by decide) (by decide)) dX0_addNeed_61 (fun H locs hP hD hS => ?_)
          have hP : va_P D vwCl [(a0, .inr (0, [.ref a1, .ref a2, .int x2])), (a2, .inl (k0, 6, .inl (upd f0 (Int32.toNatClampNeg 4) v_3469)))] H := hP
          have hD : va_D A [(a0, .inr (0, [.ref a1, .ref a2, .int x2])), (a2, .inl (k0, 6, .inl (upd f0 (Int32.toNatClampNeg 4) v_3469)))] := hD
          generalize (upd f0 (Int32.toNatClampNeg 4) v_3469) = g_3470 at hP hD
          refine lv_iconst (v := 1) hx hb dX0_addNeed_62 (by decide) ?_
          exact ka_rEz C hr hlk rfl (Nat.le_of_ble_eq_true rfl) (Nat.le_of_ble_eq_true rfl) hS (ka_qE (g_3470, 1) rfl (show 0 ≤ ((1 : Int32)).toInt ∧ ((1 : Int32)).toInt ≤ 1 from ⟨by decide, by decide⟩) hK hP hD hS [0, 1] (by decide) rfl [] rfl) dX0_addNeed_63
        · have c_3467 : v_3466.toInt = 1 := by rw [ka_eq', show ((1 : Int32)).toInt = 1 from by decide] at c_3467; exact c_3467
          refine lv_iconst (v := 0) hx hb dX0_addNeed_48 (by decide) ?_
          exact ka_rEz C hr hlk rfl (Nat.le_of_ble_eq_true rfl) (Nat.le_of_ble_eq_true rfl) hS (ka_qE (f0, 0) rfl (show 0 ≤ ((0 : Int32)).toInt ∧ ((0 : Int32)).toInt ≤ 1 from ⟨by decide, by decide⟩) hK hP hD hS [0, 1] (by decide) rfl [] rfl) dX0_addNeed_49
    · skip
      refine lv_iload_n hx hb dX0_addNeed_0 rfl (lv_at hl 1 rfl) ?_
      refine ka_RS (n := 1) C (cg_X0_isLesson_26 l D F ) gX0_addNeed_X0_isLesson rfl (by decide +kernel) ⟨Nat.le_of_ble_eq_true rfl, Nat.le_of_ble_eq_true rfl⟩ hK hP hS hE hN [] rfl [] rfl rfl hl.1 (rest := []) rfl (Nat.le_of_ble_eq_true rfl) dX0_addNeed_1 ⟨Nat.le_of_ble_eq_true rfl, Nat.le_of_ble_eq_true rfl⟩ (fun v hv => ?_)
      subst hv
      refine ka_stk (w := [.int 1]) rfl ?_
      refine lv_if_eq (tgt := 19) hx hb dX0_addNeed_4 (by decide) (fun c_ => absurd c_ (by decide)) (fun _ => ?_)
      refine lv_iload_n hx hb dX0_addNeed_7 rfl (lv_at hl 2 rfl) ?_
      refine ka_RS (n := 1) C (cg_X0_isLesson_28 l D F x1 (by omega)) gX0_addNeed_X0_isLesson rfl (by decide +kernel) ⟨Nat.le_of_ble_eq_true rfl, Nat.le_of_ble_eq_true rfl⟩ hK hP hS hE hN [] rfl [] rfl rfl hl.1 (rest := []) rfl (Nat.le_of_ble_eq_true rfl) dX0_addNeed_8 ⟨Nat.le_of_ble_eq_true rfl, Nat.le_of_ble_eq_true rfl⟩ (fun v hv => ?_)
      subst hv
      refine ka_stk (w := [.int 0]) rfl ?_
      refine lv_if_eq (tgt := 19) hx hb dX0_addNeed_11 (by decide) (fun _ => ?_) (fun c_ => absurd (by decide) c_)
      refine lv_iconst (v := 0) hx hb dX0_addNeed_19 (by decide) ?_
      exact ka_rEz C hr hlk rfl (Nat.le_of_ble_eq_true rfl) (Nat.le_of_ble_eq_true rfl) hS (ka_qE (f0, 0) rfl (show 0 ≤ ((0 : Int32)).toInt ∧ ((0 : Int32)).toInt ≤ 1 from ⟨by decide, by decide⟩) hK hP hD hS [0, 1] (by decide) rfl [] rfl) dX0_addNeed_20
  · obtain rfl : x0 = 5 := (ka_eq' _ _).mpr (y_3239.trans (by decide))
    rcases (show x1.toInt ≤ -1 ∨ x1.toInt = 0 ∨ x1.toInt = 1 ∨ x1.toInt = 2 ∨ x1.toInt = 3 ∨ x1.toInt = 4 ∨ x1.toInt = 5 ∨ 6 ≤ x1.toInt by omega) with y_3471 | y_3471 | y_3471 | y_3471 | y_3471 | y_3471 | y_3471 | y_3471
    · skip
      refine lv_iload_n hx hb dX0_addNeed_0 rfl (lv_at hl 1 rfl) ?_
      refine ka_RS (n := 1) C (cg_X0_isLesson_27 l D F ) gX0_addNeed_X0_isLesson rfl (by decide +kernel) ⟨Nat.le_of_ble_eq_true rfl, Nat.le_of_ble_eq_true rfl⟩ hK hP hS hE hN [] rfl [] rfl rfl hl.1 (rest := []) rfl (Nat.le_of_ble_eq_true rfl) dX0_addNeed_1 ⟨Nat.le_of_ble_eq_true rfl, Nat.le_of_ble_eq_true rfl⟩ (fun v hv => ?_)
      subst hv
      refine ka_stk (w := [.int 1]) rfl ?_
      refine lv_if_eq (tgt := 19) hx hb dX0_addNeed_4 (by decide) (fun c_ => absurd c_ (by decide)) (fun _ => ?_)
      refine lv_iload_n hx hb dX0_addNeed_7 rfl (lv_at hl 2 rfl) ?_
      refine ka_RS (n := 1) C (cg_X0_isLesson_21 l D F x1 (by omega)) gX0_addNeed_X0_isLesson rfl (by decide +kernel) ⟨Nat.le_of_ble_eq_true rfl, Nat.le_of_ble_eq_true rfl⟩ hK hP hS hE hN [] rfl [] rfl rfl hl.1 (rest := []) rfl (Nat.le_of_ble_eq_true rfl) dX0_addNeed_8 ⟨Nat.le_of_ble_eq_true rfl, Nat.le_of_ble_eq_true rfl⟩ (fun v hv => ?_)
      subst hv
      refine ka_stk (w := [.int 0]) rfl ?_
      refine lv_if_eq (tgt := 19) hx hb dX0_addNeed_11 (by decide) (fun _ => ?_) (fun c_ => absurd (by decide) c_)
      refine lv_iconst (v := 0) hx hb dX0_addNeed_19 (by decide) ?_
      exact ka_rEz C hr hlk rfl (Nat.le_of_ble_eq_true rfl) (Nat.le_of_ble_eq_true rfl) hS (ka_qE (f0, 0) rfl (show 0 ≤ ((0 : Int32)).toInt ∧ ((0 : Int32)).toInt ≤ 1 from ⟨by decide, by decide⟩) hK hP hD hS [0, 1] (by decide) rfl [] rfl) dX0_addNeed_20
    · obtain rfl : x1 = 0 := (ka_eq' _ _).mpr (y_3471.trans (by decide))
      refine lv_iload_n hx hb dX0_addNeed_0 rfl (lv_at hl 1 rfl) ?_
      refine ka_RS (n := 1) C (cg_X0_isLesson_27 l D F ) gX0_addNeed_X0_isLesson rfl (by decide +kernel) ⟨Nat.le_of_ble_eq_true rfl, Nat.le_of_ble_eq_true rfl⟩ hK hP hS hE hN [] rfl [] rfl rfl hl.1 (rest := []) rfl (Nat.le_of_ble_eq_true rfl) dX0_addNeed_1 ⟨Nat.le_of_ble_eq_true rfl, Nat.le_of_ble_eq_true rfl⟩ (fun v hv => ?_)
      subst hv
      refine ka_stk (w := [.int 1]) rfl ?_
      refine lv_if_eq (tgt := 19) hx hb dX0_addNeed_4 (by decide) (fun c_ => absurd c_ (by decide)) (fun _ => ?_)
      refine lv_iload_n hx hb dX0_addNeed_7 rfl (lv_at hl 2 rfl) ?_
      refine ka_RS (n := 1) C (cg_X0_isLesson_22 l D F ) gX0_addNeed_X0_isLesson rfl (by decide +kernel) ⟨Nat.le_of_ble_eq_true rfl, Nat.le_of_ble_eq_true rfl⟩ hK hP hS hE hN [] rfl [] rfl rfl hl.1 (rest := []) rfl (Nat.le_of_ble_eq_true rfl) dX0_addNeed_8 ⟨Nat.le_of_ble_eq_true rfl, Nat.le_of_ble_eq_true rfl⟩ (fun v hv => ?_)
      subst hv
      refine ka_stk (w := [.int 1]) rfl ?_
      refine lv_if_eq (tgt := 19) hx hb dX0_addNeed_11 (by decide) (fun c_ => absurd c_ (by decide)) (fun _ => ?_)
      refine lv_iload_n hx hb dX0_addNeed_14 rfl (lv_at hl 1 rfl) ?_
      refine lv_iload_n hx hb dX0_addNeed_15 rfl (lv_at hl 2 rfl) ?_
      refine lv_icmp_ne (tgt := 21) hx hb dX0_addNeed_16 (by decide) (fun _ => ?_) (fun c_ => absurd c_ (by decide))
      refine lv_aload_n hx hb dX0_addNeed_21 rfl (lv_at hl 0 rfl) ?_
      refine ka_get C lq_72 rfl hK hP 0 rfl 1 (by decide) lq_73 rfl dX0_addNeed_22 ?_
      refine lv_iload_n hx hb dX0_addNeed_25 rfl (lv_at hl 1 rfl) ?_
      refine va_iald hx hb hK hP 1 0 rfl rfl (ka_in (by decide) (by decide)) dX0_addNeed_26 ?_
      refine lv_topi (fun v_3472 ev_3472 => ?_)
      refine lv_iload_n hx hb dX0_addNeed_27 rfl (lv_at hl 2 rfl) ?_
      refine ka_RN (n := 2) C (ka_c_bitAt l D F v_3472 0) gX0_addNeed_X6_bitAt_n30 rfl hN.2.2.2.1 lq_74 lq_75 (by decide +kernel) ⟨Nat.le_of_ble_eq_true rfl, Nat.le_of_ble_eq_true rfl⟩ hK hP hS hE hN [] rfl [] rfl rfl hl.1 (rest := []) rfl (Nat.le_of_ble_eq_true rfl) dX0_addNeed_28 ⟨Nat.le_of_ble_eq_true rfl, Nat.le_of_ble_eq_true rfl⟩ (fun v hv => ?_)
      subst hv
      refine ka_stk (w := .int (ka_bit v_3472 0) :: []) rfl ?_
      refine lv_topi (fun v_3473 ev_3473 => ?_)
      have fv_3473 := ka_bit_in v_3472 0; rw [← ev_3473] at fv_3473
      refine lv_iconst (v := 1) hx hb dX0_addNeed_31 (by decide) ?_
      refine lv_icmp_eq (tgt := 48) hx hb dX0_addNeed_32 (by decide) (fun c_3474 => ?_) (fun c_3474 => ?_)
      · have c_3474 : v_3473.toInt = 1 := by rw [ka_eq', show ((1 : Int32)).toInt = 1 from by decide] at c_3474; exact c_3474
        refine lv_iconst (v := 0) hx hb dX0_addNeed_48 (by decide) ?_
        exact ka_rEz C hr hlk rfl (Nat.le_of_ble_eq_true rfl) (Nat.le_of_ble_eq_true rfl) hS (ka_qE (f0, 0) rfl (show 0 ≤ ((0 : Int32)).toInt ∧ ((0 : Int32)).toInt ≤ 1 from ⟨by decide, by decide⟩) hK hP hD hS [0, 1] (by decide) rfl [] rfl) dX0_addNeed_49
      · have c_3474 : ¬ v_3473.toInt = 1 := by rw [ka_eq', show ((1 : Int32)).toInt = 1 from by decide] at c_3474; exact c_3474
        refine lv_aload_n hx hb dX0_addNeed_35 rfl (lv_at hl 0 rfl) ?_
        refine lv_iload_n hx hb dX0_addNeed_36 rfl (lv_at hl 2 rfl) ?_
        refine ka_RV (n := 1) C (cg_X0_neededInTheEnd_37 l D F a0 a1 a2 x2 k0 f0) gX0_addNeed_X0_neededInTheEnd rfl (by decide +kernel) ⟨Nat.le_of_ble_eq_true rfl, Nat.le_of_ble_eq_true rfl⟩ hK hP hS hE hN [0, 1] rfl [0] rfl (ci := 0) rfl rfl 0 rfl rfl hl.1 (rest := []) rfl (Nat.le_of_ble_eq_true rfl) dX0_addNeed_37 ⟨Nat.le_of_ble_eq_true rfl, Nat.le_of_ble_eq_true rfl⟩ (fun v hv => ?_)
        obtain ⟨v_3475, rfl⟩ := hv
        have rv_3475 := ka_rng v_3475
        refine ka_stk (w := [.int v_3475]) rfl ?_
        refine lv_iload_n hx hb dX0_addNeed_40 rfl (lv_at hl 1 rfl) ?_
        refine ka_RN (n := 2) C (ka_c_bitAt l D F v_3475 5) gX0_addNeed_X6_bitAt_n30 rfl hN.2.2.2.1 lq_74 lq_75 (by decide +kernel) ⟨Nat.le_of_ble_eq_true rfl, Nat.le_of_ble_eq_true rfl⟩ hK hP hS hE hN [] rfl [] rfl rfl hl.1 (rest := []) rfl (Nat.le_of_ble_eq_true rfl) dX0_addNeed_41 ⟨Nat.le_of_ble_eq_true rfl, Nat.le_of_ble_eq_true rfl⟩ (fun v hv => ?_)
        subst hv
        refine ka_stk (w := .int (ka_bit v_3475 5) :: []) rfl ?_
        refine lv_topi (fun v_3476 ev_3476 => ?_)
        have fv_3476 := ka_bit_in v_3475 5; rw [← ev_3476] at fv_3476
        refine lv_iconst (v := 1) hx hb dX0_addNeed_44 (by decide) ?_
        refine lv_icmp_ne (tgt := 50) hx hb dX0_addNeed_45 (by decide) (fun c_3477 => ?_) (fun c_3477 => ?_)
        · have c_3477 : ¬ v_3476.toInt = 1 := by rw [ka_eq', show ((1 : Int32)).toInt = 1 from by decide] at c_3477; exact c_3477
          refine lv_aload_n hx hb dX0_addNeed_50 rfl (lv_at hl 0 rfl) ?_
          refine ka_get C lq_72 rfl hK hP 0 rfl 1 (by decide) lq_73 rfl dX0_addNeed_51 ?_
          refine lv_iload_n hx hb dX0_addNeed_54 rfl (lv_at hl 1 rfl) ?_
          refine lv_dup2_11 hx hb dX0_addNeed_55 rfl rfl ?_
          refine va_iald hx hb hK hP 1 0 rfl rfl (ka_in (by decide) (by decide)) dX0_addNeed_56 ?_
          refine lv_topi (fun v_3478 ev_3478 => ?_)
          refine lv_iconst (v := 1) hx hb dX0_addNeed_57 (by decide) ?_
          refine lv_iload_n hx hb dX0_addNeed_58 rfl (lv_at hl 2 rfl) ?_
          refine lv_ishl hx hb dX0_addNeed_59 ?_
          refine ka_top (w := .int 1) (congrArg Value.int (by decide)) ?_
          refine lv_ior hx hb dX0_addNeed_60 ?_
          refine lv_topi (fun v_3479 ev_3479 => ?_)
          refine va_iast hx hb hK hP hD hS 1 0 rfl rfl (ka_in (by decide) (by decide)) dX0_addNeed_61 (fun H locs hP hD hS => ?_)
          have hP : va_P D vwCl [(a0, .inr (0, [.ref a1, .ref a2, .int x2])), (a2, .inl (k0, 6, .inl (upd f0 (Int32.toNatClampNeg 5) v_3479)))] H := hP
          have hD : va_D A [(a0, .inr (0, [.ref a1, .ref a2, .int x2])), (a2, .inl (k0, 6, .inl (upd f0 (Int32.toNatClampNeg 5) v_3479)))] := hD
          generalize (upd f0 (Int32.toNatClampNeg 5) v_3479) = g_3480 at hP hD
          refine lv_iconst (v := 1) hx hb dX0_addNeed_62 (by decide) ?_
          exact ka_rEz C hr hlk rfl (Nat.le_of_ble_eq_true rfl) (Nat.le_of_ble_eq_true rfl) hS (ka_qE (g_3480, 1) rfl (show 0 ≤ ((1 : Int32)).toInt ∧ ((1 : Int32)).toInt ≤ 1 from ⟨by decide, by decide⟩) hK hP hD hS [0, 1] (by decide) rfl [] rfl) dX0_addNeed_63
        · have c_3477 : v_3476.toInt = 1 := by rw [ka_eq', show ((1 : Int32)).toInt = 1 from by decide] at c_3477; exact c_3477
          refine lv_iconst (v := 0) hx hb dX0_addNeed_48 (by decide) ?_
          exact ka_rEz C hr hlk rfl (Nat.le_of_ble_eq_true rfl) (Nat.le_of_ble_eq_true rfl) hS (ka_qE (f0, 0) rfl (show 0 ≤ ((0 : Int32)).toInt ∧ ((0 : Int32)).toInt ≤ 1 from ⟨by decide, by decide⟩) hK hP hD hS [0, 1] (by decide) rfl [] rfl) dX0_addNeed_49
    · obtain rfl : x1 = 1 := (ka_eq' _ _).mpr (y_3471.trans (by decide))
      refine lv_iload_n hx hb dX0_addNeed_0 rfl (lv_at hl 1 rfl) ?_
      refine ka_RS (n := 1) C (cg_X0_isLesson_27 l D F ) gX0_addNeed_X0_isLesson rfl (by decide +kernel) ⟨Nat.le_of_ble_eq_true rfl, Nat.le_of_ble_eq_true rfl⟩ hK hP hS hE hN [] rfl [] rfl rfl hl.1 (rest := []) rfl (Nat.le_of_ble_eq_true rfl) dX0_addNeed_1 ⟨Nat.le_of_ble_eq_true rfl, Nat.le_of_ble_eq_true rfl⟩ (fun v hv => ?_)
      subst hv
      refine ka_stk (w := [.int 1]) rfl ?_
      refine lv_if_eq (tgt := 19) hx hb dX0_addNeed_4 (by decide) (fun c_ => absurd c_ (by decide)) (fun _ => ?_)
      refine lv_iload_n hx hb dX0_addNeed_7 rfl (lv_at hl 2 rfl) ?_
      refine ka_RS (n := 1) C (cg_X0_isLesson_23 l D F ) gX0_addNeed_X0_isLesson rfl (by decide +kernel) ⟨Nat.le_of_ble_eq_true rfl, Nat.le_of_ble_eq_true rfl⟩ hK hP hS hE hN [] rfl [] rfl rfl hl.1 (rest := []) rfl (Nat.le_of_ble_eq_true rfl) dX0_addNeed_8 ⟨Nat.le_of_ble_eq_true rfl, Nat.le_of_ble_eq_true rfl⟩ (fun v hv => ?_)
      subst hv
      refine ka_stk (w := [.int 1]) rfl ?_
      refine lv_if_eq (tgt := 19) hx hb dX0_addNeed_11 (by decide) (fun c_ => absurd c_ (by decide)) (fun _ => ?_)
      refine lv_iload_n hx hb dX0_addNeed_14 rfl (lv_at hl 1 rfl) ?_
      refine lv_iload_n hx hb dX0_addNeed_15 rfl (lv_at hl 2 rfl) ?_
      refine lv_icmp_ne (tgt := 21) hx hb dX0_addNeed_16 (by decide) (fun _ => ?_) (fun c_ => absurd c_ (by decide))
      refine lv_aload_n hx hb dX0_addNeed_21 rfl (lv_at hl 0 rfl) ?_
      refine ka_get C lq_72 rfl hK hP 0 rfl 1 (by decide) lq_73 rfl dX0_addNeed_22 ?_
      refine lv_iload_n hx hb dX0_addNeed_25 rfl (lv_at hl 1 rfl) ?_
      refine va_iald hx hb hK hP 1 0 rfl rfl (ka_in (by decide) (by decide)) dX0_addNeed_26 ?_
      refine lv_topi (fun v_3481 ev_3481 => ?_)
      refine lv_iload_n hx hb dX0_addNeed_27 rfl (lv_at hl 2 rfl) ?_
      refine ka_RN (n := 2) C (ka_c_bitAt l D F v_3481 1) gX0_addNeed_X6_bitAt_n30 rfl hN.2.2.2.1 lq_74 lq_75 (by decide +kernel) ⟨Nat.le_of_ble_eq_true rfl, Nat.le_of_ble_eq_true rfl⟩ hK hP hS hE hN [] rfl [] rfl rfl hl.1 (rest := []) rfl (Nat.le_of_ble_eq_true rfl) dX0_addNeed_28 ⟨Nat.le_of_ble_eq_true rfl, Nat.le_of_ble_eq_true rfl⟩ (fun v hv => ?_)
      subst hv
      refine ka_stk (w := .int (ka_bit v_3481 1) :: []) rfl ?_
      refine lv_topi (fun v_3482 ev_3482 => ?_)
      have fv_3482 := ka_bit_in v_3481 1; rw [← ev_3482] at fv_3482
      refine lv_iconst (v := 1) hx hb dX0_addNeed_31 (by decide) ?_
      refine lv_icmp_eq (tgt := 48) hx hb dX0_addNeed_32 (by decide) (fun c_3483 => ?_) (fun c_3483 => ?_)
      · have c_3483 : v_3482.toInt = 1 := by rw [ka_eq', show ((1 : Int32)).toInt = 1 from by decide] at c_3483; exact c_3483
        refine lv_iconst (v := 0) hx hb dX0_addNeed_48 (by decide) ?_
        exact ka_rEz C hr hlk rfl (Nat.le_of_ble_eq_true rfl) (Nat.le_of_ble_eq_true rfl) hS (ka_qE (f0, 0) rfl (show 0 ≤ ((0 : Int32)).toInt ∧ ((0 : Int32)).toInt ≤ 1 from ⟨by decide, by decide⟩) hK hP hD hS [0, 1] (by decide) rfl [] rfl) dX0_addNeed_49
      · have c_3483 : ¬ v_3482.toInt = 1 := by rw [ka_eq', show ((1 : Int32)).toInt = 1 from by decide] at c_3483; exact c_3483
        refine lv_aload_n hx hb dX0_addNeed_35 rfl (lv_at hl 0 rfl) ?_
        refine lv_iload_n hx hb dX0_addNeed_36 rfl (lv_at hl 2 rfl) ?_
        refine ka_RV (n := 1) C (cg_X0_neededInTheEnd_32 l D F a0 a1 a2 x2 k0 f0) gX0_addNeed_X0_neededInTheEnd rfl (by decide +kernel) ⟨Nat.le_of_ble_eq_true rfl, Nat.le_of_ble_eq_true rfl⟩ hK hP hS hE hN [0, 1] rfl [0] rfl (ci := 0) rfl rfl 0 rfl rfl hl.1 (rest := []) rfl (Nat.le_of_ble_eq_true rfl) dX0_addNeed_37 ⟨Nat.le_of_ble_eq_true rfl, Nat.le_of_ble_eq_true rfl⟩ (fun v hv => ?_)
        obtain ⟨v_3484, rfl⟩ := hv
        have rv_3484 := ka_rng v_3484
        refine ka_stk (w := [.int v_3484]) rfl ?_
        refine lv_iload_n hx hb dX0_addNeed_40 rfl (lv_at hl 1 rfl) ?_
        refine ka_RN (n := 2) C (ka_c_bitAt l D F v_3484 5) gX0_addNeed_X6_bitAt_n30 rfl hN.2.2.2.1 lq_74 lq_75 (by decide +kernel) ⟨Nat.le_of_ble_eq_true rfl, Nat.le_of_ble_eq_true rfl⟩ hK hP hS hE hN [] rfl [] rfl rfl hl.1 (rest := []) rfl (Nat.le_of_ble_eq_true rfl) dX0_addNeed_41 ⟨Nat.le_of_ble_eq_true rfl, Nat.le_of_ble_eq_true rfl⟩ (fun v hv => ?_)
        subst hv
        refine ka_stk (w := .int (ka_bit v_3484 5) :: []) rfl ?_
        refine lv_topi (fun v_3485 ev_3485 => ?_)
        have fv_3485 := ka_bit_in v_3484 5; rw [← ev_3485] at fv_3485
        refine lv_iconst (v := 1) hx hb dX0_addNeed_44 (by decide) ?_
        refine lv_icmp_ne (tgt := 50) hx hb dX0_addNeed_45 (by decide) (fun c_3486 => ?_) (fun c_3486 => ?_)
        · have c_3486 : ¬ v_3485.toInt = 1 := by rw [ka_eq', show ((1 : Int32)).toInt = 1 from by decide] at c_3486; exact c_3486
          refine lv_aload_n hx hb dX0_addNeed_50 rfl (lv_at hl 0 rfl) ?_
          refine ka_get C lq_72 rfl hK hP 0 rfl 1 (by decide) lq_73 rfl dX0_addNeed_51 ?_
          refine lv_iload_n hx hb dX0_addNeed_54 rfl (lv_at hl 1 rfl) ?_
          refine lv_dup2_11 hx hb dX0_addNeed_55 rfl rfl ?_
          refine va_iald hx hb hK hP 1 0 rfl rfl (ka_in (by decide) (by decide)) dX0_addNeed_56 ?_
          refine lv_topi (fun v_3487 ev_3487 => ?_)
          refine lv_iconst (v := 1) hx hb dX0_addNeed_57 (by decide) ?_
          refine lv_iload_n hx hb dX0_addNeed_58 rfl (lv_at hl 2 rfl) ?_
          refine lv_ishl hx hb dX0_addNeed_59 ?_
          refine ka_top (w := .int 2) (congrArg Value.int (by decide)) ?_
          refine lv_ior hx hb dX0_addNeed_60 ?_
          refine lv_topi (fun v_3488 ev_3488 => ?_)
          refine va_iast hx hb hK hP hD hS 1 0 rfl rfl (ka_in (by decide) (by decide)) dX0_addNeed_61 (fun H locs hP hD hS => ?_)
          have hP : va_P D vwCl [(a0, .inr (0, [.ref a1, .ref a2, .int x2])), (a2, .inl (k0, 6, .inl (upd f0 (Int32.toNatClampNeg 5) v_3488)))] H := hP
          have hD : va_D A [(a0, .inr (0, [.ref a1, .ref a2, .int x2])), (a2, .inl (k0, 6, .inl (upd f0 (Int32.toNatClampNeg 5) v_3488)))] := hD
          generalize (upd f0 (Int32.toNatClampNeg 5) v_3488) = g_3489 at hP hD
          refine lv_iconst (v := 1) hx hb dX0_addNeed_62 (by decide) ?_
          exact ka_rEz C hr hlk rfl (Nat.le_of_ble_eq_true rfl) (Nat.le_of_ble_eq_true rfl) hS (ka_qE (g_3489, 1) rfl (show 0 ≤ ((1 : Int32)).toInt ∧ ((1 : Int32)).toInt ≤ 1 from ⟨by decide, by decide⟩) hK hP hD hS [0, 1] (by decide) rfl [] rfl) dX0_addNeed_63
        · have c_3486 : v_3485.toInt = 1 := by rw [ka_eq', show ((1 : Int32)).toInt = 1 from by decide] at c_3486; exact c_3486
          refine lv_iconst (v := 0) hx hb dX0_addNeed_48 (by decide) ?_
          exact ka_rEz C hr hlk rfl (Nat.le_of_ble_eq_true rfl) (Nat.le_of_ble_eq_true rfl) hS (ka_qE (f0, 0) rfl (show 0 ≤ ((0 : Int32)).toInt ∧ ((0 : Int32)).toInt ≤ 1 from ⟨by decide, by decide⟩) hK hP hD hS [0, 1] (by decide) rfl [] rfl) dX0_addNeed_49
    · obtain rfl : x1 = 2 := (ka_eq' _ _).mpr (y_3471.trans (by decide))
      refine lv_iload_n hx hb dX0_addNeed_0 rfl (lv_at hl 1 rfl) ?_
      refine ka_RS (n := 1) C (cg_X0_isLesson_27 l D F ) gX0_addNeed_X0_isLesson rfl (by decide +kernel) ⟨Nat.le_of_ble_eq_true rfl, Nat.le_of_ble_eq_true rfl⟩ hK hP hS hE hN [] rfl [] rfl rfl hl.1 (rest := []) rfl (Nat.le_of_ble_eq_true rfl) dX0_addNeed_1 ⟨Nat.le_of_ble_eq_true rfl, Nat.le_of_ble_eq_true rfl⟩ (fun v hv => ?_)
      subst hv
      refine ka_stk (w := [.int 1]) rfl ?_
      refine lv_if_eq (tgt := 19) hx hb dX0_addNeed_4 (by decide) (fun c_ => absurd c_ (by decide)) (fun _ => ?_)
      refine lv_iload_n hx hb dX0_addNeed_7 rfl (lv_at hl 2 rfl) ?_
      refine ka_RS (n := 1) C (cg_X0_isLesson_24 l D F ) gX0_addNeed_X0_isLesson rfl (by decide +kernel) ⟨Nat.le_of_ble_eq_true rfl, Nat.le_of_ble_eq_true rfl⟩ hK hP hS hE hN [] rfl [] rfl rfl hl.1 (rest := []) rfl (Nat.le_of_ble_eq_true rfl) dX0_addNeed_8 ⟨Nat.le_of_ble_eq_true rfl, Nat.le_of_ble_eq_true rfl⟩ (fun v hv => ?_)
      subst hv
      refine ka_stk (w := [.int 1]) rfl ?_
      refine lv_if_eq (tgt := 19) hx hb dX0_addNeed_11 (by decide) (fun c_ => absurd c_ (by decide)) (fun _ => ?_)
      refine lv_iload_n hx hb dX0_addNeed_14 rfl (lv_at hl 1 rfl) ?_
      refine lv_iload_n hx hb dX0_addNeed_15 rfl (lv_at hl 2 rfl) ?_
      refine lv_icmp_ne (tgt := 21) hx hb dX0_addNeed_16 (by decide) (fun _ => ?_) (fun c_ => absurd c_ (by decide))
      refine lv_aload_n hx hb dX0_addNeed_21 rfl (lv_at hl 0 rfl) ?_
      refine ka_get C lq_72 rfl hK hP 0 rfl 1 (by decide) lq_73 rfl dX0_addNeed_22 ?_
      refine lv_iload_n hx hb dX0_addNeed_25 rfl (lv_at hl 1 rfl) ?_
      refine va_iald hx hb hK hP 1 0 rfl rfl (ka_in (by decide) (by decide)) dX0_addNeed_26 ?_
      refine lv_topi (fun v_3490 ev_3490 => ?_)
      refine lv_iload_n hx hb dX0_addNeed_27 rfl (lv_at hl 2 rfl) ?_
      refine ka_RN (n := 2) C (ka_c_bitAt l D F v_3490 2) gX0_addNeed_X6_bitAt_n30 rfl hN.2.2.2.1 lq_74 lq_75 (by decide +kernel) ⟨Nat.le_of_ble_eq_true rfl, Nat.le_of_ble_eq_true rfl⟩ hK hP hS hE hN [] rfl [] rfl rfl hl.1 (rest := []) rfl (Nat.le_of_ble_eq_true rfl) dX0_addNeed_28 ⟨Nat.le_of_ble_eq_true rfl, Nat.le_of_ble_eq_true rfl⟩ (fun v hv => ?_)
      subst hv
      refine ka_stk (w := .int (ka_bit v_3490 2) :: []) rfl ?_
      refine lv_topi (fun v_3491 ev_3491 => ?_)
      have fv_3491 := ka_bit_in v_3490 2; rw [← ev_3491] at fv_3491
      refine lv_iconst (v := 1) hx hb dX0_addNeed_31 (by decide) ?_
      refine lv_icmp_eq (tgt := 48) hx hb dX0_addNeed_32 (by decide) (fun c_3492 => ?_) (fun c_3492 => ?_)
      · have c_3492 : v_3491.toInt = 1 := by rw [ka_eq', show ((1 : Int32)).toInt = 1 from by decide] at c_3492; exact c_3492
        refine lv_iconst (v := 0) hx hb dX0_addNeed_48 (by decide) ?_
        exact ka_rEz C hr hlk rfl (Nat.le_of_ble_eq_true rfl) (Nat.le_of_ble_eq_true rfl) hS (ka_qE (f0, 0) rfl (show 0 ≤ ((0 : Int32)).toInt ∧ ((0 : Int32)).toInt ≤ 1 from ⟨by decide, by decide⟩) hK hP hD hS [0, 1] (by decide) rfl [] rfl) dX0_addNeed_49
      · have c_3492 : ¬ v_3491.toInt = 1 := by rw [ka_eq', show ((1 : Int32)).toInt = 1 from by decide] at c_3492; exact c_3492
        refine lv_aload_n hx hb dX0_addNeed_35 rfl (lv_at hl 0 rfl) ?_
        refine lv_iload_n hx hb dX0_addNeed_36 rfl (lv_at hl 2 rfl) ?_
        refine ka_RV (n := 1) C (cg_X0_neededInTheEnd_33 l D F a0 a1 a2 x2 k0 f0) gX0_addNeed_X0_neededInTheEnd rfl (by decide +kernel) ⟨Nat.le_of_ble_eq_true rfl, Nat.le_of_ble_eq_true rfl⟩ hK hP hS hE hN [0, 1] rfl [0] rfl (ci := 0) rfl rfl 0 rfl rfl hl.1 (rest := []) rfl (Nat.le_of_ble_eq_true rfl) dX0_addNeed_37 ⟨Nat.le_of_ble_eq_true rfl, Nat.le_of_ble_eq_true rfl⟩ (fun v hv => ?_)
        obtain ⟨v_3493, rfl⟩ := hv
        have rv_3493 := ka_rng v_3493
        refine ka_stk (w := [.int v_3493]) rfl ?_
        refine lv_iload_n hx hb dX0_addNeed_40 rfl (lv_at hl 1 rfl) ?_
        refine ka_RN (n := 2) C (ka_c_bitAt l D F v_3493 5) gX0_addNeed_X6_bitAt_n30 rfl hN.2.2.2.1 lq_74 lq_75 (by decide +kernel) ⟨Nat.le_of_ble_eq_true rfl, Nat.le_of_ble_eq_true rfl⟩ hK hP hS hE hN [] rfl [] rfl rfl hl.1 (rest := []) rfl (Nat.le_of_ble_eq_true rfl) dX0_addNeed_41 ⟨Nat.le_of_ble_eq_true rfl, Nat.le_of_ble_eq_true rfl⟩ (fun v hv => ?_)
        subst hv
        refine ka_stk (w := .int (ka_bit v_3493 5) :: []) rfl ?_
        refine lv_topi (fun v_3494 ev_3494 => ?_)
        have fv_3494 := ka_bit_in v_3493 5; rw [← ev_3494] at fv_3494
        refine lv_iconst (v := 1) hx hb dX0_addNeed_44 (by decide) ?_
        refine lv_icmp_ne (tgt := 50) hx hb dX0_addNeed_45 (by decide) (fun c_3495 => ?_) (fun c_3495 => ?_)
        · have c_3495 : ¬ v_3494.toInt = 1 := by rw [ka_eq', show ((1 : Int32)).toInt = 1 from by decide] at c_3495; exact c_3495
          refine lv_aload_n hx hb dX0_addNeed_50 rfl (lv_at hl 0 rfl) ?_
          refine ka_get C lq_72 rfl hK hP 0 rfl 1 (by decide) lq_73 rfl dX0_addNeed_51 ?_
          refine lv_iload_n hx hb dX0_addNeed_54 rfl (lv_at hl 1 rfl) ?_
          refine lv_dup2_11 hx hb dX0_addNeed_55 rfl rfl ?_
          refine va_iald hx hb hK hP 1 0 rfl rfl (ka_in (by decide) (by decide)) dX0_addNeed_56 ?_
          refine lv_topi (fun v_3496 ev_3496 => ?_)
          refine lv_iconst (v := 1) hx hb dX0_addNeed_57 (by decide) ?_
          refine lv_iload_n hx hb dX0_addNeed_58 rfl (lv_at hl 2 rfl) ?_
          refine lv_ishl hx hb dX0_addNeed_59 ?_
          refine ka_top (w := .int 4) (congrArg Value.int (by decide)) ?_
          refine lv_ior hx hb dX0_addNeed_60 ?_
          refine lv_topi (fun v_3497 ev_3497 => ?_)
          refine va_iast hx hb hK hP hD hS 1 0 rfl rfl (ka_in (by decide) (by decide)) dX0_addNeed_61 (fun H locs hP hD hS => ?_)
          have hP : va_P D vwCl [(a0, .inr (0, [.ref a1, .ref a2, .int x2])), (a2, .inl (k0, 6, .inl (upd f0 (Int32.toNatClampNeg 5) v_3497)))] H := hP
          have hD : va_D A [(a0, .inr (0, [.ref a1, .ref a2, .int x2])), (a2, .inl (k0, 6, .inl (upd f0 (Int32.toNatClampNeg 5) v_3497)))] := hD
          generalize (upd f0 (Int32.toNatClampNeg 5) v_3497) = g_3498 at hP hD
          refine lv_iconst (v := 1) hx hb dX0_addNeed_62 (by decide) ?_
          exact ka_rEz C hr hlk rfl (Nat.le_of_ble_eq_true rfl) (Nat.le_of_ble_eq_true rfl) hS (ka_qE (g_3498, 1) rfl (show 0 ≤ ((1 : Int32)).toInt ∧ ((1 : Int32)).toInt ≤ 1 from ⟨by decide, by decide⟩) hK hP hD hS [0, 1] (by decide) rfl [] rfl) dX0_addNeed_63
        · have c_3495 : v_3494.toInt = 1 := by rw [ka_eq', show ((1 : Int32)).toInt = 1 from by decide] at c_3495; exact c_3495
          refine lv_iconst (v := 0) hx hb dX0_addNeed_48 (by decide) ?_
          exact ka_rEz C hr hlk rfl (Nat.le_of_ble_eq_true rfl) (Nat.le_of_ble_eq_true rfl) hS (ka_qE (f0, 0) rfl (show 0 ≤ ((0 : Int32)).toInt ∧ ((0 : Int32)).toInt ≤ 1 from ⟨by decide, by decide⟩) hK hP hD hS [0, 1] (by decide) rfl [] rfl) dX0_addNeed_49
    · obtain rfl : x1 = 3 := (ka_eq' _ _).mpr (y_3471.trans (by decide))
      refine lv_iload_n hx hb dX0_addNeed_0 rfl (lv_at hl 1 rfl) ?_
      refine ka_RS (n := 1) C (cg_X0_isLesson_27 l D F ) gX0_addNeed_X0_isLesson rfl (by decide +kernel) ⟨Nat.le_of_ble_eq_true rfl, Nat.le_of_ble_eq_true rfl⟩ hK hP hS hE hN [] rfl [] rfl rfl hl.1 (rest := []) rfl (Nat.le_of_ble_eq_true rfl) dX0_addNeed_1 ⟨Nat.le_of_ble_eq_true rfl, Nat.le_of_ble_eq_true rfl⟩ (fun v hv => ?_)
      subst hv
      refine ka_stk (w := [.int 1]) rfl ?_
      refine lv_if_eq (tgt := 19) hx hb dX0_addNeed_4 (by decide) (fun c_ => absurd c_ (by decide)) (fun _ => ?_)
      refine lv_iload_n hx hb dX0_addNeed_7 rfl (lv_at hl 2 rfl) ?_
      refine ka_RS (n := 1) C (cg_X0_isLesson_25 l D F ) gX0_addNeed_X0_isLesson rfl (by decide +kernel) ⟨Nat.le_of_ble_eq_true rfl, Nat.le_of_ble_eq_true rfl⟩ hK hP hS hE hN [] rfl [] rfl rfl hl.1 (rest := []) rfl (Nat.le_of_ble_eq_true rfl) dX0_addNeed_8 ⟨Nat.le_of_ble_eq_true rfl, Nat.le_of_ble_eq_true rfl⟩ (fun v hv => ?_)
      subst hv
      refine ka_stk (w := [.int 1]) rfl ?_
      refine lv_if_eq (tgt := 19) hx hb dX0_addNeed_11 (by decide) (fun c_ => absurd c_ (by decide)) (fun _ => ?_)
      refine lv_iload_n hx hb dX0_addNeed_14 rfl (lv_at hl 1 rfl) ?_
      refine lv_iload_n hx hb dX0_addNeed_15 rfl (lv_at hl 2 rfl) ?_
      refine lv_icmp_ne (tgt := 21) hx hb dX0_addNeed_16 (by decide) (fun _ => ?_) (fun c_ => absurd c_ (by decide))
      refine lv_aload_n hx hb dX0_addNeed_21 rfl (lv_at hl 0 rfl) ?_
      refine ka_get C lq_72 rfl hK hP 0 rfl 1 (by decide) lq_73 rfl dX0_addNeed_22 ?_
      refine lv_iload_n hx hb dX0_addNeed_25 rfl (lv_at hl 1 rfl) ?_
      refine va_iald hx hb hK hP 1 0 rfl rfl (ka_in (by decide) (by decide)) dX0_addNeed_26 ?_
      refine lv_topi (fun v_3499 ev_3499 => ?_)
      refine lv_iload_n hx hb dX0_addNeed_27 rfl (lv_at hl 2 rfl) ?_
      refine ka_RN (n := 2) C (ka_c_bitAt l D F v_3499 3) gX0_addNeed_X6_bitAt_n30 rfl hN.2.2.2.1 lq_74 lq_75 (by decide +kernel) ⟨Nat.le_of_ble_eq_true rfl, Nat.le_of_ble_eq_true rfl⟩ hK hP hS hE hN [] rfl [] rfl rfl hl.1 (rest := []) rfl (Nat.le_of_ble_eq_true rfl) dX0_addNeed_28 ⟨Nat.le_of_ble_eq_true rfl, Nat.le_of_ble_eq_true rfl⟩ (fun v hv => ?_)
      subst hv
      refine ka_stk (w := .int (ka_bit v_3499 3) :: []) rfl ?_
      refine lv_topi (fun v_3500 ev_3500 => ?_)
      have fv_3500 := ka_bit_in v_3499 3; rw [← ev_3500] at fv_3500
      refine lv_iconst (v := 1) hx hb dX0_addNeed_31 (by decide) ?_
      refine lv_icmp_eq (tgt := 48) hx hb dX0_addNeed_32 (by decide) (fun c_3501 => ?_) (fun c_3501 => ?_)
      · have c_3501 : v_3500.toInt = 1 := by rw [ka_eq', show ((1 : Int32)).toInt = 1 from by decide] at c_3501; exact c_3501
        refine lv_iconst (v := 0) hx hb dX0_addNeed_48 (by decide) ?_
        exact ka_rEz C hr hlk rfl (Nat.le_of_ble_eq_true rfl) (Nat.le_of_ble_eq_true rfl) hS (ka_qE (f0, 0) rfl (show 0 ≤ ((0 : Int32)).toInt ∧ ((0 : Int32)).toInt ≤ 1 from ⟨by decide, by decide⟩) hK hP hD hS [0, 1] (by decide) rfl [] rfl) dX0_addNeed_49
      · have c_3501 : ¬ v_3500.toInt = 1 := by rw [ka_eq', show ((1 : Int32)).toInt = 1 from by decide] at c_3501; exact c_3501
        refine lv_aload_n hx hb dX0_addNeed_35 rfl (lv_at hl 0 rfl) ?_
        refine lv_iload_n hx hb dX0_addNeed_36 rfl (lv_at hl 2 rfl) ?_
        refine ka_RV (n := 1) C (cg_X0_neededInTheEnd_34 l D F a0 a1 a2 x2 k0 f0) gX0_addNeed_X0_neededInTheEnd rfl (by decide +kernel) ⟨Nat.le_of_ble_eq_true rfl, Nat.le_of_ble_eq_true rfl⟩ hK hP hS hE hN [0, 1] rfl [0] rfl (ci := 0) rfl rfl 0 rfl rfl hl.1 (rest := []) rfl (Nat.le_of_ble_eq_true rfl) dX0_addNeed_37 ⟨Nat.le_of_ble_eq_true rfl, Nat.le_of_ble_eq_true rfl⟩ (fun v hv => ?_)
        obtain ⟨v_3502, rfl⟩ := hv
        have rv_3502 := ka_rng v_3502
        refine ka_stk (w := [.int v_3502]) rfl ?_
        refine lv_iload_n hx hb dX0_addNeed_40 rfl (lv_at hl 1 rfl) ?_
        refine ka_RN (n := 2) C (ka_c_bitAt l D F v_3502 5) gX0_addNeed_X6_bitAt_n30 rfl hN.2.2.2.1 lq_74 lq_75 (by decide +kernel) ⟨Nat.le_of_ble_eq_true rfl, Nat.le_of_ble_eq_true rfl⟩ hK hP hS hE hN [] rfl [] rfl rfl hl.1 (rest := []) rfl (Nat.le_of_ble_eq_true rfl) dX0_addNeed_41 ⟨Nat.le_of_ble_eq_true rfl, Nat.le_of_ble_eq_true rfl⟩ (fun v hv => ?_)
        subst hv
        refine ka_stk (w := .int (ka_bit v_3502 5) :: []) rfl ?_
        refine lv_topi (fun v_3503 ev_3503 => ?_)
        have fv_3503 := ka_bit_in v_3502 5; rw [← ev_3503] at fv_3503
        refine lv_iconst (v := 1) hx hb dX0_addNeed_44 (by decide) ?_
        refine lv_icmp_ne (tgt := 50) hx hb dX0_addNeed_45 (by decide) (fun c_3504 => ?_) (fun c_3504 => ?_)
        · have c_3504 : ¬ v_3503.toInt = 1 := by rw [ka_eq', show ((1 : Int32)).toInt = 1 from by decide] at c_3504; exact c_3504
          refine lv_aload_n hx hb dX0_addNeed_50 rfl (lv_at hl 0 rfl) ?_
          refine ka_get C lq_72 rfl hK hP 0 rfl 1 (by decide) lq_73 rfl dX0_addNeed_51 ?_
          refine lv_iload_n hx hb dX0_addNeed_54 rfl (lv_at hl 1 rfl) ?_
          refine lv_dup2_11 hx hb dX0_addNeed_55 rfl rfl ?_
          refine va_iald hx hb hK hP 1 0 rfl rfl (ka_in (by decide) (by decide)) dX0_addNeed_56 ?_
          refine lv_topi (fun v_3505 ev_3505 => ?_)
          refine lv_iconst (v := 1) hx hb dX0_addNeed_57 (by decide) ?_
          refine lv_iload_n hx hb dX0_addNeed_58 rfl (lv_at hl 2 rfl) ?_
          refine lv_ishl hx hb dX0_addNeed_59 ?_
          refine ka_top (w := .int 8) (congrArg Value.int (by decide)) ?_
          refine lv_ior hx hb dX0_addNeed_60 ?_
          refine lv_topi (fun v_3506 ev_3506 => ?_)
          refine va_iast hx hb hK hP hD hS 1 0 rfl rfl (ka_in (by decide) (by decide)) dX0_addNeed_61 (fun H locs hP hD hS => ?_)
          have hP : va_P D vwCl [(a0, .inr (0, [.ref a1, .ref a2, .int x2])), (a2, .inl (k0, 6, .inl (upd f0 (Int32.toNatClampNeg 5) v_3506)))] H := hP
          have hD : va_D A [(a0, .inr (0, [.ref a1, .ref a2, .int x2])), (a2, .inl (k0, 6, .inl (upd f0 (Int32.toNatClampNeg 5) v_3506)))] := hD
          generalize (upd f0 (Int32.toNatClampNeg 5) v_3506) = g_3507 at hP hD
          refine lv_iconst (v := 1) hx hb dX0_addNeed_62 (by decide) ?_
          exact ka_rEz C hr hlk rfl (Nat.le_of_ble_eq_true rfl) (Nat.le_of_ble_eq_true rfl) hS (ka_qE (g_3507, 1) rfl (show 0 ≤ ((1 : Int32)).toInt ∧ ((1 : Int32)).toInt ≤ 1 from ⟨by decide, by decide⟩) hK hP hD hS [0, 1] (by decide) rfl [] rfl) dX0_addNeed_63
        · have c_3504 : v_3503.toInt = 1 := by rw [ka_eq', show ((1 : Int32)).toInt = 1 from by decide] at c_3504; exact c_3504
          refine lv_iconst (v := 0) hx hb dX0_addNeed_48 (by decide) ?_
          exact ka_rEz C hr hlk rfl (Nat.le_of_ble_eq_true rfl) (Nat.le_of_ble_eq_true rfl) hS (ka_qE (f0, 0) rfl (show 0 ≤ ((0 : Int32)).toInt ∧ ((0 : Int32)).toInt ≤ 1 from ⟨by decide, by decide⟩) hK hP hD hS [0, 1] (by decide) rfl [] rfl) dX0_addNeed_49
    · obtain rfl : x1 = 4 := (ka_eq' _ _).mpr (y_3471.trans (by decide))
      refine lv_iload_n hx hb dX0_addNeed_0 rfl (lv_at hl 1 rfl) ?_
      refine ka_RS (n := 1) C (cg_X0_isLesson_27 l D F ) gX0_addNeed_X0_isLesson rfl (by decide +kernel) ⟨Nat.le_of_ble_eq_true rfl, Nat.le_of_ble_eq_true rfl⟩ hK hP hS hE hN [] rfl [] rfl rfl hl.1 (rest := []) rfl (Nat.le_of_ble_eq_true rfl) dX0_addNeed_1 ⟨Nat.le_of_ble_eq_true rfl, Nat.le_of_ble_eq_true rfl⟩ (fun v hv => ?_)
      subst hv
      refine ka_stk (w := [.int 1]) rfl ?_
      refine lv_if_eq (tgt := 19) hx hb dX0_addNeed_4 (by decide) (fun c_ => absurd c_ (by decide)) (fun _ => ?_)
      refine lv_iload_n hx hb dX0_addNeed_7 rfl (lv_at hl 2 rfl) ?_
      refine ka_RS (n := 1) C (cg_X0_isLesson_26 l D F ) gX0_addNeed_X0_isLesson rfl (by decide +kernel) ⟨Nat.le_of_ble_eq_true rfl, Nat.le_of_ble_eq_true rfl⟩ hK hP hS hE hN [] rfl [] rfl rfl hl.1 (rest := []) rfl (Nat.le_of_ble_eq_true rfl) dX0_addNeed_8 ⟨Nat.le_of_ble_eq_true rfl, Nat.le_of_ble_eq_true rfl⟩ (fun v hv => ?_)
      subst hv
      refine ka_stk (w := [.int 1]) rfl ?_
      refine lv_if_eq (tgt := 19) hx hb dX0_addNeed_11 (by decide) (fun c_ => absurd c_ (by decide)) (fun _ => ?_)
      refine lv_iload_n hx hb dX0_addNeed_14 rfl (lv_at hl 1 rfl) ?_
      refine lv_iload_n hx hb dX0_addNeed_15 rfl (lv_at hl 2 rfl) ?_
      refine lv_icmp_ne (tgt := 21) hx hb dX0_addNeed_16 (by decide) (fun _ => ?_) (fun c_ => absurd c_ (by decide))
      refine lv_aload_n hx hb dX0_addNeed_21 rfl (lv_at hl 0 rfl) ?_
      refine ka_get C lq_72 rfl hK hP 0 rfl 1 (by decide) lq_73 rfl dX0_addNeed_22 ?_
      refine lv_iload_n hx hb dX0_addNeed_25 rfl (lv_at hl 1 rfl) ?_
      refine va_iald hx hb hK hP 1 0 rfl rfl (ka_in (by decide) (by decide)) dX0_addNeed_26 ?_
      refine lv_topi (fun v_3508 ev_3508 => ?_)
      refine lv_iload_n hx hb dX0_addNeed_27 rfl (lv_at hl 2 rfl) ?_
      refine ka_RN (n := 2) C (ka_c_bitAt l D F v_3508 4) gX0_addNeed_X6_bitAt_n30 rfl hN.2.2.2.1 lq_74 lq_75 (by decide +kernel) ⟨Nat.le_of_ble_eq_true rfl, Nat.le_of_ble_eq_true rfl⟩ hK hP hS hE hN [] rfl [] rfl rfl hl.1 (rest := []) rfl (Nat.le_of_ble_eq_true rfl) dX0_addNeed_28 ⟨Nat.le_of_ble_eq_true rfl, Nat.le_of_ble_eq_true rfl⟩ (fun v hv => ?_)
      subst hv
      refine ka_stk (w := .int (ka_bit v_3508 4) :: []) rfl ?_
      refine lv_topi (fun v_3509 ev_3509 => ?_)
      have fv_3509 := ka_bit_in v_3508 4; rw [← ev_3509] at fv_3509
      refine lv_iconst (v := 1) hx hb dX0_addNeed_31 (by decide) ?_
      refine lv_icmp_eq (tgt := 48) hx hb dX0_addNeed_32 (by decide) (fun c_3510 => ?_) (fun c_3510 => ?_)
      · have c_3510 : v_3509.toInt = 1 := by rw [ka_eq', show ((1 : Int32)).toInt = 1 from by decide] at c_3510; exact c_3510
        refine lv_iconst (v := 0) hx hb dX0_addNeed_48 (by decide) ?_
        exact ka_rEz C hr hlk rfl (Nat.le_of_ble_eq_true rfl) (Nat.le_of_ble_eq_true rfl) hS (ka_qE (f0, 0) rfl (show 0 ≤ ((0 : Int32)).toInt ∧ ((0 : Int32)).toInt ≤ 1 from ⟨by decide, by decide⟩) hK hP hD hS [0, 1] (by decide) rfl [] rfl) dX0_addNeed_49
      · have c_3510 : ¬ v_3509.toInt = 1 := by rw [ka_eq', show ((1 : Int32)).toInt = 1 from by decide] at c_3510; exact c_3510
        refine lv_aload_n hx hb dX0_addNeed_35 rfl (lv_at hl 0 rfl) ?_
        refine lv_iload_n hx hb dX0_addNeed_36 rfl (lv_at hl 2 rfl) ?_
        refine ka_RV (n := 1) C (cg_X0_neededInTheEnd_35 l D F a0 a1 a2 x2 k0 f0) gX0_addNeed_X0_neededInTheEnd rfl (by decide +kernel) ⟨Nat.le_of_ble_eq_true rfl, Nat.le_of_ble_eq_true rfl⟩ hK hP hS hE hN [0, 1] rfl [0] rfl (ci := 0) rfl rfl 0 rfl rfl hl.1 (rest := []) rfl (Nat.le_of_ble_eq_true rfl) dX0_addNeed_37 ⟨Nat.le_of_ble_eq_true rfl, Nat.le_of_ble_eq_true rfl⟩ (fun v hv => ?_)
        obtain ⟨v_3511, rfl⟩ := hv
        have rv_3511 := ka_rng v_3511
        refine ka_stk (w := [.int v_3511]) rfl ?_
        refine lv_iload_n hx hb dX0_addNeed_40 rfl (lv_at hl 1 rfl) ?_
        refine ka_RN (n := 2) C (ka_c_bitAt l D F v_3511 5) gX0_addNeed_X6_bitAt_n30 rfl hN.2.2.2.1 lq_74 lq_75 (by decide +kernel) ⟨Nat.le_of_ble_eq_true rfl, Nat.le_of_ble_eq_true rfl⟩ hK hP hS hE hN [] rfl [] rfl rfl hl.1 (rest := []) rfl (Nat.le_of_ble_eq_true rfl) dX0_addNeed_41 ⟨Nat.le_of_ble_eq_true rfl, Nat.le_of_ble_eq_true rfl⟩ (fun v hv => ?_)
        subst hv
        refine ka_stk (w := .int (ka_bit v_3511 5) :: []) rfl ?_
        refine lv_topi (fun v_3512 ev_3512 => ?_)
        have fv_3512 := ka_bit_in v_3511 5; rw [← ev_3512] at fv_3512
        refine lv_iconst (v := 1) hx hb dX0_addNeed_44 (by decide) ?_
        refine lv_icmp_ne (tgt := 50) hx hb dX0_addNeed_45 (by decide) (fun c_3513 => ?_) (fun c_3513 => ?_)
        · have c_3513 : ¬ v_3512.toInt = 1 := by rw [ka_eq', show ((1 : Int32)).toInt = 1 from by decide] at c_3513; exact c_3513
          refine lv_aload_n hx hb dX0_addNeed_50 rfl (lv_at hl 0 rfl) ?_
          refine ka_get C lq_72 rfl hK hP 0 rfl 1 (by decide) lq_73 rfl dX0_addNeed_51 ?_
          refine lv_iload_n hx hb dX0_addNeed_54 rfl (lv_at hl 1 rfl) ?_
          refine lv_dup2_11 hx hb dX0_addNeed_55 rfl rfl ?_
          refine va_iald hx hb hK hP 1 0 rfl rfl (ka_in (by decide) (by decide)) dX0_addNeed_56 ?_
          refine lv_topi (fun v_3514 ev_3514 => ?_)
          refine lv_iconst (v := 1) hx hb dX0_addNeed_57 (by decide) ?_
          refine lv_iload_n hx hb dX0_addNeed_58 rfl (lv_at hl 2 rfl) ?_
          refine lv_ishl hx hb dX0_addNeed_59 ?_
          refine ka_top (w := .int 16) (congrArg Value.int (by decide)) ?_
          refine lv_ior hx hb dX0_addNeed_60 ?_
          refine lv_topi (fun v_3515 ev_3515 => ?_)
          refine va_iast hx hb hK hP hD hS 1 0 rfl rfl (ka_in (by decide) (by decide)) dX0_addNeed_61 (fun H locs hP hD hS => ?_)
          have hP : va_P D vwCl [(a0, .inr (0, [.ref a1, .ref a2, .int x2])), (a2, .inl (k0, 6, .inl (upd f0 (Int32.toNatClampNeg 5) v_3515)))] H := hP
          have hD : va_D A [(a0, .inr (0, [.ref a1, .ref a2, .int x2])), (a2, .inl (k0, 6, .inl (upd f0 (Int32.toNatClampNeg 5) v_3515)))] := hD
          generalize (upd f0 (Int32.toNatClampNeg 5) v_3515) = g_3516 at hP hD
          refine lv_iconst (v := 1) hx hb dX0_addNeed_62 (by decide) ?_
          exact ka_rEz C hr hlk rfl (Nat.le_of_ble_eq_true rfl) (Nat.le_of_ble_eq_true rfl) hS (ka_qE (g_3516, 1) rfl (show 0 ≤ ((1 : Int32)).toInt ∧ ((1 : Int32)).toInt ≤ 1 from ⟨by decide, by decide⟩) hK hP hD hS [0, 1] (by decide) rfl [] rfl) dX0_addNeed_63
        · have c_3513 : v_3512.toInt = 1 := by rw [ka_eq', show ((1 : Int32)).toInt = 1 from by decide] at c_3513; exact c_3513
          refine lv_iconst (v := 0) hx hb dX0_addNeed_48 (by decide) ?_
          exact ka_rEz C hr hlk rfl (Nat.le_of_ble_eq_true rfl) (Nat.le_of_ble_eq_true rfl) hS (ka_qE (f0, 0) rfl (show 0 ≤ ((0 : Int32)).toInt ∧ ((0 : Int32)).toInt ≤ 1 from ⟨by decide, by decide⟩) hK hP hD hS [0, 1] (by decide) rfl [] rfl) dX0_addNeed_49
    · obtain rfl : x1 = 5 := (ka_eq' _ _).mpr (y_3471.trans (by decide))
      refine lv_iload_n hx hb dX0_addNeed_0 rfl (lv_at hl 1 rfl) ?_
      refine ka_RS (n := 1) C (cg_X0_isLesson_27 l D F ) gX0_addNeed_X0_isLesson rfl (by decide +kernel) ⟨Nat.le_of_ble_eq_true rfl, Nat.le_of_ble_eq_true rfl⟩ hK hP hS hE hN [] rfl [] rfl rfl hl.1 (rest := []) rfl (Nat.le_of_ble_eq_true rfl) dX0_addNeed_1 ⟨Nat.le_of_ble_eq_true rfl, Nat.le_of_ble_eq_true rfl⟩ (fun v hv => ?_)
      subst hv
      refine ka_stk (w := [.int 1]) rfl ?_
      refine lv_if_eq (tgt := 19) hx hb dX0_addNeed_4 (by decide) (fun c_ => absurd c_ (by decide)) (fun _ => ?_)
      refine lv_iload_n hx hb dX0_addNeed_7 rfl (lv_at hl 2 rfl) ?_
      refine ka_RS (n := 1) C (cg_X0_isLesson_27 l D F ) gX0_addNeed_X0_isLesson rfl (by decide +kernel) ⟨Nat.le_of_ble_eq_true rfl, Nat.le_of_ble_eq_true rfl⟩ hK hP hS hE hN [] rfl [] rfl rfl hl.1 (rest := []) rfl (Nat.le_of_ble_eq_true rfl) dX0_addNeed_8 ⟨Nat.le_of_ble_eq_true rfl, Nat.le_of_ble_eq_true rfl⟩ (fun v hv => ?_)
      subst hv
      refine ka_stk (w := [.int 1]) rfl ?_
      refine lv_if_eq (tgt := 19) hx hb dX0_addNeed_11 (by decide) (fun c_ => absurd c_ (by decide)) (fun _ => ?_)
      refine lv_iload_n hx hb dX0_addNeed_14 rfl (lv_at hl 1 rfl) ?_
      refine lv_iload_n hx hb dX0_addNeed_15 rfl (lv_at hl 2 rfl) ?_
      refine lv_icmp_ne (tgt := 21) hx hb dX0_addNeed_16 (by decide) (fun c_ => absurd (by decide) c_) (fun _ => ?_)
      refine lv_iconst (v := 0) hx hb dX0_addNeed_19 (by decide) ?_
      exact ka_rEz C hr hlk rfl (Nat.le_of_ble_eq_true rfl) (Nat.le_of_ble_eq_true rfl) hS (ka_qE (f0, 0) rfl (show 0 ≤ ((0 : Int32)).toInt ∧ ((0 : Int32)).toInt ≤ 1 from ⟨by decide, by decide⟩) hK hP hD hS [0, 1] (by decide) rfl [] rfl) dX0_addNeed_20
    · skip
      refine lv_iload_n hx hb dX0_addNeed_0 rfl (lv_at hl 1 rfl) ?_
      refine ka_RS (n := 1) C (cg_X0_isLesson_27 l D F ) gX0_addNeed_X0_isLesson rfl (by decide +kernel) ⟨Nat.le_of_ble_eq_true rfl, Nat.le_of_ble_eq_true rfl⟩ hK hP hS hE hN [] rfl [] rfl rfl hl.1 (rest := []) rfl (Nat.le_of_ble_eq_true rfl) dX0_addNeed_1 ⟨Nat.le_of_ble_eq_true rfl, Nat.le_of_ble_eq_true rfl⟩ (fun v hv => ?_)
      subst hv
      refine ka_stk (w := [.int 1]) rfl ?_
      refine lv_if_eq (tgt := 19) hx hb dX0_addNeed_4 (by decide) (fun c_ => absurd c_ (by decide)) (fun _ => ?_)
      refine lv_iload_n hx hb dX0_addNeed_7 rfl (lv_at hl 2 rfl) ?_
      refine ka_RS (n := 1) C (cg_X0_isLesson_28 l D F x1 (by omega)) gX0_addNeed_X0_isLesson rfl (by decide +kernel) ⟨Nat.le_of_ble_eq_true rfl, Nat.le_of_ble_eq_true rfl⟩ hK hP hS hE hN [] rfl [] rfl rfl hl.1 (rest := []) rfl (Nat.le_of_ble_eq_true rfl) dX0_addNeed_8 ⟨Nat.le_of_ble_eq_true rfl, Nat.le_of_ble_eq_true rfl⟩ (fun v hv => ?_)
      subst hv
      refine ka_stk (w := [.int 0]) rfl ?_
      refine lv_if_eq (tgt := 19) hx hb dX0_addNeed_11 (by decide) (fun _ => ?_) (fun c_ => absurd (by decide) c_)
      refine lv_iconst (v := 0) hx hb dX0_addNeed_19 (by decide) ?_
      exact ka_rEz C hr hlk rfl (Nat.le_of_ble_eq_true rfl) (Nat.le_of_ble_eq_true rfl) hS (ka_qE (f0, 0) rfl (show 0 ≤ ((0 : Int32)).toInt ∧ ((0 : Int32)).toInt ≤ 1 from ⟨by decide, by decide⟩) hK hP hD hS [0, 1] (by decide) rfl [] rfl) dX0_addNeed_20
  · skip
    rcases (show x1.toInt ≤ -1 ∨ x1.toInt = 0 ∨ x1.toInt = 1 ∨ x1.toInt = 2 ∨ x1.toInt = 3 ∨ x1.toInt = 4 ∨ x1.toInt = 5 ∨ 6 ≤ x1.toInt by omega) with y_3517 | y_3517 | y_3517 | y_3517 | y_3517 | y_3517 | y_3517 | y_3517
    · skip
      refine lv_iload_n hx hb dX0_addNeed_0 rfl (lv_at hl 1 rfl) ?_
      refine ka_RS (n := 1) C (cg_X0_isLesson_28 l D F x0 (by omega)) gX0_addNeed_X0_isLesson rfl (by decide +kernel) ⟨Nat.le_of_ble_eq_true rfl, Nat.le_of_ble_eq_true rfl⟩ hK hP hS hE hN [] rfl [] rfl rfl hl.1 (rest := []) rfl (Nat.le_of_ble_eq_true rfl) dX0_addNeed_1 ⟨Nat.le_of_ble_eq_true rfl, Nat.le_of_ble_eq_true rfl⟩ (fun v hv => ?_)
      subst hv
      refine ka_stk (w := [.int 0]) rfl ?_
      refine lv_if_eq (tgt := 19) hx hb dX0_addNeed_4 (by decide) (fun _ => ?_) (fun c_ => absurd (by decide) c_)
      refine lv_iconst (v := 0) hx hb dX0_addNeed_19 (by decide) ?_
      exact ka_rEz C hr hlk rfl (Nat.le_of_ble_eq_true rfl) (Nat.le_of_ble_eq_true rfl) hS (ka_qE (f0, 0) rfl (show 0 ≤ ((0 : Int32)).toInt ∧ ((0 : Int32)).toInt ≤ 1 from ⟨by decide, by decide⟩) hK hP hD hS [0, 1] (by decide) rfl [] rfl) dX0_addNeed_20
    · obtain rfl : x1 = 0 := (ka_eq' _ _).mpr (y_3517.trans (by decide))
      refine lv_iload_n hx hb dX0_addNeed_0 rfl (lv_at hl 1 rfl) ?_
      refine ka_RS (n := 1) C (cg_X0_isLesson_28 l D F x0 (by omega)) gX0_addNeed_X0_isLesson rfl (by decide +kernel) ⟨Nat.le_of_ble_eq_true rfl, Nat.le_of_ble_eq_true rfl⟩ hK hP hS hE hN [] rfl [] rfl rfl hl.1 (rest := []) rfl (Nat.le_of_ble_eq_true rfl) dX0_addNeed_1 ⟨Nat.le_of_ble_eq_true rfl, Nat.le_of_ble_eq_true rfl⟩ (fun v hv => ?_)
      subst hv
      refine ka_stk (w := [.int 0]) rfl ?_
      refine lv_if_eq (tgt := 19) hx hb dX0_addNeed_4 (by decide) (fun _ => ?_) (fun c_ => absurd (by decide) c_)
      refine lv_iconst (v := 0) hx hb dX0_addNeed_19 (by decide) ?_
      exact ka_rEz C hr hlk rfl (Nat.le_of_ble_eq_true rfl) (Nat.le_of_ble_eq_true rfl) hS (ka_qE (f0, 0) rfl (show 0 ≤ ((0 : Int32)).toInt ∧ ((0 : Int32)).toInt ≤ 1 from ⟨by decide, by decide⟩) hK hP hD hS [0, 1] (by decide) rfl [] rfl) dX0_addNeed_20
    · obtain rfl : x1 = 1 := (ka_eq' _ _).mpr (y_3517.trans (by decide))
      refine lv_iload_n hx hb dX0_addNeed_0 rfl (lv_at hl 1 rfl) ?_
      refine ka_RS (n := 1) C (cg_X0_isLesson_28 l D F x0 (by omega)) gX0_addNeed_X0_isLesson rfl (by decide +kernel) ⟨Nat.le_of_ble_eq_true rfl, Nat.le_of_ble_eq_true rfl⟩ hK hP hS hE hN [] rfl [] rfl rfl hl.1 (rest := []) rfl (Nat.le_of_ble_eq_true rfl) dX0_addNeed_1 ⟨Nat.le_of_ble_eq_true rfl, Nat.le_of_ble_eq_true rfl⟩ (fun v hv => ?_)
      subst hv
      refine ka_stk (w := [.int 0]) rfl ?_
      refine lv_if_eq (tgt := 19) hx hb dX0_addNeed_4 (by decide) (fun _ => ?_) (fun c_ => absurd (by decide) c_)
      refine lv_iconst (v := 0) hx hb dX0_addNeed_19 (by decide) ?_
      exact ka_rEz C hr hlk rfl (Nat.le_of_ble_eq_true rfl) (Nat.le_of_ble_eq_true rfl) hS (ka_qE (f0, 0) rfl (show 0 ≤ ((0 : Int32)).toInt ∧ ((0 : Int32)).toInt ≤ 1 from ⟨by decide, by decide⟩) hK hP hD hS [0, 1] (by decide) rfl [] rfl) dX0_addNeed_20
    · obtain rfl : x1 = 2 := (ka_eq' _ _).mpr (y_3517.trans (by decide))
      refine lv_iload_n hx hb dX0_addNeed_0 rfl (lv_at hl 1 rfl) ?_
      refine ka_RS (n := 1) C (cg_X0_isLesson_28 l D F x0 (by omega)) gX0_addNeed_X0_isLesson rfl (by decide +kernel) ⟨Nat.le_of_ble_eq_true rfl, Nat.le_of_ble_eq_true rfl⟩ hK hP hS hE hN [] rfl [] rfl rfl hl.1 (rest := []) rfl (Nat.le_of_ble_eq_true rfl) dX0_addNeed_1 ⟨Nat.le_of_ble_eq_true rfl, Nat.le_of_ble_eq_true rfl⟩ (fun v hv => ?_)
      subst hv
      refine ka_stk (w := [.int 0]) rfl ?_
      refine lv_if_eq (tgt := 19) hx hb dX0_addNeed_4 (by decide) (fun _ => ?_) (fun c_ => absurd (by decide) c_)
      refine lv_iconst (v := 0) hx hb dX0_addNeed_19 (by decide) ?_
      exact ka_rEz C hr hlk rfl (Nat.le_of_ble_eq_true rfl) (Nat.le_of_ble_eq_true rfl) hS (ka_qE (f0, 0) rfl (show 0 ≤ ((0 : Int32)).toInt ∧ ((0 : Int32)).toInt ≤ 1 from ⟨by decide, by decide⟩) hK hP hD hS [0, 1] (by decide) rfl [] rfl) dX0_addNeed_20
    · obtain rfl : x1 = 3 := (ka_eq' _ _).mpr (y_3517.trans (by decide))
      refine lv_iload_n hx hb dX0_addNeed_0 rfl (lv_at hl 1 rfl) ?_
      refine ka_RS (n := 1) C (cg_X0_isLesson_28 l D F x0 (by omega)) gX0_addNeed_X0_isLesson rfl (by decide +kernel) ⟨Nat.le_of_ble_eq_true rfl, Nat.le_of_ble_eq_true rfl⟩ hK hP hS hE hN [] rfl [] rfl rfl hl.1 (rest := []) rfl (Nat.le_of_ble_eq_true rfl) dX0_addNeed_1 ⟨Nat.le_of_ble_eq_true rfl, Nat.le_of_ble_eq_true rfl⟩ (fun v hv => ?_)
      subst hv
      refine ka_stk (w := [.int 0]) rfl ?_
      refine lv_if_eq (tgt := 19) hx hb dX0_addNeed_4 (by decide) (fun _ => ?_) (fun c_ => absurd (by decide) c_)
      refine lv_iconst (v := 0) hx hb dX0_addNeed_19 (by decide) ?_
      exact ka_rEz C hr hlk rfl (Nat.le_of_ble_eq_true rfl) (Nat.le_of_ble_eq_true rfl) hS (ka_qE (f0, 0) rfl (show 0 ≤ ((0 : Int32)).toInt ∧ ((0 : Int32)).toInt ≤ 1 from ⟨by decide, by decide⟩) hK hP hD hS [0, 1] (by decide) rfl [] rfl) dX0_addNeed_20
    · obtain rfl : x1 = 4 := (ka_eq' _ _).mpr (y_3517.trans (by decide))
      refine lv_iload_n hx hb dX0_addNeed_0 rfl (lv_at hl 1 rfl) ?_
      refine ka_RS (n := 1) C (cg_X0_isLesson_28 l D F x0 (by omega)) gX0_addNeed_X0_isLesson rfl (by decide +kernel) ⟨Nat.le_of_ble_eq_true rfl, Nat.le_of_ble_eq_true rfl⟩ hK hP hS hE hN [] rfl [] rfl rfl hl.1 (rest := []) rfl (Nat.le_of_ble_eq_true rfl) dX0_addNeed_1 ⟨Nat.le_of_ble_eq_true rfl, Nat.le_of_ble_eq_true rfl⟩ (fun v hv => ?_)
      subst hv
      refine ka_stk (w := [.int 0]) rfl ?_
      refine lv_if_eq (tgt := 19) hx hb dX0_addNeed_4 (by decide) (fun _ => ?_) (fun c_ => absurd (by decide) c_)
      refine lv_iconst (v := 0) hx hb dX0_addNeed_19 (by decide) ?_
      exact ka_rEz C hr hlk rfl (Nat.le_of_ble_eq_true rfl) (Nat.le_of_ble_eq_true rfl) hS (ka_qE (f0, 0) rfl (show 0 ≤ ((0 : Int32)).toInt ∧ ((0 : Int32)).toInt ≤ 1 from ⟨by decide, by decide⟩) hK hP hD hS [0, 1] (by decide) rfl [] rfl) dX0_addNeed_20
    · obtain rfl : x1 = 5 := (ka_eq' _ _).mpr (y_3517.trans (by decide))
      refine lv_iload_n hx hb dX0_addNeed_0 rfl (lv_at hl 1 rfl) ?_
      refine ka_RS (n := 1) C (cg_X0_isLesson_28 l D F x0 (by omega)) gX0_addNeed_X0_isLesson rfl (by decide +kernel) ⟨Nat.le_of_ble_eq_true rfl, Nat.le_of_ble_eq_true rfl⟩ hK hP hS hE hN [] rfl [] rfl rfl hl.1 (rest := []) rfl (Nat.le_of_ble_eq_true rfl) dX0_addNeed_1 ⟨Nat.le_of_ble_eq_true rfl, Nat.le_of_ble_eq_true rfl⟩ (fun v hv => ?_)
      subst hv
      refine ka_stk (w := [.int 0]) rfl ?_
      refine lv_if_eq (tgt := 19) hx hb dX0_addNeed_4 (by decide) (fun _ => ?_) (fun c_ => absurd (by decide) c_)
      refine lv_iconst (v := 0) hx hb dX0_addNeed_19 (by decide) ?_
      exact ka_rEz C hr hlk rfl (Nat.le_of_ble_eq_true rfl) (Nat.le_of_ble_eq_true rfl) hS (ka_qE (f0, 0) rfl (show 0 ≤ ((0 : Int32)).toInt ∧ ((0 : Int32)).toInt ≤ 1 from ⟨by decide, by decide⟩) hK hP hD hS [0, 1] (by decide) rfl [] rfl) dX0_addNeed_20
    · skip
      refine lv_iload_n hx hb dX0_addNeed_0 rfl (lv_at hl 1 rfl) ?_
      refine ka_RS (n := 1) C (cg_X0_isLesson_28 l D F x0 (by omega)) gX0_addNeed_X0_isLesson rfl (by decide +kernel) ⟨Nat.le_of_ble_eq_true rfl, Nat.le_of_ble_eq_true rfl⟩ hK hP hS hE hN [] rfl [] rfl rfl hl.1 (rest := []) rfl (Nat.le_of_ble_eq_true rfl) dX0_addNeed_1 ⟨Nat.le_of_ble_eq_true rfl, Nat.le_of_ble_eq_true rfl⟩ (fun v hv => ?_)
      subst hv
      refine ka_stk (w := [.int 0]) rfl ?_
      refine lv_if_eq (tgt := 19) hx hb dX0_addNeed_4 (by decide) (fun _ => ?_) (fun c_ => absurd (by decide) c_)
      refine lv_iconst (v := 0) hx hb dX0_addNeed_19 (by decide) ?_
      exact ka_rEz C hr hlk rfl (Nat.le_of_ble_eq_true rfl) (Nat.le_of_ble_eq_true rfl) hS (ka_qE (f0, 0) rfl (show 0 ≤ ((0 : Int32)).toInt ∧ ((0 : Int32)).toInt ≤ 1 from ⟨by decide, by decide⟩) hK hP hD hS [0, 1] (by decide) rfl [] rfl) dX0_addNeed_20
theorem lq_76 : Cond.constant RJ6 265 (1431655765) ∈ wsJ6_bitCount_0f7a4 := by decide +kernel
theorem lq_77 : Cond.constant RJ6 266 (858993459) ∈ wsJ6_bitCount_0f7a4 := by decide +kernel
theorem lq_78 : Cond.constant RJ6 267 (252645135) ∈ wsJ6_bitCount_0f7a4 := by decide +kernel
set_option maxHeartbeats 4000000 in
set_option maxRecDepth 100000 in
theorem cg_J6_bitCount_0f7a4_39 (l : Launch) (D : va_G) (F : Nat → Prop) (x0 : Int32) : ka_R l D F yJ6_bitCount_0f7a4 wsJ6_bitCount_0f7a4 0 0 [.int x0] [] [] (fun v => ∃ x : Int32, v = some (.int x)) := by
  refine ka_R_of (cc := cJ6_bitCount_0f7a4) (maxL := 1) (ret := (some .int)) (by decide) rfl (Nat.le_of_ble_eq_true rfl) ?_
  intro p e s m below meth c ls C hr hlk hP hK hE hN hl
  have hS : va_S (fun _ => False) s.heap s.heap [] := va_S.rf
  have C : CallFix p m c cJ6_bitCount_0f7a4 1 s [.int x0].toArray wsJ6_bitCount_0f7a4 RJ6 := C
  obtain ⟨hx, hb, hml, hown, hts⟩ := id C
  have hl : lv_has ls 1 [(0, .int x0)] := hl
  have rx0 := ka_rng x0
  refine lv_iload_n hx hb dJ6_bitCount_0f7a4_0 rfl (lv_at hl 0 rfl) ?_
  refine lv_iload_n hx hb dJ6_bitCount_0f7a4_1 rfl (lv_at hl 0 rfl) ?_
  refine lv_iconst (v := 1) hx hb dJ6_bitCount_0f7a4_2 (by decide) ?_
  refine lv_iushr hx hb dJ6_bitCount_0f7a4_3 rfl ?_
  refine lv_topi (fun v_3585 ev_3585 => ?_)
  refine lv_ldcw (v := 1431655765) hx hb hown (hts _ lq_76) dJ6_bitCount_0f7a4_4 ?_
  refine lv_iand hx hb dJ6_bitCount_0f7a4_7 ?_
  refine lv_topi (fun v_3586 ev_3586 => ?_)
  refine lv_isub hx hb dJ6_bitCount_0f7a4_8 ?_
  refine lv_topi (fun v_3587 ev_3587 => ?_)
  refine lv_istore_n (lv' := [(0, .int v_3587)]) hx hb dJ6_bitCount_0f7a4_9 rfl hl (by decide) rfl (fun ls hl => ?_)
  refine lv_iload_n hx hb dJ6_bitCount_0f7a4_10 rfl (lv_at hl 0 rfl) ?_
  refine lv_ldcw (v := 858993459) hx hb hown (hts _ lq_77) dJ6_bitCount_0f7a4_11 ?_
  refine lv_iand hx hb dJ6_bitCount_0f7a4_14 ?_
  refine lv_topi (fun v_3588 ev_3588 => ?_)
  refine lv_iload_n hx hb dJ6_bitCount_0f7a4_15 rfl (lv_at hl 0 rfl) ?_
  refine lv_iconst (v := 2) hx hb dJ6_bitCount_0f7a4_16 (by decide) ?_
  refine lv_iushr hx hb dJ6_bitCount_0f7a4_17 rfl ?_
  refine lv_topi (fun v_3589 ev_3589 => ?_)
  refine lv_ldcw (v := 858993459) hx hb hown (hts _ lq_77) dJ6_bitCount_0f7a4_18 ?_
  refine lv_iand hx hb dJ6_bitCount_0f7a4_21 ?_
  refine lv_topi (fun v_3590 ev_3590 => ?_)
  refine lv_iadd hx hb dJ6_bitCount_0f7a4_22 ?_
  refine lv_topi (fun v_3591 ev_3591 => ?_)
  refine lv_istore_n (lv' := [(0, .int v_3591)]) hx hb dJ6_bitCount_0f7a4_23 rfl hl (by decide) rfl (fun ls hl => ?_)
  refine lv_iload_n hx hb dJ6_bitCount_0f7a4_24 rfl (lv_at hl 0 rfl) ?_
  refine lv_iload_n hx hb dJ6_bitCount_0f7a4_25 rfl (lv_at hl 0 rfl) ?_
  refine lv_iconst (v := 4) hx hb dJ6_bitCount_0f7a4_26 (by decide) ?_
  refine lv_iushr hx hb dJ6_bitCount_0f7a4_27 rfl ?_
  refine lv_topi (fun v_3592 ev_3592 => ?_)
  refine lv_iadd hx hb dJ6_bitCount_0f7a4_28 ?_
  refine lv_topi (fun v_3593 ev_3593 => ?_)
  refine lv_ldcw (v := 252645135) hx hb hown (hts _ lq_78) dJ6_bitCount_0f7a4_29 ?_
  refine lv_iand hx hb dJ6_bitCount_0f7a4_32 ?_
  refine lv_topi (fun v_3594 ev_3594 => ?_)
  refine lv_istore_n (lv' := [(0, .int v_3594)]) hx hb dJ6_bitCount_0f7a4_33 rfl hl (by decide) rfl (fun ls hl => ?_)
  refine lv_iload_n hx hb dJ6_bitCount_0f7a4_34 rfl (lv_at hl 0 rfl) ?_
  refine lv_iload_n hx hb dJ6_bitCount_0f7a4_35 rfl (lv_at hl 0 rfl) ?_
  refine lv_bipush (v := 8) hx hb dJ6_bitCount_0f7a4_36 (by decide) ?_
  refine lv_iushr hx hb dJ6_bitCount_0f7a4_38 rfl ?_
  refine lv_topi (fun v_3595 ev_3595 => ?_)
  refine lv_iadd hx hb dJ6_bitCount_0f7a4_39 ?_
  refine lv_topi (fun v_3596 ev_3596 => ?_)
  refine lv_istore_n (lv' := [(0, .int v_3596)]) hx hb dJ6_bitCount_0f7a4_40 rfl hl (by decide) rfl (fun ls hl => ?_)
  refine lv_iload_n hx hb dJ6_bitCount_0f7a4_41 rfl (lv_at hl 0 rfl) ?_
  refine lv_iload_n hx hb dJ6_bitCount_0f7a4_42 rfl (lv_at hl 0 rfl) ?_
  refine lv_bipush (v := 16) hx hb dJ6_bitCount_0f7a4_43 (by decide) ?_
  refine lv_iushr hx hb dJ6_bitCount_0f7a4_45 rfl ?_
  refine lv_topi (fun v_3597 ev_3597 => ?_)
  refine lv_iadd hx hb dJ6_bitCount_0f7a4_46 ?_
  refine lv_topi (fun v_3598 ev_3598 => ?_)
  refine lv_istore_n (lv' := [(0, .int v_3598)]) hx hb dJ6_bitCount_0f7a4_47 rfl hl (by decide) rfl (fun ls hl => ?_)
  refine lv_iload_n hx hb dJ6_bitCount_0f7a4_48 rfl (lv_at hl 0 rfl) ?_
  refine lv_bipush (v := 63) hx hb dJ6_bitCount_0f7a4_49 (by decide) ?_
  refine lv_iand hx hb dJ6_bitCount_0f7a4_51 ?_
  refine lv_topi (fun v_3599 ev_3599 => ?_)
  exact ka_rRi C hr hlk ⟨_, rfl⟩ dJ6_bitCount_0f7a4_52
theorem lq_79 : ∀ w ∈ wsX20, w ∈ wsX2_partingCase := by decide +kernel
theorem lq_80 : Cond.fieldLink RX2 17 "AskedBack$Lesson" "tellers" "[I" ∈ wsX2_partingCase := by decide +kernel
theorem lq_81 : Cond.methodLink RX2 42 Lib.Math.max.name ∈ wsX2_partingCase := by decide +kernel
theorem lq_82 : Cond.static Lib.Math.max.name ∈ wsX2_partingCase := by decide +kernel
theorem lq_83 : Cond.initialized "java/lang/Math" ∈ wsX2_partingCase := by decide +kernel
theorem lq_84 : Cond.code Lib.Math.max.name Lib.Math.max.code 2 (some .int) ∈ wsX2_partingCase := by decide +kernel
theorem lq_85 : Cond.initialized RX6 ∈ wsX2_partingCase := by decide +kernel
theorem lq_86 : Cond.static yX6_bitAt ∈ wsX2_partingCase := by decide +kernel
set_option maxHeartbeats 4000000 in
set_option maxRecDepth 100000 in
theorem cg_X2_partingCase_40 (l : Launch) (D : va_G) (F : Nat → Prop) (a0 : Nat) (x0 : Int32) (x1 : Int32) (a1 : Nat) (a2 : Nat) (x2 : Int32) (o0 : Option Nat) (k0 : ClassId) (f0 : Nat → Int32) (hx2 : 0 ≤ x2.toInt ∧ x2.toInt ≤ 12) (ho0 : ∀ a : Nat, o0 = some a → F a) : ka_R l D F yX2_partingCase wsX2_partingCase 1 21 [.ref a0, .int x0, .int x1] [(a0, .inr (2, [.ref a1, .ref a2, .int x2, va_rf o0])), (a2, .inl (k0, 32, .inl f0))] [(k0, .int)] (fun v => ∃ x : Int32, v = some (.int x) ∧ -1 ≤ x.toInt ∧ x.toInt ≤ 31) := by
  refine ka_R_of (cc := cX2_partingCase) (maxL := 9) (ret := (some .int)) (by decide) rfl (Nat.le_of_ble_eq_true rfl) ?_
  intro p e s m below meth c ls C hr hlk hP hK hE hN hl
  have hS : va_S (fun _ => False) s.heap s.heap [] := va_S.rf
  have C : CallFix p m c cX2_partingCase 9 s [.ref a0, .int x0, .int x1].toArray wsX2_partingCase RX2 := C
  obtain ⟨hx, hb, hml, hown, hts⟩ := id C
  have hl : lv_has ls 9 [(0, .ref a0), (1, .int x0), (2, .int x1)] := hl
  have rx0 := ka_rng x0
  have rx1 := ka_rng x1
  have rx2 := ka_rng x2
  refine lv_iload_n hx hb dX2_partingCase_0 rfl (lv_at hl 1 rfl) ?_
  refine ka_RS (n := 1) C (cg_J6_bitCount_0f7a4_39 l D F x0) gX2_partingCase_J6_bitCount_0f7a4 rfl (by decide +kernel) ⟨Nat.le_of_ble_eq_true rfl, Nat.le_of_ble_eq_true rfl⟩ hK hP hS hE hN [] rfl [] rfl rfl hl.1 (rest := []) rfl (Nat.le_of_ble_eq_true rfl) dX2_partingCase_1 ⟨Nat.le_of_ble_eq_true rfl, Nat.le_of_ble_eq_true rfl⟩ (fun v hv => ?_)
  obtain ⟨v_3689, rfl⟩ := hv
  have rv_3689 := ka_rng v_3689
  refine ka_stk (w := [.int v_3689]) rfl ?_
  refine lv_istore_n (lv' := [(3, .int v_3689), (0, .ref a0), (1, .int x0), (2, .int x1)]) hx hb dX2_partingCase_4 rfl hl (by decide) rfl (fun ls hl => ?_)
  refine lv_iload_n hx hb dX2_partingCase_5 rfl (lv_at hl 0 rfl) ?_
  refine lv_istore (lv' := [(4, .int v_3689), (3, .int v_3689), (0, .ref a0), (1, .int x0), (2, .int x1)]) hx hb dX2_partingCase_6 hl (by decide) rfl (fun ls hl => ?_)
  refine lv_iconst (v := (-1)) hx hb dX2_partingCase_8 (by decide) ?_
  refine lv_istore (lv' := [(5, .int (-1)), (4, .int v_3689), (3, .int v_3689), (0, .ref a0), (1, .int x0), (2, .int x1)]) hx hb dX2_partingCase_9 hl (by decide) rfl (fun ls hl => ?_)
  refine lv_iconst (v := 0) hx hb dX2_partingCase_11 (by decide) ?_
  refine lv_istore (lv' := [(6, .int 0), (5, .int (-1)), (4, .int v_3689), (3, .int v_3689), (0, .ref a0), (1, .int x0), (2, .int x1)]) hx hb dX2_partingCase_12 hl (by decide) rfl (fun ls hl => ?_)
  have lp_3690 : ∀ (n : Nat) (i3690_4 : Int32) (i3690_5 : Int32) (i3690_6 : Int32), (-1 ≤ i3690_5.toInt ∧ i3690_5.toInt ≤ 31) → (0 ≤ i3690_6.toInt ∧ i3690_6.toInt ≤ 32) → (32 - i3690_6.toInt).toNat < n → ∀ (ls : Array Slot), lv_has ls 9 [(0, .ref a0), (1, .int x0), (2, .int x1), (3, .int v_3689), (4, .int i3690_4), (5, .int i3690_5), (6, .int i3690_6)] → W p l e ({ frames := 1, cells := 0, slots := 0, locals := 21 }) s m [.ref a0, .int x0, .int x1].toArray below meth c s.heap [] 0 0 (MQ below (ka_QR (fun v => ∃ x : Int32, v = some (.int x) ∧ -1 ≤ x.toInt ∧ x.toInt ≤ 31)) [.ref a0, .int x0, .int x1].toArray s 0 0 (fun _ => False)) (F0 m 14 ls []) := by
    intro n
    induction n with
    | zero =>
      intro i3690_4 i3690_5 i3690_6 hi3690_5 hi3690_6 hm
      exact absurd hm (Nat.not_lt_zero _)
    | succ n ih_3690 =>
      intro i3690_4 i3690_5 i3690_6 hi3690_5 hi3690_6 hm ls hl
      have ri3690_4 := ka_rng i3690_4
      have ri3690_5 := ka_rng i3690_5
      have ri3690_6 := ka_rng i3690_6
      refine lv_iload hx hb dX2_partingCase_14 (lv_at hl 6 rfl) ?_
      refine lv_aload_n hx hb dX2_partingCase_16 rfl (lv_at hl 0 rfl) ?_
      refine ka_get C lq_79 rfl hK hP 0 rfl 1 (by decide) lq_80 rfl dX2_partingCase_17 ?_
      refine va_alen hx hb hK hP 1 0 rfl (ty := .int) rfl (v := 32) rfl dX2_partingCase_20 ?_
      refine lv_icmp_ge (tgt := 79) hx hb dX2_partingCase_21 (by decide) (fun c_3703 => ?_) (fun c_3703 => ?_)
      · have c_3703 : 32 ≤ i3690_6.toInt := by rw [ka_le', show ((32 : Int32)).toInt = 32 from by decide] at c_3703; exact c_3703
        refine lv_iload hx hb dX2_partingCase_79 (lv_at hl 5 rfl) ?_
        exact ka_rRi C hr hlk ⟨_, rfl, ⟨by omega, by omega⟩⟩ dX2_partingCase_81
      · have c_3703 : ¬ 32 ≤ i3690_6.toInt := by rw [ka_le', show ((32 : Int32)).toInt = 32 from by decide] at c_3703; exact c_3703
        refine lv_aload_n hx hb dX2_partingCase_24 rfl (lv_at hl 0 rfl) ?_
        refine ka_get C lq_79 rfl hK hP 0 rfl 1 (by decide) lq_80 rfl dX2_partingCase_25 ?_
        refine lv_iload hx hb dX2_partingCase_28 (lv_at hl 6 rfl) ?_
        refine va_iald hx hb hK hP 1 0 rfl rfl (ka_in (by omega) (by omega)) dX2_partingCase_30 ?_
        refine lv_topi (fun v_3704 ev_3704 => ?_)
        refine lv_iload_n hx hb dX2_partingCase_31 rfl (lv_at hl 1 rfl) ?_
        refine lv_iand hx hb dX2_partingCase_32 ?_
        refine lv_topi (fun v_3705 ev_3705 => ?_)
        refine ka_RS (n := 1) C (cg_J6_bitCount_0f7a4_39 l D F v_3705) gX2_partingCase_J6_bitCount_0f7a4 rfl (by decide +kernel) ⟨Nat.le_of_ble_eq_true rfl, Nat.le_of_ble_eq_true rfl⟩ hK hP hS hE hN [] rfl [] rfl rfl hl.1 (rest := []) rfl (Nat.le_of_ble_eq_true rfl) dX2_partingCase_33 ⟨Nat.le_of_ble_eq_true rfl, Nat.le_of_ble_eq_true rfl⟩ (fun v hv => ?_)
        obtain ⟨v_3706, rfl⟩ := hv
        have rv_3706 := ka_rng v_3706
        refine ka_stk (w := [.int v_3706]) rfl ?_
        refine lv_istore (lv' := [(7, .int v_3706), (0, .ref a0), (1, .int x0), (2, .int x1), (3, .int v_3689), (4, .int i3690_4), (5, .int i3690_5), (6, .int i3690_6)]) hx hb dX2_partingCase_36 hl (by decide) rfl (fun ls hl => ?_)
        refine lv_iload hx hb dX2_partingCase_38 (lv_at hl 0 rfl) ?_
        refine lv_iload_n hx hb dX2_partingCase_40 rfl (lv_at hl 4 rfl) ?_
        refine lv_iload hx hb dX2_partingCase_41 (lv_at hl 0 rfl) ?_
        refine lv_isub hx hb dX2_partingCase_43 ?_
        refine lv_topi (fun v_3707 ev_3707 => ?_)
        refine va_mmax hx hb (hml.trans hl.1.symm) hown (hts _ lq_81) (hts _ lq_82) (hts _ lq_83) (hts _ lq_84) (Nat.le_of_ble_eq_true rfl) (Nat.le_of_ble_eq_true rfl) (Nat.le_of_ble_eq_true rfl) (Nat.le_of_ble_eq_true rfl) dX2_partingCase_44 ?_
        refine lv_topi (fun v_3708 ev_3708 => ?_)
        have fv_3708 := kb_max v_3706 v_3707; rw [← ev_3708] at fv_3708
        refine lv_istore (lv' := [(8, .int v_3708), (7, .int v_3706), (0, .ref a0), (1, .int x0), (2, .int x1), (3, .int v_3689), (4, .int i3690_4), (5, .int i3690_5), (6, .int i3690_6)]) hx hb dX2_partingCase_47 hl (by decide) rfl (fun ls hl => ?_)
        refine lv_iload_n hx hb dX2_partingCase_49 rfl (lv_at hl 4 rfl) ?_
        refine lv_iload hx hb dX2_partingCase_50 (lv_at hl 8 rfl) ?_
        refine ka_RN (n := 2) C (ka_c_bitAt l D F x1 i3690_6) gX2_partingCase_X6_bitAt_n32 rfl hN.2.2.2.2.1 lq_85 lq_86 (by decide +kernel) ⟨Nat.le_of_ble_eq_true rfl, Nat.le_of_ble_eq_true rfl⟩ hK hP hS hE hN [] rfl [] rfl rfl hl.1 (rest := []) rfl (Nat.le_of_ble_eq_true rfl) dX2_partingCase_52 ⟨Nat.le_of_ble_eq_true rfl, Nat.le_of_ble_eq_true rfl⟩ (fun v hv => ?_)
        subst hv
        refine ka_stk (w := .int (ka_bit x1 i3690_6) :: []) rfl ?_
        refine lv_topi (fun v_3709 ev_3709 => ?_)
        have fv_3709 := ka_bit_in x1 i3690_6; rw [← ev_3709] at fv_3709
        refine lv_if_ne (tgt := 73) hx hb dX2_partingCase_55 (by decide) (fun c_3710 => ?_) (fun c_3710 => ?_)
        · have c_3710 : ¬ v_3709.toInt = 0 := by rw [ka_eq', show ((0 : Int32)).toInt = 0 from by decide] at c_3710; exact c_3710
          obtain ⟨v_3711, ev_3711⟩ : ∃ y : Int32, y = i3690_6 + 1 := ⟨_, rfl⟩
          refine lv_iinc (v := v_3711) (lv' := [(6, .int v_3711), (8, .int v_3708), (7, .int v_3706), (0, .ref a0), (1, .int x0), (2, .int x1), (3, .int v_3689), (4, .int i3690_4), (5, .int i3690_5)]) hx hb dX2_partingCase_73 hl (k := 8) rfl (by rw [ev_3711]; rfl) (by decide) rfl (fun ls hl => ?_)
          have fv_3711 : v_3711.toInt = i3690_6.toInt + 1 := by rw [ev_3711]; exact ka_add (x := i3690_6.toInt) (y := 1) rfl (by decide) (by omega) (by omega)
          refine lv_goto (tgt := 14) hx hb dX2_partingCase_76 (by decide) ?_
          exact ih_3690 i3690_4 i3690_5 v_3711 ⟨by omega, by omega⟩ ⟨by omega, by omega⟩ (by omega) ls (lv_sub hl [3, 4, 5, 6, 7, 8, 0] rfl)
        · have c_3710 : v_3709.toInt = 0 := by rw [ka_eq', show ((0 : Int32)).toInt = 0 from by decide] at c_3710; exact c_3710
          refine lv_iload hx hb dX2_partingCase_58 (lv_at hl 0 rfl) ?_
          refine lv_iload hx hb dX2_partingCase_60 (lv_at hl 6 rfl) ?_
          refine lv_icmp_ge (tgt := 73) hx hb dX2_partingCase_62 (by decide) (fun c_3712 => ?_) (fun c_3712 => ?_)
          · have c_3712 : i3690_4.toInt ≤ v_3708.toInt := by rw [ka_le'] at c_3712; exact c_3712
            obtain ⟨v_3713, ev_3713⟩ : ∃ y : Int32, y = i3690_6 + 1 := ⟨_, rfl⟩
            refine lv_iinc (v := v_3713) (lv' := [(6, .int v_3713), (8, .int v_3708), (7, .int v_3706), (0, .ref a0), (1, .int x0), (2, .int x1), (3, .int v_3689), (4, .int i3690_4), (5, .int i3690_5)]) hx hb dX2_partingCase_73 hl (k := 8) rfl (by rw [ev_3713]; rfl) (by decide) rfl (fun ls hl => ?_)
            have fv_3713 : v_3713.toInt = i3690_6.toInt + 1 := by rw [ev_3713]; exact ka_add (x := i3690_6.toInt) (y := 1) rfl (by decide) (by omega) (by omega)
            refine lv_goto (tgt := 14) hx hb dX2_partingCase_76 (by decide) ?_
            exact ih_3690 i3690_4 i3690_5 v_3713 ⟨by omega, by omega⟩ ⟨by omega, by omega⟩ (by omega) ls (lv_sub hl [3, 4, 5, 6, 7, 8, 0] rfl)
          · have c_3712 : ¬ i3690_4.toInt ≤ v_3708.toInt := by rw [ka_le'] at c_3712; exact c_3712
            refine lv_iload hx hb dX2_partingCase_65 (lv_at hl 0 rfl) ?_
            refine lv_istore (lv' := [(4, .int v_3708), (8, .int v_3708), (7, .int v_3706), (0, .ref a0), (1, .int x0), (2, .int x1), (3, .int v_3689), (5, .int i3690_5), (6, .int i3690_6)]) hx hb dX2_partingCase_67 hl (by decide) rfl (fun ls hl => ?_)
            refine lv_iload hx hb dX2_partingCase_69 (lv_at hl 8 rfl) ?_
            refine lv_istore (lv' := [(5, .int i3690_6), (4, .int v_3708), (8, .int v_3708), (7, .int v_3706), (0, .ref a0), (1, .int x0), (2, .int x1), (3, .int v_3689), (6, .int i3690_6)]) hx hb dX2_partingCase_71 hl (by decide) rfl (fun ls hl => ?_)
            obtain ⟨v_3714, ev_3714⟩ : ∃ y : Int32, y = i3690_6 + 1 := ⟨_, rfl⟩
            refine lv_iinc (v := v_3714) (lv' := [(6, .int v_3714), (5, .int i3690_6), (4, .int v_3708), (8, .int v_3708), (7, .int v_3706), (0, .ref a0), (1, .int x0), (2, .int x1), (3, .int v_3689)]) hx hb dX2_partingCase_73 hl (k := 8) rfl (by rw [ev_3714]; rfl) (by decide) rfl (fun ls hl => ?_)
            have fv_3714 : v_3714.toInt = i3690_6.toInt + 1 := by rw [ev_3714]; exact ka_add (x := i3690_6.toInt) (y := 1) rfl (by decide) (by omega) (by omega)
            refine lv_goto (tgt := 14) hx hb dX2_partingCase_76 (by decide) ?_
            exact ih_3690 v_3708 i3690_6 v_3714 ⟨by omega, by omega⟩ ⟨by omega, by omega⟩ (by omega) ls (lv_sub hl [5, 6, 7, 8, 2, 1, 0] rfl)
  exact lp_3690 _ v_3689 (-1) 0 ⟨by decide, by decide⟩ ⟨by decide, by decide⟩ (Nat.lt_succ_self _) ls (lv_sub hl [4, 5, 6, 3, 2, 1, 0] rfl)
theorem lq_87 : ∀ w ∈ wsX20, w ∈ wsX2_pathOf := by decide +kernel
theorem lq_88 : Cond.fieldLink RX2 21 "AskedBack$Lesson" "pictureCount" "I" ∈ wsX2_pathOf := by decide +kernel
theorem lq_89 : Cond.fieldLink RX2 17 "AskedBack$Lesson" "tellers" "[I" ∈ wsX2_pathOf := by decide +kernel
theorem lq_90 : Cond.initialized RX6 ∈ wsX2_pathOf := by decide +kernel
theorem lq_91 : Cond.static yX6_bitAt ∈ wsX2_pathOf := by decide +kernel
set_option maxHeartbeats 4000000 in
set_option maxRecDepth 100000 in
theorem cg_X2_pathOf_41 (l : Launch) (D : va_G) (F : Nat → Prop) (a0 : Nat) (x0 : Int32) (a1 : Nat) (a2 : Nat) (x1 : Int32) (o0 : Option Nat) (k0 : ClassId) (f0 : Nat → Int32) (hx1 : 0 ≤ x1.toInt ∧ x1.toInt ≤ 12) (ho0 : ∀ a : Nat, o0 = some a → F a) : ka_R l D F yX2_pathOf wsX2_pathOf 2 49 [.ref a0, .int x0] [(a0, .inr (2, [.ref a1, .ref a2, .int x1, va_rf o0])), (a2, .inl (k0, 32, .inl f0))] [(k0, .int)] (fun v => ∃ x : Int32, v = some (.int x) ∧ 0 ≤ x.toInt ∧ x.toInt ≤ 32) := by
  refine ka_R_of (cc := cX2_pathOf) (maxL := 6) (ret := (some .int)) (by decide) rfl (Nat.le_of_ble_eq_true rfl) ?_
  intro p e s m below meth c ls C hr hlk hP hK hE hN hl
  have hS : va_S (fun _ => False) s.heap s.heap [] := va_S.rf
  have C : CallFix p m c cX2_pathOf 6 s [.ref a0, .int x0].toArray wsX2_pathOf RX2 := C
  obtain ⟨hx, hb, hml, hown, hts⟩ := id C
  have hl : lv_has ls 6 [(0, .ref a0), (1, .int x0)] := hl
  have rx0 := ka_rng x0
  have rx1 := ka_rng x1
  refine lv_iconst (v := 1) hx hb dX2_pathOf_0 (by decide) ?_
  refine lv_aload_n hx hb dX2_pathOf_1 rfl (lv_at hl 0 rfl) ?_
  refine ka_get C lq_87 rfl hK hP 0 rfl 2 (by decide) lq_88 rfl dX2_pathOf_2 ?_
  refine lv_ishl hx hb dX2_pathOf_5 ?_
  refine lv_topi (fun v_3818 ev_3818 => ?_)
  refine lv_iconst (v := 1) hx hb dX2_pathOf_6 (by decide) ?_
  refine lv_isub hx hb dX2_pathOf_7 ?_
  refine lv_topi (fun v_3819 ev_3819 => ?_)
  refine lv_istore_n (lv' := [(2, .int v_3819), (0, .ref a0), (1, .int x0)]) hx hb dX2_pathOf_8 rfl hl (by decide) rfl (fun ls hl => ?_)
  refine lv_iconst (v := 0) hx hb dX2_pathOf_9 (by decide) ?_
  refine lv_istore_n (lv' := [(3, .int 0), (2, .int v_3819), (0, .ref a0), (1, .int x0)]) hx hb dX2_pathOf_10 rfl hl (by decide) rfl (fun ls hl => ?_)
  refine lv_iconst (v := 0) hx hb dX2_pathOf_11 (by decide) ?_
  refine lv_istore (lv' := [(4, .int 0), (3, .int 0), (2, .int v_3819), (0, .ref a0), (1, .int x0)]) hx hb dX2_pathOf_12 hl (by decide) rfl (fun ls hl => ?_)
  have lp_3820 : ∀ (n : Nat) (i3820_2 : Int32) (i3820_3 : Int32) (i3820_4 : Int32), (0 ≤ i3820_4.toInt ∧ i3820_4.toInt ≤ 32) → (32 - i3820_4.toInt).toNat < n → ∀ (ls : Array Slot), lv_has ls 6 [(0, .ref a0), (1, .int x0), (2, .int i3820_2), (3, .int i3820_3), (4, .int i3820_4)] → W p l e ({ frames := 2, cells := 0, slots := 0, locals := 49 }) s m [.ref a0, .int x0].toArray below meth c s.heap [] 0 0 (MQ below (ka_QR (fun v => ∃ x : Int32, v = some (.int x) ∧ 0 ≤ x.toInt ∧ x.toInt ≤ 32)) [.ref a0, .int x0].toArray s 0 0 (fun _ => False)) (F0 m 14 ls []) := by
    intro n
    induction n with
    | zero =>
      intro i3820_2 i3820_3 i3820_4 hi3820_4 hm
      exact absurd hm (Nat.not_lt_zero _)
    | succ n ih_3820 =>
      intro i3820_2 i3820_3 i3820_4 hi3820_4 hm ls hl
      have ri3820_2 := ka_rng i3820_2
      have ri3820_3 := ka_rng i3820_3
      have ri3820_4 := ka_rng i3820_4
      refine lv_iload hx hb dX2_pathOf_14 (lv_at hl 4 rfl) ?_
      refine lv_bipush (v := 32) hx hb dX2_pathOf_16 (by decide) ?_
      refine lv_icmp_ge (tgt := 97) hx hb dX2_pathOf_18 (by decide) (fun c_3836 => ?_) (fun c_3836 => ?_)
      · have c_3836 : 32 ≤ i3820_4.toInt := by rw [ka_le', show ((32 : Int32)).toInt = 32 from by decide] at c_3836; exact c_3836
        refine lv_bipush (v := 32) hx hb dX2_pathOf_97 (by decide) ?_
        exact ka_rRi C hr hlk ⟨_, rfl, ⟨by decide, by decide⟩⟩ dX2_pathOf_99
      · have c_3836 : ¬ 32 ≤ i3820_4.toInt := by rw [ka_le', show ((32 : Int32)).toInt = 32 from by decide] at c_3836; exact c_3836
        refine lv_aload_n hx hb dX2_pathOf_21 rfl (lv_at hl 0 rfl) ?_
        refine lv_iload_n hx hb dX2_pathOf_22 rfl (lv_at hl 2 rfl) ?_
        refine lv_iload_n hx hb dX2_pathOf_23 rfl (lv_at hl 3 rfl) ?_
        refine ka_RV (n := 2) C (cg_X2_partingCase_40 l D F a0 i3820_2 i3820_3 a1 a2 x1 o0 k0 f0 ⟨by omega, by omega⟩ ho0) gX2_pathOf_X2_partingCase rfl (by decide +kernel) ⟨Nat.le_of_ble_eq_true rfl, Nat.le_of_ble_eq_true rfl⟩ hK hP hS hE hN [0, 1] rfl [0] rfl (ci := 2) rfl rfl 0 rfl rfl hl.1 (rest := []) rfl (Nat.le_of_ble_eq_true rfl) dX2_pathOf_24 ⟨Nat.le_of_ble_eq_true rfl, Nat.le_of_ble_eq_true rfl⟩ (fun v hv => ?_)
        obtain ⟨v_3837, rfl, hv_3837⟩ := hv
        have rv_3837 := ka_rng v_3837
        refine ka_stk (w := [.int v_3837]) rfl ?_
        refine lv_istore (lv' := [(5, .int v_3837), (0, .ref a0), (1, .int x0), (2, .int i3820_2), (3, .int i3820_3), (4, .int i3820_4)]) hx hb dX2_pathOf_27 hl (by decide) rfl (fun ls hl => ?_)
        refine lv_iload hx hb dX2_pathOf_29 (lv_at hl 0 rfl) ?_
        refine lv_if_lt (tgt := 44) hx hb dX2_pathOf_31 (by decide) (fun c_3838 => ?_) (fun c_3838 => ?_)
        · have c_3838 : v_3837.toInt < 0 := by rw [ka_lt', show ((0 : Int32)).toInt = 0 from by decide] at c_3838; exact c_3838
          refine lv_iload hx hb dX2_pathOf_44 (lv_at hl 5 rfl) ?_
          exact ka_rRi C hr hlk ⟨_, rfl, ⟨by omega, by omega⟩⟩ dX2_pathOf_46
        · have c_3838 : ¬ v_3837.toInt < 0 := by rw [ka_lt', show ((0 : Int32)).toInt = 0 from by decide] at c_3838; exact c_3838
          refine lv_iload hx hb dX2_pathOf_34 (lv_at hl 0 rfl) ?_
          refine lv_aload_n hx hb dX2_pathOf_36 rfl (lv_at hl 1 rfl) ?_
          refine ka_get C lq_87 rfl hK hP 0 rfl 1 (by decide) lq_89 rfl dX2_pathOf_37 ?_
          refine va_alen hx hb hK hP 1 0 rfl (ty := .int) rfl (v := 32) rfl dX2_pathOf_40 ?_
          refine lv_icmp_lt (tgt := 47) hx hb dX2_pathOf_41 (by decide) (fun _ => ?_) (fun c_ => absurd (by rw [ka_lt', show ((32 : Int32)).toInt = 32 from by decide]; omega) c_)
          refine lv_iload_n hx hb dX2_pathOf_47 rfl (lv_at hl 4 rfl) ?_
          refine lv_iconst (v := 1) hx hb dX2_pathOf_48 (by decide) ?_
          refine lv_iload hx hb dX2_pathOf_49 (lv_at hl 0 rfl) ?_
          refine lv_ishl hx hb dX2_pathOf_51 ?_
          refine lv_topi (fun v_3839 ev_3839 => ?_)
          refine lv_ior hx hb dX2_pathOf_52 ?_
          refine lv_topi (fun v_3840 ev_3840 => ?_)
          refine lv_istore_n (lv' := [(3, .int v_3840), (5, .int v_3837), (0, .ref a0), (1, .int x0), (2, .int i3820_2), (4, .int i3820_4)]) hx hb dX2_pathOf_53 rfl hl (by decide) rfl (fun ls hl => ?_)
          refine lv_iload_n hx hb dX2_pathOf_54 rfl (lv_at hl 4 rfl) ?_
          refine lv_aload_n hx hb dX2_pathOf_55 rfl (lv_at hl 2 rfl) ?_
          refine ka_get C lq_87 rfl hK hP 0 rfl 1 (by decide) lq_89 rfl dX2_pathOf_56 ?_
          refine lv_iload hx hb dX2_pathOf_59 (lv_at hl 1 rfl) ?_
          refine va_iald hx hb hK hP 1 0 rfl rfl (ka_in (by omega) (by omega)) dX2_pathOf_61 ?_
          refine lv_topi (fun v_3841 ev_3841 => ?_)
          refine lv_iload_n hx hb dX2_pathOf_62 rfl (lv_at hl 3 rfl) ?_
          refine ka_RN (n := 2) C (ka_c_bitAt l D F v_3841 x0) gX2_pathOf_X6_bitAt_n32 rfl hN.2.2.2.2.1 lq_90 lq_91 (by decide +kernel) ⟨Nat.le_of_ble_eq_true rfl, Nat.le_of_ble_eq_true rfl⟩ hK hP hS hE hN [] rfl [] rfl rfl hl.1 (rest := [.int i3820_2]) rfl (Nat.le_of_ble_eq_true rfl) dX2_pathOf_63 ⟨Nat.le_of_ble_eq_true rfl, Nat.le_of_ble_eq_true rfl⟩ (fun v hv => ?_)
          subst hv
          refine ka_stk (w := .int (ka_bit v_3841 x0) :: [.int i3820_2]) rfl ?_
          refine lv_topi (fun v_3842 ev_3842 => ?_)
          have fv_3842 := ka_bit_in v_3841 x0; rw [← ev_3842] at fv_3842
          refine lv_iconst (v := 1) hx hb dX2_pathOf_66 (by decide) ?_
          refine lv_icmp_ne (tgt := 80) hx hb dX2_pathOf_67 (by decide) (fun c_3843 => ?_) (fun c_3843 => ?_)
          · have c_3843 : ¬ v_3842.toInt = 1 := by rw [ka_eq', show ((1 : Int32)).toInt = 1 from by decide] at c_3843; exact c_3843
            refine lv_aload_n hx hb dX2_pathOf_80 rfl (lv_at hl 2 rfl) ?_
            refine ka_get C lq_87 rfl hK hP 0 rfl 1 (by decide) lq_89 rfl dX2_pathOf_81 ?_
            refine lv_iload hx hb dX2_pathOf_84 (lv_at hl 1 rfl) ?_
            refine va_iald hx hb hK hP 1 0 rfl rfl (ka_in (by omega) (by omega)) dX2_pathOf_86 ?_
            refine lv_topi (fun v_3844 ev_3844 => ?_)
            refine lv_iconst (v := (-1)) hx hb dX2_pathOf_87 (by decide) ?_
            refine lv_ixor hx hb dX2_pathOf_88 ?_
            refine lv_topi (fun v_3845 ev_3845 => ?_)
            refine lv_iand hx hb dX2_pathOf_89 ?_
            refine lv_topi (fun v_3846 ev_3846 => ?_)
            refine lv_istore_n (lv' := [(2, .int v_3846), (3, .int v_3840), (5, .int v_3837), (0, .ref a0), (1, .int x0), (4, .int i3820_4)]) hx hb dX2_pathOf_90 rfl hl (by decide) rfl (fun ls hl => ?_)
            obtain ⟨v_3847, ev_3847⟩ : ∃ y : Int32, y = i3820_4 + 1 := ⟨_, rfl⟩
            refine lv_iinc (v := v_3847) (lv' := [(4, .int v_3847), (2, .int v_3846), (3, .int v_3840), (5, .int v_3837), (0, .ref a0), (1, .int x0)]) hx hb dX2_pathOf_91 hl (k := 5) rfl (by rw [ev_3847]; rfl) (by decide) rfl (fun ls hl => ?_)
            have fv_3847 : v_3847.toInt = i3820_4.toInt + 1 := by rw [ev_3847]; exact ka_add (x := i3820_4.toInt) (y := 1) rfl (by decide) (by omega) (by omega)
            refine lv_goto (tgt := 14) hx hb dX2_pathOf_94 (by decide) ?_
            exact ih_3820 v_3846 v_3840 v_3847 ⟨by omega, by omega⟩ (by omega) ls (lv_sub hl [4, 5, 1, 2, 0] rfl)
          · have c_3843 : v_3842.toInt = 1 := by rw [ka_eq', show ((1 : Int32)).toInt = 1 from by decide] at c_3843; exact c_3843
            refine lv_aload_n hx hb dX2_pathOf_70 rfl (lv_at hl 2 rfl) ?_
            refine ka_get C lq_87 rfl hK hP 0 rfl 1 (by decide) lq_89 rfl dX2_pathOf_71 ?_
            refine lv_iload hx hb dX2_pathOf_74 (lv_at hl 1 rfl) ?_
            refine va_iald hx hb hK hP 1 0 rfl rfl (ka_in (by omega) (by omega)) dX2_pathOf_76 ?_
            refine lv_topi (fun v_3848 ev_3848 => ?_)
            refine lv_goto (tgt := 89) hx hb dX2_pathOf_77 (by decide) ?_
            refine lv_iand hx hb dX2_pathOf_89 ?_
            refine lv_topi (fun v_3849 ev_3849 => ?_)
            refine lv_istore_n (lv' := [(2, .int v_3849), (3, .int v_3840), (5, .int v_3837), (0, .ref a0), (1, .int x0), (4, .int i3820_4)]) hx hb dX2_pathOf_90 rfl hl (by decide) rfl (fun ls hl => ?_)
            obtain ⟨v_3850, ev_3850⟩ : ∃ y : Int32, y = i3820_4 + 1 := ⟨_, rfl⟩
            refine lv_iinc (v := v_3850) (lv' := [(4, .int v_3850), (2, .int v_3849), (3, .int v_3840), (5, .int v_3837), (0, .ref a0), (1, .int x0)]) hx hb dX2_pathOf_91 hl (k := 5) rfl (by rw [ev_3850]; rfl) (by decide) rfl (fun ls hl => ?_)
            have fv_3850 : v_3850.toInt = i3820_4.toInt + 1 := by rw [ev_3850]; exact ka_add (x := i3820_4.toInt) (y := 1) rfl (by decide) (by omega) (by omega)
            refine lv_goto (tgt := 14) hx hb dX2_pathOf_94 (by decide) ?_
            exact ih_3820 v_3849 v_3840 v_3850 ⟨by omega, by omega⟩ (by omega) ls (lv_sub hl [4, 5, 1, 2, 0] rfl)
  exact lp_3820 _ v_3819 0 0 ⟨by decide, by decide⟩ (Nat.lt_succ_self _) ls (lv_sub hl [3, 4, 2, 1, 0] rfl)
