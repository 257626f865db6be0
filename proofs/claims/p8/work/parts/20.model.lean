theorem lq_269 : ∀ w ∈ wsX70, w ∈ wsX7_four := by decide +kernel
theorem lq_270 : Cond.fieldLink RX7 7 "AskedBackModel" "tape" "[B" ∈ wsX7_four := by decide +kernel
theorem lq_271 : Cond.fieldLink RX7 71 "AskedBackModel" "taped" "I" ∈ wsX7_four := by decide +kernel
set_option maxHeartbeats 4000000 in
set_option maxRecDepth 100000 in
theorem cg_X7_four_208 (l : Launch) (D : va_G) (F : Nat → Prop) (a0 : Nat) (x0 : Int32) (a1 : Nat) (x1 : Int32) (a2 : Nat) (a3 : Nat) (a4 : Nat) (a5 : Nat) (a6 : Nat) (a7 : Nat) (a8 : Nat) (x2 : Int32) (x3 : Int32) (x4 : Int32) (x5 : Int32) (x6 : Int32) (x7 : Int32) (x8 : Int32) (a9 : Nat) (a10 : Nat) (a11 : Nat) (a12 : Nat) (a13 : Nat) (a14 : Nat) (x9 : Int32) (x10 : Int32) (x11 : Int32) (x12 : Int32) (x13 : Int32) (x14 : Int32) (k0 : ClassId) (f0 : Nat → Int32) (hx1 : 0 ≤ x1.toInt ∧ x1.toInt ≤ 60) (hx2 : -1 ≤ x2.toInt ∧ x2.toInt ≤ 5) (hx5 : 1 ≤ x5.toInt ∧ x5.toInt ≤ 8) (hx6 : 0 ≤ x6.toInt ∧ x6.toInt ≤ 40) (hx8 : 0 ≤ x8.toInt ∧ x8.toInt ≤ 10) (hx9 : 0 ≤ x9.toInt ∧ x9.toInt ≤ 60) (hx10 : 0 ≤ x10.toInt ∧ x10.toInt ≤ 60) (hx11 : 0 ≤ x11.toInt ∧ x11.toInt ≤ 60) (hx12 : 0 ≤ x12.toInt ∧ x12.toInt ≤ 8) (hx14 : 0 ≤ x14.toInt ∧ x14.toInt ≤ 1) (hf0 : sb_Fit f0) : ka_E l D F yX7_four wsX7_four 0 0 0 0 [.ref a0, .int x0] [(a0, .inr (7, [.ref a1, .int x1, .ref a2, .ref a3, .ref a4, .ref a5, .ref a6, .ref a7, .ref a8, .int x2, .int x3, .int x4, .int x5, .int x6, .int x7, .int x8, .ref a9, .ref a10, .ref a11, .ref a12, .ref a13, .ref a14, .int x9, .int x10, .int x11, .int x12, .int x13, .int x14])), (a1, .inl (k0, 80, .inl f0))] [(k0, .byte)] (fun (u : (Int32) × (Nat → Int32)) => none) (fun (u : (Int32) × (Nat → Int32)) => (4 ≤ (u.1).toInt ∧ (u.1).toInt ≤ 64) ∧ (sb_Fit (u.2))) (fun (u : (Int32) × (Nat → Int32)) => [(a0, .inr (7, [.ref a1, .int (u.1), .ref a2, .ref a3, .ref a4, .ref a5, .ref a6, .ref a7, .ref a8, .int x2, .int x3, .int x4, .int x5, .int x6, .int x7, .int x8, .ref a9, .ref a10, .ref a11, .ref a12, .ref a13, .ref a14, .int x9, .int x10, .int x11, .int x12, .int x13, .int x14])), (a1, .inl (k0, 80, .inl (u.2)))]) (fun (u : (Int32) × (Nat → Int32)) => []) := by
  refine ka_E_of (cc := cX7_four) (maxL := 3) (ret := none) (by decide) rfl (Nat.le_of_ble_eq_true rfl) ?_
  intro p e s m below meth c ls A C hr hlk hin hP hK hD hS hA hE hN hl
  have C : CallFix p m c cX7_four 3 s [.ref a0, .int x0].toArray wsX7_four RX7 := C
  obtain ⟨hx, hb, hml, hown, hts⟩ := id C
  have hl : lv_has ls 3 [(0, .ref a0), (1, .int x0)] := hl
  have rx0 := ka_rng x0
  have rx1 := ka_rng x1
  have rx2 := ka_rng x2
  have rx3 := ka_rng x3
  have rx4 := ka_rng x4
  have rx5 := ka_rng x5
  have rx6 := ka_rng x6
  have rx7 := ka_rng x7
  have rx8 := ka_rng x8
  have rx9 := ka_rng x9
  have rx10 := ka_rng x10
  have rx11 := ka_rng x11
  have rx12 := ka_rng x12
  have rx13 := ka_rng x13
  have rx14 := ka_rng x14
  refine lv_bipush (v := 24) hx hb dX7_four_0 (by decide) ?_
  refine lv_istore_n (lv' := [(2, .int 24), (0, .ref a0), (1, .int x0)]) hx hb dX7_four_2 rfl hl (by decide) rfl (fun ls hl => ?_)
  refine lv_iload_n hx hb dX7_four_3 rfl (lv_at hl 0 rfl) ?_
  refine lv_if_lt (tgt := 36) hx hb dX7_four_4 (by decide) (fun c_ => absurd c_ (by decide)) (fun _ => ?_)
  refine lv_aload_n hx hb dX7_four_7 rfl (lv_at hl 1 rfl) ?_
  refine ka_get C lq_269 rfl hK hP 0 rfl 0 (by decide) lq_270 rfl dX7_four_8 ?_
  refine lv_aload_n hx hb dX7_four_11 rfl (lv_at hl 1 rfl) ?_
  refine ka_get C lq_269 rfl hK hP 0 rfl 1 (by decide) lq_271 rfl dX7_four_12 ?_
  refine lv_iload_n hx hb dX7_four_15 rfl (lv_at hl 2 rfl) ?_
  refine lv_iload_n hx hb dX7_four_16 rfl (lv_at hl 0 rfl) ?_
  refine lv_ishr hx hb dX7_four_17 ?_
  refine lv_topi (fun v_22380 ev_22380 => ?_)
  refine lv_i2b hx hb dX7_four_18 rfl ?_
  refine lv_topi (fun v_22381 ev_22381 => ?_)
  refine va_bast hx hb hK hP hD hS 1 0 rfl rfl (ka_in (by omega) (by omega)) dX7_four_19 (fun H locs hP hD hS => ?_)
  have hP : va_P D vwCl [(a0, .inr (7, [.ref a1, .int x1, .ref a2, .ref a3, .ref a4, .ref a5, .ref a6, .ref a7, .ref a8, .int x2, .int x3, .int x4, .int x5, .int x6, .int x7, .int x8, .ref a9, .ref a10, .ref a11, .ref a12, .ref a13, .ref a14, .int x9, .int x10, .int x11, .int x12, .int x13, .int x14])), (a1, .inl (k0, 80, .inl (upd f0 (Int32.toNatClampNeg x1) (vp_nar .byte v_22381))))] H := hP
  have hD : va_D A [(a0, .inr (7, [.ref a1, .int x1, .ref a2, .ref a3, .ref a4, .ref a5, .ref a6, .ref a7, .ref a8, .int x2, .int x3, .int x4, .int x5, .int x6, .int x7, .int x8, .ref a9, .ref a10, .ref a11, .ref a12, .ref a13, .ref a14, .int x9, .int x10, .int x11, .int x12, .int x13, .int x14])), (a1, .inl (k0, 80, .inl (upd f0 (Int32.toNatClampNeg x1) (vp_nar .byte v_22381))))] := hD
  have hg_22382 : sb_Fit (upd f0 (Int32.toNatClampNeg x1) (vp_nar .byte v_22381)) := sb_fitU hf0 (kb_nb _)
  generalize (upd f0 (Int32.toNatClampNeg x1) (vp_nar .byte v_22381)) = g_22382 at hP hD hg_22382
  refine lv_aload_n hx hb dX7_four_20 rfl (lv_at hl 1 rfl) ?_
  refine lv_dup hx hb dX7_four_21 rfl ?_
  refine ka_get C lq_269 rfl hK hP 0 rfl 1 (by decide) lq_271 rfl dX7_four_22 ?_
  refine lv_iconst (v := 1) hx hb dX7_four_25 (by decide) ?_
  refine lv_iadd hx hb dX7_four_26 ?_
  refine lv_topi (fun v_22383 ev_22383 => ?_)
  have fv_22383 : v_22383.toInt = x1.toInt + 1 := by rw [ev_22383]; exact ka_add (x := x1.toInt) (y := 1) rfl (by decide) (by omega) (by omega)
  refine ka_put C lq_269 tyX7 tyX7_ok nmX7 rfl hK hP hD hS 0 rfl 1 (by decide) lq_271 rfl rfl rfl (Nat.le_of_ble_eq_true rfl) dX7_four_27 (fun H locs hP hD hS => ?_)
  have hP : va_P D vwCl [(a0, .inr (7, [.ref a1, .int v_22383, .ref a2, .ref a3, .ref a4, .ref a5, .ref a6, .ref a7, .ref a8, .int x2, .int x3, .int x4, .int x5, .int x6, .int x7, .int x8, .ref a9, .ref a10, .ref a11, .ref a12, .ref a13, .ref a14, .int x9, .int x10, .int x11, .int x12, .int x13, .int x14])), (a1, .inl (k0, 80, .inl g_22382))] H := hP
  have hD : va_D A [(a0, .inr (7, [.ref a1, .int v_22383, .ref a2, .ref a3, .ref a4, .ref a5, .ref a6, .ref a7, .ref a8, .int x2, .int x3, .int x4, .int x5, .int x6, .int x7, .int x8, .ref a9, .ref a10, .ref a11, .ref a12, .ref a13, .ref a14, .int x9, .int x10, .int x11, .int x12, .int x13, .int x14])), (a1, .inl (k0, 80, .inl g_22382))] := hD
  refine lv_iinc (v := 16) (lv' := [(2, .int 16), (0, .ref a0), (1, .int x0)]) hx hb dX7_four_30 hl (k := 0) rfl (by decide) (by decide) rfl (fun ls hl => ?_)
  refine lv_goto (tgt := 3) hx hb dX7_four_33 (by decide) ?_
  refine lv_iload_n hx hb dX7_four_3 rfl (lv_at hl 0 rfl) ?_
  refine lv_if_lt (tgt := 36) hx hb dX7_four_4 (by decide) (fun c_ => absurd c_ (by decide)) (fun _ => ?_)
  refine lv_aload_n hx hb dX7_four_7 rfl (lv_at hl 1 rfl) ?_
  refine ka_get C lq_269 rfl hK hP 0 rfl 0 (by decide) lq_270 rfl dX7_four_8 ?_
  refine lv_aload_n hx hb dX7_four_11 rfl (lv_at hl 1 rfl) ?_
  refine ka_get C lq_269 rfl hK hP 0 rfl 1 (by decide) lq_271 rfl dX7_four_12 ?_
  refine lv_iload_n hx hb dX7_four_15 rfl (lv_at hl 2 rfl) ?_
  refine lv_iload_n hx hb dX7_four_16 rfl (lv_at hl 0 rfl) ?_
  refine lv_ishr hx hb dX7_four_17 ?_
  refine lv_topi (fun v_22384 ev_22384 => ?_)
  refine lv_i2b hx hb dX7_four_18 rfl ?_
  refine lv_topi (fun v_22385 ev_22385 => ?_)
  refine va_bast hx hb hK hP hD hS 1 0 rfl rfl (ka_in (by omega) (by omega)) dX7_four_19 (fun H locs hP hD hS => ?_)
  have hP : va_P D vwCl [(a0, .inr (7, [.ref a1, .int v_22383, .ref a2, .ref a3, .ref a4, .ref a5, .ref a6, .ref a7, .ref a8, .int x2, .int x3, .int x4, .int x5, .int x6, .int x7, .int x8, .ref a9, .ref a10, .ref a11, .ref a12, .ref a13, .ref a14, .int x9, .int x10, .int x11, .int x12, .int x13, .int x14])), (a1, .inl (k0, 80, .inl (upd g_22382 (Int32.toNatClampNeg v_22383) (vp_nar .byte v_22385))))] H := hP
  have hD : va_D A [(a0, .inr (7, [.ref a1, .int v_22383, .ref a2, .ref a3, .ref a4, .ref a5, .ref a6, .ref a7, .ref a8, .int x2, .int x3, .int x4, .int x5, .int x6, .int x7, .int x8, .ref a9, .ref a10, .ref a11, .ref a12, .ref a13, .ref a14, .int x9, .int x10, .int x11, .int x12, .int x13, .int x14])), (a1, .inl (k0, 80, .inl (upd g_22382 (Int32.toNatClampNeg v_22383) (vp_nar .byte v_22385))))] := hD
  have hg_22386 : sb_Fit (upd g_22382 (Int32.toNatClampNeg v_22383) (vp_nar .byte v_22385)) := sb_fitU hg_22382 (kb_nb _)
  generalize (upd g_22382 (Int32.toNatClampNeg v_22383) (vp_nar .byte v_22385)) = g_22386 at hP hD hg_22386
  refine lv_aload_n hx hb dX7_four_20 rfl (lv_at hl 1 rfl) ?_
  refine lv_dup hx hb dX7_four_21 rfl ?_
  refine ka_get C lq_269 rfl hK hP 0 rfl 1 (by decide) lq_271 rfl dX7_four_22 ?_
  refine lv_iconst (v := 1) hx hb dX7_four_25 (by decide) ?_
  refine lv_iadd hx hb dX7_four_26 ?_
  refine lv_topi (fun v_22387 ev_22387 => ?_)
  have fv_22387 : v_22387.toInt = v_22383.toInt + 1 := by rw [ev_22387]; exact ka_add (x := v_22383.toInt) (y := 1) rfl (by decide) (by omega) (by omega)
  refine ka_put C lq_269 tyX7 tyX7_ok nmX7 rfl hK hP hD hS 0 rfl 1 (by decide) lq_271 rfl rfl rfl (Nat.le_of_ble_eq_true rfl) dX7_four_27 (fun H locs hP hD hS => ?_)
  have hP : va_P D vwCl [(a0, .inr (7, [.ref a1, .int v_22387, .ref a2, .ref a3, .ref a4, .ref a5, .ref a6, .ref a7, .ref a8, .int x2, .int x3, .int x4, .int x5, .int x6, .int x7, .int x8, .ref a9, .ref a10, .ref a11, .ref a12, .ref a13, .ref a14, .int x9, .int x10, .int x11, .int x12, .int x13, .int x14])), (a1, .inl (k0, 80, .inl g_22386))] H := hP
  have hD : va_D A [(a0, .inr (7, [.ref a1, .int v_22387, .ref a2, .ref a3, .ref a4, .ref a5, .ref a6, .ref a7, .ref a8, .int x2, .int x3, .int x4, .int x5, .int x6, .int x7, .int x8, .ref a9, .ref a10, .ref a11, .ref a12, .ref a13, .ref a14, .int x9, .int x10, .int x11, .int x12, .int x13, .int x14])), (a1, .inl (k0, 80, .inl g_22386))] := hD
  refine lv_iinc (v := 8) (lv' := [(2, .int 8), (0, .ref a0), (1, .int x0)]) hx hb dX7_four_30 hl (k := 0) rfl (by decide) (by decide) rfl (fun ls hl => ?_)
  refine lv_goto (tgt := 3) hx hb dX7_four_33 (by decide) ?_
  refine lv_iload_n hx hb dX7_four_3 rfl (lv_at hl 0 rfl) ?_
  refine lv_if_lt (tgt := 36) hx hb dX7_four_4 (by decide) (fun c_ => absurd c_ (by decide)) (fun _ => ?_)
  refine lv_aload_n hx hb dX7_four_7 rfl (lv_at hl 1 rfl) ?_
  refine ka_get C lq_269 rfl hK hP 0 rfl 0 (by decide) lq_270 rfl dX7_four_8 ?_
  refine lv_aload_n hx hb dX7_four_11 rfl (lv_at hl 1 rfl) ?_
  refine ka_get C lq_269 rfl hK hP 0 rfl 1 (by decide) lq_271 rfl dX7_four_12 ?_
  refine lv_iload_n hx hb dX7_four_15 rfl (lv_at hl 2 rfl) ?_
  refine lv_iload_n hx hb dX7_four_16 rfl (lv_at hl 0 rfl) ?_
  refine lv_ishr hx hb dX7_four_17 ?_
  refine lv_topi (fun v_22388 ev_22388 => ?_)
  refine lv_i2b hx hb dX7_four_18 rfl ?_
  refine lv_topi (fun v_22389 ev_22389 => ?_)
  refine va_bast hx hb hK hP hD hS 1 0 rfl rfl (ka_in (by omega) (by omega)) dX7_four_19 (fun H locs hP hD hS => ?_)
  have hP : va_P D vwCl [(a0, .inr (7, [.ref a1, .int v_22387, .ref a2, .ref a3, .ref a4, .ref a5, .ref a6, .ref a7, .ref a8, .int x2, .int x3, .int x4, .int x5, .int x6, .int x7, .int x8, .ref a9, .ref a10, .ref a11, .ref a12, .ref a13, .ref a14, .int x9, .int x10, .int x11, .int x12, .int x13, .int x14])), (a1, .inl (k0, 80, .inl (upd g_22386 (Int32.toNatClampNeg v_22387) (vp_nar .byte v_22389))))] H := hP
  have hD : va_D A [(a0, .inr (7, [.ref a1, .int v_22387, .ref a2, .ref a3, .ref a4, .ref a5, .ref a6, .ref a7, .ref a8, .int x2, .int x3, .int x4, .int x5, .int x6, .int x7, .int x8, .ref a9, .ref a10, .ref a11, .ref a12, .ref a13, .ref a14, .int x9, .int x10, .int x11, .int x12, .int x13, .int x14])), (a1, .inl (k0, 80, .inl (upd g_22386 (Int32.toNatClampNeg v_22387) (vp_nar .byte v_22389))))] := hD
  have hg_22390 : sb_Fit (upd g_22386 (Int32.toNatClampNeg v_22387) (vp_nar .byte v_22389)) := sb_fitU hg_22386 (kb_nb _)
  generalize (upd g_22386 (Int32.toNatClampNeg v_22387) (vp_nar .byte v_22389)) = g_22390 at hP hD hg_22390
  refine lv_aload_n hx hb dX7_four_20 rfl (lv_at hl 1 rfl) ?_
  refine lv_dup hx hb dX7_four_21 rfl ?_
  refine ka_get C lq_269 rfl hK hP 0 rfl 1 (by decide) lq_271 rfl dX7_four_22 ?_
  refine lv_iconst (v := 1) hx hb dX7_four_25 (by decide) ?_
  refine lv_iadd hx hb dX7_four_26 ?_
  refine lv_topi (fun v_22391 ev_22391 => ?_)
  have fv_22391 : v_22391.toInt = v_22387.toInt + 1 := by rw [ev_22391]; exact ka_add (x := v_22387.toInt) (y := 1) rfl (by decide) (by omega) (by omega)
  refine ka_put C lq_269 tyX7 tyX7_ok nmX7 rfl hK hP hD hS 0 rfl 1 (by decide) lq_271 rfl rfl rfl (Nat.le_of_ble_eq_true rfl) dX7_four_27 (fun H locs hP hD hS => ?_)
  have hP : va_P D vwCl [(a0, .inr (7, [.ref a1, .int v_22391, .ref a2, .ref a3, .ref a4, .ref a5, .ref a6, .ref a7, .ref a8, .int x2, .int x3, .int x4, .int x5, .int x6, .int x7, .int x8, .ref a9, .ref a10, .ref a11, .ref a12, .ref a13, .ref a14, .int x9, .int x10, .int x11, .int x12, .int x13, .int x14])), (a1, .inl (k0, 80, .inl g_22390))] H := hP
  have hD : va_D A [(a0, .inr (7, [.ref a1, .int v_22391, .ref a2, .ref a3, .ref a4, .ref a5, .ref a6, .ref a7, .ref a8, .int x2, .int x3, .int x4, .int x5, .int x6, .int x7, .int x8, .ref a9, .ref a10, .ref a11, .ref a12, .ref a13, .ref a14, .int x9, .int x10, .int x11, .int x12, .int x13, .int x14])), (a1, .inl (k0, 80, .inl g_22390))] := hD
  refine lv_iinc (v := 0) (lv' := [(2, .int 0), (0, .ref a0), (1, .int x0)]) hx hb dX7_four_30 hl (k := 0) rfl (by decide) (by decide) rfl (fun ls hl => ?_)
  refine lv_goto (tgt := 3) hx hb dX7_four_33 (by decide) ?_
  refine lv_iload_n hx hb dX7_four_3 rfl (lv_at hl 0 rfl) ?_
  refine lv_if_lt (tgt := 36) hx hb dX7_four_4 (by decide) (fun c_ => absurd c_ (by decide)) (fun _ => ?_)
  refine lv_aload_n hx hb dX7_four_7 rfl (lv_at hl 1 rfl) ?_
  refine ka_get C lq_269 rfl hK hP 0 rfl 0 (by decide) lq_270 rfl dX7_four_8 ?_
  refine lv_aload_n hx hb dX7_four_11 rfl (lv_at hl 1 rfl) ?_
  refine ka_get C lq_269 rfl hK hP 0 rfl 1 (by decide) lq_271 rfl dX7_four_12 ?_
  refine lv_iload_n hx hb dX7_four_15 rfl (lv_at hl 2 rfl) ?_
  refine lv_iload_n hx hb dX7_four_16 rfl (lv_at hl 0 rfl) ?_
  refine lv_ishr hx hb dX7_four_17 ?_
  refine lv_topi (fun v_22392 ev_22392 => ?_)
  refine lv_i2b hx hb dX7_four_18 rfl ?_
  refine lv_topi (fun v_22393 ev_22393 => ?_)
  refine va_bast hx hb hK hP hD hS 1 0 rfl rfl (ka_in (by omega) (by omega)) dX7_four_19 (fun H locs hP hD hS => ?_)
  have hP : va_P D vwCl [(a0, .inr (7, [.ref a1, .int v_22391, .ref a2, .ref a3, .ref a4, .ref a5, .ref a6, .ref a7, .ref a8, .int x2, .int x3, .int x4, .int x5, .int x6, .int x7, .int x8, .ref a9, .ref a10, .ref a11, .ref a12, .ref a13, .ref a14, .int x9, .int x10, .int x11, .int x12, .int x13, .int x14])), (a1, .inl (k0, 80, .inl (upd g_22390 (Int32.toNatClampNeg v_22391) (vp_nar .byte v_22393))))] H := hP
  have hD : va_D A [(a0, .inr (7, [.ref a1, .int v_22391, .ref a2, .ref a3, .ref a4, .ref a5, .ref a6, .ref a7, .ref a8, .int x2, .int x3, .int x4, .int x5, .int x6, .int x7, .int x8, .ref a9, .ref a10, .ref a11, .ref a12, .ref a13, .ref a14, .int x9, .int x10, .int x11, .int x12, .int x13, .int x14])), (a1, .inl (k0, 80, .inl (upd g_22390 (Int32.toNatClampNeg v_22391) (vp_nar .byte v_22393))))] := hD
  have hg_22394 : sb_Fit (upd g_22390 (Int32.toNatClampNeg v_22391) (vp_nar .byte v_22393)) := sb_fitU hg_22390 (kb_nb _)
  generalize (upd g_22390 (Int32.toNatClampNeg v_22391) (vp_nar .byte v_22393)) = g_22394 at hP hD hg_22394
  refine lv_aload_n hx hb dX7_four_20 rfl (lv_at hl 1 rfl) ?_
  refine lv_dup hx hb dX7_four_21 rfl ?_
  refine ka_get C lq_269 rfl hK hP 0 rfl 1 (by decide) lq_271 rfl dX7_four_22 ?_
  refine lv_iconst (v := 1) hx hb dX7_four_25 (by decide) ?_
  refine lv_iadd hx hb dX7_four_26 ?_
  refine lv_topi (fun v_22395 ev_22395 => ?_)
  have fv_22395 : v_22395.toInt = v_22391.toInt + 1 := by rw [ev_22395]; exact ka_add (x := v_22391.toInt) (y := 1) rfl (by decide) (by omega) (by omega)
  refine ka_put C lq_269 tyX7 tyX7_ok nmX7 rfl hK hP hD hS 0 rfl 1 (by decide) lq_271 rfl rfl rfl (Nat.le_of_ble_eq_true rfl) dX7_four_27 (fun H locs hP hD hS => ?_)
  have hP : va_P D vwCl [(a0, .inr (7, [.ref a1, .int v_22395, .ref a2, .ref a3, .ref a4, .ref a5, .ref a6, .ref a7, .ref a8, .int x2, .int x3, .int x4, .int x5, .int x6, .int x7, .int x8, .ref a9, .ref a10, .ref a11, .ref a12, .ref a13, .ref a14, .int x9, .int x10, .int x11, .int x12, .int x13, .int x14])), (a1, .inl (k0, 80, .inl g_22394))] H := hP
  have hD : va_D A [(a0, .inr (7, [.ref a1, .int v_22395, .ref a2, .ref a3, .ref a4, .ref a5, .ref a6, .ref a7, .ref a8, .int x2, .int x3, .int x4, .int x5, .int x6, .int x7, .int x8, .ref a9, .ref a10, .ref a11, .ref a12, .ref a13, .ref a14, .int x9, .int x10, .int x11, .int x12, .int x13, .int x14])), (a1, .inl (k0, 80, .inl g_22394))] := hD
  refine lv_iinc (v := (-8)) (lv' := [(2, .int (-8)), (0, .ref a0), (1, .int x0)]) hx hb dX7_four_30 hl (k := 0) rfl (by decide) (by decide) rfl (fun ls hl => ?_)
  refine lv_goto (tgt := 3) hx hb dX7_four_33 (by decide) ?_
  refine lv_iload_n hx hb dX7_four_3 rfl (lv_at hl 0 rfl) ?_
  refine lv_if_lt (tgt := 36) hx hb dX7_four_4 (by decide) (fun _ => ?_) (fun c_ => absurd (by decide) c_)
  exact ka_rEv C hr hlk (Nat.le_of_ble_eq_true rfl) (Nat.le_of_ble_eq_true rfl) hS (ka_qE (v_22395, g_22394) rfl ⟨(show 4 ≤ v_22395.toInt ∧ v_22395.toInt ≤ 64 from ⟨by omega, by omega⟩), hg_22394⟩ hK hP hD hS [0, 1] (by decide) rfl [] rfl) dX7_four_36
set_option maxHeartbeats 4000000 in
set_option maxRecDepth 100000 in
theorem cg_X7_four_209 (l : Launch) (D : va_G) (F : Nat → Prop) (a0 : Nat) (x0 : Int32) (a1 : Nat) (x1 : Int32) (a2 : Nat) (a3 : Nat) (a4 : Nat) (a5 : Nat) (a6 : Nat) (a7 : Nat) (a8 : Nat) (x2 : Int32) (x3 : Int32) (x4 : Int32) (x5 : Int32) (x6 : Int32) (x7 : Int32) (x8 : Int32) (a9 : Nat) (a10 : Nat) (a11 : Nat) (a12 : Nat) (a13 : Nat) (a14 : Nat) (x9 : Int32) (x10 : Int32) (x11 : Int32) (x12 : Int32) (x13 : Int32) (x14 : Int32) (k0 : ClassId) (f0 : Nat → Int32) (hx1 : 4 ≤ x1.toInt ∧ x1.toInt ≤ 64) (hx2 : -1 ≤ x2.toInt ∧ x2.toInt ≤ 5) (hx5 : 1 ≤ x5.toInt ∧ x5.toInt ≤ 8) (hx6 : 0 ≤ x6.toInt ∧ x6.toInt ≤ 40) (hx8 : 0 ≤ x8.toInt ∧ x8.toInt ≤ 10) (hx9 : 0 ≤ x9.toInt ∧ x9.toInt ≤ 60) (hx10 : 0 ≤ x10.toInt ∧ x10.toInt ≤ 60) (hx11 : 0 ≤ x11.toInt ∧ x11.toInt ≤ 60) (hx12 : 0 ≤ x12.toInt ∧ x12.toInt ≤ 8) (hx14 : 0 ≤ x14.toInt ∧ x14.toInt ≤ 1) (hf0 : sb_Fit f0) : ka_E l D F yX7_four wsX7_four 0 0 0 0 [.ref a0, .int x0] [(a0, .inr (7, [.ref a1, .int x1, .ref a2, .ref a3, .ref a4, .ref a5, .ref a6, .ref a7, .ref a8, .int x2, .int x3, .int x4, .int x5, .int x6, .int x7, .int x8, .ref a9, .ref a10, .ref a11, .ref a12, .ref a13, .ref a14, .int x9, .int x10, .int x11, .int x12, .int x13, .int x14])), (a1, .inl (k0, 80, .inl f0))] [(k0, .byte)] (fun (u : (Int32) × (Nat → Int32)) => none) (fun (u : (Int32) × (Nat → Int32)) => (8 ≤ (u.1).toInt ∧ (u.1).toInt ≤ 68) ∧ (sb_Fit (u.2))) (fun (u : (Int32) × (Nat → Int32)) => [(a0, .inr (7, [.ref a1, .int (u.1), .ref a2, .ref a3, .ref a4, .ref a5, .ref a6, .ref a7, .ref a8, .int x2, .int x3, .int x4, .int x5, .int x6, .int x7, .int x8, .ref a9, .ref a10, .ref a11, .ref a12, .ref a13, .ref a14, .int x9, .int x10, .int x11, .int x12, .int x13, .int x14])), (a1, .inl (k0, 80, .inl (u.2)))]) (fun (u : (Int32) × (Nat → Int32)) => []) := by
  refine ka_E_of (cc := cX7_four) (maxL := 3) (ret := none) (by decide) rfl (Nat.le_of_ble_eq_true rfl) ?_
  intro p e s m below meth c ls A C hr hlk hin hP hK hD hS hA hE hN hl
  have C : CallFix p m c cX7_four 3 s [.ref a0, .int x0].toArray wsX7_four RX7 := C
  obtain ⟨hx, hb, hml, hown, hts⟩ := id C
  have hl : lv_has ls 3 [(0, .ref a0), (1, .int x0)] := hl
  have rx0 := ka_rng x0
  have rx1 := ka_rng x1
  have rx2 := ka_rng x2
  have rx3 := ka_rng x3
  have rx4 := ka_rng x4
  have rx5 := ka_rng x5
  have rx6 := ka_rng x6
  have rx7 := ka_rng x7
  have rx8 := ka_rng x8
  have rx9 := ka_rng x9
  have rx10 := ka_rng x10
  have rx11 := ka_rng x11
  have rx12 := ka_rng x12
  have rx13 := ka_rng x13
  have rx14 := ka_rng x14
  refine lv_bipush (v := 24) hx hb dX7_four_0 (by decide) ?_
  refine lv_istore_n (lv' := [(2, .int 24), (0, .ref a0), (1, .int x0)]) hx hb dX7_four_2 rfl hl (by decide) rfl (fun ls hl => ?_)
  refine lv_iload_n hx hb dX7_four_3 rfl (lv_at hl 0 rfl) ?_
  refine lv_if_lt (tgt := 36) hx hb dX7_four_4 (by decide) (fun c_ => absurd c_ (by decide)) (fun _ => ?_)
  refine lv_aload_n hx hb dX7_four_7 rfl (lv_at hl 1 rfl) ?_
  refine ka_get C lq_269 rfl hK hP 0 rfl 0 (by decide) lq_270 rfl dX7_four_8 ?_
  refine lv_aload_n hx hb dX7_four_11 rfl (lv_at hl 1 rfl) ?_
  refine ka_get C lq_269 rfl hK hP 0 rfl 1 (by decide) lq_271 rfl dX7_four_12 ?_
  refine lv_iload_n hx hb dX7_four_15 rfl (lv_at hl 2 rfl) ?_
  refine lv_iload_n hx hb dX7_four_16 rfl (lv_at hl 0 rfl) ?_
  refine lv_ishr hx hb dX7_four_17 ?_
  refine lv_topi (fun v_22458 ev_22458 => ?_)
  refine lv_i2b hx hb dX7_four_18 rfl ?_
  refine lv_topi (fun v_22459 ev_22459 => ?_)
  refine va_bast hx hb hK hP hD hS 1 0 rfl rfl (ka_in (by omega) (by omega)) dX7_four_19 (fun H locs hP hD hS => ?_)
  have hP : va_P D vwCl [(a0, .inr (7, [.ref a1, .int x1, .ref a2, .ref a3, .ref a4, .ref a5, .ref a6, .ref a7, .ref a8, .int x2, .int x3, .int x4, .int x5, .int x6, .int x7, .int x8, .ref a9, .ref a10, .ref a11, .ref a12, .ref a13, .ref a14, .int x9, .int x10, .int x11, .int x12, .int x13, .int x14])), (a1, .inl (k0, 80, .inl (upd f0 (Int32.toNatClampNeg x1) (vp_nar .byte v_22459))))] H := hP
  have hD : va_D A [(a0, .inr (7, [.ref a1, .int x1, .ref a2, .ref a3, .ref a4, .ref a5, .ref a6, .ref a7, .ref a8, .int x2, .int x3, .int x4, .int x5, .int x6, .int x7, .int x8, .ref a9, .ref a10, .ref a11, .ref a12, .ref a13, .ref a14, .int x9, .int x10, .int x11, .int x12, .int x13, .int x14])), (a1, .inl (k0, 80, .inl (upd f0 (Int32.toNatClampNeg x1) (vp_nar .byte v_22459))))] := hD
  have hg_22460 : sb_Fit (upd f0 (Int32.toNatClampNeg x1) (vp_nar .byte v_22459)) := sb_fitU hf0 (kb_nb _)
  generalize (upd f0 (Int32.toNatClampNeg x1) (vp_nar .byte v_22459)) = g_22460 at hP hD hg_22460
  refine lv_aload_n hx hb dX7_four_20 rfl (lv_at hl 1 rfl) ?_
  refine lv_dup hx hb dX7_four_21 rfl ?_
  refine ka_get C lq_269 rfl hK hP 0 rfl 1 (by decide) lq_271 rfl dX7_four_22 ?_
  refine lv_iconst (v := 1) hx hb dX7_four_25 (by decide) ?_
  refine lv_iadd hx hb dX7_four_26 ?_
  refine lv_topi (fun v_22461 ev_22461 => ?_)
  have fv_22461 : v_22461.toInt = x1.toInt + 1 := by rw [ev_22461]; exact ka_add (x := x1.toInt) (y := 1) rfl (by decide) (by omega) (by omega)
  refine ka_put C lq_269 tyX7 tyX7_ok nmX7 rfl hK hP hD hS 0 rfl 1 (by decide) lq_271 rfl rfl rfl (Nat.le_of_ble_eq_true rfl) dX7_four_27 (fun H locs hP hD hS => ?_)
  have hP : va_P D vwCl [(a0, .inr (7, [.ref a1, .int v_22461, .ref a2, .ref a3, .ref a4, .ref a5, .ref a6, .ref a7, .ref a8, .int x2, .int x3, .int x4, .int x5, .int x6, .int x7, .int x8, .ref a9, .ref a10, .ref a11, .ref a12, .ref a13, .ref a14, .int x9, .int x10, .int x11, .int x12, .int x13, .int x14])), (a1, .inl (k0, 80, .inl g_22460))] H := hP
  have hD : va_D A [(a0, .inr (7, [.ref a1, .int v_22461, .ref a2, .ref a3, .ref a4, .ref a5, .ref a6, .ref a7, .ref a8, .int x2, .int x3, .int x4, .int x5, .int x6, .int x7, .int x8, .ref a9, .ref a10, .ref a11, .ref a12, .ref a13, .ref a14, .int x9, .int x10, .int x11, .int x12, .int x13, .int x14])), (a1, .inl (k0, 80, .inl g_22460))] := hD
  refine lv_iinc (v := 16) (lv' := [(2, .int 16), (0, .ref a0), (1, .int x0)]) hx hb dX7_four_30 hl (k := 0) rfl (by decide) (by decide) rfl (fun ls hl => ?_)
  refine lv_goto (tgt := 3) hx hb dX7_four_33 (by decide) ?_
  refine lv_iload_n hx hb dX7_four_3 rfl (lv_at hl 0 rfl) ?_
  refine lv_if_lt (tgt := 36) hx hb dX7_four_4 (by decide) (fun c_ => absurd c_ (by decide)) (fun _ => ?_)
  refine lv_aload_n hx hb dX7_four_7 rfl (lv_at hl 1 rfl) ?_
  refine ka_get C lq_269 rfl hK hP 0 rfl 0 (by decide) lq_270 rfl dX7_four_8 ?_
  refine lv_aload_n hx hb dX7_four_11 rfl (lv_at hl 1 rfl) ?_
  refine ka_get C lq_269 rfl hK hP 0 rfl 1 (by decide) lq_271 rfl dX7_four_12 ?_
  refine lv_iload_n hx hb dX7_four_15 rfl (lv_at hl 2 rfl) ?_
  refine lv_iload_n hx hb dX7_four_16 rfl (lv_at hl 0 rfl) ?_
  refine lv_ishr hx hb dX7_four_17 ?_
  refine lv_topi (fun v_22462 ev_22462 => ?_)
  refine lv_i2b hx hb dX7_four_18 rfl ?_
  refine lv_topi (fun v_22463 ev_22463 => ?_)
  refine va_bast hx hb hK hP hD hS 1 0 rfl rfl (ka_in (by omega) (by omega)) dX7_four_19 (fun H locs hP hD hS => ?_)
  have hP : va_P D vwCl [(a0, .inr (7, [.ref a1, .int v_22461, .ref a2, .ref a3, .ref a4, .ref a5, .ref a6, .ref a7, .ref a8, .int x2, .int x3, .int x4, .int x5, .int x6, .int x7, .int x8, .ref a9, .ref a10, .ref a11, .ref a12, .ref a13, .ref a14, .int x9, .int x10, .int x11, .int x12, .int x13, .int x14])), (a1, .inl (k0, 80, .inl (upd g_22460 (Int32.toNatClampNeg v_22461) (vp_nar .byte v_22463))))] H := hP
  have hD : va_D A [(a0, .inr (7, [.ref a1, .int v_22461, .ref a2, .ref a3, .ref a4, .ref a5, .ref a6, .ref a7, .ref a8, .int x2, .int x3, .int x4, .int x5, .int x6, .int x7, .int x8, .ref a9, .ref a10, .ref a11, .ref a12, .ref a13, .ref a14, .int x9, .int x10, .int x11, .int x12, .int x13, .int x14])), (a1, .inl (k0, 80, .inl (upd g_22460 (Int32.toNatClampNeg v_22461) (vp_nar .byte v_22463))))] := hD
  have hg_22464 : sb_Fit (upd g_22460 (Int32.toNatClampNeg v_22461) (vp_nar .byte v_22463)) := sb_fitU hg_22460 (kb_nb _)
  generalize (upd g_22460 (Int32.toNatClampNeg v_22461) (vp_nar .byte v_22463)) = g_22464 at hP hD hg_22464
  refine lv_aload_n hx hb dX7_four_20 rfl (lv_at hl 1 rfl) ?_
  refine lv_dup hx hb dX7_four_21 rfl ?_
  refine ka_get C lq_269 rfl hK hP 0 rfl 1 (by decide) lq_271 rfl dX7_four_22 ?_
  refine lv_iconst (v := 1) hx hb dX7_four_25 (by decide) ?_
  refine lv_iadd hx hb dX7_four_26 ?_
  refine lv_topi (fun v_22465 ev_22465 => ?_)
  have fv_22465 : v_22465.toInt = v_22461.toInt + 1 := by rw [ev_22465]; exact ka_add (x := v_22461.toInt) (y := 1) rfl (by decide) (by omega) (by omega)
  refine ka_put C lq_269 tyX7 tyX7_ok nmX7 rfl hK hP hD hS 0 rfl 1 (by decide) lq_271 rfl rfl rfl (Nat.le_of_ble_eq_true rfl) dX7_four_27 (fun H locs hP hD hS => ?_)
  have hP : va_P D vwCl [(a0, .inr (7, [.ref a1, .int v_22465, .ref a2, .ref a3, .ref a4, .ref a5, .ref a6, .ref a7, .ref a8, .int x2, .int x3, .int x4, .int x5, .int x6, .int x7, .int x8, .ref a9, .ref a10, .ref a11, .ref a12, .ref a13, .ref a14, .int x9, .int x10, .int x11, .int x12, .int x13, .int x14])), (a1, .inl (k0, 80, .inl g_22464))] H := hP
  have hD : va_D A [(a0, .inr (7, [.ref a1, .int v_22465, .ref a2, .ref a3, .ref a4, .ref a5, .ref a6, .ref a7, .ref a8, .int x2, .int x3, .int x4, .int x5, .int x6, .int x7, .int x8, .ref a9, .ref a10, .ref a11, .ref a12, .ref a13, .ref a14, .int x9, .int x10, .int x11, .int x12, .int x13, .int x14])), (a1, .inl (k0, 80, .inl g_22464))] := hD
  refine lv_iinc (v := 8) (lv' := [(2, .int 8), (0, .ref a0), (1, .int x0)]) hx hb dX7_four_30 hl (k := 0) rfl (by decide) (by decide) rfl (fun ls hl => ?_)
  refine lv_goto (tgt := 3) hx hb dX7_four_33 (by decide) ?_
  refine lv_iload_n hx hb dX7_four_3 rfl (lv_at hl 0 rfl) ?_
  refine lv_if_lt (tgt := 36) hx hb dX7_four_4 (by decide) (fun c_ => absurd c_ (by decide)) (fun _ => ?_)
  refine lv_aload_n hx hb dX7_four_7 rfl (lv_at hl 1 rfl) ?_
  refine ka_get C lq_269 rfl hK hP 0 rfl 0 (by decide) lq_270 rfl dX7_four_8 ?_
  refine lv_aload_n hx hb dX7_four_11 rfl (lv_at hl 1 rfl) ?_
  refine ka_get C lq_269 rfl hK hP 0 rfl 1 (by decide) lq_271 rfl dX7_four_12 ?_
  refine lv_iload_n hx hb dX7_four_15 rfl (lv_at hl 2 rfl) ?_
  refine lv_iload_n hx hb dX7_four_16 rfl (lv_at hl 0 rfl) ?_
  refine lv_ishr hx hb dX7_four_17 ?_
  refine lv_topi (fun v_22466 ev_22466 => ?_)
  refine lv_i2b hx hb dX7_four_18 rfl ?_
  refine lv_topi (fun v_22467 ev_22467 => ?_)
  refine va_bast hx hb hK hP hD hS 1 0 rfl rfl (ka_in (by omega) (by omega)) dX7_four_19 (fun H locs hP hD hS => ?_)
  have hP : va_P D vwCl [(a0, .inr (7, [.ref a1, .int v_22465, .ref a2, .ref a3, .ref a4, .ref a5, .ref a6, .ref a7, .ref a8, .int x2, .int x3, .int x4, .int x5, .int x6, .int x7, .int x8, .ref a9, .ref a10, .ref a11, .ref a12, .ref a13, .ref a14, .int x9, .int x10, .int x11, .int x12, .int x13, .int x14])), (a1, .inl (k0, 80, .inl (upd g_22464 (Int32.toNatClampNeg v_22465) (vp_nar .byte v_22467))))] H := hP
  have hD : va_D A [(a0, .inr (7, [.ref a1, .int v_22465, .ref a2, .ref a3, .ref a4, .ref a5, .ref a6, .ref a7, .ref a8, .int x2, .int x3, .int x4, .int x5, .int x6, .int x7, .int x8, .ref a9, .ref a10, .ref a11, .ref a12, .ref a13, .ref a14, .int x9, .int x10, .int x11, .int x12, .int x13, .int x14])), (a1, .inl (k0, 80, .inl (upd g_22464 (Int32.toNatClampNeg v_22465) (vp_nar .byte v_22467))))] := hD
  have hg_22468 : sb_Fit (upd g_22464 (Int32.toNatClampNeg v_22465) (vp_nar .byte v_22467)) := sb_fitU hg_22464 (kb_nb _)
  generalize (upd g_22464 (Int32.toNatClampNeg v_22465) (vp_nar .byte v_22467)) = g_22468 at hP hD hg_22468
  refine lv_aload_n hx hb dX7_four_20 rfl (lv_at hl 1 rfl) ?_
  refine lv_dup hx hb dX7_four_21 rfl ?_
  refine ka_get C lq_269 rfl hK hP 0 rfl 1 (by decide) lq_271 rfl dX7_four_22 ?_
  refine lv_iconst (v := 1) hx hb dX7_four_25 (by decide) ?_
  refine lv_iadd hx hb dX7_four_26 ?_
  refine lv_topi (fun v_22469 ev_22469 => ?_)
  have fv_22469 : v_22469.toInt = v_22465.toInt + 1 := by rw [ev_22469]; exact ka_add (x := v_22465.toInt) (y := 1) rfl (by decide) (by omega) (by omega)
  refine ka_put C lq_269 tyX7 tyX7_ok nmX7 rfl hK hP hD hS 0 rfl 1 (by decide) lq_271 rfl rfl rfl (Nat.le_of_ble_eq_true rfl) dX7_four_27 (fun H locs hP hD hS => ?_)
  have hP : va_P D vwCl [(a0, .inr (7, [.ref a1, .int v_22469, .ref a2, .ref a3, .ref a4, .ref a5, .ref a6, .ref a7, .ref a8, .int x2, .int x3, .int x4, .int x5, .int x6, .int x7, .int x8, .ref a9, .ref a10, .ref a11, .ref a12, .ref a13, .ref a14, .int x9, .int x10, .int x11, .int x12, .int x13, .int x14])), (a1, .inl (k0, 80, .inl g_22468))] H := hP
  have hD : va_D A [(a0, .inr (7, [.ref a1, .int v_22469, .ref a2, .ref a3, .ref a4, .ref a5, .ref a6, .ref a7, .ref a8, .int x2, .int x3, .int x4, .int x5, .int x6, .int x7, .int x8, .ref a9, .ref a10, .ref a11, .ref a12, .ref a13, .ref a14, .int x9, .int x10, .int x11, .int x12, .int x13, .int x14])), (a1, .inl (k0, 80, .inl g_22468))] := hD
  refine lv_iinc (v := 0) (lv' := [(2, .int 0), (0, .ref a0), (1, .int x0)]) hx hb dX7_four_30 hl (k := 0) rfl (by decide) (by decide) rfl (fun ls hl => ?_)
  refine lv_goto (tgt := 3) hx hb dX7_four_33 (by decide) ?_
  refine lv_iload_n hx hb dX7_four_3 rfl (lv_at hl 0 rfl) ?_
  refine lv_if_lt (tgt := 36) hx hb dX7_four_4 (by decide) (fun c_ => absurd c_ (by decide)) (fun _ => ?_)
  refine lv_aload_n hx hb dX7_four_7 rfl (lv_at hl 1 rfl) ?_
  refine ka_get C lq_269 rfl hK hP 0 rfl 0 (by decide) lq_270 rfl dX7_four_8 ?_
  refine lv_aload_n hx hb dX7_four_11 rfl (lv_at hl 1 rfl) ?_
  refine ka_get C lq_269 rfl hK hP 0 rfl 1 (by decide) lq_271 rfl dX7_four_12 ?_
  refine lv_iload_n hx hb dX7_four_15 rfl (lv_at hl 2 rfl) ?_
  refine lv_iload_n hx hb dX7_four_16 rfl (lv_at hl 0 rfl) ?_
  refine lv_ishr hx hb dX7_four_17 ?_
  refine lv_topi (fun v_22470 ev_22470 => ?_)
  refine lv_i2b hx hb dX7_four_18 rfl ?_
  refine lv_topi (fun v_22471 ev_22471 => ?_)
  refine va_bast hx hb hK hP hD hS 1 0 rfl rfl (ka_in (by omega) (by omega)) dX7_four_19 (fun H locs hP hD hS => ?_)
  have hP : va_P D vwCl [(a0, .inr (7, [.ref a1, .int v_22469, .ref a2, .ref a3, .ref a4, .ref a5, .ref a6, .ref a7, .ref a8, .int x2, .int x3, .int x4, .int x5, .int x6, .int x7, .int x8, .ref a9, .ref a10, .ref a11, .ref a12, .ref a13, .ref a14, .int x9, .int x10, .int x11, .int x12, .int x13, .int x14])), (a1, .inl (k0, 80, .inl (upd g_22468 (Int32.toNatClampNeg v_22469) (vp_nar .byte v_22471))))] H := hP
  have hD : va_D A [(a0, .inr (7, [.ref a1, .int v_22469, .ref a2, .ref a3, .ref a4, .ref a5, .ref a6, .ref a7, .ref a8, .int x2, .int x3, .int x4, .int x5, .int x6, .int x7, .int x8, .ref a9, .ref a10, .ref a11, .ref a12, .ref a13, .ref a14, .int x9, .int x10, .int x11, .int x12, .int x13, .int x14])), (a1, .inl (k0, 80, .inl (upd g_22468 (Int32.toNatClampNeg v_22469) (vp_nar .byte v_22471))))] := hD
  have hg_22472 : sb_Fit (upd g_22468 (Int32.toNatClampNeg v_22469) (vp_nar .byte v_22471)) := sb_fitU hg_22468 (kb_nb _)
  generalize (upd g_22468 (Int32.toNatClampNeg v_22469) (vp_nar .byte v_22471)) = g_22472 at hP hD hg_22472
  refine lv_aload_n hx hb dX7_four_20 rfl (lv_at hl 1 rfl) ?_
  refine lv_dup hx hb dX7_four_21 rfl ?_
  refine ka_get C lq_269 rfl hK hP 0 rfl 1 (by decide) lq_271 rfl dX7_four_22 ?_
  refine lv_iconst (v := 1) hx hb dX7_four_25 (by decide) ?_
  refine lv_iadd hx hb dX7_four_26 ?_
  refine lv_topi (fun v_22473 ev_22473 => ?_)
  have fv_22473 : v_22473.toInt = v_22469.toInt + 1 := by rw [ev_22473]; exact ka_add (x := v_22469.toInt) (y := 1) rfl (by decide) (by omega) (by omega)
  refine ka_put C lq_269 tyX7 tyX7_ok nmX7 rfl hK hP hD hS 0 rfl 1 (by decide) lq_271 rfl rfl rfl (Nat.le_of_ble_eq_true rfl) dX7_four_27 (fun H locs hP hD hS => ?_)
  have hP : va_P D vwCl [(a0, .inr (7, [.ref a1, .int v_22473, .ref a2, .ref a3, .ref a4, .ref a5, .ref a6, .ref a7, .ref a8, .int x2, .int x3, .int x4, .int x5, .int x6, .int x7, .int x8, .ref a9, .ref a10, .ref a11, .ref a12, .ref a13, .ref a14, .int x9, .int x10, .int x11, .int x12, .int x13, .int x14])), (a1, .inl (k0, 80, .inl g_22472))] H := hP
  have hD : va_D A [(a0, .inr (7, [.ref a1, .int v_22473, .ref a2, .ref a3, .ref a4, .ref a5, .ref a6, .ref a7, .ref a8, .int x2, .int x3, .int x4, .int x5, .int x6, .int x7, .int x8, .ref a9, .ref a10, .ref a11, .ref a12, .ref a13, .ref a14, .int x9, .int x10, .int x11, .int x12, .int x13, .int x14])), (a1, .inl (k0, 80, .inl g_22472))] := hD
  refine lv_iinc (v := (-8)) (lv' := [(2, .int (-8)), (0, .ref a0), (1, .int x0)]) hx hb dX7_four_30 hl (k := 0) rfl (by decide) (by decide) rfl (fun ls hl => ?_)
  refine lv_goto (tgt := 3) hx hb dX7_four_33 (by decide) ?_
  refine lv_iload_n hx hb dX7_four_3 rfl (lv_at hl 0 rfl) ?_
  refine lv_if_lt (tgt := 36) hx hb dX7_four_4 (by decide) (fun _ => ?_) (fun c_ => absurd (by decide) c_)
  exact ka_rEv C hr hlk (Nat.le_of_ble_eq_true rfl) (Nat.le_of_ble_eq_true rfl) hS (ka_qE (v_22473, g_22472) rfl ⟨(show 8 ≤ v_22473.toInt ∧ v_22473.toInt ≤ 68 from ⟨by omega, by omega⟩), hg_22472⟩ hK hP hD hS [0, 1] (by decide) rfl [] rfl) dX7_four_36
set_option maxHeartbeats 4000000 in
set_option maxRecDepth 100000 in
theorem cg_X7_four_210 (l : Launch) (D : va_G) (F : Nat → Prop) (a0 : Nat) (x0 : Int32) (a1 : Nat) (x1 : Int32) (a2 : Nat) (a3 : Nat) (a4 : Nat) (a5 : Nat) (a6 : Nat) (a7 : Nat) (a8 : Nat) (x2 : Int32) (x3 : Int32) (x4 : Int32) (x5 : Int32) (x6 : Int32) (x7 : Int32) (x8 : Int32) (a9 : Nat) (a10 : Nat) (a11 : Nat) (a12 : Nat) (a13 : Nat) (a14 : Nat) (x9 : Int32) (x10 : Int32) (x11 : Int32) (x12 : Int32) (x13 : Int32) (x14 : Int32) (k0 : ClassId) (f0 : Nat → Int32) (hx1 : 8 ≤ x1.toInt ∧ x1.toInt ≤ 68) (hx2 : -1 ≤ x2.toInt ∧ x2.toInt ≤ 5) (hx5 : 1 ≤ x5.toInt ∧ x5.toInt ≤ 8) (hx6 : 0 ≤ x6.toInt ∧ x6.toInt ≤ 40) (hx8 : 0 ≤ x8.toInt ∧ x8.toInt ≤ 10) (hx9 : 0 ≤ x9.toInt ∧ x9.toInt ≤ 60) (hx10 : 0 ≤ x10.toInt ∧ x10.toInt ≤ 60) (hx11 : 0 ≤ x11.toInt ∧ x11.toInt ≤ 60) (hx12 : 0 ≤ x12.toInt ∧ x12.toInt ≤ 8) (hx14 : 0 ≤ x14.toInt ∧ x14.toInt ≤ 1) (hf0 : sb_Fit f0) : ka_E l D F yX7_four wsX7_four 0 0 0 0 [.ref a0, .int x0] [(a0, .inr (7, [.ref a1, .int x1, .ref a2, .ref a3, .ref a4, .ref a5, .ref a6, .ref a7, .ref a8, .int x2, .int x3, .int x4, .int x5, .int x6, .int x7, .int x8, .ref a9, .ref a10, .ref a11, .ref a12, .ref a13, .ref a14, .int x9, .int x10, .int x11, .int x12, .int x13, .int x14])), (a1, .inl (k0, 80, .inl f0))] [(k0, .byte)] (fun (u : (Int32) × (Nat → Int32)) => none) (fun (u : (Int32) × (Nat → Int32)) => (12 ≤ (u.1).toInt ∧ (u.1).toInt ≤ 72) ∧ (sb_Fit (u.2))) (fun (u : (Int32) × (Nat → Int32)) => [(a0, .inr (7, [.ref a1, .int (u.1), .ref a2, .ref a3, .ref a4, .ref a5, .ref a6, .ref a7, .ref a8, .int x2, .int x3, .int x4, .int x5, .int x6, .int x7, .int x8, .ref a9, .ref a10, .ref a11, .ref a12, .ref a13, .ref a14, .int x9, .int x10, .int x11, .int x12, .int x13, .int x14])), (a1, .inl (k0, 80, .inl (u.2)))]) (fun (u : (Int32) × (Nat → Int32)) => []) := by
  refine ka_E_of (cc := cX7_four) (maxL := 3) (ret := none) (by decide) rfl (Nat.le_of_ble_eq_true rfl) ?_
  intro p e s m below meth c ls A C hr hlk hin hP hK hD hS hA hE hN hl
  have C : CallFix p m c cX7_four 3 s [.ref a0, .int x0].toArray wsX7_four RX7 := C
  obtain ⟨hx, hb, hml, hown, hts⟩ := id C
  have hl : lv_has ls 3 [(0, .ref a0), (1, .int x0)] := hl
  have rx0 := ka_rng x0
  have rx1 := ka_rng x1
  have rx2 := ka_rng x2
  have rx3 := ka_rng x3
  have rx4 := ka_rng x4
  have rx5 := ka_rng x5
  have rx6 := ka_rng x6
  have rx7 := ka_rng x7
  have rx8 := ka_rng x8
  have rx9 := ka_rng x9
  have rx10 := ka_rng x10
  have rx11 := ka_rng x11
  have rx12 := ka_rng x12
  have rx13 := ka_rng x13
  have rx14 := ka_rng x14
  refine lv_bipush (v := 24) hx hb dX7_four_0 (by decide) ?_
  refine lv_istore_n (lv' := [(2, .int 24), (0, .ref a0), (1, .int x0)]) hx hb dX7_four_2 rfl hl (by decide) rfl (fun ls hl => ?_)
  refine lv_iload_n hx hb dX7_four_3 rfl (lv_at hl 0 rfl) ?_
  refine lv_if_lt (tgt := 36) hx hb dX7_four_4 (by decide) (fun c_ => absurd c_ (by decide)) (fun _ => ?_)
  refine lv_aload_n hx hb dX7_four_7 rfl (lv_at hl 1 rfl) ?_
  refine ka_get C lq_269 rfl hK hP 0 rfl 0 (by decide) lq_270 rfl dX7_four_8 ?_
  refine lv_aload_n hx hb dX7_four_11 rfl (lv_at hl 1 rfl) ?_
  refine ka_get C lq_269 rfl hK hP 0 rfl 1 (by decide) lq_271 rfl dX7_four_12 ?_
  refine lv_iload_n hx hb dX7_four_15 rfl (lv_at hl 2 rfl) ?_
  refine lv_iload_n hx hb dX7_four_16 rfl (lv_at hl 0 rfl) ?_
  refine lv_ishr hx hb dX7_four_17 ?_
  refine lv_topi (fun v_22536 ev_22536 => ?_)
  refine lv_i2b hx hb dX7_four_18 rfl ?_
  refine lv_topi (fun v_22537 ev_22537 => ?_)
  refine va_bast hx hb hK hP hD hS 1 0 rfl rfl (ka_in (by omega) (by omega)) dX7_four_19 (fun H locs hP hD hS => ?_)
  have hP : va_P D vwCl [(a0, .inr (7, [.ref a1, .int x1, .ref a2, .ref a3, .ref a4, .ref a5, .ref a6, .ref a7, .ref a8, .int x2, .int x3, .int x4, .int x5, .int x6, .int x7, .int x8, .ref a9, .ref a10, .ref a11, .ref a12, .ref a13, .ref a14, .int x9, .int x10, .int x11, .int x12, .int x13, .int x14])), (a1, .inl (k0, 80, .inl (upd f0 (Int32.toNatClampNeg x1) (vp_nar .byte v_22537))))] H := hP
  have hD : va_D A [(a0, .inr (7, [.ref a1, .int x1, .ref a2, .ref a3, .ref a4, .ref a5, .ref a6, .ref a7, .ref a8, .int x2, .int x3, .int x4, .int x5, .int x6, .int x7, .int x8, .ref a9, .ref a10, .ref a11, .ref a12, .ref a13, .ref a14, .int x9, .int x10, .int x11, .int x12, .int x13, .int x14])), (a1, .inl (k0, 80, .inl (upd f0 (Int32.toNatClampNeg x1) (vp_nar .byte v_22537))))] := hD
  have hg_22538 : sb_Fit (upd f0 (Int32.toNatClampNeg x1) (vp_nar .byte v_22537)) := sb_fitU hf0 (kb_nb _)
  generalize (upd f0 (Int32.toNatClampNeg x1) (vp_nar .byte v_22537)) = g_22538 at hP hD hg_22538
  refine lv_aload_n hx hb dX7_four_20 rfl (lv_at hl 1 rfl) ?_
  refine lv_dup hx hb dX7_four_21 rfl ?_
  refine ka_get C lq_269 rfl hK hP 0 rfl 1 (by decide) lq_271 rfl dX7_four_22 ?_
  refine lv_iconst (v := 1) hx hb dX7_four_25 (by decide) ?_
  refine lv_iadd hx hb dX7_four_26 ?_
  refine lv_topi (fun v_22539 ev_22539 => ?_)
  have fv_22539 : v_22539.toInt = x1.toInt + 1 := by rw [ev_22539]; exact ka_add (x := x1.toInt) (y := 1) rfl (by decide) (by omega) (by omega)
  refine ka_put C lq_269 tyX7 tyX7_ok nmX7 rfl hK hP hD hS 0 rfl 1 (by decide) lq_271 rfl rfl rfl (Nat.le_of_ble_eq_true rfl) dX7_four_27 (fun H locs hP hD hS => ?_)
  have hP : va_P D vwCl [(a0, .inr (7, [.ref a1, .int v_22539, .ref a2, .ref a3, .ref a4, .ref a5, .ref a6, .ref a7, .ref a8, .int x2, .int x3, .int x4, .int x5, .int x6, .int x7, .int x8, .ref a9, .ref a10, .ref a11, .ref a12, .ref a13, .ref a14, .int x9, .int x10, .int x11, .int x12, .int x13, .int x14])), (a1, .inl (k0, 80, .inl g_22538))] H := hP
  have hD : va_D A [(a0, .inr (7, [.ref a1, .int v_22539, .ref a2, .ref a3, .ref a4, .ref a5, .ref a6, .ref a7, .ref a8, .int x2, .int x3, .int x4, .int x5, .int x6, .int x7, .int x8, .ref a9, .ref a10, .ref a11, .ref a12, .ref a13, .ref a14, .int x9, .int x10, .int x11, .int x12, .int x13, .int x14])), (a1, .inl (k0, 80, .inl g_22538))] := hD
  refine lv_iinc (v := 16) (lv' := [(2, .int 16), (0, .ref a0), (1, .int x0)]) hx hb dX7_four_30 hl (k := 0) rfl (by decide) (by decide) rfl (fun ls hl => ?_)
  refine lv_goto (tgt := 3) hx hb dX7_four_33 (by decide) ?_
  refine lv_iload_n hx hb dX7_four_3 rfl (lv_at hl 0 rfl) ?_
  refine lv_if_lt (tgt := 36) hx hb dX7_four_4 (by decide) (fun c_ => absurd c_ (by decide)) (fun _ => ?_)
  refine lv_aload_n hx hb dX7_four_7 rfl (lv_at hl 1 rfl) ?_
  refine ka_get C lq_269 rfl hK hP 0 rfl 0 (by decide) lq_270 rfl dX7_four_8 ?_
  refine lv_aload_n hx hb dX7_four_11 rfl (lv_at hl 1 rfl) ?_
  refine ka_get C lq_269 rfl hK hP 0 rfl 1 (by decide) lq_271 rfl dX7_four_12 ?_
  refine lv_iload_n hx hb dX7_four_15 rfl (lv_at hl 2 rfl) ?_
  refine lv_iload_n hx hb dX7_four_16 rfl (lv_at hl 0 rfl) ?_
  refine lv_ishr hx hb dX7_four_17 ?_
  refine lv_topi (fun v_22540 ev_22540 => ?_)
  refine lv_i2b hx hb dX7_four_18 rfl ?_
  refine lv_topi (fun v_22541 ev_22541 => ?_)
  refine va_bast hx hb hK hP hD hS 1 0 rfl rfl (ka_in (by omega) (by omega)) dX7_four_19 (fun H locs hP hD hS => ?_)
  have hP : va_P D vwCl [(a0, .inr (7, [.ref a1, .int v_22539, .ref a2, .ref a3, .ref a4, .ref a5, .ref a6, .ref a7, .ref a8, .int x2, .int x3, .int x4, .int x5, .int x6, .int x7, .int x8, .ref a9, .ref a10, .ref a11, .ref a12, .ref a13, .ref a14, .int x9, .int x10, .int x11, .int x12, .int x13, .int x14])), (a1, .inl (k0, 80, .inl (upd g_22538 (Int32.toNatClampNeg v_22539) (vp_nar .byte v_22541))))] H := hP
  have hD : va_D A [(a0, .inr (7, [.ref a1, .int v_22539, .ref a2, .ref a3, .ref a4, .ref a5, .ref a6, .ref a7, .ref a8, .int x2, .int x3, .int x4, .int x5, .int x6, .int x7, .int x8, .ref a9, .ref a10, .ref a11, .ref a12, .ref a13, .ref a14, .int x9, .int x10, .int x11, .int x12, .int x13, .int x14])), (a1, .inl (k0, 80, .inl (upd g_22538 (Int32.toNatClampNeg v_22539) (vp_nar .byte v_22541))))] := hD
  have hg_22542 : sb_Fit (upd g_22538 (Int32.toNatClampNeg v_22539) (vp_nar .byte v_22541)) := sb_fitU hg_22538 (kb_nb _)
  generalize (upd g_22538 (Int32.toNatClampNeg v_22539) (vp_nar .byte v_22541)) = g_22542 at hP hD hg_22542
  refine lv_aload_n hx hb dX7_four_20 rfl (lv_at hl 1 rfl) ?_
  refine lv_dup hx hb dX7_four_21 rfl ?_
  refine ka_get C lq_269 rfl hK hP 0 rfl 1 (by decide) lq_271 rfl dX7_four_22 ?_
  refine lv_iconst (v := 1) hx hb dX7_four_25 (by decide) ?_
  refine lv_iadd hx hb dX7_four_26 ?_
  refine lv_topi (fun v_22543 ev_22543 => ?_)
  have fv_22543 : v_22543.toInt = v_22539.toInt + 1 := by rw [ev_22543]; exact ka_add (x := v_22539.toInt) (y := 1) rfl (by decide) (by omega) (by omega)
  refine ka_put C lq_269 tyX7 tyX7_ok nmX7 rfl hK hP hD hS 0 rfl 1 (by decide) lq_271 rfl rfl rfl (Nat.le_of_ble_eq_true rfl) dX7_four_27 (fun H locs hP hD hS => ?_)
  have hP : va_P D vwCl [(a0, .inr (7, [.ref a1, .int v_22543, .ref a2, .ref a3, .ref a4, .ref a5, .ref a6, .ref a7, .ref a8, .int x2, .int x3, .int x4, .int x5, .int x6, .int x7, .int x8, .ref a9, .ref a10, .ref a11, .ref a12, .ref a13, .ref a14, .int x9, .int x10, .int x11, .int x12, .int x13, .int x14])), (a1, .inl (k0, 80, .inl g_22542))] H := hP
  have hD : va_D A [(a0, .inr (7, [.ref a1, .int v_22543, .ref a2, .ref a3, .ref a4, .ref a5, .ref a6, .ref a7, .ref a8, .int x2, .int x3, .int x4, .int x5, .int x6, .int x7, .int x8, .ref a9, .ref a10, .ref a11, .ref a12, .ref a13, .ref a14, .int x9, .int x10, .int x11, .int x12, .int x13, .int x14])), (a1, .inl (k0, 80, .inl g_22542))] := hD
  refine lv_iinc (v := 8) (lv' := [(2, .int 8), (0, .ref a0), (1, .int x0)]) hx hb dX7_four_30 hl (k := 0) rfl (by decide) (by decide) rfl (fun ls hl => ?_)
  refine lv_goto (tgt := 3) hx hb dX7_four_33 (by decide) ?_
  refine lv_iload_n hx hb dX7_four_3 rfl (lv_at hl 0 rfl) ?_
  refine lv_if_lt (tgt := 36) hx hb dX7_four_4 (by decide) (fun c_ => absurd c_ (by decide)) (fun _ => ?_)
  refine lv_aload_n hx hb dX7_four_7 rfl (lv_at hl 1 rfl) ?_
  refine ka_get C lq_269 rfl hK hP 0 rfl 0 (by decide) lq_270 rfl dX7_four_8 ?_
  refine lv_aload_n hx hb dX7_four_11 rfl (lv_at hl 1 rfl) ?_
  refine ka_get C lq_269 rfl hK hP 0 rfl 1 (by decide) lq_271 rfl dX7_four_12 ?_
  refine lv_iload_n hx hb dX7_four_15 rfl (lv_at hl 2 rfl) ?_
  refine lv_iload_n hx hb dX7_four_16 rfl (lv_at hl 0 rfl) ?_
  refine lv_ishr hx hb dX7_four_17 ?_
  refine lv_topi (fun v_22544 ev_22544 => ?_)
  refine lv_i2b hx hb dX7_four_18 rfl ?_
  refine lv_topi (fun v_22545 ev_22545 => ?_)
  refine va_bast hx hb hK hP hD hS 1 0 rfl rfl (ka_in (by omega) (by omega)) dX7_four_19 (fun H locs hP hD hS => ?_)
  have hP : va_P D vwCl [(a0, .inr (7, [.ref a1, .int v_22543, .ref a2, .ref a3, .ref a4, .ref a5, .ref a6, .ref a7, .ref a8, .int x2, .int x3, .int x4, .int x5, .int x6, .int x7, .int x8, .ref a9, .ref a10, .ref a11, .ref a12, .ref a13, .ref a14, .int x9, .int x10, .int x11, .int x12, .int x13, .int x14])), (a1, .inl (k0, 80, .inl (upd g_22542 (Int32.toNatClampNeg v_22543) (vp_nar .byte v_22545))))] H := hP
  have hD : va_D A [(a0, .inr (7, [.ref a1, .int v_22543, .ref a2, .ref a3, .ref a4, .ref a5, .ref a6, .ref a7, .ref a8, .int x2, .int x3, .int x4, .int x5, .int x6, .int x7, .int x8, .ref a9, .ref a10, .ref a11, .ref a12, .ref a13, .ref a14, .int x9, .int x10, .int x11, .int x12, .int x13, .int x14])), (a1, .inl (k0, 80, .inl (upd g_22542 (Int32.toNatClampNeg v_22543) (vp_nar .byte v_22545))))] := hD
  have hg_22546 : sb_Fit (upd g_22542 (Int32.toNatClampNeg v_22543) (vp_nar .byte v_22545)) := sb_fitU hg_22542 (kb_nb _)
  generalize (upd g_22542 (Int32.toNatClampNeg v_22543) (vp_nar .byte v_22545)) = g_22546 at hP hD hg_22546
  refine lv_aload_n hx hb dX7_four_20 rfl (lv_at hl 1 rfl) ?_
  refine lv_dup hx hb dX7_four_21 rfl ?_
  refine ka_get C lq_269 rfl hK hP 0 rfl 1 (by decide) lq_271 rfl dX7_four_22 ?_
  refine lv_iconst (v := 1) hx hb dX7_four_25 (by decide) ?_
  refine lv_iadd hx hb dX7_four_26 ?_
  refine lv_topi (fun v_22547 ev_22547 => ?_)
  have fv_22547 : v_22547.toInt = v_22543.toInt + 1 := by rw [ev_22547]; exact ka_add (x := v_22543.toInt) (y := 1) rfl (by decide) (by omega) (by omega)
  refine ka_put C lq_269 tyX7 tyX7_ok nmX7 rfl hK hP hD hS 0 rfl 1 (by decide) lq_271 rfl rfl rfl (Nat.le_of_ble_eq_true rfl) dX7_four_27 (fun H locs hP hD hS => ?_)
  have hP : va_P D vwCl [(a0, .inr (7, [.ref a1, .int v_22547, .ref a2, .ref a3, .ref a4, .ref a5, .ref a6, .ref a7, .ref a8, .int x2, .int x3, .int x4, .int x5, .int x6, .int x7, .int x8, .ref a9, .ref a10, .ref a11, .ref a12, .ref a13, .ref a14, .int x9, .int x10, .int x11, .int x12, .int x13, .int x14])), (a1, .inl (k0, 80, .inl g_22546))] H := hP
  have hD : va_D A [(a0, .inr (7, [.ref a1, .int v_22547, .ref a2, .ref a3, .ref a4, .ref a5, .ref a6, .ref a7, .ref a8, .int x2, .int x3, .int x4, .int x5, .int x6, .int x7, .int x8, .ref a9, .ref a10, .ref a11, .ref a12, .ref a13, .ref a14, .int x9, .int x10, .int x11, .int x12, .int x13, .int x14])), (a1, .inl (k0, 80, .inl g_22546))] := hD
  refine lv_iinc (v := 0) (lv' := [(2, .int 0), (0, .ref a0), (1, .int x0)]) hx hb dX7_four_30 hl (k := 0) rfl (by decide) (by decide) rfl (fun ls hl => ?_)
  refine lv_goto (tgt := 3) hx hb dX7_four_33 (by decide) ?_
  refine lv_iload_n hx hb dX7_four_3 rfl (lv_at hl 0 rfl) ?_
  refine lv_if_lt (tgt := 36) hx hb dX7_four_4 (by decide) (fun c_ => absurd c_ (by decide)) (fun _ => ?_)
  refine lv_aload_n hx hb dX7_four_7 rfl (lv_at hl 1 rfl) ?_
  refine ka_get C lq_269 rfl hK hP 0 rfl 0 (by decide) lq_270 rfl dX7_four_8 ?_
  refine lv_aload_n hx hb dX7_four_11 rfl (lv_at hl 1 rfl) ?_
  refine ka_get C lq_269 rfl hK hP 0 rfl 1 (by decide) lq_271 rfl dX7_four_12 ?_
  refine lv_iload_n hx hb dX7_four_15 rfl (lv_at hl 2 rfl) ?_
  refine lv_iload_n hx hb dX7_four_16 rfl (lv_at hl 0 rfl) ?_
  refine lv_ishr hx hb dX7_four_17 ?_
  refine lv_topi (fun v_22548 ev_22548 => ?_)
  refine lv_i2b hx hb dX7_four_18 rfl ?_
  refine lv_topi (fun v_22549 ev_22549 => ?_)
  refine va_bast hx hb hK hP hD hS 1 0 rfl rfl (ka_in (by omega) (by omega)) dX7_four_19 (fun H locs hP hD hS => ?_)
  have hP : va_P D vwCl [(a0, .inr (7, [.ref a1, .int v_22547, .ref a2, .ref a3, .ref a4, .ref a5, .ref a6, .ref a7, .ref a8, .int x2, .int x3, .int x4, .int x5, .int x6, .int x7, .int x8, .ref a9, .ref a10, .ref a11, .ref a12, .ref a13, .ref a14, .int x9, .int x10, .int x11, .int x12, .int x13, .int x14])), (a1, .inl (k0, 80, .inl (upd g_22546 (Int32.toNatClampNeg v_22547) (vp_nar .byte v_22549))))] H := hP
  have hD : va_D A [(a0, .inr (7, [.ref a1, .int v_22547, .ref a2, .ref a3, .ref a4, .ref a5, .ref a6, .ref a7, .ref a8, .int x2, .int x3, .int x4, .int x5, .int x6, .int x7, .int x8, .ref a9, .ref a10, .ref a11, .ref a12, .ref a13, .ref a14, .int x9, .int x10, .int x11, .int x12, .int x13, .int x14])), (a1, .inl (k0, 80, .inl (upd g_22546 (Int32.toNatClampNeg v_22547) (vp_nar .byte v_22549))))] := hD
  have hg_22550 : sb_Fit (upd g_22546 (Int32.toNatClampNeg v_22547) (vp_nar .byte v_22549)) := sb_fitU hg_22546 (kb_nb _)
  generalize (upd g_22546 (Int32.toNatClampNeg v_22547) (vp_nar .byte v_22549)) = g_22550 at hP hD hg_22550
  refine lv_aload_n hx hb dX7_four_20 rfl (lv_at hl 1 rfl) ?_
  refine lv_dup hx hb dX7_four_21 rfl ?_
  refine ka_get C lq_269 rfl hK hP 0 rfl 1 (by decide) lq_271 rfl dX7_four_22 ?_
  refine lv_iconst (v := 1) hx hb dX7_four_25 (by decide) ?_
  refine lv_iadd hx hb dX7_four_26 ?_
  refine lv_topi (fun v_22551 ev_22551 => ?_)
  have fv_22551 : v_22551.toInt = v_22547.toInt + 1 := by rw [ev_22551]; exact ka_add (x := v_22547.toInt) (y := 1) rfl (by decide) (by omega) (by omega)
  refine ka_put C lq_269 tyX7 tyX7_ok nmX7 rfl hK hP hD hS 0 rfl 1 (by decide) lq_271 rfl rfl rfl (Nat.le_of_ble_eq_true rfl) dX7_four_27 (fun H locs hP hD hS => ?_)
  have hP : va_P D vwCl [(a0, .inr (7, [.ref a1, .int v_22551, .ref a2, .ref a3, .ref a4, .ref a5, .ref a6, .ref a7, .ref a8, .int x2, .int x3, .int x4, .int x5, .int x6, .int x7, .int x8, .ref a9, .ref a10, .ref a11, .ref a12, .ref a13, .ref a14, .int x9, .int x10, .int x11, .int x12, .int x13, .int x14])), (a1, .inl (k0, 80, .inl g_22550))] H := hP
  have hD : va_D A [(a0, .inr (7, [.ref a1, .int v_22551, .ref a2, .ref a3, .ref a4, .ref a5, .ref a6, .ref a7, .ref a8, .int x2, .int x3, .int x4, .int x5, .int x6, .int x7, .int x8, .ref a9, .ref a10, .ref a11, .ref a12, .ref a13, .ref a14, .int x9, .int x10, .int x11, .int x12, .int x13, .int x14])), (a1, .inl (k0, 80, .inl g_22550))] := hD
  refine lv_iinc (v := (-8)) (lv' := [(2, .int (-8)), (0, .ref a0), (1, .int x0)]) hx hb dX7_four_30 hl (k := 0) rfl (by decide) (by decide) rfl (fun ls hl => ?_)
  refine lv_goto (tgt := 3) hx hb dX7_four_33 (by decide) ?_
  refine lv_iload_n hx hb dX7_four_3 rfl (lv_at hl 0 rfl) ?_
  refine lv_if_lt (tgt := 36) hx hb dX7_four_4 (by decide) (fun _ => ?_) (fun c_ => absurd (by decide) c_)
  exact ka_rEv C hr hlk (Nat.le_of_ble_eq_true rfl) (Nat.le_of_ble_eq_true rfl) hS (ka_qE (v_22551, g_22550) rfl ⟨(show 12 ≤ v_22551.toInt ∧ v_22551.toInt ≤ 72 from ⟨by omega, by omega⟩), hg_22550⟩ hK hP hD hS [0, 1] (by decide) rfl [] rfl) dX7_four_36
set_option maxHeartbeats 4000000 in
set_option maxRecDepth 100000 in
theorem cg_X7_four_211 (l : Launch) (D : va_G) (F : Nat → Prop) (a0 : Nat) (x0 : Int32) (a1 : Nat) (x1 : Int32) (a2 : Nat) (a3 : Nat) (a4 : Nat) (a5 : Nat) (a6 : Nat) (a7 : Nat) (a8 : Nat) (x2 : Int32) (x3 : Int32) (x4 : Int32) (x5 : Int32) (x6 : Int32) (x7 : Int32) (x8 : Int32) (a9 : Nat) (a10 : Nat) (a11 : Nat) (a12 : Nat) (a13 : Nat) (a14 : Nat) (x9 : Int32) (x10 : Int32) (x11 : Int32) (x12 : Int32) (x13 : Int32) (x14 : Int32) (k0 : ClassId) (f0 : Nat → Int32) (hx1 : 12 ≤ x1.toInt ∧ x1.toInt ≤ 72) (hx2 : -1 ≤ x2.toInt ∧ x2.toInt ≤ 5) (hx5 : 1 ≤ x5.toInt ∧ x5.toInt ≤ 8) (hx6 : 0 ≤ x6.toInt ∧ x6.toInt ≤ 40) (hx8 : 0 ≤ x8.toInt ∧ x8.toInt ≤ 10) (hx9 : 0 ≤ x9.toInt ∧ x9.toInt ≤ 60) (hx10 : 0 ≤ x10.toInt ∧ x10.toInt ≤ 60) (hx11 : 0 ≤ x11.toInt ∧ x11.toInt ≤ 60) (hx12 : 0 ≤ x12.toInt ∧ x12.toInt ≤ 8) (hx14 : 0 ≤ x14.toInt ∧ x14.toInt ≤ 1) (hf0 : sb_Fit f0) : ka_E l D F yX7_four wsX7_four 0 0 0 0 [.ref a0, .int x0] [(a0, .inr (7, [.ref a1, .int x1, .ref a2, .ref a3, .ref a4, .ref a5, .ref a6, .ref a7, .ref a8, .int x2, .int x3, .int x4, .int x5, .int x6, .int x7, .int x8, .ref a9, .ref a10, .ref a11, .ref a12, .ref a13, .ref a14, .int x9, .int x10, .int x11, .int x12, .int x13, .int x14])), (a1, .inl (k0, 80, .inl f0))] [(k0, .byte)] (fun (u : (Int32) × (Nat → Int32)) => none) (fun (u : (Int32) × (Nat → Int32)) => (16 ≤ (u.1).toInt ∧ (u.1).toInt ≤ 76) ∧ (sb_Fit (u.2))) (fun (u : (Int32) × (Nat → Int32)) => [(a0, .inr (7, [.ref a1, .int (u.1), .ref a2, .ref a3, .ref a4, .ref a5, .ref a6, .ref a7, .ref a8, .int x2, .int x3, .int x4, .int x5, .int x6, .int x7, .int x8, .ref a9, .ref a10, .ref a11, .ref a12, .ref a13, .ref a14, .int x9, .int x10, .int x11, .int x12, .int x13, .int x14])), (a1, .inl (k0, 80, .inl (u.2)))]) (fun (u : (Int32) × (Nat → Int32)) => []) := by
  refine ka_E_of (cc := cX7_four) (maxL := 3) (ret := none) (by decide) rfl (Nat.le_of_ble_eq_true rfl) ?_
  intro p e s m below meth c ls A C hr hlk hin hP hK hD hS hA hE hN hl
  have C : CallFix p m c cX7_four 3 s [.ref a0, .int x0].toArray wsX7_four RX7 := C
  obtain ⟨hx, hb, hml, hown, hts⟩ := id C
  have hl : lv_has ls 3 [(0, .ref a0), (1, .int x0)] := hl
  have rx0 := ka_rng x0
  have rx1 := ka_rng x1
  have rx2 := ka_rng x2
  have rx3 := ka_rng x3
  have rx4 := ka_rng x4
  have rx5 := ka_rng x5
  have rx6 := ka_rng x6
  have rx7 := ka_rng x7
  have rx8 := ka_rng x8
  have rx9 := ka_rng x9
  have rx10 := ka_rng x10
  have rx11 := ka_rng x11
  have rx12 := ka_rng x12
  have rx13 := ka_rng x13
  have rx14 := ka_rng x14
  refine lv_bipush (v := 24) hx hb dX7_four_0 (by decide) ?_
  refine lv_istore_n (lv' := [(2, .int 24), (0, .ref a0), (1, .int x0)]) hx hb dX7_four_2 rfl hl (by decide) rfl (fun ls hl => ?_)
  refine lv_iload_n hx hb dX7_four_3 rfl (lv_at hl 0 rfl) ?_
  refine lv_if_lt (tgt := 36) hx hb dX7_four_4 (by decide) (fun c_ => absurd c_ (by decide)) (fun _ => ?_)
  refine lv_aload_n hx hb dX7_four_7 rfl (lv_at hl 1 rfl) ?_
  refine ka_get C lq_269 rfl hK hP 0 rfl 0 (by decide) lq_270 rfl dX7_four_8 ?_
  refine lv_aload_n hx hb dX7_four_11 rfl (lv_at hl 1 rfl) ?_
  refine ka_get C lq_269 rfl hK hP 0 rfl 1 (by decide) lq_271 rfl dX7_four_12 ?_
  refine lv_iload_n hx hb dX7_four_15 rfl (lv_at hl 2 rfl) ?_
  refine lv_iload_n hx hb dX7_four_16 rfl (lv_at hl 0 rfl) ?_
  refine lv_ishr hx hb dX7_four_17 ?_
  refine lv_topi (fun v_22614 ev_22614 => ?_)
  refine lv_i2b hx hb dX7_four_18 rfl ?_
  refine lv_topi (fun v_22615 ev_22615 => ?_)
  refine va_bast hx hb hK hP hD hS 1 0 rfl rfl (ka_in (by omega) (by omega)) dX7_four_19 (fun H locs hP hD hS => ?_)
  have hP : va_P D vwCl [(a0, .inr (7, [.ref a1, .int x1, .ref a2, .ref a3, .ref a4, .ref a5, .ref a6, .ref a7, .ref a8, .int x2, .int x3, .int x4, .int x5, .int x6, .int x7, .int x8, .ref a9, .ref a10, .ref a11, .ref a12, .ref a13, .ref a14, .int x9, .int x10, .int x11, .int x12, .int x13, .int x14])), (a1, .inl (k0, 80, .inl (upd f0 (Int32.toNatClampNeg x1) (vp_nar .byte v_22615))))] H := hP
  have hD : va_D A [(a0, .inr (7, [.ref a1, .int x1, .ref a2, .ref a3, .ref a4, .ref a5, .ref a6, .ref a7, .ref a8, .int x2, .int x3, .int x4, .int x5, .int x6, .int x7, .int x8, .ref a9, .ref a10, .ref a11, .ref a12, .ref a13, .ref a14, .int x9, .int x10, .int x11, .int x12, .int x13, .int x14])), (a1, .inl (k0, 80, .inl (upd f0 (Int32.toNatClampNeg x1) (vp_nar .byte v_22615))))] := hD
  have hg_22616 : sb_Fit (upd f0 (Int32.toNatClampNeg x1) (vp_nar .byte v_22615)) := sb_fitU hf0 (kb_nb _)
  generalize (upd f0 (Int32.toNatClampNeg x1) (vp_nar .byte v_22615)) = g_22616 at hP hD hg_22616
  refine lv_aload_n hx hb dX7_four_20 rfl (lv_at hl 1 rfl) ?_
  refine lv_dup hx hb dX7_four_21 rfl ?_
  refine ka_get C lq_269 rfl hK hP 0 rfl 1 (by decide) lq_271 rfl dX7_four_22 ?_
  refine lv_iconst (v := 1) hx hb dX7_four_25 (by decide) ?_
  refine lv_iadd hx hb dX7_four_26 ?_
  refine lv_topi (fun v_22617 ev_22617 => ?_)
  have fv_22617 : v_22617.toInt = x1.toInt + 1 := by rw [ev_22617]; exact ka_add (x := x1.toInt) (y := 1) rfl (by decide) (by omega) (by omega)
  refine ka_put C lq_269 tyX7 tyX7_ok nmX7 rfl hK hP hD hS 0 rfl 1 (by decide) lq_271 rfl rfl rfl (Nat.le_of_ble_eq_true rfl) dX7_four_27 (fun H locs hP hD hS => ?_)
  have hP : va_P D vwCl [(a0, .inr (7, [.ref a1, .int v_22617, .ref a2, .ref a3, .ref a4, .ref a5, .ref a6, .ref a7, .ref a8, .int x2, .int x3, .int x4, .int x5, .int x6, .int x7, .int x8, .ref a9, .ref a10, .ref a11, .ref a12, .ref a13, .ref a14, .int x9, .int x10, .int x11, .int x12, .int x13, .int x14])), (a1, .inl (k0, 80, .inl g_22616))] H := hP
  have hD : va_D A [(a0, .inr (7, [.ref a1, .int v_22617, .ref a2, .ref a3, .ref a4, .ref a5, .ref a6, .ref a7, .ref a8, .int x2, .int x3, .int x4, .int x5, .int x6, .int x7, .int x8, .ref a9, .ref a10, .ref a11, .ref a12, .ref a13, .ref a14, .int x9, .int x10, .int x11, .int x12, .int x13, .int x14])), (a1, .inl (k0, 80, .inl g_22616))] := hD
  refine lv_iinc (v := 16) (lv' := [(2, .int 16), (0, .ref a0), (1, .int x0)]) hx hb dX7_four_30 hl (k := 0) rfl (by decide) (by decide) rfl (fun ls hl => ?_)
  refine lv_goto (tgt := 3) hx hb dX7_four_33 (by decide) ?_
  refine lv_iload_n hx hb dX7_four_3 rfl (lv_at hl 0 rfl) ?_
  refine lv_if_lt (tgt := 36) hx hb dX7_four_4 (by decide) (fun c_ => absurd c_ (by decide)) (fun _ => ?_)
  refine lv_aload_n hx hb dX7_four_7 rfl (lv_at hl 1 rfl) ?_
  refine ka_get C lq_269 rfl hK hP 0 rfl 0 (by decide) lq_270 rfl dX7_four_8 ?_
  refine lv_aload_n hx hb dX7_four_11 rfl (lv_at hl 1 rfl) ?_
  refine ka_get C lq_269 rfl hK hP 0 rfl 1 (by decide) lq_271 rfl dX7_four_12 ?_
  refine lv_iload_n hx hb dX7_four_15 rfl (lv_at hl 2 rfl) ?_
  refine lv_iload_n hx hb dX7_four_16 rfl (lv_at hl 0 rfl) ?_
  refine lv_ishr hx hb dX7_four_17 ?_
  refine lv_topi (fun v_22618 ev_22618 => ?_)
  refine lv_i2b hx hb dX7_four_18 rfl ?_
  refine lv_topi (fun v_22619 ev_22619 => ?_)
  refine va_bast hx hb hK hP hD hS 1 0 rfl rfl (ka_in (by omega) (by omega)) dX7_four_19 (fun H locs hP hD hS => ?_)
  have hP : va_P D vwCl [(a0, .inr (7, [.ref a1, .int v_22617, .ref a2, .ref a3, .ref a4, .ref a5, .ref a6, .ref a7, .ref a8, .int x2, .int x3, .int x4, .int x5, .int x6, .int x7, .int x8, .ref a9, .ref a10, .ref a11, .ref a12, .ref a13, .ref a14, .int x9, .int x10, .int x11, .int x12, .int x13, .int x14])), (a1, .inl (k0, 80, .inl (upd g_22616 (Int32.toNatClampNeg v_22617) (vp_nar .byte v_22619))))] H := hP
  have hD : va_D A [(a0, .inr (7, [.ref a1, .int v_22617, .ref a2, .ref a3, .ref a4, .ref a5, .ref a6, .ref a7, .ref a8, .int x2, .int x3, .int x4, .int x5, .int x6, .int x7, .int x8, .ref a9, .ref a10, .ref a11, .ref a12, .ref a13, .ref a14, .int x9, .int x10, .int x11, .int x12, .int x13, .int x14])), (a1, .inl (k0, 80, .inl (upd g_22616 (Int32.toNatClampNeg v_22617) (vp_nar .byte v_22619))))] := hD
  have hg_22620 : sb_Fit (upd g_22616 (Int32.toNatClampNeg v_22617) (vp_nar .byte v_22619)) := sb_fitU hg_22616 (kb_nb _)
  generalize (upd g_22616 (Int32.toNatClampNeg v_22617) (vp_nar .byte v_22619)) = g_22620 at hP hD hg_22620
  refine lv_aload_n hx hb dX7_four_20 rfl (lv_at hl 1 rfl) ?_
  refine lv_dup hx hb dX7_four_21 rfl ?_
  refine ka_get C lq_269 rfl hK hP 0 rfl 1 (by decide) lq_271 rfl dX7_four_22 ?_
  refine lv_iconst (v := 1) hx hb dX7_four_25 (by decide) ?_
  refine lv_iadd hx hb dX7_four_26 ?_
  refine lv_topi (fun v_22621 ev_22621 => ?_)
  have fv_22621 : v_22621.toInt = v_22617.toInt + 1 := by rw [ev_22621]; exact ka_add (x := v_22617.toInt) (y := 1) rfl (by decide) (by omega) (by omega)
  refine ka_put C lq_269 tyX7 tyX7_ok nmX7 rfl hK hP hD hS 0 rfl 1 (by decide) lq_271 rfl rfl rfl (Nat.le_of_ble_eq_true rfl) dX7_four_27 (fun H locs hP hD hS => ?_)
  have hP : va_P D vwCl [(a0, .inr (7, [.ref a1, .int v_22621, .ref a2, .ref a3, .ref a4, .ref a5, .ref a6, .ref a7, .ref a8, .int x2, .int x3, .int x4, .int x5, .int x6, .int x7, .int x8, .ref a9, .ref a10, .ref a11, .ref a12, .ref a13, .ref a14, .int x9, .int x10, .int x11, .int x12, .int x13, .int x14])), (a1, .inl (k0, 80, .inl g_22620))] H := hP
  have hD : va_D A [(a0, .inr (7, [.ref a1, .int v_22621, .ref a2, .ref a3, .ref a4, .ref a5, .ref a6, .ref a7, .ref a8, .int x2, .int x3, .int x4, .int x5, .int x6, .int x7, .int x8, .ref a9, .ref a10, .ref a11, .ref a12, .ref a13, .ref a14, .int x9, .int x10, .int x11, .int x12, .int x13, .int x14])), (a1, .inl (k0, 80, .inl g_22620))] := hD
  refine lv_iinc (v := 8) (lv' := [(2, .int 8), (0, .ref a0), (1, .int x0)]) hx hb dX7_four_30 hl (k := 0) rfl (by decide) (by decide) rfl (fun ls hl => ?_)
  refine lv_goto (tgt := 3) hx hb dX7_four_33 (by decide) ?_
  refine lv_iload_n hx hb dX7_four_3 rfl (lv_at hl 0 rfl) ?_
  refine lv_if_lt (tgt := 36) hx hb dX7_four_4 (by decide) (fun c_ => absurd c_ (by decide)) (fun _ => ?_)
  refine lv_aload_n hx hb dX7_four_7 rfl (lv_at hl 1 rfl) ?_
  refine ka_get C lq_269 rfl hK hP 0 rfl 0 (by decide) lq_270 rfl dX7_four_8 ?_
  refine lv_aload_n hx hb dX7_four_11 rfl (lv_at hl 1 rfl) ?_
  refine ka_get C lq_269 rfl hK hP 0 rfl 1 (by decide) lq_271 rfl dX7_four_12 ?_
  refine lv_iload_n hx hb dX7_four_15 rfl (lv_at hl 2 rfl) ?_
  refine lv_iload_n hx hb dX7_four_16 rfl (lv_at hl 0 rfl) ?_
  refine lv_ishr hx hb dX7_four_17 ?_
  refine lv_topi (fun v_22622 ev_22622 => ?_)
  refine lv_i2b hx hb dX7_four_18 rfl ?_
  refine lv_topi (fun v_22623 ev_22623 => ?_)
  refine va_bast hx hb hK hP hD hS 1 0 rfl rfl (ka_in (by omega) (by omega)) dX7_four_19 (fun H locs hP hD hS => ?_)
  have hP : va_P D vwCl [(a0, .inr (7, [.ref a1, .int v_22621, .ref a2, .ref a3, .ref a4, .ref a5, .ref a6, .ref a7, .ref a8, .int x2, .int x3, .int x4, .int x5, .int x6, .int x7, .int x8, .ref a9, .ref a10, .ref a11, .ref a12, .ref a13, .ref a14, .int x9, .int x10, .int x11, .int x12, .int x13, .int x14])), (a1, .inl (k0, 80, .inl (upd g_22620 (Int32.toNatClampNeg v_22621) (vp_nar .byte v_22623))))] H := hP
  have hD : va_D A [(a0, .inr (7, [.ref a1, .int v_22621, .ref a2, .ref a3, .ref a4, .ref a5, .ref a6, .ref a7, .ref a8, .int x2, .int x3, .int x4, .int x5, .int x6, .int x7, .int x8, .ref a9, .ref a10, .ref a11, .ref a12, .ref a13, .ref a14, .int x9, .int x10, .int x11, .int x12, .int x13, .int x14])), (a1, .inl (k0, 80, .inl (upd g_22620 (Int32.toNatClampNeg v_22621) (vp_nar .byte v_22623))))] := hD
  have hg_22624 : sb_Fit (upd g_22620 (Int32.toNatClampNeg v_22621) (vp_nar .byte v_22623)) := sb_fitU hg_22620 (kb_nb _)
  generalize (upd g_22620 (Int32.toNatClampNeg v_22621) (vp_nar .byte v_22623)) = g_22624 at hP hD hg_22624
  refine lv_aload_n hx hb dX7_four_20 rfl (lv_at hl 1 rfl) ?_
  refine lv_dup hx hb dX7_four_21 rfl ?_
  refine ka_get C lq_269 rfl hK hP 0 rfl 1 (by decide) lq_271 rfl dX7_four_22 ?_
  refine lv_iconst (v := 1) hx hb dX7_four_25 (by decide) ?_
  refine lv_iadd hx hb dX7_four_26 ?_
  refine lv_topi (fun v_22625 ev_22625 => ?_)
  have fv_22625 : v_22625.toInt = v_22621.toInt + 1 := by rw [ev_22625]; exact ka_add (x := v_22621.toInt) (y := 1) rfl (by decide) (by omega) (by omega)
  refine ka_put C lq_269 tyX7 tyX7_ok nmX7 rfl hK hP hD hS 0 rfl 1 (by decide) lq_271 rfl rfl rfl (Nat.le_of_ble_eq_true rfl) dX7_four_27 (fun H locs hP hD hS => ?_)
  have hP : va_P D vwCl [(a0, .inr (7, [.ref a1, .int v_22625, .ref a2, .ref a3, .ref a4, .ref a5, .ref a6, .ref a7, .ref a8, .int x2, .int x3, .int x4, .int x5, .int x6, .int x7, .int x8, .ref a9, .ref a10, .ref a11, .ref a12, .ref a13, .ref a14, .int x9, .int x10, .int x11, .int x12, .int x13, .int x14])), (a1, .inl (k0, 80, .inl g_22624))] H := hP
  have hD : va_D A [(a0, .inr (7, [.ref a1, .int v_22625, .ref a2, .ref a3, .ref a4, .ref a5, .ref a6, .ref a7, .ref a8, .int x2, .int x3, .int x4, .int x5, .int x6, .int x7, .int x8, .ref a9, .ref a10, .ref a11, .ref a12, .ref a13, .ref a14, .int x9, .int x10, .int x11, .int x12, .int x13, .int x14])), (a1, .inl (k0, 80, .inl g_22624))] := hD
  refine lv_iinc (v := 0) (lv' := [(2, .int 0), (0, .ref a0), (1, .int x0)]) hx hb dX7_four_30 hl (k := 0) rfl (by decide) (by decide) rfl (fun ls hl => ?_)
  refine lv_goto (tgt := 3) hx hb dX7_four_33 (by decide) ?_
  refine lv_iload_n hx hb dX7_four_3 rfl (lv_at hl 0 rfl) ?_
  refine lv_if_lt (tgt := 36) hx hb dX7_four_4 (by decide) (fun c_ => absurd c_ (by decide)) (fun _ => ?_)
  refine lv_aload_n hx hb dX7_four_7 rfl (lv_at hl 1 rfl) ?_
  refine ka_get C lq_269 rfl hK hP 0 rfl 0 (by decide) lq_270 rfl dX7_four_8 ?_
  refine lv_aload_n hx hb dX7_four_11 rfl (lv_at hl 1 rfl) ?_
  refine ka_get C lq_269 rfl hK hP 0 rfl 1 (by decide) lq_271 rfl dX7_four_12 ?_
  refine lv_iload_n hx hb dX7_four_15 rfl (lv_at hl 2 rfl) ?_
  refine lv_iload_n hx hb dX7_four_16 rfl (lv_at hl 0 rfl) ?_
  refine lv_ishr hx hb dX7_four_17 ?_
  refine lv_topi (fun v_22626 ev_22626 => ?_)
  refine lv_i2b hx hb dX7_four_18 rfl ?_
  refine lv_topi (fun v_22627 ev_22627 => ?_)
  refine va_bast hx hb hK hP hD hS 1 0 rfl rfl (ka_in (by omega) (by omega)) dX7_four_19 (fun H locs hP hD hS => ?_)
  have hP : va_P D vwCl [(a0, .inr (7, [.ref a1, .int v_22625, .ref a2, .ref a3, .ref a4, .ref a5, .ref a6, .ref a7, .ref a8, .int x2, .int x3, .int x4, .int x5, .int x6, .int x7, .int x8, .ref a9, .ref a10, .ref a11, .ref a12, .ref a13, .ref a14, .int x9, .int x10, .int x11, .int x12, .int x13, .int x14])), (a1, .inl (k0, 80, .inl (upd g_22624 (Int32.toNatClampNeg v_22625) (vp_nar .byte v_22627))))] H := hP
  have hD : va_D A [(a0, .inr (7, [.ref a1, .int v_22625, .ref a2, .ref a3, .ref a4, .ref a5, .ref a6, .ref a7, .ref a8, .int x2, .int x3, .int x4, .int x5, .int x6, .int x7, .int x8, .ref a9, .ref a10, .ref a11, .ref a12, .ref a13, .ref a14, .int x9, .int x10, .int x11, .int x12, .int x13, .int x14])), (a1, .inl (k0, 80, .inl (upd g_22624 (Int32.toNatClampNeg v_22625) (vp_nar .byte v_22627))))] := hD
  have hg_22628 : sb_Fit (upd g_22624 (Int32.toNatClampNeg v_22625) (vp_nar .byte v_22627)) := sb_fitU hg_22624 (kb_nb _)
  generalize (upd g_22624 (Int32.toNatClampNeg v_22625) (vp_nar .byte v_22627)) = g_22628 at hP hD hg_22628
  refine lv_aload_n hx hb dX7_four_20 rfl (lv_at hl 1 rfl) ?_
  refine lv_dup hx hb dX7_four_21 rfl ?_
  refine ka_get C lq_269 rfl hK hP 0 rfl 1 (by decide) lq_271 rfl dX7_four_22 ?_
  refine lv_iconst (v := 1) hx hb dX7_four_25 (by decide) ?_
  refine lv_iadd hx hb dX7_four_26 ?_
  refine lv_topi (fun v_22629 ev_22629 => ?_)
  have fv_22629 : v_22629.toInt = v_22625.toInt + 1 := by rw [ev_22629]; exact ka_add (x := v_22625.toInt) (y := 1) rfl (by decide) (by omega) (by omega)
  refine ka_put C lq_269 tyX7 tyX7_ok nmX7 rfl hK hP hD hS 0 rfl 1 (by decide) lq_271 rfl rfl rfl (Nat.le_of_ble_eq_true rfl) dX7_four_27 (fun H locs hP hD hS => ?_)
  have hP : va_P D vwCl [(a0, .inr (7, [.ref a1, .int v_22629, .ref a2, .ref a3, .ref a4, .ref a5, .ref a6, .ref a7, .ref a8, .int x2, .int x3, .int x4, .int x5, .int x6, .int x7, .int x8, .ref a9, .ref a10, .ref a11, .ref a12, .ref a13, .ref a14, .int x9, .int x10, .int x11, .int x12, .int x13, .int x14])), (a1, .inl (k0, 80, .inl g_22628))] H := hP
  have hD : va_D A [(a0, .inr (7, [.ref a1, .int v_22629, .ref a2, .ref a3, .ref a4, .ref a5, .ref a6, .ref a7, .ref a8, .int x2, .int x3, .int x4, .int x5, .int x6, .int x7, .int x8, .ref a9, .ref a10, .ref a11, .ref a12, .ref a13, .ref a14, .int x9, .int x10, .int x11, .int x12, .int x13, .int x14])), (a1, .inl (k0, 80, .inl g_22628))] := hD
  refine lv_iinc (v := (-8)) (lv' := [(2, .int (-8)), (0, .ref a0), (1, .int x0)]) hx hb dX7_four_30 hl (k := 0) rfl (by decide) (by decide) rfl (fun ls hl => ?_)
  refine lv_goto (tgt := 3) hx hb dX7_four_33 (by decide) ?_
  refine lv_iload_n hx hb dX7_four_3 rfl (lv_at hl 0 rfl) ?_
  refine lv_if_lt (tgt := 36) hx hb dX7_four_4 (by decide) (fun _ => ?_) (fun c_ => absurd (by decide) c_)
  exact ka_rEv C hr hlk (Nat.le_of_ble_eq_true rfl) (Nat.le_of_ble_eq_true rfl) hS (ka_qE (v_22629, g_22628) rfl ⟨(show 16 ≤ v_22629.toInt ∧ v_22629.toInt ≤ 76 from ⟨by omega, by omega⟩), hg_22628⟩ hK hP hD hS [0, 1] (by decide) rfl [] rfl) dX7_four_36
set_option maxHeartbeats 4000000 in
set_option maxRecDepth 100000 in
theorem cg_X7_four_212 (l : Launch) (D : va_G) (F : Nat → Prop) (a0 : Nat) (x0 : Int32) (a1 : Nat) (x1 : Int32) (a2 : Nat) (a3 : Nat) (a4 : Nat) (a5 : Nat) (a6 : Nat) (a7 : Nat) (a8 : Nat) (x2 : Int32) (x3 : Int32) (x4 : Int32) (x5 : Int32) (x6 : Int32) (x7 : Int32) (x8 : Int32) (a9 : Nat) (a10 : Nat) (a11 : Nat) (a12 : Nat) (a13 : Nat) (a14 : Nat) (x9 : Int32) (x10 : Int32) (x11 : Int32) (x12 : Int32) (x13 : Int32) (x14 : Int32) (k0 : ClassId) (f0 : Nat → Int32) (hx1 : 16 ≤ x1.toInt ∧ x1.toInt ≤ 76) (hx2 : -1 ≤ x2.toInt ∧ x2.toInt ≤ 5) (hx5 : 1 ≤ x5.toInt ∧ x5.toInt ≤ 8) (hx6 : 0 ≤ x6.toInt ∧ x6.toInt ≤ 40) (hx8 : 0 ≤ x8.toInt ∧ x8.toInt ≤ 10) (hx9 : 0 ≤ x9.toInt ∧ x9.toInt ≤ 60) (hx10 : 0 ≤ x10.toInt ∧ x10.toInt ≤ 60) (hx11 : 0 ≤ x11.toInt ∧ x11.toInt ≤ 60) (hx12 : 0 ≤ x12.toInt ∧ x12.toInt ≤ 8) (hx14 : 0 ≤ x14.toInt ∧ x14.toInt ≤ 1) (hf0 : sb_Fit f0) : ka_E l D F yX7_four wsX7_four 0 0 0 0 [.ref a0, .int x0] [(a0, .inr (7, [.ref a1, .int x1, .ref a2, .ref a3, .ref a4, .ref a5, .ref a6, .ref a7, .ref a8, .int x2, .int x3, .int x4, .int x5, .int x6, .int x7, .int x8, .ref a9, .ref a10, .ref a11, .ref a12, .ref a13, .ref a14, .int x9, .int x10, .int x11, .int x12, .int x13, .int x14])), (a1, .inl (k0, 80, .inl f0))] [(k0, .byte)] (fun (u : (Int32) × (Nat → Int32)) => none) (fun (u : (Int32) × (Nat → Int32)) => (20 ≤ (u.1).toInt ∧ (u.1).toInt ≤ 80) ∧ (sb_Fit (u.2))) (fun (u : (Int32) × (Nat → Int32)) => [(a0, .inr (7, [.ref a1, .int (u.1), .ref a2, .ref a3, .ref a4, .ref a5, .ref a6, .ref a7, .ref a8, .int x2, .int x3, .int x4, .int x5, .int x6, .int x7, .int x8, .ref a9, .ref a10, .ref a11, .ref a12, .ref a13, .ref a14, .int x9, .int x10, .int x11, .int x12, .int x13, .int x14])), (a1, .inl (k0, 80, .inl (u.2)))]) (fun (u : (Int32) × (Nat → Int32)) => []) := by
  refine ka_E_of (cc := cX7_four) (maxL := 3) (ret := none) (by decide) rfl (Nat.le_of_ble_eq_true rfl) ?_
  intro p e s m below meth c ls A C hr hlk hin hP hK hD hS hA hE hN hl
  have C : CallFix p m c cX7_four 3 s [.ref a0, .int x0].toArray wsX7_four RX7 := C
  obtain ⟨hx, hb, hml, hown, hts⟩ := id C
  have hl : lv_has ls 3 [(0, .ref a0), (1, .int x0)] := hl
  have rx0 := ka_rng x0
  have rx1 := ka_rng x1
  have rx2 := ka_rng x2
  have rx3 := ka_rng x3
  have rx4 := ka_rng x4
  have rx5 := ka_rng x5
  have rx6 := ka_rng x6
  have rx7 := ka_rng x7
  have rx8 := ka_rng x8
  have rx9 := ka_rng x9
  have rx10 := ka_rng x10
  have rx11 := ka_rng x11
  have rx12 := ka_rng x12
  have rx13 := ka_rng x13
  have rx14 := ka_rng x14
  refine lv_bipush (v := 24) hx hb dX7_four_0 (by decide) ?_
  refine lv_istore_n (lv' := [(2, .int 24), (0, .ref a0), (1, .int x0)]) hx hb dX7_four_2 rfl hl (by decide) rfl (fun ls hl => ?_)
  refine lv_iload_n hx hb dX7_four_3 rfl (lv_at hl 0 rfl) ?_
  refine lv_if_lt (tgt := 36) hx hb dX7_four_4 (by decide) (fun c_ => absurd c_ (by decide)) (fun _ => ?_)
  refine lv_aload_n hx hb dX7_four_7 rfl (lv_at hl 1 rfl) ?_
  refine ka_get C lq_269 rfl hK hP 0 rfl 0 (by decide) lq_270 rfl dX7_four_8 ?_
  refine lv_aload_n hx hb dX7_four_11 rfl (lv_at hl 1 rfl) ?_
  refine ka_get C lq_269 rfl hK hP 0 rfl 1 (by decide) lq_271 rfl dX7_four_12 ?_
  refine lv_iload_n hx hb dX7_four_15 rfl (lv_at hl 2 rfl) ?_
  refine lv_iload_n hx hb dX7_four_16 rfl (lv_at hl 0 rfl) ?_
  refine lv_ishr hx hb dX7_four_17 ?_
  refine lv_topi (fun v_22692 ev_22692 => ?_)
  refine lv_i2b hx hb dX7_four_18 rfl ?_
  refine lv_topi (fun v_22693 ev_22693 => ?_)
  refine va_bast hx hb hK hP hD hS 1 0 rfl rfl (ka_in (by omega) (by omega)) dX7_four_19 (fun H locs hP hD hS => ?_)
  have hP : va_P D vwCl [(a0, .inr (7, [.ref a1, .int x1, .ref a2, .ref a3, .ref a4, .ref a5, .ref a6, .ref a7, .ref a8, .int x2, .int x3, .int x4, .int x5, .int x6, .int x7, .int x8, .ref a9, .ref a10, .ref a11, .ref a12, .ref a13, .ref a14, .int x9, .int x10, .int x11, .int x12, .int x13, .int x14])), (a1, .inl (k0, 80, .inl (upd f0 (Int32.toNatClampNeg x1) (vp_nar .byte v_22693))))] H := hP
  have hD : va_D A [(a0, .inr (7, [.ref a1, .int x1, .ref a2, .ref a3, .ref a4, .ref a5, .ref a6, .ref a7, .ref a8, .int x2, .int x3, .int x4, .int x5, .int x6, .int x7, .int x8, .ref a9, .ref a10, .ref a11, .ref a12, .ref a13, .ref a14, .int x9, .int x10, .int x11, .int x12, .int x13, .int x14])), (a1, .inl (k0, 80, .inl (upd f0 (Int32.toNatClampNeg x1) (vp_nar .byte v_22693))))] := hD
  have hg_22694 : sb_Fit (upd f0 (Int32.toNatClampNeg x1) (vp_nar .byte v_22693)) := sb_fitU hf0 (kb_nb _)
  generalize (upd f0 (Int32.toNatClampNeg x1) (vp_nar .byte v_22693)) = g_22694 at hP hD hg_22694
  refine lv_aload_n hx hb dX7_four_20 rfl (lv_at hl 1 rfl) ?_
  refine lv_dup hx hb dX7_four_21 rfl ?_
  refine ka_get C lq_269 rfl hK hP 0 rfl 1 (by decide) lq_271 rfl dX7_four_22 ?_
  refine lv_iconst (v := 1) hx hb dX7_four_25 (by decide) ?_
  refine lv_iadd hx hb dX7_four_26 ?_
  refine lv_topi (fun v_22695 ev_22695 => ?_)
  have fv_22695 : v_22695.toInt = x1.toInt + 1 := by rw [ev_22695]; exact ka_add (x := x1.toInt) (y := 1) rfl (by decide) (by omega) (by omega)
  refine ka_put C lq_269 tyX7 tyX7_ok nmX7 rfl hK hP hD hS 0 rfl 1 (by decide) lq_271 rfl rfl rfl (Nat.le_of_ble_eq_true rfl) dX7_four_27 (fun H locs hP hD hS => ?_)
  have hP : va_P D vwCl [(a0, .inr (7, [.ref a1, .int v_22695, .ref a2, .ref a3, .ref a4, .ref a5, .ref a6, .ref a7, .ref a8, .int x2, .int x3, .int x4, .int x5, .int x6, .int x7, .int x8, .ref a9, .ref a10, .ref a11, .ref a12, .ref a13, .ref a14, .int x9, .int x10, .int x11, .int x12, .int x13, .int x14])), (a1, .inl (k0, 80, .inl g_22694))] H := hP
  have hD : va_D A [(a0, .inr (7, [.ref a1, .int v_22695, .ref a2, .ref a3, .ref a4, .ref a5, .ref a6, .ref a7, .ref a8, .int x2, .int x3, .int x4, .int x5, .int x6, .int x7, .int x8, .ref a9, .ref a10, .ref a11, .ref a12, .ref a13, .ref a14, .int x9, .int x10, .int x11, .int x12, .int x13, .int x14])), (a1, .inl (k0, 80, .inl g_22694))] := hD
  refine lv_iinc (v := 16) (lv' := [(2, .int 16), (0, .ref a0), (1, .int x0)]) hx hb dX7_four_30 hl (k := 0) rfl (by decide) (by decide) rfl (fun ls hl => ?_)
  refine lv_goto (tgt := 3) hx hb dX7_four_33 (by decide) ?_
  refine lv_iload_n hx hb dX7_four_3 rfl (lv_at hl 0 rfl) ?_
  refine lv_if_lt (tgt := 36) hx hb dX7_four_4 (by decide) (fun c_ => absurd c_ (by decide)) (fun _ => ?_)
  refine lv_aload_n hx hb dX7_four_7 rfl (lv_at hl 1 rfl) ?_
  refine ka_get C lq_269 rfl hK hP 0 rfl 0 (by decide) lq_270 rfl dX7_four_8 ?_
  refine lv_aload_n hx hb dX7_four_11 rfl (lv_at hl 1 rfl) ?_
  refine ka_get C lq_269 rfl hK hP 0 rfl 1 (by decide) lq_271 rfl dX7_four_12 ?_
  refine lv_iload_n hx hb dX7_four_15 rfl (lv_at hl 2 rfl) ?_
  refine lv_iload_n hx hb dX7_four_16 rfl (lv_at hl 0 rfl) ?_
  refine lv_ishr hx hb dX7_four_17 ?_
  refine lv_topi (fun v_22696 ev_22696 => ?_)
  refine lv_i2b hx hb dX7_four_18 rfl ?_
  refine lv_topi (fun v_22697 ev_22697 => ?_)
  refine va_bast hx hb hK hP hD hS 1 0 rfl rfl (ka_in (by omega) (by omega)) dX7_four_19 (fun H locs hP hD hS => ?_)
  have hP : va_P D vwCl [(a0, .inr (7, [.ref a1, .int v_22695, .ref a2, .ref a3, .ref a4, .ref a5, .ref a6, .ref a7, .ref a8, .int x2, .int x3, .int x4, .int x5, .int x6, .int x7, .int x8, .ref a9, .ref a10, .ref a11, .ref a12, .ref a13, .ref a14, .int x9, .int x10, .int x11, .int x12, .int x13, .int x14])), (a1, .inl (k0, 80, .inl (upd g_22694 (Int32.toNatClampNeg v_22695) (vp_nar .byte v_22697))))] H := hP
  have hD : va_D A [(a0, .inr (7, [.ref a1, .int v_22695, .ref a2, .ref a3, .ref a4, .ref a5, .ref a6, .ref a7, .ref a8, .int x2, .int x3, .int x4, .int x5, .int x6, .int x7, .int x8, .ref a9, .ref a10, .ref a11, .ref a12, .ref a13, .ref a14, .int x9, .int x10, .int x11, .int x12, .int x13, .int x14])), (a1, .inl (k0, 80, .inl (upd g_22694 (Int32.toNatClampNeg v_22695) (vp_nar .byte v_22697))))] := hD
  have hg_22698 : sb_Fit (upd g_22694 (Int32.toNatClampNeg v_22695) (vp_nar .byte v_22697)) := sb_fitU hg_22694 (kb_nb _)
  generalize (upd g_22694 (Int32.toNatClampNeg v_22695) (vp_nar .byte v_22697)) = g_22698 at hP hD hg_22698
  refine lv_aload_n hx hb dX7_four_20 rfl (lv_at hl 1 rfl) ?_
  refine lv_dup hx hb dX7_four_21 rfl ?_
  refine ka_get C lq_269 rfl hK hP 0 rfl 1 (by decide) lq_271 rfl dX7_four_22 ?_
  refine lv_iconst (v := 1) hx hb dX7_four_25 (by decide) ?_
  refine lv_iadd hx hb dX7_four_26 ?_
  refine lv_topi (fun v_22699 ev_22699 => ?_)
  have fv_22699 : v_22699.toInt = v_22695.toInt + 1 := by rw [ev_22699]; exact ka_add (x := v_22695.toInt) (y := 1) rfl (by decide) (by omega) (by omega)
  refine ka_put C lq_269 tyX7 tyX7_ok nmX7 rfl hK hP hD hS 0 rfl 1 (by decide) lq_271 rfl rfl rfl (Nat.le_of_ble_eq_true rfl) dX7_four_27 (fun H locs hP hD hS => ?_)
  have hP : va_P D vwCl [(a0, .inr (7, [.ref a1, .int v_22699, .ref a2, .ref a3, .ref a4, .ref a5, .ref a6, .ref a7, .ref a8, .int x2, .int x3, .int x4, .int x5, .int x6, .int x7, .int x8, .ref a9, .ref a10, .ref a11, .ref a12, .ref a13, .ref a14, .int x9, .int x10, .int x11, .int x12, .int x13, .int x14])), (a1, .inl (k0, 80, .inl g_22698))] H := hP
  have hD : va_D A [(a0, .inr (7, [.ref a1, .int v_22699, .ref a2, .ref a3, .ref a4, .ref a5, .ref a6, .ref a7, .ref a8, .int x2, .int x3, .int x4, .int x5, .int x6, .int x7, .int x8, .ref a9, .ref a10, .ref a11, .ref a12, .ref a13, .ref a14, .int x9, .int x10, .int x11, .int x12, .int x13, .int x14])), (a1, .inl (k0, 80, .inl g_22698))] := hD
  refine lv_iinc (v := 8) (lv' := [(2, .int 8), (0, .ref a0), (1, .int x0)]) hx hb dX7_four_30 hl (k := 0) rfl (by decide) (by decide) rfl (fun ls hl => ?_)
  refine lv_goto (tgt := 3) hx hb dX7_four_33 (by decide) ?_
  refine lv_iload_n hx hb dX7_four_3 rfl (lv_at hl 0 rfl) ?_
  refine lv_if_lt (tgt := 36) hx hb dX7_four_4 (by decide) (fun c_ => absurd c_ (by decide)) (fun _ => ?_)
  refine lv_aload_n hx hb dX7_four_7 rfl (lv_at hl 1 rfl) ?_
  refine ka_get C lq_269 rfl hK hP 0 rfl 0 (by decide) lq_270 rfl dX7_four_8 ?_
  refine lv_aload_n hx hb dX7_four_11 rfl (lv_at hl 1 rfl) ?_
  refine ka_get C lq_269 rfl hK hP 0 rfl 1 (by decide) lq_271 rfl dX7_four_12 ?_
  refine lv_iload_n hx hb dX7_four_15 rfl (lv_at hl 2 rfl) ?_
  refine lv_iload_n hx hb dX7_four_16 rfl (lv_at hl 0 rfl) ?_
  refine lv_ishr hx hb dX7_four_17 ?_
  refine lv_topi (fun v_22700 ev_22700 => ?_)
  refine lv_i2b hx hb dX7_four_18 rfl ?_
  refine lv_topi (fun v_22701 ev_22701 => ?_)
  refine va_bast hx hb hK hP hD hS 1 0 rfl rfl (ka_in (by omega) (by omega)) dX7_four_19 (fun H locs hP hD hS => ?_)
  have hP : va_P D vwCl [(a0, .inr (7, [.ref a1, .int v_22699, .ref a2, .ref a3, .ref a4, .ref a5, .ref a6, .ref a7, .ref a8, .int x2, .int x3, .int x4, .int x5, .int x6, .int x7, .int x8, .ref a9, .ref a10, .ref a11, .ref a12, .ref a13, .ref a14, .int x9, .int x10, .int x11, .int x12, .int x13, .int x14])), (a1, .inl (k0, 80, .inl (upd g_22698 (Int32.toNatClampNeg v_22699) (vp_nar .byte v_22701))))] H := hP
  have hD : va_D A [(a0, .inr (7, [.ref a1, .int v_22699, .ref a2, .ref a3, .ref a4, .ref a5, .ref a6, .ref a7, .ref a8, .int x2, .int x3, .int x4, .int x5, .int x6, .int x7, .int x8, .ref a9, .ref a10, .ref a11, .ref a12, .ref a13, .ref a14, .int x9, .int x10, .int x11, .int x12, .int x13, .int x14])), (a1, .inl (k0, 80, .inl (upd g_22698 (Int32.toNatClampNeg v_22699) (vp_nar .byte v_22701))))] := hD
  have hg_22702 : sb_Fit (upd g_22698 (Int32.toNatClampNeg v_22699) (vp_nar .byte v_22701)) := sb_fitU hg_22698 (kb_nb _)
  generalize (upd g_22698 (Int32.toNatClampNeg v_22699) (vp_nar .byte v_22701)) = g_22702 at hP hD hg_22702
  refine lv_aload_n hx hb dX7_four_20 rfl (lv_at hl 1 rfl) ?_
  refine lv_dup hx hb dX7_four_21 rfl ?_
  refine ka_get C lq_269 rfl hK hP 0 rfl 1 (by decide) lq_271 rfl dX7_four_22 ?_
  refine lv_iconst (v := 1) hx hb dX7_four_25 (by decide) ?_
  refine lv_iadd hx hb dX7_four_26 ?_
  refine lv_topi (fun v_22703 ev_22703 => ?_)
  have fv_22703 : v_22703.toInt = v_22699.toInt + 1 := by rw [ev_22703]; exact ka_add (x := v_22699.toInt) (y := 1) rfl (by decide) (by omega) (by omega)
  refine ka_put C lq_269 tyX7 tyX7_ok nmX7 rfl hK hP hD hS 0 rfl 1 (by decide) lq_271 rfl rfl rfl (Nat.le_of_ble_eq_true rfl) dX7_four_27 (fun H locs hP hD hS => ?_)
  have hP : va_P D vwCl [(a0, .inr (7, [.ref a1, .int v_22703, .ref a2, .ref a3, .ref a4, .ref a5, .ref a6, .ref a7, .ref a8, .int x2, .int x3, .int x4, .int x5, .int x6, .int x7, .int x8, .ref a9, .ref a10, .ref a11, .ref a12, .ref a13, .ref a14, .int x9, .int x10, .int x11, .int x12, .int x13, .int x14])), (a1, .inl (k0, 80, .inl g_22702))] H := hP
  have hD : va_D A [(a0, .inr (7, [.ref a1, .int v_22703, .ref a2, .ref a3, .ref a4, .ref a5, .ref a6, .ref a7, .ref a8, .int x2, .int x3, .int x4, .int x5, .int x6, .int x7, .int x8, .ref a9, .ref a10, .ref a11, .ref a12, .ref a13, .ref a14, .int x9, .int x10, .int x11, .int x12, .int x13, .int x14])), (a1, .inl (k0, 80, .inl g_22702))] := hD
  refine lv_iinc (v := 0) (lv' := [(2, .int 0), (0, .ref a0), (1, .int x0)]) hx hb dX7_four_30 hl (k := 0) rfl (by decide) (by decide) rfl (fun ls hl => ?_)
  refine lv_goto (tgt := 3) hx hb dX7_four_33 (by decide) ?_
  refine lv_iload_n hx hb dX7_four_3 rfl (lv_at hl 0 rfl) ?_
  refine lv_if_lt (tgt := 36) hx hb dX7_four_4 (by decide) (fun c_ => absurd c_ (by decide)) (fun _ => ?_)
  refine lv_aload_n hx hb dX7_four_7 rfl (lv_at hl 1 rfl) ?_
  refine ka_get C lq_269 rfl hK hP 0 rfl 0 (by decide) lq_270 rfl dX7_four_8 ?_
  refine lv_aload_n hx hb dX7_four_11 rfl (lv_at hl 1 rfl) ?_
  refine ka_get C lq_269 rfl hK hP 0 rfl 1 (by decide) lq_271 rfl dX7_four_12 ?_
  refine lv_iload_n hx hb dX7_four_15 rfl (lv_at hl 2 rfl) ?_
  refine lv_iload_n hx hb dX7_four_16 rfl (lv_at hl 0 rfl) ?_
  refine lv_ishr hx hb dX7_four_17 ?_
  refine lv_topi (fun v_22704 ev_22704 => ?_)
  refine lv_i2b hx hb dX7_four_18 rfl ?_
  refine lv_topi (fun v_22705 ev_22705 => ?_)
  refine va_bast hx hb hK hP hD hS 1 0 rfl rfl (ka_in (by omega) (by omega)) dX7_four_19 (fun H locs hP hD hS => ?_)
  have hP : va_P D vwCl [(a0, .inr (7, [.ref a1, .int v_22703, .ref a2, .ref a3, .ref a4, .ref a5, .ref a6, .ref a7, .ref a8, .int x2, .int x3, .int x4, .int x5, .int x6, .int x7, .int x8, .ref a9, .ref a10, .ref a11, .ref a12, .ref a13, .ref a14, .int x9, .int x10, .int x11, .int x12, .int x13, .int x14])), (a1, .inl (k0, 80, .inl (upd g_22702 (Int32.toNatClampNeg v_22703) (vp_nar .byte v_22705))))] H := hP
  have hD : va_D A [(a0, .inr (7, [.ref a1, .int v_22703, .ref a2, .ref a3, .ref a4, .ref a5, .ref a6, .ref a7, .ref a8, .int x2, .int x3, .int x4, .int x5, .int x6, .int x7, .int x8, .ref a9, .ref a10, .ref a11, .ref a12, .ref a13, .ref a14, .int x9, .int x10, .int x11, .int x12, .int x13, .int x14])), (a1, .inl (k0, 80, .inl (upd g_22702 (Int32.toNatClampNeg v_22703) (vp_nar .byte v_22705))))] := hD
  have hg_22706 : sb_Fit (upd g_22702 (Int32.toNatClampNeg v_22703) (vp_nar .byte v_22705)) := sb_fitU hg_22702 (kb_nb _)
  generalize (upd g_22702 (Int32.toNatClampNeg v_22703) (vp_nar .byte v_22705)) = g_22706 at hP hD hg_22706
  refine lv_aload_n hx hb dX7_four_20 rfl (lv_at hl 1 rfl) ?_
  refine lv_dup hx hb dX7_four_21 rfl ?_
  refine ka_get C lq_269 rfl hK hP 0 rfl 1 (by decide) lq_271 rfl dX7_four_22 ?_
  refine lv_iconst (v := 1) hx hb dX7_four_25 (by decide) ?_
  refine lv_iadd hx hb dX7_four_26 ?_
  refine lv_topi (fun v_22707 ev_22707 => ?_)
  have fv_22707 : v_22707.toInt = v_22703.toInt + 1 := by rw [ev_22707]; exact ka_add (x := v_22703.toInt) (y := 1) rfl (by decide) (by omega) (by omega)
  refine ka_put C lq_269 tyX7 tyX7_ok nmX7 rfl hK hP hD hS 0 rfl 1 (by decide) lq_271 rfl rfl rfl (Nat.le_of_ble_eq_true rfl) dX7_four_27 (fun H locs hP hD hS => ?_)
  have hP : va_P D vwCl [(a0, .inr (7, [.ref a1, .int v_22707, .ref a2, .ref a3, .ref a4, .ref a5, .ref a6, .ref a7, .ref a8, .int x2, .int x3, .int x4, .int x5, .int x6, .int x7, .int x8, .ref a9, .ref a10, .ref a11, .ref a12, .ref a13, .ref a14, .int x9, .int x10, .int x11, .int x12, .int x13, .int x14])), (a1, .inl (k0, 80, .inl g_22706))] H := hP
  have hD : va_D A [(a0, .inr (7, [.ref a1, .int v_22707, .ref a2, .ref a3, .ref a4, .ref a5, .ref a6, .ref a7, .ref a8, .int x2, .int x3, .int x4, .int x5, .int x6, .int x7, .int x8, .ref a9, .ref a10, .ref a11, .ref a12, .ref a13, .ref a14, .int x9, .int x10, .int x11, .int x12, .int x13, .int x14])), (a1, .inl (k0, 80, .inl g_22706))] := hD
  refine lv_iinc (v := (-8)) (lv' := [(2, .int (-8)), (0, .ref a0), (1, .int x0)]) hx hb dX7_four_30 hl (k := 0) rfl (by decide) (by decide) rfl (fun ls hl => ?_)
  refine lv_goto (tgt := 3) hx hb dX7_four_33 (by decide) ?_
  refine lv_iload_n hx hb dX7_four_3 rfl (lv_at hl 0 rfl) ?_
  refine lv_if_lt (tgt := 36) hx hb dX7_four_4 (by decide) (fun _ => ?_) (fun c_ => absurd (by decide) c_)
  exact ka_rEv C hr hlk (Nat.le_of_ble_eq_true rfl) (Nat.le_of_ble_eq_true rfl) hS (ka_qE (v_22707, g_22706) rfl ⟨(show 20 ≤ v_22707.toInt ∧ v_22707.toInt ≤ 80 from ⟨by omega, by omega⟩), hg_22706⟩ hK hP hD hS [0, 1] (by decide) rfl [] rfl) dX7_four_36
theorem lq_272 : ∀ w ∈ wsX70, w ∈ wsX7_feed := by decide +kernel
theorem lq_273 : Cond.fieldLink RX7 71 "AskedBackModel" "taped" "I" ∈ wsX7_feed := by decide +kernel
set_option maxHeartbeats 4000000 in
set_option maxRecDepth 100000 in
theorem cg_X7_feed_213 (l : Launch) (D : va_G) (F : Nat → Prop) (a0 : Nat) (x0 : Int32) (x1 : Int32) (x2 : Int32) (x3 : Int32) (x4 : Int32) (a1 : Nat) (x5 : Int32) (a2 : Nat) (a3 : Nat) (a4 : Nat) (a5 : Nat) (a6 : Nat) (a7 : Nat) (a8 : Nat) (x6 : Int32) (x7 : Int32) (x8 : Int32) (x9 : Int32) (x10 : Int32) (x11 : Int32) (x12 : Int32) (a9 : Nat) (a10 : Nat) (a11 : Nat) (a12 : Nat) (a13 : Nat) (a14 : Nat) (x13 : Int32) (x14 : Int32) (x15 : Int32) (x16 : Int32) (x17 : Int32) (x18 : Int32) (k0 : ClassId) (f0 : Nat → Int32) (hx5 : 0 ≤ x5.toInt ∧ x5.toInt ≤ 80) (hx6 : -1 ≤ x6.toInt ∧ x6.toInt ≤ 5) (hx9 : 1 ≤ x9.toInt ∧ x9.toInt ≤ 8) (hx10 : 0 ≤ x10.toInt ∧ x10.toInt ≤ 40) (hx12 : 0 ≤ x12.toInt ∧ x12.toInt ≤ 10) (hx13 : 0 ≤ x13.toInt ∧ x13.toInt ≤ 60) (hx14 : 0 ≤ x14.toInt ∧ x14.toInt ≤ 60) (hx15 : 0 ≤ x15.toInt ∧ x15.toInt ≤ 60) (hx16 : 0 ≤ x16.toInt ∧ x16.toInt ≤ 8) (hx18 : 0 ≤ x18.toInt ∧ x18.toInt ≤ 1) (hf0 : sb_Fit f0) : ka_E l D F yX7_feed wsX7_feed 1 22 0 0 [.ref a0, .int x0, .int x1, .int x2, .int x3, .int x4] [(a0, .inr (7, [.ref a1, .int x5, .ref a2, .ref a3, .ref a4, .ref a5, .ref a6, .ref a7, .ref a8, .int x6, .int x7, .int x8, .int x9, .int x10, .int x11, .int x12, .ref a9, .ref a10, .ref a11, .ref a12, .ref a13, .ref a14, .int x13, .int x14, .int x15, .int x16, .int x17, .int x18])), (a1, .inl (k0, 80, .inl f0))] [(k0, .byte)] (fun (u : (Int32) × (Nat → Int32) × (Int32)) => some (.int (u.2.2))) (fun (u : (Int32) × (Nat → Int32) × (Int32)) => (0 ≤ (u.1).toInt ∧ (u.1).toInt ≤ 80) ∧ (sb_Fit (u.2.1)) ∧ (-1 ≤ (u.2.2).toInt ∧ (u.2.2).toInt ≤ 80)) (fun (u : (Int32) × (Nat → Int32) × (Int32)) => [(a0, .inr (7, [.ref a1, .int (u.1), .ref a2, .ref a3, .ref a4, .ref a5, .ref a6, .ref a7, .ref a8, .int x6, .int x7, .int x8, .int x9, .int x10, .int x11, .int x12, .ref a9, .ref a10, .ref a11, .ref a12, .ref a13, .ref a14, .int x13, .int x14, .int x15, .int x16, .int x17, .int x18])), (a1, .inl (k0, 80, .inl (u.2.1)))]) (fun (u : (Int32) × (Nat → Int32) × (Int32)) => []) := by
  refine ka_E_of (cc := cX7_feed) (maxL := 6) (ret := (some .int)) (by decide) rfl (Nat.le_of_ble_eq_true rfl) ?_
  intro p e s m below meth c ls A C hr hlk hin hP hK hD hS hA hE hN hl
  have C : CallFix p m c cX7_feed 6 s [.ref a0, .int x0, .int x1, .int x2, .int x3, .int x4].toArray wsX7_feed RX7 := C
  obtain ⟨hx, hb, hml, hown, hts⟩ := id C
  have hl : lv_has ls 6 [(0, .ref a0), (1, .int x0), (2, .int x1), (3, .int x2), (4, .int x3), (5, .int x4)] := hl
  have rx0 := ka_rng x0
  have rx1 := ka_rng x1
  have rx2 := ka_rng x2
  have rx3 := ka_rng x3
  have rx4 := ka_rng x4
  have rx5 := ka_rng x5
  have rx6 := ka_rng x6
  have rx7 := ka_rng x7
  have rx8 := ka_rng x8
  have rx9 := ka_rng x9
  have rx10 := ka_rng x10
  have rx11 := ka_rng x11
  have rx12 := ka_rng x12
  have rx13 := ka_rng x13
  have rx14 := ka_rng x14
  have rx15 := ka_rng x15
  have rx16 := ka_rng x16
  have rx17 := ka_rng x17
  have rx18 := ka_rng x18
  refine lv_aload_n hx hb dX7_feed_0 rfl (lv_at hl 0 rfl) ?_
  refine ka_get C lq_272 rfl hK hP 0 rfl 1 (by decide) lq_273 rfl dX7_feed_1 ?_
  refine lv_bipush (v := 20) hx hb dX7_feed_4 (by decide) ?_
  refine lv_iadd hx hb dX7_feed_6 ?_
  refine lv_topi (fun v_22722 ev_22722 => ?_)
  have fv_22722 : v_22722.toInt = x5.toInt + 20 := by rw [ev_22722]; exact ka_add (x := x5.toInt) (y := 20) rfl (by decide) (by omega) (by omega)
  refine lv_bipush (v := 80) hx hb dX7_feed_7 (by decide) ?_
  refine lv_icmp_le (tgt := 14) hx hb dX7_feed_9 (by decide) (fun c_22723 => ?_) (fun c_22723 => ?_)
  · have c_22723 : v_22722.toInt ≤ 80 := by rw [ka_le', show ((80 : Int32)).toInt = 80 from by decide] at c_22723; exact c_22723
    refine lv_aload_n hx hb dX7_feed_14 rfl (lv_at hl 0 rfl) ?_
    refine lv_iload_n hx hb dX7_feed_15 rfl (lv_at hl 1 rfl) ?_
    refine ka_EV (n := 1) (wr := []) C (cg_X7_four_208 l D F a0 x0 a1 x5 a2 a3 a4 a5 a6 a7 a8 x6 x7 x8 x9 x10 x11 x12 a9 a10 a11 a12 a13 a14 x13 x14 x15 x16 x17 x18 k0 f0 ⟨by omega, by omega⟩ ⟨by omega, by omega⟩ ⟨by omega, by omega⟩ ⟨by omega, by omega⟩ ⟨by omega, by omega⟩ ⟨by omega, by omega⟩ ⟨by omega, by omega⟩ ⟨by omega, by omega⟩ ⟨by omega, by omega⟩ ⟨by omega, by omega⟩ hf0) gX7_feed_X7_four rfl (by decide +kernel) ⟨Nat.le_of_ble_eq_true rfl, Nat.le_of_ble_eq_true rfl⟩ hK hP hD hS hA hE hN [0, 1] rfl (by decide) [] rfl (by decide) (by decide) [0] rfl (ci := 7) rfl rfl 0 rfl rfl hl.1 (rest := []) rfl (Nat.le_of_ble_eq_true rfl) dX7_feed_16 ⟨Nat.le_of_ble_eq_true rfl, Nat.le_of_ble_eq_true rfl⟩ (fun u H locs hq hP hD hK hS => ?_)
    obtain ⟨v_22724, g_22725⟩ := u
    have hq : (4 ≤ v_22724.toInt ∧ v_22724.toInt ≤ 64) ∧ (sb_Fit g_22725) := hq
    obtain ⟨hv_22724, hg_22725⟩ := hq
    have rv_22724 := ka_rng v_22724
    have hP : va_P D vwCl [(a0, .inr (7, [.ref a1, .int v_22724, .ref a2, .ref a3, .ref a4, .ref a5, .ref a6, .ref a7, .ref a8, .int x6, .int x7, .int x8, .int x9, .int x10, .int x11, .int x12, .ref a9, .ref a10, .ref a11, .ref a12, .ref a13, .ref a14, .int x13, .int x14, .int x15, .int x16, .int x17, .int x18])), (a1, .inl (k0, 80, .inl g_22725))] H := hP
    have hD : va_D A [(a0, .inr (7, [.ref a1, .int v_22724, .ref a2, .ref a3, .ref a4, .ref a5, .ref a6, .ref a7, .ref a8, .int x6, .int x7, .int x8, .int x9, .int x10, .int x11, .int x12, .ref a9, .ref a10, .ref a11, .ref a12, .ref a13, .ref a14, .int x13, .int x14, .int x15, .int x16, .int x17, .int x18])), (a1, .inl (k0, 80, .inl g_22725))] := hD
    have hK : va_K D vwCl [(k0, .byte)] s := by simpa using hK
    refine ka_stk (w := []) rfl ?_
    refine lv_aload_n hx hb dX7_feed_19 rfl (lv_at hl 0 rfl) ?_
    refine lv_iload_n hx hb dX7_feed_20 rfl (lv_at hl 2 rfl) ?_
    refine ka_EV (n := 1) (wr := []) C (cg_X7_four_209 l D F a0 x1 a1 v_22724 a2 a3 a4 a5 a6 a7 a8 x6 x7 x8 x9 x10 x11 x12 a9 a10 a11 a12 a13 a14 x13 x14 x15 x16 x17 x18 k0 g_22725 ⟨by omega, by omega⟩ ⟨by omega, by omega⟩ ⟨by omega, by omega⟩ ⟨by omega, by omega⟩ ⟨by omega, by omega⟩ ⟨by omega, by omega⟩ ⟨by omega, by omega⟩ ⟨by omega, by omega⟩ ⟨by omega, by omega⟩ ⟨by omega, by omega⟩ hg_22725) gX7_feed_X7_four rfl (by decide +kernel) ⟨Nat.le_of_ble_eq_true rfl, Nat.le_of_ble_eq_true rfl⟩ hK hP hD hS hA hE hN [0, 1] rfl (by decide) [] rfl (by decide) (by decide) [0] rfl (ci := 7) rfl rfl 0 rfl rfl hl.1 (rest := []) rfl (Nat.le_of_ble_eq_true rfl) dX7_feed_21 ⟨Nat.le_of_ble_eq_true rfl, Nat.le_of_ble_eq_true rfl⟩ (fun u H locs hq hP hD hK hS => ?_)
    obtain ⟨v_22726, g_22727⟩ := u
    have hq : (8 ≤ v_22726.toInt ∧ v_22726.toInt ≤ 68) ∧ (sb_Fit g_22727) := hq
    obtain ⟨hv_22726, hg_22727⟩ := hq
    have rv_22726 := ka_rng v_22726
    have hP : va_P D vwCl [(a0, .inr (7, [.ref a1, .int v_22726, .ref a2, .ref a3, .ref a4, .ref a5, .ref a6, .ref a7, .ref a8, .int x6, .int x7, .int x8, .int x9, .int x10, .int x11, .int x12, .ref a9, .ref a10, .ref a11, .ref a12, .ref a13, .ref a14, .int x13, .int x14, .int x15, .int x16, .int x17, .int x18])), (a1, .inl (k0, 80, .inl g_22727))] H := hP
    have hD : va_D A [(a0, .inr (7, [.ref a1, .int v_22726, .ref a2, .ref a3, .ref a4, .ref a5, .ref a6, .ref a7, .ref a8, .int x6, .int x7, .int x8, .int x9, .int x10, .int x11, .int x12, .ref a9, .ref a10, .ref a11, .ref a12, .ref a13, .ref a14, .int x13, .int x14, .int x15, .int x16, .int x17, .int x18])), (a1, .inl (k0, 80, .inl g_22727))] := hD
    have hK : va_K D vwCl [(k0, .byte)] s := by simpa using hK
    refine ka_stk (w := []) rfl ?_
    refine lv_aload_n hx hb dX7_feed_24 rfl (lv_at hl 0 rfl) ?_
    refine lv_iload_n hx hb dX7_feed_25 rfl (lv_at hl 3 rfl) ?_
    refine ka_EV (n := 1) (wr := []) C (cg_X7_four_210 l D F a0 x2 a1 v_22726 a2 a3 a4 a5 a6 a7 a8 x6 x7 x8 x9 x10 x11 x12 a9 a10 a11 a12 a13 a14 x13 x14 x15 x16 x17 x18 k0 g_22727 ⟨by omega, by omega⟩ ⟨by omega, by omega⟩ ⟨by omega, by omega⟩ ⟨by omega, by omega⟩ ⟨by omega, by omega⟩ ⟨by omega, by omega⟩ ⟨by omega, by omega⟩ ⟨by omega, by omega⟩ ⟨by omega, by omega⟩ ⟨by omega, by omega⟩ hg_22727) gX7_feed_X7_four rfl (by decide +kernel) ⟨Nat.le_of_ble_eq_true rfl, Nat.le_of_ble_eq_true rfl⟩ hK hP hD hS hA hE hN [0, 1] rfl (by decide) [] rfl (by decide) (by decide) [0] rfl (ci := 7) rfl rfl 0 rfl rfl hl.1 (rest := []) rfl (Nat.le_of_ble_eq_true rfl) dX7_feed_26 ⟨Nat.le_of_ble_eq_true rfl, Nat.le_of_ble_eq_true rfl⟩ (fun u H locs hq hP hD hK hS => ?_)
    obtain ⟨v_22728, g_22729⟩ := u
    have hq : (12 ≤ v_22728.toInt ∧ v_22728.toInt ≤ 72) ∧ (sb_Fit g_22729) := hq
    obtain ⟨hv_22728, hg_22729⟩ := hq
    have rv_22728 := ka_rng v_22728
    have hP : va_P D vwCl [(a0, .inr (7, [.ref a1, .int v_22728, .ref a2, .ref a3, .ref a4, .ref a5, .ref a6, .ref a7, .ref a8, .int x6, .int x7, .int x8, .int x9, .int x10, .int x11, .int x12, .ref a9, .ref a10, .ref a11, .ref a12, .ref a13, .ref a14, .int x13, .int x14, .int x15, .int x16, .int x17, .int x18])), (a1, .inl (k0, 80, .inl g_22729))] H := hP
    have hD : va_D A [(a0, .inr (7, [.ref a1, .int v_22728, .ref a2, .ref a3, .ref a4, .ref a5, .ref a6, .ref a7, .ref a8, .int x6, .int x7, .int x8, .int x9, .int x10, .int x11, .int x12, .ref a9, .ref a10, .ref a11, .ref a12, .ref a13, .ref a14, .int x13, .int x14, .int x15, .int x16, .int x17, .int x18])), (a1, .inl (k0, 80, .inl g_22729))] := hD
    have hK : va_K D vwCl [(k0, .byte)] s := by simpa using hK
    refine ka_stk (w := []) rfl ?_
    refine lv_aload_n hx hb dX7_feed_29 rfl (lv_at hl 0 rfl) ?_
    refine lv_iload hx hb dX7_feed_30 (lv_at hl 4 rfl) ?_
    refine ka_EV (n := 1) (wr := []) C (cg_X7_four_211 l D F a0 x3 a1 v_22728 a2 a3 a4 a5 a6 a7 a8 x6 x7 x8 x9 x10 x11 x12 a9 a10 a11 a12 a13 a14 x13 x14 x15 x16 x17 x18 k0 g_22729 ⟨by omega, by omega⟩ ⟨by omega, by omega⟩ ⟨by omega, by omega⟩ ⟨by omega, by omega⟩ ⟨by omega, by omega⟩ ⟨by omega, by omega⟩ ⟨by omega, by omega⟩ ⟨by omega, by omega⟩ ⟨by omega, by omega⟩ ⟨by omega, by omega⟩ hg_22729) gX7_feed_X7_four rfl (by decide +kernel) ⟨Nat.le_of_ble_eq_true rfl, Nat.le_of_ble_eq_true rfl⟩ hK hP hD hS hA hE hN [0, 1] rfl (by decide) [] rfl (by decide) (by decide) [0] rfl (ci := 7) rfl rfl 0 rfl rfl hl.1 (rest := []) rfl (Nat.le_of_ble_eq_true rfl) dX7_feed_32 ⟨Nat.le_of_ble_eq_true rfl, Nat.le_of_ble_eq_true rfl⟩ (fun u H locs hq hP hD hK hS => ?_)
    obtain ⟨v_22730, g_22731⟩ := u
    have hq : (16 ≤ v_22730.toInt ∧ v_22730.toInt ≤ 76) ∧ (sb_Fit g_22731) := hq
    obtain ⟨hv_22730, hg_22731⟩ := hq
    have rv_22730 := ka_rng v_22730
    have hP : va_P D vwCl [(a0, .inr (7, [.ref a1, .int v_22730, .ref a2, .ref a3, .ref a4, .ref a5, .ref a6, .ref a7, .ref a8, .int x6, .int x7, .int x8, .int x9, .int x10, .int x11, .int x12, .ref a9, .ref a10, .ref a11, .ref a12, .ref a13, .ref a14, .int x13, .int x14, .int x15, .int x16, .int x17, .int x18])), (a1, .inl (k0, 80, .inl g_22731))] H := hP
    have hD : va_D A [(a0, .inr (7, [.ref a1, .int v_22730, .ref a2, .ref a3, .ref a4, .ref a5, .ref a6, .ref a7, .ref a8, .int x6, .int x7, .int x8, .int x9, .int x10, .int x11, .int x12, .ref a9, .ref a10, .ref a11, .ref a12, .ref a13, .ref a14, .int x13, .int x14, .int x15, .int x16, .int x17, .int x18])), (a1, .inl (k0, 80, .inl g_22731))] := hD
    have hK : va_K D vwCl [(k0, .byte)] s := by simpa using hK
    refine ka_stk (w := []) rfl ?_
    refine lv_aload_n hx hb dX7_feed_35 rfl (lv_at hl 0 rfl) ?_
    refine lv_iload hx hb dX7_feed_36 (lv_at hl 5 rfl) ?_
    refine ka_EV (n := 1) (wr := []) C (cg_X7_four_212 l D F a0 x4 a1 v_22730 a2 a3 a4 a5 a6 a7 a8 x6 x7 x8 x9 x10 x11 x12 a9 a10 a11 a12 a13 a14 x13 x14 x15 x16 x17 x18 k0 g_22731 ⟨by omega, by omega⟩ ⟨by omega, by omega⟩ ⟨by omega, by omega⟩ ⟨by omega, by omega⟩ ⟨by omega, by omega⟩ ⟨by omega, by omega⟩ ⟨by omega, by omega⟩ ⟨by omega, by omega⟩ ⟨by omega, by omega⟩ ⟨by omega, by omega⟩ hg_22731) gX7_feed_X7_four rfl (by decide +kernel) ⟨Nat.le_of_ble_eq_true rfl, Nat.le_of_ble_eq_true rfl⟩ hK hP hD hS hA hE hN [0, 1] rfl (by decide) [] rfl (by decide) (by decide) [0] rfl (ci := 7) rfl rfl 0 rfl rfl hl.1 (rest := []) rfl (Nat.le_of_ble_eq_true rfl) dX7_feed_38 ⟨Nat.le_of_ble_eq_true rfl, Nat.le_of_ble_eq_true rfl⟩ (fun u H locs hq hP hD hK hS => ?_)
    obtain ⟨v_22732, g_22733⟩ := u
    have hq : (20 ≤ v_22732.toInt ∧ v_22732.toInt ≤ 80) ∧ (sb_Fit g_22733) := hq
    obtain ⟨hv_22732, hg_22733⟩ := hq
    have rv_22732 := ka_rng v_22732
    have hP : va_P D vwCl [(a0, .inr (7, [.ref a1, .int v_22732, .ref a2, .ref a3, .ref a4, .ref a5, .ref a6, .ref a7, .ref a8, .int x6, .int x7, .int x8, .int x9, .int x10, .int x11, .int x12, .ref a9, .ref a10, .ref a11, .ref a12, .ref a13, .ref a14, .int x13, .int x14, .int x15, .int x16, .int x17, .int x18])), (a1, .inl (k0, 80, .inl g_22733))] H := hP
    have hD : va_D A [(a0, .inr (7, [.ref a1, .int v_22732, .ref a2, .ref a3, .ref a4, .ref a5, .ref a6, .ref a7, .ref a8, .int x6, .int x7, .int x8, .int x9, .int x10, .int x11, .int x12, .ref a9, .ref a10, .ref a11, .ref a12, .ref a13, .ref a14, .int x13, .int x14, .int x15, .int x16, .int x17, .int x18])), (a1, .inl (k0, 80, .inl g_22733))] := hD
    have hK : va_K D vwCl [(k0, .byte)] s := by simpa using hK
    refine ka_stk (w := []) rfl ?_
    refine lv_aload_n hx hb dX7_feed_41 rfl (lv_at hl 0 rfl) ?_
    refine ka_get C lq_272 rfl hK hP 0 rfl 1 (by decide) lq_273 rfl dX7_feed_42 ?_
    exact ka_rEi C hr hlk (Nat.le_of_ble_eq_true rfl) (Nat.le_of_ble_eq_true rfl) hS (ka_qE (v_22732, g_22733, v_22732) rfl ⟨(show 0 ≤ v_22732.toInt ∧ v_22732.toInt ≤ 80 from ⟨by omega, by omega⟩), hg_22733, (show -1 ≤ v_22732.toInt ∧ v_22732.toInt ≤ 80 from ⟨by omega, by omega⟩)⟩ hK hP hD hS [0, 1] (by decide) rfl [] rfl) dX7_feed_45
  · have c_22723 : ¬ v_22722.toInt ≤ 80 := by rw [ka_le', show ((80 : Int32)).toInt = 80 from by decide] at c_22723; exact c_22723
    refine lv_iconst (v := (-1)) hx hb dX7_feed_12 (by decide) ?_
    exact ka_rEi C hr hlk (Nat.le_of_ble_eq_true rfl) (Nat.le_of_ble_eq_true rfl) hS (ka_qE (x5, f0, (-1)) rfl ⟨(show 0 ≤ x5.toInt ∧ x5.toInt ≤ 80 from ⟨by omega, by omega⟩), hf0, (show -1 ≤ ((-1 : Int32)).toInt ∧ ((-1 : Int32)).toInt ≤ 80 from ⟨by decide, by decide⟩)⟩ hK hP hD hS [0, 1] (by decide) rfl [] rfl) dX7_feed_13
theorem lq_274 : ∀ w ∈ wsX70, w ∈ wsX7_blanks := by decide +kernel
theorem lq_275 : Cond.fieldLink RX7 81 "AskedBackModel" "at" "I" ∈ wsX7_blanks := by decide +kernel
theorem lq_276 : Cond.fieldLink RX7 84 "AskedBackModel" "end" "I" ∈ wsX7_blanks := by decide +kernel
theorem lq_277 : Cond.fieldLink RX7 7 "AskedBackModel" "tape" "[B" ∈ wsX7_blanks := by decide +kernel
set_option maxHeartbeats 4000000 in
set_option maxRecDepth 100000 in
theorem cg_X7_blanks_214 (l : Launch) (D : va_G) (F : Nat → Prop) (a0 : Nat) (a1 : Nat) (x0 : Int32) (a2 : Nat) (a3 : Nat) (a4 : Nat) (a5 : Nat) (a6 : Nat) (a7 : Nat) (a8 : Nat) (x1 : Int32) (x2 : Int32) (x3 : Int32) (x4 : Int32) (x5 : Int32) (x6 : Int32) (x7 : Int32) (a9 : Nat) (a10 : Nat) (a11 : Nat) (a12 : Nat) (a13 : Nat) (a14 : Nat) (x8 : Int32) (x9 : Int32) (x10 : Int32) (x11 : Int32) (x12 : Int32) (x13 : Int32) (k0 : ClassId) (f0 : Nat → Int32) (hx0 : 0 ≤ x0.toInt ∧ x0.toInt ≤ 80) (hx1 : -1 ≤ x1.toInt ∧ x1.toInt ≤ 5) (hx4 : 1 ≤ x4.toInt ∧ x4.toInt ≤ 8) (hx5 : 0 ≤ x5.toInt ∧ x5.toInt ≤ 40) (hx7 : 0 ≤ x7.toInt ∧ x7.toInt ≤ 10) (hx8 : 0 ≤ x8.toInt ∧ x8.toInt ≤ 60) (hx9 : 0 ≤ x9.toInt ∧ x9.toInt ≤ 60) (hx10 : 0 ≤ x10.toInt ∧ x10.toInt ≤ 60) (hx11 : 0 ≤ x11.toInt ∧ x11.toInt ≤ 8) (hx13 : 0 ≤ x13.toInt ∧ x13.toInt ≤ 1) (hf0 : sb_Fit f0) : ka_E l D F yX7_blanks wsX7_blanks 0 0 0 0 [.ref a0] [(a0, .inr (7, [.ref a1, .int x0, .ref a2, .ref a3, .ref a4, .ref a5, .ref a6, .ref a7, .ref a8, .int x1, .int x2, .int x3, .int x4, .int x5, .int x6, .int x7, .ref a9, .ref a10, .ref a11, .ref a12, .ref a13, .ref a14, .int x8, .int x9, .int x10, .int x11, .int x12, .int x13])), (a1, .inl (k0, 80, .inl f0))] [(k0, .byte)] (fun (u : (Int32)) => none) (fun (u : (Int32)) => (0 ≤ u.toInt ∧ u.toInt ≤ 60)) (fun (u : (Int32)) => [(a0, .inr (7, [.ref a1, .int x0, .ref a2, .ref a3, .ref a4, .ref a5, .ref a6, .ref a7, .ref a8, .int x1, .int x2, .int x3, .int x4, .int x5, .int x6, .int x7, .ref a9, .ref a10, .ref a11, .ref a12, .ref a13, .ref a14, .int x8, .int u, .int x10, .int x11, .int x12, .int x13])), (a1, .inl (k0, 80, .inl f0))]) (fun (u : (Int32)) => []) := by
  refine ka_E_of (cc := cX7_blanks) (maxL := 1) (ret := none) (by decide) rfl (Nat.le_of_ble_eq_true rfl) ?_
  intro p e s m below meth c ls A C hr hlk hin hP hK hD hS hA hE hN hl
  have C : CallFix p m c cX7_blanks 1 s [.ref a0].toArray wsX7_blanks RX7 := C
  obtain ⟨hx, hb, hml, hown, hts⟩ := id C
  have hl : lv_has ls 1 [(0, .ref a0)] := hl
  have rx0 := ka_rng x0
  have rx1 := ka_rng x1
  have rx2 := ka_rng x2
  have rx3 := ka_rng x3
  have rx4 := ka_rng x4
  have rx5 := ka_rng x5
  have rx6 := ka_rng x6
  have rx7 := ka_rng x7
  have rx8 := ka_rng x8
  have rx9 := ka_rng x9
  have rx10 := ka_rng x10
  have rx11 := ka_rng x11
  have rx12 := ka_rng x12
  have rx13 := ka_rng x13
  have lp_22816 : ∀ (n : Nat) (y22816_0_23 : Int32), (0 ≤ y22816_0_23.toInt ∧ y22816_0_23.toInt ≤ 60) → (x10.toInt - y22816_0_23.toInt).toNat < n → ∀ (H : Heap) (locs : List Loc), va_P D vwCl [(a0, .inr (7, [.ref a1, .int x0, .ref a2, .ref a3, .ref a4, .ref a5, .ref a6, .ref a7, .ref a8, .int x1, .int x2, .int x3, .int x4, .int x5, .int x6, .int x7, .ref a9, .ref a10, .ref a11, .ref a12, .ref a13, .ref a14, .int x8, .int y22816_0_23, .int x10, .int x11, .int x12, .int x13])), (a1, .inl (k0, 80, .inl f0))] H → va_D A [(a0, .inr (7, [.ref a1, .int x0, .ref a2, .ref a3, .ref a4, .ref a5, .ref a6, .ref a7, .ref a8, .int x1, .int x2, .int x3, .int x4, .int x5, .int x6, .int x7, .ref a9, .ref a10, .ref a11, .ref a12, .ref a13, .ref a14, .int x8, .int y22816_0_23, .int x10, .int x11, .int x12, .int x13])), (a1, .inl (k0, 80, .inl f0))] → va_S A s.heap H locs → ∀ (ls : Array Slot), lv_has ls 1 [(0, .ref a0)] → W p l e ({ frames := 0, cells := 0, slots := 0, locals := 0 }) s m [.ref a0].toArray below meth c H locs 0 0 (MQ below (ka_QE D A (fun (u : (Int32)) => none) (fun (u : (Int32)) => (0 ≤ u.toInt ∧ u.toInt ≤ 60)) (fun (u : (Int32)) => [(a0, .inr (7, [.ref a1, .int x0, .ref a2, .ref a3, .ref a4, .ref a5, .ref a6, .ref a7, .ref a8, .int x1, .int x2, .int x3, .int x4, .int x5, .int x6, .int x7, .ref a9, .ref a10, .ref a11, .ref a12, .ref a13, .ref a14, .int x8, .int u, .int x10, .int x11, .int x12, .int x13])), (a1, .inl (k0, 80, .inl f0))]) (fun (u : (Int32)) => [])) [.ref a0].toArray s 0 0 A) (F0 m 0 ls []) := by
    intro n
    induction n with
    | zero =>
      intro y22816_0_23 hy22816_0_23 hm
      exact absurd hm (Nat.not_lt_zero _)
    | succ n ih_22816 =>
      intro y22816_0_23 hy22816_0_23 hm H locs hP hD hS ls hl
      have ry22816_0_23 := ka_rng y22816_0_23
      refine lv_aload_n hx hb dX7_blanks_0 rfl (lv_at hl 0 rfl) ?_
      refine ka_get C lq_274 rfl hK hP 0 rfl 23 (by decide) lq_275 rfl dX7_blanks_1 ?_
      refine lv_aload_n hx hb dX7_blanks_4 rfl (lv_at hl 0 rfl) ?_
      refine ka_get C lq_274 rfl hK hP 0 rfl 24 (by decide) lq_276 rfl dX7_blanks_5 ?_
      refine lv_icmp_ge (tgt := 52) hx hb dX7_blanks_8 (by decide) (fun c_22824 => ?_) (fun c_22824 => ?_)
      · have c_22824 : x10.toInt ≤ y22816_0_23.toInt := by rw [ka_le'] at c_22824; exact c_22824
        exact ka_rEv C hr hlk (Nat.le_of_ble_eq_true rfl) (Nat.le_of_ble_eq_true rfl) hS (ka_qE y22816_0_23 rfl (show 0 ≤ y22816_0_23.toInt ∧ y22816_0_23.toInt ≤ 60 from ⟨by omega, by omega⟩) hK hP hD hS [0, 1] (by decide) rfl [] rfl) dX7_blanks_52
      · have c_22824 : ¬ x10.toInt ≤ y22816_0_23.toInt := by rw [ka_le'] at c_22824; exact c_22824
        refine lv_aload_n hx hb dX7_blanks_11 rfl (lv_at hl 0 rfl) ?_
        refine ka_get C lq_274 rfl hK hP 0 rfl 0 (by decide) lq_277 rfl dX7_blanks_12 ?_
        refine lv_aload_n hx hb dX7_blanks_15 rfl (lv_at hl 0 rfl) ?_
        refine ka_get C lq_274 rfl hK hP 0 rfl 23 (by decide) lq_275 rfl dX7_blanks_16 ?_
        refine va_bald hx hb hK hP 1 0 rfl rfl (ka_in (by omega) (by omega)) dX7_blanks_19 ?_
        refine lv_topi (fun v_22825 ev_22825 => ?_)
        refine lv_bipush (v := 32) hx hb dX7_blanks_20 (by decide) ?_
        refine lv_icmp_eq (tgt := 39) hx hb dX7_blanks_22 (by decide) (fun c_22826 => ?_) (fun c_22826 => ?_)
        · have c_22826 : v_22825.toInt = 32 := by rw [ka_eq', show ((32 : Int32)).toInt = 32 from by decide] at c_22826; exact c_22826
          refine lv_aload_n hx hb dX7_blanks_39 rfl (lv_at hl 0 rfl) ?_
          refine lv_dup hx hb dX7_blanks_40 rfl ?_
          refine ka_get C lq_274 rfl hK hP 0 rfl 23 (by decide) lq_275 rfl dX7_blanks_41 ?_
          refine lv_iconst (v := 1) hx hb dX7_blanks_44 (by decide) ?_
          refine lv_iadd hx hb dX7_blanks_45 ?_
          refine lv_topi (fun v_22827 ev_22827 => ?_)
          have fv_22827 : v_22827.toInt = y22816_0_23.toInt + 1 := by rw [ev_22827]; exact ka_add (x := y22816_0_23.toInt) (y := 1) rfl (by decide) (by omega) (by omega)
          refine ka_put C lq_274 tyX7 tyX7_ok nmX7 rfl hK hP hD hS 0 rfl 23 (by decide) lq_275 rfl rfl rfl (Nat.le_of_ble_eq_true rfl) dX7_blanks_46 (fun H locs hP hD hS => ?_)
          have hP : va_P D vwCl [(a0, .inr (7, [.ref a1, .int x0, .ref a2, .ref a3, .ref a4, .ref a5, .ref a6, .ref a7, .ref a8, .int x1, .int x2, .int x3, .int x4, .int x5, .int x6, .int x7, .ref a9, .ref a10, .ref a11, .ref a12, .ref a13, .ref a14, .int x8, .int v_22827, .int x10, .int x11, .int x12, .int x13])), (a1, .inl (k0, 80, .inl f0))] H := hP
          have hD : va_D A [(a0, .inr (7, [.ref a1, .int x0, .ref a2, .ref a3, .ref a4, .ref a5, .ref a6, .ref a7, .ref a8, .int x1, .int x2, .int x3, .int x4, .int x5, .int x6, .int x7, .ref a9, .ref a10, .ref a11, .ref a12, .ref a13, .ref a14, .int x8, .int v_22827, .int x10, .int x11, .int x12, .int x13])), (a1, .inl (k0, 80, .inl f0))] := hD
          refine lv_goto (tgt := 0) hx hb dX7_blanks_49 (by decide) ?_
          exact ih_22816 v_22827 ⟨by omega, by omega⟩ (by omega) H locs (hP.sub [0, 1] rfl) (hD.sub [0, 1] (by decide) rfl) hS ls (lv_sub hl [0] rfl)
        · have c_22826 : ¬ v_22825.toInt = 32 := by rw [ka_eq', show ((32 : Int32)).toInt = 32 from by decide] at c_22826; exact c_22826
          refine lv_aload_n hx hb dX7_blanks_25 rfl (lv_at hl 0 rfl) ?_
          refine ka_get C lq_274 rfl hK hP 0 rfl 0 (by decide) lq_277 rfl dX7_blanks_26 ?_
          refine lv_aload_n hx hb dX7_blanks_29 rfl (lv_at hl 0 rfl) ?_
          refine ka_get C lq_274 rfl hK hP 0 rfl 23 (by decide) lq_275 rfl dX7_blanks_30 ?_
          refine va_bald hx hb hK hP 1 0 rfl rfl (ka_in (by omega) (by omega)) dX7_blanks_33 ?_
          refine lv_topi (fun v_22828 ev_22828 => ?_)
          refine lv_bipush (v := 10) hx hb dX7_blanks_34 (by decide) ?_
          refine lv_icmp_ne (tgt := 52) hx hb dX7_blanks_36 (by decide) (fun c_22829 => ?_) (fun c_22829 => ?_)
          · have c_22829 : ¬ v_22828.toInt = 10 := by rw [ka_eq', show ((10 : Int32)).toInt = 10 from by decide] at c_22829; exact c_22829
            exact ka_rEv C hr hlk (Nat.le_of_ble_eq_true rfl) (Nat.le_of_ble_eq_true rfl) hS (ka_qE y22816_0_23 rfl (show 0 ≤ y22816_0_23.toInt ∧ y22816_0_23.toInt ≤ 60 from ⟨by omega, by omega⟩) hK hP hD hS [0, 1] (by decide) rfl [] rfl) dX7_blanks_52
          · have c_22829 : v_22828.toInt = 10 := by rw [ka_eq', show ((10 : Int32)).toInt = 10 from by decide] at c_22829; exact c_22829
            refine lv_aload_n hx hb dX7_blanks_39 rfl (lv_at hl 0 rfl) ?_
            refine lv_dup hx hb dX7_blanks_40 rfl ?_
            refine ka_get C lq_274 rfl hK hP 0 rfl 23 (by decide) lq_275 rfl dX7_blanks_41 ?_
            refine lv_iconst (v := 1) hx hb dX7_blanks_44 (by decide) ?_
            refine lv_iadd hx hb dX7_blanks_45 ?_
            refine lv_topi (fun v_22830 ev_22830 => ?_)
            have fv_22830 : v_22830.toInt = y22816_0_23.toInt + 1 := by rw [ev_22830]; exact ka_add (x := y22816_0_23.toInt) (y := 1) rfl (by decide) (by omega) (by omega)
            refine ka_put C lq_274 tyX7 tyX7_ok nmX7 rfl hK hP hD hS 0 rfl 23 (by decide) lq_275 rfl rfl rfl (Nat.le_of_ble_eq_true rfl) dX7_blanks_46 (fun H locs hP hD hS => ?_)
            have hP : va_P D vwCl [(a0, .inr (7, [.ref a1, .int x0, .ref a2, .ref a3, .ref a4, .ref a5, .ref a6, .ref a7, .ref a8, .int x1, .int x2, .int x3, .int x4, .int x5, .int x6, .int x7, .ref a9, .ref a10, .ref a11, .ref a12, .ref a13, .ref a14, .int x8, .int v_22830, .int x10, .int x11, .int x12, .int x13])), (a1, .inl (k0, 80, .inl f0))] H := hP
            have hD : va_D A [(a0, .inr (7, [.ref a1, .int x0, .ref a2, .ref a3, .ref a4, .ref a5, .ref a6, .ref a7, .ref a8, .int x1, .int x2, .int x3, .int x4, .int x5, .int x6, .int x7, .ref a9, .ref a10, .ref a11, .ref a12, .ref a13, .ref a14, .int x8, .int v_22830, .int x10, .int x11, .int x12, .int x13])), (a1, .inl (k0, 80, .inl f0))] := hD
            refine lv_goto (tgt := 0) hx hb dX7_blanks_49 (by decide) ?_
            exact ih_22816 v_22830 ⟨by omega, by omega⟩ (by omega) H locs (hP.sub [0, 1] rfl) (hD.sub [0, 1] (by decide) rfl) hS ls (lv_sub hl [0] rfl)
  exact lp_22816 _ x9 ⟨by omega, by omega⟩ (Nat.lt_succ_self _) _ _ hP hD hS ls (lv_sub hl [0] rfl)
theorem lq_278 : ∀ w ∈ wsX70, w ∈ wsX7_fault := by decide +kernel
theorem lq_279 : Cond.fieldLink RX7 64 "AskedBackModel" "fault" "I" ∈ wsX7_fault := by decide +kernel
set_option maxHeartbeats 4000000 in
set_option maxRecDepth 100000 in
theorem cg_X7_fault_215 (l : Launch) (D : va_G) (F : Nat → Prop) (a0 : Nat) (a1 : Nat) (x0 : Int32) (a2 : Nat) (a3 : Nat) (a4 : Nat) (a5 : Nat) (a6 : Nat) (a7 : Nat) (a8 : Nat) (x1 : Int32) (x2 : Int32) (x3 : Int32) (x4 : Int32) (x5 : Int32) (x6 : Int32) (x7 : Int32) (a9 : Nat) (a10 : Nat) (a11 : Nat) (a12 : Nat) (a13 : Nat) (a14 : Nat) (x8 : Int32) (x9 : Int32) (x10 : Int32) (x11 : Int32) (x12 : Int32) (x13 : Int32) (hx0 : 0 ≤ x0.toInt ∧ x0.toInt ≤ 80) (hx1 : -1 ≤ x1.toInt ∧ x1.toInt ≤ 5) (hx4 : 1 ≤ x4.toInt ∧ x4.toInt ≤ 8) (hx5 : 0 ≤ x5.toInt ∧ x5.toInt ≤ 40) (hx7 : 0 ≤ x7.toInt ∧ x7.toInt ≤ 10) (hx8 : 0 ≤ x8.toInt ∧ x8.toInt ≤ 60) (hx9 : 0 ≤ x9.toInt ∧ x9.toInt ≤ 60) (hx10 : 0 ≤ x10.toInt ∧ x10.toInt ≤ 60) (hx11 : 0 ≤ x11.toInt ∧ x11.toInt ≤ 8) (hx13 : 0 ≤ x13.toInt ∧ x13.toInt ≤ 1) : ka_R l D F yX7_fault wsX7_fault 0 0 [.ref a0] [(a0, .inr (7, [.ref a1, .int x0, .ref a2, .ref a3, .ref a4, .ref a5, .ref a6, .ref a7, .ref a8, .int x1, .int x2, .int x3, .int x4, .int x5, .int x6, .int x7, .ref a9, .ref a10, .ref a11, .ref a12, .ref a13, .ref a14, .int x8, .int x9, .int x10, .int x11, .int x12, .int x13]))] [] (fun v => v = some (.int x12)) := by
  refine ka_R_of (cc := cX7_fault) (maxL := 1) (ret := (some .int)) (by decide) rfl (Nat.le_of_ble_eq_true rfl) ?_
  intro p e s m below meth c ls C hr hlk hP hK hE hN hl
  have hS : va_S (fun _ => False) s.heap s.heap [] := va_S.rf
  have C : CallFix p m c cX7_fault 1 s [.ref a0].toArray wsX7_fault RX7 := C
  obtain ⟨hx, hb, hml, hown, hts⟩ := id C
  have hl : lv_has ls 1 [(0, .ref a0)] := hl
  have rx0 := ka_rng x0
  have rx1 := ka_rng x1
  have rx2 := ka_rng x2
  have rx3 := ka_rng x3
  have rx4 := ka_rng x4
  have rx5 := ka_rng x5
  have rx6 := ka_rng x6
  have rx7 := ka_rng x7
  have rx8 := ka_rng x8
  have rx9 := ka_rng x9
  have rx10 := ka_rng x10
  have rx11 := ka_rng x11
  have rx12 := ka_rng x12
  have rx13 := ka_rng x13
  refine lv_aload_n hx hb dX7_fault_0 rfl (lv_at hl 0 rfl) ?_
  refine ka_get C lq_278 rfl hK hP 0 rfl 26 (by decide) lq_279 rfl dX7_fault_1 ?_
  exact ka_rRi C hr hlk rfl dX7_fault_4
set_option maxHeartbeats 4000000 in
set_option maxRecDepth 100000 in
theorem cg_X7_isIn_216 (l : Launch) (D : va_G) (F : Nat → Prop) (x0 : Int32) (hx0 : x0.toInt ≤ -1) : ka_R l D F yX7_isIn wsX7_isIn 0 0 [.int x0, .int 0, .int 5] [] [] (fun v => v = some (.int 0)) := by
  refine ka_R_of (cc := cX7_isIn) (maxL := 3) (ret := (some .boolean)) (by decide) rfl (Nat.le_of_ble_eq_true rfl) ?_
  intro p e s m below meth c ls C hr hlk hP hK hE hN hl
  have hS : va_S (fun _ => False) s.heap s.heap [] := va_S.rf
  have C : CallFix p m c cX7_isIn 3 s [.int x0, .int 0, .int 5].toArray wsX7_isIn RX7 := C
  obtain ⟨hx, hb, hml, hown, hts⟩ := id C
  have hl : lv_has ls 3 [(0, .int x0), (1, .int 0), (2, .int 5)] := hl
  have rx0 := ka_rng x0
  refine lv_iload_n hx hb dX7_isIn_0 rfl (lv_at hl 0 rfl) ?_
  refine lv_iload_n hx hb dX7_isIn_1 rfl (lv_at hl 1 rfl) ?_
  refine lv_icmp_lt (tgt := 14) hx hb dX7_isIn_2 (by decide) (fun _ => ?_) (fun c_ => absurd (by rw [ka_lt', show ((0 : Int32)).toInt = 0 from by decide]; omega) c_)
  refine lv_iconst (v := 0) hx hb dX7_isIn_14 (by decide) ?_
  exact ka_rRz C hr hlk rfl rfl dX7_isIn_15
set_option maxHeartbeats 4000000 in
set_option maxRecDepth 100000 in
theorem cg_X7_isIn_218 (l : Launch) (D : va_G) (F : Nat → Prop) (x0 : Int32) (hx0 : x0.toInt ≤ -1) : ka_R l D F yX7_isIn wsX7_isIn 0 0 [.int x0, .int 0, .int 5] [] [] (fun v => v = some (.int 0)) := by
  refine ka_R_of (cc := cX7_isIn) (maxL := 3) (ret := (some .boolean)) (by decide) rfl (Nat.le_of_ble_eq_true rfl) ?_
  intro p e s m below meth c ls C hr hlk hP hK hE hN hl
  have hS : va_S (fun _ => False) s.heap s.heap [] := va_S.rf
  have C : CallFix p m c cX7_isIn 3 s [.int x0, .int 0, .int 5].toArray wsX7_isIn RX7 := C
  obtain ⟨hx, hb, hml, hown, hts⟩ := id C
  have hl : lv_has ls 3 [(0, .int x0), (1, .int 0), (2, .int 5)] := hl
  have rx0 := ka_rng x0
  refine lv_iload_n hx hb dX7_isIn_0 rfl (lv_at hl 0 rfl) ?_
  refine lv_iload_n hx hb dX7_isIn_1 rfl (lv_at hl 1 rfl) ?_
  refine lv_icmp_lt (tgt := 14) hx hb dX7_isIn_2 (by decide) (fun _ => ?_) (fun c_ => absurd (by rw [ka_lt', show ((0 : Int32)).toInt = 0 from by decide]; omega) c_)
  refine lv_iconst (v := 0) hx hb dX7_isIn_14 (by decide) ?_
  exact ka_rRz C hr hlk rfl rfl dX7_isIn_15
set_option maxHeartbeats 4000000 in
set_option maxRecDepth 100000 in
theorem cg_X7_isLesson_217 (l : Launch) (D : va_G) (F : Nat → Prop) (x0 : Int32) (hx0 : x0.toInt ≤ -1) : ka_R l D F yX7_isLesson wsX7_isLesson 1 22 [.int x0] [] [] (fun v => v = some (.int 0)) := by
  refine ka_R_of (cc := cX7_isLesson) (maxL := 1) (ret := (some .boolean)) (by decide) rfl (Nat.le_of_ble_eq_true rfl) ?_
  intro p e s m below meth c ls C hr hlk hP hK hE hN hl
  have hS : va_S (fun _ => False) s.heap s.heap [] := va_S.rf
  have C : CallFix p m c cX7_isLesson 1 s [.int x0].toArray wsX7_isLesson RX7 := C
  obtain ⟨hx, hb, hml, hown, hts⟩ := id C
  have hl : lv_has ls 1 [(0, .int x0)] := hl
  have rx0 := ka_rng x0
  refine lv_iload_n hx hb dX7_isLesson_0 rfl (lv_at hl 0 rfl) ?_
  refine lv_iconst (v := 0) hx hb dX7_isLesson_1 (by decide) ?_
  refine lv_iconst (v := 5) hx hb dX7_isLesson_2 (by decide) ?_
  refine ka_RS (n := 3) C (cg_X7_isIn_218 l D F x0 (by omega)) gX7_isLesson_X7_isIn rfl (by decide +kernel) ⟨Nat.le_of_ble_eq_true rfl, Nat.le_of_ble_eq_true rfl⟩ hK hP hS hE hN [] rfl [] rfl rfl hl.1 (rest := []) rfl (Nat.le_of_ble_eq_true rfl) dX7_isLesson_3 ⟨Nat.le_of_ble_eq_true rfl, Nat.le_of_ble_eq_true rfl⟩ (fun v hv => ?_)
  subst hv
  refine ka_stk (w := [.int 0]) rfl ?_
  exact ka_rRz C hr hlk rfl rfl dX7_isLesson_6
set_option maxHeartbeats 4000000 in
set_option maxRecDepth 100000 in
theorem cg_X7_isIn_219 (l : Launch) (D : va_G) (F : Nat → Prop) (x0 : Int32) (hx0 : 0 ≤ x0.toInt ∧ x0.toInt ≤ 5) : ka_R l D F yX7_isIn wsX7_isIn 0 0 [.int x0, .int 0, .int 5] [] [] (fun v => v = some (.int 1)) := by
  refine ka_R_of (cc := cX7_isIn) (maxL := 3) (ret := (some .boolean)) (by decide) rfl (Nat.le_of_ble_eq_true rfl) ?_
  intro p e s m below meth c ls C hr hlk hP hK hE hN hl
  have hS : va_S (fun _ => False) s.heap s.heap [] := va_S.rf
  have C : CallFix p m c cX7_isIn 3 s [.int x0, .int 0, .int 5].toArray wsX7_isIn RX7 := C
  obtain ⟨hx, hb, hml, hown, hts⟩ := id C
  have hl : lv_has ls 3 [(0, .int x0), (1, .int 0), (2, .int 5)] := hl
  have rx0 := ka_rng x0
  refine lv_iload_n hx hb dX7_isIn_0 rfl (lv_at hl 0 rfl) ?_
  refine lv_iload_n hx hb dX7_isIn_1 rfl (lv_at hl 1 rfl) ?_
  refine lv_icmp_lt (tgt := 14) hx hb dX7_isIn_2 (by decide) (fun c_ => absurd c_ (by rw [ka_lt', show ((0 : Int32)).toInt = 0 from by decide]; omega)) (fun _ => ?_)
  refine lv_iload_n hx hb dX7_isIn_5 rfl (lv_at hl 0 rfl) ?_
  refine lv_iload_n hx hb dX7_isIn_6 rfl (lv_at hl 2 rfl) ?_
  refine lv_icmp_gt (tgt := 14) hx hb dX7_isIn_7 (by decide) (fun c_ => absurd c_ (by rw [ka_lt', show ((5 : Int32)).toInt = 5 from by decide]; omega)) (fun _ => ?_)
  refine lv_iconst (v := 1) hx hb dX7_isIn_10 (by decide) ?_
  refine lv_goto (tgt := 15) hx hb dX7_isIn_11 (by decide) ?_
  exact ka_rRz C hr hlk rfl rfl dX7_isIn_15
set_option maxHeartbeats 4000000 in
set_option maxRecDepth 100000 in
theorem cg_X7_isIn_221 (l : Launch) (D : va_G) (F : Nat → Prop) (x0 : Int32) (hx0 : 0 ≤ x0.toInt ∧ x0.toInt ≤ 5) : ka_R l D F yX7_isIn wsX7_isIn 0 0 [.int x0, .int 0, .int 5] [] [] (fun v => v = some (.int 1)) := by
  refine ka_R_of (cc := cX7_isIn) (maxL := 3) (ret := (some .boolean)) (by decide) rfl (Nat.le_of_ble_eq_true rfl) ?_
  intro p e s m below meth c ls C hr hlk hP hK hE hN hl
  have hS : va_S (fun _ => False) s.heap s.heap [] := va_S.rf
  have C : CallFix p m c cX7_isIn 3 s [.int x0, .int 0, .int 5].toArray wsX7_isIn RX7 := C
  obtain ⟨hx, hb, hml, hown, hts⟩ := id C
  have hl : lv_has ls 3 [(0, .int x0), (1, .int 0), (2, .int 5)] := hl
  have rx0 := ka_rng x0
  refine lv_iload_n hx hb dX7_isIn_0 rfl (lv_at hl 0 rfl) ?_
  refine lv_iload_n hx hb dX7_isIn_1 rfl (lv_at hl 1 rfl) ?_
  refine lv_icmp_lt (tgt := 14) hx hb dX7_isIn_2 (by decide) (fun c_ => absurd c_ (by rw [ka_lt', show ((0 : Int32)).toInt = 0 from by decide]; omega)) (fun _ => ?_)
  refine lv_iload_n hx hb dX7_isIn_5 rfl (lv_at hl 0 rfl) ?_
  refine lv_iload_n hx hb dX7_isIn_6 rfl (lv_at hl 2 rfl) ?_
  refine lv_icmp_gt (tgt := 14) hx hb dX7_isIn_7 (by decide) (fun c_ => absurd c_ (by rw [ka_lt', show ((5 : Int32)).toInt = 5 from by decide]; omega)) (fun _ => ?_)
  refine lv_iconst (v := 1) hx hb dX7_isIn_10 (by decide) ?_
  refine lv_goto (tgt := 15) hx hb dX7_isIn_11 (by decide) ?_
  exact ka_rRz C hr hlk rfl rfl dX7_isIn_15
set_option maxHeartbeats 4000000 in
set_option maxRecDepth 100000 in
theorem cg_X7_isLesson_220 (l : Launch) (D : va_G) (F : Nat → Prop) (x0 : Int32) (hx0 : 0 ≤ x0.toInt ∧ x0.toInt ≤ 5) : ka_R l D F yX7_isLesson wsX7_isLesson 1 22 [.int x0] [] [] (fun v => v = some (.int 1)) := by
  refine ka_R_of (cc := cX7_isLesson) (maxL := 1) (ret := (some .boolean)) (by decide) rfl (Nat.le_of_ble_eq_true rfl) ?_
  intro p e s m below meth c ls C hr hlk hP hK hE hN hl
  have hS : va_S (fun _ => False) s.heap s.heap [] := va_S.rf
  have C : CallFix p m c cX7_isLesson 1 s [.int x0].toArray wsX7_isLesson RX7 := C
  obtain ⟨hx, hb, hml, hown, hts⟩ := id C
  have hl : lv_has ls 1 [(0, .int x0)] := hl
  have rx0 := ka_rng x0
  refine lv_iload_n hx hb dX7_isLesson_0 rfl (lv_at hl 0 rfl) ?_
  refine lv_iconst (v := 0) hx hb dX7_isLesson_1 (by decide) ?_
  refine lv_iconst (v := 5) hx hb dX7_isLesson_2 (by decide) ?_
  refine ka_RS (n := 3) C (cg_X7_isIn_221 l D F x0 ⟨by omega, by omega⟩) gX7_isLesson_X7_isIn rfl (by decide +kernel) ⟨Nat.le_of_ble_eq_true rfl, Nat.le_of_ble_eq_true rfl⟩ hK hP hS hE hN [] rfl [] rfl rfl hl.1 (rest := []) rfl (Nat.le_of_ble_eq_true rfl) dX7_isLesson_3 ⟨Nat.le_of_ble_eq_true rfl, Nat.le_of_ble_eq_true rfl⟩ (fun v hv => ?_)
  subst hv
  refine ka_stk (w := [.int 1]) rfl ?_
  exact ka_rRz C hr hlk rfl rfl dX7_isLesson_6
set_option maxHeartbeats 4000000 in
set_option maxRecDepth 100000 in
theorem cg_X7_isIn_222 (l : Launch) (D : va_G) (F : Nat → Prop) (x0 : Int32) (x1 : Int32) (hx0 : x0.toInt ≤ -2) (hx1 : -1 ≤ x1.toInt ∧ x1.toInt ≤ 11) : ka_R l D F yX7_isIn wsX7_isIn 0 0 [.int x0, .int 0, .int x1] [] [] (fun v => v = some (.int 0)) := by
  refine ka_R_of (cc := cX7_isIn) (maxL := 3) (ret := (some .boolean)) (by decide) rfl (Nat.le_of_ble_eq_true rfl) ?_
  intro p e s m below meth c ls C hr hlk hP hK hE hN hl
  have hS : va_S (fun _ => False) s.heap s.heap [] := va_S.rf
  have C : CallFix p m c cX7_isIn 3 s [.int x0, .int 0, .int x1].toArray wsX7_isIn RX7 := C
  obtain ⟨hx, hb, hml, hown, hts⟩ := id C
  have hl : lv_has ls 3 [(0, .int x0), (1, .int 0), (2, .int x1)] := hl
  have rx0 := ka_rng x0
  have rx1 := ka_rng x1
  refine lv_iload_n hx hb dX7_isIn_0 rfl (lv_at hl 0 rfl) ?_
  refine lv_iload_n hx hb dX7_isIn_1 rfl (lv_at hl 1 rfl) ?_
  refine lv_icmp_lt (tgt := 14) hx hb dX7_isIn_2 (by decide) (fun _ => ?_) (fun c_ => absurd (by rw [ka_lt', show ((0 : Int32)).toInt = 0 from by decide]; omega) c_)
  refine lv_iconst (v := 0) hx hb dX7_isIn_14 (by decide) ?_
  exact ka_rRz C hr hlk rfl rfl dX7_isIn_15
set_option maxHeartbeats 4000000 in
set_option maxRecDepth 100000 in
theorem cg_X7_isIn_223 (l : Launch) (D : va_G) (F : Nat → Prop) (x0 : Int32) (x1 : Int32) (hx0 : 0 ≤ x0.toInt ∧ x0.toInt ≤ 11) (hx1 : -1 ≤ x1.toInt ∧ x1.toInt ≤ 11) : ka_R l D F yX7_isIn wsX7_isIn 0 0 [.int x0, .int 0, .int x1] [] [] (fun v => ∃ x : Int32, v = some (.int x) ∧ 0 ≤ x.toInt ∧ x.toInt ≤ 1) := by
  refine ka_R_of (cc := cX7_isIn) (maxL := 3) (ret := (some .boolean)) (by decide) rfl (Nat.le_of_ble_eq_true rfl) ?_
  intro p e s m below meth c ls C hr hlk hP hK hE hN hl
  have hS : va_S (fun _ => False) s.heap s.heap [] := va_S.rf
  have C : CallFix p m c cX7_isIn 3 s [.int x0, .int 0, .int x1].toArray wsX7_isIn RX7 := C
  obtain ⟨hx, hb, hml, hown, hts⟩ := id C
  have hl : lv_has ls 3 [(0, .int x0), (1, .int 0), (2, .int x1)] := hl
  have rx0 := ka_rng x0
  have rx1 := ka_rng x1
  refine lv_iload_n hx hb dX7_isIn_0 rfl (lv_at hl 0 rfl) ?_
  refine lv_iload_n hx hb dX7_isIn_1 rfl (lv_at hl 1 rfl) ?_
  refine lv_icmp_lt (tgt := 14) hx hb dX7_isIn_2 (by decide) (fun c_ => absurd c_ (by rw [ka_lt', show ((0 : Int32)).toInt = 0 from by decide]; omega)) (fun _ => ?_)
  refine lv_iload_n hx hb dX7_isIn_5 rfl (lv_at hl 0 rfl) ?_
  refine lv_iload_n hx hb dX7_isIn_6 rfl (lv_at hl 2 rfl) ?_
  refine lv_icmp_gt (tgt := 14) hx hb dX7_isIn_7 (by decide) (fun c_23063 => ?_) (fun c_23063 => ?_)
  · have c_23063 : x1.toInt < x0.toInt := by rw [ka_lt'] at c_23063; exact c_23063
    refine lv_iconst (v := 0) hx hb dX7_isIn_14 (by decide) ?_
    exact ka_rRz C hr hlk rfl ⟨_, rfl, ⟨by decide, by decide⟩⟩ dX7_isIn_15
  · have c_23063 : ¬ x1.toInt < x0.toInt := by rw [ka_lt'] at c_23063; exact c_23063
    refine lv_iconst (v := 1) hx hb dX7_isIn_10 (by decide) ?_
    refine lv_goto (tgt := 15) hx hb dX7_isIn_11 (by decide) ?_
    exact ka_rRz C hr hlk rfl ⟨_, rfl, ⟨by decide, by decide⟩⟩ dX7_isIn_15
set_option maxHeartbeats 4000000 in
set_option maxRecDepth 100000 in
theorem cg_X7_pictureAt_224 (l : Launch) (D : va_G) (F : Nat → Prop) (x0 : Int32) (x1 : Int32) (hx0 : 0 ≤ x0.toInt ∧ x0.toInt ≤ 5) (hx1 : 0 ≤ x1.toInt ∧ x1.toInt ≤ 11) : ka_R l D F yX7_pictureAt wsX7_pictureAt 0 0 [.int x0, .int x1] [] [] (fun v => ∃ x : Int32, v = some (.int x) ∧ 6 ≤ x.toInt ∧ x.toInt ≤ 77) := by
  refine ka_R_of (cc := cX7_pictureAt) (maxL := 2) (ret := (some .int)) (by decide) rfl (Nat.le_of_ble_eq_true rfl) ?_
  intro p e s m below meth c ls C hr hlk hP hK hE hN hl
  have hS : va_S (fun _ => False) s.heap s.heap [] := va_S.rf
  have C : CallFix p m c cX7_pictureAt 2 s [.int x0, .int x1].toArray wsX7_pictureAt RX7 := C
  obtain ⟨hx, hb, hml, hown, hts⟩ := id C
  have hl : lv_has ls 2 [(0, .int x0), (1, .int x1)] := hl
  have rx0 := ka_rng x0
  have rx1 := ka_rng x1
  refine lv_bipush (v := 6) hx hb dX7_pictureAt_0 (by decide) ?_
  refine lv_bipush (v := 12) hx hb dX7_pictureAt_2 (by decide) ?_
  refine lv_iload_n hx hb dX7_pictureAt_4 rfl (lv_at hl 0 rfl) ?_
  refine lv_imul hx hb dX7_pictureAt_5 ?_
  refine lv_topi (fun v_23100 ev_23100 => ?_)
  have fv_23100 : v_23100.toInt = 12 * x0.toInt := by rw [ev_23100]; exact ka_mul (x := 12) (y := x0.toInt) (by decide) rfl (by omega) (by omega)
  refine lv_iadd hx hb dX7_pictureAt_6 ?_
  refine lv_topi (fun v_23101 ev_23101 => ?_)
  have fv_23101 : v_23101.toInt = 6 + v_23100.toInt := by rw [ev_23101]; exact ka_add (x := 6) (y := v_23100.toInt) (by decide) rfl (by omega) (by omega)
  refine lv_iload_n hx hb dX7_pictureAt_7 rfl (lv_at hl 1 rfl) ?_
  refine lv_iadd hx hb dX7_pictureAt_8 ?_
  refine lv_topi (fun v_23102 ev_23102 => ?_)
  have fv_23102 : v_23102.toInt = v_23101.toInt + x1.toInt := by rw [ev_23102]; exact ka_add (x := v_23101.toInt) (y := x1.toInt) rfl rfl (by omega) (by omega)
  exact ka_rRi C hr hlk ⟨_, rfl, ⟨by omega, by omega⟩⟩ dX7_pictureAt_9
set_option maxHeartbeats 4000000 in
set_option maxRecDepth 100000 in
theorem cg_X7_isIn_225 (l : Launch) (D : va_G) (F : Nat → Prop) (x0 : Int32) (x1 : Int32) (hx0 : 12 ≤ x0.toInt) (hx1 : -1 ≤ x1.toInt ∧ x1.toInt ≤ 11) : ka_R l D F yX7_isIn wsX7_isIn 0 0 [.int x0, .int 0, .int x1] [] [] (fun v => v = some (.int 0)) := by
  refine ka_R_of (cc := cX7_isIn) (maxL := 3) (ret := (some .boolean)) (by decide) rfl (Nat.le_of_ble_eq_true rfl) ?_
  intro p e s m below meth c ls C hr hlk hP hK hE hN hl
  have hS : va_S (fun _ => False) s.heap s.heap [] := va_S.rf
  have C : CallFix p m c cX7_isIn 3 s [.int x0, .int 0, .int x1].toArray wsX7_isIn RX7 := C
  obtain ⟨hx, hb, hml, hown, hts⟩ := id C
  have hl : lv_has ls 3 [(0, .int x0), (1, .int 0), (2, .int x1)] := hl
  have rx0 := ka_rng x0
  have rx1 := ka_rng x1
  refine lv_iload_n hx hb dX7_isIn_0 rfl (lv_at hl 0 rfl) ?_
  refine lv_iload_n hx hb dX7_isIn_1 rfl (lv_at hl 1 rfl) ?_
  refine lv_icmp_lt (tgt := 14) hx hb dX7_isIn_2 (by decide) (fun c_ => absurd c_ (by rw [ka_lt', show ((0 : Int32)).toInt = 0 from by decide]; omega)) (fun _ => ?_)
  refine lv_iload_n hx hb dX7_isIn_5 rfl (lv_at hl 0 rfl) ?_
  refine lv_iload_n hx hb dX7_isIn_6 rfl (lv_at hl 2 rfl) ?_
  refine lv_icmp_gt (tgt := 14) hx hb dX7_isIn_7 (by decide) (fun _ => ?_) (fun c_ => absurd (by rw [ka_lt']; omega) c_)
  refine lv_iconst (v := 0) hx hb dX7_isIn_14 (by decide) ?_
  exact ka_rRz C hr hlk rfl rfl dX7_isIn_15
set_option maxHeartbeats 4000000 in
set_option maxRecDepth 100000 in
theorem cg_X7_isIn_226 (l : Launch) (D : va_G) (F : Nat → Prop) (x0 : Int32) (hx0 : 6 ≤ x0.toInt) : ka_R l D F yX7_isIn wsX7_isIn 0 0 [.int x0, .int 0, .int 5] [] [] (fun v => v = some (.int 0)) := by
  refine ka_R_of (cc := cX7_isIn) (maxL := 3) (ret := (some .boolean)) (by decide) rfl (Nat.le_of_ble_eq_true rfl) ?_
  intro p e s m below meth c ls C hr hlk hP hK hE hN hl
  have hS : va_S (fun _ => False) s.heap s.heap [] := va_S.rf
  have C : CallFix p m c cX7_isIn 3 s [.int x0, .int 0, .int 5].toArray wsX7_isIn RX7 := C
  obtain ⟨hx, hb, hml, hown, hts⟩ := id C
  have hl : lv_has ls 3 [(0, .int x0), (1, .int 0), (2, .int 5)] := hl
  have rx0 := ka_rng x0
  refine lv_iload_n hx hb dX7_isIn_0 rfl (lv_at hl 0 rfl) ?_
  refine lv_iload_n hx hb dX7_isIn_1 rfl (lv_at hl 1 rfl) ?_
  refine lv_icmp_lt (tgt := 14) hx hb dX7_isIn_2 (by decide) (fun c_ => absurd c_ (by rw [ka_lt', show ((0 : Int32)).toInt = 0 from by decide]; omega)) (fun _ => ?_)
  refine lv_iload_n hx hb dX7_isIn_5 rfl (lv_at hl 0 rfl) ?_
  refine lv_iload_n hx hb dX7_isIn_6 rfl (lv_at hl 2 rfl) ?_
  refine lv_icmp_gt (tgt := 14) hx hb dX7_isIn_7 (by decide) (fun _ => ?_) (fun c_ => absurd (by rw [ka_lt', show ((5 : Int32)).toInt = 5 from by decide]; omega) c_)
  refine lv_iconst (v := 0) hx hb dX7_isIn_14 (by decide) ?_
  exact ka_rRz C hr hlk rfl rfl dX7_isIn_15
set_option maxHeartbeats 4000000 in
set_option maxRecDepth 100000 in
theorem cg_X7_isIn_228 (l : Launch) (D : va_G) (F : Nat → Prop) (x0 : Int32) (hx0 : 6 ≤ x0.toInt) : ka_R l D F yX7_isIn wsX7_isIn 0 0 [.int x0, .int 0, .int 5] [] [] (fun v => v = some (.int 0)) := by
  refine ka_R_of (cc := cX7_isIn) (maxL := 3) (ret := (some .boolean)) (by decide) rfl (Nat.le_of_ble_eq_true rfl) ?_
  intro p e s m below meth c ls C hr hlk hP hK hE hN hl
  have hS : va_S (fun _ => False) s.heap s.heap [] := va_S.rf
  have C : CallFix p m c cX7_isIn 3 s [.int x0, .int 0, .int 5].toArray wsX7_isIn RX7 := C
  obtain ⟨hx, hb, hml, hown, hts⟩ := id C
  have hl : lv_has ls 3 [(0, .int x0), (1, .int 0), (2, .int 5)] := hl
  have rx0 := ka_rng x0
  refine lv_iload_n hx hb dX7_isIn_0 rfl (lv_at hl 0 rfl) ?_
  refine lv_iload_n hx hb dX7_isIn_1 rfl (lv_at hl 1 rfl) ?_
  refine lv_icmp_lt (tgt := 14) hx hb dX7_isIn_2 (by decide) (fun c_ => absurd c_ (by rw [ka_lt', show ((0 : Int32)).toInt = 0 from by decide]; omega)) (fun _ => ?_)
  refine lv_iload_n hx hb dX7_isIn_5 rfl (lv_at hl 0 rfl) ?_
  refine lv_iload_n hx hb dX7_isIn_6 rfl (lv_at hl 2 rfl) ?_
  refine lv_icmp_gt (tgt := 14) hx hb dX7_isIn_7 (by decide) (fun _ => ?_) (fun c_ => absurd (by rw [ka_lt', show ((5 : Int32)).toInt = 5 from by decide]; omega) c_)
  refine lv_iconst (v := 0) hx hb dX7_isIn_14 (by decide) ?_
  exact ka_rRz C hr hlk rfl rfl dX7_isIn_15
set_option maxHeartbeats 4000000 in
set_option maxRecDepth 100000 in
theorem cg_X7_isLesson_227 (l : Launch) (D : va_G) (F : Nat → Prop) (x0 : Int32) (hx0 : 6 ≤ x0.toInt) : ka_R l D F yX7_isLesson wsX7_isLesson 1 22 [.int x0] [] [] (fun v => v = some (.int 0)) := by
  refine ka_R_of (cc := cX7_isLesson) (maxL := 1) (ret := (some .boolean)) (by decide) rfl (Nat.le_of_ble_eq_true rfl) ?_
  intro p e s m below meth c ls C hr hlk hP hK hE hN hl
  have hS : va_S (fun _ => False) s.heap s.heap [] := va_S.rf
  have C : CallFix p m c cX7_isLesson 1 s [.int x0].toArray wsX7_isLesson RX7 := C
  obtain ⟨hx, hb, hml, hown, hts⟩ := id C
  have hl : lv_has ls 1 [(0, .int x0)] := hl
  have rx0 := ka_rng x0
  refine lv_iload_n hx hb dX7_isLesson_0 rfl (lv_at hl 0 rfl) ?_
  refine lv_iconst (v := 0) hx hb dX7_isLesson_1 (by decide) ?_
  refine lv_iconst (v := 5) hx hb dX7_isLesson_2 (by decide) ?_
  refine ka_RS (n := 3) C (cg_X7_isIn_228 l D F x0 (by omega)) gX7_isLesson_X7_isIn rfl (by decide +kernel) ⟨Nat.le_of_ble_eq_true rfl, Nat.le_of_ble_eq_true rfl⟩ hK hP hS hE hN [] rfl [] rfl rfl hl.1 (rest := []) rfl (Nat.le_of_ble_eq_true rfl) dX7_isLesson_3 ⟨Nat.le_of_ble_eq_true rfl, Nat.le_of_ble_eq_true rfl⟩ (fun v hv => ?_)
  subst hv
  refine ka_stk (w := [.int 0]) rfl ?_
  exact ka_rRz C hr hlk rfl rfl dX7_isLesson_6
theorem lq_280 : ∀ w ∈ wsX70, w ∈ wsX7_formula := by decide +kernel
theorem lq_281 : Cond.fieldLink RX7 33 "AskedBackModel" "pictures" "[I" ∈ wsX7_formula := by decide +kernel
theorem lq_282 : Cond.fieldLink RX7 23 "AskedBackModel" "hasLaw" "[Z" ∈ wsX7_formula := by decide +kernel
set_option maxHeartbeats 4000000 in
set_option maxRecDepth 100000 in
theorem cg_X7_formula_229 (l : Launch) (D : va_G) (F : Nat → Prop) (a0 : Nat) (x0 : Int32) (x1 : Int32) (a1 : Nat) (x2 : Int32) (a2 : Nat) (a3 : Nat) (a4 : Nat) (a5 : Nat) (a6 : Nat) (a7 : Nat) (a8 : Nat) (x3 : Int32) (x4 : Int32) (x5 : Int32) (x6 : Int32) (x7 : Int32) (x8 : Int32) (x9 : Int32) (a9 : Nat) (a10 : Nat) (a11 : Nat) (a12 : Nat) (a13 : Nat) (a14 : Nat) (x10 : Int32) (x11 : Int32) (x12 : Int32) (x13 : Int32) (x14 : Int32) (x15 : Int32) (k0 : ClassId) (f0 : Nat → Int32) (k1 : ClassId) (f1 : Nat → Int32) (hx2 : 0 ≤ x2.toInt ∧ x2.toInt ≤ 80) (hx3 : -1 ≤ x3.toInt ∧ x3.toInt ≤ 5) (hx6 : 1 ≤ x6.toInt ∧ x6.toInt ≤ 8) (hx7 : 0 ≤ x7.toInt ∧ x7.toInt ≤ 40) (hx9 : 0 ≤ x9.toInt ∧ x9.toInt ≤ 10) (hx10 : 0 ≤ x10.toInt ∧ x10.toInt ≤ 60) (hx11 : 0 ≤ x11.toInt ∧ x11.toInt ≤ 60) (hx12 : 0 ≤ x12.toInt ∧ x12.toInt ≤ 60) (hx13 : 0 ≤ x13.toInt ∧ x13.toInt ≤ 8) (hx15 : 0 ≤ x15.toInt ∧ x15.toInt ≤ 1) (hf1 : ∀ j : Nat, 0 ≤ (f1 j).toInt ∧ (f1 j).toInt ≤ 12) : ka_R l D F yX7_formula wsX7_formula 2 42 [.ref a0, .int x0, .int x1] [(a0, .inr (7, [.ref a1, .int x2, .ref a2, .ref a3, .ref a4, .ref a5, .ref a6, .ref a7, .ref a8, .int x3, .int x4, .int x5, .int x6, .int x7, .int x8, .int x9, .ref a9, .ref a10, .ref a11, .ref a12, .ref a13, .ref a14, .int x10, .int x11, .int x12, .int x13, .int x14, .int x15])), (a5, .inl (k0, 6, .inl f0)), (a8, .inl (k1, 6, .inl f1))] [(k0, .boolean), (k1, .int)] (fun v => ∃ x : Int32, v = some (.int x) ∧ -1 ≤ x.toInt ∧ x.toInt ≤ 77) := by
  refine ka_R_of (cc := cX7_formula) (maxL := 3) (ret := (some .int)) (by decide) rfl (Nat.le_of_ble_eq_true rfl) ?_
  intro p e s m below meth c ls C hr hlk hP hK hE hN hl
  have hS : va_S (fun _ => False) s.heap s.heap [] := va_S.rf
  have C : CallFix p m c cX7_formula 3 s [.ref a0, .int x0, .int x1].toArray wsX7_formula RX7 := C
  obtain ⟨hx, hb, hml, hown, hts⟩ := id C
  have hl : lv_has ls 3 [(0, .ref a0), (1, .int x0), (2, .int x1)] := hl
  have rx0 := ka_rng x0
  have rx1 := ka_rng x1
  have rx2 := ka_rng x2
  have rx3 := ka_rng x3
  have rx4 := ka_rng x4
  have rx5 := ka_rng x5
  have rx6 := ka_rng x6
  have rx7 := ka_rng x7
  have rx8 := ka_rng x8
  have rx9 := ka_rng x9
  have rx10 := ka_rng x10
  have rx11 := ka_rng x11
  have rx12 := ka_rng x12
  have rx13 := ka_rng x13
  have rx14 := ka_rng x14
  have rx15 := ka_rng x15
  rcases (show x0.toInt ≤ -1 ∨ (0 ≤ x0.toInt ∧ x0.toInt ≤ 5) ∨ 6 ≤ x0.toInt by omega) with y_23201 | y_23201 | y_23201
  · skip
    rcases (show x1.toInt ≤ -2 ∨ x1.toInt = -1 ∨ (0 ≤ x1.toInt ∧ x1.toInt ≤ 11) ∨ 12 ≤ x1.toInt by omega) with y_23202 | y_23202 | y_23202 | y_23202
    · skip
      refine lv_iload_n hx hb dX7_formula_0 rfl (lv_at hl 1 rfl) ?_
      refine ka_RS (n := 1) C (cg_X7_isLesson_217 l D F x0 (by omega)) gX7_formula_X7_isLesson rfl (by decide +kernel) ⟨Nat.le_of_ble_eq_true rfl, Nat.le_of_ble_eq_true rfl⟩ hK hP hS hE hN [] rfl [] rfl rfl hl.1 (rest := []) rfl (Nat.le_of_ble_eq_true rfl) dX7_formula_1 ⟨Nat.le_of_ble_eq_true rfl, Nat.le_of_ble_eq_true rfl⟩ (fun v hv => ?_)
      subst hv
      refine ka_stk (w := [.int 0]) rfl ?_
      refine lv_if_ne (tgt := 9) hx hb dX7_formula_4 (by decide) (fun c_ => absurd (by decide) c_) (fun _ => ?_)
      refine lv_iconst (v := (-1)) hx hb dX7_formula_7 (by decide) ?_
      exact ka_rRi C hr hlk ⟨_, rfl, ⟨by decide, by decide⟩⟩ dX7_formula_8
    · obtain rfl : x1 = (-1) := (ka_eq' _ _).mpr (y_23202.trans (by decide))
      refine lv_iload_n hx hb dX7_formula_0 rfl (lv_at hl 1 rfl) ?_
      refine ka_RS (n := 1) C (cg_X7_isLesson_217 l D F x0 (by omega)) gX7_formula_X7_isLesson rfl (by decide +kernel) ⟨Nat.le_of_ble_eq_true rfl, Nat.le_of_ble_eq_true rfl⟩ hK hP hS hE hN [] rfl [] rfl rfl hl.1 (rest := []) rfl (Nat.le_of_ble_eq_true rfl) dX7_formula_1 ⟨Nat.le_of_ble_eq_true rfl, Nat.le_of_ble_eq_true rfl⟩ (fun v hv => ?_)
      subst hv
      refine ka_stk (w := [.int 0]) rfl ?_
      refine lv_if_ne (tgt := 9) hx hb dX7_formula_4 (by decide) (fun c_ => absurd (by decide) c_) (fun _ => ?_)
      refine lv_iconst (v := (-1)) hx hb dX7_formula_7 (by decide) ?_
      exact ka_rRi C hr hlk ⟨_, rfl, ⟨by decide, by decide⟩⟩ dX7_formula_8
    · skip
      refine lv_iload_n hx hb dX7_formula_0 rfl (lv_at hl 1 rfl) ?_
      refine ka_RS (n := 1) C (cg_X7_isLesson_217 l D F x0 (by omega)) gX7_formula_X7_isLesson rfl (by decide +kernel) ⟨Nat.le_of_ble_eq_true rfl, Nat.le_of_ble_eq_true rfl⟩ hK hP hS hE hN [] rfl [] rfl rfl hl.1 (rest := []) rfl (Nat.le_of_ble_eq_true rfl) dX7_formula_1 ⟨Nat.le_of_ble_eq_true rfl, Nat.le_of_ble_eq_true rfl⟩ (fun v hv => ?_)
      subst hv
      refine ka_stk (w := [.int 0]) rfl ?_
      refine lv_if_ne (tgt := 9) hx hb dX7_formula_4 (by decide) (fun c_ => absurd (by decide) c_) (fun _ => ?_)
      refine lv_iconst (v := (-1)) hx hb dX7_formula_7 (by decide) ?_
      exact ka_rRi C hr hlk ⟨_, rfl, ⟨by decide, by decide⟩⟩ dX7_formula_8
    · skip
      refine lv_iload_n hx hb dX7_formula_0 rfl (lv_at hl 1 rfl) ?_
      refine ka_RS (n := 1) C (cg_X7_isLesson_217 l D F x0 (by omega)) gX7_formula_X7_isLesson rfl (by decide +kernel) ⟨Nat.le_of_ble_eq_true rfl, Nat.le_of_ble_eq_true rfl⟩ hK hP hS hE hN [] rfl [] rfl rfl hl.1 (rest := []) rfl (Nat.le_of_ble_eq_true rfl) dX7_formula_1 ⟨Nat.le_of_ble_eq_true rfl, Nat.le_of_ble_eq_true rfl⟩ (fun v hv => ?_)
      subst hv
      refine ka_stk (w := [.int 0]) rfl ?_
      refine lv_if_ne (tgt := 9) hx hb dX7_formula_4 (by decide) (fun c_ => absurd (by decide) c_) (fun _ => ?_)
      refine lv_iconst (v := (-1)) hx hb dX7_formula_7 (by decide) ?_
      exact ka_rRi C hr hlk ⟨_, rfl, ⟨by decide, by decide⟩⟩ dX7_formula_8
  · skip
    rcases (show x1.toInt ≤ -2 ∨ x1.toInt = -1 ∨ (0 ≤ x1.toInt ∧ x1.toInt ≤ 11) ∨ 12 ≤ x1.toInt by omega) with y_23203 | y_23203 | y_23203 | y_23203
    · skip
      refine lv_iload_n hx hb dX7_formula_0 rfl (lv_at hl 1 rfl) ?_
      refine ka_RS (n := 1) C (cg_X7_isLesson_220 l D F x0 ⟨by omega, by omega⟩) gX7_formula_X7_isLesson rfl (by decide +kernel) ⟨Nat.le_of_ble_eq_true rfl, Nat.le_of_ble_eq_true rfl⟩ hK hP hS hE hN [] rfl [] rfl rfl hl.1 (rest := []) rfl (Nat.le_of_ble_eq_true rfl) dX7_formula_1 ⟨Nat.le_of_ble_eq_true rfl, Nat.le_of_ble_eq_true rfl⟩ (fun v hv => ?_)
      subst hv
      refine ka_stk (w := [.int 1]) rfl ?_
      refine lv_if_ne (tgt := 9) hx hb dX7_formula_4 (by decide) (fun _ => ?_) (fun c_ => absurd c_ (by decide))
      refine lv_iload_n hx hb dX7_formula_9 rfl (lv_at hl 2 rfl) ?_
      refine lv_iconst (v := (-1)) hx hb dX7_formula_10 (by decide) ?_
      refine lv_icmp_ne (tgt := 29) hx hb dX7_formula_11 (by decide) (fun _ => ?_) (fun c_ => absurd c_ (show ¬ x1 = (-1) from by rw [ka_eq', show ((-1 : Int32)).toInt = -1 from by decide]; omega))
      refine lv_iload_n hx hb dX7_formula_29 rfl (lv_at hl 2 rfl) ?_
      refine lv_iconst (v := 0) hx hb dX7_formula_30 (by decide) ?_
      refine lv_aload_n hx hb dX7_formula_31 rfl (lv_at hl 0 rfl) ?_
      refine ka_get C lq_280 rfl hK hP 0 rfl 8 (by decide) lq_281 rfl dX7_formula_32 ?_
      refine lv_iload_n hx hb dX7_formula_35 rfl (lv_at hl 1 rfl) ?_
      refine va_iald hx hb hK hP 2 1 rfl rfl (ka_in (by omega) (by omega)) dX7_formula_36 ?_
      refine lv_topi (fun v_23204 ev_23204 => ?_)
      have hv_23204 := hf1 (Int32.toNatClampNeg x0); rw [← ev_23204] at hv_23204
      refine lv_iconst (v := 1) hx hb dX7_formula_37 (by decide) ?_
      refine lv_isub hx hb dX7_formula_38 ?_
      refine lv_topi (fun v_23205 ev_23205 => ?_)
      have fv_23205 : v_23205.toInt = v_23204.toInt - 1 := by rw [ev_23205]; exact ka_sub (x := v_23204.toInt) (y := 1) rfl (by decide) (by omega) (by omega)
      refine ka_RS (n := 3) C (cg_X7_isIn_222 l D F x1 v_23205 (by omega) ⟨by omega, by omega⟩) gX7_formula_X7_isIn rfl (by decide +kernel) ⟨Nat.le_of_ble_eq_true rfl, Nat.le_of_ble_eq_true rfl⟩ hK hP hS hE hN [] rfl [] rfl rfl hl.1 (rest := []) rfl (Nat.le_of_ble_eq_true rfl) dX7_formula_39 ⟨Nat.le_of_ble_eq_true rfl, Nat.le_of_ble_eq_true rfl⟩ (fun v hv => ?_)
      subst hv
      refine ka_stk (w := [.int 0]) rfl ?_
      refine lv_if_eq (tgt := 53) hx hb dX7_formula_42 (by decide) (fun _ => ?_) (fun c_ => absurd (by decide) c_)
      refine lv_iconst (v := (-1)) hx hb dX7_formula_53 (by decide) ?_
      exact ka_rRi C hr hlk ⟨_, rfl, ⟨by decide, by decide⟩⟩ dX7_formula_54
    · obtain rfl : x1 = (-1) := (ka_eq' _ _).mpr (y_23203.trans (by decide))
      refine lv_iload_n hx hb dX7_formula_0 rfl (lv_at hl 1 rfl) ?_
      refine ka_RS (n := 1) C (cg_X7_isLesson_220 l D F x0 ⟨by omega, by omega⟩) gX7_formula_X7_isLesson rfl (by decide +kernel) ⟨Nat.le_of_ble_eq_true rfl, Nat.le_of_ble_eq_true rfl⟩ hK hP hS hE hN [] rfl [] rfl rfl hl.1 (rest := []) rfl (Nat.le_of_ble_eq_true rfl) dX7_formula_1 ⟨Nat.le_of_ble_eq_true rfl, Nat.le_of_ble_eq_true rfl⟩ (fun v hv => ?_)
      subst hv
      refine ka_stk (w := [.int 1]) rfl ?_
      refine lv_if_ne (tgt := 9) hx hb dX7_formula_4 (by decide) (fun _ => ?_) (fun c_ => absurd c_ (by decide))
      refine lv_iload_n hx hb dX7_formula_9 rfl (lv_at hl 2 rfl) ?_
      refine lv_iconst (v := (-1)) hx hb dX7_formula_10 (by decide) ?_
      refine lv_icmp_ne (tgt := 29) hx hb dX7_formula_11 (by decide) (fun c_ => absurd (by decide) c_) (fun _ => ?_)
      refine lv_aload_n hx hb dX7_formula_14 rfl (lv_at hl 0 rfl) ?_
      refine ka_get C lq_280 rfl hK hP 0 rfl 5 (by decide) lq_282 rfl dX7_formula_15 ?_
      refine lv_iload_n hx hb dX7_formula_18 rfl (lv_at hl 1 rfl) ?_
      refine va_zald hx hb hK hP 1 0 rfl rfl (ka_in (by omega) (by omega)) dX7_formula_19 ?_
      refine lv_topi (fun v_23206 ev_23206 => ?_)
      refine lv_if_eq (tgt := 27) hx hb dX7_formula_20 (by decide) (fun c_23207 => ?_) (fun c_23207 => ?_)
      · have c_23207 : v_23206.toInt = 0 := by rw [ka_eq', show ((0 : Int32)).toInt = 0 from by decide] at c_23207; exact c_23207
        refine lv_iconst (v := (-1)) hx hb dX7_formula_27 (by decide) ?_
        exact ka_rRi C hr hlk ⟨_, rfl, ⟨by decide, by decide⟩⟩ dX7_formula_28
      · have c_23207 : ¬ v_23206.toInt = 0 := by rw [ka_eq', show ((0 : Int32)).toInt = 0 from by decide] at c_23207; exact c_23207
        refine lv_iload_n hx hb dX7_formula_23 rfl (lv_at hl 1 rfl) ?_
        refine lv_goto (tgt := 28) hx hb dX7_formula_24 (by decide) ?_
        exact ka_rRi C hr hlk ⟨_, rfl, ⟨by omega, by omega⟩⟩ dX7_formula_28
    · skip
      refine lv_iload_n hx hb dX7_formula_0 rfl (lv_at hl 1 rfl) ?_
      refine ka_RS (n := 1) C (cg_X7_isLesson_220 l D F x0 ⟨by omega, by omega⟩) gX7_formula_X7_isLesson rfl (by decide +kernel) ⟨Nat.le_of_ble_eq_true rfl, Nat.le_of_ble_eq_true rfl⟩ hK hP hS hE hN [] rfl [] rfl rfl hl.1 (rest := []) rfl (Nat.le_of_ble_eq_true rfl) dX7_formula_1 ⟨Nat.le_of_ble_eq_true rfl, Nat.le_of_ble_eq_true rfl⟩ (fun v hv => ?_)
      subst hv
      refine ka_stk (w := [.int 1]) rfl ?_
      refine lv_if_ne (tgt := 9) hx hb dX7_formula_4 (by decide) (fun _ => ?_) (fun c_ => absurd c_ (by decide))
      refine lv_iload_n hx hb dX7_formula_9 rfl (lv_at hl 2 rfl) ?_
      refine lv_iconst (v := (-1)) hx hb dX7_formula_10 (by decide) ?_
      refine lv_icmp_ne (tgt := 29) hx hb dX7_formula_11 (by decide) (fun _ => ?_) (fun c_ => absurd c_ (show ¬ x1 = (-1) from by rw [ka_eq', show ((-1 : Int32)).toInt = -1 from by decide]; omega))
      refine lv_iload_n hx hb dX7_formula_29 rfl (lv_at hl 2 rfl) ?_
      refine lv_iconst (v := 0) hx hb dX7_formula_30 (by decide) ?_
      refine lv_aload_n hx hb dX7_formula_31 rfl (lv_at hl 0 rfl) ?_
      refine ka_get C lq_280 rfl hK hP 0 rfl 8 (by decide) lq_281 rfl dX7_formula_32 ?_
      refine lv_iload_n hx hb dX7_formula_35 rfl (lv_at hl 1 rfl) ?_
      refine va_iald hx hb hK hP 2 1 rfl rfl (ka_in (by omega) (by omega)) dX7_formula_36 ?_
      refine lv_topi (fun v_23208 ev_23208 => ?_)
      have hv_23208 := hf1 (Int32.toNatClampNeg x0); rw [← ev_23208] at hv_23208
      refine lv_iconst (v := 1) hx hb dX7_formula_37 (by decide) ?_
      refine lv_isub hx hb dX7_formula_38 ?_
      refine lv_topi (fun v_23209 ev_23209 => ?_)
      have fv_23209 : v_23209.toInt = v_23208.toInt - 1 := by rw [ev_23209]; exact ka_sub (x := v_23208.toInt) (y := 1) rfl (by decide) (by omega) (by omega)
      refine ka_RS (n := 3) C (cg_X7_isIn_223 l D F x1 v_23209 ⟨by omega, by omega⟩ ⟨by omega, by omega⟩) gX7_formula_X7_isIn rfl (by decide +kernel) ⟨Nat.le_of_ble_eq_true rfl, Nat.le_of_ble_eq_true rfl⟩ hK hP hS hE hN [] rfl [] rfl rfl hl.1 (rest := []) rfl (Nat.le_of_ble_eq_true rfl) dX7_formula_39 ⟨Nat.le_of_ble_eq_true rfl, Nat.le_of_ble_eq_true rfl⟩ (fun v hv => ?_)
      obtain ⟨v_23210, rfl, hv_23210⟩ := hv
      have rv_23210 := ka_rng v_23210
      refine ka_stk (w := [.int v_23210]) rfl ?_
      refine lv_if_eq (tgt := 53) hx hb dX7_formula_42 (by decide) (fun c_23211 => ?_) (fun c_23211 => ?_)
      · have c_23211 : v_23210.toInt = 0 := by rw [ka_eq', show ((0 : Int32)).toInt = 0 from by decide] at c_23211; exact c_23211
        refine lv_iconst (v := (-1)) hx hb dX7_formula_53 (by decide) ?_
        exact ka_rRi C hr hlk ⟨_, rfl, ⟨by decide, by decide⟩⟩ dX7_formula_54
      · have c_23211 : ¬ v_23210.toInt = 0 := by rw [ka_eq', show ((0 : Int32)).toInt = 0 from by decide] at c_23211; exact c_23211
        refine lv_iload_n hx hb dX7_formula_45 rfl (lv_at hl 1 rfl) ?_
        refine lv_iload_n hx hb dX7_formula_46 rfl (lv_at hl 2 rfl) ?_
        refine ka_RS (n := 2) C (cg_X7_pictureAt_224 l D F x0 x1 ⟨by omega, by omega⟩ ⟨by omega, by omega⟩) gX7_formula_X7_pictureAt rfl (by decide +kernel) ⟨Nat.le_of_ble_eq_true rfl, Nat.le_of_ble_eq_true rfl⟩ hK hP hS hE hN [] rfl [] rfl rfl hl.1 (rest := []) rfl (Nat.le_of_ble_eq_true rfl) dX7_formula_47 ⟨Nat.le_of_ble_eq_true rfl, Nat.le_of_ble_eq_true rfl⟩ (fun v hv => ?_)
        obtain ⟨v_23212, rfl, hv_23212⟩ := hv
        have rv_23212 := ka_rng v_23212
        refine ka_stk (w := [.int v_23212]) rfl ?_
        refine lv_goto (tgt := 54) hx hb dX7_formula_50 (by decide) ?_
        exact ka_rRi C hr hlk ⟨_, rfl, ⟨by omega, by omega⟩⟩ dX7_formula_54
    · skip
      refine lv_iload_n hx hb dX7_formula_0 rfl (lv_at hl 1 rfl) ?_
      refine ka_RS (n := 1) C (cg_X7_isLesson_220 l D F x0 ⟨by omega, by omega⟩) gX7_formula_X7_isLesson rfl (by decide +kernel) ⟨Nat.le_of_ble_eq_true rfl, Nat.le_of_ble_eq_true rfl⟩ hK hP hS hE hN [] rfl [] rfl rfl hl.1 (rest := []) rfl (Nat.le_of_ble_eq_true rfl) dX7_formula_1 ⟨Nat.le_of_ble_eq_true rfl, Nat.le_of_ble_eq_true rfl⟩ (fun v hv => ?_)
      subst hv
      refine ka_stk (w := [.int 1]) rfl ?_
      refine lv_if_ne (tgt := 9) hx hb dX7_formula_4 (by decide) (fun _ => ?_) (fun c_ => absurd c_ (by decide))
      refine lv_iload_n hx hb dX7_formula_9 rfl (lv_at hl 2 rfl) ?_
      refine lv_iconst (v := (-1)) hx hb dX7_formula_10 (by decide) ?_
      refine lv_icmp_ne (tgt := 29) hx hb dX7_formula_11 (by decide) (fun _ => ?_) (fun c_ => absurd c_ (show ¬ x1 = (-1) from by rw [ka_eq', show ((-1 : Int32)).toInt = -1 from by decide]; omega))
      refine lv_iload_n hx hb dX7_formula_29 rfl (lv_at hl 2 rfl) ?_
      refine lv_iconst (v := 0) hx hb dX7_formula_30 (by decide) ?_
      refine lv_aload_n hx hb dX7_formula_31 rfl (lv_at hl 0 rfl) ?_
      refine ka_get C lq_280 rfl hK hP 0 rfl 8 (by decide) lq_281 rfl dX7_formula_32 ?_
      refine lv_iload_n hx hb dX7_formula_35 rfl (lv_at hl 1 rfl) ?_
      refine va_iald hx hb hK hP 2 1 rfl rfl (ka_in (by omega) (by omega)) dX7_formula_36 ?_
      refine lv_topi (fun v_23213 ev_23213 => ?_)
      have hv_23213 := hf1 (Int32.toNatClampNeg x0); rw [← ev_23213] at hv_23213
      refine lv_iconst (v := 1) hx hb dX7_formula_37 (by decide) ?_
      refine lv_isub hx hb dX7_formula_38 ?_
      refine lv_topi (fun v_23214 ev_23214 => ?_)
      have fv_23214 : v_23214.toInt = v_23213.toInt - 1 := by rw [ev_23214]; exact ka_sub (x := v_23213.toInt) (y := 1) rfl (by decide) (by omega) (by omega)
      refine ka_RS (n := 3) C (cg_X7_isIn_225 l D F x1 v_23214 (by omega) ⟨by omega, by omega⟩) gX7_formula_X7_isIn rfl (by decide +kernel) ⟨Nat.le_of_ble_eq_true rfl, Nat.le_of_ble_eq_true rfl⟩ hK hP hS hE hN [] rfl [] rfl rfl hl.1 (rest := []) rfl (Nat.le_of_ble_eq_true rfl) dX7_formula_39 ⟨Nat.le_of_ble_eq_true rfl, Nat.le_of_ble_eq_true rfl⟩ (fun v hv => ?_)
      subst hv
      refine ka_stk (w := [.int 0]) rfl ?_
      refine lv_if_eq (tgt := 53) hx hb dX7_formula_42 (by decide) (fun _ => ?_) (fun c_ => absurd (by decide) c_)
      refine lv_iconst (v := (-1)) hx hb dX7_formula_53 (by decide) ?_
      exact ka_rRi C hr hlk ⟨_, rfl, ⟨by decide, by decide⟩⟩ dX7_formula_54
  · skip
    rcases (show x1.toInt ≤ -2 ∨ x1.toInt = -1 ∨ (0 ≤ x1.toInt ∧ x1.toInt ≤ 11) ∨ 12 ≤ x1.toInt by omega) with y_23215 | y_23215 | y_23215 | y_23215
    · skip
      refine lv_iload_n hx hb dX7_formula_0 rfl (lv_at hl 1 rfl) ?_
      refine ka_RS (n := 1) C (cg_X7_isLesson_227 l D F x0 (by omega)) gX7_formula_X7_isLesson rfl (by decide +kernel) ⟨Nat.le_of_ble_eq_true rfl, Nat.le_of_ble_eq_true rfl⟩ hK hP hS hE hN [] rfl [] rfl rfl hl.1 (rest := []) rfl (Nat.le_of_ble_eq_true rfl) dX7_formula_1 ⟨Nat.le_of_ble_eq_true rfl, Nat.le_of_ble_eq_true rfl⟩ (fun v hv => ?_)
      subst hv
      refine ka_stk (w := [.int 0]) rfl ?_
      refine lv_if_ne (tgt := 9) hx hb dX7_formula_4 (by decide) (fun c_ => absurd (by decide) c_) (fun _ => ?_)
      refine lv_iconst (v := (-1)) hx hb dX7_formula_7 (by decide) ?_
      exact ka_rRi C hr hlk ⟨_, rfl, ⟨by decide, by decide⟩⟩ dX7_formula_8
    · obtain rfl : x1 = (-1) := (ka_eq' _ _).mpr (y_23215.trans (by decide))
      refine lv_iload_n hx hb dX7_formula_0 rfl (lv_at hl 1 rfl) ?_
      refine ka_RS (n := 1) C (cg_X7_isLesson_227 l D F x0 (by omega)) gX7_formula_X7_isLesson rfl (by decide +kernel) ⟨Nat.le_of_ble_eq_true rfl, Nat.le_of_ble_eq_true rfl⟩ hK hP hS hE hN [] rfl [] rfl rfl hl.1 (rest := []) rfl (Nat.le_of_ble_eq_true rfl) dX7_formula_1 ⟨Nat.le_of_ble_eq_true rfl, Nat.le_of_ble_eq_true rfl⟩ (fun v hv => ?_)
      subst hv
      refine ka_stk (w := [.int 0]) rfl ?_
      refine lv_if_ne (tgt := 9) hx hb dX7_formula_4 (by decide) (fun c_ => absurd (by decide) c_) (fun _ => ?_)
      refine lv_iconst (v := (-1)) hx hb dX7_formula_7 (by decide) ?_
      exact ka_rRi C hr hlk ⟨_, rfl, ⟨by decide, by decide⟩⟩ dX7_formula_8
    · skip
      refine lv_iload_n hx hb dX7_formula_0 rfl (lv_at hl 1 rfl) ?_
      refine ka_RS (n := 1) C (cg_X7_isLesson_227 l D F x0 (by omega)) gX7_formula_X7_isLesson rfl (by decide +kernel) ⟨Nat.le_of_ble_eq_true rfl, Nat.le_of_ble_eq_true rfl⟩ hK hP hS hE hN [] rfl [] rfl rfl hl.1 (rest := []) rfl (Nat.le_of_ble_eq_true rfl) dX7_formula_1 ⟨Nat.le_of_ble_eq_true rfl, Nat.le_of_ble_eq_true rfl⟩ (fun v hv => ?_)
      subst hv
      refine ka_stk (w := [.int 0]) rfl ?_
      refine lv_if_ne (tgt := 9) hx hb dX7_formula_4 (by decide) (fun c_ => absurd (by decide) c_) (fun _ => ?_)
      refine lv_iconst (v := (-1)) hx hb dX7_formula_7 (by decide) ?_
      exact ka_rRi C hr hlk ⟨_, rfl, ⟨by decide, by decide⟩⟩ dX7_formula_8
    · skip
      refine lv_iload_n hx hb dX7_formula_0 rfl (lv_at hl 1 rfl) ?_
      refine ka_RS (n := 1) C (cg_X7_isLesson_227 l D F x0 (by omega)) gX7_formula_X7_isLesson rfl (by decide +kernel) ⟨Nat.le_of_ble_eq_true rfl, Nat.le_of_ble_eq_true rfl⟩ hK hP hS hE hN [] rfl [] rfl rfl hl.1 (rest := []) rfl (Nat.le_of_ble_eq_true rfl) dX7_formula_1 ⟨Nat.le_of_ble_eq_true rfl, Nat.le_of_ble_eq_true rfl⟩ (fun v hv => ?_)
      subst hv
      refine ka_stk (w := [.int 0]) rfl ?_
      refine lv_if_ne (tgt := 9) hx hb dX7_formula_4 (by decide) (fun c_ => absurd (by decide) c_) (fun _ => ?_)
      refine lv_iconst (v := (-1)) hx hb dX7_formula_7 (by decide) ?_
      exact ka_rRi C hr hlk ⟨_, rfl, ⟨by decide, by decide⟩⟩ dX7_formula_8
set_option maxHeartbeats 4000000 in
set_option maxRecDepth 100000 in
theorem cg_X7_isIn_230 (l : Launch) (D : va_G) (F : Nat → Prop) (x0 : Int32) : ka_R l D F yX7_isIn wsX7_isIn 0 0 [.int x0, .int 0, .int 31] [] [] (fun v => ∃ x : Int32, v = some (.int x) ∧ 0 ≤ x.toInt ∧ x.toInt ≤ 1) := by
  refine ka_R_of (cc := cX7_isIn) (maxL := 3) (ret := (some .boolean)) (by decide) rfl (Nat.le_of_ble_eq_true rfl) ?_
  intro p e s m below meth c ls C hr hlk hP hK hE hN hl
  have hS : va_S (fun _ => False) s.heap s.heap [] := va_S.rf
  have C : CallFix p m c cX7_isIn 3 s [.int x0, .int 0, .int 31].toArray wsX7_isIn RX7 := C
  obtain ⟨hx, hb, hml, hown, hts⟩ := id C
  have hl : lv_has ls 3 [(0, .int x0), (1, .int 0), (2, .int 31)] := hl
  have rx0 := ka_rng x0
  refine lv_iload_n hx hb dX7_isIn_0 rfl (lv_at hl 0 rfl) ?_
  refine lv_iload_n hx hb dX7_isIn_1 rfl (lv_at hl 1 rfl) ?_
  refine lv_icmp_lt (tgt := 14) hx hb dX7_isIn_2 (by decide) (fun c_23306 => ?_) (fun c_23306 => ?_)
  · have c_23306 : x0.toInt < 0 := by rw [ka_lt', show ((0 : Int32)).toInt = 0 from by decide] at c_23306; exact c_23306
    refine lv_iconst (v := 0) hx hb dX7_isIn_14 (by decide) ?_
    exact ka_rRz C hr hlk rfl ⟨_, rfl, ⟨by decide, by decide⟩⟩ dX7_isIn_15
  · have c_23306 : ¬ x0.toInt < 0 := by rw [ka_lt', show ((0 : Int32)).toInt = 0 from by decide] at c_23306; exact c_23306
    refine lv_iload_n hx hb dX7_isIn_5 rfl (lv_at hl 0 rfl) ?_
    refine lv_iload_n hx hb dX7_isIn_6 rfl (lv_at hl 2 rfl) ?_
    refine lv_icmp_gt (tgt := 14) hx hb dX7_isIn_7 (by decide) (fun c_23307 => ?_) (fun c_23307 => ?_)
    · have c_23307 : 31 < x0.toInt := by rw [ka_lt', show ((31 : Int32)).toInt = 31 from by decide] at c_23307; exact c_23307
      refine lv_iconst (v := 0) hx hb dX7_isIn_14 (by decide) ?_
      exact ka_rRz C hr hlk rfl ⟨_, rfl, ⟨by decide, by decide⟩⟩ dX7_isIn_15
    · have c_23307 : ¬ 31 < x0.toInt := by rw [ka_lt', show ((31 : Int32)).toInt = 31 from by decide] at c_23307; exact c_23307
      refine lv_iconst (v := 1) hx hb dX7_isIn_10 (by decide) ?_
      refine lv_goto (tgt := 15) hx hb dX7_isIn_11 (by decide) ?_
      exact ka_rRz C hr hlk rfl ⟨_, rfl, ⟨by decide, by decide⟩⟩ dX7_isIn_15
set_option maxHeartbeats 4000000 in
set_option maxRecDepth 100000 in
theorem cg_X7_isIn_232 (l : Launch) (D : va_G) (F : Nat → Prop) (x0 : Int32) : ka_R l D F yX7_isIn wsX7_isIn 0 0 [.int x0, .int 0, .int 31] [] [] (fun v => ∃ x : Int32, v = some (.int x) ∧ 0 ≤ x.toInt ∧ x.toInt ≤ 1) := by
  refine ka_R_of (cc := cX7_isIn) (maxL := 3) (ret := (some .boolean)) (by decide) rfl (Nat.le_of_ble_eq_true rfl) ?_
  intro p e s m below meth c ls C hr hlk hP hK hE hN hl
  have hS : va_S (fun _ => False) s.heap s.heap [] := va_S.rf
  have C : CallFix p m c cX7_isIn 3 s [.int x0, .int 0, .int 31].toArray wsX7_isIn RX7 := C
  obtain ⟨hx, hb, hml, hown, hts⟩ := id C
  have hl : lv_has ls 3 [(0, .int x0), (1, .int 0), (2, .int 31)] := hl
  have rx0 := ka_rng x0
  refine lv_iload_n hx hb dX7_isIn_0 rfl (lv_at hl 0 rfl) ?_
  refine lv_iload_n hx hb dX7_isIn_1 rfl (lv_at hl 1 rfl) ?_
  refine lv_icmp_lt (tgt := 14) hx hb dX7_isIn_2 (by decide) (fun c_23313 => ?_) (fun c_23313 => ?_)
  · have c_23313 : x0.toInt < 0 := by rw [ka_lt', show ((0 : Int32)).toInt = 0 from by decide] at c_23313; exact c_23313
    refine lv_iconst (v := 0) hx hb dX7_isIn_14 (by decide) ?_
    exact ka_rRz C hr hlk rfl ⟨_, rfl, ⟨by decide, by decide⟩⟩ dX7_isIn_15
  · have c_23313 : ¬ x0.toInt < 0 := by rw [ka_lt', show ((0 : Int32)).toInt = 0 from by decide] at c_23313; exact c_23313
    refine lv_iload_n hx hb dX7_isIn_5 rfl (lv_at hl 0 rfl) ?_
    refine lv_iload_n hx hb dX7_isIn_6 rfl (lv_at hl 2 rfl) ?_
    refine lv_icmp_gt (tgt := 14) hx hb dX7_isIn_7 (by decide) (fun c_23314 => ?_) (fun c_23314 => ?_)
    · have c_23314 : 31 < x0.toInt := by rw [ka_lt', show ((31 : Int32)).toInt = 31 from by decide] at c_23314; exact c_23314
      refine lv_iconst (v := 0) hx hb dX7_isIn_14 (by decide) ?_
      exact ka_rRz C hr hlk rfl ⟨_, rfl, ⟨by decide, by decide⟩⟩ dX7_isIn_15
    · have c_23314 : ¬ 31 < x0.toInt := by rw [ka_lt', show ((31 : Int32)).toInt = 31 from by decide] at c_23314; exact c_23314
      refine lv_iconst (v := 1) hx hb dX7_isIn_10 (by decide) ?_
      refine lv_goto (tgt := 15) hx hb dX7_isIn_11 (by decide) ?_
      exact ka_rRz C hr hlk rfl ⟨_, rfl, ⟨by decide, by decide⟩⟩ dX7_isIn_15
set_option maxHeartbeats 4000000 in
set_option maxRecDepth 100000 in
theorem cg_X7_isCase_231 (l : Launch) (D : va_G) (F : Nat → Prop) (x0 : Int32) : ka_R l D F yX7_isCase wsX7_isCase 1 22 [.int x0] [] [] (fun v => ∃ x : Int32, v = some (.int x) ∧ 0 ≤ x.toInt ∧ x.toInt ≤ 1) := by
  refine ka_R_of (cc := cX7_isCase) (maxL := 1) (ret := (some .boolean)) (by decide) rfl (Nat.le_of_ble_eq_true rfl) ?_
  intro p e s m below meth c ls C hr hlk hP hK hE hN hl
  have hS : va_S (fun _ => False) s.heap s.heap [] := va_S.rf
  have C : CallFix p m c cX7_isCase 1 s [.int x0].toArray wsX7_isCase RX7 := C
  obtain ⟨hx, hb, hml, hown, hts⟩ := id C
  have hl : lv_has ls 1 [(0, .int x0)] := hl
  have rx0 := ka_rng x0
  refine lv_iload_n hx hb dX7_isCase_0 rfl (lv_at hl 0 rfl) ?_
  refine lv_iconst (v := 0) hx hb dX7_isCase_1 (by decide) ?_
  refine lv_bipush (v := 31) hx hb dX7_isCase_2 (by decide) ?_
  refine ka_RS (n := 3) C (cg_X7_isIn_232 l D F x0) gX7_isCase_X7_isIn rfl (by decide +kernel) ⟨Nat.le_of_ble_eq_true rfl, Nat.le_of_ble_eq_true rfl⟩ hK hP hS hE hN [] rfl [] rfl rfl hl.1 (rest := []) rfl (Nat.le_of_ble_eq_true rfl) dX7_isCase_4 ⟨Nat.le_of_ble_eq_true rfl, Nat.le_of_ble_eq_true rfl⟩ (fun v hv => ?_)
  obtain ⟨v_23316, rfl, hv_23316⟩ := hv
  have rv_23316 := ka_rng v_23316
  refine ka_stk (w := [.int v_23316]) rfl ?_
  exact ka_rRz C hr hlk (kb_nz ⟨by omega, by omega⟩) ⟨_, rfl, ⟨by omega, by omega⟩⟩ dX7_isCase_7
theorem lq_283 : ∀ w ∈ wsX70, w ∈ wsX7_tellsOf := by decide +kernel
theorem lq_284 : Cond.fieldLink RX7 13 "AskedBackModel" "tells" "[I" ∈ wsX7_tellsOf := by decide +kernel
set_option maxHeartbeats 4000000 in
set_option maxRecDepth 100000 in
theorem cg_X7_tellsOf_233 (l : Launch) (D : va_G) (F : Nat → Prop) (a0 : Nat) (x0 : Int32) (x1 : Int32) (a1 : Nat) (x2 : Int32) (a2 : Nat) (a3 : Nat) (a4 : Nat) (a5 : Nat) (a6 : Nat) (a7 : Nat) (a8 : Nat) (x3 : Int32) (x4 : Int32) (x5 : Int32) (x6 : Int32) (x7 : Int32) (x8 : Int32) (x9 : Int32) (a9 : Nat) (a10 : Nat) (a11 : Nat) (a12 : Nat) (a13 : Nat) (a14 : Nat) (x10 : Int32) (x11 : Int32) (x12 : Int32) (x13 : Int32) (x14 : Int32) (x15 : Int32) (k0 : ClassId) (f0 : Nat → Int32) (hx0 : 0 ≤ x0.toInt ∧ x0.toInt ≤ 77) (hx2 : 0 ≤ x2.toInt ∧ x2.toInt ≤ 80) (hx3 : -1 ≤ x3.toInt ∧ x3.toInt ≤ 5) (hx6 : 1 ≤ x6.toInt ∧ x6.toInt ≤ 8) (hx7 : 0 ≤ x7.toInt ∧ x7.toInt ≤ 40) (hx9 : 0 ≤ x9.toInt ∧ x9.toInt ≤ 10) (hx10 : 0 ≤ x10.toInt ∧ x10.toInt ≤ 60) (hx11 : 0 ≤ x11.toInt ∧ x11.toInt ≤ 60) (hx12 : 0 ≤ x12.toInt ∧ x12.toInt ≤ 60) (hx13 : 0 ≤ x13.toInt ∧ x13.toInt ≤ 8) (hx15 : 0 ≤ x15.toInt ∧ x15.toInt ≤ 1) : ka_R l D F yX7_tellsOf wsX7_tellsOf 0 0 [.ref a0, .int x0, .int x1] [(a0, .inr (7, [.ref a1, .int x2, .ref a2, .ref a3, .ref a4, .ref a5, .ref a6, .ref a7, .ref a8, .int x3, .int x4, .int x5, .int x6, .int x7, .int x8, .int x9, .ref a9, .ref a10, .ref a11, .ref a12, .ref a13, .ref a14, .int x10, .int x11, .int x12, .int x13, .int x14, .int x15])), (a2, .inl (k0, 89, .inl f0))] [(k0, .int)] (fun v => ∃ x : Int32, v = some (.int x)) := by
  refine ka_R_of (cc := cX7_tellsOf) (maxL := 3) (ret := (some .int)) (by decide) rfl (Nat.le_of_ble_eq_true rfl) ?_
  intro p e s m below meth c ls C hr hlk hP hK hE hN hl
  have hS : va_S (fun _ => False) s.heap s.heap [] := va_S.rf
  have C : CallFix p m c cX7_tellsOf 3 s [.ref a0, .int x0, .int x1].toArray wsX7_tellsOf RX7 := C
  obtain ⟨hx, hb, hml, hown, hts⟩ := id C
  have hl : lv_has ls 3 [(0, .ref a0), (1, .int x0), (2, .int x1)] := hl
  have rx0 := ka_rng x0
  have rx1 := ka_rng x1
  have rx2 := ka_rng x2
  have rx3 := ka_rng x3
  have rx4 := ka_rng x4
  have rx5 := ka_rng x5
  have rx6 := ka_rng x6
  have rx7 := ka_rng x7
  have rx8 := ka_rng x8
  have rx9 := ka_rng x9
  have rx10 := ka_rng x10
  have rx11 := ka_rng x11
  have rx12 := ka_rng x12
  have rx13 := ka_rng x13
  have rx14 := ka_rng x14
  have rx15 := ka_rng x15
  refine lv_aload_n hx hb dX7_tellsOf_0 rfl (lv_at hl 0 rfl) ?_
  refine ka_get C lq_283 rfl hK hP 0 rfl 2 (by decide) lq_284 rfl dX7_tellsOf_1 ?_
  refine lv_iload_n hx hb dX7_tellsOf_4 rfl (lv_at hl 1 rfl) ?_
  refine va_iald hx hb hK hP 1 0 rfl rfl (ka_in (by omega) (by omega)) dX7_tellsOf_5 ?_
  refine lv_topi (fun v_23353 ev_23353 => ?_)
  refine lv_iload_n hx hb dX7_tellsOf_6 rfl (lv_at hl 2 rfl) ?_
  refine lv_ishr hx hb dX7_tellsOf_7 ?_
  refine lv_topi (fun v_23354 ev_23354 => ?_)
  refine lv_iconst (v := 1) hx hb dX7_tellsOf_8 (by decide) ?_
  refine lv_iand hx hb dX7_tellsOf_9 ?_
  refine lv_topi (fun v_23355 ev_23355 => ?_)
  exact ka_rRi C hr hlk ⟨_, rfl⟩ dX7_tellsOf_10
set_option maxHeartbeats 4000000 in
set_option maxRecDepth 100000 in
theorem cg_X7_tells_234 (l : Launch) (D : va_G) (F : Nat → Prop) (a0 : Nat) (x0 : Int32) (x1 : Int32) (x2 : Int32) (a1 : Nat) (x3 : Int32) (a2 : Nat) (a3 : Nat) (a4 : Nat) (a5 : Nat) (a6 : Nat) (a7 : Nat) (a8 : Nat) (x4 : Int32) (x5 : Int32) (x6 : Int32) (x7 : Int32) (x8 : Int32) (x9 : Int32) (x10 : Int32) (a9 : Nat) (a10 : Nat) (a11 : Nat) (a12 : Nat) (a13 : Nat) (a14 : Nat) (x11 : Int32) (x12 : Int32) (x13 : Int32) (x14 : Int32) (x15 : Int32) (x16 : Int32) (k0 : ClassId) (f0 : Nat → Int32) (k1 : ClassId) (f1 : Nat → Int32) (k2 : ClassId) (f2 : Nat → Int32) (hx3 : 0 ≤ x3.toInt ∧ x3.toInt ≤ 80) (hx4 : -1 ≤ x4.toInt ∧ x4.toInt ≤ 5) (hx7 : 1 ≤ x7.toInt ∧ x7.toInt ≤ 8) (hx8 : 0 ≤ x8.toInt ∧ x8.toInt ≤ 40) (hx10 : 0 ≤ x10.toInt ∧ x10.toInt ≤ 10) (hx11 : 0 ≤ x11.toInt ∧ x11.toInt ≤ 60) (hx12 : 0 ≤ x12.toInt ∧ x12.toInt ≤ 60) (hx13 : 0 ≤ x13.toInt ∧ x13.toInt ≤ 60) (hx14 : 0 ≤ x14.toInt ∧ x14.toInt ≤ 8) (hx16 : 0 ≤ x16.toInt ∧ x16.toInt ≤ 1) (hf2 : ∀ j : Nat, 0 ≤ (f2 j).toInt ∧ (f2 j).toInt ≤ 12) : ka_R l D F yX7_tells wsX7_tells 3 64 [.ref a0, .int x0, .int x1, .int x2] [(a0, .inr (7, [.ref a1, .int x3, .ref a2, .ref a3, .ref a4, .ref a5, .ref a6, .ref a7, .ref a8, .int x4, .int x5, .int x6, .int x7, .int x8, .int x9, .int x10, .ref a9, .ref a10, .ref a11, .ref a12, .ref a13, .ref a14, .int x11, .int x12, .int x13, .int x14, .int x15, .int x16])), (a2, .inl (k0, 89, .inl f0)), (a5, .inl (k1, 6, .inl f1)), (a8, .inl (k2, 6, .inl f2))] [(k0, .int), (k1, .boolean), (k2, .int)] (fun v => ∃ x : Int32, v = some (.int x)) := by
  refine ka_R_of (cc := cX7_tells) (maxL := 5) (ret := (some .int)) (by decide) rfl (Nat.le_of_ble_eq_true rfl) ?_
  intro p e s m below meth c ls C hr hlk hP hK hE hN hl
  have hS : va_S (fun _ => False) s.heap s.heap [] := va_S.rf
  have C : CallFix p m c cX7_tells 5 s [.ref a0, .int x0, .int x1, .int x2].toArray wsX7_tells RX7 := C
  obtain ⟨hx, hb, hml, hown, hts⟩ := id C
  have hl : lv_has ls 5 [(0, .ref a0), (1, .int x0), (2, .int x1), (3, .int x2)] := hl
  have rx0 := ka_rng x0
  have rx1 := ka_rng x1
  have rx2 := ka_rng x2
  have rx3 := ka_rng x3
  have rx4 := ka_rng x4
  have rx5 := ka_rng x5
  have rx6 := ka_rng x6
  have rx7 := ka_rng x7
  have rx8 := ka_rng x8
  have rx9 := ka_rng x9
  have rx10 := ka_rng x10
  have rx11 := ka_rng x11
  have rx12 := ka_rng x12
  have rx13 := ka_rng x13
  have rx14 := ka_rng x14
  have rx15 := ka_rng x15
  have rx16 := ka_rng x16
  refine lv_aload_n hx hb dX7_tells_0 rfl (lv_at hl 0 rfl) ?_
  refine lv_iload_n hx hb dX7_tells_1 rfl (lv_at hl 1 rfl) ?_
  refine lv_iload_n hx hb dX7_tells_2 rfl (lv_at hl 2 rfl) ?_
  refine ka_RV (n := 2) C (cg_X7_formula_229 l D F a0 x0 x1 a1 x3 a2 a3 a4 a5 a6 a7 a8 x4 x5 x6 x7 x8 x9 x10 a9 a10 a11 a12 a13 a14 x11 x12 x13 x14 x15 x16 k1 f1 k2 f2 ⟨by omega, by omega⟩ ⟨by omega, by omega⟩ ⟨by omega, by omega⟩ ⟨by omega, by omega⟩ ⟨by omega, by omega⟩ ⟨by omega, by omega⟩ ⟨by omega, by omega⟩ ⟨by omega, by omega⟩ ⟨by omega, by omega⟩ ⟨by omega, by omega⟩ hf2) gX7_tells_X7_formula rfl (by decide +kernel) ⟨Nat.le_of_ble_eq_true rfl, Nat.le_of_ble_eq_true rfl⟩ hK hP hS hE hN [0, 2, 3] rfl [1, 2] rfl (ci := 7) rfl rfl 0 rfl rfl hl.1 (rest := []) rfl (Nat.le_of_ble_eq_true rfl) dX7_tells_3 ⟨Nat.le_of_ble_eq_true rfl, Nat.le_of_ble_eq_true rfl⟩ (fun v hv => ?_)
  obtain ⟨v_23362, rfl, hv_23362⟩ := hv
  have rv_23362 := ka_rng v_23362
  refine ka_stk (w := [.int v_23362]) rfl ?_
  refine lv_istore (lv' := [(4, .int v_23362), (0, .ref a0), (1, .int x0), (2, .int x1), (3, .int x2)]) hx hb dX7_tells_6 hl (by decide) rfl (fun ls hl => ?_)
  refine lv_iload hx hb dX7_tells_8 (lv_at hl 0 rfl) ?_
  refine lv_iconst (v := (-1)) hx hb dX7_tells_10 (by decide) ?_
  refine lv_icmp_eq (tgt := 21) hx hb dX7_tells_11 (by decide) (fun c_23363 => ?_) (fun c_23363 => ?_)
  · have c_23363 : v_23362.toInt = -1 := by rw [ka_eq', show ((-1 : Int32)).toInt = -1 from by decide] at c_23363; exact c_23363
    refine lv_iconst (v := (-1)) hx hb dX7_tells_21 (by decide) ?_
    refine lv_goto (tgt := 32) hx hb dX7_tells_22 (by decide) ?_
    exact ka_rRi C hr hlk ⟨_, rfl⟩ dX7_tells_32
  · have c_23363 : ¬ v_23362.toInt = -1 := by rw [ka_eq', show ((-1 : Int32)).toInt = -1 from by decide] at c_23363; exact c_23363
    refine lv_iload_n hx hb dX7_tells_14 rfl (lv_at hl 4 rfl) ?_
    refine ka_RS (n := 1) C (cg_X7_isCase_231 l D F x2) gX7_tells_X7_isCase rfl (by decide +kernel) ⟨Nat.le_of_ble_eq_true rfl, Nat.le_of_ble_eq_true rfl⟩ hK hP hS hE hN [] rfl [] rfl rfl hl.1 (rest := []) rfl (Nat.le_of_ble_eq_true rfl) dX7_tells_15 ⟨Nat.le_of_ble_eq_true rfl, Nat.le_of_ble_eq_true rfl⟩ (fun v hv => ?_)
    obtain ⟨v_23364, rfl, hv_23364⟩ := hv
    have rv_23364 := ka_rng v_23364
    refine ka_stk (w := [.int v_23364]) rfl ?_
    refine lv_if_ne (tgt := 25) hx hb dX7_tells_18 (by decide) (fun c_23365 => ?_) (fun c_23365 => ?_)
    · have c_23365 : ¬ v_23364.toInt = 0 := by rw [ka_eq', show ((0 : Int32)).toInt = 0 from by decide] at c_23365; exact c_23365
      refine lv_aload_n hx hb dX7_tells_25 rfl (lv_at hl 1 rfl) ?_
      refine lv_iload hx hb dX7_tells_26 (lv_at hl 0 rfl) ?_
      refine lv_iload_n hx hb dX7_tells_28 rfl (lv_at hl 4 rfl) ?_
      refine ka_RV (n := 2) C (cg_X7_tellsOf_233 l D F a0 v_23362 x2 a1 x3 a2 a3 a4 a5 a6 a7 a8 x4 x5 x6 x7 x8 x9 x10 a9 a10 a11 a12 a13 a14 x11 x12 x13 x14 x15 x16 k0 f0 ⟨by omega, by omega⟩ ⟨by omega, by omega⟩ ⟨by omega, by omega⟩ ⟨by omega, by omega⟩ ⟨by omega, by omega⟩ ⟨by omega, by omega⟩ ⟨by omega, by omega⟩ ⟨by omega, by omega⟩ ⟨by omega, by omega⟩ ⟨by omega, by omega⟩ ⟨by omega, by omega⟩) gX7_tells_X7_tellsOf rfl (by decide +kernel) ⟨Nat.le_of_ble_eq_true rfl, Nat.le_of_ble_eq_true rfl⟩ hK hP hS hE hN [0, 1] rfl [0] rfl (ci := 7) rfl rfl 0 rfl rfl hl.1 (rest := []) rfl (Nat.le_of_ble_eq_true rfl) dX7_tells_29 ⟨Nat.le_of_ble_eq_true rfl, Nat.le_of_ble_eq_true rfl⟩ (fun v hv => ?_)
      obtain ⟨v_23366, rfl⟩ := hv
      have rv_23366 := ka_rng v_23366
      refine ka_stk (w := [.int v_23366]) rfl ?_
      exact ka_rRi C hr hlk ⟨_, rfl⟩ dX7_tells_32
    · have c_23365 : v_23364.toInt = 0 := by rw [ka_eq', show ((0 : Int32)).toInt = 0 from by decide] at c_23365; exact c_23365
      refine lv_iconst (v := (-1)) hx hb dX7_tells_21 (by decide) ?_
      refine lv_goto (tgt := 32) hx hb dX7_tells_22 (by decide) ?_
      exact ka_rRi C hr hlk ⟨_, rfl⟩ dX7_tells_32
set_option maxHeartbeats 4000000 in
set_option maxRecDepth 100000 in
theorem cg_X7_isIn_235 (l : Launch) (D : va_G) (F : Nat → Prop) (x0 : Int32) (x1 : Int32) (hx0 : x0.toInt ≤ -2) (hx1 : -1 ≤ x1.toInt ∧ x1.toInt ≤ 59) : ka_R l D F yX7_isIn wsX7_isIn 0 0 [.int x0, .int 0, .int x1] [] [] (fun v => v = some (.int 0)) := by
  refine ka_R_of (cc := cX7_isIn) (maxL := 3) (ret := (some .boolean)) (by decide) rfl (Nat.le_of_ble_eq_true rfl) ?_
  intro p e s m below meth c ls C hr hlk hP hK hE hN hl
  have hS : va_S (fun _ => False) s.heap s.heap [] := va_S.rf
  have C : CallFix p m c cX7_isIn 3 s [.int x0, .int 0, .int x1].toArray wsX7_isIn RX7 := C
  obtain ⟨hx, hb, hml, hown, hts⟩ := id C
  have hl : lv_has ls 3 [(0, .int x0), (1, .int 0), (2, .int x1)] := hl
  have rx0 := ka_rng x0
  have rx1 := ka_rng x1
  refine lv_iload_n hx hb dX7_isIn_0 rfl (lv_at hl 0 rfl) ?_
  refine lv_iload_n hx hb dX7_isIn_1 rfl (lv_at hl 1 rfl) ?_
  refine lv_icmp_lt (tgt := 14) hx hb dX7_isIn_2 (by decide) (fun _ => ?_) (fun c_ => absurd (by rw [ka_lt', show ((0 : Int32)).toInt = 0 from by decide]; omega) c_)
  refine lv_iconst (v := 0) hx hb dX7_isIn_14 (by decide) ?_
  exact ka_rRz C hr hlk rfl rfl dX7_isIn_15
set_option maxHeartbeats 4000000 in
set_option maxRecDepth 100000 in
theorem cg_X7_isIn_236 (l : Launch) (D : va_G) (F : Nat → Prop) (x0 : Int32) (x1 : Int32) (hx0 : 0 ≤ x0.toInt ∧ x0.toInt ≤ 59) (hx1 : -1 ≤ x1.toInt ∧ x1.toInt ≤ 59) : ka_R l D F yX7_isIn wsX7_isIn 0 0 [.int x0, .int 0, .int x1] [] [] (fun v => ∃ x : Int32, v = some (.int x) ∧ 0 ≤ x.toInt ∧ x.toInt ≤ 1) := by
  refine ka_R_of (cc := cX7_isIn) (maxL := 3) (ret := (some .boolean)) (by decide) rfl (Nat.le_of_ble_eq_true rfl) ?_
  intro p e s m below meth c ls C hr hlk hP hK hE hN hl
  have hS : va_S (fun _ => False) s.heap s.heap [] := va_S.rf
  have C : CallFix p m c cX7_isIn 3 s [.int x0, .int 0, .int x1].toArray wsX7_isIn RX7 := C
  obtain ⟨hx, hb, hml, hown, hts⟩ := id C
  have hl : lv_has ls 3 [(0, .int x0), (1, .int 0), (2, .int x1)] := hl
  have rx0 := ka_rng x0
  have rx1 := ka_rng x1
  refine lv_iload_n hx hb dX7_isIn_0 rfl (lv_at hl 0 rfl) ?_
  refine lv_iload_n hx hb dX7_isIn_1 rfl (lv_at hl 1 rfl) ?_
  refine lv_icmp_lt (tgt := 14) hx hb dX7_isIn_2 (by decide) (fun c_ => absurd c_ (by rw [ka_lt', show ((0 : Int32)).toInt = 0 from by decide]; omega)) (fun _ => ?_)
  refine lv_iload_n hx hb dX7_isIn_5 rfl (lv_at hl 0 rfl) ?_
  refine lv_iload_n hx hb dX7_isIn_6 rfl (lv_at hl 2 rfl) ?_
  refine lv_icmp_gt (tgt := 14) hx hb dX7_isIn_7 (by decide) (fun c_23464 => ?_) (fun c_23464 => ?_)
  · have c_23464 : x1.toInt < x0.toInt := by rw [ka_lt'] at c_23464; exact c_23464
    refine lv_iconst (v := 0) hx hb dX7_isIn_14 (by decide) ?_
    exact ka_rRz C hr hlk rfl ⟨_, rfl, ⟨by decide, by decide⟩⟩ dX7_isIn_15
  · have c_23464 : ¬ x1.toInt < x0.toInt := by rw [ka_lt'] at c_23464; exact c_23464
    refine lv_iconst (v := 1) hx hb dX7_isIn_10 (by decide) ?_
    refine lv_goto (tgt := 15) hx hb dX7_isIn_11 (by decide) ?_
    exact ka_rRz C hr hlk rfl ⟨_, rfl, ⟨by decide, by decide⟩⟩ dX7_isIn_15
set_option maxHeartbeats 4000000 in
set_option maxRecDepth 100000 in
theorem cg_X7_isIn_237 (l : Launch) (D : va_G) (F : Nat → Prop) (x0 : Int32) (x1 : Int32) (hx0 : 60 ≤ x0.toInt) (hx1 : -1 ≤ x1.toInt ∧ x1.toInt ≤ 59) : ka_R l D F yX7_isIn wsX7_isIn 0 0 [.int x0, .int 0, .int x1] [] [] (fun v => v = some (.int 0)) := by
  refine ka_R_of (cc := cX7_isIn) (maxL := 3) (ret := (some .boolean)) (by decide) rfl (Nat.le_of_ble_eq_true rfl) ?_
  intro p e s m below meth c ls C hr hlk hP hK hE hN hl
  have hS : va_S (fun _ => False) s.heap s.heap [] := va_S.rf
  have C : CallFix p m c cX7_isIn 3 s [.int x0, .int 0, .int x1].toArray wsX7_isIn RX7 := C
  obtain ⟨hx, hb, hml, hown, hts⟩ := id C
  have hl : lv_has ls 3 [(0, .int x0), (1, .int 0), (2, .int x1)] := hl
  have rx0 := ka_rng x0
  have rx1 := ka_rng x1
  refine lv_iload_n hx hb dX7_isIn_0 rfl (lv_at hl 0 rfl) ?_
  refine lv_iload_n hx hb dX7_isIn_1 rfl (lv_at hl 1 rfl) ?_
  refine lv_icmp_lt (tgt := 14) hx hb dX7_isIn_2 (by decide) (fun c_ => absurd c_ (by rw [ka_lt', show ((0 : Int32)).toInt = 0 from by decide]; omega)) (fun _ => ?_)
  refine lv_iload_n hx hb dX7_isIn_5 rfl (lv_at hl 0 rfl) ?_
  refine lv_iload_n hx hb dX7_isIn_6 rfl (lv_at hl 2 rfl) ?_
  refine lv_icmp_gt (tgt := 14) hx hb dX7_isIn_7 (by decide) (fun _ => ?_) (fun c_ => absurd (by rw [ka_lt']; omega) c_)
  refine lv_iconst (v := 0) hx hb dX7_isIn_14 (by decide) ?_
  exact ka_rRz C hr hlk rfl rfl dX7_isIn_15
theorem lq_285 : ∀ w ∈ wsX70, w ∈ wsX7_written := by decide +kernel
theorem lq_286 : Cond.fieldLink RX7 17 "AskedBackModel" "size" "[I" ∈ wsX7_written := by decide +kernel
theorem lq_287 : Cond.fieldLink RX7 20 "AskedBackModel" "written" "[B" ∈ wsX7_written := by decide +kernel
set_option maxHeartbeats 4000000 in
set_option maxRecDepth 100000 in
theorem cg_X7_written_238 (l : Launch) (D : va_G) (F : Nat → Prop) (a0 : Nat) (x0 : Int32) (x1 : Int32) (x2 : Int32) (a1 : Nat) (x3 : Int32) (a2 : Nat) (a3 : Nat) (a4 : Nat) (a5 : Nat) (a6 : Nat) (a7 : Nat) (a8 : Nat) (x4 : Int32) (x5 : Int32) (x6 : Int32) (x7 : Int32) (x8 : Int32) (x9 : Int32) (x10 : Int32) (a9 : Nat) (a10 : Nat) (a11 : Nat) (a12 : Nat) (a13 : Nat) (a14 : Nat) (x11 : Int32) (x12 : Int32) (x13 : Int32) (x14 : Int32) (x15 : Int32) (x16 : Int32) (k0 : ClassId) (f0 : Nat → Int32) (k1 : ClassId) (f1 : Nat → Int32) (k2 : ClassId) (f2 : Nat → Int32) (k3 : ClassId) (f3 : Nat → Int32) (hx3 : 0 ≤ x3.toInt ∧ x3.toInt ≤ 80) (hx4 : -1 ≤ x4.toInt ∧ x4.toInt ≤ 5) (hx7 : 1 ≤ x7.toInt ∧ x7.toInt ≤ 8) (hx8 : 0 ≤ x8.toInt ∧ x8.toInt ≤ 40) (hx10 : 0 ≤ x10.toInt ∧ x10.toInt ≤ 10) (hx11 : 0 ≤ x11.toInt ∧ x11.toInt ≤ 60) (hx12 : 0 ≤ x12.toInt ∧ x12.toInt ≤ 60) (hx13 : 0 ≤ x13.toInt ∧ x13.toInt ≤ 60) (hx14 : 0 ≤ x14.toInt ∧ x14.toInt ≤ 8) (hx16 : 0 ≤ x16.toInt ∧ x16.toInt ≤ 1) (hf0 : ∀ j : Nat, 0 ≤ (f0 j).toInt ∧ (f0 j).toInt ≤ 60) (hf1 : sb_Fit f1) (hf3 : ∀ j : Nat, 0 ≤ (f3 j).toInt ∧ (f3 j).toInt ≤ 12) : ka_R l D F yX7_written wsX7_written 3 64 [.ref a0, .int x0, .int x1, .int x2] [(a0, .inr (7, [.ref a1, .int x3, .ref a2, .ref a3, .ref a4, .ref a5, .ref a6, .ref a7, .ref a8, .int x4, .int x5, .int x6, .int x7, .int x8, .int x9, .int x10, .ref a9, .ref a10, .ref a11, .ref a12, .ref a13, .ref a14, .int x11, .int x12, .int x13, .int x14, .int x15, .int x16])), (a3, .inl (k0, 89, .inl f0)), (a4, .inl (k1, 5340, .inl f1)), (a5, .inl (k2, 6, .inl f2)), (a8, .inl (k3, 6, .inl f3))] [(k0, .int), (k1, .byte), (k2, .boolean), (k3, .int)] (fun v => ∃ x : Int32, v = some (.int x)) := by
  refine ka_R_of (cc := cX7_written) (maxL := 5) (ret := (some .int)) (by decide) rfl (Nat.le_of_ble_eq_true rfl) ?_
  intro p e s m below meth c ls C hr hlk hP hK hE hN hl
  have hS : va_S (fun _ => False) s.heap s.heap [] := va_S.rf
  have C : CallFix p m c cX7_written 5 s [.ref a0, .int x0, .int x1, .int x2].toArray wsX7_written RX7 := C
  obtain ⟨hx, hb, hml, hown, hts⟩ := id C
  have hl : lv_has ls 5 [(0, .ref a0), (1, .int x0), (2, .int x1), (3, .int x2)] := hl
  have rx0 := ka_rng x0
  have rx1 := ka_rng x1
  have rx2 := ka_rng x2
  have rx3 := ka_rng x3
  have rx4 := ka_rng x4
  have rx5 := ka_rng x5
  have rx6 := ka_rng x6
  have rx7 := ka_rng x7
  have rx8 := ka_rng x8
  have rx9 := ka_rng x9
  have rx10 := ka_rng x10
  have rx11 := ka_rng x11
  have rx12 := ka_rng x12
  have rx13 := ka_rng x13
  have rx14 := ka_rng x14
  have rx15 := ka_rng x15
  have rx16 := ka_rng x16
  rcases (show x2.toInt ≤ -2 ∨ x2.toInt = -1 ∨ (0 ≤ x2.toInt ∧ x2.toInt ≤ 59) ∨ 60 ≤ x2.toInt by omega) with y_23522 | y_23522 | y_23522 | y_23522
  · skip
    refine lv_aload_n hx hb dX7_written_0 rfl (lv_at hl 0 rfl) ?_
    refine lv_iload_n hx hb dX7_written_1 rfl (lv_at hl 1 rfl) ?_
    refine lv_iload_n hx hb dX7_written_2 rfl (lv_at hl 2 rfl) ?_
    refine ka_RV (n := 2) C (cg_X7_formula_229 l D F a0 x0 x1 a1 x3 a2 a3 a4 a5 a6 a7 a8 x4 x5 x6 x7 x8 x9 x10 a9 a10 a11 a12 a13 a14 x11 x12 x13 x14 x15 x16 k2 f2 k3 f3 ⟨by omega, by omega⟩ ⟨by omega, by omega⟩ ⟨by omega, by omega⟩ ⟨by omega, by omega⟩ ⟨by omega, by omega⟩ ⟨by omega, by omega⟩ ⟨by omega, by omega⟩ ⟨by omega, by omega⟩ ⟨by omega, by omega⟩ ⟨by omega, by omega⟩ hf3) gX7_written_X7_formula rfl (by decide +kernel) ⟨Nat.le_of_ble_eq_true rfl, Nat.le_of_ble_eq_true rfl⟩ hK hP hS hE hN [0, 3, 4] rfl [2, 3] rfl (ci := 7) rfl rfl 0 rfl rfl hl.1 (rest := []) rfl (Nat.le_of_ble_eq_true rfl) dX7_written_3 ⟨Nat.le_of_ble_eq_true rfl, Nat.le_of_ble_eq_true rfl⟩ (fun v hv => ?_)
    obtain ⟨v_23523, rfl, hv_23523⟩ := hv
    have rv_23523 := ka_rng v_23523
    refine ka_stk (w := [.int v_23523]) rfl ?_
    refine lv_istore (lv' := [(4, .int v_23523), (0, .ref a0), (1, .int x0), (2, .int x1), (3, .int x2)]) hx hb dX7_written_6 hl (by decide) rfl (fun ls hl => ?_)
    refine lv_iload hx hb dX7_written_8 (lv_at hl 0 rfl) ?_
    refine lv_iconst (v := (-1)) hx hb dX7_written_10 (by decide) ?_
    refine lv_icmp_ne (tgt := 16) hx hb dX7_written_11 (by decide) (fun c_23524 => ?_) (fun c_23524 => ?_)
    · have c_23524 : ¬ v_23523.toInt = -1 := by rw [ka_eq', show ((-1 : Int32)).toInt = -1 from by decide] at c_23524; exact c_23524
      refine lv_iload_n hx hb dX7_written_16 rfl (lv_at hl 4 rfl) ?_
      refine lv_iconst (v := (-1)) hx hb dX7_written_17 (by decide) ?_
      refine lv_icmp_ne (tgt := 31) hx hb dX7_written_18 (by decide) (fun _ => ?_) (fun c_ => absurd c_ (show ¬ x2 = (-1) from by rw [ka_eq', show ((-1 : Int32)).toInt = -1 from by decide]; omega))
      refine lv_iload_n hx hb dX7_written_31 rfl (lv_at hl 4 rfl) ?_
      refine lv_iconst (v := 0) hx hb dX7_written_32 (by decide) ?_
      refine lv_aload_n hx hb dX7_written_33 rfl (lv_at hl 1 rfl) ?_
      refine ka_get C lq_285 rfl hK hP 0 rfl 3 (by decide) lq_286 rfl dX7_written_34 ?_
      refine lv_iload hx hb dX7_written_37 (lv_at hl 0 rfl) ?_
      refine va_iald hx hb hK hP 1 0 rfl rfl (ka_in (by omega) (by omega)) dX7_written_39 ?_
      refine lv_topi (fun v_23525 ev_23525 => ?_)
      have hv_23525 := hf0 (Int32.toNatClampNeg v_23523); rw [← ev_23525] at hv_23525
      refine lv_iconst (v := 1) hx hb dX7_written_40 (by decide) ?_
      refine lv_isub hx hb dX7_written_41 ?_
      refine lv_topi (fun v_23526 ev_23526 => ?_)
      have fv_23526 : v_23526.toInt = v_23525.toInt - 1 := by rw [ev_23526]; exact ka_sub (x := v_23525.toInt) (y := 1) rfl (by decide) (by omega) (by omega)
      refine ka_RS (n := 3) C (cg_X7_isIn_235 l D F x2 v_23526 (by omega) ⟨by omega, by omega⟩) gX7_written_X7_isIn rfl (by decide +kernel) ⟨Nat.le_of_ble_eq_true rfl, Nat.le_of_ble_eq_true rfl⟩ hK hP hS hE hN [] rfl [] rfl rfl hl.1 (rest := []) rfl (Nat.le_of_ble_eq_true rfl) dX7_written_42 ⟨Nat.le_of_ble_eq_true rfl, Nat.le_of_ble_eq_true rfl⟩ (fun v hv => ?_)
      subst hv
      refine ka_stk (w := [.int 0]) rfl ?_
      refine lv_if_eq (tgt := 63) hx hb dX7_written_45 (by decide) (fun _ => ?_) (fun c_ => absurd (by decide) c_)
      refine lv_iconst (v := (-1)) hx hb dX7_written_63 (by decide) ?_
      exact ka_rRi C hr hlk ⟨_, rfl⟩ dX7_written_64
    · have c_23524 : v_23523.toInt = -1 := by rw [ka_eq', show ((-1 : Int32)).toInt = -1 from by decide] at c_23524; exact c_23524
      refine lv_iconst (v := (-1)) hx hb dX7_written_14 (by decide) ?_
      exact ka_rRi C hr hlk ⟨_, rfl⟩ dX7_written_15
  · obtain rfl : x2 = (-1) := (ka_eq' _ _).mpr (y_23522.trans (by decide))
    refine lv_aload_n hx hb dX7_written_0 rfl (lv_at hl 0 rfl) ?_
    refine lv_iload_n hx hb dX7_written_1 rfl (lv_at hl 1 rfl) ?_
    refine lv_iload_n hx hb dX7_written_2 rfl (lv_at hl 2 rfl) ?_
    refine ka_RV (n := 2) C (cg_X7_formula_229 l D F a0 x0 x1 a1 x3 a2 a3 a4 a5 a6 a7 a8 x4 x5 x6 x7 x8 x9 x10 a9 a10 a11 a12 a13 a14 x11 x12 x13 x14 x15 x16 k2 f2 k3 f3 ⟨by omega, by omega⟩ ⟨by omega, by omega⟩ ⟨by omega, by omega⟩ ⟨by omega, by omega⟩ ⟨by omega, by omega⟩ ⟨by omega, by omega⟩ ⟨by omega, by omega⟩ ⟨by omega, by omega⟩ ⟨by omega, by omega⟩ ⟨by omega, by omega⟩ hf3) gX7_written_X7_formula rfl (by decide +kernel) ⟨Nat.le_of_ble_eq_true rfl, Nat.le_of_ble_eq_true rfl⟩ hK hP hS hE hN [0, 3, 4] rfl [2, 3] rfl (ci := 7) rfl rfl 0 rfl rfl hl.1 (rest := []) rfl (Nat.le_of_ble_eq_true rfl) dX7_written_3 ⟨Nat.le_of_ble_eq_true rfl, Nat.le_of_ble_eq_true rfl⟩ (fun v hv => ?_)
    obtain ⟨v_23527, rfl, hv_23527⟩ := hv
    have rv_23527 := ka_rng v_23527
    refine ka_stk (w := [.int v_23527]) rfl ?_
    refine lv_istore (lv' := [(4, .int v_23527), (0, .ref a0), (1, .int x0), (2, .int x1), (3, .int (-1))]) hx hb dX7_written_6 hl (by decide) rfl (fun ls hl => ?_)
    refine lv_iload hx hb dX7_written_8 (lv_at hl 0 rfl) ?_
    refine lv_iconst (v := (-1)) hx hb dX7_written_10 (by decide) ?_
    refine lv_icmp_ne (tgt := 16) hx hb dX7_written_11 (by decide) (fun c_23528 => ?_) (fun c_23528 => ?_)
    · have c_23528 : ¬ v_23527.toInt = -1 := by rw [ka_eq', show ((-1 : Int32)).toInt = -1 from by decide] at c_23528; exact c_23528
      refine lv_iload_n hx hb dX7_written_16 rfl (lv_at hl 4 rfl) ?_
      refine lv_iconst (v := (-1)) hx hb dX7_written_17 (by decide) ?_
      refine lv_icmp_ne (tgt := 31) hx hb dX7_written_18 (by decide) (fun c_ => absurd (by decide) c_) (fun _ => ?_)
      refine lv_aload_n hx hb dX7_written_21 rfl (lv_at hl 1 rfl) ?_
      refine ka_get C lq_285 rfl hK hP 0 rfl 3 (by decide) lq_286 rfl dX7_written_22 ?_
      refine lv_iload hx hb dX7_written_25 (lv_at hl 0 rfl) ?_
      refine va_iald hx hb hK hP 1 0 rfl rfl (ka_in (by omega) (by omega)) dX7_written_27 ?_
      refine lv_topi (fun v_23529 ev_23529 => ?_)
      have hv_23529 := hf0 (Int32.toNatClampNeg v_23527); rw [← ev_23529] at hv_23529
      refine lv_goto (tgt := 64) hx hb dX7_written_28 (by decide) ?_
      exact ka_rRi C hr hlk ⟨_, rfl⟩ dX7_written_64
    · have c_23528 : v_23527.toInt = -1 := by rw [ka_eq', show ((-1 : Int32)).toInt = -1 from by decide] at c_23528; exact c_23528
      refine lv_iconst (v := (-1)) hx hb dX7_written_14 (by decide) ?_
      exact ka_rRi C hr hlk ⟨_, rfl⟩ dX7_written_15
  · skip
    refine lv_aload_n hx hb dX7_written_0 rfl (lv_at hl 0 rfl) ?_
    refine lv_iload_n hx hb dX7_written_1 rfl (lv_at hl 1 rfl) ?_
    refine lv_iload_n hx hb dX7_written_2 rfl (lv_at hl 2 rfl) ?_
    refine ka_RV (n := 2) C (cg_X7_formula_229 l D F a0 x0 x1 a1 x3 a2 a3 a4 a5 a6 a7 a8 x4 x5 x6 x7 x8 x9 x10 a9 a10 a11 a12 a13 a14 x11 x12 x13 x14 x15 x16 k2 f2 k3 f3 ⟨by omega, by omega⟩ ⟨by omega, by omega⟩ ⟨by omega, by omega⟩ ⟨by omega, by omega⟩ ⟨by omega, by omega⟩ ⟨by omega, by omega⟩ ⟨by omega, by omega⟩ ⟨by omega, by omega⟩ ⟨by omega, by omega⟩ ⟨by omega, by omega⟩ hf3) gX7_written_X7_formula rfl (by decide +kernel) ⟨Nat.le_of_ble_eq_true rfl, Nat.le_of_ble_eq_true rfl⟩ hK hP hS hE hN [0, 3, 4] rfl [2, 3] rfl (ci := 7) rfl rfl 0 rfl rfl hl.1 (rest := []) rfl (Nat.le_of_ble_eq_true rfl) dX7_written_3 ⟨Nat.le_of_ble_eq_true rfl, Nat.le_of_ble_eq_true rfl⟩ (fun v hv => ?_)
    obtain ⟨v_23530, rfl, hv_23530⟩ := hv
    have rv_23530 := ka_rng v_23530
    refine ka_stk (w := [.int v_23530]) rfl ?_
    refine lv_istore (lv' := [(4, .int v_23530), (0, .ref a0), (1, .int x0), (2, .int x1), (3, .int x2)]) hx hb dX7_written_6 hl (by decide) rfl (fun ls hl => ?_)
    refine lv_iload hx hb dX7_written_8 (lv_at hl 0 rfl) ?_
    refine lv_iconst (v := (-1)) hx hb dX7_written_10 (by decide) ?_
    refine lv_icmp_ne (tgt := 16) hx hb dX7_written_11 (by decide) (fun c_23531 => ?_) (fun c_23531 => ?_)
    · have c_23531 : ¬ v_23530.toInt = -1 := by rw [ka_eq', show ((-1 : Int32)).toInt = -1 from by decide] at c_23531; exact c_23531
      refine lv_iload_n hx hb dX7_written_16 rfl (lv_at hl 4 rfl) ?_
      refine lv_iconst (v := (-1)) hx hb dX7_written_17 (by decide) ?_
      refine lv_icmp_ne (tgt := 31) hx hb dX7_written_18 (by decide) (fun _ => ?_) (fun c_ => absurd c_ (show ¬ x2 = (-1) from by rw [ka_eq', show ((-1 : Int32)).toInt = -1 from by decide]; omega))
      refine lv_iload_n hx hb dX7_written_31 rfl (lv_at hl 4 rfl) ?_
      refine lv_iconst (v := 0) hx hb dX7_written_32 (by decide) ?_
      refine lv_aload_n hx hb dX7_written_33 rfl (lv_at hl 1 rfl) ?_
      refine ka_get C lq_285 rfl hK hP 0 rfl 3 (by decide) lq_286 rfl dX7_written_34 ?_
      refine lv_iload hx hb dX7_written_37 (lv_at hl 0 rfl) ?_
      refine va_iald hx hb hK hP 1 0 rfl rfl (ka_in (by omega) (by omega)) dX7_written_39 ?_
      refine lv_topi (fun v_23532 ev_23532 => ?_)
      have hv_23532 := hf0 (Int32.toNatClampNeg v_23530); rw [← ev_23532] at hv_23532
      refine lv_iconst (v := 1) hx hb dX7_written_40 (by decide) ?_
      refine lv_isub hx hb dX7_written_41 ?_
      refine lv_topi (fun v_23533 ev_23533 => ?_)
      have fv_23533 : v_23533.toInt = v_23532.toInt - 1 := by rw [ev_23533]; exact ka_sub (x := v_23532.toInt) (y := 1) rfl (by decide) (by omega) (by omega)
      refine ka_RS (n := 3) C (cg_X7_isIn_236 l D F x2 v_23533 ⟨by omega, by omega⟩ ⟨by omega, by omega⟩) gX7_written_X7_isIn rfl (by decide +kernel) ⟨Nat.le_of_ble_eq_true rfl, Nat.le_of_ble_eq_true rfl⟩ hK hP hS hE hN [] rfl [] rfl rfl hl.1 (rest := []) rfl (Nat.le_of_ble_eq_true rfl) dX7_written_42 ⟨Nat.le_of_ble_eq_true rfl, Nat.le_of_ble_eq_true rfl⟩ (fun v hv => ?_)
      obtain ⟨v_23534, rfl, hv_23534⟩ := hv
      have rv_23534 := ka_rng v_23534
      refine ka_stk (w := [.int v_23534]) rfl ?_
      refine lv_if_eq (tgt := 63) hx hb dX7_written_45 (by decide) (fun c_23535 => ?_) (fun c_23535 => ?_)
      · have c_23535 : v_23534.toInt = 0 := by rw [ka_eq', show ((0 : Int32)).toInt = 0 from by decide] at c_23535; exact c_23535
        refine lv_iconst (v := (-1)) hx hb dX7_written_63 (by decide) ?_
        exact ka_rRi C hr hlk ⟨_, rfl⟩ dX7_written_64
      · have c_23535 : ¬ v_23534.toInt = 0 := by rw [ka_eq', show ((0 : Int32)).toInt = 0 from by decide] at c_23535; exact c_23535
        refine lv_aload_n hx hb dX7_written_48 rfl (lv_at hl 1 rfl) ?_
        refine ka_get C lq_285 rfl hK hP 0 rfl 4 (by decide) lq_287 rfl dX7_written_49 ?_
        refine lv_bipush (v := 60) hx hb dX7_written_52 (by decide) ?_
        refine lv_iload hx hb dX7_written_54 (lv_at hl 0 rfl) ?_
        refine lv_imul hx hb dX7_written_56 ?_
        refine lv_topi (fun v_23536 ev_23536 => ?_)
        have fv_23536 : v_23536.toInt = 60 * v_23530.toInt := by rw [ev_23536]; exact ka_mul (x := 60) (y := v_23530.toInt) (by decide) rfl (by omega) (by omega)
        refine lv_iload_n hx hb dX7_written_57 rfl (lv_at hl 4 rfl) ?_
        refine lv_iadd hx hb dX7_written_58 ?_
        refine lv_topi (fun v_23537 ev_23537 => ?_)
        have fv_23537 : v_23537.toInt = v_23536.toInt + x2.toInt := by rw [ev_23537]; exact ka_add (x := v_23536.toInt) (y := x2.toInt) rfl rfl (by omega) (by omega)
        refine va_bald hx hb hK hP 2 1 rfl rfl (ka_in (by omega) (by omega)) dX7_written_59 ?_
        refine lv_topi (fun v_23538 ev_23538 => ?_)
        refine lv_goto (tgt := 64) hx hb dX7_written_60 (by decide) ?_
        exact ka_rRi C hr hlk ⟨_, rfl⟩ dX7_written_64
    · have c_23531 : v_23530.toInt = -1 := by rw [ka_eq', show ((-1 : Int32)).toInt = -1 from by decide] at c_23531; exact c_23531
      refine lv_iconst (v := (-1)) hx hb dX7_written_14 (by decide) ?_
      exact ka_rRi C hr hlk ⟨_, rfl⟩ dX7_written_15
  · skip
    refine lv_aload_n hx hb dX7_written_0 rfl (lv_at hl 0 rfl) ?_
    refine lv_iload_n hx hb dX7_written_1 rfl (lv_at hl 1 rfl) ?_
    refine lv_iload_n hx hb dX7_written_2 rfl (lv_at hl 2 rfl) ?_
    refine ka_RV (n := 2) C (cg_X7_formula_229 l D F a0 x0 x1 a1 x3 a2 a3 a4 a5 a6 a7 a8 x4 x5 x6 x7 x8 x9 x10 a9 a10 a11 a12 a13 a14 x11 x12 x13 x14 x15 x16 k2 f2 k3 f3 ⟨by omega, by omega⟩ ⟨by omega, by omega⟩ ⟨by omega, by omega⟩ ⟨by omega, by omega⟩ ⟨by omega, by omega⟩ ⟨by omega, by omega⟩ ⟨by omega, by omega⟩ ⟨by omega, by omega⟩ ⟨by omega, by omega⟩ ⟨by omega, by omega⟩ hf3) gX7_written_X7_formula rfl (by decide +kernel) ⟨Nat.le_of_ble_eq_true rfl, Nat.le_of_ble_eq_true rfl⟩ hK hP hS hE hN [0, 3, 4] rfl [2, 3] rfl (ci := 7) rfl rfl 0 rfl rfl hl.1 (rest := []) rfl (Nat.le_of_ble_eq_true rfl) dX7_written_3 ⟨Nat.le_of_ble_eq_true rfl, Nat.le_of_ble_eq_true rfl⟩ (fun v hv => ?_)
    obtain ⟨v_23539, rfl, hv_23539⟩ := hv
    have rv_23539 := ka_rng v_23539
    refine ka_stk (w := [.int v_23539]) rfl ?_
    refine lv_istore (lv' := [(4, .int v_23539), (0, .ref a0), (1, .int x0), (2, .int x1), (3, .int x2)]) hx hb dX7_written_6 hl (by decide) rfl (fun ls hl => ?_)
    refine lv_iload hx hb dX7_written_8 (lv_at hl 0 rfl) ?_
    refine lv_iconst (v := (-1)) hx hb dX7_written_10 (by decide) ?_
    refine lv_icmp_ne (tgt := 16) hx hb dX7_written_11 (by decide) (fun c_23540 => ?_) (fun c_23540 => ?_)
    · have c_23540 : ¬ v_23539.toInt = -1 := by rw [ka_eq', show ((-1 : Int32)).toInt = -1 from by decide] at c_23540; exact c_23540
      refine lv_iload_n hx hb dX7_written_16 rfl (lv_at hl 4 rfl) ?_
      refine lv_iconst (v := (-1)) hx hb dX7_written_17 (by decide) ?_
      refine lv_icmp_ne (tgt := 31) hx hb dX7_written_18 (by decide) (fun _ => ?_) (fun c_ => absurd c_ (show ¬ x2 = (-1) from by rw [ka_eq', show ((-1 : Int32)).toInt = -1 from by decide]; omega))
      refine lv_iload_n hx hb dX7_written_31 rfl (lv_at hl 4 rfl) ?_
      refine lv_iconst (v := 0) hx hb dX7_written_32 (by decide) ?_
      refine lv_aload_n hx hb dX7_written_33 rfl (lv_at hl 1 rfl) ?_
      refine ka_get C lq_285 rfl hK hP 0 rfl 3 (by decide) lq_286 rfl dX7_written_34 ?_
      refine lv_iload hx hb dX7_written_37 (lv_at hl 0 rfl) ?_
      refine va_iald hx hb hK hP 1 0 rfl rfl (ka_in (by omega) (by omega)) dX7_written_39 ?_
      refine lv_topi (fun v_23541 ev_23541 => ?_)
      have hv_23541 := hf0 (Int32.toNatClampNeg v_23539); rw [← ev_23541] at hv_23541
      refine lv_iconst (v := 1) hx hb dX7_written_40 (by decide) ?_
      refine lv_isub hx hb dX7_written_41 ?_
      refine lv_topi (fun v_23542 ev_23542 => ?_)
      have fv_23542 : v_23542.toInt = v_23541.toInt - 1 := by rw [ev_23542]; exact ka_sub (x := v_23541.toInt) (y := 1) rfl (by decide) (by omega) (by omega)
      refine ka_RS (n := 3) C (cg_X7_isIn_237 l D F x2 v_23542 (by omega) ⟨by omega, by omega⟩) gX7_written_X7_isIn rfl (by decide +kernel) ⟨Nat.le_of_ble_eq_true rfl, Nat.le_of_ble_eq_true rfl⟩ hK hP hS hE hN [] rfl [] rfl rfl hl.1 (rest := []) rfl (Nat.le_of_ble_eq_true rfl) dX7_written_42 ⟨Nat.le_of_ble_eq_true rfl, Nat.le_of_ble_eq_true rfl⟩ (fun v hv => ?_)
      subst hv
      refine ka_stk (w := [.int 0]) rfl ?_
      refine lv_if_eq (tgt := 63) hx hb dX7_written_45 (by decide) (fun _ => ?_) (fun c_ => absurd (by decide) c_)
      refine lv_iconst (v := (-1)) hx hb dX7_written_63 (by decide) ?_
      exact ka_rRi C hr hlk ⟨_, rfl⟩ dX7_written_64
    · have c_23540 : v_23539.toInt = -1 := by rw [ka_eq', show ((-1 : Int32)).toInt = -1 from by decide] at c_23540; exact c_23540
      refine lv_iconst (v := (-1)) hx hb dX7_written_14 (by decide) ?_
      exact ka_rRi C hr hlk ⟨_, rfl⟩ dX7_written_15
theorem lq_288 : ∀ w ∈ wsX70, w ∈ wsX7_hangsOn := by decide +kernel
theorem lq_289 : Cond.fieldLink RX7 30 "AskedBackModel" "isNeeded" "[Z" ∈ wsX7_hangsOn := by decide +kernel
set_option maxHeartbeats 4000000 in
set_option maxRecDepth 100000 in
theorem cg_X7_hangsOn_239 (l : Launch) (D : va_G) (F : Nat → Prop) (a0 : Nat) (x0 : Int32) (x1 : Int32) (a1 : Nat) (x2 : Int32) (a2 : Nat) (a3 : Nat) (a4 : Nat) (a5 : Nat) (a6 : Nat) (a7 : Nat) (a8 : Nat) (x3 : Int32) (x4 : Int32) (x5 : Int32) (x6 : Int32) (x7 : Int32) (x8 : Int32) (x9 : Int32) (a9 : Nat) (a10 : Nat) (a11 : Nat) (a12 : Nat) (a13 : Nat) (a14 : Nat) (x10 : Int32) (x11 : Int32) (x12 : Int32) (x13 : Int32) (x14 : Int32) (x15 : Int32) (k0 : ClassId) (f0 : Nat → Int32) (hx0 : 0 ≤ x0.toInt ∧ x0.toInt ≤ 5) (hx1 : 0 ≤ x1.toInt ∧ x1.toInt ≤ 5) (hx2 : 0 ≤ x2.toInt ∧ x2.toInt ≤ 80) (hx3 : -1 ≤ x3.toInt ∧ x3.toInt ≤ 5) (hx6 : 1 ≤ x6.toInt ∧ x6.toInt ≤ 8) (hx7 : 0 ≤ x7.toInt ∧ x7.toInt ≤ 40) (hx9 : 0 ≤ x9.toInt ∧ x9.toInt ≤ 10) (hx10 : 0 ≤ x10.toInt ∧ x10.toInt ≤ 60) (hx11 : 0 ≤ x11.toInt ∧ x11.toInt ≤ 60) (hx12 : 0 ≤ x12.toInt ∧ x12.toInt ≤ 60) (hx13 : 0 ≤ x13.toInt ∧ x13.toInt ≤ 8) (hx15 : 0 ≤ x15.toInt ∧ x15.toInt ≤ 1) : ka_R l D F yX7_hangsOn wsX7_hangsOn 0 0 [.ref a0, .int x0, .int x1] [(a0, .inr (7, [.ref a1, .int x2, .ref a2, .ref a3, .ref a4, .ref a5, .ref a6, .ref a7, .ref a8, .int x3, .int x4, .int x5, .int x6, .int x7, .int x8, .int x9, .ref a9, .ref a10, .ref a11, .ref a12, .ref a13, .ref a14, .int x10, .int x11, .int x12, .int x13, .int x14, .int x15])), (a7, .inl (k0, 36, .inl f0))] [(k0, .boolean)] (fun v => ∃ x : Int32, v = some (.int x) ∧ 0 ≤ x.toInt ∧ x.toInt ≤ 1) := by
  refine ka_R_of (cc := cX7_hangsOn) (maxL := 7) (ret := (some .boolean)) (by decide) rfl (Nat.le_of_ble_eq_true rfl) ?_
  intro p e s m below meth c ls C hr hlk hP hK hE hN hl
  have hS : va_S (fun _ => False) s.heap s.heap [] := va_S.rf
  have C : CallFix p m c cX7_hangsOn 7 s [.ref a0, .int x0, .int x1].toArray wsX7_hangsOn RX7 := C
  obtain ⟨hx, hb, hml, hown, hts⟩ := id C
  have hl : lv_has ls 7 [(0, .ref a0), (1, .int x0), (2, .int x1)] := hl
  have rx0 := ka_rng x0
  have rx1 := ka_rng x1
  have rx2 := ka_rng x2
  have rx3 := ka_rng x3
  have rx4 := ka_rng x4
  have rx5 := ka_rng x5
  have rx6 := ka_rng x6
  have rx7 := ka_rng x7
  have rx8 := ka_rng x8
  have rx9 := ka_rng x9
  have rx10 := ka_rng x10
  have rx11 := ka_rng x11
  have rx12 := ka_rng x12
  have rx13 := ka_rng x13
  have rx14 := ka_rng x14
  have rx15 := ka_rng x15
  refine lv_iconst (v := 1) hx hb dX7_hangsOn_0 (by decide) ?_
  refine lv_iload_n hx hb dX7_hangsOn_1 rfl (lv_at hl 1 rfl) ?_
  refine lv_ishl hx hb dX7_hangsOn_2 ?_
  refine lv_topi (fun v_23843 ev_23843 => ?_)
  refine lv_istore_n (lv' := [(3, .int v_23843), (0, .ref a0), (1, .int x0), (2, .int x1)]) hx hb dX7_hangsOn_3 rfl hl (by decide) rfl (fun ls hl => ?_)
  refine lv_iconst (v := 0) hx hb dX7_hangsOn_4 (by decide) ?_
  refine lv_istore (lv' := [(4, .int 0), (3, .int v_23843), (0, .ref a0), (1, .int x0), (2, .int x1)]) hx hb dX7_hangsOn_5 hl (by decide) rfl (fun ls hl => ?_)
  have lp_23844 : ∀ (n : Nat) (i23844_3 : Int32) (i23844_4 : Int32), (0 ≤ i23844_4.toInt ∧ i23844_4.toInt ≤ 6) → (6 - i23844_4.toInt).toNat < n → ∀ (ls : Array Slot), lv_has ls 7 [(0, .ref a0), (1, .int x0), (2, .int x1), (3, .int i23844_3), (4, .int i23844_4)] → W p l e ({ frames := 0, cells := 0, slots := 0, locals := 0 }) s m [.ref a0, .int x0, .int x1].toArray below meth c s.heap [] 0 0 (MQ below (ka_QR (fun v => ∃ x : Int32, v = some (.int x) ∧ 0 ≤ x.toInt ∧ x.toInt ≤ 1)) [.ref a0, .int x0, .int x1].toArray s 0 0 (fun _ => False)) (F0 m 7 ls []) := by
    intro n
    induction n with
    | zero =>
      intro i23844_3 i23844_4 hi23844_4 hm
      exact absurd hm (Nat.not_lt_zero _)
    | succ n ih_23844 =>
      intro i23844_3 i23844_4 hi23844_4 hm ls hl
      have ri23844_3 := ka_rng i23844_3
      have ri23844_4 := ka_rng i23844_4
      refine lv_iload hx hb dX7_hangsOn_7 (lv_at hl 4 rfl) ?_
      refine lv_bipush (v := 6) hx hb dX7_hangsOn_9 (by decide) ?_
      refine lv_icmp_ge (tgt := 85) hx hb dX7_hangsOn_11 (by decide) (fun c_23912 => ?_) (fun c_23912 => ?_)
      · have c_23912 : 6 ≤ i23844_4.toInt := by rw [ka_le', show ((6 : Int32)).toInt = 6 from by decide] at c_23912; exact c_23912
        refine lv_iload_n hx hb dX7_hangsOn_85 rfl (lv_at hl 3 rfl) ?_
        refine lv_iload_n hx hb dX7_hangsOn_86 rfl (lv_at hl 2 rfl) ?_
        refine lv_ishr hx hb dX7_hangsOn_87 ?_
        refine lv_topi (fun v_23913 ev_23913 => ?_)
        refine lv_iconst (v := 1) hx hb dX7_hangsOn_88 (by decide) ?_
        refine lv_iand hx hb dX7_hangsOn_89 ?_
        refine lv_topi (fun v_23914 ev_23914 => ?_)
        refine lv_iconst (v := 1) hx hb dX7_hangsOn_90 (by decide) ?_
        refine lv_icmp_ne (tgt := 98) hx hb dX7_hangsOn_91 (by decide) (fun c_23915 => ?_) (fun c_23915 => ?_)
        · have c_23915 : ¬ v_23914.toInt = 1 := by rw [ka_eq', show ((1 : Int32)).toInt = 1 from by decide] at c_23915; exact c_23915
          refine lv_iconst (v := 0) hx hb dX7_hangsOn_98 (by decide) ?_
          exact ka_rRz C hr hlk rfl ⟨_, rfl, ⟨by decide, by decide⟩⟩ dX7_hangsOn_99
        · have c_23915 : v_23914.toInt = 1 := by rw [ka_eq', show ((1 : Int32)).toInt = 1 from by decide] at c_23915; exact c_23915
          refine lv_iconst (v := 1) hx hb dX7_hangsOn_94 (by decide) ?_
          refine lv_goto (tgt := 99) hx hb dX7_hangsOn_95 (by decide) ?_
          exact ka_rRz C hr hlk rfl ⟨_, rfl, ⟨by decide, by decide⟩⟩ dX7_hangsOn_99
      · have c_23912 : ¬ 6 ≤ i23844_4.toInt := by rw [ka_le', show ((6 : Int32)).toInt = 6 from by decide] at c_23912; exact c_23912
        refine lv_iconst (v := 0) hx hb dX7_hangsOn_14 (by decide) ?_
        refine lv_istore (lv' := [(5, .int 0), (0, .ref a0), (1, .int x0), (2, .int x1), (3, .int i23844_3), (4, .int i23844_4)]) hx hb dX7_hangsOn_15 hl (by decide) rfl (fun ls hl => ?_)
        have lp_23916 : ∀ (n : Nat) (i23916_3 : Int32) (i23916_5 : Int32), (0 ≤ i23916_5.toInt ∧ i23916_5.toInt ≤ 6) → (6 - i23916_5.toInt).toNat < n → ∀ (ls : Array Slot), lv_has ls 7 [(0, .ref a0), (1, .int x0), (2, .int x1), (3, .int i23916_3), (4, .int i23844_4), (5, .int i23916_5)] → W p l e ({ frames := 0, cells := 0, slots := 0, locals := 0 }) s m [.ref a0, .int x0, .int x1].toArray below meth c s.heap [] 0 0 (MQ below (ka_QR (fun v => ∃ x : Int32, v = some (.int x) ∧ 0 ≤ x.toInt ∧ x.toInt ≤ 1)) [.ref a0, .int x0, .int x1].toArray s 0 0 (fun _ => False)) (F0 m 17 ls []) := by
          intro n
          induction n with
          | zero =>
            intro i23916_3 i23916_5 hi23916_5 hm
            exact absurd hm (Nat.not_lt_zero _)
          | succ n ih_23916 =>
            intro i23916_3 i23916_5 hi23916_5 hm ls hl
            have ri23916_3 := ka_rng i23916_3
            have ri23916_5 := ka_rng i23916_5
            refine lv_iload hx hb dX7_hangsOn_17 (lv_at hl 5 rfl) ?_
            refine lv_bipush (v := 6) hx hb dX7_hangsOn_19 (by decide) ?_
            refine lv_icmp_ge (tgt := 79) hx hb dX7_hangsOn_21 (by decide) (fun c_23948 => ?_) (fun c_23948 => ?_)
            · have c_23948 : 6 ≤ i23916_5.toInt := by rw [ka_le', show ((6 : Int32)).toInt = 6 from by decide] at c_23948; exact c_23948
              obtain ⟨v_23949, ev_23949⟩ : ∃ y : Int32, y = i23844_4 + 1 := ⟨_, rfl⟩
              refine lv_iinc (v := v_23949) (lv' := [(4, .int v_23949), (0, .ref a0), (1, .int x0), (2, .int x1), (3, .int i23916_3), (5, .int i23916_5)]) hx hb dX7_hangsOn_79 hl (k := 4) rfl (by rw [ev_23949]; rfl) (by decide) rfl (fun ls hl => ?_)
              have fv_23949 : v_23949.toInt = i23844_4.toInt + 1 := by rw [ev_23949]; exact ka_add (x := i23844_4.toInt) (y := 1) rfl (by decide) (by omega) (by omega)
              refine lv_goto (tgt := 7) hx hb dX7_hangsOn_82 (by decide) ?_
              exact ih_23844 i23916_3 v_23949 ⟨by omega, by omega⟩ (by omega) ls (lv_sub hl [1, 2, 3, 4, 0] rfl)
            · have c_23948 : ¬ 6 ≤ i23916_5.toInt := by rw [ka_le', show ((6 : Int32)).toInt = 6 from by decide] at c_23948; exact c_23948
              refine lv_iconst (v := 0) hx hb dX7_hangsOn_24 (by decide) ?_
              refine lv_istore (lv' := [(6, .int 0), (0, .ref a0), (1, .int x0), (2, .int x1), (3, .int i23916_3), (4, .int i23844_4), (5, .int i23916_5)]) hx hb dX7_hangsOn_25 hl (by decide) rfl (fun ls hl => ?_)
              have lp_23950 : ∀ (n : Nat) (i23950_3 : Int32) (i23950_6 : Int32), (0 ≤ i23950_6.toInt ∧ i23950_6.toInt ≤ 6) → (6 - i23950_6.toInt).toNat < n → ∀ (ls : Array Slot), lv_has ls 7 [(0, .ref a0), (1, .int x0), (2, .int x1), (3, .int i23950_3), (4, .int i23844_4), (5, .int i23916_5), (6, .int i23950_6)] → W p l e ({ frames := 0, cells := 0, slots := 0, locals := 0 }) s m [.ref a0, .int x0, .int x1].toArray below meth c s.heap [] 0 0 (MQ below (ka_QR (fun v => ∃ x : Int32, v = some (.int x) ∧ 0 ≤ x.toInt ∧ x.toInt ≤ 1)) [.ref a0, .int x0, .int x1].toArray s 0 0 (fun _ => False)) (F0 m 27 ls []) := by
                intro n
                induction n with
                | zero =>
                  intro i23950_3 i23950_6 hi23950_6 hm
                  exact absurd hm (Nat.not_lt_zero _)
                | succ n ih_23950 =>
                  intro i23950_3 i23950_6 hi23950_6 hm ls hl
                  have ri23950_3 := ka_rng i23950_3
                  have ri23950_6 := ka_rng i23950_6
                  refine lv_iload hx hb dX7_hangsOn_27 (lv_at hl 6 rfl) ?_
                  refine lv_bipush (v := 6) hx hb dX7_hangsOn_29 (by decide) ?_
                  refine lv_icmp_ge (tgt := 73) hx hb dX7_hangsOn_31 (by decide) (fun c_23965 => ?_) (fun c_23965 => ?_)
                  · have c_23965 : 6 ≤ i23950_6.toInt := by rw [ka_le', show ((6 : Int32)).toInt = 6 from by decide] at c_23965; exact c_23965
                    obtain ⟨v_23966, ev_23966⟩ : ∃ y : Int32, y = i23916_5 + 1 := ⟨_, rfl⟩
                    refine lv_iinc (v := v_23966) (lv' := [(5, .int v_23966), (0, .ref a0), (1, .int x0), (2, .int x1), (3, .int i23950_3), (4, .int i23844_4), (6, .int i23950_6)]) hx hb dX7_hangsOn_73 hl (k := 5) rfl (by rw [ev_23966]; rfl) (by decide) rfl (fun ls hl => ?_)
                    have fv_23966 : v_23966.toInt = i23916_5.toInt + 1 := by rw [ev_23966]; exact ka_add (x := i23916_5.toInt) (y := 1) rfl (by decide) (by omega) (by omega)
                    refine lv_goto (tgt := 17) hx hb dX7_hangsOn_76 (by decide) ?_
                    exact ih_23916 i23950_3 v_23966 ⟨by omega, by omega⟩ (by omega) ls (lv_sub hl [1, 2, 3, 4, 5, 0] rfl)
                  · have c_23965 : ¬ 6 ≤ i23950_6.toInt := by rw [ka_le', show ((6 : Int32)).toInt = 6 from by decide] at c_23965; exact c_23965
                    refine lv_iload_n hx hb dX7_hangsOn_34 rfl (lv_at hl 3 rfl) ?_
                    refine lv_iload hx hb dX7_hangsOn_35 (lv_at hl 5 rfl) ?_
                    refine lv_ishr hx hb dX7_hangsOn_37 ?_
                    refine lv_topi (fun v_23967 ev_23967 => ?_)
                    refine lv_iconst (v := 1) hx hb dX7_hangsOn_38 (by decide) ?_
                    refine lv_iand hx hb dX7_hangsOn_39 ?_
                    refine lv_topi (fun v_23968 ev_23968 => ?_)
                    refine lv_iconst (v := 1) hx hb dX7_hangsOn_40 (by decide) ?_
                    refine lv_icmp_ne (tgt := 67) hx hb dX7_hangsOn_41 (by decide) (fun c_23969 => ?_) (fun c_23969 => ?_)
                    · have c_23969 : ¬ v_23968.toInt = 1 := by rw [ka_eq', show ((1 : Int32)).toInt = 1 from by decide] at c_23969; exact c_23969
                      obtain ⟨v_23970, ev_23970⟩ : ∃ y : Int32, y = i23950_6 + 1 := ⟨_, rfl⟩
                      refine lv_iinc (v := v_23970) (lv' := [(6, .int v_23970), (0, .ref a0), (1, .int x0), (2, .int x1), (3, .int i23950_3), (4, .int i23844_4), (5, .int i23916_5)]) hx hb dX7_hangsOn_67 hl (k := 6) rfl (by rw [ev_23970]; rfl) (by decide) rfl (fun ls hl => ?_)
                      have fv_23970 : v_23970.toInt = i23950_6.toInt + 1 := by rw [ev_23970]; exact ka_add (x := i23950_6.toInt) (y := 1) rfl (by decide) (by omega) (by omega)
                      refine lv_goto (tgt := 27) hx hb dX7_hangsOn_70 (by decide) ?_
                      exact ih_23950 i23950_3 v_23970 ⟨by omega, by omega⟩ (by omega) ls (lv_sub hl [1, 2, 3, 4, 5, 6, 0] rfl)
                    · have c_23969 : v_23968.toInt = 1 := by rw [ka_eq', show ((1 : Int32)).toInt = 1 from by decide] at c_23969; exact c_23969
                      refine lv_aload_n hx hb dX7_hangsOn_44 rfl (lv_at hl 0 rfl) ?_
                      refine ka_get C lq_288 rfl hK hP 0 rfl 7 (by decide) lq_289 rfl dX7_hangsOn_45 ?_
                      refine lv_bipush (v := 6) hx hb dX7_hangsOn_48 (by decide) ?_
                      refine lv_iload hx hb dX7_hangsOn_50 (lv_at hl 5 rfl) ?_
                      refine lv_imul hx hb dX7_hangsOn_52 ?_
                      refine lv_topi (fun v_23971 ev_23971 => ?_)
                      have fv_23971 : v_23971.toInt = 6 * i23916_5.toInt := by rw [ev_23971]; exact ka_mul (x := 6) (y := i23916_5.toInt) (by decide) rfl (by omega) (by omega)
                      refine lv_iload hx hb dX7_hangsOn_53 (lv_at hl 6 rfl) ?_
                      refine lv_iadd hx hb dX7_hangsOn_55 ?_
                      refine lv_topi (fun v_23972 ev_23972 => ?_)
                      have fv_23972 : v_23972.toInt = v_23971.toInt + i23950_6.toInt := by rw [ev_23972]; exact ka_add (x := v_23971.toInt) (y := i23950_6.toInt) rfl rfl (by omega) (by omega)
                      refine va_zald hx hb hK hP 1 0 rfl rfl (ka_in (by omega) (by omega)) dX7_hangsOn_56 ?_
                      refine lv_topi (fun v_23973 ev_23973 => ?_)
                      refine lv_if_eq (tgt := 67) hx hb dX7_hangsOn_57 (by decide) (fun c_23974 => ?_) (fun c_23974 => ?_)
                      · have c_23974 : v_23973.toInt = 0 := by rw [ka_eq', show ((0 : Int32)).toInt = 0 from by decide] at c_23974; exact c_23974
                        obtain ⟨v_23975, ev_23975⟩ : ∃ y : Int32, y = i23950_6 + 1 := ⟨_, rfl⟩
                        refine lv_iinc (v := v_23975) (lv' := [(6, .int v_23975), (0, .ref a0), (1, .int x0), (2, .int x1), (3, .int i23950_3), (4, .int i23844_4), (5, .int i23916_5)]) hx hb dX7_hangsOn_67 hl (k := 6) rfl (by rw [ev_23975]; rfl) (by decide) rfl (fun ls hl => ?_)
                        have fv_23975 : v_23975.toInt = i23950_6.toInt + 1 := by rw [ev_23975]; exact ka_add (x := i23950_6.toInt) (y := 1) rfl (by decide) (by omega) (by omega)
                        refine lv_goto (tgt := 27) hx hb dX7_hangsOn_70 (by decide) ?_
                        exact ih_23950 i23950_3 v_23975 ⟨by omega, by omega⟩ (by omega) ls (lv_sub hl [1, 2, 3, 4, 5, 6, 0] rfl)
                      · have c_23974 : ¬ v_23973.toInt = 0 := by rw [ka_eq', show ((0 : Int32)).toInt = 0 from by decide] at c_23974; exact c_23974
                        refine lv_iload_n hx hb dX7_hangsOn_60 rfl (lv_at hl 3 rfl) ?_
                        refine lv_iconst (v := 1) hx hb dX7_hangsOn_61 (by decide) ?_
                        refine lv_iload hx hb dX7_hangsOn_62 (lv_at hl 6 rfl) ?_
                        refine lv_ishl hx hb dX7_hangsOn_64 ?_
                        refine lv_topi (fun v_23976 ev_23976 => ?_)
                        refine lv_ior hx hb dX7_hangsOn_65 ?_
                        refine lv_topi (fun v_23977 ev_23977 => ?_)
                        refine lv_istore_n (lv' := [(3, .int v_23977), (0, .ref a0), (1, .int x0), (2, .int x1), (4, .int i23844_4), (5, .int i23916_5), (6, .int i23950_6)]) hx hb dX7_hangsOn_66 rfl hl (by decide) rfl (fun ls hl => ?_)
                        obtain ⟨v_23978, ev_23978⟩ : ∃ y : Int32, y = i23950_6 + 1 := ⟨_, rfl⟩
                        refine lv_iinc (v := v_23978) (lv' := [(6, .int v_23978), (3, .int v_23977), (0, .ref a0), (1, .int x0), (2, .int x1), (4, .int i23844_4), (5, .int i23916_5)]) hx hb dX7_hangsOn_67 hl (k := 6) rfl (by rw [ev_23978]; rfl) (by decide) rfl (fun ls hl => ?_)
                        have fv_23978 : v_23978.toInt = i23950_6.toInt + 1 := by rw [ev_23978]; exact ka_add (x := i23950_6.toInt) (y := 1) rfl (by decide) (by omega) (by omega)
                        refine lv_goto (tgt := 27) hx hb dX7_hangsOn_70 (by decide) ?_
                        exact ih_23950 v_23977 v_23978 ⟨by omega, by omega⟩ (by omega) ls (lv_sub hl [2, 3, 4, 1, 5, 6, 0] rfl)
              exact lp_23950 _ i23916_3 0 ⟨by decide, by decide⟩ (Nat.lt_succ_self _) ls (lv_sub hl [1, 2, 3, 4, 5, 6, 0] rfl)
        exact lp_23916 _ i23844_3 0 ⟨by decide, by decide⟩ (Nat.lt_succ_self _) ls (lv_sub hl [1, 2, 3, 4, 5, 0] rfl)
  exact lp_23844 _ v_23843 0 ⟨by decide, by decide⟩ (Nat.lt_succ_self _) ls (lv_sub hl [2, 3, 4, 1, 0] rfl)
theorem lq_290 : ∀ w ∈ wsX70, w ∈ wsX7_needs := by decide +kernel
theorem lq_291 : Cond.fieldLink RX7 30 "AskedBackModel" "isNeeded" "[Z" ∈ wsX7_needs := by decide +kernel
set_option maxHeartbeats 4000000 in
set_option maxRecDepth 100000 in
theorem cg_X7_needs_240 (l : Launch) (D : va_G) (F : Nat → Prop) (a0 : Nat) (x0 : Int32) (x1 : Int32) (a1 : Nat) (x2 : Int32) (a2 : Nat) (a3 : Nat) (a4 : Nat) (a5 : Nat) (a6 : Nat) (a7 : Nat) (a8 : Nat) (x3 : Int32) (x4 : Int32) (x5 : Int32) (x6 : Int32) (x7 : Int32) (x8 : Int32) (x9 : Int32) (a9 : Nat) (a10 : Nat) (a11 : Nat) (a12 : Nat) (a13 : Nat) (a14 : Nat) (x10 : Int32) (x11 : Int32) (x12 : Int32) (x13 : Int32) (x14 : Int32) (x15 : Int32) (k0 : ClassId) (f0 : Nat → Int32) (hx2 : 0 ≤ x2.toInt ∧ x2.toInt ≤ 80) (hx3 : -1 ≤ x3.toInt ∧ x3.toInt ≤ 5) (hx6 : 1 ≤ x6.toInt ∧ x6.toInt ≤ 8) (hx7 : 0 ≤ x7.toInt ∧ x7.toInt ≤ 40) (hx9 : 0 ≤ x9.toInt ∧ x9.toInt ≤ 10) (hx10 : 0 ≤ x10.toInt ∧ x10.toInt ≤ 60) (hx11 : 0 ≤ x11.toInt ∧ x11.toInt ≤ 60) (hx12 : 0 ≤ x12.toInt ∧ x12.toInt ≤ 60) (hx13 : 0 ≤ x13.toInt ∧ x13.toInt ≤ 8) (hx15 : 0 ≤ x15.toInt ∧ x15.toInt ≤ 1) : ka_E l D F yX7_needs wsX7_needs 2 42 0 0 [.ref a0, .int x0, .int x1] [(a0, .inr (7, [.ref a1, .int x2, .ref a2, .ref a3, .ref a4, .ref a5, .ref a6, .ref a7, .ref a8, .int x3, .int x4, .int x5, .int x6, .int x7, .int x8, .int x9, .ref a9, .ref a10, .ref a11, .ref a12, .ref a13, .ref a14, .int x10, .int x11, .int x12, .int x13, .int x14, .int x15])), (a7, .inl (k0, 36, .inl f0))] [(k0, .boolean)] (fun (u : (Nat → Int32) × (Int32)) => some (.int (u.2))) (fun (u : (Nat → Int32) × (Int32)) => (0 ≤ (u.2).toInt ∧ (u.2).toInt ≤ 1)) (fun (u : (Nat → Int32) × (Int32)) => [(a0, .inr (7, [.ref a1, .int x2, .ref a2, .ref a3, .ref a4, .ref a5, .ref a6, .ref a7, .ref a8, .int x3, .int x4, .int x5, .int x6, .int x7, .int x8, .int x9, .ref a9, .ref a10, .ref a11, .ref a12, .ref a13, .ref a14, .int x10, .int x11, .int x12, .int x13, .int x14, .int x15])), (a7, .inl (k0, 36, .inl (u.1)))]) (fun (u : (Nat → Int32) × (Int32)) => []) := by
  refine ka_E_of (cc := cX7_needs) (maxL := 3) (ret := (some .boolean)) (by decide) rfl (Nat.le_of_ble_eq_true rfl) ?_
  intro p e s m below meth c ls A C hr hlk hin hP hK hD hS hA hE hN hl
  have C : CallFix p m c cX7_needs 3 s [.ref a0, .int x0, .int x1].toArray wsX7_needs RX7 := C
  obtain ⟨hx, hb, hml, hown, hts⟩ := id C
  have hl : lv_has ls 3 [(0, .ref a0), (1, .int x0), (2, .int x1)] := hl
  have rx0 := ka_rng x0
  have rx1 := ka_rng x1
  have rx2 := ka_rng x2
  have rx3 := ka_rng x3
  have rx4 := ka_rng x4
  have rx5 := ka_rng x5
  have rx6 := ka_rng x6
  have rx7 := ka_rng x7
  have rx8 := ka_rng x8
  have rx9 := ka_rng x9
  have rx10 := ka_rng x10
  have rx11 := ka_rng x11
  have rx12 := ka_rng x12
  have rx13 := ka_rng x13
  have rx14 := ka_rng x14
  have rx15 := ka_rng x15
  rcases (show x0.toInt ≤ -1 ∨ (0 ≤ x0.toInt ∧ x0.toInt ≤ 5) ∨ 6 ≤ x0.toInt by omega) with y_24027 | y_24027 | y_24027
  · skip
    rcases (show x1.toInt ≤ -1 ∨ (0 ≤ x1.toInt ∧ x1.toInt ≤ 5) ∨ 6 ≤ x1.toInt by omega) with y_24028 | y_24028 | y_24028
    · skip
      refine lv_iload_n hx hb dX7_needs_0 rfl (lv_at hl 1 rfl) ?_
      refine ka_RS (n := 1) C (cg_X7_isLesson_217 l D F x0 (by omega)) gX7_needs_X7_isLesson rfl (by decide +kernel) ⟨Nat.le_of_ble_eq_true rfl, Nat.le_of_ble_eq_true rfl⟩ hK hP hS hE hN [] rfl [] rfl rfl hl.1 (rest := []) rfl (Nat.le_of_ble_eq_true rfl) dX7_needs_1 ⟨Nat.le_of_ble_eq_true rfl, Nat.le_of_ble_eq_true rfl⟩ (fun v hv => ?_)
      subst hv
      refine ka_stk (w := [.int 0]) rfl ?_
      refine lv_if_eq (tgt := 42) hx hb dX7_needs_4 (by decide) (fun _ => ?_) (fun c_ => absurd (by decide) c_)
      refine lv_iconst (v := 0) hx hb dX7_needs_42 (by decide) ?_
      exact ka_rEz C hr hlk rfl (Nat.le_of_ble_eq_true rfl) (Nat.le_of_ble_eq_true rfl) hS (ka_qE (f0, 0) rfl (show 0 ≤ ((0 : Int32)).toInt ∧ ((0 : Int32)).toInt ≤ 1 from ⟨by decide, by decide⟩) hK hP hD hS [0, 1] (by decide) rfl [] rfl) dX7_needs_43
    · skip
      refine lv_iload_n hx hb dX7_needs_0 rfl (lv_at hl 1 rfl) ?_
      refine ka_RS (n := 1) C (cg_X7_isLesson_217 l D F x0 (by omega)) gX7_needs_X7_isLesson rfl (by decide +kernel) ⟨Nat.le_of_ble_eq_true rfl, Nat.le_of_ble_eq_true rfl⟩ hK hP hS hE hN [] rfl [] rfl rfl hl.1 (rest := []) rfl (Nat.le_of_ble_eq_true rfl) dX7_needs_1 ⟨Nat.le_of_ble_eq_true rfl, Nat.le_of_ble_eq_true rfl⟩ (fun v hv => ?_)
      subst hv
      refine ka_stk (w := [.int 0]) rfl ?_
      refine lv_if_eq (tgt := 42) hx hb dX7_needs_4 (by decide) (fun _ => ?_) (fun c_ => absurd (by decide) c_)
      refine lv_iconst (v := 0) hx hb dX7_needs_42 (by decide) ?_
      exact ka_rEz C hr hlk rfl (Nat.le_of_ble_eq_true rfl) (Nat.le_of_ble_eq_true rfl) hS (ka_qE (f0, 0) rfl (show 0 ≤ ((0 : Int32)).toInt ∧ ((0 : Int32)).toInt ≤ 1 from ⟨by decide, by decide⟩) hK hP hD hS [0, 1] (by decide) rfl [] rfl) dX7_needs_43
    · skip
      refine lv_iload_n hx hb dX7_needs_0 rfl (lv_at hl 1 rfl) ?_
      refine ka_RS (n := 1) C (cg_X7_isLesson_217 l D F x0 (by omega)) gX7_needs_X7_isLesson rfl (by decide +kernel) ⟨Nat.le_of_ble_eq_true rfl, Nat.le_of_ble_eq_true rfl⟩ hK hP hS hE hN [] rfl [] rfl rfl hl.1 (rest := []) rfl (Nat.le_of_ble_eq_true rfl) dX7_needs_1 ⟨Nat.le_of_ble_eq_true rfl, Nat.le_of_ble_eq_true rfl⟩ (fun v hv => ?_)
      subst hv
      refine ka_stk (w := [.int 0]) rfl ?_
      refine lv_if_eq (tgt := 42) hx hb dX7_needs_4 (by decide) (fun _ => ?_) (fun c_ => absurd (by decide) c_)
      refine lv_iconst (v := 0) hx hb dX7_needs_42 (by decide) ?_
      exact ka_rEz C hr hlk rfl (Nat.le_of_ble_eq_true rfl) (Nat.le_of_ble_eq_true rfl) hS (ka_qE (f0, 0) rfl (show 0 ≤ ((0 : Int32)).toInt ∧ ((0 : Int32)).toInt ≤ 1 from ⟨by decide, by decide⟩) hK hP hD hS [0, 1] (by decide) rfl [] rfl) dX7_needs_43
  · skip
    rcases (show x1.toInt ≤ -1 ∨ (0 ≤ x1.toInt ∧ x1.toInt ≤ 5) ∨ 6 ≤ x1.toInt by omega) with y_24029 | y_24029 | y_24029
    · skip
      refine lv_iload_n hx hb dX7_needs_0 rfl (lv_at hl 1 rfl) ?_
      refine ka_RS (n := 1) C (cg_X7_isLesson_220 l D F x0 ⟨by omega, by omega⟩) gX7_needs_X7_isLesson rfl (by decide +kernel) ⟨Nat.le_of_ble_eq_true rfl, Nat.le_of_ble_eq_true rfl⟩ hK hP hS hE hN [] rfl [] rfl rfl hl.1 (rest := []) rfl (Nat.le_of_ble_eq_true rfl) dX7_needs_1 ⟨Nat.le_of_ble_eq_true rfl, Nat.le_of_ble_eq_true rfl⟩ (fun v hv => ?_)
      subst hv
      refine ka_stk (w := [.int 1]) rfl ?_
      refine lv_if_eq (tgt := 42) hx hb dX7_needs_4 (by decide) (fun c_ => absurd c_ (by decide)) (fun _ => ?_)
      refine lv_iload_n hx hb dX7_needs_7 rfl (lv_at hl 2 rfl) ?_
      refine ka_RS (n := 1) C (cg_X7_isLesson_217 l D F x1 (by omega)) gX7_needs_X7_isLesson rfl (by decide +kernel) ⟨Nat.le_of_ble_eq_true rfl, Nat.le_of_ble_eq_true rfl⟩ hK hP hS hE hN [] rfl [] rfl rfl hl.1 (rest := []) rfl (Nat.le_of_ble_eq_true rfl) dX7_needs_8 ⟨Nat.le_of_ble_eq_true rfl, Nat.le_of_ble_eq_true rfl⟩ (fun v hv => ?_)
      subst hv
      refine ka_stk (w := [.int 0]) rfl ?_
      refine lv_if_eq (tgt := 42) hx hb dX7_needs_11 (by decide) (fun _ => ?_) (fun c_ => absurd (by decide) c_)
      refine lv_iconst (v := 0) hx hb dX7_needs_42 (by decide) ?_
      exact ka_rEz C hr hlk rfl (Nat.le_of_ble_eq_true rfl) (Nat.le_of_ble_eq_true rfl) hS (ka_qE (f0, 0) rfl (show 0 ≤ ((0 : Int32)).toInt ∧ ((0 : Int32)).toInt ≤ 1 from ⟨by decide, by decide⟩) hK hP hD hS [0, 1] (by decide) rfl [] rfl) dX7_needs_43
    · skip
      refine lv_iload_n hx hb dX7_needs_0 rfl (lv_at hl 1 rfl) ?_
      refine ka_RS (n := 1) C (cg_X7_isLesson_220 l D F x0 ⟨by omega, by omega⟩) gX7_needs_X7_isLesson rfl (by decide +kernel) ⟨Nat.le_of_ble_eq_true rfl, Nat.le_of_ble_eq_true rfl⟩ hK hP hS hE hN [] rfl [] rfl rfl hl.1 (rest := []) rfl (Nat.le_of_ble_eq_true rfl) dX7_needs_1 ⟨Nat.le_of_ble_eq_true rfl, Nat.le_of_ble_eq_true rfl⟩ (fun v hv => ?_)
      subst hv
      refine ka_stk (w := [.int 1]) rfl ?_
      refine lv_if_eq (tgt := 42) hx hb dX7_needs_4 (by decide) (fun c_ => absurd c_ (by decide)) (fun _ => ?_)
      refine lv_iload_n hx hb dX7_needs_7 rfl (lv_at hl 2 rfl) ?_
      refine ka_RS (n := 1) C (cg_X7_isLesson_220 l D F x1 ⟨by omega, by omega⟩) gX7_needs_X7_isLesson rfl (by decide +kernel) ⟨Nat.le_of_ble_eq_true rfl, Nat.le_of_ble_eq_true rfl⟩ hK hP hS hE hN [] rfl [] rfl rfl hl.1 (rest := []) rfl (Nat.le_of_ble_eq_true rfl) dX7_needs_8 ⟨Nat.le_of_ble_eq_true rfl, Nat.le_of_ble_eq_true rfl⟩ (fun v hv => ?_)
      subst hv
      refine ka_stk (w := [.int 1]) rfl ?_
      refine lv_if_eq (tgt := 42) hx hb dX7_needs_11 (by decide) (fun c_ => absurd c_ (by decide)) (fun _ => ?_)
      refine lv_iload_n hx hb dX7_needs_14 rfl (lv_at hl 1 rfl) ?_
      refine lv_iload_n hx hb dX7_needs_15 rfl (lv_at hl 2 rfl) ?_
      refine lv_icmp_eq (tgt := 42) hx hb dX7_needs_16 (by decide) (fun c_24030 => ?_) (fun c_24030 => ?_)
      · have c_24030 : x0.toInt = x1.toInt := by rw [ka_eq'] at c_24030; exact c_24030
        refine lv_iconst (v := 0) hx hb dX7_needs_42 (by decide) ?_
        exact ka_rEz C hr hlk rfl (Nat.le_of_ble_eq_true rfl) (Nat.le_of_ble_eq_true rfl) hS (ka_qE (f0, 0) rfl (show 0 ≤ ((0 : Int32)).toInt ∧ ((0 : Int32)).toInt ≤ 1 from ⟨by decide, by decide⟩) hK hP hD hS [0, 1] (by decide) rfl [] rfl) dX7_needs_43
      · have c_24030 : ¬ x0.toInt = x1.toInt := by rw [ka_eq'] at c_24030; exact c_24030
        refine lv_aload_n hx hb dX7_needs_19 rfl (lv_at hl 0 rfl) ?_
        refine ka_get C lq_290 rfl hK hP 0 rfl 7 (by decide) lq_291 rfl dX7_needs_20 ?_
        refine lv_bipush (v := 6) hx hb dX7_needs_23 (by decide) ?_
        refine lv_iload_n hx hb dX7_needs_25 rfl (lv_at hl 1 rfl) ?_
        refine lv_imul hx hb dX7_needs_26 ?_
        refine lv_topi (fun v_24031 ev_24031 => ?_)
        have fv_24031 : v_24031.toInt = 6 * x0.toInt := by rw [ev_24031]; exact ka_mul (x := 6) (y := x0.toInt) (by decide) rfl (by omega) (by omega)
        refine lv_iload_n hx hb dX7_needs_27 rfl (lv_at hl 2 rfl) ?_
        refine lv_iadd hx hb dX7_needs_28 ?_
        refine lv_topi (fun v_24032 ev_24032 => ?_)
        have fv_24032 : v_24032.toInt = v_24031.toInt + x1.toInt := by rw [ev_24032]; exact ka_add (x := v_24031.toInt) (y := x1.toInt) rfl rfl (by omega) (by omega)
        refine va_zald hx hb hK hP 1 0 rfl rfl (ka_in (by omega) (by omega)) dX7_needs_29 ?_
        refine lv_topi (fun v_24033 ev_24033 => ?_)
        refine lv_if_ne (tgt := 42) hx hb dX7_needs_30 (by decide) (fun c_24034 => ?_) (fun c_24034 => ?_)
        · have c_24034 : ¬ v_24033.toInt = 0 := by rw [ka_eq', show ((0 : Int32)).toInt = 0 from by decide] at c_24034; exact c_24034
          refine lv_iconst (v := 0) hx hb dX7_needs_42 (by decide) ?_
          exact ka_rEz C hr hlk rfl (Nat.le_of_ble_eq_true rfl) (Nat.le_of_ble_eq_true rfl) hS (ka_qE (f0, 0) rfl (show 0 ≤ ((0 : Int32)).toInt ∧ ((0 : Int32)).toInt ≤ 1 from ⟨by decide, by decide⟩) hK hP hD hS [0, 1] (by decide) rfl [] rfl) dX7_needs_43
        · have c_24034 : v_24033.toInt = 0 := by rw [ka_eq', show ((0 : Int32)).toInt = 0 from by decide] at c_24034; exact c_24034
          refine lv_aload_n hx hb dX7_needs_33 rfl (lv_at hl 0 rfl) ?_
          refine lv_iload_n hx hb dX7_needs_34 rfl (lv_at hl 2 rfl) ?_
          refine lv_iload_n hx hb dX7_needs_35 rfl (lv_at hl 1 rfl) ?_
          refine ka_RV (n := 2) C (cg_X7_hangsOn_239 l D F a0 x1 x0 a1 x2 a2 a3 a4 a5 a6 a7 a8 x3 x4 x5 x6 x7 x8 x9 a9 a10 a11 a12 a13 a14 x10 x11 x12 x13 x14 x15 k0 f0 ⟨by omega, by omega⟩ ⟨by omega, by omega⟩ ⟨by omega, by omega⟩ ⟨by omega, by omega⟩ ⟨by omega, by omega⟩ ⟨by omega, by omega⟩ ⟨by omega, by omega⟩ ⟨by omega, by omega⟩ ⟨by omega, by omega⟩ ⟨by omega, by omega⟩ ⟨by omega, by omega⟩ ⟨by omega, by omega⟩) gX7_needs_X7_hangsOn rfl (by decide +kernel) ⟨Nat.le_of_ble_eq_true rfl, Nat.le_of_ble_eq_true rfl⟩ hK hP hS hE hN [0, 1] rfl [0] rfl (ci := 7) rfl rfl 0 rfl rfl hl.1 (rest := []) rfl (Nat.le_of_ble_eq_true rfl) dX7_needs_36 ⟨Nat.le_of_ble_eq_true rfl, Nat.le_of_ble_eq_true rfl⟩ (fun v hv => ?_)
          obtain ⟨v_24035, rfl, hv_24035⟩ := hv
          have rv_24035 := ka_rng v_24035
          refine ka_stk (w := [.int v_24035]) rfl ?_
          refine lv_if_eq (tgt := 44) hx hb dX7_needs_39 (by decide) (fun c_24036 => ?_) (fun c_24036 => ?_)
          · have c_24036 : v_24035.toInt = 0 := by rw [ka_eq', show ((0 : Int32)).toInt = 0 from by decide] at c_24036; exact c_24036
            refine lv_aload_n hx hb dX7_needs_44 rfl (lv_at hl 0 rfl) ?_
            refine ka_get C lq_290 rfl hK hP 0 rfl 7 (by decide) lq_291 rfl dX7_needs_45 ?_
            refine lv_bipush (v := 6) hx hb dX7_needs_48 (by decide) ?_
            refine lv_iload_n hx hb dX7_needs_50 rfl (lv_at hl 1 rfl) ?_
            refine lv_imul hx hb dX7_needs_51 ?_
            refine lv_topi (fun v_24037 ev_24037 => ?_)
            have fv_24037 : v_24037.toInt = 6 * x0.toInt := by rw [ev_24037]; exact ka_mul (x := 6) (y := x0.toInt) (by decide) rfl (by omega) (by omega)
            refine lv_iload_n hx hb dX7_needs_52 rfl (lv_at hl 2 rfl) ?_
            refine lv_iadd hx hb dX7_needs_53 ?_
            refine lv_topi (fun v_24038 ev_24038 => ?_)
            have fv_24038 : v_24038.toInt = v_24037.toInt + x1.toInt := by rw [ev_24038]; exact ka_add (x := v_24037.toInt) (y := x1.toInt) rfl rfl (by omega) (by omega)
            refine lv_iconst (v := 1) hx hb dX7_needs_54 (by decide) ?_
            refine va_zast hx hb hK hP hD hS 1 0 rfl rfl (ka_in (by omega) (by omega)) dX7_needs_55 (fun H locs hP hD hS => ?_)
            have hP : va_P D vwCl [(a0, .inr (7, [.ref a1, .int x2, .ref a2, .ref a3, .ref a4, .ref a5, .ref a6, .ref a7, .ref a8, .int x3, .int x4, .int x5, .int x6, .int x7, .int x8, .int x9, .ref a9, .ref a10, .ref a11, .ref a12, .ref a13, .ref a14, .int x10, .int x11, .int x12, .int x13, .int x14, .int x15])), (a7, .inl (k0, 36, .inl (upd f0 (Int32.toNatClampNeg v_24038) (vp_nar .boolean 1))))] H := hP
            have hD : va_D A [(a0, .inr (7, [.ref a1, .int x2, .ref a2, .ref a3, .ref a4, .ref a5, .ref a6, .ref a7, .ref a8, .int x3, .int x4, .int x5, .int x6, .int x7, .int x8, .int x9, .ref a9, .ref a10, .ref a11, .ref a12, .ref a13, .ref a14, .int x10, .int x11, .int x12, .int x13, .int x14, .int x15])), (a7, .inl (k0, 36, .inl (upd f0 (Int32.toNatClampNeg v_24038) (vp_nar .boolean 1))))] := hD
            generalize (upd f0 (Int32.toNatClampNeg v_24038) (vp_nar .boolean 1)) = g_24039 at hP hD
            refine lv_iconst (v := 1) hx hb dX7_needs_56 (by decide) ?_
            exact ka_rEz C hr hlk rfl (Nat.le_of_ble_eq_true rfl) (Nat.le_of_ble_eq_true rfl) hS (ka_qE (g_24039, 1) rfl (show 0 ≤ ((1 : Int32)).toInt ∧ ((1 : Int32)).toInt ≤ 1 from ⟨by decide, by decide⟩) hK hP hD hS [0, 1] (by decide) rfl [] rfl) dX7_needs_57
          · have c_24036 : ¬ v_24035.toInt = 0 := by rw [ka_eq', show ((0 : Int32)).toInt = 0 from by decide] at c_24036; exact c_24036
            refine lv_iconst (v := 0) hx hb dX7_needs_42 (by decide) ?_
            exact ka_rEz C hr hlk rfl (Nat.le_of_ble_eq_true rfl) (Nat.le_of_ble_eq_true rfl) hS (ka_qE (f0, 0) rfl (show 0 ≤ ((0 : Int32)).toInt ∧ ((0 : Int32)).toInt ≤ 1 from ⟨by decide, by decide⟩) hK hP hD hS [0, 1] (by decide) rfl [] rfl) dX7_needs_43
    · skip
      refine lv_iload_n hx hb dX7_needs_0 rfl (lv_at hl 1 rfl) ?_
      refine ka_RS (n := 1) C (cg_X7_isLesson_220 l D F x0 ⟨by omega, by omega⟩) gX7_needs_X7_isLesson rfl (by decide +kernel) ⟨Nat.le_of_ble_eq_true rfl, Nat.le_of_ble_eq_true rfl⟩ hK hP hS hE hN [] rfl [] rfl rfl hl.1 (rest := []) rfl (Nat.le_of_ble_eq_true rfl) dX7_needs_1 ⟨Nat.le_of_ble_eq_true rfl, Nat.le_of_ble_eq_true rfl⟩ (fun v hv => ?_)
      subst hv
      refine ka_stk (w := [.int 1]) rfl ?_
      refine lv_if_eq (tgt := 42) hx hb dX7_needs_4 (by decide) (fun c_ => absurd c_ (by decide)) (fun _ => ?_)
      refine lv_iload_n hx hb dX7_needs_7 rfl (lv_at hl 2 rfl) ?_
      refine ka_RS (n := 1) C (cg_X7_isLesson_227 l D F x1 (by omega)) gX7_needs_X7_isLesson rfl (by decide +kernel) ⟨Nat.le_of_ble_eq_true rfl, Nat.le_of_ble_eq_true rfl⟩ hK hP hS hE hN [] rfl [] rfl rfl hl.1 (rest := []) rfl (Nat.le_of_ble_eq_true rfl) dX7_needs_8 ⟨Nat.le_of_ble_eq_true rfl, Nat.le_of_ble_eq_true rfl⟩ (fun v hv => ?_)
      subst hv
      refine ka_stk (w := [.int 0]) rfl ?_
      refine lv_if_eq (tgt := 42) hx hb dX7_needs_11 (by decide) (fun _ => ?_) (fun c_ => absurd (by decide) c_)
      refine lv_iconst (v := 0) hx hb dX7_needs_42 (by decide) ?_
      exact ka_rEz C hr hlk rfl (Nat.le_of_ble_eq_true rfl) (Nat.le_of_ble_eq_true rfl) hS (ka_qE (f0, 0) rfl (show 0 ≤ ((0 : Int32)).toInt ∧ ((0 : Int32)).toInt ≤ 1 from ⟨by decide, by decide⟩) hK hP hD hS [0, 1] (by decide) rfl [] rfl) dX7_needs_43
  · skip
    rcases (show x1.toInt ≤ -1 ∨ (0 ≤ x1.toInt ∧ x1.toInt ≤ 5) ∨ 6 ≤ x1.toInt by omega) with y_24040 | y_24040 | y_24040
    · skip
      refine lv_iload_n hx hb dX7_needs_0 rfl (lv_at hl 1 rfl) ?_
      refine ka_RS (n := 1) C (cg_X7_isLesson_227 l D F x0 (by omega)) gX7_needs_X7_isLesson rfl (by decide +kernel) ⟨Nat.le_of_ble_eq_true rfl, Nat.le_of_ble_eq_true rfl⟩ hK hP hS hE hN [] rfl [] rfl rfl hl.1 (rest := []) rfl (Nat.le_of_ble_eq_true rfl) dX7_needs_1 ⟨Nat.le_of_ble_eq_true rfl, Nat.le_of_ble_eq_true rfl⟩ (fun v hv => ?_)
      subst hv
      refine ka_stk (w := [.int 0]) rfl ?_
      refine lv_if_eq (tgt := 42) hx hb dX7_needs_4 (by decide) (fun _ => ?_) (fun c_ => absurd (by decide) c_)
      refine lv_iconst (v := 0) hx hb dX7_needs_42 (by decide) ?_
      exact ka_rEz C hr hlk rfl (Nat.le_of_ble_eq_true rfl) (Nat.le_of_ble_eq_true rfl) hS (ka_qE (f0, 0) rfl (show 0 ≤ ((0 : Int32)).toInt ∧ ((0 : Int32)).toInt ≤ 1 from ⟨by decide, by decide⟩) hK hP hD hS [0, 1] (by decide) rfl [] rfl) dX7_needs_43
    · skip
      refine lv_iload_n hx hb dX7_needs_0 rfl (lv_at hl 1 rfl) ?_
      refine ka_RS (n := 1) C (cg_X7_isLesson_227 l D F x0 (by omega)) gX7_needs_X7_isLesson rfl (by decide +kernel) ⟨Nat.le_of_ble_eq_true rfl, Nat.le_of_ble_eq_true rfl⟩ hK hP hS hE hN [] rfl [] rfl rfl hl.1 (rest := []) rfl (Nat.le_of_ble_eq_true rfl) dX7_needs_1 ⟨Nat.le_of_ble_eq_true rfl, Nat.le_of_ble_eq_true rfl⟩ (fun v hv => ?_)
      subst hv
      refine ka_stk (w := [.int 0]) rfl ?_
      refine lv_if_eq (tgt := 42) hx hb dX7_needs_4 (by decide) (fun _ => ?_) (fun c_ => absurd (by decide) c_)
      refine lv_iconst (v := 0) hx hb dX7_needs_42 (by decide) ?_
      exact ka_rEz C hr hlk rfl (Nat.le_of_ble_eq_true rfl) (Nat.le_of_ble_eq_true rfl) hS (ka_qE (f0, 0) rfl (show 0 ≤ ((0 : Int32)).toInt ∧ ((0 : Int32)).toInt ≤ 1 from ⟨by decide, by decide⟩) hK hP hD hS [0, 1] (by decide) rfl [] rfl) dX7_needs_43
    · skip
      refine lv_iload_n hx hb dX7_needs_0 rfl (lv_at hl 1 rfl) ?_
      refine ka_RS (n := 1) C (cg_X7_isLesson_227 l D F x0 (by omega)) gX7_needs_X7_isLesson rfl (by decide +kernel) ⟨Nat.le_of_ble_eq_true rfl, Nat.le_of_ble_eq_true rfl⟩ hK hP hS hE hN [] rfl [] rfl rfl hl.1 (rest := []) rfl (Nat.le_of_ble_eq_true rfl) dX7_needs_1 ⟨Nat.le_of_ble_eq_true rfl, Nat.le_of_ble_eq_true rfl⟩ (fun v hv => ?_)
      subst hv
      refine ka_stk (w := [.int 0]) rfl ?_
      refine lv_if_eq (tgt := 42) hx hb dX7_needs_4 (by decide) (fun _ => ?_) (fun c_ => absurd (by decide) c_)
      refine lv_iconst (v := 0) hx hb dX7_needs_42 (by decide) ?_
      exact ka_rEz C hr hlk rfl (Nat.le_of_ble_eq_true rfl) (Nat.le_of_ble_eq_true rfl) hS (ka_qE (f0, 0) rfl (show 0 ≤ ((0 : Int32)).toInt ∧ ((0 : Int32)).toInt ≤ 1 from ⟨by decide, by decide⟩) hK hP hD hS [0, 1] (by decide) rfl [] rfl) dX7_needs_43
theorem lq_292 : ∀ w ∈ wsX70, w ∈ wsX7_mayBegin := by decide +kernel
theorem lq_293 : Cond.fieldLink RX7 23 "AskedBackModel" "hasLaw" "[Z" ∈ wsX7_mayBegin := by decide +kernel
theorem lq_294 : Cond.fieldLink RX7 27 "AskedBackModel" "isDone" "[Z" ∈ wsX7_mayBegin := by decide +kernel
theorem lq_295 : Cond.fieldLink RX7 30 "AskedBackModel" "isNeeded" "[Z" ∈ wsX7_mayBegin := by decide +kernel
set_option maxHeartbeats 4000000 in
set_option maxRecDepth 100000 in
theorem cg_X7_mayBegin_241 (l : Launch) (D : va_G) (F : Nat → Prop) (a0 : Nat) (x0 : Int32) (a1 : Nat) (x1 : Int32) (a2 : Nat) (a3 : Nat) (a4 : Nat) (a5 : Nat) (a6 : Nat) (a7 : Nat) (a8 : Nat) (x2 : Int32) (x3 : Int32) (x4 : Int32) (x5 : Int32) (x6 : Int32) (x7 : Int32) (x8 : Int32) (a9 : Nat) (a10 : Nat) (a11 : Nat) (a12 : Nat) (a13 : Nat) (a14 : Nat) (x9 : Int32) (x10 : Int32) (x11 : Int32) (x12 : Int32) (x13 : Int32) (x14 : Int32) (k0 : ClassId) (f0 : Nat → Int32) (k1 : ClassId) (f1 : Nat → Int32) (k2 : ClassId) (f2 : Nat → Int32) (hx1 : 0 ≤ x1.toInt ∧ x1.toInt ≤ 80) (hx2 : -1 ≤ x2.toInt ∧ x2.toInt ≤ 5) (hx5 : 1 ≤ x5.toInt ∧ x5.toInt ≤ 8) (hx6 : 0 ≤ x6.toInt ∧ x6.toInt ≤ 40) (hx8 : 0 ≤ x8.toInt ∧ x8.toInt ≤ 10) (hx9 : 0 ≤ x9.toInt ∧ x9.toInt ≤ 60) (hx10 : 0 ≤ x10.toInt ∧ x10.toInt ≤ 60) (hx11 : 0 ≤ x11.toInt ∧ x11.toInt ≤ 60) (hx12 : 0 ≤ x12.toInt ∧ x12.toInt ≤ 8) (hx14 : 0 ≤ x14.toInt ∧ x14.toInt ≤ 1) : ka_R l D F yX7_mayBegin wsX7_mayBegin 2 42 [.ref a0, .int x0] [(a0, .inr (7, [.ref a1, .int x1, .ref a2, .ref a3, .ref a4, .ref a5, .ref a6, .ref a7, .ref a8, .int x2, .int x3, .int x4, .int x5, .int x6, .int x7, .int x8, .ref a9, .ref a10, .ref a11, .ref a12, .ref a13, .ref a14, .int x9, .int x10, .int x11, .int x12, .int x13, .int x14])), (a5, .inl (k0, 6, .inl f0)), (a6, .inl (k1, 6, .inl f1)), (a7, .inl (k2, 36, .inl f2))] [(k0, .boolean), (k1, .boolean), (k2, .boolean)] (fun v => ∃ x : Int32, v = some (.int x) ∧ 0 ≤ x.toInt ∧ x.toInt ≤ 1) := by
  refine ka_R_of (cc := cX7_mayBegin) (maxL := 4) (ret := (some .boolean)) (by decide) rfl (Nat.le_of_ble_eq_true rfl) ?_
  intro p e s m below meth c ls C hr hlk hP hK hE hN hl
  have hS : va_S (fun _ => False) s.heap s.heap [] := va_S.rf
  have C : CallFix p m c cX7_mayBegin 4 s [.ref a0, .int x0].toArray wsX7_mayBegin RX7 := C
  obtain ⟨hx, hb, hml, hown, hts⟩ := id C
  have hl : lv_has ls 4 [(0, .ref a0), (1, .int x0)] := hl
  have rx0 := ka_rng x0
  have rx1 := ka_rng x1
  have rx2 := ka_rng x2
  have rx3 := ka_rng x3
  have rx4 := ka_rng x4
  have rx5 := ka_rng x5
  have rx6 := ka_rng x6
  have rx7 := ka_rng x7
  have rx8 := ka_rng x8
  have rx9 := ka_rng x9
  have rx10 := ka_rng x10
  have rx11 := ka_rng x11
  have rx12 := ka_rng x12
  have rx13 := ka_rng x13
  have rx14 := ka_rng x14
  rcases (show x0.toInt ≤ -1 ∨ (0 ≤ x0.toInt ∧ x0.toInt ≤ 5) ∨ 6 ≤ x0.toInt by omega) with y_24147 | y_24147 | y_24147
  · skip
    refine lv_iload_n hx hb dX7_mayBegin_0 rfl (lv_at hl 1 rfl) ?_
    refine ka_RS (n := 1) C (cg_X7_isLesson_217 l D F x0 (by omega)) gX7_mayBegin_X7_isLesson rfl (by decide +kernel) ⟨Nat.le_of_ble_eq_true rfl, Nat.le_of_ble_eq_true rfl⟩ hK hP hS hE hN [] rfl [] rfl rfl hl.1 (rest := []) rfl (Nat.le_of_ble_eq_true rfl) dX7_mayBegin_1 ⟨Nat.le_of_ble_eq_true rfl, Nat.le_of_ble_eq_true rfl⟩ (fun v hv => ?_)
    subst hv
    refine ka_stk (w := [.int 0]) rfl ?_
    refine lv_if_eq (tgt := 29) hx hb dX7_mayBegin_4 (by decide) (fun _ => ?_) (fun c_ => absurd (by decide) c_)
    refine lv_iconst (v := 0) hx hb dX7_mayBegin_29 (by decide) ?_
    refine lv_istore_n (lv' := [(2, .int 0), (0, .ref a0), (1, .int x0)]) hx hb dX7_mayBegin_30 rfl hl (by decide) rfl (fun ls hl => ?_)
    refine lv_iconst (v := 0) hx hb dX7_mayBegin_31 (by decide) ?_
    refine lv_istore_n (lv' := [(3, .int 0), (2, .int 0), (0, .ref a0), (1, .int x0)]) hx hb dX7_mayBegin_32 rfl hl (by decide) rfl (fun ls hl => ?_)
    have lp_24148 : ∀ (n : Nat) (i24148_3 : Int32), (0 ≤ i24148_3.toInt ∧ i24148_3.toInt ≤ 6) → (6 - i24148_3.toInt).toNat < n → ∀ (ls : Array Slot), lv_has ls 4 [(0, .ref a0), (1, .int x0), (2, .int 0), (3, .int i24148_3)] → W p l e ({ frames := 2, cells := 0, slots := 0, locals := 42 }) s m [.ref a0, .int x0].toArray below meth c s.heap [] 0 0 (MQ below (ka_QR (fun v => ∃ x : Int32, v = some (.int x) ∧ 0 ≤ x.toInt ∧ x.toInt ≤ 1)) [.ref a0, .int x0].toArray s 0 0 (fun _ => False)) (F0 m 33 ls []) := by
      intro n
      induction n with
      | zero =>
        intro i24148_3 hi24148_3 hm
        exact absurd hm (Nat.not_lt_zero _)
      | succ n ih_24148 =>
        intro i24148_3 hi24148_3 hm ls hl
        have ri24148_3 := ka_rng i24148_3
        refine lv_iload_n hx hb dX7_mayBegin_33 rfl (lv_at hl 3 rfl) ?_
        refine lv_bipush (v := 6) hx hb dX7_mayBegin_34 (by decide) ?_
        refine lv_icmp_ge (tgt := 78) hx hb dX7_mayBegin_36 (by decide) (fun c_24150 => ?_) (fun c_24150 => ?_)
        · have c_24150 : 6 ≤ i24148_3.toInt := by rw [ka_le', show ((6 : Int32)).toInt = 6 from by decide] at c_24150; exact c_24150
          refine lv_iload_n hx hb dX7_mayBegin_78 rfl (lv_at hl 2 rfl) ?_
          exact ka_rRz C hr hlk rfl ⟨_, rfl, ⟨by decide, by decide⟩⟩ dX7_mayBegin_79
        · have c_24150 : ¬ 6 ≤ i24148_3.toInt := by rw [ka_le', show ((6 : Int32)).toInt = 6 from by decide] at c_24150; exact c_24150
          refine lv_iload_n hx hb dX7_mayBegin_39 rfl (lv_at hl 2 rfl) ?_
          refine lv_if_eq (tgt := 78) hx hb dX7_mayBegin_40 (by decide) (fun _ => ?_) (fun c_ => absurd (by decide) c_)
          refine lv_iload_n hx hb dX7_mayBegin_78 rfl (lv_at hl 2 rfl) ?_
          exact ka_rRz C hr hlk rfl ⟨_, rfl, ⟨by decide, by decide⟩⟩ dX7_mayBegin_79
    exact lp_24148 _ 0 ⟨by decide, by decide⟩ (Nat.lt_succ_self _) ls (lv_sub hl [2, 3, 1, 0] rfl)
  · skip
    refine lv_iload_n hx hb dX7_mayBegin_0 rfl (lv_at hl 1 rfl) ?_
    refine ka_RS (n := 1) C (cg_X7_isLesson_220 l D F x0 ⟨by omega, by omega⟩) gX7_mayBegin_X7_isLesson rfl (by decide +kernel) ⟨Nat.le_of_ble_eq_true rfl, Nat.le_of_ble_eq_true rfl⟩ hK hP hS hE hN [] rfl [] rfl rfl hl.1 (rest := []) rfl (Nat.le_of_ble_eq_true rfl) dX7_mayBegin_1 ⟨Nat.le_of_ble_eq_true rfl, Nat.le_of_ble_eq_true rfl⟩ (fun v hv => ?_)
    subst hv
    refine ka_stk (w := [.int 1]) rfl ?_
    refine lv_if_eq (tgt := 29) hx hb dX7_mayBegin_4 (by decide) (fun c_ => absurd c_ (by decide)) (fun _ => ?_)
    refine lv_aload_n hx hb dX7_mayBegin_7 rfl (lv_at hl 0 rfl) ?_
    refine ka_get C lq_292 rfl hK hP 0 rfl 5 (by decide) lq_293 rfl dX7_mayBegin_8 ?_
    refine lv_iload_n hx hb dX7_mayBegin_11 rfl (lv_at hl 1 rfl) ?_
    refine va_zald hx hb hK hP 1 0 rfl rfl (ka_in (by omega) (by omega)) dX7_mayBegin_12 ?_
    refine lv_topi (fun v_24151 ev_24151 => ?_)
    refine lv_if_eq (tgt := 29) hx hb dX7_mayBegin_13 (by decide) (fun c_24152 => ?_) (fun c_24152 => ?_)
    · have c_24152 : v_24151.toInt = 0 := by rw [ka_eq', show ((0 : Int32)).toInt = 0 from by decide] at c_24152; exact c_24152
      refine lv_iconst (v := 0) hx hb dX7_mayBegin_29 (by decide) ?_
      refine lv_istore_n (lv' := [(2, .int 0), (0, .ref a0), (1, .int x0)]) hx hb dX7_mayBegin_30 rfl hl (by decide) rfl (fun ls hl => ?_)
      refine lv_iconst (v := 0) hx hb dX7_mayBegin_31 (by decide) ?_
      refine lv_istore_n (lv' := [(3, .int 0), (2, .int 0), (0, .ref a0), (1, .int x0)]) hx hb dX7_mayBegin_32 rfl hl (by decide) rfl (fun ls hl => ?_)
      have lp_24153 : ∀ (n : Nat) (i24153_3 : Int32), (0 ≤ i24153_3.toInt ∧ i24153_3.toInt ≤ 6) → (6 - i24153_3.toInt).toNat < n → ∀ (ls : Array Slot), lv_has ls 4 [(0, .ref a0), (1, .int x0), (2, .int 0), (3, .int i24153_3)] → W p l e ({ frames := 2, cells := 0, slots := 0, locals := 42 }) s m [.ref a0, .int x0].toArray below meth c s.heap [] 0 0 (MQ below (ka_QR (fun v => ∃ x : Int32, v = some (.int x) ∧ 0 ≤ x.toInt ∧ x.toInt ≤ 1)) [.ref a0, .int x0].toArray s 0 0 (fun _ => False)) (F0 m 33 ls []) := by
        intro n
        induction n with
        | zero =>
          intro i24153_3 hi24153_3 hm
          exact absurd hm (Nat.not_lt_zero _)
        | succ n ih_24153 =>
          intro i24153_3 hi24153_3 hm ls hl
          have ri24153_3 := ka_rng i24153_3
          refine lv_iload_n hx hb dX7_mayBegin_33 rfl (lv_at hl 3 rfl) ?_
          refine lv_bipush (v := 6) hx hb dX7_mayBegin_34 (by decide) ?_
          refine lv_icmp_ge (tgt := 78) hx hb dX7_mayBegin_36 (by decide) (fun c_24155 => ?_) (fun c_24155 => ?_)
          · have c_24155 : 6 ≤ i24153_3.toInt := by rw [ka_le', show ((6 : Int32)).toInt = 6 from by decide] at c_24155; exact c_24155
            refine lv_iload_n hx hb dX7_mayBegin_78 rfl (lv_at hl 2 rfl) ?_
            exact ka_rRz C hr hlk rfl ⟨_, rfl, ⟨by decide, by decide⟩⟩ dX7_mayBegin_79
          · have c_24155 : ¬ 6 ≤ i24153_3.toInt := by rw [ka_le', show ((6 : Int32)).toInt = 6 from by decide] at c_24155; exact c_24155
            refine lv_iload_n hx hb dX7_mayBegin_39 rfl (lv_at hl 2 rfl) ?_
            refine lv_if_eq (tgt := 78) hx hb dX7_mayBegin_40 (by decide) (fun _ => ?_) (fun c_ => absurd (by decide) c_)
            refine lv_iload_n hx hb dX7_mayBegin_78 rfl (lv_at hl 2 rfl) ?_
            exact ka_rRz C hr hlk rfl ⟨_, rfl, ⟨by decide, by decide⟩⟩ dX7_mayBegin_79
      exact lp_24153 _ 0 ⟨by decide, by decide⟩ (Nat.lt_succ_self _) ls (lv_sub hl [2, 3, 1, 0] rfl)
    · have c_24152 : ¬ v_24151.toInt = 0 := by rw [ka_eq', show ((0 : Int32)).toInt = 0 from by decide] at c_24152; exact c_24152
      refine lv_aload_n hx hb dX7_mayBegin_16 rfl (lv_at hl 0 rfl) ?_
      refine ka_get C lq_292 rfl hK hP 0 rfl 6 (by decide) lq_294 rfl dX7_mayBegin_17 ?_
      refine lv_iload_n hx hb dX7_mayBegin_20 rfl (lv_at hl 1 rfl) ?_
      refine va_zald hx hb hK hP 2 1 rfl rfl (ka_in (by omega) (by omega)) dX7_mayBegin_21 ?_
      refine lv_topi (fun v_24156 ev_24156 => ?_)
      refine lv_if_ne (tgt := 29) hx hb dX7_mayBegin_22 (by decide) (fun c_24157 => ?_) (fun c_24157 => ?_)
      · have c_24157 : ¬ v_24156.toInt = 0 := by rw [ka_eq', show ((0 : Int32)).toInt = 0 from by decide] at c_24157; exact c_24157
        refine lv_iconst (v := 0) hx hb dX7_mayBegin_29 (by decide) ?_
        refine lv_istore_n (lv' := [(2, .int 0), (0, .ref a0), (1, .int x0)]) hx hb dX7_mayBegin_30 rfl hl (by decide) rfl (fun ls hl => ?_)
        refine lv_iconst (v := 0) hx hb dX7_mayBegin_31 (by decide) ?_
        refine lv_istore_n (lv' := [(3, .int 0), (2, .int 0), (0, .ref a0), (1, .int x0)]) hx hb dX7_mayBegin_32 rfl hl (by decide) rfl (fun ls hl => ?_)
        have lp_24158 : ∀ (n : Nat) (i24158_3 : Int32), (0 ≤ i24158_3.toInt ∧ i24158_3.toInt ≤ 6) → (6 - i24158_3.toInt).toNat < n → ∀ (ls : Array Slot), lv_has ls 4 [(0, .ref a0), (1, .int x0), (2, .int 0), (3, .int i24158_3)] → W p l e ({ frames := 2, cells := 0, slots := 0, locals := 42 }) s m [.ref a0, .int x0].toArray below meth c s.heap [] 0 0 (MQ below (ka_QR (fun v => ∃ x : Int32, v = some (.int x) ∧ 0 ≤ x.toInt ∧ x.toInt ≤ 1)) [.ref a0, .int x0].toArray s 0 0 (fun _ => False)) (F0 m 33 ls []) := by
          intro n
          induction n with
          | zero =>
            intro i24158_3 hi24158_3 hm
            exact absurd hm (Nat.not_lt_zero _)
          | succ n ih_24158 =>
            intro i24158_3 hi24158_3 hm ls hl
            have ri24158_3 := ka_rng i24158_3
            refine lv_iload_n hx hb dX7_mayBegin_33 rfl (lv_at hl 3 rfl) ?_
            refine lv_bipush (v := 6) hx hb dX7_mayBegin_34 (by decide) ?_
            refine lv_icmp_ge (tgt := 78) hx hb dX7_mayBegin_36 (by decide) (fun c_24160 => ?_) (fun c_24160 => ?_)
            · have c_24160 : 6 ≤ i24158_3.toInt := by rw [ka_le', show ((6 : Int32)).toInt = 6 from by decide] at c_24160; exact c_24160
              refine lv_iload_n hx hb dX7_mayBegin_78 rfl (lv_at hl 2 rfl) ?_
              exact ka_rRz C hr hlk rfl ⟨_, rfl, ⟨by decide, by decide⟩⟩ dX7_mayBegin_79
            · have c_24160 : ¬ 6 ≤ i24158_3.toInt := by rw [ka_le', show ((6 : Int32)).toInt = 6 from by decide] at c_24160; exact c_24160
              refine lv_iload_n hx hb dX7_mayBegin_39 rfl (lv_at hl 2 rfl) ?_
              refine lv_if_eq (tgt := 78) hx hb dX7_mayBegin_40 (by decide) (fun _ => ?_) (fun c_ => absurd (by decide) c_)
              refine lv_iload_n hx hb dX7_mayBegin_78 rfl (lv_at hl 2 rfl) ?_
              exact ka_rRz C hr hlk rfl ⟨_, rfl, ⟨by decide, by decide⟩⟩ dX7_mayBegin_79
        exact lp_24158 _ 0 ⟨by decide, by decide⟩ (Nat.lt_succ_self _) ls (lv_sub hl [2, 3, 1, 0] rfl)
      · have c_24157 : v_24156.toInt = 0 := by rw [ka_eq', show ((0 : Int32)).toInt = 0 from by decide] at c_24157; exact c_24157
        refine lv_iconst (v := 1) hx hb dX7_mayBegin_25 (by decide) ?_
        refine lv_goto (tgt := 30) hx hb dX7_mayBegin_26 (by decide) ?_
        refine lv_istore_n (lv' := [(2, .int 1), (0, .ref a0), (1, .int x0)]) hx hb dX7_mayBegin_30 rfl hl (by decide) rfl (fun ls hl => ?_)
        refine lv_iconst (v := 0) hx hb dX7_mayBegin_31 (by decide) ?_
        refine lv_istore_n (lv' := [(3, .int 0), (2, .int 1), (0, .ref a0), (1, .int x0)]) hx hb dX7_mayBegin_32 rfl hl (by decide) rfl (fun ls hl => ?_)
        have lp_24161 : ∀ (n : Nat) (i24161_2 : Int32) (i24161_3 : Int32), (0 ≤ i24161_2.toInt ∧ i24161_2.toInt ≤ 1) → (0 ≤ i24161_3.toInt ∧ i24161_3.toInt ≤ 6) → (6 - i24161_3.toInt).toNat < n → ∀ (ls : Array Slot), lv_has ls 4 [(0, .ref a0), (1, .int x0), (2, .int i24161_2), (3, .int i24161_3)] → W p l e ({ frames := 2, cells := 0, slots := 0, locals := 42 }) s m [.ref a0, .int x0].toArray below meth c s.heap [] 0 0 (MQ below (ka_QR (fun v => ∃ x : Int32, v = some (.int x) ∧ 0 ≤ x.toInt ∧ x.toInt ≤ 1)) [.ref a0, .int x0].toArray s 0 0 (fun _ => False)) (F0 m 33 ls []) := by
          intro n
          induction n with
          | zero =>
            intro i24161_2 i24161_3 hi24161_2 hi24161_3 hm
            exact absurd hm (Nat.not_lt_zero _)
          | succ n ih_24161 =>
            intro i24161_2 i24161_3 hi24161_2 hi24161_3 hm ls hl
            have ri24161_2 := ka_rng i24161_2
            have ri24161_3 := ka_rng i24161_3
            refine lv_iload_n hx hb dX7_mayBegin_33 rfl (lv_at hl 3 rfl) ?_
            refine lv_bipush (v := 6) hx hb dX7_mayBegin_34 (by decide) ?_
            refine lv_icmp_ge (tgt := 78) hx hb dX7_mayBegin_36 (by decide) (fun c_24173 => ?_) (fun c_24173 => ?_)
            · have c_24173 : 6 ≤ i24161_3.toInt := by rw [ka_le', show ((6 : Int32)).toInt = 6 from by decide] at c_24173; exact c_24173
              refine lv_iload_n hx hb dX7_mayBegin_78 rfl (lv_at hl 2 rfl) ?_
              exact ka_rRz C hr hlk (kb_nz ⟨by omega, by omega⟩) ⟨_, rfl, ⟨by omega, by omega⟩⟩ dX7_mayBegin_79
            · have c_24173 : ¬ 6 ≤ i24161_3.toInt := by rw [ka_le', show ((6 : Int32)).toInt = 6 from by decide] at c_24173; exact c_24173
              refine lv_iload_n hx hb dX7_mayBegin_39 rfl (lv_at hl 2 rfl) ?_
              refine lv_if_eq (tgt := 78) hx hb dX7_mayBegin_40 (by decide) (fun c_24174 => ?_) (fun c_24174 => ?_)
              · have c_24174 : i24161_2.toInt = 0 := by rw [ka_eq', show ((0 : Int32)).toInt = 0 from by decide] at c_24174; exact c_24174
                refine lv_iload_n hx hb dX7_mayBegin_78 rfl (lv_at hl 2 rfl) ?_
                exact ka_rRz C hr hlk (kb_nz ⟨by omega, by omega⟩) ⟨_, rfl, ⟨by omega, by omega⟩⟩ dX7_mayBegin_79
              · have c_24174 : ¬ i24161_2.toInt = 0 := by rw [ka_eq', show ((0 : Int32)).toInt = 0 from by decide] at c_24174; exact c_24174
                refine lv_aload_n hx hb dX7_mayBegin_43 rfl (lv_at hl 0 rfl) ?_
                refine ka_get C lq_292 rfl hK hP 0 rfl 7 (by decide) lq_295 rfl dX7_mayBegin_44 ?_
                refine lv_bipush (v := 6) hx hb dX7_mayBegin_47 (by decide) ?_
                refine lv_iload_n hx hb dX7_mayBegin_49 rfl (lv_at hl 1 rfl) ?_
                refine lv_imul hx hb dX7_mayBegin_50 ?_
                refine lv_topi (fun v_24175 ev_24175 => ?_)
                have fv_24175 : v_24175.toInt = 6 * x0.toInt := by rw [ev_24175]; exact ka_mul (x := 6) (y := x0.toInt) (by decide) rfl (by omega) (by omega)
                refine lv_iload_n hx hb dX7_mayBegin_51 rfl (lv_at hl 3 rfl) ?_
                refine lv_iadd hx hb dX7_mayBegin_52 ?_
                refine lv_topi (fun v_24176 ev_24176 => ?_)
                have fv_24176 : v_24176.toInt = v_24175.toInt + i24161_3.toInt := by rw [ev_24176]; exact ka_add (x := v_24175.toInt) (y := i24161_3.toInt) rfl rfl (by omega) (by omega)
                refine va_zald hx hb hK hP 3 2 rfl rfl (ka_in (by omega) (by omega)) dX7_mayBegin_53 ?_
                refine lv_topi (fun v_24177 ev_24177 => ?_)
                refine lv_if_eq (tgt := 66) hx hb dX7_mayBegin_54 (by decide) (fun c_24178 => ?_) (fun c_24178 => ?_)
                · have c_24178 : v_24177.toInt = 0 := by rw [ka_eq', show ((0 : Int32)).toInt = 0 from by decide] at c_24178; exact c_24178
                  refine lv_iconst (v := 1) hx hb dX7_mayBegin_66 (by decide) ?_
                  refine lv_goto (tgt := 71) hx hb dX7_mayBegin_67 (by decide) ?_
                  refine lv_istore_n (lv' := [(2, .int 1), (0, .ref a0), (1, .int x0), (3, .int i24161_3)]) hx hb dX7_mayBegin_71 rfl hl (by decide) rfl (fun ls hl => ?_)
                  obtain ⟨v_24179, ev_24179⟩ : ∃ y : Int32, y = i24161_3 + 1 := ⟨_, rfl⟩
                  refine lv_iinc (v := v_24179) (lv' := [(3, .int v_24179), (2, .int 1), (0, .ref a0), (1, .int x0)]) hx hb dX7_mayBegin_72 hl (k := 3) rfl (by rw [ev_24179]; rfl) (by decide) rfl (fun ls hl => ?_)
                  have fv_24179 : v_24179.toInt = i24161_3.toInt + 1 := by rw [ev_24179]; exact ka_add (x := i24161_3.toInt) (y := 1) rfl (by decide) (by omega) (by omega)
                  refine lv_goto (tgt := 33) hx hb dX7_mayBegin_75 (by decide) ?_
                  exact ih_24161 1 v_24179 ⟨by decide, by decide⟩ ⟨by omega, by omega⟩ (by omega) ls (lv_sub hl [2, 3, 1, 0] rfl)
                · have c_24178 : ¬ v_24177.toInt = 0 := by rw [ka_eq', show ((0 : Int32)).toInt = 0 from by decide] at c_24178; exact c_24178
                  refine lv_aload_n hx hb dX7_mayBegin_57 rfl (lv_at hl 0 rfl) ?_
                  refine ka_get C lq_292 rfl hK hP 0 rfl 6 (by decide) lq_294 rfl dX7_mayBegin_58 ?_
                  refine lv_iload_n hx hb dX7_mayBegin_61 rfl (lv_at hl 3 rfl) ?_
                  refine va_zald hx hb hK hP 2 1 rfl rfl (ka_in (by omega) (by omega)) dX7_mayBegin_62 ?_
                  refine lv_topi (fun v_24180 ev_24180 => ?_)
                  refine lv_if_eq (tgt := 70) hx hb dX7_mayBegin_63 (by decide) (fun c_24181 => ?_) (fun c_24181 => ?_)
                  · have c_24181 : v_24180.toInt = 0 := by rw [ka_eq', show ((0 : Int32)).toInt = 0 from by decide] at c_24181; exact c_24181
                    refine lv_iconst (v := 0) hx hb dX7_mayBegin_70 (by decide) ?_
                    refine lv_istore_n (lv' := [(2, .int 0), (0, .ref a0), (1, .int x0), (3, .int i24161_3)]) hx hb dX7_mayBegin_71 rfl hl (by decide) rfl (fun ls hl => ?_)
                    obtain ⟨v_24182, ev_24182⟩ : ∃ y : Int32, y = i24161_3 + 1 := ⟨_, rfl⟩
                    refine lv_iinc (v := v_24182) (lv' := [(3, .int v_24182), (2, .int 0), (0, .ref a0), (1, .int x0)]) hx hb dX7_mayBegin_72 hl (k := 3) rfl (by rw [ev_24182]; rfl) (by decide) rfl (fun ls hl => ?_)
                    have fv_24182 : v_24182.toInt = i24161_3.toInt + 1 := by rw [ev_24182]; exact ka_add (x := i24161_3.toInt) (y := 1) rfl (by decide) (by omega) (by omega)
                    refine lv_goto (tgt := 33) hx hb dX7_mayBegin_75 (by decide) ?_
                    exact ih_24161 0 v_24182 ⟨by decide, by decide⟩ ⟨by omega, by omega⟩ (by omega) ls (lv_sub hl [2, 3, 1, 0] rfl)
                  · have c_24181 : ¬ v_24180.toInt = 0 := by rw [ka_eq', show ((0 : Int32)).toInt = 0 from by decide] at c_24181; exact c_24181
                    refine lv_iconst (v := 1) hx hb dX7_mayBegin_66 (by decide) ?_
                    refine lv_goto (tgt := 71) hx hb dX7_mayBegin_67 (by decide) ?_
                    refine lv_istore_n (lv' := [(2, .int 1), (0, .ref a0), (1, .int x0), (3, .int i24161_3)]) hx hb dX7_mayBegin_71 rfl hl (by decide) rfl (fun ls hl => ?_)
                    obtain ⟨v_24183, ev_24183⟩ : ∃ y : Int32, y = i24161_3 + 1 := ⟨_, rfl⟩
                    refine lv_iinc (v := v_24183) (lv' := [(3, .int v_24183), (2, .int 1), (0, .ref a0), (1, .int x0)]) hx hb dX7_mayBegin_72 hl (k := 3) rfl (by rw [ev_24183]; rfl) (by decide) rfl (fun ls hl => ?_)
                    have fv_24183 : v_24183.toInt = i24161_3.toInt + 1 := by rw [ev_24183]; exact ka_add (x := i24161_3.toInt) (y := 1) rfl (by decide) (by omega) (by omega)
                    refine lv_goto (tgt := 33) hx hb dX7_mayBegin_75 (by decide) ?_
                    exact ih_24161 1 v_24183 ⟨by decide, by decide⟩ ⟨by omega, by omega⟩ (by omega) ls (lv_sub hl [2, 3, 1, 0] rfl)
        exact lp_24161 _ 1 0 ⟨by decide, by decide⟩ ⟨by decide, by decide⟩ (Nat.lt_succ_self _) ls (lv_sub hl [2, 3, 1, 0] rfl)
  · skip
    refine lv_iload_n hx hb dX7_mayBegin_0 rfl (lv_at hl 1 rfl) ?_
    refine ka_RS (n := 1) C (cg_X7_isLesson_227 l D F x0 (by omega)) gX7_mayBegin_X7_isLesson rfl (by decide +kernel) ⟨Nat.le_of_ble_eq_true rfl, Nat.le_of_ble_eq_true rfl⟩ hK hP hS hE hN [] rfl [] rfl rfl hl.1 (rest := []) rfl (Nat.le_of_ble_eq_true rfl) dX7_mayBegin_1 ⟨Nat.le_of_ble_eq_true rfl, Nat.le_of_ble_eq_true rfl⟩ (fun v hv => ?_)
    subst hv
    refine ka_stk (w := [.int 0]) rfl ?_
    refine lv_if_eq (tgt := 29) hx hb dX7_mayBegin_4 (by decide) (fun _ => ?_) (fun c_ => absurd (by decide) c_)
    refine lv_iconst (v := 0) hx hb dX7_mayBegin_29 (by decide) ?_
    refine lv_istore_n (lv' := [(2, .int 0), (0, .ref a0), (1, .int x0)]) hx hb dX7_mayBegin_30 rfl hl (by decide) rfl (fun ls hl => ?_)
    refine lv_iconst (v := 0) hx hb dX7_mayBegin_31 (by decide) ?_
    refine lv_istore_n (lv' := [(3, .int 0), (2, .int 0), (0, .ref a0), (1, .int x0)]) hx hb dX7_mayBegin_32 rfl hl (by decide) rfl (fun ls hl => ?_)
    have lp_24184 : ∀ (n : Nat) (i24184_3 : Int32), (0 ≤ i24184_3.toInt ∧ i24184_3.toInt ≤ 6) → (6 - i24184_3.toInt).toNat < n → ∀ (ls : Array Slot), lv_has ls 4 [(0, .ref a0), (1, .int x0), (2, .int 0), (3, .int i24184_3)] → W p l e ({ frames := 2, cells := 0, slots := 0, locals := 42 }) s m [.ref a0, .int x0].toArray below meth c s.heap [] 0 0 (MQ below (ka_QR (fun v => ∃ x : Int32, v = some (.int x) ∧ 0 ≤ x.toInt ∧ x.toInt ≤ 1)) [.ref a0, .int x0].toArray s 0 0 (fun _ => False)) (F0 m 33 ls []) := by
      intro n
      induction n with
      | zero =>
        intro i24184_3 hi24184_3 hm
        exact absurd hm (Nat.not_lt_zero _)
      | succ n ih_24184 =>
        intro i24184_3 hi24184_3 hm ls hl
        have ri24184_3 := ka_rng i24184_3
        refine lv_iload_n hx hb dX7_mayBegin_33 rfl (lv_at hl 3 rfl) ?_
        refine lv_bipush (v := 6) hx hb dX7_mayBegin_34 (by decide) ?_
        refine lv_icmp_ge (tgt := 78) hx hb dX7_mayBegin_36 (by decide) (fun c_24186 => ?_) (fun c_24186 => ?_)
        · have c_24186 : 6 ≤ i24184_3.toInt := by rw [ka_le', show ((6 : Int32)).toInt = 6 from by decide] at c_24186; exact c_24186
          refine lv_iload_n hx hb dX7_mayBegin_78 rfl (lv_at hl 2 rfl) ?_
          exact ka_rRz C hr hlk rfl ⟨_, rfl, ⟨by decide, by decide⟩⟩ dX7_mayBegin_79
        · have c_24186 : ¬ 6 ≤ i24184_3.toInt := by rw [ka_le', show ((6 : Int32)).toInt = 6 from by decide] at c_24186; exact c_24186
          refine lv_iload_n hx hb dX7_mayBegin_39 rfl (lv_at hl 2 rfl) ?_
          refine lv_if_eq (tgt := 78) hx hb dX7_mayBegin_40 (by decide) (fun _ => ?_) (fun c_ => absurd (by decide) c_)
          refine lv_iload_n hx hb dX7_mayBegin_78 rfl (lv_at hl 2 rfl) ?_
          exact ka_rRz C hr hlk rfl ⟨_, rfl, ⟨by decide, by decide⟩⟩ dX7_mayBegin_79
    exact lp_24184 _ 0 ⟨by decide, by decide⟩ (Nat.lt_succ_self _) ls (lv_sub hl [2, 3, 1, 0] rfl)
set_option maxHeartbeats 4000000 in
set_option maxRecDepth 100000 in
theorem cg_X7_mayBegin_242 (l : Launch) (D : va_G) (F : Nat → Prop) (a0 : Nat) (x0 : Int32) (a1 : Nat) (x1 : Int32) (a2 : Nat) (a3 : Nat) (a4 : Nat) (a5 : Nat) (a6 : Nat) (a7 : Nat) (a8 : Nat) (x2 : Int32) (x3 : Int32) (x4 : Int32) (x5 : Int32) (x6 : Int32) (x7 : Int32) (x8 : Int32) (a9 : Nat) (a10 : Nat) (a11 : Nat) (a12 : Nat) (a13 : Nat) (a14 : Nat) (x9 : Int32) (x10 : Int32) (x11 : Int32) (x12 : Int32) (x13 : Int32) (x14 : Int32) (k0 : ClassId) (f0 : Nat → Int32) (k1 : ClassId) (f1 : Nat → Int32) (k2 : ClassId) (f2 : Nat → Int32) (hx0 : 0 ≤ x0.toInt ∧ x0.toInt ≤ 5) (hx1 : 0 ≤ x1.toInt ∧ x1.toInt ≤ 80) (hx2 : -1 ≤ x2.toInt ∧ x2.toInt ≤ 5) (hx5 : 1 ≤ x5.toInt ∧ x5.toInt ≤ 8) (hx6 : 0 ≤ x6.toInt ∧ x6.toInt ≤ 40) (hx8 : 0 ≤ x8.toInt ∧ x8.toInt ≤ 10) (hx9 : 0 ≤ x9.toInt ∧ x9.toInt ≤ 60) (hx10 : 0 ≤ x10.toInt ∧ x10.toInt ≤ 60) (hx11 : 0 ≤ x11.toInt ∧ x11.toInt ≤ 60) (hx12 : 0 ≤ x12.toInt ∧ x12.toInt ≤ 8) (hx14 : 0 ≤ x14.toInt ∧ x14.toInt ≤ 1) : ka_R l D F yX7_mayBegin wsX7_mayBegin 2 42 [.ref a0, .int x0] [(a0, .inr (7, [.ref a1, .int x1, .ref a2, .ref a3, .ref a4, .ref a5, .ref a6, .ref a7, .ref a8, .int x2, .int x3, .int x4, .int x5, .int x6, .int x7, .int x8, .ref a9, .ref a10, .ref a11, .ref a12, .ref a13, .ref a14, .int x9, .int x10, .int x11, .int x12, .int x13, .int x14])), (a5, .inl (k0, 6, .inl f0)), (a6, .inl (k1, 6, .inl f1)), (a7, .inl (k2, 36, .inl f2))] [(k0, .boolean), (k1, .boolean), (k2, .boolean)] (fun v => ∃ x : Int32, v = some (.int x) ∧ 0 ≤ x.toInt ∧ x.toInt ≤ 1) := by
  refine ka_R_of (cc := cX7_mayBegin) (maxL := 4) (ret := (some .boolean)) (by decide) rfl (Nat.le_of_ble_eq_true rfl) ?_
  intro p e s m below meth c ls C hr hlk hP hK hE hN hl
  have hS : va_S (fun _ => False) s.heap s.heap [] := va_S.rf
  have C : CallFix p m c cX7_mayBegin 4 s [.ref a0, .int x0].toArray wsX7_mayBegin RX7 := C
  obtain ⟨hx, hb, hml, hown, hts⟩ := id C
  have hl : lv_has ls 4 [(0, .ref a0), (1, .int x0)] := hl
  have rx0 := ka_rng x0
  have rx1 := ka_rng x1
  have rx2 := ka_rng x2
  have rx3 := ka_rng x3
  have rx4 := ka_rng x4
  have rx5 := ka_rng x5
  have rx6 := ka_rng x6
  have rx7 := ka_rng x7
  have rx8 := ka_rng x8
  have rx9 := ka_rng x9
  have rx10 := ka_rng x10
  have rx11 := ka_rng x11
  have rx12 := ka_rng x12
  have rx13 := ka_rng x13
  have rx14 := ka_rng x14
  refine lv_iload_n hx hb dX7_mayBegin_0 rfl (lv_at hl 1 rfl) ?_
  refine ka_RS (n := 1) C (cg_X7_isLesson_220 l D F x0 ⟨by omega, by omega⟩) gX7_mayBegin_X7_isLesson rfl (by decide +kernel) ⟨Nat.le_of_ble_eq_true rfl, Nat.le_of_ble_eq_true rfl⟩ hK hP hS hE hN [] rfl [] rfl rfl hl.1 (rest := []) rfl (Nat.le_of_ble_eq_true rfl) dX7_mayBegin_1 ⟨Nat.le_of_ble_eq_true rfl, Nat.le_of_ble_eq_true rfl⟩ (fun v hv => ?_)
  subst hv
  refine ka_stk (w := [.int 1]) rfl ?_
  refine lv_if_eq (tgt := 29) hx hb dX7_mayBegin_4 (by decide) (fun c_ => absurd c_ (by decide)) (fun _ => ?_)
  refine lv_aload_n hx hb dX7_mayBegin_7 rfl (lv_at hl 0 rfl) ?_
  refine ka_get C lq_292 rfl hK hP 0 rfl 5 (by decide) lq_293 rfl dX7_mayBegin_8 ?_
  refine lv_iload_n hx hb dX7_mayBegin_11 rfl (lv_at hl 1 rfl) ?_
  refine va_zald hx hb hK hP 1 0 rfl rfl (ka_in (by omega) (by omega)) dX7_mayBegin_12 ?_
  refine lv_topi (fun v_24311 ev_24311 => ?_)
  refine lv_if_eq (tgt := 29) hx hb dX7_mayBegin_13 (by decide) (fun c_24312 => ?_) (fun c_24312 => ?_)
  · have c_24312 : v_24311.toInt = 0 := by rw [ka_eq', show ((0 : Int32)).toInt = 0 from by decide] at c_24312; exact c_24312
    refine lv_iconst (v := 0) hx hb dX7_mayBegin_29 (by decide) ?_
    refine lv_istore_n (lv' := [(2, .int 0), (0, .ref a0), (1, .int x0)]) hx hb dX7_mayBegin_30 rfl hl (by decide) rfl (fun ls hl => ?_)
    refine lv_iconst (v := 0) hx hb dX7_mayBegin_31 (by decide) ?_
    refine lv_istore_n (lv' := [(3, .int 0), (2, .int 0), (0, .ref a0), (1, .int x0)]) hx hb dX7_mayBegin_32 rfl hl (by decide) rfl (fun ls hl => ?_)
    have lp_24313 : ∀ (n : Nat) (i24313_3 : Int32), (0 ≤ i24313_3.toInt ∧ i24313_3.toInt ≤ 6) → (6 - i24313_3.toInt).toNat < n → ∀ (ls : Array Slot), lv_has ls 4 [(0, .ref a0), (1, .int x0), (2, .int 0), (3, .int i24313_3)] → W p l e ({ frames := 2, cells := 0, slots := 0, locals := 42 }) s m [.ref a0, .int x0].toArray below meth c s.heap [] 0 0 (MQ below (ka_QR (fun v => ∃ x : Int32, v = some (.int x) ∧ 0 ≤ x.toInt ∧ x.toInt ≤ 1)) [.ref a0, .int x0].toArray s 0 0 (fun _ => False)) (F0 m 33 ls []) := by
      intro n
      induction n with
      | zero =>
        intro i24313_3 hi24313_3 hm
        exact absurd hm (Nat.not_lt_zero _)
      | succ n ih_24313 =>
        intro i24313_3 hi24313_3 hm ls hl
        have ri24313_3 := ka_rng i24313_3
        refine lv_iload_n hx hb dX7_mayBegin_33 rfl (lv_at hl 3 rfl) ?_
        refine lv_bipush (v := 6) hx hb dX7_mayBegin_34 (by decide) ?_
        refine lv_icmp_ge (tgt := 78) hx hb dX7_mayBegin_36 (by decide) (fun c_24315 => ?_) (fun c_24315 => ?_)
        · have c_24315 : 6 ≤ i24313_3.toInt := by rw [ka_le', show ((6 : Int32)).toInt = 6 from by decide] at c_24315; exact c_24315
          refine lv_iload_n hx hb dX7_mayBegin_78 rfl (lv_at hl 2 rfl) ?_
          exact ka_rRz C hr hlk rfl ⟨_, rfl, ⟨by decide, by decide⟩⟩ dX7_mayBegin_79
        · have c_24315 : ¬ 6 ≤ i24313_3.toInt := by rw [ka_le', show ((6 : Int32)).toInt = 6 from by decide] at c_24315; exact c_24315
          refine lv_iload_n hx hb dX7_mayBegin_39 rfl (lv_at hl 2 rfl) ?_
          refine lv_if_eq (tgt := 78) hx hb dX7_mayBegin_40 (by decide) (fun _ => ?_) (fun c_ => absurd (by decide) c_)
          refine lv_iload_n hx hb dX7_mayBegin_78 rfl (lv_at hl 2 rfl) ?_
          exact ka_rRz C hr hlk rfl ⟨_, rfl, ⟨by decide, by decide⟩⟩ dX7_mayBegin_79
    exact lp_24313 _ 0 ⟨by decide, by decide⟩ (Nat.lt_succ_self _) ls (lv_sub hl [2, 3, 1, 0] rfl)
  · have c_24312 : ¬ v_24311.toInt = 0 := by rw [ka_eq', show ((0 : Int32)).toInt = 0 from by decide] at c_24312; exact c_24312
    refine lv_aload_n hx hb dX7_mayBegin_16 rfl (lv_at hl 0 rfl) ?_
    refine ka_get C lq_292 rfl hK hP 0 rfl 6 (by decide) lq_294 rfl dX7_mayBegin_17 ?_
    refine lv_iload_n hx hb dX7_mayBegin_20 rfl (lv_at hl 1 rfl) ?_
    refine va_zald hx hb hK hP 2 1 rfl rfl (ka_in (by omega) (by omega)) dX7_mayBegin_21 ?_
    refine lv_topi (fun v_24316 ev_24316 => ?_)
    refine lv_if_ne (tgt := 29) hx hb dX7_mayBegin_22 (by decide) (fun c_24317 => ?_) (fun c_24317 => ?_)
    · have c_24317 : ¬ v_24316.toInt = 0 := by rw [ka_eq', show ((0 : Int32)).toInt = 0 from by decide] at c_24317; exact c_24317
      refine lv_iconst (v := 0) hx hb dX7_mayBegin_29 (by decide) ?_
      refine lv_istore_n (lv' := [(2, .int 0), (0, .ref a0), (1, .int x0)]) hx hb dX7_mayBegin_30 rfl hl (by decide) rfl (fun ls hl => ?_)
      refine lv_iconst (v := 0) hx hb dX7_mayBegin_31 (by decide) ?_
      refine lv_istore_n (lv' := [(3, .int 0), (2, .int 0), (0, .ref a0), (1, .int x0)]) hx hb dX7_mayBegin_32 rfl hl (by decide) rfl (fun ls hl => ?_)
      have lp_24318 : ∀ (n : Nat) (i24318_3 : Int32), (0 ≤ i24318_3.toInt ∧ i24318_3.toInt ≤ 6) → (6 - i24318_3.toInt).toNat < n → ∀ (ls : Array Slot), lv_has ls 4 [(0, .ref a0), (1, .int x0), (2, .int 0), (3, .int i24318_3)] → W p l e ({ frames := 2, cells := 0, slots := 0, locals := 42 }) s m [.ref a0, .int x0].toArray below meth c s.heap [] 0 0 (MQ below (ka_QR (fun v => ∃ x : Int32, v = some (.int x) ∧ 0 ≤ x.toInt ∧ x.toInt ≤ 1)) [.ref a0, .int x0].toArray s 0 0 (fun _ => False)) (F0 m 33 ls []) := by
        intro n
        induction n with
        | zero =>
          intro i24318_3 hi24318_3 hm
          exact absurd hm (Nat.not_lt_zero _)
        | succ n ih_24318 =>
          intro i24318_3 hi24318_3 hm ls hl
          have ri24318_3 := ka_rng i24318_3
          refine lv_iload_n hx hb dX7_mayBegin_33 rfl (lv_at hl 3 rfl) ?_
          refine lv_bipush (v := 6) hx hb dX7_mayBegin_34 (by decide) ?_
          refine lv_icmp_ge (tgt := 78) hx hb dX7_mayBegin_36 (by decide) (fun c_24320 => ?_) (fun c_24320 => ?_)
          · have c_24320 : 6 ≤ i24318_3.toInt := by rw [ka_le', show ((6 : Int32)).toInt = 6 from by decide] at c_24320; exact c_24320
            refine lv_iload_n hx hb dX7_mayBegin_78 rfl (lv_at hl 2 rfl) ?_
            exact ka_rRz C hr hlk rfl ⟨_, rfl, ⟨by decide, by decide⟩⟩ dX7_mayBegin_79
          · have c_24320 : ¬ 6 ≤ i24318_3.toInt := by rw [ka_le', show ((6 : Int32)).toInt = 6 from by decide] at c_24320; exact c_24320
            refine lv_iload_n hx hb dX7_mayBegin_39 rfl (lv_at hl 2 rfl) ?_
            refine lv_if_eq (tgt := 78) hx hb dX7_mayBegin_40 (by decide) (fun _ => ?_) (fun c_ => absurd (by decide) c_)
            refine lv_iload_n hx hb dX7_mayBegin_78 rfl (lv_at hl 2 rfl) ?_
            exact ka_rRz C hr hlk rfl ⟨_, rfl, ⟨by decide, by decide⟩⟩ dX7_mayBegin_79
      exact lp_24318 _ 0 ⟨by decide, by decide⟩ (Nat.lt_succ_self _) ls (lv_sub hl [2, 3, 1, 0] rfl)
    · have c_24317 : v_24316.toInt = 0 := by rw [ka_eq', show ((0 : Int32)).toInt = 0 from by decide] at c_24317; exact c_24317
      refine lv_iconst (v := 1) hx hb dX7_mayBegin_25 (by decide) ?_
      refine lv_goto (tgt := 30) hx hb dX7_mayBegin_26 (by decide) ?_
      refine lv_istore_n (lv' := [(2, .int 1), (0, .ref a0), (1, .int x0)]) hx hb dX7_mayBegin_30 rfl hl (by decide) rfl (fun ls hl => ?_)
      refine lv_iconst (v := 0) hx hb dX7_mayBegin_31 (by decide) ?_
      refine lv_istore_n (lv' := [(3, .int 0), (2, .int 1), (0, .ref a0), (1, .int x0)]) hx hb dX7_mayBegin_32 rfl hl (by decide) rfl (fun ls hl => ?_)
      have lp_24321 : ∀ (n : Nat) (i24321_2 : Int32) (i24321_3 : Int32), (0 ≤ i24321_2.toInt ∧ i24321_2.toInt ≤ 1) → (0 ≤ i24321_3.toInt ∧ i24321_3.toInt ≤ 6) → (6 - i24321_3.toInt).toNat < n → ∀ (ls : Array Slot), lv_has ls 4 [(0, .ref a0), (1, .int x0), (2, .int i24321_2), (3, .int i24321_3)] → W p l e ({ frames := 2, cells := 0, slots := 0, locals := 42 }) s m [.ref a0, .int x0].toArray below meth c s.heap [] 0 0 (MQ below (ka_QR (fun v => ∃ x : Int32, v = some (.int x) ∧ 0 ≤ x.toInt ∧ x.toInt ≤ 1)) [.ref a0, .int x0].toArray s 0 0 (fun _ => False)) (F0 m 33 ls []) := by
        intro n
        induction n with
        | zero =>
          intro i24321_2 i24321_3 hi24321_2 hi24321_3 hm
          exact absurd hm (Nat.not_lt_zero _)
        | succ n ih_24321 =>
          intro i24321_2 i24321_3 hi24321_2 hi24321_3 hm ls hl
          have ri24321_2 := ka_rng i24321_2
          have ri24321_3 := ka_rng i24321_3
          refine lv_iload_n hx hb dX7_mayBegin_33 rfl (lv_at hl 3 rfl) ?_
          refine lv_bipush (v := 6) hx hb dX7_mayBegin_34 (by decide) ?_
          refine lv_icmp_ge (tgt := 78) hx hb dX7_mayBegin_36 (by decide) (fun c_24333 => ?_) (fun c_24333 => ?_)
          · have c_24333 : 6 ≤ i24321_3.toInt := by rw [ka_le', show ((6 : Int32)).toInt = 6 from by decide] at c_24333; exact c_24333
            refine lv_iload_n hx hb dX7_mayBegin_78 rfl (lv_at hl 2 rfl) ?_
            exact ka_rRz C hr hlk (kb_nz ⟨by omega, by omega⟩) ⟨_, rfl, ⟨by omega, by omega⟩⟩ dX7_mayBegin_79
          · have c_24333 : ¬ 6 ≤ i24321_3.toInt := by rw [ka_le', show ((6 : Int32)).toInt = 6 from by decide] at c_24333; exact c_24333
            refine lv_iload_n hx hb dX7_mayBegin_39 rfl (lv_at hl 2 rfl) ?_
            refine lv_if_eq (tgt := 78) hx hb dX7_mayBegin_40 (by decide) (fun c_24334 => ?_) (fun c_24334 => ?_)
            · have c_24334 : i24321_2.toInt = 0 := by rw [ka_eq', show ((0 : Int32)).toInt = 0 from by decide] at c_24334; exact c_24334
              refine lv_iload_n hx hb dX7_mayBegin_78 rfl (lv_at hl 2 rfl) ?_
              exact ka_rRz C hr hlk (kb_nz ⟨by omega, by omega⟩) ⟨_, rfl, ⟨by omega, by omega⟩⟩ dX7_mayBegin_79
            · have c_24334 : ¬ i24321_2.toInt = 0 := by rw [ka_eq', show ((0 : Int32)).toInt = 0 from by decide] at c_24334; exact c_24334
              refine lv_aload_n hx hb dX7_mayBegin_43 rfl (lv_at hl 0 rfl) ?_
              refine ka_get C lq_292 rfl hK hP 0 rfl 7 (by decide) lq_295 rfl dX7_mayBegin_44 ?_
              refine lv_bipush (v := 6) hx hb dX7_mayBegin_47 (by decide) ?_
              refine lv_iload_n hx hb dX7_mayBegin_49 rfl (lv_at hl 1 rfl) ?_
              refine lv_imul hx hb dX7_mayBegin_50 ?_
              refine lv_topi (fun v_24335 ev_24335 => ?_)
              have fv_24335 : v_24335.toInt = 6 * x0.toInt := by rw [ev_24335]; exact ka_mul (x := 6) (y := x0.toInt) (by decide) rfl (by omega) (by omega)
              refine lv_iload_n hx hb dX7_mayBegin_51 rfl (lv_at hl 3 rfl) ?_
              refine lv_iadd hx hb dX7_mayBegin_52 ?_
              refine lv_topi (fun v_24336 ev_24336 => ?_)
              have fv_24336 : v_24336.toInt = v_24335.toInt + i24321_3.toInt := by rw [ev_24336]; exact ka_add (x := v_24335.toInt) (y := i24321_3.toInt) rfl rfl (by omega) (by omega)
              refine va_zald hx hb hK hP 3 2 rfl rfl (ka_in (by omega) (by omega)) dX7_mayBegin_53 ?_
              refine lv_topi (fun v_24337 ev_24337 => ?_)
              refine lv_if_eq (tgt := 66) hx hb dX7_mayBegin_54 (by decide) (fun c_24338 => ?_) (fun c_24338 => ?_)
              · have c_24338 : v_24337.toInt = 0 := by rw [ka_eq', show ((0 : Int32)).toInt = 0 from by decide] at c_24338; exact c_24338
                refine lv_iconst (v := 1) hx hb dX7_mayBegin_66 (by decide) ?_
                refine lv_goto (tgt := 71) hx hb dX7_mayBegin_67 (by decide) ?_
                refine lv_istore_n (lv' := [(2, .int 1), (0, .ref a0), (1, .int x0), (3, .int i24321_3)]) hx hb dX7_mayBegin_71 rfl hl (by decide) rfl (fun ls hl => ?_)
                obtain ⟨v_24339, ev_24339⟩ : ∃ y : Int32, y = i24321_3 + 1 := ⟨_, rfl⟩
                refine lv_iinc (v := v_24339) (lv' := [(3, .int v_24339), (2, .int 1), (0, .ref a0), (1, .int x0)]) hx hb dX7_mayBegin_72 hl (k := 3) rfl (by rw [ev_24339]; rfl) (by decide) rfl (fun ls hl => ?_)
                have fv_24339 : v_24339.toInt = i24321_3.toInt + 1 := by rw [ev_24339]; exact ka_add (x := i24321_3.toInt) (y := 1) rfl (by decide) (by omega) (by omega)
                refine lv_goto (tgt := 33) hx hb dX7_mayBegin_75 (by decide) ?_
                exact ih_24321 1 v_24339 ⟨by decide, by decide⟩ ⟨by omega, by omega⟩ (by omega) ls (lv_sub hl [2, 3, 1, 0] rfl)
              · have c_24338 : ¬ v_24337.toInt = 0 := by rw [ka_eq', show ((0 : Int32)).toInt = 0 from by decide] at c_24338; exact c_24338
                refine lv_aload_n hx hb dX7_mayBegin_57 rfl (lv_at hl 0 rfl) ?_
                refine ka_get C lq_292 rfl hK hP 0 rfl 6 (by decide) lq_294 rfl dX7_mayBegin_58 ?_
                refine lv_iload_n hx hb dX7_mayBegin_61 rfl (lv_at hl 3 rfl) ?_
                refine va_zald hx hb hK hP 2 1 rfl rfl (ka_in (by omega) (by omega)) dX7_mayBegin_62 ?_
                refine lv_topi (fun v_24340 ev_24340 => ?_)
                refine lv_if_eq (tgt := 70) hx hb dX7_mayBegin_63 (by decide) (fun c_24341 => ?_) (fun c_24341 => ?_)
                · have c_24341 : v_24340.toInt = 0 := by rw [ka_eq', show ((0 : Int32)).toInt = 0 from by decide] at c_24341; exact c_24341
                  refine lv_iconst (v := 0) hx hb dX7_mayBegin_70 (by decide) ?_
                  refine lv_istore_n (lv' := [(2, .int 0), (0, .ref a0), (1, .int x0), (3, .int i24321_3)]) hx hb dX7_mayBegin_71 rfl hl (by decide) rfl (fun ls hl => ?_)
                  obtain ⟨v_24342, ev_24342⟩ : ∃ y : Int32, y = i24321_3 + 1 := ⟨_, rfl⟩
                  refine lv_iinc (v := v_24342) (lv' := [(3, .int v_24342), (2, .int 0), (0, .ref a0), (1, .int x0)]) hx hb dX7_mayBegin_72 hl (k := 3) rfl (by rw [ev_24342]; rfl) (by decide) rfl (fun ls hl => ?_)
                  have fv_24342 : v_24342.toInt = i24321_3.toInt + 1 := by rw [ev_24342]; exact ka_add (x := i24321_3.toInt) (y := 1) rfl (by decide) (by omega) (by omega)
                  refine lv_goto (tgt := 33) hx hb dX7_mayBegin_75 (by decide) ?_
                  exact ih_24321 0 v_24342 ⟨by decide, by decide⟩ ⟨by omega, by omega⟩ (by omega) ls (lv_sub hl [2, 3, 1, 0] rfl)
                · have c_24341 : ¬ v_24340.toInt = 0 := by rw [ka_eq', show ((0 : Int32)).toInt = 0 from by decide] at c_24341; exact c_24341
                  refine lv_iconst (v := 1) hx hb dX7_mayBegin_66 (by decide) ?_
                  refine lv_goto (tgt := 71) hx hb dX7_mayBegin_67 (by decide) ?_
                  refine lv_istore_n (lv' := [(2, .int 1), (0, .ref a0), (1, .int x0), (3, .int i24321_3)]) hx hb dX7_mayBegin_71 rfl hl (by decide) rfl (fun ls hl => ?_)
                  obtain ⟨v_24343, ev_24343⟩ : ∃ y : Int32, y = i24321_3 + 1 := ⟨_, rfl⟩
                  refine lv_iinc (v := v_24343) (lv' := [(3, .int v_24343), (2, .int 1), (0, .ref a0), (1, .int x0)]) hx hb dX7_mayBegin_72 hl (k := 3) rfl (by rw [ev_24343]; rfl) (by decide) rfl (fun ls hl => ?_)
                  have fv_24343 : v_24343.toInt = i24321_3.toInt + 1 := by rw [ev_24343]; exact ka_add (x := i24321_3.toInt) (y := 1) rfl (by decide) (by omega) (by omega)
                  refine lv_goto (tgt := 33) hx hb dX7_mayBegin_75 (by decide) ?_
                  exact ih_24321 1 v_24343 ⟨by decide, by decide⟩ ⟨by omega, by omega⟩ (by omega) ls (lv_sub hl [2, 3, 1, 0] rfl)
      exact lp_24321 _ 1 0 ⟨by decide, by decide⟩ ⟨by decide, by decide⟩ (Nat.lt_succ_self _) ls (lv_sub hl [2, 3, 1, 0] rfl)
set_option maxHeartbeats 4000000 in
set_option maxRecDepth 100000 in
theorem cg_X7_open_243 (l : Launch) (D : va_G) (F : Nat → Prop) (a0 : Nat) (a1 : Nat) (x0 : Int32) (a2 : Nat) (a3 : Nat) (a4 : Nat) (a5 : Nat) (a6 : Nat) (a7 : Nat) (a8 : Nat) (x1 : Int32) (x2 : Int32) (x3 : Int32) (x4 : Int32) (x5 : Int32) (x6 : Int32) (x7 : Int32) (a9 : Nat) (a10 : Nat) (a11 : Nat) (a12 : Nat) (a13 : Nat) (a14 : Nat) (x8 : Int32) (x9 : Int32) (x10 : Int32) (x11 : Int32) (x12 : Int32) (x13 : Int32) (k0 : ClassId) (f0 : Nat → Int32) (k1 : ClassId) (f1 : Nat → Int32) (k2 : ClassId) (f2 : Nat → Int32) (hx0 : 0 ≤ x0.toInt ∧ x0.toInt ≤ 80) (hx1 : -1 ≤ x1.toInt ∧ x1.toInt ≤ 5) (hx4 : 1 ≤ x4.toInt ∧ x4.toInt ≤ 8) (hx5 : 0 ≤ x5.toInt ∧ x5.toInt ≤ 40) (hx7 : 0 ≤ x7.toInt ∧ x7.toInt ≤ 10) (hx8 : 0 ≤ x8.toInt ∧ x8.toInt ≤ 60) (hx9 : 0 ≤ x9.toInt ∧ x9.toInt ≤ 60) (hx10 : 0 ≤ x10.toInt ∧ x10.toInt ≤ 60) (hx11 : 0 ≤ x11.toInt ∧ x11.toInt ≤ 8) (hx13 : 0 ≤ x13.toInt ∧ x13.toInt ≤ 1) : ka_R l D F yX7_open wsX7_open 3 65 [.ref a0] [(a0, .inr (7, [.ref a1, .int x0, .ref a2, .ref a3, .ref a4, .ref a5, .ref a6, .ref a7, .ref a8, .int x1, .int x2, .int x3, .int x4, .int x5, .int x6, .int x7, .ref a9, .ref a10, .ref a11, .ref a12, .ref a13, .ref a14, .int x8, .int x9, .int x10, .int x11, .int x12, .int x13])), (a5, .inl (k0, 6, .inl f0)), (a6, .inl (k1, 6, .inl f1)), (a7, .inl (k2, 36, .inl f2))] [(k0, .boolean), (k1, .boolean), (k2, .boolean)] (fun v => ∃ x : Int32, v = some (.int x) ∧ -1 ≤ x.toInt ∧ x.toInt ≤ 5) := by
  refine ka_R_of (cc := cX7_open) (maxL := 2) (ret := (some .int)) (by decide) rfl (Nat.le_of_ble_eq_true rfl) ?_
  intro p e s m below meth c ls C hr hlk hP hK hE hN hl
  have hS : va_S (fun _ => False) s.heap s.heap [] := va_S.rf
  have C : CallFix p m c cX7_open 2 s [.ref a0].toArray wsX7_open RX7 := C
  obtain ⟨hx, hb, hml, hown, hts⟩ := id C
  have hl : lv_has ls 2 [(0, .ref a0)] := hl
  have rx0 := ka_rng x0
  have rx1 := ka_rng x1
  have rx2 := ka_rng x2
  have rx3 := ka_rng x3
  have rx4 := ka_rng x4
  have rx5 := ka_rng x5
  have rx6 := ka_rng x6
  have rx7 := ka_rng x7
  have rx8 := ka_rng x8
  have rx9 := ka_rng x9
  have rx10 := ka_rng x10
  have rx11 := ka_rng x11
  have rx12 := ka_rng x12
  have rx13 := ka_rng x13
  refine lv_iconst (v := 0) hx hb dX7_open_0 (by decide) ?_
  refine lv_istore_n (lv' := [(1, .int 0), (0, .ref a0)]) hx hb dX7_open_1 rfl hl (by decide) rfl (fun ls hl => ?_)
  have lp_24360 : ∀ (n : Nat) (i24360_1 : Int32), (0 ≤ i24360_1.toInt ∧ i24360_1.toInt ≤ 6) → (6 - i24360_1.toInt).toNat < n → ∀ (ls : Array Slot), lv_has ls 2 [(0, .ref a0), (1, .int i24360_1)] → W p l e ({ frames := 3, cells := 0, slots := 0, locals := 65 }) s m [.ref a0].toArray below meth c s.heap [] 0 0 (MQ below (ka_QR (fun v => ∃ x : Int32, v = some (.int x) ∧ -1 ≤ x.toInt ∧ x.toInt ≤ 5)) [.ref a0].toArray s 0 0 (fun _ => False)) (F0 m 2 ls []) := by
    intro n
    induction n with
    | zero =>
      intro i24360_1 hi24360_1 hm
      exact absurd hm (Nat.not_lt_zero _)
    | succ n ih_24360 =>
      intro i24360_1 hi24360_1 hm ls hl
      have ri24360_1 := ka_rng i24360_1
      refine lv_iload_n hx hb dX7_open_2 rfl (lv_at hl 1 rfl) ?_
      refine lv_bipush (v := 6) hx hb dX7_open_3 (by decide) ?_
      refine lv_icmp_ge (tgt := 24) hx hb dX7_open_5 (by decide) (fun c_24365 => ?_) (fun c_24365 => ?_)
      · have c_24365 : 6 ≤ i24360_1.toInt := by rw [ka_le', show ((6 : Int32)).toInt = 6 from by decide] at c_24365; exact c_24365
        refine lv_iconst (v := (-1)) hx hb dX7_open_24 (by decide) ?_
        exact ka_rRi C hr hlk ⟨_, rfl, ⟨by decide, by decide⟩⟩ dX7_open_25
      · have c_24365 : ¬ 6 ≤ i24360_1.toInt := by rw [ka_le', show ((6 : Int32)).toInt = 6 from by decide] at c_24365; exact c_24365
        refine lv_aload_n hx hb dX7_open_8 rfl (lv_at hl 0 rfl) ?_
        refine lv_iload_n hx hb dX7_open_9 rfl (lv_at hl 1 rfl) ?_
        refine ka_RV (n := 1) C (cg_X7_mayBegin_242 l D F a0 i24360_1 a1 x0 a2 a3 a4 a5 a6 a7 a8 x1 x2 x3 x4 x5 x6 x7 a9 a10 a11 a12 a13 a14 x8 x9 x10 x11 x12 x13 k0 f0 k1 f1 k2 f2 ⟨by omega, by omega⟩ ⟨by omega, by omega⟩ ⟨by omega, by omega⟩ ⟨by omega, by omega⟩ ⟨by omega, by omega⟩ ⟨by omega, by omega⟩ ⟨by omega, by omega⟩ ⟨by omega, by omega⟩ ⟨by omega, by omega⟩ ⟨by omega, by omega⟩ ⟨by omega, by omega⟩) gX7_open_X7_mayBegin rfl (by decide +kernel) ⟨Nat.le_of_ble_eq_true rfl, Nat.le_of_ble_eq_true rfl⟩ hK hP hS hE hN [0, 1, 2, 3] rfl [0, 1, 2] rfl (ci := 7) rfl rfl 0 rfl rfl hl.1 (rest := []) rfl (Nat.le_of_ble_eq_true rfl) dX7_open_10 ⟨Nat.le_of_ble_eq_true rfl, Nat.le_of_ble_eq_true rfl⟩ (fun v hv => ?_)
        obtain ⟨v_24366, rfl, hv_24366⟩ := hv
        have rv_24366 := ka_rng v_24366
        refine ka_stk (w := [.int v_24366]) rfl ?_
        refine lv_if_eq (tgt := 18) hx hb dX7_open_13 (by decide) (fun c_24367 => ?_) (fun c_24367 => ?_)
        · have c_24367 : v_24366.toInt = 0 := by rw [ka_eq', show ((0 : Int32)).toInt = 0 from by decide] at c_24367; exact c_24367
          obtain ⟨v_24368, ev_24368⟩ : ∃ y : Int32, y = i24360_1 + 1 := ⟨_, rfl⟩
          refine lv_iinc (v := v_24368) (lv' := [(1, .int v_24368), (0, .ref a0)]) hx hb dX7_open_18 hl (k := 1) rfl (by rw [ev_24368]; rfl) (by decide) rfl (fun ls hl => ?_)
          have fv_24368 : v_24368.toInt = i24360_1.toInt + 1 := by rw [ev_24368]; exact ka_add (x := i24360_1.toInt) (y := 1) rfl (by decide) (by omega) (by omega)
          refine lv_goto (tgt := 2) hx hb dX7_open_21 (by decide) ?_
          exact ih_24360 v_24368 ⟨by omega, by omega⟩ (by omega) ls (lv_sub hl [1, 0] rfl)
        · have c_24367 : ¬ v_24366.toInt = 0 := by rw [ka_eq', show ((0 : Int32)).toInt = 0 from by decide] at c_24367; exact c_24367
          refine lv_iload_n hx hb dX7_open_16 rfl (lv_at hl 1 rfl) ?_
          exact ka_rRi C hr hlk ⟨_, rfl, ⟨by omega, by omega⟩⟩ dX7_open_17
  exact lp_24360 _ 0 ⟨by decide, by decide⟩ (Nat.lt_succ_self _) ls (lv_sub hl [1, 0] rfl)
theorem lq_296 : ∀ w ∈ wsX70, w ∈ wsX7_begin := by decide +kernel
theorem lq_297 : Cond.fieldLink RX7 36 "AskedBackModel" "lesson" "I" ∈ wsX7_begin := by decide +kernel
theorem lq_298 : Cond.fieldLink RX7 169 "AskedBackModel" "answers" "I" ∈ wsX7_begin := by decide +kernel
theorem lq_299 : Cond.fieldLink RX7 172 "AskedBackModel" "rights" "I" ∈ wsX7_begin := by decide +kernel
theorem lq_300 : Cond.fieldLink RX7 175 "AskedBackModel" "said" "I" ∈ wsX7_begin := by decide +kernel
set_option maxHeartbeats 4000000 in
set_option maxRecDepth 100000 in
theorem cg_X7_begin_244 (l : Launch) (D : va_G) (F : Nat → Prop) (a0 : Nat) (x0 : Int32) (a1 : Nat) (x1 : Int32) (a2 : Nat) (a3 : Nat) (a4 : Nat) (a5 : Nat) (a6 : Nat) (a7 : Nat) (a8 : Nat) (x2 : Int32) (x3 : Int32) (x4 : Int32) (x5 : Int32) (x6 : Int32) (x7 : Int32) (x8 : Int32) (a9 : Nat) (a10 : Nat) (a11 : Nat) (a12 : Nat) (a13 : Nat) (a14 : Nat) (x9 : Int32) (x10 : Int32) (x11 : Int32) (x12 : Int32) (x13 : Int32) (x14 : Int32) (k0 : ClassId) (f0 : Nat → Int32) (k1 : ClassId) (f1 : Nat → Int32) (k2 : ClassId) (f2 : Nat → Int32) (hx1 : 0 ≤ x1.toInt ∧ x1.toInt ≤ 80) (hx2 : -1 ≤ x2.toInt ∧ x2.toInt ≤ 5) (hx5 : 1 ≤ x5.toInt ∧ x5.toInt ≤ 8) (hx6 : 0 ≤ x6.toInt ∧ x6.toInt ≤ 40) (hx8 : 0 ≤ x8.toInt ∧ x8.toInt ≤ 10) (hx9 : 0 ≤ x9.toInt ∧ x9.toInt ≤ 60) (hx10 : 0 ≤ x10.toInt ∧ x10.toInt ≤ 60) (hx11 : 0 ≤ x11.toInt ∧ x11.toInt ≤ 60) (hx12 : 0 ≤ x12.toInt ∧ x12.toInt ≤ 8) (hx14 : 0 ≤ x14.toInt ∧ x14.toInt ≤ 1) : ka_E l D F yX7_begin wsX7_begin 3 65 0 0 [.ref a0, .int x0] [(a0, .inr (7, [.ref a1, .int x1, .ref a2, .ref a3, .ref a4, .ref a5, .ref a6, .ref a7, .ref a8, .int x2, .int x3, .int x4, .int x5, .int x6, .int x7, .int x8, .ref a9, .ref a10, .ref a11, .ref a12, .ref a13, .ref a14, .int x9, .int x10, .int x11, .int x12, .int x13, .int x14])), (a5, .inl (k0, 6, .inl f0)), (a6, .inl (k1, 6, .inl f1)), (a7, .inl (k2, 36, .inl f2))] [(k0, .boolean), (k1, .boolean), (k2, .boolean)] (fun (u : (Int32) × (Int32) × (Int32) × (Int32) × (Int32)) => some (.int (u.2.2.2.2))) (fun (u : (Int32) × (Int32) × (Int32) × (Int32) × (Int32)) => (0 ≤ (u.2.1).toInt ∧ (u.2.1).toInt ≤ 40) ∧ (0 ≤ (u.2.2.2.1).toInt ∧ (u.2.2.2.1).toInt ≤ 10) ∧ (0 ≤ (u.2.2.2.2).toInt ∧ (u.2.2.2.2).toInt ≤ 1)) (fun (u : (Int32) × (Int32) × (Int32) × (Int32) × (Int32)) => [(a0, .inr (7, [.ref a1, .int x1, .ref a2, .ref a3, .ref a4, .ref a5, .ref a6, .ref a7, .ref a8, .int (u.1), .int x3, .int x4, .int x5, .int (u.2.1), .int (u.2.2.1), .int (u.2.2.2.1), .ref a9, .ref a10, .ref a11, .ref a12, .ref a13, .ref a14, .int x9, .int x10, .int x11, .int x12, .int x13, .int x14])), (a5, .inl (k0, 6, .inl f0)), (a6, .inl (k1, 6, .inl f1)), (a7, .inl (k2, 36, .inl f2))]) (fun (u : (Int32) × (Int32) × (Int32) × (Int32) × (Int32)) => []) := by
  refine ka_E_of (cc := cX7_begin) (maxL := 2) (ret := (some .boolean)) (by decide) rfl (Nat.le_of_ble_eq_true rfl) ?_
  intro p e s m below meth c ls A C hr hlk hin hP hK hD hS hA hE hN hl
  have C : CallFix p m c cX7_begin 2 s [.ref a0, .int x0].toArray wsX7_begin RX7 := C
  obtain ⟨hx, hb, hml, hown, hts⟩ := id C
  have hl : lv_has ls 2 [(0, .ref a0), (1, .int x0)] := hl
  have rx0 := ka_rng x0
  have rx1 := ka_rng x1
  have rx2 := ka_rng x2
  have rx3 := ka_rng x3
  have rx4 := ka_rng x4
  have rx5 := ka_rng x5
  have rx6 := ka_rng x6
  have rx7 := ka_rng x7
  have rx8 := ka_rng x8
  have rx9 := ka_rng x9
  have rx10 := ka_rng x10
  have rx11 := ka_rng x11
  have rx12 := ka_rng x12
  have rx13 := ka_rng x13
  have rx14 := ka_rng x14
  refine lv_aload_n hx hb dX7_begin_0 rfl (lv_at hl 0 rfl) ?_
  refine lv_iload_n hx hb dX7_begin_1 rfl (lv_at hl 1 rfl) ?_
  refine ka_RV (n := 1) C (cg_X7_mayBegin_241 l D F a0 x0 a1 x1 a2 a3 a4 a5 a6 a7 a8 x2 x3 x4 x5 x6 x7 x8 a9 a10 a11 a12 a13 a14 x9 x10 x11 x12 x13 x14 k0 f0 k1 f1 k2 f2 ⟨by omega, by omega⟩ ⟨by omega, by omega⟩ ⟨by omega, by omega⟩ ⟨by omega, by omega⟩ ⟨by omega, by omega⟩ ⟨by omega, by omega⟩ ⟨by omega, by omega⟩ ⟨by omega, by omega⟩ ⟨by omega, by omega⟩ ⟨by omega, by omega⟩) gX7_begin_X7_mayBegin rfl (by decide +kernel) ⟨Nat.le_of_ble_eq_true rfl, Nat.le_of_ble_eq_true rfl⟩ hK hP hS hE hN [0, 1, 2, 3] rfl [0, 1, 2] rfl (ci := 7) rfl rfl 0 rfl rfl hl.1 (rest := []) rfl (Nat.le_of_ble_eq_true rfl) dX7_begin_2 ⟨Nat.le_of_ble_eq_true rfl, Nat.le_of_ble_eq_true rfl⟩ (fun v hv => ?_)
  obtain ⟨v_24401, rfl, hv_24401⟩ := hv
  have rv_24401 := ka_rng v_24401
  refine ka_stk (w := [.int v_24401]) rfl ?_
  refine lv_if_ne (tgt := 10) hx hb dX7_begin_5 (by decide) (fun c_24402 => ?_) (fun c_24402 => ?_)
  · have c_24402 : ¬ v_24401.toInt = 0 := by rw [ka_eq', show ((0 : Int32)).toInt = 0 from by decide] at c_24402; exact c_24402
    refine lv_aload_n hx hb dX7_begin_10 rfl (lv_at hl 0 rfl) ?_
    refine lv_iload_n hx hb dX7_begin_11 rfl (lv_at hl 1 rfl) ?_
    refine ka_put C lq_296 tyX7 tyX7_ok nmX7 rfl hK hP hD hS 0 rfl 9 (by decide) lq_297 rfl rfl rfl (Nat.le_of_ble_eq_true rfl) dX7_begin_12 (fun H locs hP hD hS => ?_)
    have hP : va_P D vwCl [(a0, .inr (7, [.ref a1, .int x1, .ref a2, .ref a3, .ref a4, .ref a5, .ref a6, .ref a7, .ref a8, .int x0, .int x3, .int x4, .int x5, .int x6, .int x7, .int x8, .ref a9, .ref a10, .ref a11, .ref a12, .ref a13, .ref a14, .int x9, .int x10, .int x11, .int x12, .int x13, .int x14])), (a5, .inl (k0, 6, .inl f0)), (a6, .inl (k1, 6, .inl f1)), (a7, .inl (k2, 36, .inl f2))] H := hP
    have hD : va_D A [(a0, .inr (7, [.ref a1, .int x1, .ref a2, .ref a3, .ref a4, .ref a5, .ref a6, .ref a7, .ref a8, .int x0, .int x3, .int x4, .int x5, .int x6, .int x7, .int x8, .ref a9, .ref a10, .ref a11, .ref a12, .ref a13, .ref a14, .int x9, .int x10, .int x11, .int x12, .int x13, .int x14])), (a5, .inl (k0, 6, .inl f0)), (a6, .inl (k1, 6, .inl f1)), (a7, .inl (k2, 36, .inl f2))] := hD
    refine lv_aload_n hx hb dX7_begin_15 rfl (lv_at hl 0 rfl) ?_
    refine lv_iconst (v := 0) hx hb dX7_begin_16 (by decide) ?_
    refine ka_put C lq_296 tyX7 tyX7_ok nmX7 rfl hK hP hD hS 0 rfl 13 (by decide) lq_298 rfl rfl rfl (Nat.le_of_ble_eq_true rfl) dX7_begin_17 (fun H locs hP hD hS => ?_)
    have hP : va_P D vwCl [(a0, .inr (7, [.ref a1, .int x1, .ref a2, .ref a3, .ref a4, .ref a5, .ref a6, .ref a7, .ref a8, .int x0, .int x3, .int x4, .int x5, .int 0, .int x7, .int x8, .ref a9, .ref a10, .ref a11, .ref a12, .ref a13, .ref a14, .int x9, .int x10, .int x11, .int x12, .int x13, .int x14])), (a5, .inl (k0, 6, .inl f0)), (a6, .inl (k1, 6, .inl f1)), (a7, .inl (k2, 36, .inl f2))] H := hP
    have hD : va_D A [(a0, .inr (7, [.ref a1, .int x1, .ref a2, .ref a3, .ref a4, .ref a5, .ref a6, .ref a7, .ref a8, .int x0, .int x3, .int x4, .int x5, .int 0, .int x7, .int x8, .ref a9, .ref a10, .ref a11, .ref a12, .ref a13, .ref a14, .int x9, .int x10, .int x11, .int x12, .int x13, .int x14])), (a5, .inl (k0, 6, .inl f0)), (a6, .inl (k1, 6, .inl f1)), (a7, .inl (k2, 36, .inl f2))] := hD
    refine lv_aload_n hx hb dX7_begin_20 rfl (lv_at hl 0 rfl) ?_
    refine lv_iconst (v := 0) hx hb dX7_begin_21 (by decide) ?_
    refine ka_put C lq_296 tyX7 tyX7_ok nmX7 rfl hK hP hD hS 0 rfl 14 (by decide) lq_299 rfl rfl rfl (Nat.le_of_ble_eq_true rfl) dX7_begin_22 (fun H locs hP hD hS => ?_)
    have hP : va_P D vwCl [(a0, .inr (7, [.ref a1, .int x1, .ref a2, .ref a3, .ref a4, .ref a5, .ref a6, .ref a7, .ref a8, .int x0, .int x3, .int x4, .int x5, .int 0, .int 0, .int x8, .ref a9, .ref a10, .ref a11, .ref a12, .ref a13, .ref a14, .int x9, .int x10, .int x11, .int x12, .int x13, .int x14])), (a5, .inl (k0, 6, .inl f0)), (a6, .inl (k1, 6, .inl f1)), (a7, .inl (k2, 36, .inl f2))] H := hP
    have hD : va_D A [(a0, .inr (7, [.ref a1, .int x1, .ref a2, .ref a3, .ref a4, .ref a5, .ref a6, .ref a7, .ref a8, .int x0, .int x3, .int x4, .int x5, .int 0, .int 0, .int x8, .ref a9, .ref a10, .ref a11, .ref a12, .ref a13, .ref a14, .int x9, .int x10, .int x11, .int x12, .int x13, .int x14])), (a5, .inl (k0, 6, .inl f0)), (a6, .inl (k1, 6, .inl f1)), (a7, .inl (k2, 36, .inl f2))] := hD
    refine lv_aload_n hx hb dX7_begin_25 rfl (lv_at hl 0 rfl) ?_
    refine lv_iconst (v := 0) hx hb dX7_begin_26 (by decide) ?_
    refine ka_put C lq_296 tyX7 tyX7_ok nmX7 rfl hK hP hD hS 0 rfl 15 (by decide) lq_300 rfl rfl rfl (Nat.le_of_ble_eq_true rfl) dX7_begin_27 (fun H locs hP hD hS => ?_)
    have hP : va_P D vwCl [(a0, .inr (7, [.ref a1, .int x1, .ref a2, .ref a3, .ref a4, .ref a5, .ref a6, .ref a7, .ref a8, .int x0, .int x3, .int x4, .int x5, .int 0, .int 0, .int 0, .ref a9, .ref a10, .ref a11, .ref a12, .ref a13, .ref a14, .int x9, .int x10, .int x11, .int x12, .int x13, .int x14])), (a5, .inl (k0, 6, .inl f0)), (a6, .inl (k1, 6, .inl f1)), (a7, .inl (k2, 36, .inl f2))] H := hP
    have hD : va_D A [(a0, .inr (7, [.ref a1, .int x1, .ref a2, .ref a3, .ref a4, .ref a5, .ref a6, .ref a7, .ref a8, .int x0, .int x3, .int x4, .int x5, .int 0, .int 0, .int 0, .ref a9, .ref a10, .ref a11, .ref a12, .ref a13, .ref a14, .int x9, .int x10, .int x11, .int x12, .int x13, .int x14])), (a5, .inl (k0, 6, .inl f0)), (a6, .inl (k1, 6, .inl f1)), (a7, .inl (k2, 36, .inl f2))] := hD
    refine lv_iconst (v := 1) hx hb dX7_begin_30 (by decide) ?_
    exact ka_rEz C hr hlk rfl (Nat.le_of_ble_eq_true rfl) (Nat.le_of_ble_eq_true rfl) hS (ka_qE (x0, 0, 0, 0, 1) rfl ⟨(show 0 ≤ ((0 : Int32)).toInt ∧ ((0 : Int32)).toInt ≤ 40 from ⟨by decide, by decide⟩), (show 0 ≤ ((0 : Int32)).toInt ∧ ((0 : Int32)).toInt ≤ 10 from ⟨by decide, by decide⟩), (show 0 ≤ ((1 : Int32)).toInt ∧ ((1 : Int32)).toInt ≤ 1 from ⟨by decide, by decide⟩)⟩ hK hP hD hS [0, 1, 2, 3] (by decide) rfl [] rfl) dX7_begin_31
  · have c_24402 : v_24401.toInt = 0 := by rw [ka_eq', show ((0 : Int32)).toInt = 0 from by decide] at c_24402; exact c_24402
    refine lv_iconst (v := 0) hx hb dX7_begin_8 (by decide) ?_
    exact ka_rEz C hr hlk rfl (Nat.le_of_ble_eq_true rfl) (Nat.le_of_ble_eq_true rfl) hS (ka_qE (x2, x6, x7, x8, 0) rfl ⟨(show 0 ≤ x6.toInt ∧ x6.toInt ≤ 40 from ⟨by omega, by omega⟩), (show 0 ≤ x8.toInt ∧ x8.toInt ≤ 10 from ⟨by omega, by omega⟩), (show 0 ≤ ((0 : Int32)).toInt ∧ ((0 : Int32)).toInt ≤ 1 from ⟨by decide, by decide⟩)⟩ hK hP hD hS [0, 1, 2, 3] (by decide) rfl [] rfl) dX7_begin_9
set_option maxHeartbeats 4000000 in
set_option maxRecDepth 100000 in
theorem cg_X7_letter_245 (l : Launch) (D : va_G) (F : Nat → Prop) (x0 : Int32) : ka_R l D F yX7_letter wsX7_letter 0 0 [.int x0] [] [] (fun v => ∃ x : Int32, v = some (.int x)) := by
  refine ka_R_of (cc := cX7_letter) (maxL := 3) (ret := (some .int)) (by decide) rfl (Nat.le_of_ble_eq_true rfl) ?_
  intro p e s m below meth c ls C hr hlk hP hK hE hN hl
  have hS : va_S (fun _ => False) s.heap s.heap [] := va_S.rf
  have C : CallFix p m c cX7_letter 3 s [.int x0].toArray wsX7_letter RX7 := C
  obtain ⟨hx, hb, hml, hown, hts⟩ := id C
  have hl : lv_has ls 3 [(0, .int x0)] := hl
  have rx0 := ka_rng x0
  refine lv_iconst (v := 0) hx hb dX7_letter_0 (by decide) ?_
  refine lv_istore_n (lv' := [(1, .int 0), (0, .int x0)]) hx hb dX7_letter_1 rfl hl (by decide) rfl (fun ls hl => ?_)
  refine lv_iconst (v := 0) hx hb dX7_letter_2 (by decide) ?_
  refine lv_istore_n (lv' := [(2, .int 0), (1, .int 0), (0, .int x0)]) hx hb dX7_letter_3 rfl hl (by decide) rfl (fun ls hl => ?_)
  have lp_24493 : ∀ (n : Nat) (i24493_1 : Int32) (i24493_2 : Int32), (0 ≤ i24493_2.toInt ∧ i24493_2.toInt ≤ 32) → (32 - i24493_2.toInt).toNat < n → ∀ (ls : Array Slot), lv_has ls 3 [(0, .int x0), (1, .int i24493_1), (2, .int i24493_2)] → W p l e ({ frames := 0, cells := 0, slots := 0, locals := 0 }) s m [.int x0].toArray below meth c s.heap [] 0 0 (MQ below (ka_QR (fun v => ∃ x : Int32, v = some (.int x))) [.int x0].toArray s 0 0 (fun _ => False)) (F0 m 4 ls []) := by
    intro n
    induction n with
    | zero =>
      intro i24493_1 i24493_2 hi24493_2 hm
      exact absurd hm (Nat.not_lt_zero _)
    | succ n ih_24493 =>
      intro i24493_1 i24493_2 hi24493_2 hm ls hl
      have ri24493_1 := ka_rng i24493_1
      have ri24493_2 := ka_rng i24493_2
      refine lv_iload_n hx hb dX7_letter_4 rfl (lv_at hl 2 rfl) ?_
      refine lv_bipush (v := 32) hx hb dX7_letter_5 (by decide) ?_
      refine lv_icmp_ge (tgt := 46) hx hb dX7_letter_7 (by decide) (fun c_24509 => ?_) (fun c_24509 => ?_)
      · have c_24509 : 32 ≤ i24493_2.toInt := by rw [ka_le', show ((32 : Int32)).toInt = 32 from by decide] at c_24509; exact c_24509
        refine lv_iload_n hx hb dX7_letter_46 rfl (lv_at hl 1 rfl) ?_
        exact ka_rRi C hr hlk ⟨_, rfl⟩ dX7_letter_47
      · have c_24509 : ¬ 32 ≤ i24493_2.toInt := by rw [ka_le', show ((32 : Int32)).toInt = 32 from by decide] at c_24509; exact c_24509
        refine lv_iload_n hx hb dX7_letter_10 rfl (lv_at hl 0 rfl) ?_
        refine lv_bipush (v := 49) hx hb dX7_letter_11 (by decide) ?_
        refine lv_icmp_eq (tgt := 34) hx hb dX7_letter_13 (by decide) (fun c_24510 => ?_) (fun c_24510 => ?_)
        · have c_24510 : x0.toInt = 49 := by rw [ka_eq', show ((49 : Int32)).toInt = 49 from by decide] at c_24510; exact c_24510
          refine lv_iload_n hx hb dX7_letter_34 rfl (lv_at hl 1 rfl) ?_
          refine lv_iconst (v := 1) hx hb dX7_letter_35 (by decide) ?_
          refine lv_iload_n hx hb dX7_letter_36 rfl (lv_at hl 2 rfl) ?_
          refine lv_ishl hx hb dX7_letter_37 ?_
          refine lv_topi (fun v_24511 ev_24511 => ?_)
          refine lv_ior hx hb dX7_letter_38 ?_
          refine lv_topi (fun v_24512 ev_24512 => ?_)
          refine lv_istore_n (lv' := [(1, .int v_24512), (0, .int x0), (2, .int i24493_2)]) hx hb dX7_letter_39 rfl hl (by decide) rfl (fun ls hl => ?_)
          obtain ⟨v_24513, ev_24513⟩ : ∃ y : Int32, y = i24493_2 + 1 := ⟨_, rfl⟩
          refine lv_iinc (v := v_24513) (lv' := [(2, .int v_24513), (1, .int v_24512), (0, .int x0)]) hx hb dX7_letter_40 hl (k := 2) rfl (by rw [ev_24513]; rfl) (by decide) rfl (fun ls hl => ?_)
          have fv_24513 : v_24513.toInt = i24493_2.toInt + 1 := by rw [ev_24513]; exact ka_add (x := i24493_2.toInt) (y := 1) rfl (by decide) (by omega) (by omega)
          refine lv_goto (tgt := 4) hx hb dX7_letter_43 (by decide) ?_
          exact ih_24493 v_24512 v_24513 ⟨by omega, by omega⟩ (by omega) ls (lv_sub hl [2, 1, 0] rfl)
        · have c_24510 : ¬ x0.toInt = 49 := by rw [ka_eq', show ((49 : Int32)).toInt = 49 from by decide] at c_24510; exact c_24510
          refine lv_iload_n hx hb dX7_letter_16 rfl (lv_at hl 0 rfl) ?_
          refine lv_bipush (v := 97) hx hb dX7_letter_17 (by decide) ?_
          refine lv_icmp_lt (tgt := 40) hx hb dX7_letter_19 (by decide) (fun c_24514 => ?_) (fun c_24514 => ?_)
          · have c_24514 : x0.toInt < 97 := by rw [ka_lt', show ((97 : Int32)).toInt = 97 from by decide] at c_24514; exact c_24514
            obtain ⟨v_24515, ev_24515⟩ : ∃ y : Int32, y = i24493_2 + 1 := ⟨_, rfl⟩
            refine lv_iinc (v := v_24515) (lv' := [(2, .int v_24515), (0, .int x0), (1, .int i24493_1)]) hx hb dX7_letter_40 hl (k := 2) rfl (by rw [ev_24515]; rfl) (by decide) rfl (fun ls hl => ?_)
            have fv_24515 : v_24515.toInt = i24493_2.toInt + 1 := by rw [ev_24515]; exact ka_add (x := i24493_2.toInt) (y := 1) rfl (by decide) (by omega) (by omega)
            refine lv_goto (tgt := 4) hx hb dX7_letter_43 (by decide) ?_
            exact ih_24493 i24493_1 v_24515 ⟨by omega, by omega⟩ (by omega) ls (lv_sub hl [1, 2, 0] rfl)
          · have c_24514 : ¬ x0.toInt < 97 := by rw [ka_lt', show ((97 : Int32)).toInt = 97 from by decide] at c_24514; exact c_24514
            refine lv_iload_n hx hb dX7_letter_22 rfl (lv_at hl 2 rfl) ?_
            refine lv_iload_n hx hb dX7_letter_23 rfl (lv_at hl 0 rfl) ?_
            refine lv_bipush (v := 97) hx hb dX7_letter_24 (by decide) ?_
            refine lv_isub hx hb dX7_letter_26 ?_
            refine lv_topi (fun v_24516 ev_24516 => ?_)
            have fv_24516 : v_24516.toInt = x0.toInt - 97 := by rw [ev_24516]; exact ka_sub (x := x0.toInt) (y := 97) rfl (by decide) (by omega) (by omega)
            refine lv_ishr hx hb dX7_letter_27 ?_
            refine lv_topi (fun v_24517 ev_24517 => ?_)
            refine lv_iconst (v := 1) hx hb dX7_letter_28 (by decide) ?_
            refine lv_iand hx hb dX7_letter_29 ?_
            refine lv_topi (fun v_24518 ev_24518 => ?_)
            refine lv_iconst (v := 1) hx hb dX7_letter_30 (by decide) ?_
            refine lv_icmp_ne (tgt := 40) hx hb dX7_letter_31 (by decide) (fun c_24519 => ?_) (fun c_24519 => ?_)
            · have c_24519 : ¬ v_24518.toInt = 1 := by rw [ka_eq', show ((1 : Int32)).toInt = 1 from by decide] at c_24519; exact c_24519
              obtain ⟨v_24520, ev_24520⟩ : ∃ y : Int32, y = i24493_2 + 1 := ⟨_, rfl⟩
              refine lv_iinc (v := v_24520) (lv' := [(2, .int v_24520), (0, .int x0), (1, .int i24493_1)]) hx hb dX7_letter_40 hl (k := 2) rfl (by rw [ev_24520]; rfl) (by decide) rfl (fun ls hl => ?_)
              have fv_24520 : v_24520.toInt = i24493_2.toInt + 1 := by rw [ev_24520]; exact ka_add (x := i24493_2.toInt) (y := 1) rfl (by decide) (by omega) (by omega)
              refine lv_goto (tgt := 4) hx hb dX7_letter_43 (by decide) ?_
              exact ih_24493 i24493_1 v_24520 ⟨by omega, by omega⟩ (by omega) ls (lv_sub hl [1, 2, 0] rfl)
            · have c_24519 : v_24518.toInt = 1 := by rw [ka_eq', show ((1 : Int32)).toInt = 1 from by decide] at c_24519; exact c_24519
              refine lv_iload_n hx hb dX7_letter_34 rfl (lv_at hl 1 rfl) ?_
              refine lv_iconst (v := 1) hx hb dX7_letter_35 (by decide) ?_
              refine lv_iload_n hx hb dX7_letter_36 rfl (lv_at hl 2 rfl) ?_
              refine lv_ishl hx hb dX7_letter_37 ?_
              refine lv_topi (fun v_24521 ev_24521 => ?_)
              refine lv_ior hx hb dX7_letter_38 ?_
              refine lv_topi (fun v_24522 ev_24522 => ?_)
              refine lv_istore_n (lv' := [(1, .int v_24522), (0, .int x0), (2, .int i24493_2)]) hx hb dX7_letter_39 rfl hl (by decide) rfl (fun ls hl => ?_)
              obtain ⟨v_24523, ev_24523⟩ : ∃ y : Int32, y = i24493_2 + 1 := ⟨_, rfl⟩
              refine lv_iinc (v := v_24523) (lv' := [(2, .int v_24523), (1, .int v_24522), (0, .int x0)]) hx hb dX7_letter_40 hl (k := 2) rfl (by rw [ev_24523]; rfl) (by decide) rfl (fun ls hl => ?_)
              have fv_24523 : v_24523.toInt = i24493_2.toInt + 1 := by rw [ev_24523]; exact ka_add (x := i24493_2.toInt) (y := 1) rfl (by decide) (by omega) (by omega)
              refine lv_goto (tgt := 4) hx hb dX7_letter_43 (by decide) ?_
              exact ih_24493 v_24522 v_24523 ⟨by omega, by omega⟩ (by omega) ls (lv_sub hl [2, 1, 0] rfl)
  exact lp_24493 _ 0 0 ⟨by decide, by decide⟩ (Nat.lt_succ_self _) ls (lv_sub hl [2, 1, 0] rfl)
set_option maxHeartbeats 4000000 in
set_option maxRecDepth 100000 in
theorem cg_X7_many_246 (l : Launch) (D : va_G) (F : Nat → Prop) (x0 : Int32) : ka_R l D F yX7_many wsX7_many 0 0 [.int x0] [] [] (fun v => ∃ x : Int32, v = some (.int x)) := by
  refine ka_R_of (cc := cX7_many) (maxL := 3) (ret := (some .int)) (by decide) rfl (Nat.le_of_ble_eq_true rfl) ?_
  intro p e s m below meth c ls C hr hlk hP hK hE hN hl
  have hS : va_S (fun _ => False) s.heap s.heap [] := va_S.rf
  have C : CallFix p m c cX7_many 3 s [.int x0].toArray wsX7_many RX7 := C
  obtain ⟨hx, hb, hml, hown, hts⟩ := id C
  have hl : lv_has ls 3 [(0, .int x0)] := hl
  have rx0 := ka_rng x0
  refine lv_iconst (v := 0) hx hb dX7_many_0 (by decide) ?_
  refine lv_istore_n (lv' := [(1, .int 0), (0, .int x0)]) hx hb dX7_many_1 rfl hl (by decide) rfl (fun ls hl => ?_)
  refine lv_iload_n hx hb dX7_many_2 rfl (lv_at hl 1 rfl) ?_
  refine lv_istore_n (lv' := [(2, .int x0), (1, .int 0), (0, .int x0)]) hx hb dX7_many_3 rfl hl (by decide) rfl (fun ls hl => ?_)
  have lp_24570 : ∀ (n : Nat) (i24570_1 : Int32) (i24570_2 : Int32), (i24570_2.toInt).toNat < n → ∀ (ls : Array Slot), lv_has ls 3 [(0, .int x0), (1, .int i24570_1), (2, .int i24570_2)] → W p l e ({ frames := 0, cells := 0, slots := 0, locals := 0 }) s m [.int x0].toArray below meth c s.heap [] 0 0 (MQ below (ka_QR (fun v => ∃ x : Int32, v = some (.int x))) [.int x0].toArray s 0 0 (fun _ => False)) (F0 m 4 ls []) := by
    intro n
    induction n with
    | zero =>
      intro i24570_1 i24570_2  hm
      exact absurd hm (Nat.not_lt_zero _)
    | succ n ih_24570 =>
      intro i24570_1 i24570_2  hm ls hl
      have ri24570_1 := ka_rng i24570_1
      have ri24570_2 := ka_rng i24570_2
      refine lv_iload_n hx hb dX7_many_4 rfl (lv_at hl 2 rfl) ?_
      refine lv_if_le (tgt := 21) hx hb dX7_many_5 (by decide) (fun c_24575 => ?_) (fun c_24575 => ?_)
      · have c_24575 : i24570_2.toInt ≤ 0 := by rw [ka_le', show ((0 : Int32)).toInt = 0 from by decide] at c_24575; exact c_24575
        refine lv_iload_n hx hb dX7_many_21 rfl (lv_at hl 1 rfl) ?_
        exact ka_rRi C hr hlk ⟨_, rfl⟩ dX7_many_22
      · have c_24575 : ¬ i24570_2.toInt ≤ 0 := by rw [ka_le', show ((0 : Int32)).toInt = 0 from by decide] at c_24575; exact c_24575
        refine lv_iload_n hx hb dX7_many_8 rfl (lv_at hl 1 rfl) ?_
        refine lv_iload_n hx hb dX7_many_9 rfl (lv_at hl 2 rfl) ?_
        refine lv_iconst (v := 1) hx hb dX7_many_10 (by decide) ?_
        refine lv_iand hx hb dX7_many_11 ?_
        refine lv_topi (fun v_24576 ev_24576 => ?_)
        refine lv_iadd hx hb dX7_many_12 ?_
        refine lv_topi (fun v_24577 ev_24577 => ?_)
        refine lv_istore_n (lv' := [(1, .int v_24577), (0, .int x0), (2, .int i24570_2)]) hx hb dX7_many_13 rfl hl (by decide) rfl (fun ls hl => ?_)
        refine lv_iload_n hx hb dX7_many_14 rfl (lv_at hl 2 rfl) ?_
        refine lv_iconst (v := 1) hx hb dX7_many_15 (by decide) ?_
        refine lv_ishr hx hb dX7_many_16 ?_
        refine lv_topi (fun v_24578 ev_24578 => ?_)
        have fv_24578 : v_24578.toInt = i24570_2.toInt / 2 := by rw [ev_24578]; exact kb_shr1 i24570_2
        refine lv_istore_n (lv' := [(2, .int v_24578), (1, .int v_24577), (0, .int x0)]) hx hb dX7_many_17 rfl hl (by decide) rfl (fun ls hl => ?_)
        refine lv_goto (tgt := 4) hx hb dX7_many_18 (by decide) ?_
        exact ih_24570 v_24577 v_24578  (by omega) ls (lv_sub hl [2, 1, 0] rfl)
  exact lp_24570 _ 0 x0  (Nat.lt_succ_self _) ls (lv_sub hl [2, 1, 0] rfl)
set_option maxHeartbeats 4000000 in
set_option maxRecDepth 100000 in
theorem cg_X7_isIn_247 (l : Launch) (D : va_G) (F : Nat → Prop) (x0 : Int32) : ka_R l D F yX7_isIn wsX7_isIn 0 0 [.int x0, .int 0, .int 31] [] [] (fun v => ∃ x : Int32, v = some (.int x) ∧ 0 ≤ x.toInt ∧ x.toInt ≤ 1) := by
  refine ka_R_of (cc := cX7_isIn) (maxL := 3) (ret := (some .boolean)) (by decide) rfl (Nat.le_of_ble_eq_true rfl) ?_
  intro p e s m below meth c ls C hr hlk hP hK hE hN hl
  have hS : va_S (fun _ => False) s.heap s.heap [] := va_S.rf
  have C : CallFix p m c cX7_isIn 3 s [.int x0, .int 0, .int 31].toArray wsX7_isIn RX7 := C
  obtain ⟨hx, hb, hml, hown, hts⟩ := id C
  have hl : lv_has ls 3 [(0, .int x0), (1, .int 0), (2, .int 31)] := hl
  have rx0 := ka_rng x0
  refine lv_iload_n hx hb dX7_isIn_0 rfl (lv_at hl 0 rfl) ?_
  refine lv_iload_n hx hb dX7_isIn_1 rfl (lv_at hl 1 rfl) ?_
  refine lv_icmp_lt (tgt := 14) hx hb dX7_isIn_2 (by decide) (fun c_24670 => ?_) (fun c_24670 => ?_)
  · have c_24670 : x0.toInt < 0 := by rw [ka_lt', show ((0 : Int32)).toInt = 0 from by decide] at c_24670; exact c_24670
    refine lv_iconst (v := 0) hx hb dX7_isIn_14 (by decide) ?_
    exact ka_rRz C hr hlk rfl ⟨_, rfl, ⟨by decide, by decide⟩⟩ dX7_isIn_15
  · have c_24670 : ¬ x0.toInt < 0 := by rw [ka_lt', show ((0 : Int32)).toInt = 0 from by decide] at c_24670; exact c_24670
    refine lv_iload_n hx hb dX7_isIn_5 rfl (lv_at hl 0 rfl) ?_
    refine lv_iload_n hx hb dX7_isIn_6 rfl (lv_at hl 2 rfl) ?_
    refine lv_icmp_gt (tgt := 14) hx hb dX7_isIn_7 (by decide) (fun c_24671 => ?_) (fun c_24671 => ?_)
    · have c_24671 : 31 < x0.toInt := by rw [ka_lt', show ((31 : Int32)).toInt = 31 from by decide] at c_24671; exact c_24671
      refine lv_iconst (v := 0) hx hb dX7_isIn_14 (by decide) ?_
      exact ka_rRz C hr hlk rfl ⟨_, rfl, ⟨by decide, by decide⟩⟩ dX7_isIn_15
    · have c_24671 : ¬ 31 < x0.toInt := by rw [ka_lt', show ((31 : Int32)).toInt = 31 from by decide] at c_24671; exact c_24671
      refine lv_iconst (v := 1) hx hb dX7_isIn_10 (by decide) ?_
      refine lv_goto (tgt := 15) hx hb dX7_isIn_11 (by decide) ?_
      exact ka_rRz C hr hlk rfl ⟨_, rfl, ⟨by decide, by decide⟩⟩ dX7_isIn_15
set_option maxHeartbeats 4000000 in
set_option maxRecDepth 100000 in
theorem cg_X7_isCase_248 (l : Launch) (D : va_G) (F : Nat → Prop) (x0 : Int32) : ka_R l D F yX7_isCase wsX7_isCase 1 22 [.int x0] [] [] (fun v => ∃ x : Int32, v = some (.int x) ∧ 0 ≤ x.toInt ∧ x.toInt ≤ 1) := by
  refine ka_R_of (cc := cX7_isCase) (maxL := 1) (ret := (some .boolean)) (by decide) rfl (Nat.le_of_ble_eq_true rfl) ?_
  intro p e s m below meth c ls C hr hlk hP hK hE hN hl
  have hS : va_S (fun _ => False) s.heap s.heap [] := va_S.rf
  have C : CallFix p m c cX7_isCase 1 s [.int x0].toArray wsX7_isCase RX7 := C
  obtain ⟨hx, hb, hml, hown, hts⟩ := id C
  have hl : lv_has ls 1 [(0, .int x0)] := hl
  have rx0 := ka_rng x0
  refine lv_iload_n hx hb dX7_isCase_0 rfl (lv_at hl 0 rfl) ?_
  refine lv_iconst (v := 0) hx hb dX7_isCase_1 (by decide) ?_
  refine lv_bipush (v := 31) hx hb dX7_isCase_2 (by decide) ?_
  refine ka_RS (n := 3) C (cg_X7_isIn_232 l D F x0) gX7_isCase_X7_isIn rfl (by decide +kernel) ⟨Nat.le_of_ble_eq_true rfl, Nat.le_of_ble_eq_true rfl⟩ hK hP hS hE hN [] rfl [] rfl rfl hl.1 (rest := []) rfl (Nat.le_of_ble_eq_true rfl) dX7_isCase_4 ⟨Nat.le_of_ble_eq_true rfl, Nat.le_of_ble_eq_true rfl⟩ (fun v hv => ?_)
  obtain ⟨v_24674, rfl, hv_24674⟩ := hv
  have rv_24674 := ka_rng v_24674
  refine ka_stk (w := [.int v_24674]) rfl ?_
  exact ka_rRz C hr hlk (kb_nz ⟨by omega, by omega⟩) ⟨_, rfl, ⟨by omega, by omega⟩⟩ dX7_isCase_7
set_option maxHeartbeats 4000000 in
set_option maxRecDepth 100000 in
theorem cg_X7_isIn_249 (l : Launch) (D : va_G) (F : Nat → Prop) (x0 : Int32) : ka_R l D F yX7_isIn wsX7_isIn 0 0 [.int x0, .int 0, .int 1] [] [] (fun v => ∃ x : Int32, v = some (.int x) ∧ 0 ≤ x.toInt ∧ x.toInt ≤ 1) := by
  refine ka_R_of (cc := cX7_isIn) (maxL := 3) (ret := (some .boolean)) (by decide) rfl (Nat.le_of_ble_eq_true rfl) ?_
  intro p e s m below meth c ls C hr hlk hP hK hE hN hl
  have hS : va_S (fun _ => False) s.heap s.heap [] := va_S.rf
  have C : CallFix p m c cX7_isIn 3 s [.int x0, .int 0, .int 1].toArray wsX7_isIn RX7 := C
  obtain ⟨hx, hb, hml, hown, hts⟩ := id C
  have hl : lv_has ls 3 [(0, .int x0), (1, .int 0), (2, .int 1)] := hl
  have rx0 := ka_rng x0
  refine lv_iload_n hx hb dX7_isIn_0 rfl (lv_at hl 0 rfl) ?_
  refine lv_iload_n hx hb dX7_isIn_1 rfl (lv_at hl 1 rfl) ?_
  refine lv_icmp_lt (tgt := 14) hx hb dX7_isIn_2 (by decide) (fun c_24709 => ?_) (fun c_24709 => ?_)
  · have c_24709 : x0.toInt < 0 := by rw [ka_lt', show ((0 : Int32)).toInt = 0 from by decide] at c_24709; exact c_24709
    refine lv_iconst (v := 0) hx hb dX7_isIn_14 (by decide) ?_
    exact ka_rRz C hr hlk rfl ⟨_, rfl, ⟨by decide, by decide⟩⟩ dX7_isIn_15
  · have c_24709 : ¬ x0.toInt < 0 := by rw [ka_lt', show ((0 : Int32)).toInt = 0 from by decide] at c_24709; exact c_24709
    refine lv_iload_n hx hb dX7_isIn_5 rfl (lv_at hl 0 rfl) ?_
    refine lv_iload_n hx hb dX7_isIn_6 rfl (lv_at hl 2 rfl) ?_
    refine lv_icmp_gt (tgt := 14) hx hb dX7_isIn_7 (by decide) (fun c_24710 => ?_) (fun c_24710 => ?_)
    · have c_24710 : 1 < x0.toInt := by rw [ka_lt', show ((1 : Int32)).toInt = 1 from by decide] at c_24710; exact c_24710
      refine lv_iconst (v := 0) hx hb dX7_isIn_14 (by decide) ?_
      exact ka_rRz C hr hlk rfl ⟨_, rfl, ⟨by decide, by decide⟩⟩ dX7_isIn_15
    · have c_24710 : ¬ 1 < x0.toInt := by rw [ka_lt', show ((1 : Int32)).toInt = 1 from by decide] at c_24710; exact c_24710
      refine lv_iconst (v := 1) hx hb dX7_isIn_10 (by decide) ?_
      refine lv_goto (tgt := 15) hx hb dX7_isIn_11 (by decide) ?_
      exact ka_rRz C hr hlk rfl ⟨_, rfl, ⟨by decide, by decide⟩⟩ dX7_isIn_15
set_option maxHeartbeats 4000000 in
set_option maxRecDepth 100000 in
theorem cg_X7_tellsOf_250 (l : Launch) (D : va_G) (F : Nat → Prop) (a0 : Nat) (x0 : Int32) (x1 : Int32) (a1 : Nat) (x2 : Int32) (a2 : Nat) (a3 : Nat) (a4 : Nat) (a5 : Nat) (a6 : Nat) (a7 : Nat) (a8 : Nat) (x3 : Int32) (x4 : Int32) (x5 : Int32) (x6 : Int32) (x7 : Int32) (x8 : Int32) (x9 : Int32) (a9 : Nat) (a10 : Nat) (a11 : Nat) (a12 : Nat) (a13 : Nat) (a14 : Nat) (x10 : Int32) (x11 : Int32) (x12 : Int32) (x13 : Int32) (x14 : Int32) (x15 : Int32) (k0 : ClassId) (f0 : Nat → Int32) (hx0 : 0 ≤ x0.toInt ∧ x0.toInt ≤ 5) (hx2 : 0 ≤ x2.toInt ∧ x2.toInt ≤ 80) (hx3 : 0 ≤ x3.toInt ∧ x3.toInt ≤ 5) (hx6 : 1 ≤ x6.toInt ∧ x6.toInt ≤ 8) (hx7 : 0 ≤ x7.toInt ∧ x7.toInt ≤ 40) (hx9 : 0 ≤ x9.toInt ∧ x9.toInt ≤ 10) (hx10 : 0 ≤ x10.toInt ∧ x10.toInt ≤ 60) (hx11 : 0 ≤ x11.toInt ∧ x11.toInt ≤ 60) (hx12 : 0 ≤ x12.toInt ∧ x12.toInt ≤ 60) (hx13 : 0 ≤ x13.toInt ∧ x13.toInt ≤ 8) (hx15 : 0 ≤ x15.toInt ∧ x15.toInt ≤ 1) : ka_R l D F yX7_tellsOf wsX7_tellsOf 0 0 [.ref a0, .int x0, .int x1] [(a0, .inr (7, [.ref a1, .int x2, .ref a2, .ref a3, .ref a4, .ref a5, .ref a6, .ref a7, .ref a8, .int x3, .int x4, .int x5, .int x6, .int x7, .int x8, .int x9, .ref a9, .ref a10, .ref a11, .ref a12, .ref a13, .ref a14, .int x10, .int x11, .int x12, .int x13, .int x14, .int x15])), (a2, .inl (k0, 89, .inl f0))] [(k0, .int)] (fun v => ∃ x : Int32, v = some (.int x)) := by
  refine ka_R_of (cc := cX7_tellsOf) (maxL := 3) (ret := (some .int)) (by decide) rfl (Nat.le_of_ble_eq_true rfl) ?_
  intro p e s m below meth c ls C hr hlk hP hK hE hN hl
  have hS : va_S (fun _ => False) s.heap s.heap [] := va_S.rf
  have C : CallFix p m c cX7_tellsOf 3 s [.ref a0, .int x0, .int x1].toArray wsX7_tellsOf RX7 := C
  obtain ⟨hx, hb, hml, hown, hts⟩ := id C
  have hl : lv_has ls 3 [(0, .ref a0), (1, .int x0), (2, .int x1)] := hl
  have rx0 := ka_rng x0
  have rx1 := ka_rng x1
  have rx2 := ka_rng x2
  have rx3 := ka_rng x3
  have rx4 := ka_rng x4
  have rx5 := ka_rng x5
  have rx6 := ka_rng x6
  have rx7 := ka_rng x7
  have rx8 := ka_rng x8
  have rx9 := ka_rng x9
  have rx10 := ka_rng x10
  have rx11 := ka_rng x11
  have rx12 := ka_rng x12
  have rx13 := ka_rng x13
  have rx14 := ka_rng x14
  have rx15 := ka_rng x15
  refine lv_aload_n hx hb dX7_tellsOf_0 rfl (lv_at hl 0 rfl) ?_
  refine ka_get C lq_283 rfl hK hP 0 rfl 2 (by decide) lq_284 rfl dX7_tellsOf_1 ?_
  refine lv_iload_n hx hb dX7_tellsOf_4 rfl (lv_at hl 1 rfl) ?_
  refine va_iald hx hb hK hP 1 0 rfl rfl (ka_in (by omega) (by omega)) dX7_tellsOf_5 ?_
  refine lv_topi (fun v_24782 ev_24782 => ?_)
  refine lv_iload_n hx hb dX7_tellsOf_6 rfl (lv_at hl 2 rfl) ?_
  refine lv_ishr hx hb dX7_tellsOf_7 ?_
  refine lv_topi (fun v_24783 ev_24783 => ?_)
  refine lv_iconst (v := 1) hx hb dX7_tellsOf_8 (by decide) ?_
  refine lv_iand hx hb dX7_tellsOf_9 ?_
  refine lv_topi (fun v_24784 ev_24784 => ?_)
  exact ka_rRi C hr hlk ⟨_, rfl⟩ dX7_tellsOf_10
theorem lq_301 : ∀ w ∈ wsX70, w ∈ wsX7_isRight := by decide +kernel
theorem lq_302 : Cond.fieldLink RX7 49 "AskedBackModel" "given" "[I" ∈ wsX7_isRight := by decide +kernel
theorem lq_303 : Cond.fieldLink RX7 36 "AskedBackModel" "lesson" "I" ∈ wsX7_isRight := by decide +kernel
theorem lq_304 : Cond.fieldLink RX7 46 "AskedBackModel" "asked" "[I" ∈ wsX7_isRight := by decide +kernel
set_option maxHeartbeats 4000000 in
set_option maxRecDepth 100000 in
theorem cg_X7_isRight_251 (l : Launch) (D : va_G) (F : Nat → Prop) (a0 : Nat) (x0 : Int32) (a1 : Nat) (x1 : Int32) (a2 : Nat) (a3 : Nat) (a4 : Nat) (a5 : Nat) (a6 : Nat) (a7 : Nat) (a8 : Nat) (x2 : Int32) (x3 : Int32) (x4 : Int32) (x5 : Int32) (x6 : Int32) (x7 : Int32) (x8 : Int32) (a9 : Nat) (a10 : Nat) (a11 : Nat) (a12 : Nat) (a13 : Nat) (a14 : Nat) (x9 : Int32) (x10 : Int32) (x11 : Int32) (x12 : Int32) (x13 : Int32) (x14 : Int32) (k0 : ClassId) (f0 : Nat → Int32) (k1 : ClassId) (f1 : Nat → Int32) (k2 : ClassId) (f2 : Nat → Int32) (hx0 : 0 ≤ x0.toInt ∧ x0.toInt ≤ 39) (hx1 : 0 ≤ x1.toInt ∧ x1.toInt ≤ 80) (hx2 : 0 ≤ x2.toInt ∧ x2.toInt ≤ 5) (hx5 : 1 ≤ x5.toInt ∧ x5.toInt ≤ 8) (hx6 : 0 ≤ x6.toInt ∧ x6.toInt ≤ 40) (hx8 : 0 ≤ x8.toInt ∧ x8.toInt ≤ 10) (hx9 : 0 ≤ x9.toInt ∧ x9.toInt ≤ 60) (hx10 : 0 ≤ x10.toInt ∧ x10.toInt ≤ 60) (hx11 : 0 ≤ x11.toInt ∧ x11.toInt ≤ 60) (hx12 : 0 ≤ x12.toInt ∧ x12.toInt ≤ 8) (hx14 : 0 ≤ x14.toInt ∧ x14.toInt ≤ 1) : ka_R l D F yX7_isRight wsX7_isRight 1 22 [.ref a0, .int x0] [(a0, .inr (7, [.ref a1, .int x1, .ref a2, .ref a3, .ref a4, .ref a5, .ref a6, .ref a7, .ref a8, .int x2, .int x3, .int x4, .int x5, .int x6, .int x7, .int x8, .ref a9, .ref a10, .ref a11, .ref a12, .ref a13, .ref a14, .int x9, .int x10, .int x11, .int x12, .int x13, .int x14])), (a2, .inl (k0, 89, .inl f0)), (a9, .inl (k1, 40, .inl f1)), (a10, .inl (k2, 40, .inl f2))] [(k0, .int), (k1, .int), (k2, .int)] (fun v => ∃ x : Int32, v = some (.int x) ∧ 0 ≤ x.toInt ∧ x.toInt ≤ 1) := by
  refine ka_R_of (cc := cX7_isRight) (maxL := 2) (ret := (some .boolean)) (by decide) rfl (Nat.le_of_ble_eq_true rfl) ?_
  intro p e s m below meth c ls C hr hlk hP hK hE hN hl
  have hS : va_S (fun _ => False) s.heap s.heap [] := va_S.rf
  have C : CallFix p m c cX7_isRight 2 s [.ref a0, .int x0].toArray wsX7_isRight RX7 := C
  obtain ⟨hx, hb, hml, hown, hts⟩ := id C
  have hl : lv_has ls 2 [(0, .ref a0), (1, .int x0)] := hl
  have rx0 := ka_rng x0
  have rx1 := ka_rng x1
  have rx2 := ka_rng x2
  have rx3 := ka_rng x3
  have rx4 := ka_rng x4
  have rx5 := ka_rng x5
  have rx6 := ka_rng x6
  have rx7 := ka_rng x7
  have rx8 := ka_rng x8
  have rx9 := ka_rng x9
  have rx10 := ka_rng x10
  have rx11 := ka_rng x11
  have rx12 := ka_rng x12
  have rx13 := ka_rng x13
  have rx14 := ka_rng x14
  refine lv_aload_n hx hb dX7_isRight_0 rfl (lv_at hl 0 rfl) ?_
  refine ka_get C lq_301 rfl hK hP 0 rfl 17 (by decide) lq_302 rfl dX7_isRight_1 ?_
  refine lv_iload_n hx hb dX7_isRight_4 rfl (lv_at hl 1 rfl) ?_
  refine va_iald hx hb hK hP 3 2 rfl rfl (ka_in (by omega) (by omega)) dX7_isRight_5 ?_
  refine lv_topi (fun v_24791 ev_24791 => ?_)
  refine lv_aload_n hx hb dX7_isRight_6 rfl (lv_at hl 0 rfl) ?_
  refine lv_aload_n hx hb dX7_isRight_7 rfl (lv_at hl 0 rfl) ?_
  refine ka_get C lq_301 rfl hK hP 0 rfl 9 (by decide) lq_303 rfl dX7_isRight_8 ?_
  refine lv_aload_n hx hb dX7_isRight_11 rfl (lv_at hl 0 rfl) ?_
  refine ka_get C lq_301 rfl hK hP 0 rfl 16 (by decide) lq_304 rfl dX7_isRight_12 ?_
  refine lv_iload_n hx hb dX7_isRight_15 rfl (lv_at hl 1 rfl) ?_
  refine va_iald hx hb hK hP 2 1 rfl rfl (ka_in (by omega) (by omega)) dX7_isRight_16 ?_
  refine lv_topi (fun v_24792 ev_24792 => ?_)
  refine ka_RV (n := 2) C (cg_X7_tellsOf_250 l D F a0 x2 v_24792 a1 x1 a2 a3 a4 a5 a6 a7 a8 x2 x3 x4 x5 x6 x7 x8 a9 a10 a11 a12 a13 a14 x9 x10 x11 x12 x13 x14 k0 f0 ⟨by omega, by omega⟩ ⟨by omega, by omega⟩ ⟨by omega, by omega⟩ ⟨by omega, by omega⟩ ⟨by omega, by omega⟩ ⟨by omega, by omega⟩ ⟨by omega, by omega⟩ ⟨by omega, by omega⟩ ⟨by omega, by omega⟩ ⟨by omega, by omega⟩ ⟨by omega, by omega⟩) gX7_isRight_X7_tellsOf rfl (by decide +kernel) ⟨Nat.le_of_ble_eq_true rfl, Nat.le_of_ble_eq_true rfl⟩ hK hP hS hE hN [0, 1] rfl [0] rfl (ci := 7) rfl rfl 0 rfl rfl hl.1 (rest := [.int v_24791]) rfl (Nat.le_of_ble_eq_true rfl) dX7_isRight_17 ⟨Nat.le_of_ble_eq_true rfl, Nat.le_of_ble_eq_true rfl⟩ (fun v hv => ?_)
  obtain ⟨v_24793, rfl⟩ := hv
  have rv_24793 := ka_rng v_24793
  refine ka_stk (w := [.int v_24793, .int v_24791]) rfl ?_
  refine lv_icmp_ne (tgt := 27) hx hb dX7_isRight_20 (by decide) (fun c_24794 => ?_) (fun c_24794 => ?_)
  · have c_24794 : ¬ v_24791.toInt = v_24793.toInt := by rw [ka_eq'] at c_24794; exact c_24794
    refine lv_iconst (v := 0) hx hb dX7_isRight_27 (by decide) ?_
    exact ka_rRz C hr hlk rfl ⟨_, rfl, ⟨by decide, by decide⟩⟩ dX7_isRight_28
  · have c_24794 : v_24791.toInt = v_24793.toInt := by rw [ka_eq'] at c_24794; exact c_24794
    refine lv_iconst (v := 1) hx hb dX7_isRight_23 (by decide) ?_
    refine lv_goto (tgt := 28) hx hb dX7_isRight_24 (by decide) ?_
    exact ka_rRz C hr hlk rfl ⟨_, rfl, ⟨by decide, by decide⟩⟩ dX7_isRight_28
set_option maxHeartbeats 4000000 in
set_option maxRecDepth 100000 in
theorem cg_X7_one_252 (l : Launch) (D : va_G) (F : Nat → Prop) (x0 : Int32) (hx0 : 0 ≤ x0.toInt ∧ x0.toInt ≤ 1) : ka_R l D F yX7_one wsX7_one 0 0 [.int x0] [] [] (fun v => ∃ x : Int32, v = some (.int x) ∧ 0 ≤ x.toInt ∧ x.toInt ≤ 1) := by
  refine ka_R_of (cc := cX7_one) (maxL := 1) (ret := (some .int)) (by decide) rfl (Nat.le_of_ble_eq_true rfl) ?_
  intro p e s m below meth c ls C hr hlk hP hK hE hN hl
  have hS : va_S (fun _ => False) s.heap s.heap [] := va_S.rf
  have C : CallFix p m c cX7_one 1 s [.int x0].toArray wsX7_one RX7 := C
  obtain ⟨hx, hb, hml, hown, hts⟩ := id C
  have hl : lv_has ls 1 [(0, .int x0)] := hl
  have rx0 := ka_rng x0
  refine lv_iload_n hx hb dX7_one_0 rfl (lv_at hl 0 rfl) ?_
  refine lv_if_eq (tgt := 8) hx hb dX7_one_1 (by decide) (fun c_24826 => ?_) (fun c_24826 => ?_)
  · have c_24826 : x0.toInt = 0 := by rw [ka_eq', show ((0 : Int32)).toInt = 0 from by decide] at c_24826; exact c_24826
    refine lv_iconst (v := 0) hx hb dX7_one_8 (by decide) ?_
    exact ka_rRi C hr hlk ⟨_, rfl, ⟨by decide, by decide⟩⟩ dX7_one_9
  · have c_24826 : ¬ x0.toInt = 0 := by rw [ka_eq', show ((0 : Int32)).toInt = 0 from by decide] at c_24826; exact c_24826
    refine lv_iconst (v := 1) hx hb dX7_one_4 (by decide) ?_
    refine lv_goto (tgt := 9) hx hb dX7_one_5 (by decide) ?_
    exact ka_rRi C hr hlk ⟨_, rfl, ⟨by decide, by decide⟩⟩ dX7_one_9
set_option maxHeartbeats 4000000 in
set_option maxRecDepth 100000 in
theorem cg_X7_one_253 (l : Launch) (D : va_G) (F : Nat → Prop) : ka_R l D F yX7_one wsX7_one 0 0 [.int 0] [] [] (fun v => v = some (.int 0)) := by
  refine ka_R_of (cc := cX7_one) (maxL := 1) (ret := (some .int)) (by decide) rfl (Nat.le_of_ble_eq_true rfl) ?_
  intro p e s m below meth c ls C hr hlk hP hK hE hN hl
  have hS : va_S (fun _ => False) s.heap s.heap [] := va_S.rf
  have C : CallFix p m c cX7_one 1 s [.int 0].toArray wsX7_one RX7 := C
  obtain ⟨hx, hb, hml, hown, hts⟩ := id C
  have hl : lv_has ls 1 [(0, .int 0)] := hl
  refine lv_iload_n hx hb dX7_one_0 rfl (lv_at hl 0 rfl) ?_
  refine lv_if_eq (tgt := 8) hx hb dX7_one_1 (by decide) (fun _ => ?_) (fun c_ => absurd (by decide) c_)
  refine lv_iconst (v := 0) hx hb dX7_one_8 (by decide) ?_
  exact ka_rRi C hr hlk rfl dX7_one_9
set_option maxHeartbeats 4000000 in
set_option maxRecDepth 100000 in
theorem cg_X7_one_254 (l : Launch) (D : va_G) (F : Nat → Prop) : ka_R l D F yX7_one wsX7_one 0 0 [.int 1] [] [] (fun v => v = some (.int 1)) := by
  refine ka_R_of (cc := cX7_one) (maxL := 1) (ret := (some .int)) (by decide) rfl (Nat.le_of_ble_eq_true rfl) ?_
  intro p e s m below meth c ls C hr hlk hP hK hE hN hl
  have hS : va_S (fun _ => False) s.heap s.heap [] := va_S.rf
  have C : CallFix p m c cX7_one 1 s [.int 1].toArray wsX7_one RX7 := C
  obtain ⟨hx, hb, hml, hown, hts⟩ := id C
  have hl : lv_has ls 1 [(0, .int 1)] := hl
  refine lv_iload_n hx hb dX7_one_0 rfl (lv_at hl 0 rfl) ?_
  refine lv_if_eq (tgt := 8) hx hb dX7_one_1 (by decide) (fun c_ => absurd c_ (by decide)) (fun _ => ?_)
  refine lv_iconst (v := 1) hx hb dX7_one_4 (by decide) ?_
  refine lv_goto (tgt := 9) hx hb dX7_one_5 (by decide) ?_
  exact ka_rRi C hr hlk rfl dX7_one_9
theorem lq_305 : ∀ w ∈ wsX70, w ∈ wsX7_timesAsked := by decide +kernel
theorem lq_306 : Cond.fieldLink RX7 46 "AskedBackModel" "asked" "[I" ∈ wsX7_timesAsked := by decide +kernel
set_option maxHeartbeats 4000000 in
set_option maxRecDepth 100000 in
theorem cg_X7_timesAsked_255 (l : Launch) (D : va_G) (F : Nat → Prop) (a0 : Nat) (x0 : Int32) (x1 : Int32) (a1 : Nat) (x2 : Int32) (a2 : Nat) (a3 : Nat) (a4 : Nat) (a5 : Nat) (a6 : Nat) (a7 : Nat) (a8 : Nat) (x3 : Int32) (x4 : Int32) (x5 : Int32) (x6 : Int32) (x7 : Int32) (x8 : Int32) (x9 : Int32) (a9 : Nat) (a10 : Nat) (a11 : Nat) (a12 : Nat) (a13 : Nat) (a14 : Nat) (x10 : Int32) (x11 : Int32) (x12 : Int32) (x13 : Int32) (x14 : Int32) (x15 : Int32) (k0 : ClassId) (f0 : Nat → Int32) (hx1 : 0 ≤ x1.toInt ∧ x1.toInt ≤ 39) (hx2 : 0 ≤ x2.toInt ∧ x2.toInt ≤ 80) (hx3 : 0 ≤ x3.toInt ∧ x3.toInt ≤ 5) (hx6 : 1 ≤ x6.toInt ∧ x6.toInt ≤ 8) (hx7 : 0 ≤ x7.toInt ∧ x7.toInt ≤ 40) (hx9 : 0 ≤ x9.toInt ∧ x9.toInt ≤ 10) (hx10 : 0 ≤ x10.toInt ∧ x10.toInt ≤ 60) (hx11 : 0 ≤ x11.toInt ∧ x11.toInt ≤ 60) (hx12 : 0 ≤ x12.toInt ∧ x12.toInt ≤ 60) (hx13 : 0 ≤ x13.toInt ∧ x13.toInt ≤ 8) (hx15 : 0 ≤ x15.toInt ∧ x15.toInt ≤ 1) : ka_R l D F yX7_timesAsked wsX7_timesAsked 1 20 [.ref a0, .int x0, .int x1] [(a0, .inr (7, [.ref a1, .int x2, .ref a2, .ref a3, .ref a4, .ref a5, .ref a6, .ref a7, .ref a8, .int x3, .int x4, .int x5, .int x6, .int x7, .int x8, .int x9, .ref a9, .ref a10, .ref a11, .ref a12, .ref a13, .ref a14, .int x10, .int x11, .int x12, .int x13, .int x14, .int x15])), (a9, .inl (k0, 40, .inl f0))] [(k0, .int)] (fun v => ∃ x : Int32, v = some (.int x)) := by
  refine ka_R_of (cc := cX7_timesAsked) (maxL := 5) (ret := (some .int)) (by decide) rfl (Nat.le_of_ble_eq_true rfl) ?_
  intro p e s m below meth c ls C hr hlk hP hK hE hN hl
  have hS : va_S (fun _ => False) s.heap s.heap [] := va_S.rf
  have C : CallFix p m c cX7_timesAsked 5 s [.ref a0, .int x0, .int x1].toArray wsX7_timesAsked RX7 := C
  obtain ⟨hx, hb, hml, hown, hts⟩ := id C
  have hl : lv_has ls 5 [(0, .ref a0), (1, .int x0), (2, .int x1)] := hl
  have rx0 := ka_rng x0
  have rx1 := ka_rng x1
  have rx2 := ka_rng x2
  have rx3 := ka_rng x3
  have rx4 := ka_rng x4
  have rx5 := ka_rng x5
  have rx6 := ka_rng x6
  have rx7 := ka_rng x7
  have rx8 := ka_rng x8
  have rx9 := ka_rng x9
  have rx10 := ka_rng x10
  have rx11 := ka_rng x11
  have rx12 := ka_rng x12
  have rx13 := ka_rng x13
  have rx14 := ka_rng x14
  have rx15 := ka_rng x15
  refine lv_iconst (v := 0) hx hb dX7_timesAsked_0 (by decide) ?_
  refine lv_istore_n (lv' := [(3, .int 0), (0, .ref a0), (1, .int x0), (2, .int x1)]) hx hb dX7_timesAsked_1 rfl hl (by decide) rfl (fun ls hl => ?_)
  refine lv_iconst (v := 0) hx hb dX7_timesAsked_2 (by decide) ?_
  refine lv_istore (lv' := [(4, .int 0), (3, .int 0), (0, .ref a0), (1, .int x0), (2, .int x1)]) hx hb dX7_timesAsked_3 hl (by decide) rfl (fun ls hl => ?_)
  have lp_24968 : ∀ (n : Nat) (i24968_3 : Int32) (i24968_4 : Int32), (0 ≤ i24968_4.toInt ∧ i24968_4.toInt ≤ 40) → (40 - i24968_4.toInt).toNat < n → ∀ (ls : Array Slot), lv_has ls 5 [(0, .ref a0), (1, .int x0), (2, .int x1), (3, .int i24968_3), (4, .int i24968_4)] → W p l e ({ frames := 1, cells := 0, slots := 0, locals := 20 }) s m [.ref a0, .int x0, .int x1].toArray below meth c s.heap [] 0 0 (MQ below (ka_QR (fun v => ∃ x : Int32, v = some (.int x))) [.ref a0, .int x0, .int x1].toArray s 0 0 (fun _ => False)) (F0 m 5 ls []) := by
    intro n
    induction n with
    | zero =>
      intro i24968_3 i24968_4 hi24968_4 hm
      exact absurd hm (Nat.not_lt_zero _)
    | succ n ih_24968 =>
      intro i24968_3 i24968_4 hi24968_4 hm ls hl
      have ri24968_3 := ka_rng i24968_3
      have ri24968_4 := ka_rng i24968_4
      refine lv_iload hx hb dX7_timesAsked_5 (lv_at hl 4 rfl) ?_
      refine lv_iload_n hx hb dX7_timesAsked_7 rfl (lv_at hl 2 rfl) ?_
      refine lv_icmp_ge (tgt := 39) hx hb dX7_timesAsked_8 (by decide) (fun c_24976 => ?_) (fun c_24976 => ?_)
      · have c_24976 : x1.toInt ≤ i24968_4.toInt := by rw [ka_le'] at c_24976; exact c_24976
        refine lv_iload_n hx hb dX7_timesAsked_39 rfl (lv_at hl 3 rfl) ?_
        exact ka_rRi C hr hlk ⟨_, rfl⟩ dX7_timesAsked_40
      · have c_24976 : ¬ x1.toInt ≤ i24968_4.toInt := by rw [ka_le'] at c_24976; exact c_24976
        refine lv_iload_n hx hb dX7_timesAsked_11 rfl (lv_at hl 3 rfl) ?_
        refine lv_aload_n hx hb dX7_timesAsked_12 rfl (lv_at hl 0 rfl) ?_
        refine ka_get C lq_305 rfl hK hP 0 rfl 16 (by decide) lq_306 rfl dX7_timesAsked_13 ?_
        refine lv_iload hx hb dX7_timesAsked_16 (lv_at hl 4 rfl) ?_
        refine va_iald hx hb hK hP 1 0 rfl rfl (ka_in (by omega) (by omega)) dX7_timesAsked_18 ?_
        refine lv_topi (fun v_24977 ev_24977 => ?_)
        refine lv_iload_n hx hb dX7_timesAsked_19 rfl (lv_at hl 1 rfl) ?_
        refine lv_icmp_ne (tgt := 27) hx hb dX7_timesAsked_20 (by decide) (fun c_24978 => ?_) (fun c_24978 => ?_)
        · have c_24978 : ¬ v_24977.toInt = x0.toInt := by rw [ka_eq'] at c_24978; exact c_24978
          refine lv_iconst (v := 0) hx hb dX7_timesAsked_27 (by decide) ?_
          refine ka_RS (n := 1) C (cg_X7_one_253 l D F ) gX7_timesAsked_X7_one rfl (by decide +kernel) ⟨Nat.le_of_ble_eq_true rfl, Nat.le_of_ble_eq_true rfl⟩ hK hP hS hE hN [] rfl [] rfl rfl hl.1 (rest := [.int i24968_3]) rfl (Nat.le_of_ble_eq_true rfl) dX7_timesAsked_28 ⟨Nat.le_of_ble_eq_true rfl, Nat.le_of_ble_eq_true rfl⟩ (fun v hv => ?_)
          subst hv
          refine ka_stk (w := [.int 0, .int i24968_3]) rfl ?_
          refine lv_iadd hx hb dX7_timesAsked_31 ?_
          refine lv_topi (fun v_24979 ev_24979 => ?_)
          have fv_24979 : v_24979.toInt = i24968_3.toInt + 0 := by rw [ev_24979]; exact ka_add (x := i24968_3.toInt) (y := 0) rfl (by decide) (by omega) (by omega)
          refine lv_istore_n (lv' := [(3, .int v_24979), (0, .ref a0), (1, .int x0), (2, .int x1), (4, .int i24968_4)]) hx hb dX7_timesAsked_32 rfl hl (by decide) rfl (fun ls hl => ?_)
          obtain ⟨v_24980, ev_24980⟩ : ∃ y : Int32, y = i24968_4 + 1 := ⟨_, rfl⟩
          refine lv_iinc (v := v_24980) (lv' := [(4, .int v_24980), (3, .int v_24979), (0, .ref a0), (1, .int x0), (2, .int x1)]) hx hb dX7_timesAsked_33 hl (k := 4) rfl (by rw [ev_24980]; rfl) (by decide) rfl (fun ls hl => ?_)
          have fv_24980 : v_24980.toInt = i24968_4.toInt + 1 := by rw [ev_24980]; exact ka_add (x := i24968_4.toInt) (y := 1) rfl (by decide) (by omega) (by omega)
          refine lv_goto (tgt := 5) hx hb dX7_timesAsked_36 (by decide) ?_
          exact ih_24968 v_24979 v_24980 ⟨by omega, by omega⟩ (by omega) ls (lv_sub hl [2, 3, 4, 1, 0] rfl)
        · have c_24978 : v_24977.toInt = x0.toInt := by rw [ka_eq'] at c_24978; exact c_24978
          refine lv_iconst (v := 1) hx hb dX7_timesAsked_23 (by decide) ?_
          refine lv_goto (tgt := 28) hx hb dX7_timesAsked_24 (by decide) ?_
          refine ka_RS (n := 1) C (cg_X7_one_254 l D F ) gX7_timesAsked_X7_one rfl (by decide +kernel) ⟨Nat.le_of_ble_eq_true rfl, Nat.le_of_ble_eq_true rfl⟩ hK hP hS hE hN [] rfl [] rfl rfl hl.1 (rest := [.int i24968_3]) rfl (Nat.le_of_ble_eq_true rfl) dX7_timesAsked_28 ⟨Nat.le_of_ble_eq_true rfl, Nat.le_of_ble_eq_true rfl⟩ (fun v hv => ?_)
          subst hv
          refine ka_stk (w := [.int 1, .int i24968_3]) rfl ?_
          refine lv_iadd hx hb dX7_timesAsked_31 ?_
          refine lv_topi (fun v_24981 ev_24981 => ?_)
          refine lv_istore_n (lv' := [(3, .int v_24981), (0, .ref a0), (1, .int x0), (2, .int x1), (4, .int i24968_4)]) hx hb dX7_timesAsked_32 rfl hl (by decide) rfl (fun ls hl => ?_)
          obtain ⟨v_24982, ev_24982⟩ : ∃ y : Int32, y = i24968_4 + 1 := ⟨_, rfl⟩
          refine lv_iinc (v := v_24982) (lv' := [(4, .int v_24982), (3, .int v_24981), (0, .ref a0), (1, .int x0), (2, .int x1)]) hx hb dX7_timesAsked_33 hl (k := 4) rfl (by rw [ev_24982]; rfl) (by decide) rfl (fun ls hl => ?_)
          have fv_24982 : v_24982.toInt = i24968_4.toInt + 1 := by rw [ev_24982]; exact ka_add (x := i24968_4.toInt) (y := 1) rfl (by decide) (by omega) (by omega)
          refine lv_goto (tgt := 5) hx hb dX7_timesAsked_36 (by decide) ?_
          exact ih_24968 v_24981 v_24982 ⟨by omega, by omega⟩ (by omega) ls (lv_sub hl [2, 3, 4, 1, 0] rfl)
  exact lp_24968 _ 0 0 ⟨by decide, by decide⟩ (Nat.lt_succ_self _) ls (lv_sub hl [2, 3, 4, 1, 0] rfl)
theorem lq_307 : ∀ w ∈ wsX70, w ∈ wsX7_answer := by decide +kernel
theorem lq_308 : Cond.fieldLink RX7 36 "AskedBackModel" "lesson" "I" ∈ wsX7_answer := by decide +kernel
theorem lq_309 : Cond.fieldLink RX7 27 "AskedBackModel" "isDone" "[Z" ∈ wsX7_answer := by decide +kernel
theorem lq_310 : Cond.fieldLink RX7 169 "AskedBackModel" "answers" "I" ∈ wsX7_answer := by decide +kernel
theorem lq_311 : Cond.fieldLink RX7 46 "AskedBackModel" "asked" "[I" ∈ wsX7_answer := by decide +kernel
theorem lq_312 : Cond.fieldLink RX7 49 "AskedBackModel" "given" "[I" ∈ wsX7_answer := by decide +kernel
theorem lq_313 : Cond.fieldLink RX7 172 "AskedBackModel" "rights" "I" ∈ wsX7_answer := by decide +kernel
theorem lq_314 : Cond.fieldLink RX7 43 "AskedBackModel" "fresh" "I" ∈ wsX7_answer := by decide +kernel
set_option maxHeartbeats 4000000 in
set_option maxRecDepth 100000 in
theorem cg_X7_answer_256 (l : Launch) (D : va_G) (F : Nat → Prop) (a0 : Nat) (x0 : Int32) (x1 : Int32) (a1 : Nat) (x2 : Int32) (a2 : Nat) (a3 : Nat) (a4 : Nat) (a5 : Nat) (a6 : Nat) (a7 : Nat) (a8 : Nat) (x3 : Int32) (x4 : Int32) (x5 : Int32) (x6 : Int32) (x7 : Int32) (x8 : Int32) (x9 : Int32) (a9 : Nat) (a10 : Nat) (a11 : Nat) (a12 : Nat) (a13 : Nat) (a14 : Nat) (x10 : Int32) (x11 : Int32) (x12 : Int32) (x13 : Int32) (x14 : Int32) (x15 : Int32) (k0 : ClassId) (f0 : Nat → Int32) (k1 : ClassId) (f1 : Nat → Int32) (k2 : ClassId) (f2 : Nat → Int32) (k3 : ClassId) (f3 : Nat → Int32) (hx2 : 0 ≤ x2.toInt ∧ x2.toInt ≤ 80) (hx3 : -1 ≤ x3.toInt ∧ x3.toInt ≤ 5) (hx6 : 1 ≤ x6.toInt ∧ x6.toInt ≤ 8) (hx7 : 0 ≤ x7.toInt ∧ x7.toInt ≤ 40) (hx9 : 0 ≤ x9.toInt ∧ x9.toInt ≤ 10) (hx10 : 0 ≤ x10.toInt ∧ x10.toInt ≤ 60) (hx11 : 0 ≤ x11.toInt ∧ x11.toInt ≤ 60) (hx12 : 0 ≤ x12.toInt ∧ x12.toInt ≤ 60) (hx13 : 0 ≤ x13.toInt ∧ x13.toInt ≤ 8) (hx15 : 0 ≤ x15.toInt ∧ x15.toInt ≤ 1) : ka_E l D F yX7_answer wsX7_answer 2 44 0 0 [.ref a0, .int x0, .int x1] [(a0, .inr (7, [.ref a1, .int x2, .ref a2, .ref a3, .ref a4, .ref a5, .ref a6, .ref a7, .ref a8, .int x3, .int x4, .int x5, .int x6, .int x7, .int x8, .int x9, .ref a9, .ref a10, .ref a11, .ref a12, .ref a13, .ref a14, .int x10, .int x11, .int x12, .int x13, .int x14, .int x15])), (a2, .inl (k0, 89, .inl f0)), (a6, .inl (k1, 6, .inl f1)), (a9, .inl (k2, 40, .inl f2)), (a10, .inl (k3, 40, .inl f3))] [(k0, .int), (k1, .boolean), (k2, .int), (k3, .int)] (fun (u : (Int32) × (Int32) × (Nat → Int32) × (Nat → Int32) × (Nat → Int32) × (Int32)) => some (.int (u.2.2.2.2.2))) (fun (u : (Int32) × (Int32) × (Nat → Int32) × (Nat → Int32) × (Nat → Int32) × (Int32)) => (0 ≤ (u.1).toInt ∧ (u.1).toInt ≤ 40) ∧ (-1 ≤ (u.2.2.2.2.2).toInt ∧ (u.2.2.2.2.2).toInt ≤ 1)) (fun (u : (Int32) × (Int32) × (Nat → Int32) × (Nat → Int32) × (Nat → Int32) × (Int32)) => [(a0, .inr (7, [.ref a1, .int x2, .ref a2, .ref a3, .ref a4, .ref a5, .ref a6, .ref a7, .ref a8, .int x3, .int x4, .int x5, .int x6, .int (u.1), .int (u.2.1), .int x9, .ref a9, .ref a10, .ref a11, .ref a12, .ref a13, .ref a14, .int x10, .int x11, .int x12, .int x13, .int x14, .int x15])), (a2, .inl (k0, 89, .inl f0)), (a6, .inl (k1, 6, .inl (u.2.2.1))), (a9, .inl (k2, 40, .inl (u.2.2.2.1))), (a10, .inl (k3, 40, .inl (u.2.2.2.2.1)))]) (fun (u : (Int32) × (Int32) × (Nat → Int32) × (Nat → Int32) × (Nat → Int32) × (Int32)) => []) := by
  refine ka_E_of (cc := cX7_answer) (maxL := 6) (ret := (some .int)) (by decide) rfl (Nat.le_of_ble_eq_true rfl) ?_
  intro p e s m below meth c ls A C hr hlk hin hP hK hD hS hA hE hN hl
  have C : CallFix p m c cX7_answer 6 s [.ref a0, .int x0, .int x1].toArray wsX7_answer RX7 := C
  obtain ⟨hx, hb, hml, hown, hts⟩ := id C
  have hl : lv_has ls 6 [(0, .ref a0), (1, .int x0), (2, .int x1)] := hl
  have rx0 := ka_rng x0
  have rx1 := ka_rng x1
  have rx2 := ka_rng x2
  have rx3 := ka_rng x3
  have rx4 := ka_rng x4
  have rx5 := ka_rng x5
  have rx6 := ka_rng x6
  have rx7 := ka_rng x7
  have rx8 := ka_rng x8
  have rx9 := ka_rng x9
  have rx10 := ka_rng x10
  have rx11 := ka_rng x11
  have rx12 := ka_rng x12
  have rx13 := ka_rng x13
  have rx14 := ka_rng x14
  have rx15 := ka_rng x15
  refine lv_aload_n hx hb dX7_answer_0 rfl (lv_at hl 0 rfl) ?_
  refine ka_get C lq_307 rfl hK hP 0 rfl 9 (by decide) lq_308 rfl dX7_answer_1 ?_
  refine lv_iconst (v := (-1)) hx hb dX7_answer_4 (by decide) ?_
  refine lv_icmp_eq (tgt := 45) hx hb dX7_answer_5 (by decide) (fun c_25059 => ?_) (fun c_25059 => ?_)
  · have c_25059 : x3.toInt = -1 := by rw [ka_eq', show ((-1 : Int32)).toInt = -1 from by decide] at c_25059; exact c_25059
    refine lv_iconst (v := (-1)) hx hb dX7_answer_45 (by decide) ?_
    exact ka_rEi C hr hlk (Nat.le_of_ble_eq_true rfl) (Nat.le_of_ble_eq_true rfl) hS (ka_qE (x7, x8, f1, f2, f3, (-1)) rfl ⟨(show 0 ≤ x7.toInt ∧ x7.toInt ≤ 40 from ⟨by omega, by omega⟩), (show -1 ≤ ((-1 : Int32)).toInt ∧ ((-1 : Int32)).toInt ≤ 1 from ⟨by decide, by decide⟩)⟩ hK hP hD hS [0, 1, 2, 3, 4] (by decide) rfl [] rfl) dX7_answer_46
  · have c_25059 : ¬ x3.toInt = -1 := by rw [ka_eq', show ((-1 : Int32)).toInt = -1 from by decide] at c_25059; exact c_25059
    refine lv_aload_n hx hb dX7_answer_8 rfl (lv_at hl 0 rfl) ?_
    refine ka_get C lq_307 rfl hK hP 0 rfl 6 (by decide) lq_309 rfl dX7_answer_9 ?_
    refine lv_aload_n hx hb dX7_answer_12 rfl (lv_at hl 0 rfl) ?_
    refine ka_get C lq_307 rfl hK hP 0 rfl 9 (by decide) lq_308 rfl dX7_answer_13 ?_
    refine va_zald hx hb hK hP 2 1 rfl rfl (ka_in (by omega) (by omega)) dX7_answer_16 ?_
    refine lv_topi (fun v_25060 ev_25060 => ?_)
    refine lv_if_ne (tgt := 45) hx hb dX7_answer_17 (by decide) (fun c_25061 => ?_) (fun c_25061 => ?_)
    · have c_25061 : ¬ v_25060.toInt = 0 := by rw [ka_eq', show ((0 : Int32)).toInt = 0 from by decide] at c_25061; exact c_25061
      refine lv_iconst (v := (-1)) hx hb dX7_answer_45 (by decide) ?_
      exact ka_rEi C hr hlk (Nat.le_of_ble_eq_true rfl) (Nat.le_of_ble_eq_true rfl) hS (ka_qE (x7, x8, f1, f2, f3, (-1)) rfl ⟨(show 0 ≤ x7.toInt ∧ x7.toInt ≤ 40 from ⟨by omega, by omega⟩), (show -1 ≤ ((-1 : Int32)).toInt ∧ ((-1 : Int32)).toInt ≤ 1 from ⟨by decide, by decide⟩)⟩ hK hP hD hS [0, 1, 2, 3, 4] (by decide) rfl [] rfl) dX7_answer_46
    · have c_25061 : v_25060.toInt = 0 := by rw [ka_eq', show ((0 : Int32)).toInt = 0 from by decide] at c_25061; exact c_25061
      refine lv_iload_n hx hb dX7_answer_20 rfl (lv_at hl 1 rfl) ?_
      refine ka_RS (n := 1) C (cg_X7_isCase_248 l D F x0) gX7_answer_X7_isCase rfl (by decide +kernel) ⟨Nat.le_of_ble_eq_true rfl, Nat.le_of_ble_eq_true rfl⟩ hK hP hS hE hN [] rfl [] rfl rfl hl.1 (rest := []) rfl (Nat.le_of_ble_eq_true rfl) dX7_answer_21 ⟨Nat.le_of_ble_eq_true rfl, Nat.le_of_ble_eq_true rfl⟩ (fun v hv => ?_)
      obtain ⟨v_25062, rfl, hv_25062⟩ := hv
      have rv_25062 := ka_rng v_25062
      refine ka_stk (w := [.int v_25062]) rfl ?_
      refine lv_if_eq (tgt := 45) hx hb dX7_answer_24 (by decide) (fun c_25063 => ?_) (fun c_25063 => ?_)
      · have c_25063 : v_25062.toInt = 0 := by rw [ka_eq', show ((0 : Int32)).toInt = 0 from by decide] at c_25063; exact c_25063
        refine lv_iconst (v := (-1)) hx hb dX7_answer_45 (by decide) ?_
        exact ka_rEi C hr hlk (Nat.le_of_ble_eq_true rfl) (Nat.le_of_ble_eq_true rfl) hS (ka_qE (x7, x8, f1, f2, f3, (-1)) rfl ⟨(show 0 ≤ x7.toInt ∧ x7.toInt ≤ 40 from ⟨by omega, by omega⟩), (show -1 ≤ ((-1 : Int32)).toInt ∧ ((-1 : Int32)).toInt ≤ 1 from ⟨by decide, by decide⟩)⟩ hK hP hD hS [0, 1, 2, 3, 4] (by decide) rfl [] rfl) dX7_answer_46
      · have c_25063 : ¬ v_25062.toInt = 0 := by rw [ka_eq', show ((0 : Int32)).toInt = 0 from by decide] at c_25063; exact c_25063
        refine lv_iload_n hx hb dX7_answer_27 rfl (lv_at hl 2 rfl) ?_
        refine lv_iconst (v := 0) hx hb dX7_answer_28 (by decide) ?_
        refine lv_iconst (v := 1) hx hb dX7_answer_29 (by decide) ?_
        refine ka_RS (n := 3) C (cg_X7_isIn_249 l D F x1) gX7_answer_X7_isIn rfl (by decide +kernel) ⟨Nat.le_of_ble_eq_true rfl, Nat.le_of_ble_eq_true rfl⟩ hK hP hS hE hN [] rfl [] rfl rfl hl.1 (rest := []) rfl (Nat.le_of_ble_eq_true rfl) dX7_answer_30 ⟨Nat.le_of_ble_eq_true rfl, Nat.le_of_ble_eq_true rfl⟩ (fun v hv => ?_)
        obtain ⟨v_25064, rfl, hv_25064⟩ := hv
        have rv_25064 := ka_rng v_25064
        refine ka_stk (w := [.int v_25064]) rfl ?_
        refine lv_if_eq (tgt := 45) hx hb dX7_answer_33 (by decide) (fun c_25065 => ?_) (fun c_25065 => ?_)
        · have c_25065 : v_25064.toInt = 0 := by rw [ka_eq', show ((0 : Int32)).toInt = 0 from by decide] at c_25065; exact c_25065
          refine lv_iconst (v := (-1)) hx hb dX7_answer_45 (by decide) ?_
          exact ka_rEi C hr hlk (Nat.le_of_ble_eq_true rfl) (Nat.le_of_ble_eq_true rfl) hS (ka_qE (x7, x8, f1, f2, f3, (-1)) rfl ⟨(show 0 ≤ x7.toInt ∧ x7.toInt ≤ 40 from ⟨by omega, by omega⟩), (show -1 ≤ ((-1 : Int32)).toInt ∧ ((-1 : Int32)).toInt ≤ 1 from ⟨by decide, by decide⟩)⟩ hK hP hD hS [0, 1, 2, 3, 4] (by decide) rfl [] rfl) dX7_answer_46
        · have c_25065 : ¬ v_25064.toInt = 0 := by rw [ka_eq', show ((0 : Int32)).toInt = 0 from by decide] at c_25065; exact c_25065
          refine lv_aload_n hx hb dX7_answer_36 rfl (lv_at hl 0 rfl) ?_
          refine ka_get C lq_307 rfl hK hP 0 rfl 13 (by decide) lq_310 rfl dX7_answer_37 ?_
          refine lv_bipush (v := 40) hx hb dX7_answer_40 (by decide) ?_
          refine lv_icmp_ne (tgt := 47) hx hb dX7_answer_42 (by decide) (fun c_25066 => ?_) (fun c_25066 => ?_)
          · have c_25066 : ¬ x7.toInt = 40 := by rw [ka_eq', show ((40 : Int32)).toInt = 40 from by decide] at c_25066; exact c_25066
            refine lv_aload_n hx hb dX7_answer_47 rfl (lv_at hl 0 rfl) ?_
            refine ka_get C lq_307 rfl hK hP 0 rfl 16 (by decide) lq_311 rfl dX7_answer_48 ?_
            refine lv_aload_n hx hb dX7_answer_51 rfl (lv_at hl 0 rfl) ?_
            refine ka_get C lq_307 rfl hK hP 0 rfl 13 (by decide) lq_310 rfl dX7_answer_52 ?_
            refine lv_iload_n hx hb dX7_answer_55 rfl (lv_at hl 1 rfl) ?_
            refine va_iast hx hb hK hP hD hS 3 2 rfl rfl (ka_in (by omega) (by omega)) dX7_answer_56 (fun H locs hP hD hS => ?_)
            have hP : va_P D vwCl [(a0, .inr (7, [.ref a1, .int x2, .ref a2, .ref a3, .ref a4, .ref a5, .ref a6, .ref a7, .ref a8, .int x3, .int x4, .int x5, .int x6, .int x7, .int x8, .int x9, .ref a9, .ref a10, .ref a11, .ref a12, .ref a13, .ref a14, .int x10, .int x11, .int x12, .int x13, .int x14, .int x15])), (a2, .inl (k0, 89, .inl f0)), (a6, .inl (k1, 6, .inl f1)), (a9, .inl (k2, 40, .inl (upd f2 (Int32.toNatClampNeg x7) x0))), (a10, .inl (k3, 40, .inl f3))] H := hP
            have hD : va_D A [(a0, .inr (7, [.ref a1, .int x2, .ref a2, .ref a3, .ref a4, .ref a5, .ref a6, .ref a7, .ref a8, .int x3, .int x4, .int x5, .int x6, .int x7, .int x8, .int x9, .ref a9, .ref a10, .ref a11, .ref a12, .ref a13, .ref a14, .int x10, .int x11, .int x12, .int x13, .int x14, .int x15])), (a2, .inl (k0, 89, .inl f0)), (a6, .inl (k1, 6, .inl f1)), (a9, .inl (k2, 40, .inl (upd f2 (Int32.toNatClampNeg x7) x0))), (a10, .inl (k3, 40, .inl f3))] := hD
            generalize (upd f2 (Int32.toNatClampNeg x7) x0) = g_25067 at hP hD
            refine lv_aload_n hx hb dX7_answer_57 rfl (lv_at hl 0 rfl) ?_
            refine ka_get C lq_307 rfl hK hP 0 rfl 17 (by decide) lq_312 rfl dX7_answer_58 ?_
            refine lv_aload_n hx hb dX7_answer_61 rfl (lv_at hl 0 rfl) ?_
            refine ka_get C lq_307 rfl hK hP 0 rfl 13 (by decide) lq_310 rfl dX7_answer_62 ?_
            refine lv_iload_n hx hb dX7_answer_65 rfl (lv_at hl 2 rfl) ?_
            refine va_iast hx hb hK hP hD hS 4 3 rfl rfl (ka_in (by omega) (by omega)) dX7_answer_66 (fun H locs hP hD hS => ?_)
            have hP : va_P D vwCl [(a0, .inr (7, [.ref a1, .int x2, .ref a2, .ref a3, .ref a4, .ref a5, .ref a6, .ref a7, .ref a8, .int x3, .int x4, .int x5, .int x6, .int x7, .int x8, .int x9, .ref a9, .ref a10, .ref a11, .ref a12, .ref a13, .ref a14, .int x10, .int x11, .int x12, .int x13, .int x14, .int x15])), (a2, .inl (k0, 89, .inl f0)), (a6, .inl (k1, 6, .inl f1)), (a9, .inl (k2, 40, .inl g_25067)), (a10, .inl (k3, 40, .inl (upd f3 (Int32.toNatClampNeg x7) x1)))] H := hP
            have hD : va_D A [(a0, .inr (7, [.ref a1, .int x2, .ref a2, .ref a3, .ref a4, .ref a5, .ref a6, .ref a7, .ref a8, .int x3, .int x4, .int x5, .int x6, .int x7, .int x8, .int x9, .ref a9, .ref a10, .ref a11, .ref a12, .ref a13, .ref a14, .int x10, .int x11, .int x12, .int x13, .int x14, .int x15])), (a2, .inl (k0, 89, .inl f0)), (a6, .inl (k1, 6, .inl f1)), (a9, .inl (k2, 40, .inl g_25067)), (a10, .inl (k3, 40, .inl (upd f3 (Int32.toNatClampNeg x7) x1)))] := hD
            generalize (upd f3 (Int32.toNatClampNeg x7) x1) = g_25068 at hP hD
            refine lv_aload_n hx hb dX7_answer_67 rfl (lv_at hl 0 rfl) ?_
            refine lv_dup hx hb dX7_answer_68 rfl ?_
            refine ka_get C lq_307 rfl hK hP 0 rfl 13 (by decide) lq_310 rfl dX7_answer_69 ?_
            refine lv_iconst (v := 1) hx hb dX7_answer_72 (by decide) ?_
            refine lv_iadd hx hb dX7_answer_73 ?_
            refine lv_topi (fun v_25069 ev_25069 => ?_)
            have fv_25069 : v_25069.toInt = x7.toInt + 1 := by rw [ev_25069]; exact ka_add (x := x7.toInt) (y := 1) rfl (by decide) (by omega) (by omega)
            refine ka_put C lq_307 tyX7 tyX7_ok nmX7 rfl hK hP hD hS 0 rfl 13 (by decide) lq_310 rfl rfl rfl (Nat.le_of_ble_eq_true rfl) dX7_answer_74 (fun H locs hP hD hS => ?_)
            have hP : va_P D vwCl [(a0, .inr (7, [.ref a1, .int x2, .ref a2, .ref a3, .ref a4, .ref a5, .ref a6, .ref a7, .ref a8, .int x3, .int x4, .int x5, .int x6, .int v_25069, .int x8, .int x9, .ref a9, .ref a10, .ref a11, .ref a12, .ref a13, .ref a14, .int x10, .int x11, .int x12, .int x13, .int x14, .int x15])), (a2, .inl (k0, 89, .inl f0)), (a6, .inl (k1, 6, .inl f1)), (a9, .inl (k2, 40, .inl g_25067)), (a10, .inl (k3, 40, .inl g_25068))] H := hP
            have hD : va_D A [(a0, .inr (7, [.ref a1, .int x2, .ref a2, .ref a3, .ref a4, .ref a5, .ref a6, .ref a7, .ref a8, .int x3, .int x4, .int x5, .int x6, .int v_25069, .int x8, .int x9, .ref a9, .ref a10, .ref a11, .ref a12, .ref a13, .ref a14, .int x10, .int x11, .int x12, .int x13, .int x14, .int x15])), (a2, .inl (k0, 89, .inl f0)), (a6, .inl (k1, 6, .inl f1)), (a9, .inl (k2, 40, .inl g_25067)), (a10, .inl (k3, 40, .inl g_25068))] := hD
            refine lv_aload_n hx hb dX7_answer_77 rfl (lv_at hl 0 rfl) ?_
            refine lv_aload_n hx hb dX7_answer_78 rfl (lv_at hl 0 rfl) ?_
            refine ka_get C lq_307 rfl hK hP 0 rfl 13 (by decide) lq_310 rfl dX7_answer_79 ?_
            refine lv_iconst (v := 1) hx hb dX7_answer_82 (by decide) ?_
            refine lv_isub hx hb dX7_answer_83 ?_
            refine lv_topi (fun v_25070 ev_25070 => ?_)
            have fv_25070 : v_25070.toInt = v_25069.toInt - 1 := by rw [ev_25070]; exact ka_sub (x := v_25069.toInt) (y := 1) rfl (by decide) (by omega) (by omega)
            refine ka_RV (n := 1) C (cg_X7_isRight_251 l D F a0 v_25070 a1 x2 a2 a3 a4 a5 a6 a7 a8 x3 x4 x5 x6 v_25069 x8 x9 a9 a10 a11 a12 a13 a14 x10 x11 x12 x13 x14 x15 k0 f0 k2 g_25067 k3 g_25068 ⟨by omega, by omega⟩ ⟨by omega, by omega⟩ ⟨by omega, by omega⟩ ⟨by omega, by omega⟩ ⟨by omega, by omega⟩ ⟨by omega, by omega⟩ ⟨by omega, by omega⟩ ⟨by omega, by omega⟩ ⟨by omega, by omega⟩ ⟨by omega, by omega⟩ ⟨by omega, by omega⟩) gX7_answer_X7_isRight rfl (by decide +kernel) ⟨Nat.le_of_ble_eq_true rfl, Nat.le_of_ble_eq_true rfl⟩ hK hP hS hE hN [0, 1, 3, 4] rfl [0, 2, 3] rfl (ci := 7) rfl rfl 0 rfl rfl hl.1 (rest := []) rfl (Nat.le_of_ble_eq_true rfl) dX7_answer_84 ⟨Nat.le_of_ble_eq_true rfl, Nat.le_of_ble_eq_true rfl⟩ (fun v hv => ?_)
            obtain ⟨v_25071, rfl, hv_25071⟩ := hv
            have rv_25071 := ka_rng v_25071
            refine ka_stk (w := [.int v_25071]) rfl ?_
            refine lv_istore_n (lv' := [(3, .int v_25071), (0, .ref a0), (1, .int x0), (2, .int x1)]) hx hb dX7_answer_87 rfl hl (by decide) rfl (fun ls hl => ?_)
            refine lv_aload_n hx hb dX7_answer_88 rfl (lv_at hl 1 rfl) ?_
            refine lv_dup hx hb dX7_answer_89 rfl ?_
            refine ka_get C lq_307 rfl hK hP 0 rfl 14 (by decide) lq_313 rfl dX7_answer_90 ?_
            refine lv_iload_n hx hb dX7_answer_93 rfl (lv_at hl 0 rfl) ?_
            refine ka_RS (n := 1) C (cg_X7_one_252 l D F v_25071 ⟨by omega, by omega⟩) gX7_answer_X7_one rfl (by decide +kernel) ⟨Nat.le_of_ble_eq_true rfl, Nat.le_of_ble_eq_true rfl⟩ hK hP hS hE hN [] rfl [] rfl rfl hl.1 (rest := [.int x8, .ref a0]) rfl (Nat.le_of_ble_eq_true rfl) dX7_answer_94 ⟨Nat.le_of_ble_eq_true rfl, Nat.le_of_ble_eq_true rfl⟩ (fun v hv => ?_)
            obtain ⟨v_25072, rfl, hv_25072⟩ := hv
            have rv_25072 := ka_rng v_25072
            refine ka_stk (w := [.int v_25072, .int x8, .ref a0]) rfl ?_
            refine lv_iadd hx hb dX7_answer_97 ?_
            refine lv_topi (fun v_25073 ev_25073 => ?_)
            refine ka_put C lq_307 tyX7 tyX7_ok nmX7 rfl hK hP hD hS 0 rfl 14 (by decide) lq_313 rfl rfl rfl (Nat.le_of_ble_eq_true rfl) dX7_answer_98 (fun H locs hP hD hS => ?_)
            have hP : va_P D vwCl [(a0, .inr (7, [.ref a1, .int x2, .ref a2, .ref a3, .ref a4, .ref a5, .ref a6, .ref a7, .ref a8, .int x3, .int x4, .int x5, .int x6, .int v_25069, .int v_25073, .int x9, .ref a9, .ref a10, .ref a11, .ref a12, .ref a13, .ref a14, .int x10, .int x11, .int x12, .int x13, .int x14, .int x15])), (a2, .inl (k0, 89, .inl f0)), (a6, .inl (k1, 6, .inl f1)), (a9, .inl (k2, 40, .inl g_25067)), (a10, .inl (k3, 40, .inl g_25068))] H := hP
            have hD : va_D A [(a0, .inr (7, [.ref a1, .int x2, .ref a2, .ref a3, .ref a4, .ref a5, .ref a6, .ref a7, .ref a8, .int x3, .int x4, .int x5, .int x6, .int v_25069, .int v_25073, .int x9, .ref a9, .ref a10, .ref a11, .ref a12, .ref a13, .ref a14, .int x10, .int x11, .int x12, .int x13, .int x14, .int x15])), (a2, .inl (k0, 89, .inl f0)), (a6, .inl (k1, 6, .inl f1)), (a9, .inl (k2, 40, .inl g_25067)), (a10, .inl (k3, 40, .inl g_25068))] := hD
            refine lv_aload_n hx hb dX7_answer_101 rfl (lv_at hl 1 rfl) ?_
            refine ka_get C lq_307 rfl hK hP 0 rfl 13 (by decide) lq_310 rfl dX7_answer_102 ?_
            refine lv_aload_n hx hb dX7_answer_105 rfl (lv_at hl 1 rfl) ?_
            refine ka_get C lq_307 rfl hK hP 0 rfl 12 (by decide) lq_314 rfl dX7_answer_106 ?_
            refine lv_icmp_lt (tgt := 116) hx hb dX7_answer_109 (by decide) (fun c_25074 => ?_) (fun c_25074 => ?_)
            · have c_25074 : v_25069.toInt < x6.toInt := by rw [ka_lt'] at c_25074; exact c_25074
              refine lv_iconst (v := 0) hx hb dX7_answer_116 (by decide) ?_
              refine lv_istore (lv' := [(4, .int 0), (3, .int v_25071), (0, .ref a0), (1, .int x0), (2, .int x1)]) hx hb dX7_answer_117 hl (by decide) rfl (fun ls hl => ?_)
              refine lv_aload_n hx hb dX7_answer_119 rfl (lv_at hl 2 rfl) ?_
              refine ka_get C lq_307 rfl hK hP 0 rfl 13 (by decide) lq_310 rfl dX7_answer_120 ?_
              refine lv_aload_n hx hb dX7_answer_123 rfl (lv_at hl 2 rfl) ?_
              refine ka_get C lq_307 rfl hK hP 0 rfl 12 (by decide) lq_314 rfl dX7_answer_124 ?_
              refine lv_isub hx hb dX7_answer_127 ?_
              refine lv_topi (fun v_25075 ev_25075 => ?_)
              have fv_25075 : v_25075.toInt = v_25069.toInt - x6.toInt := by rw [ev_25075]; exact ka_sub (x := v_25069.toInt) (y := x6.toInt) rfl rfl (by omega) (by omega)
              refine lv_istore (lv' := [(5, .int v_25075), (4, .int 0), (3, .int v_25071), (0, .ref a0), (1, .int x0), (2, .int x1)]) hx hb dX7_answer_128 hl (by decide) rfl (fun ls hl => ?_)
              have lp_25076 : ∀ (n : Nat) (i25076_5 : Int32), (40 - i25076_5.toInt).toNat < n → ∀ (H : Heap) (locs : List Loc), va_P D vwCl [(a0, .inr (7, [.ref a1, .int x2, .ref a2, .ref a3, .ref a4, .ref a5, .ref a6, .ref a7, .ref a8, .int x3, .int x4, .int x5, .int x6, .int v_25069, .int v_25073, .int x9, .ref a9, .ref a10, .ref a11, .ref a12, .ref a13, .ref a14, .int x10, .int x11, .int x12, .int x13, .int x14, .int x15])), (a2, .inl (k0, 89, .inl f0)), (a6, .inl (k1, 6, .inl f1)), (a9, .inl (k2, 40, .inl g_25067)), (a10, .inl (k3, 40, .inl g_25068))] H → va_D A [(a0, .inr (7, [.ref a1, .int x2, .ref a2, .ref a3, .ref a4, .ref a5, .ref a6, .ref a7, .ref a8, .int x3, .int x4, .int x5, .int x6, .int v_25069, .int v_25073, .int x9, .ref a9, .ref a10, .ref a11, .ref a12, .ref a13, .ref a14, .int x10, .int x11, .int x12, .int x13, .int x14, .int x15])), (a2, .inl (k0, 89, .inl f0)), (a6, .inl (k1, 6, .inl f1)), (a9, .inl (k2, 40, .inl g_25067)), (a10, .inl (k3, 40, .inl g_25068))] → va_S A s.heap H locs → ∀ (ls : Array Slot), lv_has ls 6 [(0, .ref a0), (1, .int x0), (2, .int x1), (3, .int v_25071), (4, .int 0), (5, .int i25076_5)] → W p l e ({ frames := 2, cells := 0, slots := 0, locals := 44 }) s m [.ref a0, .int x0, .int x1].toArray below meth c H locs 0 0 (MQ below (ka_QE D A (fun (u : (Int32) × (Int32) × (Nat → Int32) × (Nat → Int32) × (Nat → Int32) × (Int32)) => some (.int (u.2.2.2.2.2))) (fun (u : (Int32) × (Int32) × (Nat → Int32) × (Nat → Int32) × (Nat → Int32) × (Int32)) => (0 ≤ (u.1).toInt ∧ (u.1).toInt ≤ 40) ∧ (-1 ≤ (u.2.2.2.2.2).toInt ∧ (u.2.2.2.2.2).toInt ≤ 1)) (fun (u : (Int32) × (Int32) × (Nat → Int32) × (Nat → Int32) × (Nat → Int32) × (Int32)) => [(a0, .inr (7, [.ref a1, .int x2, .ref a2, .ref a3, .ref a4, .ref a5, .ref a6, .ref a7, .ref a8, .int x3, .int x4, .int x5, .int x6, .int (u.1), .int (u.2.1), .int x9, .ref a9, .ref a10, .ref a11, .ref a12, .ref a13, .ref a14, .int x10, .int x11, .int x12, .int x13, .int x14, .int x15])), (a2, .inl (k0, 89, .inl f0)), (a6, .inl (k1, 6, .inl (u.2.2.1))), (a9, .inl (k2, 40, .inl (u.2.2.2.1))), (a10, .inl (k3, 40, .inl (u.2.2.2.2.1)))]) (fun (u : (Int32) × (Int32) × (Nat → Int32) × (Nat → Int32) × (Nat → Int32) × (Int32)) => [])) [.ref a0, .int x0, .int x1].toArray s 0 0 A) (F0 m 130 ls []) := by
                intro n
                induction n with
                | zero =>
                  intro i25076_5  hm
                  exact absurd hm (Nat.not_lt_zero _)
                | succ n ih_25076 =>
                  intro i25076_5  hm H locs hP hD hS ls hl
                  have ri25076_5 := ka_rng i25076_5
                  refine lv_iload hx hb dX7_answer_130 (lv_at hl 5 rfl) ?_
                  refine lv_aload_n hx hb dX7_answer_132 rfl (lv_at hl 0 rfl) ?_
                  refine ka_get C lq_307 rfl hK hP 0 rfl 13 (by decide) lq_310 rfl dX7_answer_133 ?_
                  refine lv_icmp_ge (tgt := 182) hx hb dX7_answer_136 (by decide) (fun c_25082 => ?_) (fun c_25082 => ?_)
                  · have c_25082 : v_25069.toInt ≤ i25076_5.toInt := by rw [ka_le'] at c_25082; exact c_25082
                    refine lv_aload_n hx hb dX7_answer_182 rfl (lv_at hl 0 rfl) ?_
                    refine ka_get C lq_307 rfl hK hP 0 rfl 6 (by decide) lq_309 rfl dX7_answer_183 ?_
                    refine lv_aload_n hx hb dX7_answer_186 rfl (lv_at hl 0 rfl) ?_
                    refine ka_get C lq_307 rfl hK hP 0 rfl 9 (by decide) lq_308 rfl dX7_answer_187 ?_
                    refine lv_iload hx hb dX7_answer_190 (lv_at hl 4 rfl) ?_
                    refine va_zast hx hb hK hP hD hS 2 1 rfl rfl (ka_in (by omega) (by omega)) dX7_answer_192 (fun H locs hP hD hS => ?_)
                    have hP : va_P D vwCl [(a0, .inr (7, [.ref a1, .int x2, .ref a2, .ref a3, .ref a4, .ref a5, .ref a6, .ref a7, .ref a8, .int x3, .int x4, .int x5, .int x6, .int v_25069, .int v_25073, .int x9, .ref a9, .ref a10, .ref a11, .ref a12, .ref a13, .ref a14, .int x10, .int x11, .int x12, .int x13, .int x14, .int x15])), (a2, .inl (k0, 89, .inl f0)), (a6, .inl (k1, 6, .inl (upd f1 (Int32.toNatClampNeg x3) (vp_nar .boolean 0)))), (a9, .inl (k2, 40, .inl g_25067)), (a10, .inl (k3, 40, .inl g_25068))] H := hP
                    have hD : va_D A [(a0, .inr (7, [.ref a1, .int x2, .ref a2, .ref a3, .ref a4, .ref a5, .ref a6, .ref a7, .ref a8, .int x3, .int x4, .int x5, .int x6, .int v_25069, .int v_25073, .int x9, .ref a9, .ref a10, .ref a11, .ref a12, .ref a13, .ref a14, .int x10, .int x11, .int x12, .int x13, .int x14, .int x15])), (a2, .inl (k0, 89, .inl f0)), (a6, .inl (k1, 6, .inl (upd f1 (Int32.toNatClampNeg x3) (vp_nar .boolean 0)))), (a9, .inl (k2, 40, .inl g_25067)), (a10, .inl (k3, 40, .inl g_25068))] := hD
                    generalize (upd f1 (Int32.toNatClampNeg x3) (vp_nar .boolean 0)) = g_25083 at hP hD
                    refine lv_iload_n hx hb dX7_answer_193 rfl (lv_at hl 3 rfl) ?_
                    refine ka_RS (n := 1) C (cg_X7_one_252 l D F v_25071 ⟨by omega, by omega⟩) gX7_answer_X7_one rfl (by decide +kernel) ⟨Nat.le_of_ble_eq_true rfl, Nat.le_of_ble_eq_true rfl⟩ hK hP hS hE hN [] rfl [] rfl rfl hl.1 (rest := []) rfl (Nat.le_of_ble_eq_true rfl) dX7_answer_194 ⟨Nat.le_of_ble_eq_true rfl, Nat.le_of_ble_eq_true rfl⟩ (fun v hv => ?_)
                    obtain ⟨v_25084, rfl, hv_25084⟩ := hv
                    have rv_25084 := ka_rng v_25084
                    refine ka_stk (w := [.int v_25084]) rfl ?_
                    exact ka_rEi C hr hlk (Nat.le_of_ble_eq_true rfl) (Nat.le_of_ble_eq_true rfl) hS (ka_qE (v_25069, v_25073, g_25083, g_25067, g_25068, v_25084) rfl ⟨(show 0 ≤ v_25069.toInt ∧ v_25069.toInt ≤ 40 from ⟨by omega, by omega⟩), (show -1 ≤ v_25084.toInt ∧ v_25084.toInt ≤ 1 from ⟨by omega, by omega⟩)⟩ hK hP hD hS [0, 1, 2, 3, 4] (by decide) rfl [] rfl) dX7_answer_197
                  · have c_25082 : ¬ v_25069.toInt ≤ i25076_5.toInt := by rw [ka_le'] at c_25082; exact c_25082
                    refine lv_iload hx hb dX7_answer_139 (lv_at hl 4 rfl) ?_
                    refine lv_if_eq (tgt := 182) hx hb dX7_answer_141 (by decide) (fun _ => ?_) (fun c_ => absurd (by decide) c_)
                    refine lv_aload_n hx hb dX7_answer_182 rfl (lv_at hl 0 rfl) ?_
                    refine ka_get C lq_307 rfl hK hP 0 rfl 6 (by decide) lq_309 rfl dX7_answer_183 ?_
                    refine lv_aload_n hx hb dX7_answer_186 rfl (lv_at hl 0 rfl) ?_
                    refine ka_get C lq_307 rfl hK hP 0 rfl 9 (by decide) lq_308 rfl dX7_answer_187 ?_
                    refine lv_iload hx hb dX7_answer_190 (lv_at hl 4 rfl) ?_
                    refine va_zast hx hb hK hP hD hS 2 1 rfl rfl (ka_in (by omega) (by omega)) dX7_answer_192 (fun H locs hP hD hS => ?_)
                    have hP : va_P D vwCl [(a0, .inr (7, [.ref a1, .int x2, .ref a2, .ref a3, .ref a4, .ref a5, .ref a6, .ref a7, .ref a8, .int x3, .int x4, .int x5, .int x6, .int v_25069, .int v_25073, .int x9, .ref a9, .ref a10, .ref a11, .ref a12, .ref a13, .ref a14, .int x10, .int x11, .int x12, .int x13, .int x14, .int x15])), (a2, .inl (k0, 89, .inl f0)), (a6, .inl (k1, 6, .inl (upd f1 (Int32.toNatClampNeg x3) (vp_nar .boolean 0)))), (a9, .inl (k2, 40, .inl g_25067)), (a10, .inl (k3, 40, .inl g_25068))] H := hP
                    have hD : va_D A [(a0, .inr (7, [.ref a1, .int x2, .ref a2, .ref a3, .ref a4, .ref a5, .ref a6, .ref a7, .ref a8, .int x3, .int x4, .int x5, .int x6, .int v_25069, .int v_25073, .int x9, .ref a9, .ref a10, .ref a11, .ref a12, .ref a13, .ref a14, .int x10, .int x11, .int x12, .int x13, .int x14, .int x15])), (a2, .inl (k0, 89, .inl f0)), (a6, .inl (k1, 6, .inl (upd f1 (Int32.toNatClampNeg x3) (vp_nar .boolean 0)))), (a9, .inl (k2, 40, .inl g_25067)), (a10, .inl (k3, 40, .inl g_25068))] := hD
                    generalize (upd f1 (Int32.toNatClampNeg x3) (vp_nar .boolean 0)) = g_25085 at hP hD
                    refine lv_iload_n hx hb dX7_answer_193 rfl (lv_at hl 3 rfl) ?_
                    refine ka_RS (n := 1) C (cg_X7_one_252 l D F v_25071 ⟨by omega, by omega⟩) gX7_answer_X7_one rfl (by decide +kernel) ⟨Nat.le_of_ble_eq_true rfl, Nat.le_of_ble_eq_true rfl⟩ hK hP hS hE hN [] rfl [] rfl rfl hl.1 (rest := []) rfl (Nat.le_of_ble_eq_true rfl) dX7_answer_194 ⟨Nat.le_of_ble_eq_true rfl, Nat.le_of_ble_eq_true rfl⟩ (fun v hv => ?_)
                    obtain ⟨v_25086, rfl, hv_25086⟩ := hv
                    have rv_25086 := ka_rng v_25086
                    refine ka_stk (w := [.int v_25086]) rfl ?_
                    exact ka_rEi C hr hlk (Nat.le_of_ble_eq_true rfl) (Nat.le_of_ble_eq_true rfl) hS (ka_qE (v_25069, v_25073, g_25085, g_25067, g_25068, v_25086) rfl ⟨(show 0 ≤ v_25069.toInt ∧ v_25069.toInt ≤ 40 from ⟨by omega, by omega⟩), (show -1 ≤ v_25086.toInt ∧ v_25086.toInt ≤ 1 from ⟨by omega, by omega⟩)⟩ hK hP hD hS [0, 1, 2, 3, 4] (by decide) rfl [] rfl) dX7_answer_197
              exact lp_25076 _ v_25075  (Nat.lt_succ_self _) _ _ hP hD hS ls (lv_sub hl [3, 4, 5, 2, 1, 0] rfl)
            · have c_25074 : ¬ v_25069.toInt < x6.toInt := by rw [ka_lt'] at c_25074; exact c_25074
              refine lv_iconst (v := 1) hx hb dX7_answer_112 (by decide) ?_
              refine lv_goto (tgt := 117) hx hb dX7_answer_113 (by decide) ?_
              refine lv_istore (lv' := [(4, .int 1), (3, .int v_25071), (0, .ref a0), (1, .int x0), (2, .int x1)]) hx hb dX7_answer_117 hl (by decide) rfl (fun ls hl => ?_)
              refine lv_aload_n hx hb dX7_answer_119 rfl (lv_at hl 2 rfl) ?_
              refine ka_get C lq_307 rfl hK hP 0 rfl 13 (by decide) lq_310 rfl dX7_answer_120 ?_
              refine lv_aload_n hx hb dX7_answer_123 rfl (lv_at hl 2 rfl) ?_
              refine ka_get C lq_307 rfl hK hP 0 rfl 12 (by decide) lq_314 rfl dX7_answer_124 ?_
              refine lv_isub hx hb dX7_answer_127 ?_
              refine lv_topi (fun v_25087 ev_25087 => ?_)
              have fv_25087 : v_25087.toInt = v_25069.toInt - x6.toInt := by rw [ev_25087]; exact ka_sub (x := v_25069.toInt) (y := x6.toInt) rfl rfl (by omega) (by omega)
              refine lv_istore (lv' := [(5, .int v_25087), (4, .int 1), (3, .int v_25071), (0, .ref a0), (1, .int x0), (2, .int x1)]) hx hb dX7_answer_128 hl (by decide) rfl (fun ls hl => ?_)
              have lp_25088 : ∀ (n : Nat) (i25088_4 : Int32) (i25088_5 : Int32), (0 ≤ i25088_4.toInt ∧ i25088_4.toInt ≤ 1) → (0 ≤ i25088_5.toInt ∧ i25088_5.toInt ≤ 40) → (40 - i25088_5.toInt).toNat < n → ∀ (H : Heap) (locs : List Loc), va_P D vwCl [(a0, .inr (7, [.ref a1, .int x2, .ref a2, .ref a3, .ref a4, .ref a5, .ref a6, .ref a7, .ref a8, .int x3, .int x4, .int x5, .int x6, .int v_25069, .int v_25073, .int x9, .ref a9, .ref a10, .ref a11, .ref a12, .ref a13, .ref a14, .int x10, .int x11, .int x12, .int x13, .int x14, .int x15])), (a2, .inl (k0, 89, .inl f0)), (a6, .inl (k1, 6, .inl f1)), (a9, .inl (k2, 40, .inl g_25067)), (a10, .inl (k3, 40, .inl g_25068))] H → va_D A [(a0, .inr (7, [.ref a1, .int x2, .ref a2, .ref a3, .ref a4, .ref a5, .ref a6, .ref a7, .ref a8, .int x3, .int x4, .int x5, .int x6, .int v_25069, .int v_25073, .int x9, .ref a9, .ref a10, .ref a11, .ref a12, .ref a13, .ref a14, .int x10, .int x11, .int x12, .int x13, .int x14, .int x15])), (a2, .inl (k0, 89, .inl f0)), (a6, .inl (k1, 6, .inl f1)), (a9, .inl (k2, 40, .inl g_25067)), (a10, .inl (k3, 40, .inl g_25068))] → va_S A s.heap H locs → ∀ (ls : Array Slot), lv_has ls 6 [(0, .ref a0), (1, .int x0), (2, .int x1), (3, .int v_25071), (4, .int i25088_4), (5, .int i25088_5)] → W p l e ({ frames := 2, cells := 0, slots := 0, locals := 44 }) s m [.ref a0, .int x0, .int x1].toArray below meth c H locs 0 0 (MQ below (ka_QE D A (fun (u : (Int32) × (Int32) × (Nat → Int32) × (Nat → Int32) × (Nat → Int32) × (Int32)) => some (.int (u.2.2.2.2.2))) (fun (u : (Int32) × (Int32) × (Nat → Int32) × (Nat → Int32) × (Nat → Int32) × (Int32)) => (0 ≤ (u.1).toInt ∧ (u.1).toInt ≤ 40) ∧ (-1 ≤ (u.2.2.2.2.2).toInt ∧ (u.2.2.2.2.2).toInt ≤ 1)) (fun (u : (Int32) × (Int32) × (Nat → Int32) × (Nat → Int32) × (Nat → Int32) × (Int32)) => [(a0, .inr (7, [.ref a1, .int x2, .ref a2, .ref a3, .ref a4, .ref a5, .ref a6, .ref a7, .ref a8, .int x3, .int x4, .int x5, .int x6, .int (u.1), .int (u.2.1), .int x9, .ref a9, .ref a10, .ref a11, .ref a12, .ref a13, .ref a14, .int x10, .int x11, .int x12, .int x13, .int x14, .int x15])), (a2, .inl (k0, 89, .inl f0)), (a6, .inl (k1, 6, .inl (u.2.2.1))), (a9, .inl (k2, 40, .inl (u.2.2.2.1))), (a10, .inl (k3, 40, .inl (u.2.2.2.2.1)))]) (fun (u : (Int32) × (Int32) × (Nat → Int32) × (Nat → Int32) × (Nat → Int32) × (Int32)) => [])) [.ref a0, .int x0, .int x1].toArray s 0 0 A) (F0 m 130 ls []) := by
                intro n
                induction n with
                | zero =>
                  intro i25088_4 i25088_5 hi25088_4 hi25088_5 hm
                  exact absurd hm (Nat.not_lt_zero _)
                | succ n ih_25088 =>
                  intro i25088_4 i25088_5 hi25088_4 hi25088_5 hm H locs hP hD hS ls hl
                  have ri25088_4 := ka_rng i25088_4
                  have ri25088_5 := ka_rng i25088_5
                  refine lv_iload hx hb dX7_answer_130 (lv_at hl 5 rfl) ?_
                  refine lv_aload_n hx hb dX7_answer_132 rfl (lv_at hl 0 rfl) ?_
                  refine ka_get C lq_307 rfl hK hP 0 rfl 13 (by decide) lq_310 rfl dX7_answer_133 ?_
                  refine lv_icmp_ge (tgt := 182) hx hb dX7_answer_136 (by decide) (fun c_25103 => ?_) (fun c_25103 => ?_)
                  · have c_25103 : v_25069.toInt ≤ i25088_5.toInt := by rw [ka_le'] at c_25103; exact c_25103
                    refine lv_aload_n hx hb dX7_answer_182 rfl (lv_at hl 0 rfl) ?_
                    refine ka_get C lq_307 rfl hK hP 0 rfl 6 (by decide) lq_309 rfl dX7_answer_183 ?_
                    refine lv_aload_n hx hb dX7_answer_186 rfl (lv_at hl 0 rfl) ?_
                    refine ka_get C lq_307 rfl hK hP 0 rfl 9 (by decide) lq_308 rfl dX7_answer_187 ?_
                    refine lv_iload hx hb dX7_answer_190 (lv_at hl 4 rfl) ?_
                    refine va_zast hx hb hK hP hD hS 2 1 rfl rfl (ka_in (by omega) (by omega)) dX7_answer_192 (fun H locs hP hD hS => ?_)
                    have hP : va_P D vwCl [(a0, .inr (7, [.ref a1, .int x2, .ref a2, .ref a3, .ref a4, .ref a5, .ref a6, .ref a7, .ref a8, .int x3, .int x4, .int x5, .int x6, .int v_25069, .int v_25073, .int x9, .ref a9, .ref a10, .ref a11, .ref a12, .ref a13, .ref a14, .int x10, .int x11, .int x12, .int x13, .int x14, .int x15])), (a2, .inl (k0, 89, .inl f0)), (a6, .inl (k1, 6, .inl (upd f1 (Int32.toNatClampNeg x3) (vp_nar .boolean i25088_4)))), (a9, .inl (k2, 40, .inl g_25067)), (a10, .inl (k3, 40, .inl g_25068))] H := hP
                    have hD : va_D A [(a0, .inr (7, [.ref a1, .int x2, .ref a2, .ref a3, .ref a4, .ref a5, .ref a6, .ref a7, .ref a8, .int x3, .int x4, .int x5, .int x6, .int v_25069, .int v_25073, .int x9, .ref a9, .ref a10, .ref a11, .ref a12, .ref a13, .ref a14, .int x10, .int x11, .int x12, .int x13, .int x14, .int x15])), (a2, .inl (k0, 89, .inl f0)), (a6, .inl (k1, 6, .inl (upd f1 (Int32.toNatClampNeg x3) (vp_nar .boolean i25088_4)))), (a9, .inl (k2, 40, .inl g_25067)), (a10, .inl (k3, 40, .inl g_25068))] := hD
                    generalize (upd f1 (Int32.toNatClampNeg x3) (vp_nar .boolean i25088_4)) = g_25104 at hP hD
                    refine lv_iload_n hx hb dX7_answer_193 rfl (lv_at hl 3 rfl) ?_
                    refine ka_RS (n := 1) C (cg_X7_one_252 l D F v_25071 ⟨by omega, by omega⟩) gX7_answer_X7_one rfl (by decide +kernel) ⟨Nat.le_of_ble_eq_true rfl, Nat.le_of_ble_eq_true rfl⟩ hK hP hS hE hN [] rfl [] rfl rfl hl.1 (rest := []) rfl (Nat.le_of_ble_eq_true rfl) dX7_answer_194 ⟨Nat.le_of_ble_eq_true rfl, Nat.le_of_ble_eq_true rfl⟩ (fun v hv => ?_)
                    obtain ⟨v_25105, rfl, hv_25105⟩ := hv
                    have rv_25105 := ka_rng v_25105
                    refine ka_stk (w := [.int v_25105]) rfl ?_
                    exact ka_rEi C hr hlk (Nat.le_of_ble_eq_true rfl) (Nat.le_of_ble_eq_true rfl) hS (ka_qE (v_25069, v_25073, g_25104, g_25067, g_25068, v_25105) rfl ⟨(show 0 ≤ v_25069.toInt ∧ v_25069.toInt ≤ 40 from ⟨by omega, by omega⟩), (show -1 ≤ v_25105.toInt ∧ v_25105.toInt ≤ 1 from ⟨by omega, by omega⟩)⟩ hK hP hD hS [0, 1, 2, 3, 4] (by decide) rfl [] rfl) dX7_answer_197
                  · have c_25103 : ¬ v_25069.toInt ≤ i25088_5.toInt := by rw [ka_le'] at c_25103; exact c_25103
                    refine lv_iload hx hb dX7_answer_139 (lv_at hl 4 rfl) ?_
                    refine lv_if_eq (tgt := 182) hx hb dX7_answer_141 (by decide) (fun c_25106 => ?_) (fun c_25106 => ?_)
                    · have c_25106 : i25088_4.toInt = 0 := by rw [ka_eq', show ((0 : Int32)).toInt = 0 from by decide] at c_25106; exact c_25106
                      refine lv_aload_n hx hb dX7_answer_182 rfl (lv_at hl 0 rfl) ?_
                      refine ka_get C lq_307 rfl hK hP 0 rfl 6 (by decide) lq_309 rfl dX7_answer_183 ?_
                      refine lv_aload_n hx hb dX7_answer_186 rfl (lv_at hl 0 rfl) ?_
                      refine ka_get C lq_307 rfl hK hP 0 rfl 9 (by decide) lq_308 rfl dX7_answer_187 ?_
                      refine lv_iload hx hb dX7_answer_190 (lv_at hl 4 rfl) ?_
                      refine va_zast hx hb hK hP hD hS 2 1 rfl rfl (ka_in (by omega) (by omega)) dX7_answer_192 (fun H locs hP hD hS => ?_)
                      have hP : va_P D vwCl [(a0, .inr (7, [.ref a1, .int x2, .ref a2, .ref a3, .ref a4, .ref a5, .ref a6, .ref a7, .ref a8, .int x3, .int x4, .int x5, .int x6, .int v_25069, .int v_25073, .int x9, .ref a9, .ref a10, .ref a11, .ref a12, .ref a13, .ref a14, .int x10, .int x11, .int x12, .int x13, .int x14, .int x15])), (a2, .inl (k0, 89, .inl f0)), (a6, .inl (k1, 6, .inl (upd f1 (Int32.toNatClampNeg x3) (vp_nar .boolean i25088_4)))), (a9, .inl (k2, 40, .inl g_25067)), (a10, .inl (k3, 40, .inl g_25068))] H := hP
                      have hD : va_D A [(a0, .inr (7, [.ref a1, .int x2, .ref a2, .ref a3, .ref a4, .ref a5, .ref a6, .ref a7, .ref a8, .int x3, .int x4, .int x5, .int x6, .int v_25069, .int v_25073, .int x9, .ref a9, .ref a10, .ref a11, .ref a12, .ref a13, .ref a14, .int x10, .int x11, .int x12, .int x13, .int x14, .int x15])), (a2, .inl (k0, 89, .inl f0)), (a6, .inl (k1, 6, .inl (upd f1 (Int32.toNatClampNeg x3) (vp_nar .boolean i25088_4)))), (a9, .inl (k2, 40, .inl g_25067)), (a10, .inl (k3, 40, .inl g_25068))] := hD
                      generalize (upd f1 (Int32.toNatClampNeg x3) (vp_nar .boolean i25088_4)) = g_25107 at hP hD
                      refine lv_iload_n hx hb dX7_answer_193 rfl (lv_at hl 3 rfl) ?_
                      refine ka_RS (n := 1) C (cg_X7_one_252 l D F v_25071 ⟨by omega, by omega⟩) gX7_answer_X7_one rfl (by decide +kernel) ⟨Nat.le_of_ble_eq_true rfl, Nat.le_of_ble_eq_true rfl⟩ hK hP hS hE hN [] rfl [] rfl rfl hl.1 (rest := []) rfl (Nat.le_of_ble_eq_true rfl) dX7_answer_194 ⟨Nat.le_of_ble_eq_true rfl, Nat.le_of_ble_eq_true rfl⟩ (fun v hv => ?_)
                      obtain ⟨v_25108, rfl, hv_25108⟩ := hv
                      have rv_25108 := ka_rng v_25108
                      refine ka_stk (w := [.int v_25108]) rfl ?_
                      exact ka_rEi C hr hlk (Nat.le_of_ble_eq_true rfl) (Nat.le_of_ble_eq_true rfl) hS (ka_qE (v_25069, v_25073, g_25107, g_25067, g_25068, v_25108) rfl ⟨(show 0 ≤ v_25069.toInt ∧ v_25069.toInt ≤ 40 from ⟨by omega, by omega⟩), (show -1 ≤ v_25108.toInt ∧ v_25108.toInt ≤ 1 from ⟨by omega, by omega⟩)⟩ hK hP hD hS [0, 1, 2, 3, 4] (by decide) rfl [] rfl) dX7_answer_197
                    · have c_25106 : ¬ i25088_4.toInt = 0 := by rw [ka_eq', show ((0 : Int32)).toInt = 0 from by decide] at c_25106; exact c_25106
                      refine lv_aload_n hx hb dX7_answer_144 rfl (lv_at hl 0 rfl) ?_
                      refine lv_iload hx hb dX7_answer_145 (lv_at hl 5 rfl) ?_
                      refine ka_RV (n := 1) C (cg_X7_isRight_251 l D F a0 i25088_5 a1 x2 a2 a3 a4 a5 a6 a7 a8 x3 x4 x5 x6 v_25069 v_25073 x9 a9 a10 a11 a12 a13 a14 x10 x11 x12 x13 x14 x15 k0 f0 k2 g_25067 k3 g_25068 ⟨by omega, by omega⟩ ⟨by omega, by omega⟩ ⟨by omega, by omega⟩ ⟨by omega, by omega⟩ ⟨by omega, by omega⟩ ⟨by omega, by omega⟩ ⟨by omega, by omega⟩ ⟨by omega, by omega⟩ ⟨by omega, by omega⟩ ⟨by omega, by omega⟩ ⟨by omega, by omega⟩) gX7_answer_X7_isRight rfl (by decide +kernel) ⟨Nat.le_of_ble_eq_true rfl, Nat.le_of_ble_eq_true rfl⟩ hK hP hS hE hN [0, 1, 3, 4] rfl [0, 2, 3] rfl (ci := 7) rfl rfl 0 rfl rfl hl.1 (rest := []) rfl (Nat.le_of_ble_eq_true rfl) dX7_answer_147 ⟨Nat.le_of_ble_eq_true rfl, Nat.le_of_ble_eq_true rfl⟩ (fun v hv => ?_)
                      obtain ⟨v_25109, rfl, hv_25109⟩ := hv
                      have rv_25109 := ka_rng v_25109
                      refine ka_stk (w := [.int v_25109]) rfl ?_
                      refine lv_if_eq (tgt := 173) hx hb dX7_answer_150 (by decide) (fun c_25110 => ?_) (fun c_25110 => ?_)
                      · have c_25110 : v_25109.toInt = 0 := by rw [ka_eq', show ((0 : Int32)).toInt = 0 from by decide] at c_25110; exact c_25110
                        refine lv_iconst (v := 0) hx hb dX7_answer_173 (by decide) ?_
                        refine lv_istore (lv' := [(4, .int 0), (0, .ref a0), (1, .int x0), (2, .int x1), (3, .int v_25071), (5, .int i25088_5)]) hx hb dX7_answer_174 hl (by decide) rfl (fun ls hl => ?_)
                        obtain ⟨v_25111, ev_25111⟩ : ∃ y : Int32, y = i25088_5 + 1 := ⟨_, rfl⟩
                        refine lv_iinc (v := v_25111) (lv' := [(5, .int v_25111), (4, .int 0), (0, .ref a0), (1, .int x0), (2, .int x1), (3, .int v_25071)]) hx hb dX7_answer_176 hl (k := 5) rfl (by rw [ev_25111]; rfl) (by decide) rfl (fun ls hl => ?_)
                        have fv_25111 : v_25111.toInt = i25088_5.toInt + 1 := by rw [ev_25111]; exact ka_add (x := i25088_5.toInt) (y := 1) rfl (by decide) (by omega) (by omega)
                        refine lv_goto (tgt := 130) hx hb dX7_answer_179 (by decide) ?_
                        exact ih_25088 0 v_25111 ⟨by decide, by decide⟩ ⟨by omega, by omega⟩ (by omega) H locs (hP.sub [0, 1, 2, 3, 4] rfl) (hD.sub [0, 1, 2, 3, 4] (by decide) rfl) hS ls (lv_sub hl [2, 3, 4, 5, 1, 0] rfl)
                      · have c_25110 : ¬ v_25109.toInt = 0 := by rw [ka_eq', show ((0 : Int32)).toInt = 0 from by decide] at c_25110; exact c_25110
                        refine lv_aload_n hx hb dX7_answer_153 rfl (lv_at hl 0 rfl) ?_
                        refine lv_aload_n hx hb dX7_answer_154 rfl (lv_at hl 0 rfl) ?_
                        refine ka_get C lq_307 rfl hK hP 0 rfl 16 (by decide) lq_311 rfl dX7_answer_155 ?_
                        refine lv_iload hx hb dX7_answer_158 (lv_at hl 5 rfl) ?_
                        refine va_iald hx hb hK hP 3 2 rfl rfl (ka_in (by omega) (by omega)) dX7_answer_160 ?_
                        refine lv_topi (fun v_25112 ev_25112 => ?_)
                        refine lv_iload hx hb dX7_answer_161 (lv_at hl 5 rfl) ?_
                        refine ka_RV (n := 2) C (cg_X7_timesAsked_255 l D F a0 v_25112 i25088_5 a1 x2 a2 a3 a4 a5 a6 a7 a8 x3 x4 x5 x6 v_25069 v_25073 x9 a9 a10 a11 a12 a13 a14 x10 x11 x12 x13 x14 x15 k2 g_25067 ⟨by omega, by omega⟩ ⟨by omega, by omega⟩ ⟨by omega, by omega⟩ ⟨by omega, by omega⟩ ⟨by omega, by omega⟩ ⟨by omega, by omega⟩ ⟨by omega, by omega⟩ ⟨by omega, by omega⟩ ⟨by omega, by omega⟩ ⟨by omega, by omega⟩ ⟨by omega, by omega⟩) gX7_answer_X7_timesAsked rfl (by decide +kernel) ⟨Nat.le_of_ble_eq_true rfl, Nat.le_of_ble_eq_true rfl⟩ hK hP hS hE hN [0, 3] rfl [2] rfl (ci := 7) rfl rfl 0 rfl rfl hl.1 (rest := []) rfl (Nat.le_of_ble_eq_true rfl) dX7_answer_163 ⟨Nat.le_of_ble_eq_true rfl, Nat.le_of_ble_eq_true rfl⟩ (fun v hv => ?_)
                        obtain ⟨v_25113, rfl⟩ := hv
                        have rv_25113 := ka_rng v_25113
                        refine ka_stk (w := [.int v_25113]) rfl ?_
                        refine lv_if_ne (tgt := 173) hx hb dX7_answer_166 (by decide) (fun c_25114 => ?_) (fun c_25114 => ?_)
                        · have c_25114 : ¬ v_25113.toInt = 0 := by rw [ka_eq', show ((0 : Int32)).toInt = 0 from by decide] at c_25114; exact c_25114
                          refine lv_iconst (v := 0) hx hb dX7_answer_173 (by decide) ?_
                          refine lv_istore (lv' := [(4, .int 0), (0, .ref a0), (1, .int x0), (2, .int x1), (3, .int v_25071), (5, .int i25088_5)]) hx hb dX7_answer_174 hl (by decide) rfl (fun ls hl => ?_)
                          obtain ⟨v_25115, ev_25115⟩ : ∃ y : Int32, y = i25088_5 + 1 := ⟨_, rfl⟩
                          refine lv_iinc (v := v_25115) (lv' := [(5, .int v_25115), (4, .int 0), (0, .ref a0), (1, .int x0), (2, .int x1), (3, .int v_25071)]) hx hb dX7_answer_176 hl (k := 5) rfl (by rw [ev_25115]; rfl) (by decide) rfl (fun ls hl => ?_)
                          have fv_25115 : v_25115.toInt = i25088_5.toInt + 1 := by rw [ev_25115]; exact ka_add (x := i25088_5.toInt) (y := 1) rfl (by decide) (by omega) (by omega)
                          refine lv_goto (tgt := 130) hx hb dX7_answer_179 (by decide) ?_
                          exact ih_25088 0 v_25115 ⟨by decide, by decide⟩ ⟨by omega, by omega⟩ (by omega) H locs (hP.sub [0, 1, 2, 3, 4] rfl) (hD.sub [0, 1, 2, 3, 4] (by decide) rfl) hS ls (lv_sub hl [2, 3, 4, 5, 1, 0] rfl)
                        · have c_25114 : v_25113.toInt = 0 := by rw [ka_eq', show ((0 : Int32)).toInt = 0 from by decide] at c_25114; exact c_25114
                          refine lv_iconst (v := 1) hx hb dX7_answer_169 (by decide) ?_
                          refine lv_goto (tgt := 174) hx hb dX7_answer_170 (by decide) ?_
                          refine lv_istore (lv' := [(4, .int 1), (0, .ref a0), (1, .int x0), (2, .int x1), (3, .int v_25071), (5, .int i25088_5)]) hx hb dX7_answer_174 hl (by decide) rfl (fun ls hl => ?_)
                          obtain ⟨v_25116, ev_25116⟩ : ∃ y : Int32, y = i25088_5 + 1 := ⟨_, rfl⟩
                          refine lv_iinc (v := v_25116) (lv' := [(5, .int v_25116), (4, .int 1), (0, .ref a0), (1, .int x0), (2, .int x1), (3, .int v_25071)]) hx hb dX7_answer_176 hl (k := 5) rfl (by rw [ev_25116]; rfl) (by decide) rfl (fun ls hl => ?_)
                          have fv_25116 : v_25116.toInt = i25088_5.toInt + 1 := by rw [ev_25116]; exact ka_add (x := i25088_5.toInt) (y := 1) rfl (by decide) (by omega) (by omega)
                          refine lv_goto (tgt := 130) hx hb dX7_answer_179 (by decide) ?_
                          exact ih_25088 1 v_25116 ⟨by decide, by decide⟩ ⟨by omega, by omega⟩ (by omega) H locs (hP.sub [0, 1, 2, 3, 4] rfl) (hD.sub [0, 1, 2, 3, 4] (by decide) rfl) hS ls (lv_sub hl [2, 3, 4, 5, 1, 0] rfl)
              exact lp_25088 _ 1 v_25087 ⟨by decide, by decide⟩ ⟨by omega, by omega⟩ (Nat.lt_succ_self _) _ _ hP hD hS ls (lv_sub hl [3, 4, 5, 2, 1, 0] rfl)
          · have c_25066 : x7.toInt = 40 := by rw [ka_eq', show ((40 : Int32)).toInt = 40 from by decide] at c_25066; exact c_25066
            refine lv_iconst (v := (-1)) hx hb dX7_answer_45 (by decide) ?_
            exact ka_rEi C hr hlk (Nat.le_of_ble_eq_true rfl) (Nat.le_of_ble_eq_true rfl) hS (ka_qE (x7, x8, f1, f2, f3, (-1)) rfl ⟨(show 0 ≤ x7.toInt ∧ x7.toInt ≤ 40 from ⟨by omega, by omega⟩), (show -1 ≤ ((-1 : Int32)).toInt ∧ ((-1 : Int32)).toInt ≤ 1 from ⟨by decide, by decide⟩)⟩ hK hP hD hS [0, 1, 2, 3, 4] (by decide) rfl [] rfl) dX7_answer_46
set_option maxHeartbeats 4000000 in
set_option maxRecDepth 100000 in
theorem cg_X7_pictureAt_257 (l : Launch) (D : va_G) (F : Nat → Prop) (x0 : Int32) (x1 : Int32) (hx0 : 0 ≤ x0.toInt ∧ x0.toInt ≤ 5) (hx1 : 0 ≤ x1.toInt ∧ x1.toInt ≤ 11) : ka_R l D F yX7_pictureAt wsX7_pictureAt 0 0 [.int x0, .int x1] [] [] (fun v => ∃ x : Int32, v = some (.int x) ∧ 6 ≤ x.toInt ∧ x.toInt ≤ 77) := by
  refine ka_R_of (cc := cX7_pictureAt) (maxL := 2) (ret := (some .int)) (by decide) rfl (Nat.le_of_ble_eq_true rfl) ?_
  intro p e s m below meth c ls C hr hlk hP hK hE hN hl
  have hS : va_S (fun _ => False) s.heap s.heap [] := va_S.rf
  have C : CallFix p m c cX7_pictureAt 2 s [.int x0, .int x1].toArray wsX7_pictureAt RX7 := C
  obtain ⟨hx, hb, hml, hown, hts⟩ := id C
  have hl : lv_has ls 2 [(0, .int x0), (1, .int x1)] := hl
  have rx0 := ka_rng x0
  have rx1 := ka_rng x1
  refine lv_bipush (v := 6) hx hb dX7_pictureAt_0 (by decide) ?_
  refine lv_bipush (v := 12) hx hb dX7_pictureAt_2 (by decide) ?_
  refine lv_iload_n hx hb dX7_pictureAt_4 rfl (lv_at hl 0 rfl) ?_
  refine lv_imul hx hb dX7_pictureAt_5 ?_
  refine lv_topi (fun v_25241 ev_25241 => ?_)
  have fv_25241 : v_25241.toInt = 12 * x0.toInt := by rw [ev_25241]; exact ka_mul (x := 12) (y := x0.toInt) (by decide) rfl (by omega) (by omega)
  refine lv_iadd hx hb dX7_pictureAt_6 ?_
  refine lv_topi (fun v_25242 ev_25242 => ?_)
  have fv_25242 : v_25242.toInt = 6 + v_25241.toInt := by rw [ev_25242]; exact ka_add (x := 6) (y := v_25241.toInt) (by decide) rfl (by omega) (by omega)
  refine lv_iload_n hx hb dX7_pictureAt_7 rfl (lv_at hl 1 rfl) ?_
  refine lv_iadd hx hb dX7_pictureAt_8 ?_
  refine lv_topi (fun v_25243 ev_25243 => ?_)
  have fv_25243 : v_25243.toInt = v_25242.toInt + x1.toInt := by rw [ev_25243]; exact ka_add (x := v_25242.toInt) (y := x1.toInt) rfl rfl (by omega) (by omega)
  exact ka_rRi C hr hlk ⟨_, rfl, ⟨by omega, by omega⟩⟩ dX7_pictureAt_9
set_option maxHeartbeats 4000000 in
set_option maxRecDepth 100000 in
theorem cg_X7_tellsOf_258 (l : Launch) (D : va_G) (F : Nat → Prop) (a0 : Nat) (x0 : Int32) (x1 : Int32) (a1 : Nat) (x2 : Int32) (a2 : Nat) (a3 : Nat) (a4 : Nat) (a5 : Nat) (a6 : Nat) (a7 : Nat) (a8 : Nat) (x3 : Int32) (x4 : Int32) (x5 : Int32) (x6 : Int32) (x7 : Int32) (x8 : Int32) (x9 : Int32) (a9 : Nat) (a10 : Nat) (a11 : Nat) (a12 : Nat) (a13 : Nat) (a14 : Nat) (x10 : Int32) (x11 : Int32) (x12 : Int32) (x13 : Int32) (x14 : Int32) (x15 : Int32) (k0 : ClassId) (f0 : Nat → Int32) (hx0 : 6 ≤ x0.toInt ∧ x0.toInt ≤ 77) (hx2 : 0 ≤ x2.toInt ∧ x2.toInt ≤ 80) (hx3 : 0 ≤ x3.toInt ∧ x3.toInt ≤ 5) (hx6 : 1 ≤ x6.toInt ∧ x6.toInt ≤ 8) (hx7 : 0 ≤ x7.toInt ∧ x7.toInt ≤ 40) (hx9 : 0 ≤ x9.toInt ∧ x9.toInt ≤ 10) (hx10 : 0 ≤ x10.toInt ∧ x10.toInt ≤ 60) (hx11 : 0 ≤ x11.toInt ∧ x11.toInt ≤ 60) (hx12 : 0 ≤ x12.toInt ∧ x12.toInt ≤ 60) (hx13 : 0 ≤ x13.toInt ∧ x13.toInt ≤ 8) (hx15 : 0 ≤ x15.toInt ∧ x15.toInt ≤ 1) : ka_R l D F yX7_tellsOf wsX7_tellsOf 0 0 [.ref a0, .int x0, .int x1] [(a0, .inr (7, [.ref a1, .int x2, .ref a2, .ref a3, .ref a4, .ref a5, .ref a6, .ref a7, .ref a8, .int x3, .int x4, .int x5, .int x6, .int x7, .int x8, .int x9, .ref a9, .ref a10, .ref a11, .ref a12, .ref a13, .ref a14, .int x10, .int x11, .int x12, .int x13, .int x14, .int x15])), (a2, .inl (k0, 89, .inl f0))] [(k0, .int)] (fun v => ∃ x : Int32, v = some (.int x)) := by
  refine ka_R_of (cc := cX7_tellsOf) (maxL := 3) (ret := (some .int)) (by decide) rfl (Nat.le_of_ble_eq_true rfl) ?_
  intro p e s m below meth c ls C hr hlk hP hK hE hN hl
  have hS : va_S (fun _ => False) s.heap s.heap [] := va_S.rf
  have C : CallFix p m c cX7_tellsOf 3 s [.ref a0, .int x0, .int x1].toArray wsX7_tellsOf RX7 := C
  obtain ⟨hx, hb, hml, hown, hts⟩ := id C
  have hl : lv_has ls 3 [(0, .ref a0), (1, .int x0), (2, .int x1)] := hl
  have rx0 := ka_rng x0
  have rx1 := ka_rng x1
  have rx2 := ka_rng x2
  have rx3 := ka_rng x3
  have rx4 := ka_rng x4
  have rx5 := ka_rng x5
  have rx6 := ka_rng x6
  have rx7 := ka_rng x7
  have rx8 := ka_rng x8
  have rx9 := ka_rng x9
  have rx10 := ka_rng x10
  have rx11 := ka_rng x11
  have rx12 := ka_rng x12
  have rx13 := ka_rng x13
  have rx14 := ka_rng x14
  have rx15 := ka_rng x15
  refine lv_aload_n hx hb dX7_tellsOf_0 rfl (lv_at hl 0 rfl) ?_
  refine ka_get C lq_283 rfl hK hP 0 rfl 2 (by decide) lq_284 rfl dX7_tellsOf_1 ?_
  refine lv_iload_n hx hb dX7_tellsOf_4 rfl (lv_at hl 1 rfl) ?_
  refine va_iald hx hb hK hP 1 0 rfl rfl (ka_in (by omega) (by omega)) dX7_tellsOf_5 ?_
  refine lv_topi (fun v_25280 ev_25280 => ?_)
  refine lv_iload_n hx hb dX7_tellsOf_6 rfl (lv_at hl 2 rfl) ?_
  refine lv_ishr hx hb dX7_tellsOf_7 ?_
  refine lv_topi (fun v_25281 ev_25281 => ?_)
  refine lv_iconst (v := 1) hx hb dX7_tellsOf_8 (by decide) ?_
  refine lv_iand hx hb dX7_tellsOf_9 ?_
  refine lv_topi (fun v_25282 ev_25282 => ?_)
  exact ka_rRi C hr hlk ⟨_, rfl⟩ dX7_tellsOf_10
theorem lq_315 : ∀ w ∈ wsX70, w ∈ wsX7_slipsOf := by decide +kernel
theorem lq_316 : Cond.fieldLink RX7 169 "AskedBackModel" "answers" "I" ∈ wsX7_slipsOf := by decide +kernel
theorem lq_317 : Cond.fieldLink RX7 36 "AskedBackModel" "lesson" "I" ∈ wsX7_slipsOf := by decide +kernel
theorem lq_318 : Cond.fieldLink RX7 46 "AskedBackModel" "asked" "[I" ∈ wsX7_slipsOf := by decide +kernel
theorem lq_319 : Cond.fieldLink RX7 49 "AskedBackModel" "given" "[I" ∈ wsX7_slipsOf := by decide +kernel
set_option maxHeartbeats 4000000 in
set_option maxRecDepth 100000 in
theorem cg_X7_slipsOf_259 (l : Launch) (D : va_G) (F : Nat → Prop) (a0 : Nat) (x0 : Int32) (a1 : Nat) (x1 : Int32) (a2 : Nat) (a3 : Nat) (a4 : Nat) (a5 : Nat) (a6 : Nat) (a7 : Nat) (a8 : Nat) (x2 : Int32) (x3 : Int32) (x4 : Int32) (x5 : Int32) (x6 : Int32) (x7 : Int32) (x8 : Int32) (a9 : Nat) (a10 : Nat) (a11 : Nat) (a12 : Nat) (a13 : Nat) (a14 : Nat) (x9 : Int32) (x10 : Int32) (x11 : Int32) (x12 : Int32) (x13 : Int32) (x14 : Int32) (k0 : ClassId) (f0 : Nat → Int32) (k1 : ClassId) (f1 : Nat → Int32) (k2 : ClassId) (f2 : Nat → Int32) (hx0 : 0 ≤ x0.toInt ∧ x0.toInt ≤ 11) (hx1 : 0 ≤ x1.toInt ∧ x1.toInt ≤ 80) (hx2 : 0 ≤ x2.toInt ∧ x2.toInt ≤ 5) (hx5 : 1 ≤ x5.toInt ∧ x5.toInt ≤ 8) (hx6 : 0 ≤ x6.toInt ∧ x6.toInt ≤ 40) (hx8 : 0 ≤ x8.toInt ∧ x8.toInt ≤ 10) (hx9 : 0 ≤ x9.toInt ∧ x9.toInt ≤ 60) (hx10 : 0 ≤ x10.toInt ∧ x10.toInt ≤ 60) (hx11 : 0 ≤ x11.toInt ∧ x11.toInt ≤ 60) (hx12 : 0 ≤ x12.toInt ∧ x12.toInt ≤ 8) (hx14 : 0 ≤ x14.toInt ∧ x14.toInt ≤ 1) : ka_R l D F yX7_slipsOf wsX7_slipsOf 1 22 [.ref a0, .int x0] [(a0, .inr (7, [.ref a1, .int x1, .ref a2, .ref a3, .ref a4, .ref a5, .ref a6, .ref a7, .ref a8, .int x2, .int x3, .int x4, .int x5, .int x6, .int x7, .int x8, .ref a9, .ref a10, .ref a11, .ref a12, .ref a13, .ref a14, .int x9, .int x10, .int x11, .int x12, .int x13, .int x14])), (a2, .inl (k0, 89, .inl f0)), (a9, .inl (k1, 40, .inl f1)), (a10, .inl (k2, 40, .inl f2))] [(k0, .int), (k1, .int), (k2, .int)] (fun v => ∃ x : Int32, v = some (.int x)) := by
  refine ka_R_of (cc := cX7_slipsOf) (maxL := 4) (ret := (some .int)) (by decide) rfl (Nat.le_of_ble_eq_true rfl) ?_
  intro p e s m below meth c ls C hr hlk hP hK hE hN hl
  have hS : va_S (fun _ => False) s.heap s.heap [] := va_S.rf
  have C : CallFix p m c cX7_slipsOf 4 s [.ref a0, .int x0].toArray wsX7_slipsOf RX7 := C
  obtain ⟨hx, hb, hml, hown, hts⟩ := id C
  have hl : lv_has ls 4 [(0, .ref a0), (1, .int x0)] := hl
  have rx0 := ka_rng x0
  have rx1 := ka_rng x1
  have rx2 := ka_rng x2
  have rx3 := ka_rng x3
  have rx4 := ka_rng x4
  have rx5 := ka_rng x5
  have rx6 := ka_rng x6
  have rx7 := ka_rng x7
  have rx8 := ka_rng x8
  have rx9 := ka_rng x9
  have rx10 := ka_rng x10
  have rx11 := ka_rng x11
  have rx12 := ka_rng x12
  have rx13 := ka_rng x13
  have rx14 := ka_rng x14
  refine lv_iconst (v := 0) hx hb dX7_slipsOf_0 (by decide) ?_
  refine lv_istore_n (lv' := [(2, .int 0), (0, .ref a0), (1, .int x0)]) hx hb dX7_slipsOf_1 rfl hl (by decide) rfl (fun ls hl => ?_)
  refine lv_iconst (v := 0) hx hb dX7_slipsOf_2 (by decide) ?_
  refine lv_istore_n (lv' := [(3, .int 0), (2, .int 0), (0, .ref a0), (1, .int x0)]) hx hb dX7_slipsOf_3 rfl hl (by decide) rfl (fun ls hl => ?_)
  have lp_25321 : ∀ (n : Nat) (i25321_2 : Int32) (i25321_3 : Int32), (0 ≤ i25321_3.toInt ∧ i25321_3.toInt ≤ 40) → (40 - i25321_3.toInt).toNat < n → ∀ (ls : Array Slot), lv_has ls 4 [(0, .ref a0), (1, .int x0), (2, .int i25321_2), (3, .int i25321_3)] → W p l e ({ frames := 1, cells := 0, slots := 0, locals := 22 }) s m [.ref a0, .int x0].toArray below meth c s.heap [] 0 0 (MQ below (ka_QR (fun v => ∃ x : Int32, v = some (.int x))) [.ref a0, .int x0].toArray s 0 0 (fun _ => False)) (F0 m 4 ls []) := by
    intro n
    induction n with
    | zero =>
      intro i25321_2 i25321_3 hi25321_3 hm
      exact absurd hm (Nat.not_lt_zero _)
    | succ n ih_25321 =>
      intro i25321_2 i25321_3 hi25321_3 hm ls hl
      have ri25321_2 := ka_rng i25321_2
      have ri25321_3 := ka_rng i25321_3
      refine lv_iload_n hx hb dX7_slipsOf_4 rfl (lv_at hl 3 rfl) ?_
      refine lv_aload_n hx hb dX7_slipsOf_5 rfl (lv_at hl 0 rfl) ?_
      refine ka_get C lq_315 rfl hK hP 0 rfl 13 (by decide) lq_316 rfl dX7_slipsOf_6 ?_
      refine lv_icmp_ge (tgt := 56) hx hb dX7_slipsOf_9 (by decide) (fun c_25332 => ?_) (fun c_25332 => ?_)
      · have c_25332 : x6.toInt ≤ i25321_3.toInt := by rw [ka_le'] at c_25332; exact c_25332
        refine lv_iload_n hx hb dX7_slipsOf_56 rfl (lv_at hl 2 rfl) ?_
        exact ka_rRi C hr hlk ⟨_, rfl⟩ dX7_slipsOf_57
      · have c_25332 : ¬ x6.toInt ≤ i25321_3.toInt := by rw [ka_le'] at c_25332; exact c_25332
        refine lv_iload_n hx hb dX7_slipsOf_12 rfl (lv_at hl 2 rfl) ?_
        refine lv_aload_n hx hb dX7_slipsOf_13 rfl (lv_at hl 0 rfl) ?_
        refine lv_aload_n hx hb dX7_slipsOf_14 rfl (lv_at hl 0 rfl) ?_
        refine ka_get C lq_315 rfl hK hP 0 rfl 9 (by decide) lq_317 rfl dX7_slipsOf_15 ?_
        refine lv_iload_n hx hb dX7_slipsOf_18 rfl (lv_at hl 1 rfl) ?_
        refine ka_RS (n := 2) C (cg_X7_pictureAt_257 l D F x2 x0 ⟨by omega, by omega⟩ ⟨by omega, by omega⟩) gX7_slipsOf_X7_pictureAt rfl (by decide +kernel) ⟨Nat.le_of_ble_eq_true rfl, Nat.le_of_ble_eq_true rfl⟩ hK hP hS hE hN [] rfl [] rfl rfl hl.1 (rest := [.ref a0, .int i25321_2]) rfl (Nat.le_of_ble_eq_true rfl) dX7_slipsOf_19 ⟨Nat.le_of_ble_eq_true rfl, Nat.le_of_ble_eq_true rfl⟩ (fun v hv => ?_)
        obtain ⟨v_25333, rfl, hv_25333⟩ := hv
        have rv_25333 := ka_rng v_25333
        refine ka_stk (w := [.int v_25333, .ref a0, .int i25321_2]) rfl ?_
        refine lv_aload_n hx hb dX7_slipsOf_22 rfl (lv_at hl 0 rfl) ?_
        refine ka_get C lq_315 rfl hK hP 0 rfl 16 (by decide) lq_318 rfl dX7_slipsOf_23 ?_
        refine lv_iload_n hx hb dX7_slipsOf_26 rfl (lv_at hl 3 rfl) ?_
        refine va_iald hx hb hK hP 2 1 rfl rfl (ka_in (by omega) (by omega)) dX7_slipsOf_27 ?_
        refine lv_topi (fun v_25334 ev_25334 => ?_)
        refine ka_RV (n := 2) C (cg_X7_tellsOf_258 l D F a0 v_25333 v_25334 a1 x1 a2 a3 a4 a5 a6 a7 a8 x2 x3 x4 x5 x6 x7 x8 a9 a10 a11 a12 a13 a14 x9 x10 x11 x12 x13 x14 k0 f0 ⟨by omega, by omega⟩ ⟨by omega, by omega⟩ ⟨by omega, by omega⟩ ⟨by omega, by omega⟩ ⟨by omega, by omega⟩ ⟨by omega, by omega⟩ ⟨by omega, by omega⟩ ⟨by omega, by omega⟩ ⟨by omega, by omega⟩ ⟨by omega, by omega⟩ ⟨by omega, by omega⟩) gX7_slipsOf_X7_tellsOf rfl (by decide +kernel) ⟨Nat.le_of_ble_eq_true rfl, Nat.le_of_ble_eq_true rfl⟩ hK hP hS hE hN [0, 1] rfl [0] rfl (ci := 7) rfl rfl 0 rfl rfl hl.1 (rest := [.int i25321_2]) rfl (Nat.le_of_ble_eq_true rfl) dX7_slipsOf_28 ⟨Nat.le_of_ble_eq_true rfl, Nat.le_of_ble_eq_true rfl⟩ (fun v hv => ?_)
        obtain ⟨v_25335, rfl⟩ := hv
        have rv_25335 := ka_rng v_25335
        refine ka_stk (w := [.int v_25335, .int i25321_2]) rfl ?_
        refine lv_aload_n hx hb dX7_slipsOf_31 rfl (lv_at hl 0 rfl) ?_
        refine ka_get C lq_315 rfl hK hP 0 rfl 17 (by decide) lq_319 rfl dX7_slipsOf_32 ?_
        refine lv_iload_n hx hb dX7_slipsOf_35 rfl (lv_at hl 3 rfl) ?_
        refine va_iald hx hb hK hP 3 2 rfl rfl (ka_in (by omega) (by omega)) dX7_slipsOf_36 ?_
        refine lv_topi (fun v_25336 ev_25336 => ?_)
        refine lv_icmp_eq (tgt := 44) hx hb dX7_slipsOf_37 (by decide) (fun c_25337 => ?_) (fun c_25337 => ?_)
        · have c_25337 : v_25335.toInt = v_25336.toInt := by rw [ka_eq'] at c_25337; exact c_25337
          refine lv_iconst (v := 0) hx hb dX7_slipsOf_44 (by decide) ?_
          refine ka_RS (n := 1) C (cg_X7_one_253 l D F ) gX7_slipsOf_X7_one rfl (by decide +kernel) ⟨Nat.le_of_ble_eq_true rfl, Nat.le_of_ble_eq_true rfl⟩ hK hP hS hE hN [] rfl [] rfl rfl hl.1 (rest := [.int i25321_2]) rfl (Nat.le_of_ble_eq_true rfl) dX7_slipsOf_45 ⟨Nat.le_of_ble_eq_true rfl, Nat.le_of_ble_eq_true rfl⟩ (fun v hv => ?_)
          subst hv
          refine ka_stk (w := [.int 0, .int i25321_2]) rfl ?_
          refine lv_iadd hx hb dX7_slipsOf_48 ?_
          refine lv_topi (fun v_25338 ev_25338 => ?_)
          have fv_25338 : v_25338.toInt = i25321_2.toInt + 0 := by rw [ev_25338]; exact ka_add (x := i25321_2.toInt) (y := 0) rfl (by decide) (by omega) (by omega)
          refine lv_istore_n (lv' := [(2, .int v_25338), (0, .ref a0), (1, .int x0), (3, .int i25321_3)]) hx hb dX7_slipsOf_49 rfl hl (by decide) rfl (fun ls hl => ?_)
          obtain ⟨v_25339, ev_25339⟩ : ∃ y : Int32, y = i25321_3 + 1 := ⟨_, rfl⟩
          refine lv_iinc (v := v_25339) (lv' := [(3, .int v_25339), (2, .int v_25338), (0, .ref a0), (1, .int x0)]) hx hb dX7_slipsOf_50 hl (k := 3) rfl (by rw [ev_25339]; rfl) (by decide) rfl (fun ls hl => ?_)
          have fv_25339 : v_25339.toInt = i25321_3.toInt + 1 := by rw [ev_25339]; exact ka_add (x := i25321_3.toInt) (y := 1) rfl (by decide) (by omega) (by omega)
          refine lv_goto (tgt := 4) hx hb dX7_slipsOf_53 (by decide) ?_
          exact ih_25321 v_25338 v_25339 ⟨by omega, by omega⟩ (by omega) ls (lv_sub hl [2, 3, 1, 0] rfl)
        · have c_25337 : ¬ v_25335.toInt = v_25336.toInt := by rw [ka_eq'] at c_25337; exact c_25337
          refine lv_iconst (v := 1) hx hb dX7_slipsOf_40 (by decide) ?_
          refine lv_goto (tgt := 45) hx hb dX7_slipsOf_41 (by decide) ?_
          refine ka_RS (n := 1) C (cg_X7_one_254 l D F ) gX7_slipsOf_X7_one rfl (by decide +kernel) ⟨Nat.le_of_ble_eq_true rfl, Nat.le_of_ble_eq_true rfl⟩ hK hP hS hE hN [] rfl [] rfl rfl hl.1 (rest := [.int i25321_2]) rfl (Nat.le_of_ble_eq_true rfl) dX7_slipsOf_45 ⟨Nat.le_of_ble_eq_true rfl, Nat.le_of_ble_eq_true rfl⟩ (fun v hv => ?_)
          subst hv
          refine ka_stk (w := [.int 1, .int i25321_2]) rfl ?_
          refine lv_iadd hx hb dX7_slipsOf_48 ?_
          refine lv_topi (fun v_25340 ev_25340 => ?_)
          refine lv_istore_n (lv' := [(2, .int v_25340), (0, .ref a0), (1, .int x0), (3, .int i25321_3)]) hx hb dX7_slipsOf_49 rfl hl (by decide) rfl (fun ls hl => ?_)
          obtain ⟨v_25341, ev_25341⟩ : ∃ y : Int32, y = i25321_3 + 1 := ⟨_, rfl⟩
          refine lv_iinc (v := v_25341) (lv' := [(3, .int v_25341), (2, .int v_25340), (0, .ref a0), (1, .int x0)]) hx hb dX7_slipsOf_50 hl (k := 3) rfl (by rw [ev_25341]; rfl) (by decide) rfl (fun ls hl => ?_)
          have fv_25341 : v_25341.toInt = i25321_3.toInt + 1 := by rw [ev_25341]; exact ka_add (x := i25321_3.toInt) (y := 1) rfl (by decide) (by omega) (by omega)
          refine lv_goto (tgt := 4) hx hb dX7_slipsOf_53 (by decide) ?_
          exact ih_25321 v_25340 v_25341 ⟨by omega, by omega⟩ (by omega) ls (lv_sub hl [2, 3, 1, 0] rfl)
  exact lp_25321 _ 0 0 ⟨by decide, by decide⟩ (Nat.lt_succ_self _) ls (lv_sub hl [2, 3, 1, 0] rfl)
theorem lq_320 : ∀ w ∈ wsX70, w ∈ wsX7_lefts := by decide +kernel
theorem lq_321 : Cond.fieldLink RX7 33 "AskedBackModel" "pictures" "[I" ∈ wsX7_lefts := by decide +kernel
theorem lq_322 : Cond.fieldLink RX7 36 "AskedBackModel" "lesson" "I" ∈ wsX7_lefts := by decide +kernel
theorem lq_323 : Cond.fieldLink RX7 178 "AskedBackModel" "slips" "I" ∈ wsX7_lefts := by decide +kernel
set_option maxHeartbeats 4000000 in
set_option maxRecDepth 100000 in
theorem cg_X7_lefts_260 (l : Launch) (D : va_G) (F : Nat → Prop) (a0 : Nat) (a1 : Nat) (x0 : Int32) (a2 : Nat) (a3 : Nat) (a4 : Nat) (a5 : Nat) (a6 : Nat) (a7 : Nat) (a8 : Nat) (x1 : Int32) (x2 : Int32) (x3 : Int32) (x4 : Int32) (x5 : Int32) (x6 : Int32) (x7 : Int32) (a9 : Nat) (a10 : Nat) (a11 : Nat) (a12 : Nat) (a13 : Nat) (a14 : Nat) (x8 : Int32) (x9 : Int32) (x10 : Int32) (x11 : Int32) (x12 : Int32) (x13 : Int32) (k0 : ClassId) (f0 : Nat → Int32) (k1 : ClassId) (f1 : Nat → Int32) (k2 : ClassId) (f2 : Nat → Int32) (k3 : ClassId) (f3 : Nat → Int32) (hx0 : 0 ≤ x0.toInt ∧ x0.toInt ≤ 80) (hx1 : 0 ≤ x1.toInt ∧ x1.toInt ≤ 5) (hx4 : 1 ≤ x4.toInt ∧ x4.toInt ≤ 8) (hx5 : 0 ≤ x5.toInt ∧ x5.toInt ≤ 40) (hx7 : 0 ≤ x7.toInt ∧ x7.toInt ≤ 10) (hx8 : 0 ≤ x8.toInt ∧ x8.toInt ≤ 60) (hx9 : 0 ≤ x9.toInt ∧ x9.toInt ≤ 60) (hx10 : 0 ≤ x10.toInt ∧ x10.toInt ≤ 60) (hx11 : 0 ≤ x11.toInt ∧ x11.toInt ≤ 8) (hx13 : 0 ≤ x13.toInt ∧ x13.toInt ≤ 1) (hf1 : ∀ j : Nat, 0 ≤ (f1 j).toInt ∧ (f1 j).toInt ≤ 12) : ka_R l D F yX7_lefts wsX7_lefts 2 45 [.ref a0] [(a0, .inr (7, [.ref a1, .int x0, .ref a2, .ref a3, .ref a4, .ref a5, .ref a6, .ref a7, .ref a8, .int x1, .int x2, .int x3, .int x4, .int x5, .int x6, .int x7, .ref a9, .ref a10, .ref a11, .ref a12, .ref a13, .ref a14, .int x8, .int x9, .int x10, .int x11, .int x12, .int x13])), (a2, .inl (k0, 89, .inl f0)), (a8, .inl (k1, 6, .inl f1)), (a9, .inl (k2, 40, .inl f2)), (a10, .inl (k3, 40, .inl f3))] [(k0, .int), (k1, .int), (k2, .int), (k3, .int)] (fun v => ∃ x : Int32, v = some (.int x)) := by
  refine ka_R_of (cc := cX7_lefts) (maxL := 3) (ret := (some .int)) (by decide) rfl (Nat.le_of_ble_eq_true rfl) ?_
  intro p e s m below meth c ls C hr hlk hP hK hE hN hl
  have hS : va_S (fun _ => False) s.heap s.heap [] := va_S.rf
  have C : CallFix p m c cX7_lefts 3 s [.ref a0].toArray wsX7_lefts RX7 := C
  obtain ⟨hx, hb, hml, hown, hts⟩ := id C
  have hl : lv_has ls 3 [(0, .ref a0)] := hl
  have rx0 := ka_rng x0
  have rx1 := ka_rng x1
  have rx2 := ka_rng x2
  have rx3 := ka_rng x3
  have rx4 := ka_rng x4
  have rx5 := ka_rng x5
  have rx6 := ka_rng x6
  have rx7 := ka_rng x7
  have rx8 := ka_rng x8
  have rx9 := ka_rng x9
  have rx10 := ka_rng x10
  have rx11 := ka_rng x11
  have rx12 := ka_rng x12
  have rx13 := ka_rng x13
  refine lv_iconst (v := 0) hx hb dX7_lefts_0 (by decide) ?_
  refine lv_istore_n (lv' := [(1, .int 0), (0, .ref a0)]) hx hb dX7_lefts_1 rfl hl (by decide) rfl (fun ls hl => ?_)
  refine lv_iconst (v := 0) hx hb dX7_lefts_2 (by decide) ?_
  refine lv_istore_n (lv' := [(2, .int 0), (1, .int 0), (0, .ref a0)]) hx hb dX7_lefts_3 rfl hl (by decide) rfl (fun ls hl => ?_)
  have lp_25373 : ∀ (n : Nat) (i25373_1 : Int32) (i25373_2 : Int32), (0 ≤ i25373_2.toInt ∧ i25373_2.toInt ≤ 12) → (12 - i25373_2.toInt).toNat < n → ∀ (ls : Array Slot), lv_has ls 3 [(0, .ref a0), (1, .int i25373_1), (2, .int i25373_2)] → W p l e ({ frames := 2, cells := 0, slots := 0, locals := 45 }) s m [.ref a0].toArray below meth c s.heap [] 0 0 (MQ below (ka_QR (fun v => ∃ x : Int32, v = some (.int x))) [.ref a0].toArray s 0 0 (fun _ => False)) (F0 m 4 ls []) := by
    intro n
    induction n with
    | zero =>
      intro i25373_1 i25373_2 hi25373_2 hm
      exact absurd hm (Nat.not_lt_zero _)
    | succ n ih_25373 =>
      intro i25373_1 i25373_2 hi25373_2 hm ls hl
      have ri25373_1 := ka_rng i25373_1
      have ri25373_2 := ka_rng i25373_2
      refine lv_iload_n hx hb dX7_lefts_4 rfl (lv_at hl 2 rfl) ?_
      refine lv_aload_n hx hb dX7_lefts_5 rfl (lv_at hl 0 rfl) ?_
      refine ka_get C lq_320 rfl hK hP 0 rfl 8 (by decide) lq_321 rfl dX7_lefts_6 ?_
      refine lv_aload_n hx hb dX7_lefts_9 rfl (lv_at hl 0 rfl) ?_
      refine ka_get C lq_320 rfl hK hP 0 rfl 9 (by decide) lq_322 rfl dX7_lefts_10 ?_
      refine va_iald hx hb hK hP 2 1 rfl rfl (ka_in (by omega) (by omega)) dX7_lefts_13 ?_
      refine lv_topi (fun v_25382 ev_25382 => ?_)
      have hv_25382 := hf1 (Int32.toNatClampNeg x1); rw [← ev_25382] at hv_25382
      refine lv_icmp_ge (tgt := 41) hx hb dX7_lefts_14 (by decide) (fun c_25383 => ?_) (fun c_25383 => ?_)
      · have c_25383 : v_25382.toInt ≤ i25373_2.toInt := by rw [ka_le'] at c_25383; exact c_25383
        refine lv_iload_n hx hb dX7_lefts_41 rfl (lv_at hl 1 rfl) ?_
        exact ka_rRi C hr hlk ⟨_, rfl⟩ dX7_lefts_42
      · have c_25383 : ¬ v_25382.toInt ≤ i25373_2.toInt := by rw [ka_le'] at c_25383; exact c_25383
        refine lv_aload_n hx hb dX7_lefts_17 rfl (lv_at hl 0 rfl) ?_
        refine lv_iload_n hx hb dX7_lefts_18 rfl (lv_at hl 2 rfl) ?_
        refine ka_RV (n := 1) C (cg_X7_slipsOf_259 l D F a0 i25373_2 a1 x0 a2 a3 a4 a5 a6 a7 a8 x1 x2 x3 x4 x5 x6 x7 a9 a10 a11 a12 a13 a14 x8 x9 x10 x11 x12 x13 k0 f0 k2 f2 k3 f3 ⟨by omega, by omega⟩ ⟨by omega, by omega⟩ ⟨by omega, by omega⟩ ⟨by omega, by omega⟩ ⟨by omega, by omega⟩ ⟨by omega, by omega⟩ ⟨by omega, by omega⟩ ⟨by omega, by omega⟩ ⟨by omega, by omega⟩ ⟨by omega, by omega⟩ ⟨by omega, by omega⟩) gX7_lefts_X7_slipsOf rfl (by decide +kernel) ⟨Nat.le_of_ble_eq_true rfl, Nat.le_of_ble_eq_true rfl⟩ hK hP hS hE hN [0, 1, 3, 4] rfl [0, 2, 3] rfl (ci := 7) rfl rfl 0 rfl rfl hl.1 (rest := []) rfl (Nat.le_of_ble_eq_true rfl) dX7_lefts_19 ⟨Nat.le_of_ble_eq_true rfl, Nat.le_of_ble_eq_true rfl⟩ (fun v hv => ?_)
        obtain ⟨v_25384, rfl⟩ := hv
        have rv_25384 := ka_rng v_25384
        refine ka_stk (w := [.int v_25384]) rfl ?_
        refine lv_aload_n hx hb dX7_lefts_22 rfl (lv_at hl 0 rfl) ?_
        refine ka_get C lq_320 rfl hK hP 0 rfl 10 (by decide) lq_323 rfl dX7_lefts_23 ?_
        refine lv_icmp_gt (tgt := 35) hx hb dX7_lefts_26 (by decide) (fun c_25385 => ?_) (fun c_25385 => ?_)
        · have c_25385 : x2.toInt < v_25384.toInt := by rw [ka_lt'] at c_25385; exact c_25385
          obtain ⟨v_25386, ev_25386⟩ : ∃ y : Int32, y = i25373_2 + 1 := ⟨_, rfl⟩
          refine lv_iinc (v := v_25386) (lv' := [(2, .int v_25386), (0, .ref a0), (1, .int i25373_1)]) hx hb dX7_lefts_35 hl (k := 2) rfl (by rw [ev_25386]; rfl) (by decide) rfl (fun ls hl => ?_)
          have fv_25386 : v_25386.toInt = i25373_2.toInt + 1 := by rw [ev_25386]; exact ka_add (x := i25373_2.toInt) (y := 1) rfl (by decide) (by omega) (by omega)
          refine lv_goto (tgt := 4) hx hb dX7_lefts_38 (by decide) ?_
          exact ih_25373 i25373_1 v_25386 ⟨by omega, by omega⟩ (by omega) ls (lv_sub hl [1, 2, 0] rfl)
        · have c_25385 : ¬ x2.toInt < v_25384.toInt := by rw [ka_lt'] at c_25385; exact c_25385
          refine lv_iload_n hx hb dX7_lefts_29 rfl (lv_at hl 1 rfl) ?_
          refine lv_iconst (v := 1) hx hb dX7_lefts_30 (by decide) ?_
          refine lv_iload_n hx hb dX7_lefts_31 rfl (lv_at hl 2 rfl) ?_
          refine lv_ishl hx hb dX7_lefts_32 ?_
          refine lv_topi (fun v_25387 ev_25387 => ?_)
          refine lv_ior hx hb dX7_lefts_33 ?_
          refine lv_topi (fun v_25388 ev_25388 => ?_)
          refine lv_istore_n (lv' := [(1, .int v_25388), (0, .ref a0), (2, .int i25373_2)]) hx hb dX7_lefts_34 rfl hl (by decide) rfl (fun ls hl => ?_)
          obtain ⟨v_25389, ev_25389⟩ : ∃ y : Int32, y = i25373_2 + 1 := ⟨_, rfl⟩
          refine lv_iinc (v := v_25389) (lv' := [(2, .int v_25389), (1, .int v_25388), (0, .ref a0)]) hx hb dX7_lefts_35 hl (k := 2) rfl (by rw [ev_25389]; rfl) (by decide) rfl (fun ls hl => ?_)
          have fv_25389 : v_25389.toInt = i25373_2.toInt + 1 := by rw [ev_25389]; exact ka_add (x := i25373_2.toInt) (y := 1) rfl (by decide) (by omega) (by omega)
          refine lv_goto (tgt := 4) hx hb dX7_lefts_38 (by decide) ?_
          exact ih_25373 v_25388 v_25389 ⟨by omega, by omega⟩ (by omega) ls (lv_sub hl [2, 1, 0] rfl)
  exact lp_25373 _ 0 0 ⟨by decide, by decide⟩ (Nat.lt_succ_self _) ls (lv_sub hl [2, 1, 0] rfl)
theorem lq_324 : ∀ w ∈ wsX70, w ∈ wsX7_gone := by decide +kernel
theorem lq_325 : Cond.fieldLink RX7 169 "AskedBackModel" "answers" "I" ∈ wsX7_gone := by decide +kernel
theorem lq_326 : Cond.fieldLink RX7 46 "AskedBackModel" "asked" "[I" ∈ wsX7_gone := by decide +kernel
set_option maxHeartbeats 4000000 in
set_option maxRecDepth 100000 in
theorem cg_X7_gone_261 (l : Launch) (D : va_G) (F : Nat → Prop) (a0 : Nat) (a1 : Nat) (x0 : Int32) (a2 : Nat) (a3 : Nat) (a4 : Nat) (a5 : Nat) (a6 : Nat) (a7 : Nat) (a8 : Nat) (x1 : Int32) (x2 : Int32) (x3 : Int32) (x4 : Int32) (x5 : Int32) (x6 : Int32) (x7 : Int32) (a9 : Nat) (a10 : Nat) (a11 : Nat) (a12 : Nat) (a13 : Nat) (a14 : Nat) (x8 : Int32) (x9 : Int32) (x10 : Int32) (x11 : Int32) (x12 : Int32) (x13 : Int32) (k0 : ClassId) (f0 : Nat → Int32) (hx0 : 0 ≤ x0.toInt ∧ x0.toInt ≤ 80) (hx1 : 0 ≤ x1.toInt ∧ x1.toInt ≤ 5) (hx4 : 1 ≤ x4.toInt ∧ x4.toInt ≤ 8) (hx5 : 0 ≤ x5.toInt ∧ x5.toInt ≤ 40) (hx7 : 0 ≤ x7.toInt ∧ x7.toInt ≤ 10) (hx8 : 0 ≤ x8.toInt ∧ x8.toInt ≤ 60) (hx9 : 0 ≤ x9.toInt ∧ x9.toInt ≤ 60) (hx10 : 0 ≤ x10.toInt ∧ x10.toInt ≤ 60) (hx11 : 0 ≤ x11.toInt ∧ x11.toInt ≤ 8) (hx13 : 0 ≤ x13.toInt ∧ x13.toInt ≤ 1) : ka_R l D F yX7_gone wsX7_gone 0 0 [.ref a0] [(a0, .inr (7, [.ref a1, .int x0, .ref a2, .ref a3, .ref a4, .ref a5, .ref a6, .ref a7, .ref a8, .int x1, .int x2, .int x3, .int x4, .int x5, .int x6, .int x7, .ref a9, .ref a10, .ref a11, .ref a12, .ref a13, .ref a14, .int x8, .int x9, .int x10, .int x11, .int x12, .int x13])), (a9, .inl (k0, 40, .inl f0))] [(k0, .int)] (fun v => ∃ x : Int32, v = some (.int x)) := by
  refine ka_R_of (cc := cX7_gone) (maxL := 3) (ret := (some .int)) (by decide) rfl (Nat.le_of_ble_eq_true rfl) ?_
  intro p e s m below meth c ls C hr hlk hP hK hE hN hl
  have hS : va_S (fun _ => False) s.heap s.heap [] := va_S.rf
  have C : CallFix p m c cX7_gone 3 s [.ref a0].toArray wsX7_gone RX7 := C
  obtain ⟨hx, hb, hml, hown, hts⟩ := id C
  have hl : lv_has ls 3 [(0, .ref a0)] := hl
  have rx0 := ka_rng x0
  have rx1 := ka_rng x1
  have rx2 := ka_rng x2
  have rx3 := ka_rng x3
  have rx4 := ka_rng x4
  have rx5 := ka_rng x5
  have rx6 := ka_rng x6
  have rx7 := ka_rng x7
  have rx8 := ka_rng x8
  have rx9 := ka_rng x9
  have rx10 := ka_rng x10
  have rx11 := ka_rng x11
  have rx12 := ka_rng x12
  have rx13 := ka_rng x13
  refine lv_iconst (v := 0) hx hb dX7_gone_0 (by decide) ?_
  refine lv_istore_n (lv' := [(1, .int 0), (0, .ref a0)]) hx hb dX7_gone_1 rfl hl (by decide) rfl (fun ls hl => ?_)
  refine lv_iconst (v := 0) hx hb dX7_gone_2 (by decide) ?_
  refine lv_istore_n (lv' := [(2, .int 0), (1, .int 0), (0, .ref a0)]) hx hb dX7_gone_3 rfl hl (by decide) rfl (fun ls hl => ?_)
  have lp_25441 : ∀ (n : Nat) (i25441_1 : Int32) (i25441_2 : Int32), (0 ≤ i25441_2.toInt ∧ i25441_2.toInt ≤ 40) → (40 - i25441_2.toInt).toNat < n → ∀ (ls : Array Slot), lv_has ls 3 [(0, .ref a0), (1, .int i25441_1), (2, .int i25441_2)] → W p l e ({ frames := 0, cells := 0, slots := 0, locals := 0 }) s m [.ref a0].toArray below meth c s.heap [] 0 0 (MQ below (ka_QR (fun v => ∃ x : Int32, v = some (.int x))) [.ref a0].toArray s 0 0 (fun _ => False)) (F0 m 4 ls []) := by
    intro n
    induction n with
    | zero =>
      intro i25441_1 i25441_2 hi25441_2 hm
      exact absurd hm (Nat.not_lt_zero _)
    | succ n ih_25441 =>
      intro i25441_1 i25441_2 hi25441_2 hm ls hl
      have ri25441_1 := ka_rng i25441_1
      have ri25441_2 := ka_rng i25441_2
      refine lv_iload_n hx hb dX7_gone_4 rfl (lv_at hl 2 rfl) ?_
      refine lv_aload_n hx hb dX7_gone_5 rfl (lv_at hl 0 rfl) ?_
      refine ka_get C lq_324 rfl hK hP 0 rfl 13 (by decide) lq_325 rfl dX7_gone_6 ?_
      refine lv_icmp_ge (tgt := 29) hx hb dX7_gone_9 (by decide) (fun c_25447 => ?_) (fun c_25447 => ?_)
      · have c_25447 : x5.toInt ≤ i25441_2.toInt := by rw [ka_le'] at c_25447; exact c_25447
        refine lv_iload_n hx hb dX7_gone_29 rfl (lv_at hl 1 rfl) ?_
        exact ka_rRi C hr hlk ⟨_, rfl⟩ dX7_gone_30
      · have c_25447 : ¬ x5.toInt ≤ i25441_2.toInt := by rw [ka_le'] at c_25447; exact c_25447
        refine lv_iload_n hx hb dX7_gone_12 rfl (lv_at hl 1 rfl) ?_
        refine lv_iconst (v := 1) hx hb dX7_gone_13 (by decide) ?_
        refine lv_aload_n hx hb dX7_gone_14 rfl (lv_at hl 0 rfl) ?_
        refine ka_get C lq_324 rfl hK hP 0 rfl 16 (by decide) lq_326 rfl dX7_gone_15 ?_
        refine lv_iload_n hx hb dX7_gone_18 rfl (lv_at hl 2 rfl) ?_
        refine va_iald hx hb hK hP 1 0 rfl rfl (ka_in (by omega) (by omega)) dX7_gone_19 ?_
        refine lv_topi (fun v_25448 ev_25448 => ?_)
        refine lv_ishl hx hb dX7_gone_20 ?_
        refine lv_topi (fun v_25449 ev_25449 => ?_)
        refine lv_ior hx hb dX7_gone_21 ?_
        refine lv_topi (fun v_25450 ev_25450 => ?_)
        refine lv_istore_n (lv' := [(1, .int v_25450), (0, .ref a0), (2, .int i25441_2)]) hx hb dX7_gone_22 rfl hl (by decide) rfl (fun ls hl => ?_)
        obtain ⟨v_25451, ev_25451⟩ : ∃ y : Int32, y = i25441_2 + 1 := ⟨_, rfl⟩
        refine lv_iinc (v := v_25451) (lv' := [(2, .int v_25451), (1, .int v_25450), (0, .ref a0)]) hx hb dX7_gone_23 hl (k := 2) rfl (by rw [ev_25451]; rfl) (by decide) rfl (fun ls hl => ?_)
        have fv_25451 : v_25451.toInt = i25441_2.toInt + 1 := by rw [ev_25451]; exact ka_add (x := i25441_2.toInt) (y := 1) rfl (by decide) (by omega) (by omega)
        refine lv_goto (tgt := 4) hx hb dX7_gone_26 (by decide) ?_
        exact ih_25441 v_25450 v_25451 ⟨by omega, by omega⟩ (by omega) ls (lv_sub hl [2, 1, 0] rfl)
  exact lp_25441 _ 0 0 ⟨by decide, by decide⟩ (Nat.lt_succ_self _) ls (lv_sub hl [2, 1, 0] rfl)
set_option maxHeartbeats 4000000 in
set_option maxRecDepth 100000 in
theorem cg_X7_many_262 (l : Launch) (D : va_G) (F : Nat → Prop) (x0 : Int32) : ka_R l D F yX7_many wsX7_many 0 0 [.int x0] [] [] (fun v => ∃ x : Int32, v = some (.int x)) := by
  refine ka_R_of (cc := cX7_many) (maxL := 3) (ret := (some .int)) (by decide) rfl (Nat.le_of_ble_eq_true rfl) ?_
  intro p e s m below meth c ls C hr hlk hP hK hE hN hl
  have hS : va_S (fun _ => False) s.heap s.heap [] := va_S.rf
  have C : CallFix p m c cX7_many 3 s [.int x0].toArray wsX7_many RX7 := C
  obtain ⟨hx, hb, hml, hown, hts⟩ := id C
  have hl : lv_has ls 3 [(0, .int x0)] := hl
  have rx0 := ka_rng x0
  refine lv_iconst (v := 0) hx hb dX7_many_0 (by decide) ?_
  refine lv_istore_n (lv' := [(1, .int 0), (0, .int x0)]) hx hb dX7_many_1 rfl hl (by decide) rfl (fun ls hl => ?_)
  refine lv_iload_n hx hb dX7_many_2 rfl (lv_at hl 1 rfl) ?_
  refine lv_istore_n (lv' := [(2, .int x0), (1, .int 0), (0, .int x0)]) hx hb dX7_many_3 rfl hl (by decide) rfl (fun ls hl => ?_)
  have lp_25527 : ∀ (n : Nat) (i25527_1 : Int32) (i25527_2 : Int32), (i25527_2.toInt).toNat < n → ∀ (ls : Array Slot), lv_has ls 3 [(0, .int x0), (1, .int i25527_1), (2, .int i25527_2)] → W p l e ({ frames := 0, cells := 0, slots := 0, locals := 0 }) s m [.int x0].toArray below meth c s.heap [] 0 0 (MQ below (ka_QR (fun v => ∃ x : Int32, v = some (.int x))) [.int x0].toArray s 0 0 (fun _ => False)) (F0 m 4 ls []) := by
    intro n
    induction n with
    | zero =>
      intro i25527_1 i25527_2  hm
      exact absurd hm (Nat.not_lt_zero _)
    | succ n ih_25527 =>
      intro i25527_1 i25527_2  hm ls hl
      have ri25527_1 := ka_rng i25527_1
      have ri25527_2 := ka_rng i25527_2
      refine lv_iload_n hx hb dX7_many_4 rfl (lv_at hl 2 rfl) ?_
      refine lv_if_le (tgt := 21) hx hb dX7_many_5 (by decide) (fun c_25532 => ?_) (fun c_25532 => ?_)
      · have c_25532 : i25527_2.toInt ≤ 0 := by rw [ka_le', show ((0 : Int32)).toInt = 0 from by decide] at c_25532; exact c_25532
        refine lv_iload_n hx hb dX7_many_21 rfl (lv_at hl 1 rfl) ?_
        exact ka_rRi C hr hlk ⟨_, rfl⟩ dX7_many_22
      · have c_25532 : ¬ i25527_2.toInt ≤ 0 := by rw [ka_le', show ((0 : Int32)).toInt = 0 from by decide] at c_25532; exact c_25532
        refine lv_iload_n hx hb dX7_many_8 rfl (lv_at hl 1 rfl) ?_
        refine lv_iload_n hx hb dX7_many_9 rfl (lv_at hl 2 rfl) ?_
        refine lv_iconst (v := 1) hx hb dX7_many_10 (by decide) ?_
        refine lv_iand hx hb dX7_many_11 ?_
        refine lv_topi (fun v_25533 ev_25533 => ?_)
        refine lv_iadd hx hb dX7_many_12 ?_
        refine lv_topi (fun v_25534 ev_25534 => ?_)
        refine lv_istore_n (lv' := [(1, .int v_25534), (0, .int x0), (2, .int i25527_2)]) hx hb dX7_many_13 rfl hl (by decide) rfl (fun ls hl => ?_)
        refine lv_iload_n hx hb dX7_many_14 rfl (lv_at hl 2 rfl) ?_
        refine lv_iconst (v := 1) hx hb dX7_many_15 (by decide) ?_
        refine lv_ishr hx hb dX7_many_16 ?_
        refine lv_topi (fun v_25535 ev_25535 => ?_)
        have fv_25535 : v_25535.toInt = i25527_2.toInt / 2 := by rw [ev_25535]; exact kb_shr1 i25527_2
        refine lv_istore_n (lv' := [(2, .int v_25535), (1, .int v_25534), (0, .int x0)]) hx hb dX7_many_17 rfl hl (by decide) rfl (fun ls hl => ?_)
        refine lv_goto (tgt := 4) hx hb dX7_many_18 (by decide) ?_
        exact ih_25527 v_25534 v_25535  (by omega) ls (lv_sub hl [2, 1, 0] rfl)
  exact lp_25527 _ 0 x0  (Nat.lt_succ_self _) ls (lv_sub hl [2, 1, 0] rfl)
set_option maxHeartbeats 4000000 in
set_option maxRecDepth 100000 in
theorem cg_X7_tellsOf_263 (l : Launch) (D : va_G) (F : Nat → Prop) (a0 : Nat) (x0 : Int32) (x1 : Int32) (a1 : Nat) (x2 : Int32) (a2 : Nat) (a3 : Nat) (a4 : Nat) (a5 : Nat) (a6 : Nat) (a7 : Nat) (a8 : Nat) (x3 : Int32) (x4 : Int32) (x5 : Int32) (x6 : Int32) (x7 : Int32) (x8 : Int32) (x9 : Int32) (a9 : Nat) (a10 : Nat) (a11 : Nat) (a12 : Nat) (a13 : Nat) (a14 : Nat) (x10 : Int32) (x11 : Int32) (x12 : Int32) (x13 : Int32) (x14 : Int32) (x15 : Int32) (k0 : ClassId) (f0 : Nat → Int32) (hx0 : 6 ≤ x0.toInt ∧ x0.toInt ≤ 77) (hx1 : 0 ≤ x1.toInt ∧ x1.toInt ≤ 31) (hx2 : 0 ≤ x2.toInt ∧ x2.toInt ≤ 80) (hx3 : 0 ≤ x3.toInt ∧ x3.toInt ≤ 5) (hx6 : 1 ≤ x6.toInt ∧ x6.toInt ≤ 8) (hx7 : 0 ≤ x7.toInt ∧ x7.toInt ≤ 40) (hx9 : 0 ≤ x9.toInt ∧ x9.toInt ≤ 10) (hx10 : 0 ≤ x10.toInt ∧ x10.toInt ≤ 60) (hx11 : 0 ≤ x11.toInt ∧ x11.toInt ≤ 60) (hx12 : 0 ≤ x12.toInt ∧ x12.toInt ≤ 60) (hx13 : 0 ≤ x13.toInt ∧ x13.toInt ≤ 8) (hx15 : 0 ≤ x15.toInt ∧ x15.toInt ≤ 1) : ka_R l D F yX7_tellsOf wsX7_tellsOf 0 0 [.ref a0, .int x0, .int x1] [(a0, .inr (7, [.ref a1, .int x2, .ref a2, .ref a3, .ref a4, .ref a5, .ref a6, .ref a7, .ref a8, .int x3, .int x4, .int x5, .int x6, .int x7, .int x8, .int x9, .ref a9, .ref a10, .ref a11, .ref a12, .ref a13, .ref a14, .int x10, .int x11, .int x12, .int x13, .int x14, .int x15])), (a2, .inl (k0, 89, .inl f0))] [(k0, .int)] (fun v => ∃ x : Int32, v = some (.int x)) := by
  refine ka_R_of (cc := cX7_tellsOf) (maxL := 3) (ret := (some .int)) (by decide) rfl (Nat.le_of_ble_eq_true rfl) ?_
  intro p e s m below meth c ls C hr hlk hP hK hE hN hl
  have hS : va_S (fun _ => False) s.heap s.heap [] := va_S.rf
  have C : CallFix p m c cX7_tellsOf 3 s [.ref a0, .int x0, .int x1].toArray wsX7_tellsOf RX7 := C
  obtain ⟨hx, hb, hml, hown, hts⟩ := id C
  have hl : lv_has ls 3 [(0, .ref a0), (1, .int x0), (2, .int x1)] := hl
  have rx0 := ka_rng x0
  have rx1 := ka_rng x1
  have rx2 := ka_rng x2
  have rx3 := ka_rng x3
  have rx4 := ka_rng x4
  have rx5 := ka_rng x5
  have rx6 := ka_rng x6
  have rx7 := ka_rng x7
  have rx8 := ka_rng x8
  have rx9 := ka_rng x9
  have rx10 := ka_rng x10
  have rx11 := ka_rng x11
  have rx12 := ka_rng x12
  have rx13 := ka_rng x13
  have rx14 := ka_rng x14
  have rx15 := ka_rng x15
  refine lv_aload_n hx hb dX7_tellsOf_0 rfl (lv_at hl 0 rfl) ?_
  refine ka_get C lq_283 rfl hK hP 0 rfl 2 (by decide) lq_284 rfl dX7_tellsOf_1 ?_
  refine lv_iload_n hx hb dX7_tellsOf_4 rfl (lv_at hl 1 rfl) ?_
  refine va_iald hx hb hK hP 1 0 rfl rfl (ka_in (by omega) (by omega)) dX7_tellsOf_5 ?_
  refine lv_topi (fun v_25612 ev_25612 => ?_)
  refine lv_iload_n hx hb dX7_tellsOf_6 rfl (lv_at hl 2 rfl) ?_
  refine lv_ishr hx hb dX7_tellsOf_7 ?_
  refine lv_topi (fun v_25613 ev_25613 => ?_)
  refine lv_iconst (v := 1) hx hb dX7_tellsOf_8 (by decide) ?_
  refine lv_iand hx hb dX7_tellsOf_9 ?_
  refine lv_topi (fun v_25614 ev_25614 => ?_)
  exact ka_rRi C hr hlk ⟨_, rfl⟩ dX7_tellsOf_10
theorem lq_327 : ∀ w ∈ wsX70, w ∈ wsX7_tellOne := by decide +kernel
theorem lq_328 : Cond.fieldLink RX7 33 "AskedBackModel" "pictures" "[I" ∈ wsX7_tellOne := by decide +kernel
theorem lq_329 : Cond.fieldLink RX7 36 "AskedBackModel" "lesson" "I" ∈ wsX7_tellOne := by decide +kernel
set_option maxHeartbeats 4000000 in
set_option maxRecDepth 100000 in
theorem cg_X7_tellOne_264 (l : Launch) (D : va_G) (F : Nat → Prop) (a0 : Nat) (x0 : Int32) (x1 : Int32) (a1 : Nat) (x2 : Int32) (a2 : Nat) (a3 : Nat) (a4 : Nat) (a5 : Nat) (a6 : Nat) (a7 : Nat) (a8 : Nat) (x3 : Int32) (x4 : Int32) (x5 : Int32) (x6 : Int32) (x7 : Int32) (x8 : Int32) (x9 : Int32) (a9 : Nat) (a10 : Nat) (a11 : Nat) (a12 : Nat) (a13 : Nat) (a14 : Nat) (x10 : Int32) (x11 : Int32) (x12 : Int32) (x13 : Int32) (x14 : Int32) (x15 : Int32) (k0 : ClassId) (f0 : Nat → Int32) (k1 : ClassId) (f1 : Nat → Int32) (hx1 : 0 ≤ x1.toInt ∧ x1.toInt ≤ 31) (hx2 : 0 ≤ x2.toInt ∧ x2.toInt ≤ 80) (hx3 : 0 ≤ x3.toInt ∧ x3.toInt ≤ 5) (hx6 : 1 ≤ x6.toInt ∧ x6.toInt ≤ 8) (hx7 : 0 ≤ x7.toInt ∧ x7.toInt ≤ 40) (hx9 : 0 ≤ x9.toInt ∧ x9.toInt ≤ 10) (hx10 : 0 ≤ x10.toInt ∧ x10.toInt ≤ 60) (hx11 : 0 ≤ x11.toInt ∧ x11.toInt ≤ 60) (hx12 : 0 ≤ x12.toInt ∧ x12.toInt ≤ 60) (hx13 : 0 ≤ x13.toInt ∧ x13.toInt ≤ 8) (hx15 : 0 ≤ x15.toInt ∧ x15.toInt ≤ 1) (hf1 : ∀ j : Nat, 0 ≤ (f1 j).toInt ∧ (f1 j).toInt ≤ 12) : ka_R l D F yX7_tellOne wsX7_tellOne 1 22 [.ref a0, .int x0, .int x1] [(a0, .inr (7, [.ref a1, .int x2, .ref a2, .ref a3, .ref a4, .ref a5, .ref a6, .ref a7, .ref a8, .int x3, .int x4, .int x5, .int x6, .int x7, .int x8, .int x9, .ref a9, .ref a10, .ref a11, .ref a12, .ref a13, .ref a14, .int x10, .int x11, .int x12, .int x13, .int x14, .int x15])), (a2, .inl (k0, 89, .inl f0)), (a8, .inl (k1, 6, .inl f1))] [(k0, .int), (k1, .int)] (fun v => ∃ x : Int32, v = some (.int x)) := by
  refine ka_R_of (cc := cX7_tellOne) (maxL := 5) (ret := (some .int)) (by decide) rfl (Nat.le_of_ble_eq_true rfl) ?_
  intro p e s m below meth c ls C hr hlk hP hK hE hN hl
  have hS : va_S (fun _ => False) s.heap s.heap [] := va_S.rf
  have C : CallFix p m c cX7_tellOne 5 s [.ref a0, .int x0, .int x1].toArray wsX7_tellOne RX7 := C
  obtain ⟨hx, hb, hml, hown, hts⟩ := id C
  have hl : lv_has ls 5 [(0, .ref a0), (1, .int x0), (2, .int x1)] := hl
  have rx0 := ka_rng x0
  have rx1 := ka_rng x1
  have rx2 := ka_rng x2
  have rx3 := ka_rng x3
  have rx4 := ka_rng x4
  have rx5 := ka_rng x5
  have rx6 := ka_rng x6
  have rx7 := ka_rng x7
  have rx8 := ka_rng x8
  have rx9 := ka_rng x9
  have rx10 := ka_rng x10
  have rx11 := ka_rng x11
  have rx12 := ka_rng x12
  have rx13 := ka_rng x13
  have rx14 := ka_rng x14
  have rx15 := ka_rng x15
  refine lv_iconst (v := 0) hx hb dX7_tellOne_0 (by decide) ?_
  refine lv_istore_n (lv' := [(3, .int 0), (0, .ref a0), (1, .int x0), (2, .int x1)]) hx hb dX7_tellOne_1 rfl hl (by decide) rfl (fun ls hl => ?_)
  refine lv_iconst (v := 0) hx hb dX7_tellOne_2 (by decide) ?_
  refine lv_istore (lv' := [(4, .int 0), (3, .int 0), (0, .ref a0), (1, .int x0), (2, .int x1)]) hx hb dX7_tellOne_3 hl (by decide) rfl (fun ls hl => ?_)
  have lp_25661 : ∀ (n : Nat) (i25661_3 : Int32) (i25661_4 : Int32), (0 ≤ i25661_4.toInt ∧ i25661_4.toInt ≤ 12) → (12 - i25661_4.toInt).toNat < n → ∀ (ls : Array Slot), lv_has ls 5 [(0, .ref a0), (1, .int x0), (2, .int x1), (3, .int i25661_3), (4, .int i25661_4)] → W p l e ({ frames := 1, cells := 0, slots := 0, locals := 22 }) s m [.ref a0, .int x0, .int x1].toArray below meth c s.heap [] 0 0 (MQ below (ka_QR (fun v => ∃ x : Int32, v = some (.int x))) [.ref a0, .int x0, .int x1].toArray s 0 0 (fun _ => False)) (F0 m 5 ls []) := by
    intro n
    induction n with
    | zero =>
      intro i25661_3 i25661_4 hi25661_4 hm
      exact absurd hm (Nat.not_lt_zero _)
    | succ n ih_25661 =>
      intro i25661_3 i25661_4 hi25661_4 hm ls hl
      have ri25661_3 := ka_rng i25661_3
      have ri25661_4 := ka_rng i25661_4
      refine lv_iload hx hb dX7_tellOne_5 (lv_at hl 4 rfl) ?_
      refine lv_aload_n hx hb dX7_tellOne_7 rfl (lv_at hl 0 rfl) ?_
      refine ka_get C lq_327 rfl hK hP 0 rfl 8 (by decide) lq_328 rfl dX7_tellOne_8 ?_
      refine lv_aload_n hx hb dX7_tellOne_11 rfl (lv_at hl 0 rfl) ?_
      refine ka_get C lq_327 rfl hK hP 0 rfl 9 (by decide) lq_329 rfl dX7_tellOne_12 ?_
      refine va_iald hx hb hK hP 2 1 rfl rfl (ka_in (by omega) (by omega)) dX7_tellOne_15 ?_
      refine lv_topi (fun v_25675 ev_25675 => ?_)
      have hv_25675 := hf1 (Int32.toNatClampNeg x3); rw [← ev_25675] at hv_25675
      refine lv_icmp_ge (tgt := 60) hx hb dX7_tellOne_16 (by decide) (fun c_25676 => ?_) (fun c_25676 => ?_)
      · have c_25676 : v_25675.toInt ≤ i25661_4.toInt := by rw [ka_le'] at c_25676; exact c_25676
        refine lv_iload_n hx hb dX7_tellOne_60 rfl (lv_at hl 3 rfl) ?_
        exact ka_rRi C hr hlk ⟨_, rfl⟩ dX7_tellOne_61
      · have c_25676 : ¬ v_25675.toInt ≤ i25661_4.toInt := by rw [ka_le'] at c_25676; exact c_25676
        refine lv_iload_n hx hb dX7_tellOne_19 rfl (lv_at hl 1 rfl) ?_
        refine lv_iload hx hb dX7_tellOne_20 (lv_at hl 4 rfl) ?_
        refine lv_ishr hx hb dX7_tellOne_22 ?_
        refine lv_topi (fun v_25677 ev_25677 => ?_)
        refine lv_iconst (v := 1) hx hb dX7_tellOne_23 (by decide) ?_
        refine lv_iand hx hb dX7_tellOne_24 ?_
        refine lv_topi (fun v_25678 ev_25678 => ?_)
        refine lv_iconst (v := 1) hx hb dX7_tellOne_25 (by decide) ?_
        refine lv_icmp_ne (tgt := 54) hx hb dX7_tellOne_26 (by decide) (fun c_25679 => ?_) (fun c_25679 => ?_)
        · have c_25679 : ¬ v_25678.toInt = 1 := by rw [ka_eq', show ((1 : Int32)).toInt = 1 from by decide] at c_25679; exact c_25679
          obtain ⟨v_25680, ev_25680⟩ : ∃ y : Int32, y = i25661_4 + 1 := ⟨_, rfl⟩
          refine lv_iinc (v := v_25680) (lv' := [(4, .int v_25680), (0, .ref a0), (1, .int x0), (2, .int x1), (3, .int i25661_3)]) hx hb dX7_tellOne_54 hl (k := 4) rfl (by rw [ev_25680]; rfl) (by decide) rfl (fun ls hl => ?_)
          have fv_25680 : v_25680.toInt = i25661_4.toInt + 1 := by rw [ev_25680]; exact ka_add (x := i25661_4.toInt) (y := 1) rfl (by decide) (by omega) (by omega)
          refine lv_goto (tgt := 5) hx hb dX7_tellOne_57 (by decide) ?_
          exact ih_25661 i25661_3 v_25680 ⟨by omega, by omega⟩ (by omega) ls (lv_sub hl [1, 2, 3, 4, 0] rfl)
        · have c_25679 : v_25678.toInt = 1 := by rw [ka_eq', show ((1 : Int32)).toInt = 1 from by decide] at c_25679; exact c_25679
          refine lv_aload_n hx hb dX7_tellOne_29 rfl (lv_at hl 0 rfl) ?_
          refine lv_aload_n hx hb dX7_tellOne_30 rfl (lv_at hl 0 rfl) ?_
          refine ka_get C lq_327 rfl hK hP 0 rfl 9 (by decide) lq_329 rfl dX7_tellOne_31 ?_
          refine lv_iload hx hb dX7_tellOne_34 (lv_at hl 4 rfl) ?_
          refine ka_RS (n := 2) C (cg_X7_pictureAt_257 l D F x3 i25661_4 ⟨by omega, by omega⟩ ⟨by omega, by omega⟩) gX7_tellOne_X7_pictureAt rfl (by decide +kernel) ⟨Nat.le_of_ble_eq_true rfl, Nat.le_of_ble_eq_true rfl⟩ hK hP hS hE hN [] rfl [] rfl rfl hl.1 (rest := [.ref a0]) rfl (Nat.le_of_ble_eq_true rfl) dX7_tellOne_36 ⟨Nat.le_of_ble_eq_true rfl, Nat.le_of_ble_eq_true rfl⟩ (fun v hv => ?_)
          obtain ⟨v_25681, rfl, hv_25681⟩ := hv
          have rv_25681 := ka_rng v_25681
          refine ka_stk (w := [.int v_25681, .ref a0]) rfl ?_
          refine lv_iload_n hx hb dX7_tellOne_39 rfl (lv_at hl 2 rfl) ?_
          refine ka_RV (n := 2) C (cg_X7_tellsOf_263 l D F a0 v_25681 x1 a1 x2 a2 a3 a4 a5 a6 a7 a8 x3 x4 x5 x6 x7 x8 x9 a9 a10 a11 a12 a13 a14 x10 x11 x12 x13 x14 x15 k0 f0 ⟨by omega, by omega⟩ ⟨by omega, by omega⟩ ⟨by omega, by omega⟩ ⟨by omega, by omega⟩ ⟨by omega, by omega⟩ ⟨by omega, by omega⟩ ⟨by omega, by omega⟩ ⟨by omega, by omega⟩ ⟨by omega, by omega⟩ ⟨by omega, by omega⟩ ⟨by omega, by omega⟩ ⟨by omega, by omega⟩) gX7_tellOne_X7_tellsOf rfl (by decide +kernel) ⟨Nat.le_of_ble_eq_true rfl, Nat.le_of_ble_eq_true rfl⟩ hK hP hS hE hN [0, 1] rfl [0] rfl (ci := 7) rfl rfl 0 rfl rfl hl.1 (rest := []) rfl (Nat.le_of_ble_eq_true rfl) dX7_tellOne_40 ⟨Nat.le_of_ble_eq_true rfl, Nat.le_of_ble_eq_true rfl⟩ (fun v hv => ?_)
          obtain ⟨v_25682, rfl⟩ := hv
          have rv_25682 := ka_rng v_25682
          refine ka_stk (w := [.int v_25682]) rfl ?_
          refine lv_iconst (v := 1) hx hb dX7_tellOne_43 (by decide) ?_
          refine lv_icmp_ne (tgt := 54) hx hb dX7_tellOne_44 (by decide) (fun c_25683 => ?_) (fun c_25683 => ?_)
          · have c_25683 : ¬ v_25682.toInt = 1 := by rw [ka_eq', show ((1 : Int32)).toInt = 1 from by decide] at c_25683; exact c_25683
            obtain ⟨v_25684, ev_25684⟩ : ∃ y : Int32, y = i25661_4 + 1 := ⟨_, rfl⟩
            refine lv_iinc (v := v_25684) (lv' := [(4, .int v_25684), (0, .ref a0), (1, .int x0), (2, .int x1), (3, .int i25661_3)]) hx hb dX7_tellOne_54 hl (k := 4) rfl (by rw [ev_25684]; rfl) (by decide) rfl (fun ls hl => ?_)
            have fv_25684 : v_25684.toInt = i25661_4.toInt + 1 := by rw [ev_25684]; exact ka_add (x := i25661_4.toInt) (y := 1) rfl (by decide) (by omega) (by omega)
            refine lv_goto (tgt := 5) hx hb dX7_tellOne_57 (by decide) ?_
            exact ih_25661 i25661_3 v_25684 ⟨by omega, by omega⟩ (by omega) ls (lv_sub hl [1, 2, 3, 4, 0] rfl)
          · have c_25683 : v_25682.toInt = 1 := by rw [ka_eq', show ((1 : Int32)).toInt = 1 from by decide] at c_25683; exact c_25683
            refine lv_iload_n hx hb dX7_tellOne_47 rfl (lv_at hl 3 rfl) ?_
            refine lv_iconst (v := 1) hx hb dX7_tellOne_48 (by decide) ?_
            refine lv_iload hx hb dX7_tellOne_49 (lv_at hl 4 rfl) ?_
            refine lv_ishl hx hb dX7_tellOne_51 ?_
            refine lv_topi (fun v_25685 ev_25685 => ?_)
            refine lv_ior hx hb dX7_tellOne_52 ?_
            refine lv_topi (fun v_25686 ev_25686 => ?_)
            refine lv_istore_n (lv' := [(3, .int v_25686), (0, .ref a0), (1, .int x0), (2, .int x1), (4, .int i25661_4)]) hx hb dX7_tellOne_53 rfl hl (by decide) rfl (fun ls hl => ?_)
            obtain ⟨v_25687, ev_25687⟩ : ∃ y : Int32, y = i25661_4 + 1 := ⟨_, rfl⟩
            refine lv_iinc (v := v_25687) (lv' := [(4, .int v_25687), (3, .int v_25686), (0, .ref a0), (1, .int x0), (2, .int x1)]) hx hb dX7_tellOne_54 hl (k := 4) rfl (by rw [ev_25687]; rfl) (by decide) rfl (fun ls hl => ?_)
            have fv_25687 : v_25687.toInt = i25661_4.toInt + 1 := by rw [ev_25687]; exact ka_add (x := i25661_4.toInt) (y := 1) rfl (by decide) (by omega) (by omega)
            refine lv_goto (tgt := 5) hx hb dX7_tellOne_57 (by decide) ?_
            exact ih_25661 v_25686 v_25687 ⟨by omega, by omega⟩ (by omega) ls (lv_sub hl [2, 3, 4, 1, 0] rfl)
  exact lp_25661 _ 0 0 ⟨by decide, by decide⟩ (Nat.lt_succ_self _) ls (lv_sub hl [2, 3, 4, 1, 0] rfl)
theorem lq_330 : Cond.methodLink RX7 200 Lib.Math.max.name ∈ wsX7_parts := by decide +kernel
theorem lq_331 : Cond.static Lib.Math.max.name ∈ wsX7_parts := by decide +kernel
theorem lq_332 : Cond.initialized "java/lang/Math" ∈ wsX7_parts := by decide +kernel
theorem lq_333 : Cond.code Lib.Math.max.name Lib.Math.max.code 2 (some .int) ∈ wsX7_parts := by decide +kernel
set_option maxHeartbeats 4000000 in
set_option maxRecDepth 100000 in
theorem cg_X7_parts_265 (l : Launch) (D : va_G) (F : Nat → Prop) (a0 : Nat) (x0 : Int32) (x1 : Int32) (a1 : Nat) (x2 : Int32) (a2 : Nat) (a3 : Nat) (a4 : Nat) (a5 : Nat) (a6 : Nat) (a7 : Nat) (a8 : Nat) (x3 : Int32) (x4 : Int32) (x5 : Int32) (x6 : Int32) (x7 : Int32) (x8 : Int32) (x9 : Int32) (a9 : Nat) (a10 : Nat) (a11 : Nat) (a12 : Nat) (a13 : Nat) (a14 : Nat) (x10 : Int32) (x11 : Int32) (x12 : Int32) (x13 : Int32) (x14 : Int32) (x15 : Int32) (k0 : ClassId) (f0 : Nat → Int32) (k1 : ClassId) (f1 : Nat → Int32) (hx2 : 0 ≤ x2.toInt ∧ x2.toInt ≤ 80) (hx3 : 0 ≤ x3.toInt ∧ x3.toInt ≤ 5) (hx6 : 1 ≤ x6.toInt ∧ x6.toInt ≤ 8) (hx7 : 0 ≤ x7.toInt ∧ x7.toInt ≤ 40) (hx9 : 0 ≤ x9.toInt ∧ x9.toInt ≤ 10) (hx10 : 0 ≤ x10.toInt ∧ x10.toInt ≤ 60) (hx11 : 0 ≤ x11.toInt ∧ x11.toInt ≤ 60) (hx12 : 0 ≤ x12.toInt ∧ x12.toInt ≤ 60) (hx13 : 0 ≤ x13.toInt ∧ x13.toInt ≤ 8) (hx15 : 0 ≤ x15.toInt ∧ x15.toInt ≤ 1) (hf1 : ∀ j : Nat, 0 ≤ (f1 j).toInt ∧ (f1 j).toInt ≤ 12) : ka_R l D F yX7_parts wsX7_parts 2 46 [.ref a0, .int x0, .int x1] [(a0, .inr (7, [.ref a1, .int x2, .ref a2, .ref a3, .ref a4, .ref a5, .ref a6, .ref a7, .ref a8, .int x3, .int x4, .int x5, .int x6, .int x7, .int x8, .int x9, .ref a9, .ref a10, .ref a11, .ref a12, .ref a13, .ref a14, .int x10, .int x11, .int x12, .int x13, .int x14, .int x15])), (a2, .inl (k0, 89, .inl f0)), (a8, .inl (k1, 6, .inl f1))] [(k0, .int), (k1, .int)] (fun v => ∃ x : Int32, v = some (.int x) ∧ -1 ≤ x.toInt ∧ x.toInt ≤ 31) := by
  refine ka_R_of (cc := cX7_parts) (maxL := 8) (ret := (some .int)) (by decide) rfl (Nat.le_of_ble_eq_true rfl) ?_
  intro p e s m below meth c ls C hr hlk hP hK hE hN hl
  have hS : va_S (fun _ => False) s.heap s.heap [] := va_S.rf
  have C : CallFix p m c cX7_parts 8 s [.ref a0, .int x0, .int x1].toArray wsX7_parts RX7 := C
  obtain ⟨hx, hb, hml, hown, hts⟩ := id C
  have hl : lv_has ls 8 [(0, .ref a0), (1, .int x0), (2, .int x1)] := hl
  have rx0 := ka_rng x0
  have rx1 := ka_rng x1
  have rx2 := ka_rng x2
  have rx3 := ka_rng x3
  have rx4 := ka_rng x4
  have rx5 := ka_rng x5
  have rx6 := ka_rng x6
  have rx7 := ka_rng x7
  have rx8 := ka_rng x8
  have rx9 := ka_rng x9
  have rx10 := ka_rng x10
  have rx11 := ka_rng x11
  have rx12 := ka_rng x12
  have rx13 := ka_rng x13
  have rx14 := ka_rng x14
  have rx15 := ka_rng x15
  refine lv_iconst (v := (-1)) hx hb dX7_parts_0 (by decide) ?_
  refine lv_istore_n (lv' := [(3, .int (-1)), (0, .ref a0), (1, .int x0), (2, .int x1)]) hx hb dX7_parts_1 rfl hl (by decide) rfl (fun ls hl => ?_)
  refine lv_iload_n hx hb dX7_parts_2 rfl (lv_at hl 2 rfl) ?_
  refine ka_RS (n := 1) C (cg_X7_many_262 l D F x0) gX7_parts_X7_many rfl (by decide +kernel) ⟨Nat.le_of_ble_eq_true rfl, Nat.le_of_ble_eq_true rfl⟩ hK hP hS hE hN [] rfl [] rfl rfl hl.1 (rest := []) rfl (Nat.le_of_ble_eq_true rfl) dX7_parts_3 ⟨Nat.le_of_ble_eq_true rfl, Nat.le_of_ble_eq_true rfl⟩ (fun v hv => ?_)
  obtain ⟨v_25738, rfl⟩ := hv
  have rv_25738 := ka_rng v_25738
  refine ka_stk (w := [.int v_25738]) rfl ?_
  refine lv_istore (lv' := [(4, .int v_25738), (3, .int (-1)), (0, .ref a0), (1, .int x0), (2, .int x1)]) hx hb dX7_parts_6 hl (by decide) rfl (fun ls hl => ?_)
  refine lv_iconst (v := 0) hx hb dX7_parts_8 (by decide) ?_
  refine lv_istore (lv' := [(5, .int 0), (4, .int v_25738), (3, .int (-1)), (0, .ref a0), (1, .int x0), (2, .int x1)]) hx hb dX7_parts_9 hl (by decide) rfl (fun ls hl => ?_)
  have lp_25739 : ∀ (n : Nat) (i25739_3 : Int32) (i25739_4 : Int32) (i25739_5 : Int32), (-1 ≤ i25739_3.toInt ∧ i25739_3.toInt ≤ 31) → (0 ≤ i25739_5.toInt ∧ i25739_5.toInt ≤ 32) → (32 - i25739_5.toInt).toNat < n → ∀ (ls : Array Slot), lv_has ls 8 [(0, .ref a0), (1, .int x0), (2, .int x1), (3, .int i25739_3), (4, .int i25739_4), (5, .int i25739_5)] → W p l e ({ frames := 2, cells := 0, slots := 0, locals := 46 }) s m [.ref a0, .int x0, .int x1].toArray below meth c s.heap [] 0 0 (MQ below (ka_QR (fun v => ∃ x : Int32, v = some (.int x) ∧ -1 ≤ x.toInt ∧ x.toInt ≤ 31)) [.ref a0, .int x0, .int x1].toArray s 0 0 (fun _ => False)) (F0 m 11 ls []) := by
    intro n
    induction n with
    | zero =>
      intro i25739_3 i25739_4 i25739_5 hi25739_3 hi25739_5 hm
      exact absurd hm (Nat.not_lt_zero _)
    | succ n ih_25739 =>
      intro i25739_3 i25739_4 i25739_5 hi25739_3 hi25739_5 hm ls hl
      have ri25739_3 := ka_rng i25739_3
      have ri25739_4 := ka_rng i25739_4
      have ri25739_5 := ka_rng i25739_5
      refine lv_iload hx hb dX7_parts_11 (lv_at hl 5 rfl) ?_
      refine lv_bipush (v := 32) hx hb dX7_parts_13 (by decide) ?_
      refine lv_icmp_ge (tgt := 80) hx hb dX7_parts_15 (by decide) (fun c_25753 => ?_) (fun c_25753 => ?_)
      · have c_25753 : 32 ≤ i25739_5.toInt := by rw [ka_le', show ((32 : Int32)).toInt = 32 from by decide] at c_25753; exact c_25753
        refine lv_iload_n hx hb dX7_parts_80 rfl (lv_at hl 3 rfl) ?_
        exact ka_rRi C hr hlk ⟨_, rfl, ⟨by omega, by omega⟩⟩ dX7_parts_81
      · have c_25753 : ¬ 32 ≤ i25739_5.toInt := by rw [ka_le', show ((32 : Int32)).toInt = 32 from by decide] at c_25753; exact c_25753
        refine lv_iload_n hx hb dX7_parts_18 rfl (lv_at hl 2 rfl) ?_
        refine lv_iload hx hb dX7_parts_19 (lv_at hl 5 rfl) ?_
        refine lv_ishr hx hb dX7_parts_21 ?_
        refine lv_topi (fun v_25754 ev_25754 => ?_)
        refine lv_iconst (v := 1) hx hb dX7_parts_22 (by decide) ?_
        refine lv_iand hx hb dX7_parts_23 ?_
        refine lv_topi (fun v_25755 ev_25755 => ?_)
        refine lv_iconst (v := 1) hx hb dX7_parts_24 (by decide) ?_
        refine lv_icmp_ne (tgt := 31) hx hb dX7_parts_25 (by decide) (fun c_25756 => ?_) (fun c_25756 => ?_)
        · have c_25756 : ¬ v_25755.toInt = 1 := by rw [ka_eq', show ((1 : Int32)).toInt = 1 from by decide] at c_25756; exact c_25756
          refine lv_aload_n hx hb dX7_parts_31 rfl (lv_at hl 0 rfl) ?_
          refine lv_iload_n hx hb dX7_parts_32 rfl (lv_at hl 1 rfl) ?_
          refine lv_iload hx hb dX7_parts_33 (lv_at hl 5 rfl) ?_
          refine ka_RV (n := 2) C (cg_X7_tellOne_264 l D F a0 x0 i25739_5 a1 x2 a2 a3 a4 a5 a6 a7 a8 x3 x4 x5 x6 x7 x8 x9 a9 a10 a11 a12 a13 a14 x10 x11 x12 x13 x14 x15 k0 f0 k1 f1 ⟨by omega, by omega⟩ ⟨by omega, by omega⟩ ⟨by omega, by omega⟩ ⟨by omega, by omega⟩ ⟨by omega, by omega⟩ ⟨by omega, by omega⟩ ⟨by omega, by omega⟩ ⟨by omega, by omega⟩ ⟨by omega, by omega⟩ ⟨by omega, by omega⟩ ⟨by omega, by omega⟩ hf1) gX7_parts_X7_tellOne rfl (by decide +kernel) ⟨Nat.le_of_ble_eq_true rfl, Nat.le_of_ble_eq_true rfl⟩ hK hP hS hE hN [0, 1, 2] rfl [0, 1] rfl (ci := 7) rfl rfl 0 rfl rfl hl.1 (rest := []) rfl (Nat.le_of_ble_eq_true rfl) dX7_parts_35 ⟨Nat.le_of_ble_eq_true rfl, Nat.le_of_ble_eq_true rfl⟩ (fun v hv => ?_)
          obtain ⟨v_25757, rfl⟩ := hv
          have rv_25757 := ka_rng v_25757
          refine ka_stk (w := [.int v_25757]) rfl ?_
          refine ka_RS (n := 1) C (cg_X7_many_262 l D F v_25757) gX7_parts_X7_many rfl (by decide +kernel) ⟨Nat.le_of_ble_eq_true rfl, Nat.le_of_ble_eq_true rfl⟩ hK hP hS hE hN [] rfl [] rfl rfl hl.1 (rest := []) rfl (Nat.le_of_ble_eq_true rfl) dX7_parts_38 ⟨Nat.le_of_ble_eq_true rfl, Nat.le_of_ble_eq_true rfl⟩ (fun v hv => ?_)
          obtain ⟨v_25758, rfl⟩ := hv
          have rv_25758 := ka_rng v_25758
          refine ka_stk (w := [.int v_25758]) rfl ?_
          refine lv_istore (lv' := [(6, .int v_25758), (0, .ref a0), (1, .int x0), (2, .int x1), (3, .int i25739_3), (4, .int i25739_4), (5, .int i25739_5)]) hx hb dX7_parts_41 hl (by decide) rfl (fun ls hl => ?_)
          refine lv_iload hx hb dX7_parts_43 (lv_at hl 0 rfl) ?_
          refine lv_iload_n hx hb dX7_parts_45 rfl (lv_at hl 2 rfl) ?_
          refine ka_RS (n := 1) C (cg_X7_many_262 l D F x0) gX7_parts_X7_many rfl (by decide +kernel) ⟨Nat.le_of_ble_eq_true rfl, Nat.le_of_ble_eq_true rfl⟩ hK hP hS hE hN [] rfl [] rfl rfl hl.1 (rest := [.int v_25758]) rfl (Nat.le_of_ble_eq_true rfl) dX7_parts_46 ⟨Nat.le_of_ble_eq_true rfl, Nat.le_of_ble_eq_true rfl⟩ (fun v hv => ?_)
          obtain ⟨v_25759, rfl⟩ := hv
          have rv_25759 := ka_rng v_25759
          refine ka_stk (w := [.int v_25759, .int v_25758]) rfl ?_
          refine lv_iload hx hb dX7_parts_49 (lv_at hl 0 rfl) ?_
          refine lv_isub hx hb dX7_parts_51 ?_
          refine lv_topi (fun v_25760 ev_25760 => ?_)
          refine va_mmax hx hb (hml.trans hl.1.symm) hown (hts _ lq_330) (hts _ lq_331) (hts _ lq_332) (hts _ lq_333) (Nat.le_of_ble_eq_true rfl) (Nat.le_of_ble_eq_true rfl) (Nat.le_of_ble_eq_true rfl) (Nat.le_of_ble_eq_true rfl) dX7_parts_52 ?_
          refine lv_topi (fun v_25761 ev_25761 => ?_)
          have fv_25761 := kb_max v_25758 v_25760; rw [← ev_25761] at fv_25761
          refine lv_istore (lv' := [(7, .int v_25761), (6, .int v_25758), (0, .ref a0), (1, .int x0), (2, .int x1), (3, .int i25739_3), (4, .int i25739_4), (5, .int i25739_5)]) hx hb dX7_parts_55 hl (by decide) rfl (fun ls hl => ?_)
          refine lv_iload hx hb dX7_parts_57 (lv_at hl 0 rfl) ?_
          refine lv_iload hx hb dX7_parts_59 (lv_at hl 6 rfl) ?_
          refine lv_icmp_lt (tgt := 67) hx hb dX7_parts_61 (by decide) (fun c_25762 => ?_) (fun c_25762 => ?_)
          · have c_25762 : v_25761.toInt < i25739_4.toInt := by rw [ka_lt'] at c_25762; exact c_25762
            refine lv_iload hx hb dX7_parts_67 (lv_at hl 7 rfl) ?_
            refine lv_istore_n (lv' := [(3, .int i25739_5), (7, .int v_25761), (6, .int v_25758), (0, .ref a0), (1, .int x0), (2, .int x1), (4, .int i25739_4), (5, .int i25739_5)]) hx hb dX7_parts_69 rfl hl (by decide) rfl (fun ls hl => ?_)
            refine lv_iload hx hb dX7_parts_70 (lv_at hl 1 rfl) ?_
            refine lv_istore (lv' := [(4, .int v_25761), (3, .int i25739_5), (7, .int v_25761), (6, .int v_25758), (0, .ref a0), (1, .int x0), (2, .int x1), (5, .int i25739_5)]) hx hb dX7_parts_72 hl (by decide) rfl (fun ls hl => ?_)
            obtain ⟨v_25763, ev_25763⟩ : ∃ y : Int32, y = i25739_5 + 1 := ⟨_, rfl⟩
            refine lv_iinc (v := v_25763) (lv' := [(5, .int v_25763), (4, .int v_25761), (3, .int i25739_5), (7, .int v_25761), (6, .int v_25758), (0, .ref a0), (1, .int x0), (2, .int x1)]) hx hb dX7_parts_74 hl (k := 7) rfl (by rw [ev_25763]; rfl) (by decide) rfl (fun ls hl => ?_)
            have fv_25763 : v_25763.toInt = i25739_5.toInt + 1 := by rw [ev_25763]; exact ka_add (x := i25739_5.toInt) (y := 1) rfl (by decide) (by omega) (by omega)
            refine lv_goto (tgt := 11) hx hb dX7_parts_77 (by decide) ?_
            exact ih_25739 i25739_5 v_25761 v_25763 ⟨by omega, by omega⟩ ⟨by omega, by omega⟩ (by omega) ls (lv_sub hl [5, 6, 7, 2, 1, 0] rfl)
          · have c_25762 : ¬ v_25761.toInt < i25739_4.toInt := by rw [ka_lt'] at c_25762; exact c_25762
            refine lv_goto (tgt := 74) hx hb dX7_parts_64 (by decide) ?_
            obtain ⟨v_25764, ev_25764⟩ : ∃ y : Int32, y = i25739_5 + 1 := ⟨_, rfl⟩
            refine lv_iinc (v := v_25764) (lv' := [(5, .int v_25764), (7, .int v_25761), (6, .int v_25758), (0, .ref a0), (1, .int x0), (2, .int x1), (3, .int i25739_3), (4, .int i25739_4)]) hx hb dX7_parts_74 hl (k := 7) rfl (by rw [ev_25764]; rfl) (by decide) rfl (fun ls hl => ?_)
            have fv_25764 : v_25764.toInt = i25739_5.toInt + 1 := by rw [ev_25764]; exact ka_add (x := i25739_5.toInt) (y := 1) rfl (by decide) (by omega) (by omega)
            refine lv_goto (tgt := 11) hx hb dX7_parts_77 (by decide) ?_
            exact ih_25739 i25739_3 i25739_4 v_25764 ⟨by omega, by omega⟩ ⟨by omega, by omega⟩ (by omega) ls (lv_sub hl [3, 4, 5, 6, 7, 0] rfl)
        · have c_25756 : v_25755.toInt = 1 := by rw [ka_eq', show ((1 : Int32)).toInt = 1 from by decide] at c_25756; exact c_25756
          refine lv_goto (tgt := 74) hx hb dX7_parts_28 (by decide) ?_
          obtain ⟨v_25765, ev_25765⟩ : ∃ y : Int32, y = i25739_5 + 1 := ⟨_, rfl⟩
          refine lv_iinc (v := v_25765) (lv' := [(5, .int v_25765), (0, .ref a0), (1, .int x0), (2, .int x1), (3, .int i25739_3), (4, .int i25739_4)]) hx hb dX7_parts_74 hl (k := 5) rfl (by rw [ev_25765]; rfl) (by decide) rfl (fun ls hl => ?_)
          have fv_25765 : v_25765.toInt = i25739_5.toInt + 1 := by rw [ev_25765]; exact ka_add (x := i25739_5.toInt) (y := 1) rfl (by decide) (by omega) (by omega)
          refine lv_goto (tgt := 11) hx hb dX7_parts_77 (by decide) ?_
          exact ih_25739 i25739_3 i25739_4 v_25765 ⟨by omega, by omega⟩ ⟨by omega, by omega⟩ (by omega) ls (lv_sub hl [1, 2, 3, 4, 5, 0] rfl)
  exact lp_25739 _ (-1) v_25738 0 ⟨by decide, by decide⟩ ⟨by decide, by decide⟩ (Nat.lt_succ_self _) ls (lv_sub hl [3, 4, 5, 2, 1, 0] rfl)
theorem lq_334 : ∀ w ∈ wsX70, w ∈ wsX7_next := by decide +kernel
theorem lq_335 : Cond.fieldLink RX7 36 "AskedBackModel" "lesson" "I" ∈ wsX7_next := by decide +kernel
set_option maxHeartbeats 4000000 in
set_option maxRecDepth 100000 in
theorem cg_X7_next_266 (l : Launch) (D : va_G) (F : Nat → Prop) (a0 : Nat) (a1 : Nat) (x0 : Int32) (a2 : Nat) (a3 : Nat) (a4 : Nat) (a5 : Nat) (a6 : Nat) (a7 : Nat) (a8 : Nat) (x1 : Int32) (x2 : Int32) (x3 : Int32) (x4 : Int32) (x5 : Int32) (x6 : Int32) (x7 : Int32) (a9 : Nat) (a10 : Nat) (a11 : Nat) (a12 : Nat) (a13 : Nat) (a14 : Nat) (x8 : Int32) (x9 : Int32) (x10 : Int32) (x11 : Int32) (x12 : Int32) (x13 : Int32) (k0 : ClassId) (f0 : Nat → Int32) (k1 : ClassId) (f1 : Nat → Int32) (k2 : ClassId) (f2 : Nat → Int32) (k3 : ClassId) (f3 : Nat → Int32) (hx0 : 0 ≤ x0.toInt ∧ x0.toInt ≤ 80) (hx1 : -1 ≤ x1.toInt ∧ x1.toInt ≤ 5) (hx4 : 1 ≤ x4.toInt ∧ x4.toInt ≤ 8) (hx5 : 0 ≤ x5.toInt ∧ x5.toInt ≤ 40) (hx7 : 0 ≤ x7.toInt ∧ x7.toInt ≤ 10) (hx8 : 0 ≤ x8.toInt ∧ x8.toInt ≤ 60) (hx9 : 0 ≤ x9.toInt ∧ x9.toInt ≤ 60) (hx10 : 0 ≤ x10.toInt ∧ x10.toInt ≤ 60) (hx11 : 0 ≤ x11.toInt ∧ x11.toInt ≤ 8) (hx13 : 0 ≤ x13.toInt ∧ x13.toInt ≤ 1) (hf1 : ∀ j : Nat, 0 ≤ (f1 j).toInt ∧ (f1 j).toInt ≤ 12) : ka_R l D F yX7_next wsX7_next 3 73 [.ref a0] [(a0, .inr (7, [.ref a1, .int x0, .ref a2, .ref a3, .ref a4, .ref a5, .ref a6, .ref a7, .ref a8, .int x1, .int x2, .int x3, .int x4, .int x5, .int x6, .int x7, .ref a9, .ref a10, .ref a11, .ref a12, .ref a13, .ref a14, .int x8, .int x9, .int x10, .int x11, .int x12, .int x13])), (a2, .inl (k0, 89, .inl f0)), (a8, .inl (k1, 6, .inl f1)), (a9, .inl (k2, 40, .inl f2)), (a10, .inl (k3, 40, .inl f3))] [(k0, .int), (k1, .int), (k2, .int), (k3, .int)] (fun v => ∃ x : Int32, v = some (.int x) ∧ -1 ≤ x.toInt ∧ x.toInt ≤ 31) := by
  refine ka_R_of (cc := cX7_next) (maxL := 1) (ret := (some .int)) (by decide) rfl (Nat.le_of_ble_eq_true rfl) ?_
  intro p e s m below meth c ls C hr hlk hP hK hE hN hl
  have hS : va_S (fun _ => False) s.heap s.heap [] := va_S.rf
  have C : CallFix p m c cX7_next 1 s [.ref a0].toArray wsX7_next RX7 := C
  obtain ⟨hx, hb, hml, hown, hts⟩ := id C
  have hl : lv_has ls 1 [(0, .ref a0)] := hl
  have rx0 := ka_rng x0
  have rx1 := ka_rng x1
  have rx2 := ka_rng x2
  have rx3 := ka_rng x3
  have rx4 := ka_rng x4
  have rx5 := ka_rng x5
  have rx6 := ka_rng x6
  have rx7 := ka_rng x7
  have rx8 := ka_rng x8
  have rx9 := ka_rng x9
  have rx10 := ka_rng x10
  have rx11 := ka_rng x11
  have rx12 := ka_rng x12
  have rx13 := ka_rng x13
  refine lv_aload_n hx hb dX7_next_0 rfl (lv_at hl 0 rfl) ?_
  refine ka_get C lq_334 rfl hK hP 0 rfl 9 (by decide) lq_335 rfl dX7_next_1 ?_
  refine lv_iconst (v := (-1)) hx hb dX7_next_4 (by decide) ?_
  refine lv_icmp_ne (tgt := 12) hx hb dX7_next_5 (by decide) (fun c_25771 => ?_) (fun c_25771 => ?_)
  · have c_25771 : ¬ x1.toInt = -1 := by rw [ka_eq', show ((-1 : Int32)).toInt = -1 from by decide] at c_25771; exact c_25771
    refine lv_aload_n hx hb dX7_next_12 rfl (lv_at hl 0 rfl) ?_
    refine lv_aload_n hx hb dX7_next_13 rfl (lv_at hl 0 rfl) ?_
    refine ka_RV (n := 0) C (cg_X7_lefts_260 l D F a0 a1 x0 a2 a3 a4 a5 a6 a7 a8 x1 x2 x3 x4 x5 x6 x7 a9 a10 a11 a12 a13 a14 x8 x9 x10 x11 x12 x13 k0 f0 k1 f1 k2 f2 k3 f3 ⟨by omega, by omega⟩ ⟨by omega, by omega⟩ ⟨by omega, by omega⟩ ⟨by omega, by omega⟩ ⟨by omega, by omega⟩ ⟨by omega, by omega⟩ ⟨by omega, by omega⟩ ⟨by omega, by omega⟩ ⟨by omega, by omega⟩ ⟨by omega, by omega⟩ hf1) gX7_next_X7_lefts rfl (by decide +kernel) ⟨Nat.le_of_ble_eq_true rfl, Nat.le_of_ble_eq_true rfl⟩ hK hP hS hE hN [0, 1, 2, 3, 4] rfl [0, 1, 2, 3] rfl (ci := 7) rfl rfl 0 rfl rfl hl.1 (rest := [.ref a0]) rfl (Nat.le_of_ble_eq_true rfl) dX7_next_14 ⟨Nat.le_of_ble_eq_true rfl, Nat.le_of_ble_eq_true rfl⟩ (fun v hv => ?_)
    obtain ⟨v_25772, rfl⟩ := hv
    have rv_25772 := ka_rng v_25772
    refine ka_stk (w := [.int v_25772, .ref a0]) rfl ?_
    refine lv_aload_n hx hb dX7_next_17 rfl (lv_at hl 0 rfl) ?_
    refine ka_RV (n := 0) C (cg_X7_gone_261 l D F a0 a1 x0 a2 a3 a4 a5 a6 a7 a8 x1 x2 x3 x4 x5 x6 x7 a9 a10 a11 a12 a13 a14 x8 x9 x10 x11 x12 x13 k2 f2 ⟨by omega, by omega⟩ ⟨by omega, by omega⟩ ⟨by omega, by omega⟩ ⟨by omega, by omega⟩ ⟨by omega, by omega⟩ ⟨by omega, by omega⟩ ⟨by omega, by omega⟩ ⟨by omega, by omega⟩ ⟨by omega, by omega⟩ ⟨by omega, by omega⟩) gX7_next_X7_gone rfl (by decide +kernel) ⟨Nat.le_of_ble_eq_true rfl, Nat.le_of_ble_eq_true rfl⟩ hK hP hS hE hN [0, 3] rfl [2] rfl (ci := 7) rfl rfl 0 rfl rfl hl.1 (rest := [.int v_25772, .ref a0]) rfl (Nat.le_of_ble_eq_true rfl) dX7_next_18 ⟨Nat.le_of_ble_eq_true rfl, Nat.le_of_ble_eq_true rfl⟩ (fun v hv => ?_)
    obtain ⟨v_25773, rfl⟩ := hv
    have rv_25773 := ka_rng v_25773
    refine ka_stk (w := [.int v_25773, .int v_25772, .ref a0]) rfl ?_
    refine ka_RV (n := 2) C (cg_X7_parts_265 l D F a0 v_25772 v_25773 a1 x0 a2 a3 a4 a5 a6 a7 a8 x1 x2 x3 x4 x5 x6 x7 a9 a10 a11 a12 a13 a14 x8 x9 x10 x11 x12 x13 k0 f0 k1 f1 ⟨by omega, by omega⟩ ⟨by omega, by omega⟩ ⟨by omega, by omega⟩ ⟨by omega, by omega⟩ ⟨by omega, by omega⟩ ⟨by omega, by omega⟩ ⟨by omega, by omega⟩ ⟨by omega, by omega⟩ ⟨by omega, by omega⟩ ⟨by omega, by omega⟩ hf1) gX7_next_X7_parts rfl (by decide +kernel) ⟨Nat.le_of_ble_eq_true rfl, Nat.le_of_ble_eq_true rfl⟩ hK hP hS hE hN [0, 1, 2] rfl [0, 1] rfl (ci := 7) rfl rfl 0 rfl rfl hl.1 (rest := []) rfl (Nat.le_of_ble_eq_true rfl) dX7_next_21 ⟨Nat.le_of_ble_eq_true rfl, Nat.le_of_ble_eq_true rfl⟩ (fun v hv => ?_)
    obtain ⟨v_25774, rfl, hv_25774⟩ := hv
    have rv_25774 := ka_rng v_25774
    refine ka_stk (w := [.int v_25774]) rfl ?_
    exact ka_rRi C hr hlk ⟨_, rfl, ⟨by omega, by omega⟩⟩ dX7_next_24
  · have c_25771 : x1.toInt = -1 := by rw [ka_eq', show ((-1 : Int32)).toInt = -1 from by decide] at c_25771; exact c_25771
    refine lv_iconst (v := (-1)) hx hb dX7_next_8 (by decide) ?_
    refine lv_goto (tgt := 24) hx hb dX7_next_9 (by decide) ?_
    exact ka_rRi C hr hlk ⟨_, rfl, ⟨by decide, by decide⟩⟩ dX7_next_24
set_option maxHeartbeats 4000000 in
set_option maxRecDepth 100000 in
theorem cg_X7_isIn_267 (l : Launch) (D : va_G) (F : Nat → Prop) (x0 : Int32) : ka_R l D F yX7_isIn wsX7_isIn 0 0 [.int x0, .int 0, .int 2] [] [] (fun v => ∃ x : Int32, v = some (.int x) ∧ 0 ≤ x.toInt ∧ x.toInt ≤ 1) := by
  refine ka_R_of (cc := cX7_isIn) (maxL := 3) (ret := (some .boolean)) (by decide) rfl (Nat.le_of_ble_eq_true rfl) ?_
  intro p e s m below meth c ls C hr hlk hP hK hE hN hl
  have hS : va_S (fun _ => False) s.heap s.heap [] := va_S.rf
  have C : CallFix p m c cX7_isIn 3 s [.int x0, .int 0, .int 2].toArray wsX7_isIn RX7 := C
  obtain ⟨hx, hb, hml, hown, hts⟩ := id C
  have hl : lv_has ls 3 [(0, .int x0), (1, .int 0), (2, .int 2)] := hl
  have rx0 := ka_rng x0
  refine lv_iload_n hx hb dX7_isIn_0 rfl (lv_at hl 0 rfl) ?_
  refine lv_iload_n hx hb dX7_isIn_1 rfl (lv_at hl 1 rfl) ?_
  refine lv_icmp_lt (tgt := 14) hx hb dX7_isIn_2 (by decide) (fun c_25836 => ?_) (fun c_25836 => ?_)
  · have c_25836 : x0.toInt < 0 := by rw [ka_lt', show ((0 : Int32)).toInt = 0 from by decide] at c_25836; exact c_25836
    refine lv_iconst (v := 0) hx hb dX7_isIn_14 (by decide) ?_
    exact ka_rRz C hr hlk rfl ⟨_, rfl, ⟨by decide, by decide⟩⟩ dX7_isIn_15
  · have c_25836 : ¬ x0.toInt < 0 := by rw [ka_lt', show ((0 : Int32)).toInt = 0 from by decide] at c_25836; exact c_25836
    refine lv_iload_n hx hb dX7_isIn_5 rfl (lv_at hl 0 rfl) ?_
    refine lv_iload_n hx hb dX7_isIn_6 rfl (lv_at hl 2 rfl) ?_
    refine lv_icmp_gt (tgt := 14) hx hb dX7_isIn_7 (by decide) (fun c_25837 => ?_) (fun c_25837 => ?_)
    · have c_25837 : 2 < x0.toInt := by rw [ka_lt', show ((2 : Int32)).toInt = 2 from by decide] at c_25837; exact c_25837
      refine lv_iconst (v := 0) hx hb dX7_isIn_14 (by decide) ?_
      exact ka_rRz C hr hlk rfl ⟨_, rfl, ⟨by decide, by decide⟩⟩ dX7_isIn_15
    · have c_25837 : ¬ 2 < x0.toInt := by rw [ka_lt', show ((2 : Int32)).toInt = 2 from by decide] at c_25837; exact c_25837
      refine lv_iconst (v := 1) hx hb dX7_isIn_10 (by decide) ?_
      refine lv_goto (tgt := 15) hx hb dX7_isIn_11 (by decide) ?_
      exact ka_rRz C hr hlk rfl ⟨_, rfl, ⟨by decide, by decide⟩⟩ dX7_isIn_15
theorem lq_336 : ∀ w ∈ wsX70, w ∈ wsX7_latest := by decide +kernel
theorem lq_337 : Cond.fieldLink RX7 169 "AskedBackModel" "answers" "I" ∈ wsX7_latest := by decide +kernel
theorem lq_338 : Cond.fieldLink RX7 46 "AskedBackModel" "asked" "[I" ∈ wsX7_latest := by decide +kernel
theorem lq_339 : Cond.fieldLink RX7 49 "AskedBackModel" "given" "[I" ∈ wsX7_latest := by decide +kernel
set_option maxHeartbeats 4000000 in
set_option maxRecDepth 100000 in
theorem cg_X7_latest_268 (l : Launch) (D : va_G) (F : Nat → Prop) (a0 : Nat) (x0 : Int32) (a1 : Nat) (x1 : Int32) (a2 : Nat) (a3 : Nat) (a4 : Nat) (a5 : Nat) (a6 : Nat) (a7 : Nat) (a8 : Nat) (x2 : Int32) (x3 : Int32) (x4 : Int32) (x5 : Int32) (x6 : Int32) (x7 : Int32) (x8 : Int32) (a9 : Nat) (a10 : Nat) (a11 : Nat) (a12 : Nat) (a13 : Nat) (a14 : Nat) (x9 : Int32) (x10 : Int32) (x11 : Int32) (x12 : Int32) (x13 : Int32) (x14 : Int32) (k0 : ClassId) (f0 : Nat → Int32) (k1 : ClassId) (f1 : Nat → Int32) (hx0 : 0 ≤ x0.toInt ∧ x0.toInt ≤ 31) (hx1 : 0 ≤ x1.toInt ∧ x1.toInt ≤ 80) (hx2 : 0 ≤ x2.toInt ∧ x2.toInt ≤ 5) (hx5 : 1 ≤ x5.toInt ∧ x5.toInt ≤ 8) (hx6 : 0 ≤ x6.toInt ∧ x6.toInt ≤ 40) (hx8 : 0 ≤ x8.toInt ∧ x8.toInt ≤ 10) (hx9 : 0 ≤ x9.toInt ∧ x9.toInt ≤ 60) (hx10 : 0 ≤ x10.toInt ∧ x10.toInt ≤ 60) (hx11 : 0 ≤ x11.toInt ∧ x11.toInt ≤ 60) (hx12 : 0 ≤ x12.toInt ∧ x12.toInt ≤ 8) (hx14 : 0 ≤ x14.toInt ∧ x14.toInt ≤ 1) : ka_R l D F yX7_latest wsX7_latest 0 0 [.ref a0, .int x0] [(a0, .inr (7, [.ref a1, .int x1, .ref a2, .ref a3, .ref a4, .ref a5, .ref a6, .ref a7, .ref a8, .int x2, .int x3, .int x4, .int x5, .int x6, .int x7, .int x8, .ref a9, .ref a10, .ref a11, .ref a12, .ref a13, .ref a14, .int x9, .int x10, .int x11, .int x12, .int x13, .int x14])), (a9, .inl (k0, 40, .inl f0)), (a10, .inl (k1, 40, .inl f1))] [(k0, .int), (k1, .int)] (fun v => ∃ x : Int32, v = some (.int x)) := by
  refine ka_R_of (cc := cX7_latest) (maxL := 4) (ret := (some .int)) (by decide) rfl (Nat.le_of_ble_eq_true rfl) ?_
  intro p e s m below meth c ls C hr hlk hP hK hE hN hl
  have hS : va_S (fun _ => False) s.heap s.heap [] := va_S.rf
  have C : CallFix p m c cX7_latest 4 s [.ref a0, .int x0].toArray wsX7_latest RX7 := C
  obtain ⟨hx, hb, hml, hown, hts⟩ := id C
  have hl : lv_has ls 4 [(0, .ref a0), (1, .int x0)] := hl
  have rx0 := ka_rng x0
  have rx1 := ka_rng x1
  have rx2 := ka_rng x2
  have rx3 := ka_rng x3
  have rx4 := ka_rng x4
  have rx5 := ka_rng x5
  have rx6 := ka_rng x6
  have rx7 := ka_rng x7
  have rx8 := ka_rng x8
  have rx9 := ka_rng x9
  have rx10 := ka_rng x10
  have rx11 := ka_rng x11
  have rx12 := ka_rng x12
  have rx13 := ka_rng x13
  have rx14 := ka_rng x14
  refine lv_iconst (v := (-1)) hx hb dX7_latest_0 (by decide) ?_
  refine lv_istore_n (lv' := [(2, .int (-1)), (0, .ref a0), (1, .int x0)]) hx hb dX7_latest_1 rfl hl (by decide) rfl (fun ls hl => ?_)
  refine lv_iconst (v := 0) hx hb dX7_latest_2 (by decide) ?_
  refine lv_istore_n (lv' := [(3, .int 0), (2, .int (-1)), (0, .ref a0), (1, .int x0)]) hx hb dX7_latest_3 rfl hl (by decide) rfl (fun ls hl => ?_)
  have lp_25898 : ∀ (n : Nat) (i25898_2 : Int32) (i25898_3 : Int32), (0 ≤ i25898_3.toInt ∧ i25898_3.toInt ≤ 40) → (40 - i25898_3.toInt).toNat < n → ∀ (ls : Array Slot), lv_has ls 4 [(0, .ref a0), (1, .int x0), (2, .int i25898_2), (3, .int i25898_3)] → W p l e ({ frames := 0, cells := 0, slots := 0, locals := 0 }) s m [.ref a0, .int x0].toArray below meth c s.heap [] 0 0 (MQ below (ka_QR (fun v => ∃ x : Int32, v = some (.int x))) [.ref a0, .int x0].toArray s 0 0 (fun _ => False)) (F0 m 4 ls []) := by
    intro n
    induction n with
    | zero =>
      intro i25898_2 i25898_3 hi25898_3 hm
      exact absurd hm (Nat.not_lt_zero _)
    | succ n ih_25898 =>
      intro i25898_2 i25898_3 hi25898_3 hm ls hl
      have ri25898_2 := ka_rng i25898_2
      have ri25898_3 := ka_rng i25898_3
      refine lv_iload_n hx hb dX7_latest_4 rfl (lv_at hl 3 rfl) ?_
      refine lv_aload_n hx hb dX7_latest_5 rfl (lv_at hl 0 rfl) ?_
      refine ka_get C lq_336 rfl hK hP 0 rfl 13 (by decide) lq_337 rfl dX7_latest_6 ?_
      refine lv_icmp_ge (tgt := 35) hx hb dX7_latest_9 (by decide) (fun c_25905 => ?_) (fun c_25905 => ?_)
      · have c_25905 : x6.toInt ≤ i25898_3.toInt := by rw [ka_le'] at c_25905; exact c_25905
        refine lv_iload_n hx hb dX7_latest_35 rfl (lv_at hl 2 rfl) ?_
        exact ka_rRi C hr hlk ⟨_, rfl⟩ dX7_latest_36
      · have c_25905 : ¬ x6.toInt ≤ i25898_3.toInt := by rw [ka_le'] at c_25905; exact c_25905
        refine lv_aload_n hx hb dX7_latest_12 rfl (lv_at hl 0 rfl) ?_
        refine ka_get C lq_336 rfl hK hP 0 rfl 16 (by decide) lq_338 rfl dX7_latest_13 ?_
        refine lv_iload_n hx hb dX7_latest_16 rfl (lv_at hl 3 rfl) ?_
        refine va_iald hx hb hK hP 1 0 rfl rfl (ka_in (by omega) (by omega)) dX7_latest_17 ?_
        refine lv_topi (fun v_25906 ev_25906 => ?_)
        refine lv_iload_n hx hb dX7_latest_18 rfl (lv_at hl 1 rfl) ?_
        refine lv_icmp_ne (tgt := 29) hx hb dX7_latest_19 (by decide) (fun c_25907 => ?_) (fun c_25907 => ?_)
        · have c_25907 : ¬ v_25906.toInt = x0.toInt := by rw [ka_eq'] at c_25907; exact c_25907
          obtain ⟨v_25908, ev_25908⟩ : ∃ y : Int32, y = i25898_3 + 1 := ⟨_, rfl⟩
          refine lv_iinc (v := v_25908) (lv' := [(3, .int v_25908), (0, .ref a0), (1, .int x0), (2, .int i25898_2)]) hx hb dX7_latest_29 hl (k := 3) rfl (by rw [ev_25908]; rfl) (by decide) rfl (fun ls hl => ?_)
          have fv_25908 : v_25908.toInt = i25898_3.toInt + 1 := by rw [ev_25908]; exact ka_add (x := i25898_3.toInt) (y := 1) rfl (by decide) (by omega) (by omega)
          refine lv_goto (tgt := 4) hx hb dX7_latest_32 (by decide) ?_
          exact ih_25898 i25898_2 v_25908 ⟨by omega, by omega⟩ (by omega) ls (lv_sub hl [1, 2, 3, 0] rfl)
        · have c_25907 : v_25906.toInt = x0.toInt := by rw [ka_eq'] at c_25907; exact c_25907
          refine lv_aload_n hx hb dX7_latest_22 rfl (lv_at hl 0 rfl) ?_
          refine ka_get C lq_336 rfl hK hP 0 rfl 17 (by decide) lq_339 rfl dX7_latest_23 ?_
          refine lv_iload_n hx hb dX7_latest_26 rfl (lv_at hl 3 rfl) ?_
          refine va_iald hx hb hK hP 2 1 rfl rfl (ka_in (by omega) (by omega)) dX7_latest_27 ?_
          refine lv_topi (fun v_25909 ev_25909 => ?_)
          refine lv_istore_n (lv' := [(2, .int v_25909), (0, .ref a0), (1, .int x0), (3, .int i25898_3)]) hx hb dX7_latest_28 rfl hl (by decide) rfl (fun ls hl => ?_)
          obtain ⟨v_25910, ev_25910⟩ : ∃ y : Int32, y = i25898_3 + 1 := ⟨_, rfl⟩
          refine lv_iinc (v := v_25910) (lv' := [(3, .int v_25910), (2, .int v_25909), (0, .ref a0), (1, .int x0)]) hx hb dX7_latest_29 hl (k := 3) rfl (by rw [ev_25910]; rfl) (by decide) rfl (fun ls hl => ?_)
          have fv_25910 : v_25910.toInt = i25898_3.toInt + 1 := by rw [ev_25910]; exact ka_add (x := i25898_3.toInt) (y := 1) rfl (by decide) (by omega) (by omega)
          refine lv_goto (tgt := 4) hx hb dX7_latest_32 (by decide) ?_
          exact ih_25898 v_25909 v_25910 ⟨by omega, by omega⟩ (by omega) ls (lv_sub hl [2, 3, 1, 0] rfl)
  exact lp_25898 _ (-1) 0 ⟨by decide, by decide⟩ (Nat.lt_succ_self _) ls (lv_sub hl [2, 3, 1, 0] rfl)
set_option maxHeartbeats 4000000 in
set_option maxRecDepth 100000 in
theorem cg_X7_tellsOf_269 (l : Launch) (D : va_G) (F : Nat → Prop) (a0 : Nat) (x0 : Int32) (x1 : Int32) (a1 : Nat) (x2 : Int32) (a2 : Nat) (a3 : Nat) (a4 : Nat) (a5 : Nat) (a6 : Nat) (a7 : Nat) (a8 : Nat) (x3 : Int32) (x4 : Int32) (x5 : Int32) (x6 : Int32) (x7 : Int32) (x8 : Int32) (x9 : Int32) (a9 : Nat) (a10 : Nat) (a11 : Nat) (a12 : Nat) (a13 : Nat) (a14 : Nat) (x10 : Int32) (x11 : Int32) (x12 : Int32) (x13 : Int32) (x14 : Int32) (x15 : Int32) (k0 : ClassId) (f0 : Nat → Int32) (hx0 : 78 ≤ x0.toInt ∧ x0.toInt ≤ 87) (hx1 : 0 ≤ x1.toInt ∧ x1.toInt ≤ 31) (hx2 : 0 ≤ x2.toInt ∧ x2.toInt ≤ 80) (hx3 : 0 ≤ x3.toInt ∧ x3.toInt ≤ 5) (hx6 : 1 ≤ x6.toInt ∧ x6.toInt ≤ 8) (hx7 : 0 ≤ x7.toInt ∧ x7.toInt ≤ 40) (hx9 : 0 ≤ x9.toInt ∧ x9.toInt ≤ 10) (hx10 : 0 ≤ x10.toInt ∧ x10.toInt ≤ 60) (hx11 : 0 ≤ x11.toInt ∧ x11.toInt ≤ 60) (hx12 : 0 ≤ x12.toInt ∧ x12.toInt ≤ 60) (hx13 : 0 ≤ x13.toInt ∧ x13.toInt ≤ 8) (hx15 : 0 ≤ x15.toInt ∧ x15.toInt ≤ 1) : ka_R l D F yX7_tellsOf wsX7_tellsOf 0 0 [.ref a0, .int x0, .int x1] [(a0, .inr (7, [.ref a1, .int x2, .ref a2, .ref a3, .ref a4, .ref a5, .ref a6, .ref a7, .ref a8, .int x3, .int x4, .int x5, .int x6, .int x7, .int x8, .int x9, .ref a9, .ref a10, .ref a11, .ref a12, .ref a13, .ref a14, .int x10, .int x11, .int x12, .int x13, .int x14, .int x15])), (a2, .inl (k0, 89, .inl f0))] [(k0, .int)] (fun v => ∃ x : Int32, v = some (.int x)) := by
  refine ka_R_of (cc := cX7_tellsOf) (maxL := 3) (ret := (some .int)) (by decide) rfl (Nat.le_of_ble_eq_true rfl) ?_
  intro p e s m below meth c ls C hr hlk hP hK hE hN hl
  have hS : va_S (fun _ => False) s.heap s.heap [] := va_S.rf
  have C : CallFix p m c cX7_tellsOf 3 s [.ref a0, .int x0, .int x1].toArray wsX7_tellsOf RX7 := C
  obtain ⟨hx, hb, hml, hown, hts⟩ := id C
  have hl : lv_has ls 3 [(0, .ref a0), (1, .int x0), (2, .int x1)] := hl
  have rx0 := ka_rng x0
  have rx1 := ka_rng x1
  have rx2 := ka_rng x2
  have rx3 := ka_rng x3
  have rx4 := ka_rng x4
  have rx5 := ka_rng x5
  have rx6 := ka_rng x6
  have rx7 := ka_rng x7
  have rx8 := ka_rng x8
  have rx9 := ka_rng x9
  have rx10 := ka_rng x10
  have rx11 := ka_rng x11
  have rx12 := ka_rng x12
  have rx13 := ka_rng x13
  have rx14 := ka_rng x14
  have rx15 := ka_rng x15
  refine lv_aload_n hx hb dX7_tellsOf_0 rfl (lv_at hl 0 rfl) ?_
  refine ka_get C lq_283 rfl hK hP 0 rfl 2 (by decide) lq_284 rfl dX7_tellsOf_1 ?_
  refine lv_iload_n hx hb dX7_tellsOf_4 rfl (lv_at hl 1 rfl) ?_
  refine va_iald hx hb hK hP 1 0 rfl rfl (ka_in (by omega) (by omega)) dX7_tellsOf_5 ?_
  refine lv_topi (fun v_25952 ev_25952 => ?_)
  refine lv_iload_n hx hb dX7_tellsOf_6 rfl (lv_at hl 2 rfl) ?_
  refine lv_ishr hx hb dX7_tellsOf_7 ?_
  refine lv_topi (fun v_25953 ev_25953 => ?_)
  refine lv_iconst (v := 1) hx hb dX7_tellsOf_8 (by decide) ?_
  refine lv_iand hx hb dX7_tellsOf_9 ?_
  refine lv_topi (fun v_25954 ev_25954 => ?_)
  exact ka_rRi C hr hlk ⟨_, rfl⟩ dX7_tellsOf_10
set_option maxHeartbeats 4000000 in
set_option maxRecDepth 100000 in
theorem cg_X7_tellsOf_270 (l : Launch) (D : va_G) (F : Nat → Prop) (a0 : Nat) (x0 : Int32) (x1 : Int32) (a1 : Nat) (x2 : Int32) (a2 : Nat) (a3 : Nat) (a4 : Nat) (a5 : Nat) (a6 : Nat) (a7 : Nat) (a8 : Nat) (x3 : Int32) (x4 : Int32) (x5 : Int32) (x6 : Int32) (x7 : Int32) (x8 : Int32) (x9 : Int32) (a9 : Nat) (a10 : Nat) (a11 : Nat) (a12 : Nat) (a13 : Nat) (a14 : Nat) (x10 : Int32) (x11 : Int32) (x12 : Int32) (x13 : Int32) (x14 : Int32) (x15 : Int32) (k0 : ClassId) (f0 : Nat → Int32) (hx0 : 79 ≤ x0.toInt ∧ x0.toInt ≤ 87) (hx1 : 0 ≤ x1.toInt ∧ x1.toInt ≤ 31) (hx2 : 0 ≤ x2.toInt ∧ x2.toInt ≤ 80) (hx3 : 0 ≤ x3.toInt ∧ x3.toInt ≤ 5) (hx6 : 1 ≤ x6.toInt ∧ x6.toInt ≤ 8) (hx7 : 0 ≤ x7.toInt ∧ x7.toInt ≤ 40) (hx9 : 0 ≤ x9.toInt ∧ x9.toInt ≤ 10) (hx10 : 0 ≤ x10.toInt ∧ x10.toInt ≤ 60) (hx11 : 0 ≤ x11.toInt ∧ x11.toInt ≤ 60) (hx12 : 0 ≤ x12.toInt ∧ x12.toInt ≤ 60) (hx13 : 0 ≤ x13.toInt ∧ x13.toInt ≤ 8) (hx15 : 0 ≤ x15.toInt ∧ x15.toInt ≤ 1) : ka_R l D F yX7_tellsOf wsX7_tellsOf 0 0 [.ref a0, .int x0, .int x1] [(a0, .inr (7, [.ref a1, .int x2, .ref a2, .ref a3, .ref a4, .ref a5, .ref a6, .ref a7, .ref a8, .int x3, .int x4, .int x5, .int x6, .int x7, .int x8, .int x9, .ref a9, .ref a10, .ref a11, .ref a12, .ref a13, .ref a14, .int x10, .int x11, .int x12, .int x13, .int x14, .int x15])), (a2, .inl (k0, 89, .inl f0))] [(k0, .int)] (fun v => ∃ x : Int32, v = some (.int x)) := by
  refine ka_R_of (cc := cX7_tellsOf) (maxL := 3) (ret := (some .int)) (by decide) rfl (Nat.le_of_ble_eq_true rfl) ?_
  intro p e s m below meth c ls C hr hlk hP hK hE hN hl
  have hS : va_S (fun _ => False) s.heap s.heap [] := va_S.rf
  have C : CallFix p m c cX7_tellsOf 3 s [.ref a0, .int x0, .int x1].toArray wsX7_tellsOf RX7 := C
  obtain ⟨hx, hb, hml, hown, hts⟩ := id C
  have hl : lv_has ls 3 [(0, .ref a0), (1, .int x0), (2, .int x1)] := hl
  have rx0 := ka_rng x0
  have rx1 := ka_rng x1
  have rx2 := ka_rng x2
  have rx3 := ka_rng x3
  have rx4 := ka_rng x4
  have rx5 := ka_rng x5
  have rx6 := ka_rng x6
  have rx7 := ka_rng x7
  have rx8 := ka_rng x8
  have rx9 := ka_rng x9
  have rx10 := ka_rng x10
  have rx11 := ka_rng x11
  have rx12 := ka_rng x12
  have rx13 := ka_rng x13
  have rx14 := ka_rng x14
  have rx15 := ka_rng x15
  refine lv_aload_n hx hb dX7_tellsOf_0 rfl (lv_at hl 0 rfl) ?_
  refine ka_get C lq_283 rfl hK hP 0 rfl 2 (by decide) lq_284 rfl dX7_tellsOf_1 ?_
  refine lv_iload_n hx hb dX7_tellsOf_4 rfl (lv_at hl 1 rfl) ?_
  refine va_iald hx hb hK hP 1 0 rfl rfl (ka_in (by omega) (by omega)) dX7_tellsOf_5 ?_
  refine lv_topi (fun v_26037 ev_26037 => ?_)
  refine lv_iload_n hx hb dX7_tellsOf_6 rfl (lv_at hl 2 rfl) ?_
  refine lv_ishr hx hb dX7_tellsOf_7 ?_
  refine lv_topi (fun v_26038 ev_26038 => ?_)
  refine lv_iconst (v := 1) hx hb dX7_tellsOf_8 (by decide) ?_
  refine lv_iand hx hb dX7_tellsOf_9 ?_
  refine lv_topi (fun v_26039 ev_26039 => ?_)
  exact ka_rRi C hr hlk ⟨_, rfl⟩ dX7_tellsOf_10
theorem lq_340 : ∀ w ∈ wsX70, w ∈ wsX7_clash := by decide +kernel
theorem lq_341 : Cond.fieldLink RX7 36 "AskedBackModel" "lesson" "I" ∈ wsX7_clash := by decide +kernel
theorem lq_342 : Cond.fieldLink RX7 175 "AskedBackModel" "said" "I" ∈ wsX7_clash := by decide +kernel
set_option maxHeartbeats 4000000 in
set_option maxRecDepth 100000 in
theorem cg_X7_clash_271 (l : Launch) (D : va_G) (F : Nat → Prop) (a0 : Nat) (x0 : Int32) (a1 : Nat) (x1 : Int32) (a2 : Nat) (a3 : Nat) (a4 : Nat) (a5 : Nat) (a6 : Nat) (a7 : Nat) (a8 : Nat) (x2 : Int32) (x3 : Int32) (x4 : Int32) (x5 : Int32) (x6 : Int32) (x7 : Int32) (x8 : Int32) (a9 : Nat) (a10 : Nat) (a11 : Nat) (a12 : Nat) (a13 : Nat) (a14 : Nat) (x9 : Int32) (x10 : Int32) (x11 : Int32) (x12 : Int32) (x13 : Int32) (x14 : Int32) (k0 : ClassId) (f0 : Nat → Int32) (k1 : ClassId) (f1 : Nat → Int32) (k2 : ClassId) (f2 : Nat → Int32) (hx1 : 0 ≤ x1.toInt ∧ x1.toInt ≤ 80) (hx2 : -1 ≤ x2.toInt ∧ x2.toInt ≤ 5) (hx5 : 1 ≤ x5.toInt ∧ x5.toInt ≤ 8) (hx6 : 0 ≤ x6.toInt ∧ x6.toInt ≤ 40) (hx8 : 0 ≤ x8.toInt ∧ x8.toInt ≤ 10) (hx9 : 0 ≤ x9.toInt ∧ x9.toInt ≤ 60) (hx10 : 0 ≤ x10.toInt ∧ x10.toInt ≤ 60) (hx11 : 0 ≤ x11.toInt ∧ x11.toInt ≤ 60) (hx12 : 0 ≤ x12.toInt ∧ x12.toInt ≤ 8) (hx14 : 0 ≤ x14.toInt ∧ x14.toInt ≤ 1) : ka_R l D F yX7_clash wsX7_clash 1 23 [.ref a0, .int x0] [(a0, .inr (7, [.ref a1, .int x1, .ref a2, .ref a3, .ref a4, .ref a5, .ref a6, .ref a7, .ref a8, .int x2, .int x3, .int x4, .int x5, .int x6, .int x7, .int x8, .ref a9, .ref a10, .ref a11, .ref a12, .ref a13, .ref a14, .int x9, .int x10, .int x11, .int x12, .int x13, .int x14])), (a2, .inl (k0, 89, .inl f0)), (a9, .inl (k1, 40, .inl f1)), (a10, .inl (k2, 40, .inl f2))] [(k0, .int), (k1, .int), (k2, .int)] (fun v => ∃ x : Int32, v = some (.int x) ∧ -1 ≤ x.toInt ∧ x.toInt ≤ 31) := by
  refine ka_R_of (cc := cX7_clash) (maxL := 5) (ret := (some .int)) (by decide) rfl (Nat.le_of_ble_eq_true rfl) ?_
  intro p e s m below meth c ls C hr hlk hP hK hE hN hl
  have hS : va_S (fun _ => False) s.heap s.heap [] := va_S.rf
  have C : CallFix p m c cX7_clash 5 s [.ref a0, .int x0].toArray wsX7_clash RX7 := C
  obtain ⟨hx, hb, hml, hown, hts⟩ := id C
  have hl : lv_has ls 5 [(0, .ref a0), (1, .int x0)] := hl
  have rx0 := ka_rng x0
  have rx1 := ka_rng x1
  have rx2 := ka_rng x2
  have rx3 := ka_rng x3
  have rx4 := ka_rng x4
  have rx5 := ka_rng x5
  have rx6 := ka_rng x6
  have rx7 := ka_rng x7
  have rx8 := ka_rng x8
  have rx9 := ka_rng x9
  have rx10 := ka_rng x10
  have rx11 := ka_rng x11
  have rx12 := ka_rng x12
  have rx13 := ka_rng x13
  have rx14 := ka_rng x14
  refine lv_aload_n hx hb dX7_clash_0 rfl (lv_at hl 0 rfl) ?_
  refine ka_get C lq_340 rfl hK hP 0 rfl 9 (by decide) lq_341 rfl dX7_clash_1 ?_
  refine lv_iconst (v := (-1)) hx hb dX7_clash_4 (by decide) ?_
  refine lv_icmp_eq (tgt := 17) hx hb dX7_clash_5 (by decide) (fun c_26374 => ?_) (fun c_26374 => ?_)
  · have c_26374 : x2.toInt = -1 := by rw [ka_eq', show ((-1 : Int32)).toInt = -1 from by decide] at c_26374; exact c_26374
    refine lv_iconst (v := (-1)) hx hb dX7_clash_17 (by decide) ?_
    exact ka_rRi C hr hlk ⟨_, rfl, ⟨by decide, by decide⟩⟩ dX7_clash_18
  · have c_26374 : ¬ x2.toInt = -1 := by rw [ka_eq', show ((-1 : Int32)).toInt = -1 from by decide] at c_26374; exact c_26374
    refine lv_iload_n hx hb dX7_clash_8 rfl (lv_at hl 1 rfl) ?_
    refine lv_iconst (v := 0) hx hb dX7_clash_9 (by decide) ?_
    refine lv_iconst (v := 2) hx hb dX7_clash_10 (by decide) ?_
    refine ka_RS (n := 3) C (cg_X7_isIn_267 l D F x0) gX7_clash_X7_isIn rfl (by decide +kernel) ⟨Nat.le_of_ble_eq_true rfl, Nat.le_of_ble_eq_true rfl⟩ hK hP hS hE hN [] rfl [] rfl rfl hl.1 (rest := []) rfl (Nat.le_of_ble_eq_true rfl) dX7_clash_11 ⟨Nat.le_of_ble_eq_true rfl, Nat.le_of_ble_eq_true rfl⟩ (fun v hv => ?_)
    obtain ⟨v_26375, rfl, hv_26375⟩ := hv
    have rv_26375 := ka_rng v_26375
    refine ka_stk (w := [.int v_26375]) rfl ?_
    refine lv_if_ne (tgt := 19) hx hb dX7_clash_14 (by decide) (fun c_26376 => ?_) (fun c_26376 => ?_)
    · have c_26376 : ¬ v_26375.toInt = 0 := by rw [ka_eq', show ((0 : Int32)).toInt = 0 from by decide] at c_26376; exact c_26376
      refine lv_iconst (v := 0) hx hb dX7_clash_19 (by decide) ?_
      refine lv_istore_n (lv' := [(2, .int 0), (0, .ref a0), (1, .int x0)]) hx hb dX7_clash_20 rfl hl (by decide) rfl (fun ls hl => ?_)
      have lp_26377 : ∀ (n : Nat) (i26377_2 : Int32), (0 ≤ i26377_2.toInt ∧ i26377_2.toInt ≤ 32) → (32 - i26377_2.toInt).toNat < n → ∀ (ls : Array Slot), lv_has ls 5 [(0, .ref a0), (1, .int x0), (2, .int i26377_2)] → W p l e ({ frames := 1, cells := 0, slots := 0, locals := 23 }) s m [.ref a0, .int x0].toArray below meth c s.heap [] 0 0 (MQ below (ka_QR (fun v => ∃ x : Int32, v = some (.int x) ∧ -1 ≤ x.toInt ∧ x.toInt ≤ 31)) [.ref a0, .int x0].toArray s 0 0 (fun _ => False)) (F0 m 21 ls []) := by
        intro n
        induction n with
        | zero =>
          intro i26377_2 hi26377_2 hm
          exact absurd hm (Nat.not_lt_zero _)
        | succ n ih_26377 =>
          intro i26377_2 hi26377_2 hm ls hl
          have ri26377_2 := ka_rng i26377_2
          refine lv_iload_n hx hb dX7_clash_21 rfl (lv_at hl 2 rfl) ?_
          refine lv_bipush (v := 32) hx hb dX7_clash_22 (by decide) ?_
          refine lv_icmp_ge (tgt := 111) hx hb dX7_clash_24 (by decide) (fun c_26475 => ?_) (fun c_26475 => ?_)
          · have c_26475 : 32 ≤ i26377_2.toInt := by rw [ka_le', show ((32 : Int32)).toInt = 32 from by decide] at c_26475; exact c_26475
            refine lv_iconst (v := 0) hx hb dX7_clash_111 (by decide) ?_
            refine lv_istore_n (lv' := [(2, .int 0), (0, .ref a0), (1, .int x0)]) hx hb dX7_clash_112 rfl hl (by decide) rfl (fun ls hl => ?_)
            have lp_26476 : ∀ (n : Nat) (i26476_2 : Int32), (0 ≤ i26476_2.toInt ∧ i26476_2.toInt ≤ 32) → (32 - i26476_2.toInt).toNat < n → ∀ (ls : Array Slot), lv_has ls 5 [(0, .ref a0), (1, .int x0), (2, .int i26476_2)] → W p l e ({ frames := 1, cells := 0, slots := 0, locals := 23 }) s m [.ref a0, .int x0].toArray below meth c s.heap [] 0 0 (MQ below (ka_QR (fun v => ∃ x : Int32, v = some (.int x) ∧ -1 ≤ x.toInt ∧ x.toInt ≤ 31)) [.ref a0, .int x0].toArray s 0 0 (fun _ => False)) (F0 m 113 ls []) := by
              intro n
              induction n with
              | zero =>
                intro i26476_2 hi26476_2 hm
                exact absurd hm (Nat.not_lt_zero _)
              | succ n ih_26476 =>
                intro i26476_2 hi26476_2 hm ls hl
                have ri26476_2 := ka_rng i26476_2
                refine lv_iload_n hx hb dX7_clash_113 rfl (lv_at hl 2 rfl) ?_
                refine lv_bipush (v := 32) hx hb dX7_clash_114 (by decide) ?_
                refine lv_icmp_ge (tgt := 188) hx hb dX7_clash_116 (by decide) (fun c_26500 => ?_) (fun c_26500 => ?_)
                · have c_26500 : 32 ≤ i26476_2.toInt := by rw [ka_le', show ((32 : Int32)).toInt = 32 from by decide] at c_26500; exact c_26500
                  refine lv_iconst (v := (-1)) hx hb dX7_clash_188 (by decide) ?_
                  exact ka_rRi C hr hlk ⟨_, rfl, ⟨by decide, by decide⟩⟩ dX7_clash_189
                · have c_26500 : ¬ 32 ≤ i26476_2.toInt := by rw [ka_le', show ((32 : Int32)).toInt = 32 from by decide] at c_26500; exact c_26500
                  refine lv_aload_n hx hb dX7_clash_119 rfl (lv_at hl 0 rfl) ?_
                  refine lv_iload_n hx hb dX7_clash_120 rfl (lv_at hl 2 rfl) ?_
                  refine ka_RV (n := 1) C (cg_X7_latest_268 l D F a0 i26476_2 a1 x1 a2 a3 a4 a5 a6 a7 a8 x2 x3 x4 x5 x6 x7 x8 a9 a10 a11 a12 a13 a14 x9 x10 x11 x12 x13 x14 k1 f1 k2 f2 ⟨by omega, by omega⟩ ⟨by omega, by omega⟩ ⟨by omega, by omega⟩ ⟨by omega, by omega⟩ ⟨by omega, by omega⟩ ⟨by omega, by omega⟩ ⟨by omega, by omega⟩ ⟨by omega, by omega⟩ ⟨by omega, by omega⟩ ⟨by omega, by omega⟩ ⟨by omega, by omega⟩) gX7_clash_X7_latest rfl (by decide +kernel) ⟨Nat.le_of_ble_eq_true rfl, Nat.le_of_ble_eq_true rfl⟩ hK hP hS hE hN [0, 2, 3] rfl [1, 2] rfl (ci := 7) rfl rfl 0 rfl rfl hl.1 (rest := []) rfl (Nat.le_of_ble_eq_true rfl) dX7_clash_121 ⟨Nat.le_of_ble_eq_true rfl, Nat.le_of_ble_eq_true rfl⟩ (fun v hv => ?_)
                  obtain ⟨v_26501, rfl⟩ := hv
                  have rv_26501 := ka_rng v_26501
                  refine ka_stk (w := [.int v_26501]) rfl ?_
                  refine lv_istore_n (lv' := [(3, .int v_26501), (0, .ref a0), (1, .int x0), (2, .int i26476_2)]) hx hb dX7_clash_124 rfl hl (by decide) rfl (fun ls hl => ?_)
                  refine lv_iconst (v := 0) hx hb dX7_clash_125 (by decide) ?_
                  refine lv_istore (lv' := [(4, .int 0), (3, .int v_26501), (0, .ref a0), (1, .int x0), (2, .int i26476_2)]) hx hb dX7_clash_126 hl (by decide) rfl (fun ls hl => ?_)
                  have lp_26502 : ∀ (n : Nat) (i26502_4 : Int32), (0 ≤ i26502_4.toInt ∧ i26502_4.toInt ≤ 10) → (10 - i26502_4.toInt).toNat < n → ∀ (ls : Array Slot), lv_has ls 5 [(0, .ref a0), (1, .int x0), (2, .int i26476_2), (3, .int v_26501), (4, .int i26502_4)] → W p l e ({ frames := 1, cells := 0, slots := 0, locals := 23 }) s m [.ref a0, .int x0].toArray below meth c s.heap [] 0 0 (MQ below (ka_QR (fun v => ∃ x : Int32, v = some (.int x) ∧ -1 ≤ x.toInt ∧ x.toInt ≤ 31)) [.ref a0, .int x0].toArray s 0 0 (fun _ => False)) (F0 m 128 ls []) := by
                    intro n
                    induction n with
                    | zero =>
                      intro i26502_4 hi26502_4 hm
                      exact absurd hm (Nat.not_lt_zero _)
                    | succ n ih_26502 =>
                      intro i26502_4 hi26502_4 hm ls hl
                      have ri26502_4 := ka_rng i26502_4
                      refine lv_iload hx hb dX7_clash_128 (lv_at hl 4 rfl) ?_
                      refine lv_aload_n hx hb dX7_clash_130 rfl (lv_at hl 0 rfl) ?_
                      refine ka_get C lq_340 rfl hK hP 0 rfl 15 (by decide) lq_342 rfl dX7_clash_131 ?_
                      refine lv_icmp_ge (tgt := 182) hx hb dX7_clash_134 (by decide) (fun c_26513 => ?_) (fun c_26513 => ?_)
                      · have c_26513 : x8.toInt ≤ i26502_4.toInt := by rw [ka_le'] at c_26513; exact c_26513
                        obtain ⟨v_26514, ev_26514⟩ : ∃ y : Int32, y = i26476_2 + 1 := ⟨_, rfl⟩
                        refine lv_iinc (v := v_26514) (lv' := [(2, .int v_26514), (0, .ref a0), (1, .int x0), (3, .int v_26501), (4, .int i26502_4)]) hx hb dX7_clash_182 hl (k := 2) rfl (by rw [ev_26514]; rfl) (by decide) rfl (fun ls hl => ?_)
                        have fv_26514 : v_26514.toInt = i26476_2.toInt + 1 := by rw [ev_26514]; exact ka_add (x := i26476_2.toInt) (y := 1) rfl (by decide) (by omega) (by omega)
                        refine lv_goto (tgt := 113) hx hb dX7_clash_185 (by decide) ?_
                        exact ih_26476 v_26514 ⟨by omega, by omega⟩ (by omega) ls (lv_sub hl [1, 2, 0] rfl)
                      · have c_26513 : ¬ x8.toInt ≤ i26502_4.toInt := by rw [ka_le'] at c_26513; exact c_26513
                        refine lv_iload_n hx hb dX7_clash_137 rfl (lv_at hl 3 rfl) ?_
                        refine lv_iconst (v := (-1)) hx hb dX7_clash_138 (by decide) ?_
                        refine lv_icmp_eq (tgt := 182) hx hb dX7_clash_139 (by decide) (fun c_26515 => ?_) (fun c_26515 => ?_)
                        · have c_26515 : v_26501.toInt = -1 := by rw [ka_eq', show ((-1 : Int32)).toInt = -1 from by decide] at c_26515; exact c_26515
                          obtain ⟨v_26516, ev_26516⟩ : ∃ y : Int32, y = i26476_2 + 1 := ⟨_, rfl⟩
                          refine lv_iinc (v := v_26516) (lv' := [(2, .int v_26516), (0, .ref a0), (1, .int x0), (3, .int v_26501), (4, .int i26502_4)]) hx hb dX7_clash_182 hl (k := 2) rfl (by rw [ev_26516]; rfl) (by decide) rfl (fun ls hl => ?_)
                          have fv_26516 : v_26516.toInt = i26476_2.toInt + 1 := by rw [ev_26516]; exact ka_add (x := i26476_2.toInt) (y := 1) rfl (by decide) (by omega) (by omega)
                          refine lv_goto (tgt := 113) hx hb dX7_clash_185 (by decide) ?_
                          exact ih_26476 v_26516 ⟨by omega, by omega⟩ (by omega) ls (lv_sub hl [1, 2, 0] rfl)
                        · have c_26515 : ¬ v_26501.toInt = -1 := by rw [ka_eq', show ((-1 : Int32)).toInt = -1 from by decide] at c_26515; exact c_26515
                          refine lv_aload_n hx hb dX7_clash_142 rfl (lv_at hl 0 rfl) ?_
                          refine lv_bipush (v := 78) hx hb dX7_clash_143 (by decide) ?_
                          refine lv_iload hx hb dX7_clash_145 (lv_at hl 4 rfl) ?_
                          refine lv_iadd hx hb dX7_clash_147 ?_
                          refine lv_topi (fun v_26517 ev_26517 => ?_)
                          have fv_26517 : v_26517.toInt = 78 + i26502_4.toInt := by rw [ev_26517]; exact ka_add (x := 78) (y := i26502_4.toInt) (by decide) rfl (by omega) (by omega)
                          refine lv_iload_n hx hb dX7_clash_148 rfl (lv_at hl 2 rfl) ?_
                          refine ka_RV (n := 2) C (cg_X7_tellsOf_269 l D F a0 v_26517 i26476_2 a1 x1 a2 a3 a4 a5 a6 a7 a8 x2 x3 x4 x5 x6 x7 x8 a9 a10 a11 a12 a13 a14 x9 x10 x11 x12 x13 x14 k0 f0 ⟨by omega, by omega⟩ ⟨by omega, by omega⟩ ⟨by omega, by omega⟩ ⟨by omega, by omega⟩ ⟨by omega, by omega⟩ ⟨by omega, by omega⟩ ⟨by omega, by omega⟩ ⟨by omega, by omega⟩ ⟨by omega, by omega⟩ ⟨by omega, by omega⟩ ⟨by omega, by omega⟩ ⟨by omega, by omega⟩) gX7_clash_X7_tellsOf rfl (by decide +kernel) ⟨Nat.le_of_ble_eq_true rfl, Nat.le_of_ble_eq_true rfl⟩ hK hP hS hE hN [0, 1] rfl [0] rfl (ci := 7) rfl rfl 0 rfl rfl hl.1 (rest := []) rfl (Nat.le_of_ble_eq_true rfl) dX7_clash_149 ⟨Nat.le_of_ble_eq_true rfl, Nat.le_of_ble_eq_true rfl⟩ (fun v hv => ?_)
                          obtain ⟨v_26518, rfl⟩ := hv
                          have rv_26518 := ka_rng v_26518
                          refine ka_stk (w := [.int v_26518]) rfl ?_
                          refine lv_iload_n hx hb dX7_clash_152 rfl (lv_at hl 3 rfl) ?_
                          refine lv_icmp_eq (tgt := 176) hx hb dX7_clash_153 (by decide) (fun c_26519 => ?_) (fun c_26519 => ?_)
                          · have c_26519 : v_26518.toInt = v_26501.toInt := by rw [ka_eq'] at c_26519; exact c_26519
                            obtain ⟨v_26520, ev_26520⟩ : ∃ y : Int32, y = i26502_4 + 1 := ⟨_, rfl⟩
                            refine lv_iinc (v := v_26520) (lv' := [(4, .int v_26520), (0, .ref a0), (1, .int x0), (2, .int i26476_2), (3, .int v_26501)]) hx hb dX7_clash_176 hl (k := 4) rfl (by rw [ev_26520]; rfl) (by decide) rfl (fun ls hl => ?_)
                            have fv_26520 : v_26520.toInt = i26502_4.toInt + 1 := by rw [ev_26520]; exact ka_add (x := i26502_4.toInt) (y := 1) rfl (by decide) (by omega) (by omega)
                            refine lv_goto (tgt := 128) hx hb dX7_clash_179 (by decide) ?_
                            exact ih_26502 v_26520 ⟨by omega, by omega⟩ (by omega) ls (lv_sub hl [1, 2, 3, 4, 0] rfl)
                          · have c_26519 : ¬ v_26518.toInt = v_26501.toInt := by rw [ka_eq'] at c_26519; exact c_26519
                            refine lv_iload_n hx hb dX7_clash_156 rfl (lv_at hl 1 rfl) ?_
                            refine lv_if_ne (tgt := 164) hx hb dX7_clash_157 (by decide) (fun c_26521 => ?_) (fun c_26521 => ?_)
                            · have c_26521 : ¬ x0.toInt = 0 := by rw [ka_eq', show ((0 : Int32)).toInt = 0 from by decide] at c_26521; exact c_26521
                              refine lv_iload_n hx hb dX7_clash_164 rfl (lv_at hl 1 rfl) ?_
                              refine lv_iconst (v := 1) hx hb dX7_clash_165 (by decide) ?_
                              refine lv_icmp_ne (tgt := 174) hx hb dX7_clash_166 (by decide) (fun c_26522 => ?_) (fun c_26522 => ?_)
                              · have c_26522 : ¬ x0.toInt = 1 := by rw [ka_eq', show ((1 : Int32)).toInt = 1 from by decide] at c_26522; exact c_26522
                                refine lv_iconst (v := (-1)) hx hb dX7_clash_174 (by decide) ?_
                                exact ka_rRi C hr hlk ⟨_, rfl, ⟨by decide, by decide⟩⟩ dX7_clash_175
                              · have c_26522 : x0.toInt = 1 := by rw [ka_eq', show ((1 : Int32)).toInt = 1 from by decide] at c_26522; exact c_26522
                                refine lv_iload hx hb dX7_clash_169 (lv_at hl 4 rfl) ?_
                                refine lv_goto (tgt := 175) hx hb dX7_clash_171 (by decide) ?_
                                exact ka_rRi C hr hlk ⟨_, rfl, ⟨by omega, by omega⟩⟩ dX7_clash_175
                            · have c_26521 : x0.toInt = 0 := by rw [ka_eq', show ((0 : Int32)).toInt = 0 from by decide] at c_26521; exact c_26521
                              refine lv_iload_n hx hb dX7_clash_160 rfl (lv_at hl 2 rfl) ?_
                              refine lv_goto (tgt := 175) hx hb dX7_clash_161 (by decide) ?_
                              exact ka_rRi C hr hlk ⟨_, rfl, ⟨by omega, by omega⟩⟩ dX7_clash_175
                  exact lp_26502 _ 0 ⟨by decide, by decide⟩ (Nat.lt_succ_self _) ls (lv_sub hl [2, 3, 4, 1, 0] rfl)
            exact lp_26476 _ 0 ⟨by decide, by decide⟩ (Nat.lt_succ_self _) ls (lv_sub hl [1, 2, 0] rfl)
          · have c_26475 : ¬ 32 ≤ i26377_2.toInt := by rw [ka_le', show ((32 : Int32)).toInt = 32 from by decide] at c_26475; exact c_26475
            refine lv_iconst (v := 0) hx hb dX7_clash_27 (by decide) ?_
            refine lv_istore_n (lv' := [(3, .int 0), (0, .ref a0), (1, .int x0), (2, .int i26377_2)]) hx hb dX7_clash_28 rfl hl (by decide) rfl (fun ls hl => ?_)
            have lp_26523 : ∀ (n : Nat) (i26523_3 : Int32), (0 ≤ i26523_3.toInt ∧ i26523_3.toInt ≤ 10) → (10 - i26523_3.toInt).toNat < n → ∀ (ls : Array Slot), lv_has ls 5 [(0, .ref a0), (1, .int x0), (2, .int i26377_2), (3, .int i26523_3)] → W p l e ({ frames := 1, cells := 0, slots := 0, locals := 23 }) s m [.ref a0, .int x0].toArray below meth c s.heap [] 0 0 (MQ below (ka_QR (fun v => ∃ x : Int32, v = some (.int x) ∧ -1 ≤ x.toInt ∧ x.toInt ≤ 31)) [.ref a0, .int x0].toArray s 0 0 (fun _ => False)) (F0 m 29 ls []) := by
              intro n
              induction n with
              | zero =>
                intro i26523_3 hi26523_3 hm
                exact absurd hm (Nat.not_lt_zero _)
              | succ n ih_26523 =>
                intro i26523_3 hi26523_3 hm ls hl
                have ri26523_3 := ka_rng i26523_3
                refine lv_iload_n hx hb dX7_clash_29 rfl (lv_at hl 3 rfl) ?_
                refine lv_aload_n hx hb dX7_clash_30 rfl (lv_at hl 0 rfl) ?_
                refine ka_get C lq_340 rfl hK hP 0 rfl 15 (by decide) lq_342 rfl dX7_clash_31 ?_
                refine lv_icmp_ge (tgt := 105) hx hb dX7_clash_34 (by decide) (fun c_26548 => ?_) (fun c_26548 => ?_)
                · have c_26548 : x8.toInt ≤ i26523_3.toInt := by rw [ka_le'] at c_26548; exact c_26548
                  obtain ⟨v_26549, ev_26549⟩ : ∃ y : Int32, y = i26377_2 + 1 := ⟨_, rfl⟩
                  refine lv_iinc (v := v_26549) (lv' := [(2, .int v_26549), (0, .ref a0), (1, .int x0), (3, .int i26523_3)]) hx hb dX7_clash_105 hl (k := 2) rfl (by rw [ev_26549]; rfl) (by decide) rfl (fun ls hl => ?_)
                  have fv_26549 : v_26549.toInt = i26377_2.toInt + 1 := by rw [ev_26549]; exact ka_add (x := i26377_2.toInt) (y := 1) rfl (by decide) (by omega) (by omega)
                  refine lv_goto (tgt := 21) hx hb dX7_clash_108 (by decide) ?_
                  exact ih_26377 v_26549 ⟨by omega, by omega⟩ (by omega) ls (lv_sub hl [1, 2, 0] rfl)
                · have c_26548 : ¬ x8.toInt ≤ i26523_3.toInt := by rw [ka_le'] at c_26548; exact c_26548
                  refine lv_iload_n hx hb dX7_clash_37 rfl (lv_at hl 3 rfl) ?_
                  refine lv_iconst (v := 1) hx hb dX7_clash_38 (by decide) ?_
                  refine lv_iadd hx hb dX7_clash_39 ?_
                  refine lv_topi (fun v_26550 ev_26550 => ?_)
                  have fv_26550 : v_26550.toInt = i26523_3.toInt + 1 := by rw [ev_26550]; exact ka_add (x := i26523_3.toInt) (y := 1) rfl (by decide) (by omega) (by omega)
                  refine lv_istore (lv' := [(4, .int v_26550), (0, .ref a0), (1, .int x0), (2, .int i26377_2), (3, .int i26523_3)]) hx hb dX7_clash_40 hl (by decide) rfl (fun ls hl => ?_)
                  have lp_26551 : ∀ (n : Nat) (i26551_4 : Int32), (1 ≤ i26551_4.toInt ∧ i26551_4.toInt ≤ 10) → (10 - i26551_4.toInt).toNat < n → ∀ (ls : Array Slot), lv_has ls 5 [(0, .ref a0), (1, .int x0), (2, .int i26377_2), (3, .int i26523_3), (4, .int i26551_4)] → W p l e ({ frames := 1, cells := 0, slots := 0, locals := 23 }) s m [.ref a0, .int x0].toArray below meth c s.heap [] 0 0 (MQ below (ka_QR (fun v => ∃ x : Int32, v = some (.int x) ∧ -1 ≤ x.toInt ∧ x.toInt ≤ 31)) [.ref a0, .int x0].toArray s 0 0 (fun _ => False)) (F0 m 42 ls []) := by
                    intro n
                    induction n with
                    | zero =>
                      intro i26551_4 hi26551_4 hm
                      exact absurd hm (Nat.not_lt_zero _)
                    | succ n ih_26551 =>
                      intro i26551_4 hi26551_4 hm ls hl
                      have ri26551_4 := ka_rng i26551_4
                      refine lv_iload hx hb dX7_clash_42 (lv_at hl 4 rfl) ?_
                      refine lv_aload_n hx hb dX7_clash_44 rfl (lv_at hl 0 rfl) ?_
                      refine ka_get C lq_340 rfl hK hP 0 rfl 15 (by decide) lq_342 rfl dX7_clash_45 ?_
                      refine lv_icmp_ge (tgt := 99) hx hb dX7_clash_48 (by decide) (fun c_26562 => ?_) (fun c_26562 => ?_)
                      · have c_26562 : x8.toInt ≤ i26551_4.toInt := by rw [ka_le'] at c_26562; exact c_26562
                        obtain ⟨v_26563, ev_26563⟩ : ∃ y : Int32, y = i26523_3 + 1 := ⟨_, rfl⟩
                        refine lv_iinc (v := v_26563) (lv' := [(3, .int v_26563), (0, .ref a0), (1, .int x0), (2, .int i26377_2), (4, .int i26551_4)]) hx hb dX7_clash_99 hl (k := 3) rfl (by rw [ev_26563]; rfl) (by decide) rfl (fun ls hl => ?_)
                        have fv_26563 : v_26563.toInt = i26523_3.toInt + 1 := by rw [ev_26563]; exact ka_add (x := i26523_3.toInt) (y := 1) rfl (by decide) (by omega) (by omega)
                        refine lv_goto (tgt := 29) hx hb dX7_clash_102 (by decide) ?_
                        exact ih_26523 v_26563 ⟨by omega, by omega⟩ (by omega) ls (lv_sub hl [1, 2, 3, 0] rfl)
                      · have c_26562 : ¬ x8.toInt ≤ i26551_4.toInt := by rw [ka_le'] at c_26562; exact c_26562
                        refine lv_aload_n hx hb dX7_clash_51 rfl (lv_at hl 0 rfl) ?_
                        refine lv_bipush (v := 78) hx hb dX7_clash_52 (by decide) ?_
                        refine lv_iload_n hx hb dX7_clash_54 rfl (lv_at hl 3 rfl) ?_
                        refine lv_iadd hx hb dX7_clash_55 ?_
                        refine lv_topi (fun v_26564 ev_26564 => ?_)
                        have fv_26564 : v_26564.toInt = 78 + i26523_3.toInt := by rw [ev_26564]; exact ka_add (x := 78) (y := i26523_3.toInt) (by decide) rfl (by omega) (by omega)
                        refine lv_iload_n hx hb dX7_clash_56 rfl (lv_at hl 2 rfl) ?_
                        refine ka_RV (n := 2) C (cg_X7_tellsOf_269 l D F a0 v_26564 i26377_2 a1 x1 a2 a3 a4 a5 a6 a7 a8 x2 x3 x4 x5 x6 x7 x8 a9 a10 a11 a12 a13 a14 x9 x10 x11 x12 x13 x14 k0 f0 ⟨by omega, by omega⟩ ⟨by omega, by omega⟩ ⟨by omega, by omega⟩ ⟨by omega, by omega⟩ ⟨by omega, by omega⟩ ⟨by omega, by omega⟩ ⟨by omega, by omega⟩ ⟨by omega, by omega⟩ ⟨by omega, by omega⟩ ⟨by omega, by omega⟩ ⟨by omega, by omega⟩ ⟨by omega, by omega⟩) gX7_clash_X7_tellsOf rfl (by decide +kernel) ⟨Nat.le_of_ble_eq_true rfl, Nat.le_of_ble_eq_true rfl⟩ hK hP hS hE hN [0, 1] rfl [0] rfl (ci := 7) rfl rfl 0 rfl rfl hl.1 (rest := []) rfl (Nat.le_of_ble_eq_true rfl) dX7_clash_57 ⟨Nat.le_of_ble_eq_true rfl, Nat.le_of_ble_eq_true rfl⟩ (fun v hv => ?_)
                        obtain ⟨v_26565, rfl⟩ := hv
                        have rv_26565 := ka_rng v_26565
                        refine ka_stk (w := [.int v_26565]) rfl ?_
                        refine lv_aload_n hx hb dX7_clash_60 rfl (lv_at hl 0 rfl) ?_
                        refine lv_bipush (v := 78) hx hb dX7_clash_61 (by decide) ?_
                        refine lv_iload hx hb dX7_clash_63 (lv_at hl 4 rfl) ?_
                        refine lv_iadd hx hb dX7_clash_65 ?_
                        refine lv_topi (fun v_26566 ev_26566 => ?_)
                        have fv_26566 : v_26566.toInt = 78 + i26551_4.toInt := by rw [ev_26566]; exact ka_add (x := 78) (y := i26551_4.toInt) (by decide) rfl (by omega) (by omega)
                        refine lv_iload_n hx hb dX7_clash_66 rfl (lv_at hl 2 rfl) ?_
                        refine ka_RV (n := 2) C (cg_X7_tellsOf_270 l D F a0 v_26566 i26377_2 a1 x1 a2 a3 a4 a5 a6 a7 a8 x2 x3 x4 x5 x6 x7 x8 a9 a10 a11 a12 a13 a14 x9 x10 x11 x12 x13 x14 k0 f0 ⟨by omega, by omega⟩ ⟨by omega, by omega⟩ ⟨by omega, by omega⟩ ⟨by omega, by omega⟩ ⟨by omega, by omega⟩ ⟨by omega, by omega⟩ ⟨by omega, by omega⟩ ⟨by omega, by omega⟩ ⟨by omega, by omega⟩ ⟨by omega, by omega⟩ ⟨by omega, by omega⟩ ⟨by omega, by omega⟩) gX7_clash_X7_tellsOf rfl (by decide +kernel) ⟨Nat.le_of_ble_eq_true rfl, Nat.le_of_ble_eq_true rfl⟩ hK hP hS hE hN [0, 1] rfl [0] rfl (ci := 7) rfl rfl 0 rfl rfl hl.1 (rest := [.int v_26565]) rfl (Nat.le_of_ble_eq_true rfl) dX7_clash_67 ⟨Nat.le_of_ble_eq_true rfl, Nat.le_of_ble_eq_true rfl⟩ (fun v hv => ?_)
                        obtain ⟨v_26567, rfl⟩ := hv
                        have rv_26567 := ka_rng v_26567
                        refine ka_stk (w := [.int v_26567, .int v_26565]) rfl ?_
                        refine lv_icmp_eq (tgt := 93) hx hb dX7_clash_70 (by decide) (fun c_26568 => ?_) (fun c_26568 => ?_)
                        · have c_26568 : v_26565.toInt = v_26567.toInt := by rw [ka_eq'] at c_26568; exact c_26568
                          obtain ⟨v_26569, ev_26569⟩ : ∃ y : Int32, y = i26551_4 + 1 := ⟨_, rfl⟩
                          refine lv_iinc (v := v_26569) (lv' := [(4, .int v_26569), (0, .ref a0), (1, .int x0), (2, .int i26377_2), (3, .int i26523_3)]) hx hb dX7_clash_93 hl (k := 4) rfl (by rw [ev_26569]; rfl) (by decide) rfl (fun ls hl => ?_)
                          have fv_26569 : v_26569.toInt = i26551_4.toInt + 1 := by rw [ev_26569]; exact ka_add (x := i26551_4.toInt) (y := 1) rfl (by decide) (by omega) (by omega)
                          refine lv_goto (tgt := 42) hx hb dX7_clash_96 (by decide) ?_
                          exact ih_26551 v_26569 ⟨by omega, by omega⟩ (by omega) ls (lv_sub hl [1, 2, 3, 4, 0] rfl)
                        · have c_26568 : ¬ v_26565.toInt = v_26567.toInt := by rw [ka_eq'] at c_26568; exact c_26568
                          refine lv_iload_n hx hb dX7_clash_73 rfl (lv_at hl 1 rfl) ?_
                          refine lv_if_ne (tgt := 81) hx hb dX7_clash_74 (by decide) (fun c_26570 => ?_) (fun c_26570 => ?_)
                          · have c_26570 : ¬ x0.toInt = 0 := by rw [ka_eq', show ((0 : Int32)).toInt = 0 from by decide] at c_26570; exact c_26570
                            refine lv_iload_n hx hb dX7_clash_81 rfl (lv_at hl 1 rfl) ?_
                            refine lv_iconst (v := 1) hx hb dX7_clash_82 (by decide) ?_
                            refine lv_icmp_ne (tgt := 90) hx hb dX7_clash_83 (by decide) (fun c_26571 => ?_) (fun c_26571 => ?_)
                            · have c_26571 : ¬ x0.toInt = 1 := by rw [ka_eq', show ((1 : Int32)).toInt = 1 from by decide] at c_26571; exact c_26571
                              refine lv_iload hx hb dX7_clash_90 (lv_at hl 4 rfl) ?_
                              exact ka_rRi C hr hlk ⟨_, rfl, ⟨by omega, by omega⟩⟩ dX7_clash_92
                            · have c_26571 : x0.toInt = 1 := by rw [ka_eq', show ((1 : Int32)).toInt = 1 from by decide] at c_26571; exact c_26571
                              refine lv_iload_n hx hb dX7_clash_86 rfl (lv_at hl 3 rfl) ?_
                              refine lv_goto (tgt := 92) hx hb dX7_clash_87 (by decide) ?_
                              exact ka_rRi C hr hlk ⟨_, rfl, ⟨by omega, by omega⟩⟩ dX7_clash_92
                          · have c_26570 : x0.toInt = 0 := by rw [ka_eq', show ((0 : Int32)).toInt = 0 from by decide] at c_26570; exact c_26570
                            refine lv_iload_n hx hb dX7_clash_77 rfl (lv_at hl 2 rfl) ?_
                            refine lv_goto (tgt := 92) hx hb dX7_clash_78 (by decide) ?_
                            exact ka_rRi C hr hlk ⟨_, rfl, ⟨by omega, by omega⟩⟩ dX7_clash_92
                  exact lp_26551 _ v_26550 ⟨by omega, by omega⟩ (Nat.lt_succ_self _) ls (lv_sub hl [1, 2, 3, 4, 0] rfl)
            exact lp_26523 _ 0 ⟨by decide, by decide⟩ (Nat.lt_succ_self _) ls (lv_sub hl [1, 2, 3, 0] rfl)
      exact lp_26377 _ 0 ⟨by decide, by decide⟩ (Nat.lt_succ_self _) ls (lv_sub hl [1, 2, 0] rfl)
    · have c_26376 : v_26375.toInt = 0 := by rw [ka_eq', show ((0 : Int32)).toInt = 0 from by decide] at c_26376; exact c_26376
      refine lv_iconst (v := (-1)) hx hb dX7_clash_17 (by decide) ?_
      exact ka_rRi C hr hlk ⟨_, rfl, ⟨by decide, by decide⟩⟩ dX7_clash_18
set_option maxHeartbeats 4000000 in
set_option maxRecDepth 100000 in
theorem cg_X7_tellsOf_272 (l : Launch) (D : va_G) (F : Nat → Prop) (a0 : Nat) (x0 : Int32) (x1 : Int32) (a1 : Nat) (x2 : Int32) (a2 : Nat) (a3 : Nat) (a4 : Nat) (a5 : Nat) (a6 : Nat) (a7 : Nat) (a8 : Nat) (x3 : Int32) (x4 : Int32) (x5 : Int32) (x6 : Int32) (x7 : Int32) (x8 : Int32) (x9 : Int32) (a9 : Nat) (a10 : Nat) (a11 : Nat) (a12 : Nat) (a13 : Nat) (a14 : Nat) (x10 : Int32) (x11 : Int32) (x12 : Int32) (x13 : Int32) (x14 : Int32) (x15 : Int32) (k0 : ClassId) (f0 : Nat → Int32) (hx0 : 0 ≤ x0.toInt ∧ x0.toInt ≤ 5) (hx1 : 0 ≤ x1.toInt ∧ x1.toInt ≤ 31) (hx2 : 0 ≤ x2.toInt ∧ x2.toInt ≤ 80) (hx3 : 0 ≤ x3.toInt ∧ x3.toInt ≤ 5) (hx6 : 1 ≤ x6.toInt ∧ x6.toInt ≤ 8) (hx7 : 0 ≤ x7.toInt ∧ x7.toInt ≤ 40) (hx9 : 0 ≤ x9.toInt ∧ x9.toInt ≤ 10) (hx10 : 0 ≤ x10.toInt ∧ x10.toInt ≤ 60) (hx11 : 0 ≤ x11.toInt ∧ x11.toInt ≤ 60) (hx12 : 0 ≤ x12.toInt ∧ x12.toInt ≤ 60) (hx13 : 0 ≤ x13.toInt ∧ x13.toInt ≤ 8) (hx15 : 0 ≤ x15.toInt ∧ x15.toInt ≤ 1) : ka_R l D F yX7_tellsOf wsX7_tellsOf 0 0 [.ref a0, .int x0, .int x1] [(a0, .inr (7, [.ref a1, .int x2, .ref a2, .ref a3, .ref a4, .ref a5, .ref a6, .ref a7, .ref a8, .int x3, .int x4, .int x5, .int x6, .int x7, .int x8, .int x9, .ref a9, .ref a10, .ref a11, .ref a12, .ref a13, .ref a14, .int x10, .int x11, .int x12, .int x13, .int x14, .int x15])), (a2, .inl (k0, 89, .inl f0))] [(k0, .int)] (fun v => ∃ x : Int32, v = some (.int x)) := by
  refine ka_R_of (cc := cX7_tellsOf) (maxL := 3) (ret := (some .int)) (by decide) rfl (Nat.le_of_ble_eq_true rfl) ?_
  intro p e s m below meth c ls C hr hlk hP hK hE hN hl
  have hS : va_S (fun _ => False) s.heap s.heap [] := va_S.rf
  have C : CallFix p m c cX7_tellsOf 3 s [.ref a0, .int x0, .int x1].toArray wsX7_tellsOf RX7 := C
  obtain ⟨hx, hb, hml, hown, hts⟩ := id C
  have hl : lv_has ls 3 [(0, .ref a0), (1, .int x0), (2, .int x1)] := hl
  have rx0 := ka_rng x0
  have rx1 := ka_rng x1
  have rx2 := ka_rng x2
  have rx3 := ka_rng x3
  have rx4 := ka_rng x4
  have rx5 := ka_rng x5
  have rx6 := ka_rng x6
  have rx7 := ka_rng x7
  have rx8 := ka_rng x8
  have rx9 := ka_rng x9
  have rx10 := ka_rng x10
  have rx11 := ka_rng x11
  have rx12 := ka_rng x12
  have rx13 := ka_rng x13
  have rx14 := ka_rng x14
  have rx15 := ka_rng x15
  refine lv_aload_n hx hb dX7_tellsOf_0 rfl (lv_at hl 0 rfl) ?_
  refine ka_get C lq_283 rfl hK hP 0 rfl 2 (by decide) lq_284 rfl dX7_tellsOf_1 ?_
  refine lv_iload_n hx hb dX7_tellsOf_4 rfl (lv_at hl 1 rfl) ?_
  refine va_iald hx hb hK hP 1 0 rfl rfl (ka_in (by omega) (by omega)) dX7_tellsOf_5 ?_
  refine lv_topi (fun v_26641 ev_26641 => ?_)
  refine lv_iload_n hx hb dX7_tellsOf_6 rfl (lv_at hl 2 rfl) ?_
  refine lv_ishr hx hb dX7_tellsOf_7 ?_
  refine lv_topi (fun v_26642 ev_26642 => ?_)
  refine lv_iconst (v := 1) hx hb dX7_tellsOf_8 (by decide) ?_
  refine lv_iand hx hb dX7_tellsOf_9 ?_
  refine lv_topi (fun v_26643 ev_26643 => ?_)
  exact ka_rRi C hr hlk ⟨_, rfl⟩ dX7_tellsOf_10
theorem lq_343 : ∀ w ∈ wsX70, w ∈ wsX7_bridge := by decide +kernel
theorem lq_344 : Cond.fieldLink RX7 36 "AskedBackModel" "lesson" "I" ∈ wsX7_bridge := by decide +kernel
set_option maxHeartbeats 4000000 in
set_option maxRecDepth 100000 in
theorem cg_X7_bridge_273 (l : Launch) (D : va_G) (F : Nat → Prop) (a0 : Nat) (x0 : Int32) (a1 : Nat) (x1 : Int32) (a2 : Nat) (a3 : Nat) (a4 : Nat) (a5 : Nat) (a6 : Nat) (a7 : Nat) (a8 : Nat) (x2 : Int32) (x3 : Int32) (x4 : Int32) (x5 : Int32) (x6 : Int32) (x7 : Int32) (x8 : Int32) (a9 : Nat) (a10 : Nat) (a11 : Nat) (a12 : Nat) (a13 : Nat) (a14 : Nat) (x9 : Int32) (x10 : Int32) (x11 : Int32) (x12 : Int32) (x13 : Int32) (x14 : Int32) (k0 : ClassId) (f0 : Nat → Int32) (k1 : ClassId) (f1 : Nat → Int32) (k2 : ClassId) (f2 : Nat → Int32) (k3 : ClassId) (f3 : Nat → Int32) (hx1 : 0 ≤ x1.toInt ∧ x1.toInt ≤ 80) (hx2 : -1 ≤ x2.toInt ∧ x2.toInt ≤ 5) (hx5 : 1 ≤ x5.toInt ∧ x5.toInt ≤ 8) (hx6 : 0 ≤ x6.toInt ∧ x6.toInt ≤ 40) (hx8 : 0 ≤ x8.toInt ∧ x8.toInt ≤ 10) (hx9 : 0 ≤ x9.toInt ∧ x9.toInt ≤ 60) (hx10 : 0 ≤ x10.toInt ∧ x10.toInt ≤ 60) (hx11 : 0 ≤ x11.toInt ∧ x11.toInt ≤ 60) (hx12 : 0 ≤ x12.toInt ∧ x12.toInt ≤ 8) (hx14 : 0 ≤ x14.toInt ∧ x14.toInt ≤ 1) (hf1 : ∀ j : Nat, 0 ≤ (f1 j).toInt ∧ (f1 j).toInt ≤ 12) : ka_R l D F yX7_bridge wsX7_bridge 3 67 [.ref a0, .int x0] [(a0, .inr (7, [.ref a1, .int x1, .ref a2, .ref a3, .ref a4, .ref a5, .ref a6, .ref a7, .ref a8, .int x2, .int x3, .int x4, .int x5, .int x6, .int x7, .int x8, .ref a9, .ref a10, .ref a11, .ref a12, .ref a13, .ref a14, .int x9, .int x10, .int x11, .int x12, .int x13, .int x14])), (a2, .inl (k0, 89, .inl f0)), (a8, .inl (k1, 6, .inl f1)), (a9, .inl (k2, 40, .inl f2)), (a10, .inl (k3, 40, .inl f3))] [(k0, .int), (k1, .int), (k2, .int), (k3, .int)] (fun v => ∃ x : Int32, v = some (.int x) ∧ -1 ≤ x.toInt ∧ x.toInt ≤ 31) := by
  refine ka_R_of (cc := cX7_bridge) (maxL := 7) (ret := (some .int)) (by decide) rfl (Nat.le_of_ble_eq_true rfl) ?_
  intro p e s m below meth c ls C hr hlk hP hK hE hN hl
  have hS : va_S (fun _ => False) s.heap s.heap [] := va_S.rf
  have C : CallFix p m c cX7_bridge 7 s [.ref a0, .int x0].toArray wsX7_bridge RX7 := C
  obtain ⟨hx, hb, hml, hown, hts⟩ := id C
  have hl : lv_has ls 7 [(0, .ref a0), (1, .int x0)] := hl
  have rx0 := ka_rng x0
  have rx1 := ka_rng x1
  have rx2 := ka_rng x2
  have rx3 := ka_rng x3
  have rx4 := ka_rng x4
  have rx5 := ka_rng x5
  have rx6 := ka_rng x6
  have rx7 := ka_rng x7
  have rx8 := ka_rng x8
  have rx9 := ka_rng x9
  have rx10 := ka_rng x10
  have rx11 := ka_rng x11
  have rx12 := ka_rng x12
  have rx13 := ka_rng x13
  have rx14 := ka_rng x14
  refine lv_aload_n hx hb dX7_bridge_0 rfl (lv_at hl 0 rfl) ?_
  refine ka_get C lq_343 rfl hK hP 0 rfl 9 (by decide) lq_344 rfl dX7_bridge_1 ?_
  refine lv_iconst (v := (-1)) hx hb dX7_bridge_4 (by decide) ?_
  refine lv_icmp_eq (tgt := 15) hx hb dX7_bridge_5 (by decide) (fun c_26789 => ?_) (fun c_26789 => ?_)
  · have c_26789 : x2.toInt = -1 := by rw [ka_eq', show ((-1 : Int32)).toInt = -1 from by decide] at c_26789; exact c_26789
    refine lv_iconst (v := (-1)) hx hb dX7_bridge_15 (by decide) ?_
    exact ka_rRi C hr hlk ⟨_, rfl, ⟨by decide, by decide⟩⟩ dX7_bridge_16
  · have c_26789 : ¬ x2.toInt = -1 := by rw [ka_eq', show ((-1 : Int32)).toInt = -1 from by decide] at c_26789; exact c_26789
    refine lv_iload_n hx hb dX7_bridge_8 rfl (lv_at hl 1 rfl) ?_
    refine ka_RS (n := 1) C (cg_X7_isCase_248 l D F x0) gX7_bridge_X7_isCase rfl (by decide +kernel) ⟨Nat.le_of_ble_eq_true rfl, Nat.le_of_ble_eq_true rfl⟩ hK hP hS hE hN [] rfl [] rfl rfl hl.1 (rest := []) rfl (Nat.le_of_ble_eq_true rfl) dX7_bridge_9 ⟨Nat.le_of_ble_eq_true rfl, Nat.le_of_ble_eq_true rfl⟩ (fun v hv => ?_)
    obtain ⟨v_26790, rfl, hv_26790⟩ := hv
    have rv_26790 := ka_rng v_26790
    refine ka_stk (w := [.int v_26790]) rfl ?_
    refine lv_if_ne (tgt := 17) hx hb dX7_bridge_12 (by decide) (fun c_26791 => ?_) (fun c_26791 => ?_)
    · have c_26791 : ¬ v_26790.toInt = 0 := by rw [ka_eq', show ((0 : Int32)).toInt = 0 from by decide] at c_26791; exact c_26791
      refine lv_aload_n hx hb dX7_bridge_17 rfl (lv_at hl 0 rfl) ?_
      refine ka_RV (n := 0) C (cg_X7_lefts_260 l D F a0 a1 x1 a2 a3 a4 a5 a6 a7 a8 x2 x3 x4 x5 x6 x7 x8 a9 a10 a11 a12 a13 a14 x9 x10 x11 x12 x13 x14 k0 f0 k1 f1 k2 f2 k3 f3 ⟨by omega, by omega⟩ ⟨by omega, by omega⟩ ⟨by omega, by omega⟩ ⟨by omega, by omega⟩ ⟨by omega, by omega⟩ ⟨by omega, by omega⟩ ⟨by omega, by omega⟩ ⟨by omega, by omega⟩ ⟨by omega, by omega⟩ ⟨by omega, by omega⟩ hf1) gX7_bridge_X7_lefts rfl (by decide +kernel) ⟨Nat.le_of_ble_eq_true rfl, Nat.le_of_ble_eq_true rfl⟩ hK hP hS hE hN [0, 1, 2, 3, 4] rfl [0, 1, 2, 3] rfl (ci := 7) rfl rfl 0 rfl rfl hl.1 (rest := []) rfl (Nat.le_of_ble_eq_true rfl) dX7_bridge_18 ⟨Nat.le_of_ble_eq_true rfl, Nat.le_of_ble_eq_true rfl⟩ (fun v hv => ?_)
      obtain ⟨v_26792, rfl⟩ := hv
      have rv_26792 := ka_rng v_26792
      refine ka_stk (w := [.int v_26792]) rfl ?_
      refine lv_istore_n (lv' := [(2, .int v_26792), (0, .ref a0), (1, .int x0)]) hx hb dX7_bridge_21 rfl hl (by decide) rfl (fun ls hl => ?_)
      refine lv_aload_n hx hb dX7_bridge_22 rfl (lv_at hl 1 rfl) ?_
      refine ka_RV (n := 0) C (cg_X7_gone_261 l D F a0 a1 x1 a2 a3 a4 a5 a6 a7 a8 x2 x3 x4 x5 x6 x7 x8 a9 a10 a11 a12 a13 a14 x9 x10 x11 x12 x13 x14 k2 f2 ⟨by omega, by omega⟩ ⟨by omega, by omega⟩ ⟨by omega, by omega⟩ ⟨by omega, by omega⟩ ⟨by omega, by omega⟩ ⟨by omega, by omega⟩ ⟨by omega, by omega⟩ ⟨by omega, by omega⟩ ⟨by omega, by omega⟩ ⟨by omega, by omega⟩) gX7_bridge_X7_gone rfl (by decide +kernel) ⟨Nat.le_of_ble_eq_true rfl, Nat.le_of_ble_eq_true rfl⟩ hK hP hS hE hN [0, 3] rfl [2] rfl (ci := 7) rfl rfl 0 rfl rfl hl.1 (rest := []) rfl (Nat.le_of_ble_eq_true rfl) dX7_bridge_23 ⟨Nat.le_of_ble_eq_true rfl, Nat.le_of_ble_eq_true rfl⟩ (fun v hv => ?_)
      obtain ⟨v_26793, rfl⟩ := hv
      have rv_26793 := ka_rng v_26793
      refine ka_stk (w := [.int v_26793]) rfl ?_
      refine lv_istore_n (lv' := [(3, .int v_26793), (2, .int v_26792), (0, .ref a0), (1, .int x0)]) hx hb dX7_bridge_26 rfl hl (by decide) rfl (fun ls hl => ?_)
      refine lv_iconst (v := (-1)) hx hb dX7_bridge_27 (by decide) ?_
      refine lv_istore (lv' := [(4, .int (-1)), (3, .int v_26793), (2, .int v_26792), (0, .ref a0), (1, .int x0)]) hx hb dX7_bridge_28 hl (by decide) rfl (fun ls hl => ?_)
      refine lv_iconst (v := 0) hx hb dX7_bridge_30 (by decide) ?_
      refine lv_istore (lv' := [(5, .int 0), (4, .int (-1)), (3, .int v_26793), (2, .int v_26792), (0, .ref a0), (1, .int x0)]) hx hb dX7_bridge_31 hl (by decide) rfl (fun ls hl => ?_)
      have lp_26794 : ∀ (n : Nat) (i26794_4 : Int32) (i26794_5 : Int32), (-1 ≤ i26794_4.toInt ∧ i26794_4.toInt ≤ 31) → (0 ≤ i26794_5.toInt ∧ i26794_5.toInt ≤ 32) → (32 - i26794_5.toInt).toNat < n → ∀ (ls : Array Slot), lv_has ls 7 [(0, .ref a0), (1, .int x0), (2, .int v_26792), (3, .int v_26793), (4, .int i26794_4), (5, .int i26794_5)] → W p l e ({ frames := 3, cells := 0, slots := 0, locals := 67 }) s m [.ref a0, .int x0].toArray below meth c s.heap [] 0 0 (MQ below (ka_QR (fun v => ∃ x : Int32, v = some (.int x) ∧ -1 ≤ x.toInt ∧ x.toInt ≤ 31)) [.ref a0, .int x0].toArray s 0 0 (fun _ => False)) (F0 m 33 ls []) := by
        intro n
        induction n with
        | zero =>
          intro i26794_4 i26794_5 hi26794_4 hi26794_5 hm
          exact absurd hm (Nat.not_lt_zero _)
        | succ n ih_26794 =>
          intro i26794_4 i26794_5 hi26794_4 hi26794_5 hm ls hl
          have ri26794_4 := ka_rng i26794_4
          have ri26794_5 := ka_rng i26794_5
          refine lv_iload hx hb dX7_bridge_33 (lv_at hl 5 rfl) ?_
          refine lv_bipush (v := 32) hx hb dX7_bridge_35 (by decide) ?_
          refine lv_icmp_ge (tgt := 119) hx hb dX7_bridge_37 (by decide) (fun c_26830 => ?_) (fun c_26830 => ?_)
          · have c_26830 : 32 ≤ i26794_5.toInt := by rw [ka_le', show ((32 : Int32)).toInt = 32 from by decide] at c_26830; exact c_26830
            refine lv_iload hx hb dX7_bridge_119 (lv_at hl 4 rfl) ?_
            exact ka_rRi C hr hlk ⟨_, rfl, ⟨by omega, by omega⟩⟩ dX7_bridge_121
          · have c_26830 : ¬ 32 ≤ i26794_5.toInt := by rw [ka_le', show ((32 : Int32)).toInt = 32 from by decide] at c_26830; exact c_26830
            refine lv_aload_n hx hb dX7_bridge_40 rfl (lv_at hl 0 rfl) ?_
            refine lv_aload_n hx hb dX7_bridge_41 rfl (lv_at hl 0 rfl) ?_
            refine ka_get C lq_343 rfl hK hP 0 rfl 9 (by decide) lq_344 rfl dX7_bridge_42 ?_
            refine lv_iload hx hb dX7_bridge_45 (lv_at hl 5 rfl) ?_
            refine ka_RV (n := 2) C (cg_X7_tellsOf_272 l D F a0 x2 i26794_5 a1 x1 a2 a3 a4 a5 a6 a7 a8 x2 x3 x4 x5 x6 x7 x8 a9 a10 a11 a12 a13 a14 x9 x10 x11 x12 x13 x14 k0 f0 ⟨by omega, by omega⟩ ⟨by omega, by omega⟩ ⟨by omega, by omega⟩ ⟨by omega, by omega⟩ ⟨by omega, by omega⟩ ⟨by omega, by omega⟩ ⟨by omega, by omega⟩ ⟨by omega, by omega⟩ ⟨by omega, by omega⟩ ⟨by omega, by omega⟩ ⟨by omega, by omega⟩ ⟨by omega, by omega⟩) gX7_bridge_X7_tellsOf rfl (by decide +kernel) ⟨Nat.le_of_ble_eq_true rfl, Nat.le_of_ble_eq_true rfl⟩ hK hP hS hE hN [0, 1] rfl [0] rfl (ci := 7) rfl rfl 0 rfl rfl hl.1 (rest := []) rfl (Nat.le_of_ble_eq_true rfl) dX7_bridge_47 ⟨Nat.le_of_ble_eq_true rfl, Nat.le_of_ble_eq_true rfl⟩ (fun v hv => ?_)
            obtain ⟨v_26831, rfl⟩ := hv
            have rv_26831 := ka_rng v_26831
            refine ka_stk (w := [.int v_26831]) rfl ?_
            refine lv_iconst (v := 1) hx hb dX7_bridge_50 (by decide) ?_
            refine lv_icmp_ne (tgt := 58) hx hb dX7_bridge_51 (by decide) (fun c_26832 => ?_) (fun c_26832 => ?_)
            · have c_26832 : ¬ v_26831.toInt = 1 := by rw [ka_eq', show ((1 : Int32)).toInt = 1 from by decide] at c_26832; exact c_26832
              refine lv_iconst (v := 0) hx hb dX7_bridge_58 (by decide) ?_
              refine lv_istore (lv' := [(6, .int 0), (0, .ref a0), (1, .int x0), (2, .int v_26792), (3, .int v_26793), (4, .int i26794_4), (5, .int i26794_5)]) hx hb dX7_bridge_59 hl (by decide) rfl (fun ls hl => ?_)
              refine lv_iload_n hx hb dX7_bridge_61 rfl (lv_at hl 4 rfl) ?_
              refine lv_iload hx hb dX7_bridge_62 (lv_at hl 6 rfl) ?_
              refine lv_ishr hx hb dX7_bridge_64 ?_
              refine lv_topi (fun v_26833 ev_26833 => ?_)
              refine lv_iconst (v := 1) hx hb dX7_bridge_65 (by decide) ?_
              refine lv_iand hx hb dX7_bridge_66 ?_
              refine lv_topi (fun v_26834 ev_26834 => ?_)
              refine lv_iconst (v := 1) hx hb dX7_bridge_67 (by decide) ?_
              refine lv_icmp_eq (tgt := 113) hx hb dX7_bridge_68 (by decide) (fun c_26835 => ?_) (fun c_26835 => ?_)
              · have c_26835 : v_26834.toInt = 1 := by rw [ka_eq', show ((1 : Int32)).toInt = 1 from by decide] at c_26835; exact c_26835
                obtain ⟨v_26836, ev_26836⟩ : ∃ y : Int32, y = i26794_5 + 1 := ⟨_, rfl⟩
                refine lv_iinc (v := v_26836) (lv' := [(5, .int v_26836), (6, .int 0), (0, .ref a0), (1, .int x0), (2, .int v_26792), (3, .int v_26793), (4, .int i26794_4)]) hx hb dX7_bridge_113 hl (k := 6) rfl (by rw [ev_26836]; rfl) (by decide) rfl (fun ls hl => ?_)
                have fv_26836 : v_26836.toInt = i26794_5.toInt + 1 := by rw [ev_26836]; exact ka_add (x := i26794_5.toInt) (y := 1) rfl (by decide) (by omega) (by omega)
                refine lv_goto (tgt := 33) hx hb dX7_bridge_116 (by decide) ?_
                exact ih_26794 i26794_4 v_26836 ⟨by omega, by omega⟩ ⟨by omega, by omega⟩ (by omega) ls (lv_sub hl [2, 3, 4, 5, 6, 0] rfl)
              · have c_26835 : ¬ v_26834.toInt = 1 := by rw [ka_eq', show ((1 : Int32)).toInt = 1 from by decide] at c_26835; exact c_26835
                refine lv_aload_n hx hb dX7_bridge_71 rfl (lv_at hl 1 rfl) ?_
                refine lv_iload_n hx hb dX7_bridge_72 rfl (lv_at hl 3 rfl) ?_
                refine lv_iload hx hb dX7_bridge_73 (lv_at hl 6 rfl) ?_
                refine ka_RV (n := 2) C (cg_X7_tellOne_264 l D F a0 v_26792 i26794_5 a1 x1 a2 a3 a4 a5 a6 a7 a8 x2 x3 x4 x5 x6 x7 x8 a9 a10 a11 a12 a13 a14 x9 x10 x11 x12 x13 x14 k0 f0 k1 f1 ⟨by omega, by omega⟩ ⟨by omega, by omega⟩ ⟨by omega, by omega⟩ ⟨by omega, by omega⟩ ⟨by omega, by omega⟩ ⟨by omega, by omega⟩ ⟨by omega, by omega⟩ ⟨by omega, by omega⟩ ⟨by omega, by omega⟩ ⟨by omega, by omega⟩ ⟨by omega, by omega⟩ hf1) gX7_bridge_X7_tellOne rfl (by decide +kernel) ⟨Nat.le_of_ble_eq_true rfl, Nat.le_of_ble_eq_true rfl⟩ hK hP hS hE hN [0, 1, 2] rfl [0, 1] rfl (ci := 7) rfl rfl 0 rfl rfl hl.1 (rest := []) rfl (Nat.le_of_ble_eq_true rfl) dX7_bridge_75 ⟨Nat.le_of_ble_eq_true rfl, Nat.le_of_ble_eq_true rfl⟩ (fun v hv => ?_)
                obtain ⟨v_26837, rfl⟩ := hv
                have rv_26837 := ka_rng v_26837
                refine ka_stk (w := [.int v_26837]) rfl ?_
                refine lv_iload hx hb dX7_bridge_78 (lv_at hl 0 rfl) ?_
                refine lv_icmp_eq (tgt := 86) hx hb dX7_bridge_80 (by decide) (fun c_26838 => ?_) (fun c_26838 => ?_)
                · have c_26838 : v_26837.toInt = 0 := by rw [ka_eq', show ((0 : Int32)).toInt = 0 from by decide] at c_26838; exact c_26838
                  refine lv_iload hx hb dX7_bridge_86 (lv_at hl 5 rfl) ?_
                  refine lv_iconst (v := (-1)) hx hb dX7_bridge_88 (by decide) ?_
                  refine lv_icmp_eq (tgt := 109) hx hb dX7_bridge_89 (by decide) (fun c_26839 => ?_) (fun c_26839 => ?_)
                  · have c_26839 : i26794_4.toInt = -1 := by rw [ka_eq', show ((-1 : Int32)).toInt = -1 from by decide] at c_26839; exact c_26839
                    refine lv_iload hx hb dX7_bridge_109 (lv_at hl 6 rfl) ?_
                    refine lv_istore (lv' := [(4, .int i26794_5), (6, .int 0), (0, .ref a0), (1, .int x0), (2, .int v_26792), (3, .int v_26793), (5, .int i26794_5)]) hx hb dX7_bridge_111 hl (by decide) rfl (fun ls hl => ?_)
                    obtain ⟨v_26840, ev_26840⟩ : ∃ y : Int32, y = i26794_5 + 1 := ⟨_, rfl⟩
                    refine lv_iinc (v := v_26840) (lv' := [(5, .int v_26840), (4, .int i26794_5), (6, .int 0), (0, .ref a0), (1, .int x0), (2, .int v_26792), (3, .int v_26793)]) hx hb dX7_bridge_113 hl (k := 6) rfl (by rw [ev_26840]; rfl) (by decide) rfl (fun ls hl => ?_)
                    have fv_26840 : v_26840.toInt = i26794_5.toInt + 1 := by rw [ev_26840]; exact ka_add (x := i26794_5.toInt) (y := 1) rfl (by decide) (by omega) (by omega)
                    refine lv_goto (tgt := 33) hx hb dX7_bridge_116 (by decide) ?_
                    exact ih_26794 i26794_5 v_26840 ⟨by omega, by omega⟩ ⟨by omega, by omega⟩ (by omega) ls (lv_sub hl [3, 4, 5, 6, 1, 0] rfl)
                  · have c_26839 : ¬ i26794_4.toInt = -1 := by rw [ka_eq', show ((-1 : Int32)).toInt = -1 from by decide] at c_26839; exact c_26839
                    refine lv_iload hx hb dX7_bridge_92 (lv_at hl 6 rfl) ?_
                    refine lv_iload_n hx hb dX7_bridge_94 rfl (lv_at hl 2 rfl) ?_
                    refine lv_ixor hx hb dX7_bridge_95 ?_
                    refine lv_topi (fun v_26841 ev_26841 => ?_)
                    refine ka_RS (n := 1) C (cg_X7_many_262 l D F v_26841) gX7_bridge_X7_many rfl (by decide +kernel) ⟨Nat.le_of_ble_eq_true rfl, Nat.le_of_ble_eq_true rfl⟩ hK hP hS hE hN [] rfl [] rfl rfl hl.1 (rest := []) rfl (Nat.le_of_ble_eq_true rfl) dX7_bridge_96 ⟨Nat.le_of_ble_eq_true rfl, Nat.le_of_ble_eq_true rfl⟩ (fun v hv => ?_)
                    obtain ⟨v_26842, rfl⟩ := hv
                    have rv_26842 := ka_rng v_26842
                    refine ka_stk (w := [.int v_26842]) rfl ?_
                    refine lv_iload hx hb dX7_bridge_99 (lv_at hl 5 rfl) ?_
                    refine lv_iload_n hx hb dX7_bridge_101 rfl (lv_at hl 2 rfl) ?_
                    refine lv_ixor hx hb dX7_bridge_102 ?_
                    refine lv_topi (fun v_26843 ev_26843 => ?_)
                    refine ka_RS (n := 1) C (cg_X7_many_262 l D F v_26843) gX7_bridge_X7_many rfl (by decide +kernel) ⟨Nat.le_of_ble_eq_true rfl, Nat.le_of_ble_eq_true rfl⟩ hK hP hS hE hN [] rfl [] rfl rfl hl.1 (rest := [.int v_26842]) rfl (Nat.le_of_ble_eq_true rfl) dX7_bridge_103 ⟨Nat.le_of_ble_eq_true rfl, Nat.le_of_ble_eq_true rfl⟩ (fun v hv => ?_)
                    obtain ⟨v_26844, rfl⟩ := hv
                    have rv_26844 := ka_rng v_26844
                    refine ka_stk (w := [.int v_26844, .int v_26842]) rfl ?_
                    refine lv_icmp_ge (tgt := 113) hx hb dX7_bridge_106 (by decide) (fun c_26845 => ?_) (fun c_26845 => ?_)
                    · have c_26845 : v_26844.toInt ≤ v_26842.toInt := by rw [ka_le'] at c_26845; exact c_26845
                      obtain ⟨v_26846, ev_26846⟩ : ∃ y : Int32, y = i26794_5 + 1 := ⟨_, rfl⟩
                      refine lv_iinc (v := v_26846) (lv' := [(5, .int v_26846), (6, .int 0), (0, .ref a0), (1, .int x0), (2, .int v_26792), (3, .int v_26793), (4, .int i26794_4)]) hx hb dX7_bridge_113 hl (k := 6) rfl (by rw [ev_26846]; rfl) (by decide) rfl (fun ls hl => ?_)
                      have fv_26846 : v_26846.toInt = i26794_5.toInt + 1 := by rw [ev_26846]; exact ka_add (x := i26794_5.toInt) (y := 1) rfl (by decide) (by omega) (by omega)
                      refine lv_goto (tgt := 33) hx hb dX7_bridge_116 (by decide) ?_
                      exact ih_26794 i26794_4 v_26846 ⟨by omega, by omega⟩ ⟨by omega, by omega⟩ (by omega) ls (lv_sub hl [2, 3, 4, 5, 6, 0] rfl)
                    · have c_26845 : ¬ v_26844.toInt ≤ v_26842.toInt := by rw [ka_le'] at c_26845; exact c_26845
                      refine lv_iload hx hb dX7_bridge_109 (lv_at hl 6 rfl) ?_
                      refine lv_istore (lv' := [(4, .int i26794_5), (6, .int 0), (0, .ref a0), (1, .int x0), (2, .int v_26792), (3, .int v_26793), (5, .int i26794_5)]) hx hb dX7_bridge_111 hl (by decide) rfl (fun ls hl => ?_)
                      obtain ⟨v_26847, ev_26847⟩ : ∃ y : Int32, y = i26794_5 + 1 := ⟨_, rfl⟩
                      refine lv_iinc (v := v_26847) (lv' := [(5, .int v_26847), (4, .int i26794_5), (6, .int 0), (0, .ref a0), (1, .int x0), (2, .int v_26792), (3, .int v_26793)]) hx hb dX7_bridge_113 hl (k := 6) rfl (by rw [ev_26847]; rfl) (by decide) rfl (fun ls hl => ?_)
                      have fv_26847 : v_26847.toInt = i26794_5.toInt + 1 := by rw [ev_26847]; exact ka_add (x := i26794_5.toInt) (y := 1) rfl (by decide) (by omega) (by omega)
                      refine lv_goto (tgt := 33) hx hb dX7_bridge_116 (by decide) ?_
                      exact ih_26794 i26794_5 v_26847 ⟨by omega, by omega⟩ ⟨by omega, by omega⟩ (by omega) ls (lv_sub hl [3, 4, 5, 6, 1, 0] rfl)
                · have c_26838 : ¬ v_26837.toInt = 0 := by rw [ka_eq', show ((0 : Int32)).toInt = 0 from by decide] at c_26838; exact c_26838
                  refine lv_goto (tgt := 113) hx hb dX7_bridge_83 (by decide) ?_
                  obtain ⟨v_26848, ev_26848⟩ : ∃ y : Int32, y = i26794_5 + 1 := ⟨_, rfl⟩
                  refine lv_iinc (v := v_26848) (lv' := [(5, .int v_26848), (6, .int 0), (0, .ref a0), (1, .int x0), (2, .int v_26792), (3, .int v_26793), (4, .int i26794_4)]) hx hb dX7_bridge_113 hl (k := 6) rfl (by rw [ev_26848]; rfl) (by decide) rfl (fun ls hl => ?_)
                  have fv_26848 : v_26848.toInt = i26794_5.toInt + 1 := by rw [ev_26848]; exact ka_add (x := i26794_5.toInt) (y := 1) rfl (by decide) (by omega) (by omega)
                  refine lv_goto (tgt := 33) hx hb dX7_bridge_116 (by decide) ?_
                  exact ih_26794 i26794_4 v_26848 ⟨by omega, by omega⟩ ⟨by omega, by omega⟩ (by omega) ls (lv_sub hl [2, 3, 4, 5, 6, 0] rfl)
            · have c_26832 : v_26831.toInt = 1 := by rw [ka_eq', show ((1 : Int32)).toInt = 1 from by decide] at c_26832; exact c_26832
              refine lv_iload_n hx hb dX7_bridge_54 rfl (lv_at hl 2 rfl) ?_
              refine lv_goto (tgt := 59) hx hb dX7_bridge_55 (by decide) ?_
              refine lv_istore (lv' := [(6, .int v_26792), (0, .ref a0), (1, .int x0), (2, .int v_26792), (3, .int v_26793), (4, .int i26794_4), (5, .int i26794_5)]) hx hb dX7_bridge_59 hl (by decide) rfl (fun ls hl => ?_)
              refine lv_iload_n hx hb dX7_bridge_61 rfl (lv_at hl 4 rfl) ?_
              refine lv_iload hx hb dX7_bridge_62 (lv_at hl 6 rfl) ?_
              refine lv_ishr hx hb dX7_bridge_64 ?_
              refine lv_topi (fun v_26849 ev_26849 => ?_)
              refine lv_iconst (v := 1) hx hb dX7_bridge_65 (by decide) ?_
              refine lv_iand hx hb dX7_bridge_66 ?_
              refine lv_topi (fun v_26850 ev_26850 => ?_)
              refine lv_iconst (v := 1) hx hb dX7_bridge_67 (by decide) ?_
              refine lv_icmp_eq (tgt := 113) hx hb dX7_bridge_68 (by decide) (fun c_26851 => ?_) (fun c_26851 => ?_)
              · have c_26851 : v_26850.toInt = 1 := by rw [ka_eq', show ((1 : Int32)).toInt = 1 from by decide] at c_26851; exact c_26851
                obtain ⟨v_26852, ev_26852⟩ : ∃ y : Int32, y = i26794_5 + 1 := ⟨_, rfl⟩
                refine lv_iinc (v := v_26852) (lv' := [(5, .int v_26852), (6, .int v_26792), (0, .ref a0), (1, .int x0), (2, .int v_26792), (3, .int v_26793), (4, .int i26794_4)]) hx hb dX7_bridge_113 hl (k := 6) rfl (by rw [ev_26852]; rfl) (by decide) rfl (fun ls hl => ?_)
                have fv_26852 : v_26852.toInt = i26794_5.toInt + 1 := by rw [ev_26852]; exact ka_add (x := i26794_5.toInt) (y := 1) rfl (by decide) (by omega) (by omega)
                refine lv_goto (tgt := 33) hx hb dX7_bridge_116 (by decide) ?_
                exact ih_26794 i26794_4 v_26852 ⟨by omega, by omega⟩ ⟨by omega, by omega⟩ (by omega) ls (lv_sub hl [2, 3, 4, 5, 6, 0] rfl)
              · have c_26851 : ¬ v_26850.toInt = 1 := by rw [ka_eq', show ((1 : Int32)).toInt = 1 from by decide] at c_26851; exact c_26851
                refine lv_aload_n hx hb dX7_bridge_71 rfl (lv_at hl 1 rfl) ?_
                refine lv_iload_n hx hb dX7_bridge_72 rfl (lv_at hl 3 rfl) ?_
                refine lv_iload hx hb dX7_bridge_73 (lv_at hl 6 rfl) ?_
                refine ka_RV (n := 2) C (cg_X7_tellOne_264 l D F a0 v_26792 i26794_5 a1 x1 a2 a3 a4 a5 a6 a7 a8 x2 x3 x4 x5 x6 x7 x8 a9 a10 a11 a12 a13 a14 x9 x10 x11 x12 x13 x14 k0 f0 k1 f1 ⟨by omega, by omega⟩ ⟨by omega, by omega⟩ ⟨by omega, by omega⟩ ⟨by omega, by omega⟩ ⟨by omega, by omega⟩ ⟨by omega, by omega⟩ ⟨by omega, by omega⟩ ⟨by omega, by omega⟩ ⟨by omega, by omega⟩ ⟨by omega, by omega⟩ ⟨by omega, by omega⟩ hf1) gX7_bridge_X7_tellOne rfl (by decide +kernel) ⟨Nat.le_of_ble_eq_true rfl, Nat.le_of_ble_eq_true rfl⟩ hK hP hS hE hN [0, 1, 2] rfl [0, 1] rfl (ci := 7) rfl rfl 0 rfl rfl hl.1 (rest := []) rfl (Nat.le_of_ble_eq_true rfl) dX7_bridge_75 ⟨Nat.le_of_ble_eq_true rfl, Nat.le_of_ble_eq_true rfl⟩ (fun v hv => ?_)
                obtain ⟨v_26853, rfl⟩ := hv
                have rv_26853 := ka_rng v_26853
                refine ka_stk (w := [.int v_26853]) rfl ?_
                refine lv_iload hx hb dX7_bridge_78 (lv_at hl 0 rfl) ?_
                refine lv_icmp_eq (tgt := 86) hx hb dX7_bridge_80 (by decide) (fun c_26854 => ?_) (fun c_26854 => ?_)
                · have c_26854 : v_26853.toInt = v_26792.toInt := by rw [ka_eq'] at c_26854; exact c_26854
                  refine lv_iload hx hb dX7_bridge_86 (lv_at hl 5 rfl) ?_
                  refine lv_iconst (v := (-1)) hx hb dX7_bridge_88 (by decide) ?_
                  refine lv_icmp_eq (tgt := 109) hx hb dX7_bridge_89 (by decide) (fun c_26855 => ?_) (fun c_26855 => ?_)
                  · have c_26855 : i26794_4.toInt = -1 := by rw [ka_eq', show ((-1 : Int32)).toInt = -1 from by decide] at c_26855; exact c_26855
                    refine lv_iload hx hb dX7_bridge_109 (lv_at hl 6 rfl) ?_
                    refine lv_istore (lv' := [(4, .int i26794_5), (6, .int v_26792), (0, .ref a0), (1, .int x0), (2, .int v_26792), (3, .int v_26793), (5, .int i26794_5)]) hx hb dX7_bridge_111 hl (by decide) rfl (fun ls hl => ?_)
                    obtain ⟨v_26856, ev_26856⟩ : ∃ y : Int32, y = i26794_5 + 1 := ⟨_, rfl⟩
                    refine lv_iinc (v := v_26856) (lv' := [(5, .int v_26856), (4, .int i26794_5), (6, .int v_26792), (0, .ref a0), (1, .int x0), (2, .int v_26792), (3, .int v_26793)]) hx hb dX7_bridge_113 hl (k := 6) rfl (by rw [ev_26856]; rfl) (by decide) rfl (fun ls hl => ?_)
                    have fv_26856 : v_26856.toInt = i26794_5.toInt + 1 := by rw [ev_26856]; exact ka_add (x := i26794_5.toInt) (y := 1) rfl (by decide) (by omega) (by omega)
                    refine lv_goto (tgt := 33) hx hb dX7_bridge_116 (by decide) ?_
                    exact ih_26794 i26794_5 v_26856 ⟨by omega, by omega⟩ ⟨by omega, by omega⟩ (by omega) ls (lv_sub hl [3, 4, 5, 6, 1, 0] rfl)
                  · have c_26855 : ¬ i26794_4.toInt = -1 := by rw [ka_eq', show ((-1 : Int32)).toInt = -1 from by decide] at c_26855; exact c_26855
                    refine lv_iload hx hb dX7_bridge_92 (lv_at hl 6 rfl) ?_
                    refine lv_iload_n hx hb dX7_bridge_94 rfl (lv_at hl 2 rfl) ?_
                    refine lv_ixor hx hb dX7_bridge_95 ?_
                    refine lv_topi (fun v_26857 ev_26857 => ?_)
                    refine ka_RS (n := 1) C (cg_X7_many_262 l D F v_26857) gX7_bridge_X7_many rfl (by decide +kernel) ⟨Nat.le_of_ble_eq_true rfl, Nat.le_of_ble_eq_true rfl⟩ hK hP hS hE hN [] rfl [] rfl rfl hl.1 (rest := []) rfl (Nat.le_of_ble_eq_true rfl) dX7_bridge_96 ⟨Nat.le_of_ble_eq_true rfl, Nat.le_of_ble_eq_true rfl⟩ (fun v hv => ?_)
                    obtain ⟨v_26858, rfl⟩ := hv
                    have rv_26858 := ka_rng v_26858
                    refine ka_stk (w := [.int v_26858]) rfl ?_
                    refine lv_iload hx hb dX7_bridge_99 (lv_at hl 5 rfl) ?_
                    refine lv_iload_n hx hb dX7_bridge_101 rfl (lv_at hl 2 rfl) ?_
                    refine lv_ixor hx hb dX7_bridge_102 ?_
                    refine lv_topi (fun v_26859 ev_26859 => ?_)
                    refine ka_RS (n := 1) C (cg_X7_many_262 l D F v_26859) gX7_bridge_X7_many rfl (by decide +kernel) ⟨Nat.le_of_ble_eq_true rfl, Nat.le_of_ble_eq_true rfl⟩ hK hP hS hE hN [] rfl [] rfl rfl hl.1 (rest := [.int v_26858]) rfl (Nat.le_of_ble_eq_true rfl) dX7_bridge_103 ⟨Nat.le_of_ble_eq_true rfl, Nat.le_of_ble_eq_true rfl⟩ (fun v hv => ?_)
                    obtain ⟨v_26860, rfl⟩ := hv
                    have rv_26860 := ka_rng v_26860
                    refine ka_stk (w := [.int v_26860, .int v_26858]) rfl ?_
                    refine lv_icmp_ge (tgt := 113) hx hb dX7_bridge_106 (by decide) (fun c_26861 => ?_) (fun c_26861 => ?_)
                    · have c_26861 : v_26860.toInt ≤ v_26858.toInt := by rw [ka_le'] at c_26861; exact c_26861
                      obtain ⟨v_26862, ev_26862⟩ : ∃ y : Int32, y = i26794_5 + 1 := ⟨_, rfl⟩
                      refine lv_iinc (v := v_26862) (lv' := [(5, .int v_26862), (6, .int v_26792), (0, .ref a0), (1, .int x0), (2, .int v_26792), (3, .int v_26793), (4, .int i26794_4)]) hx hb dX7_bridge_113 hl (k := 6) rfl (by rw [ev_26862]; rfl) (by decide) rfl (fun ls hl => ?_)
                      have fv_26862 : v_26862.toInt = i26794_5.toInt + 1 := by rw [ev_26862]; exact ka_add (x := i26794_5.toInt) (y := 1) rfl (by decide) (by omega) (by omega)
                      refine lv_goto (tgt := 33) hx hb dX7_bridge_116 (by decide) ?_
                      exact ih_26794 i26794_4 v_26862 ⟨by omega, by omega⟩ ⟨by omega, by omega⟩ (by omega) ls (lv_sub hl [2, 3, 4, 5, 6, 0] rfl)
                    · have c_26861 : ¬ v_26860.toInt ≤ v_26858.toInt := by rw [ka_le'] at c_26861; exact c_26861
                      refine lv_iload hx hb dX7_bridge_109 (lv_at hl 6 rfl) ?_
                      refine lv_istore (lv' := [(4, .int i26794_5), (6, .int v_26792), (0, .ref a0), (1, .int x0), (2, .int v_26792), (3, .int v_26793), (5, .int i26794_5)]) hx hb dX7_bridge_111 hl (by decide) rfl (fun ls hl => ?_)
                      obtain ⟨v_26863, ev_26863⟩ : ∃ y : Int32, y = i26794_5 + 1 := ⟨_, rfl⟩
                      refine lv_iinc (v := v_26863) (lv' := [(5, .int v_26863), (4, .int i26794_5), (6, .int v_26792), (0, .ref a0), (1, .int x0), (2, .int v_26792), (3, .int v_26793)]) hx hb dX7_bridge_113 hl (k := 6) rfl (by rw [ev_26863]; rfl) (by decide) rfl (fun ls hl => ?_)
                      have fv_26863 : v_26863.toInt = i26794_5.toInt + 1 := by rw [ev_26863]; exact ka_add (x := i26794_5.toInt) (y := 1) rfl (by decide) (by omega) (by omega)
                      refine lv_goto (tgt := 33) hx hb dX7_bridge_116 (by decide) ?_
                      exact ih_26794 i26794_5 v_26863 ⟨by omega, by omega⟩ ⟨by omega, by omega⟩ (by omega) ls (lv_sub hl [3, 4, 5, 6, 1, 0] rfl)
                · have c_26854 : ¬ v_26853.toInt = v_26792.toInt := by rw [ka_eq'] at c_26854; exact c_26854
                  refine lv_goto (tgt := 113) hx hb dX7_bridge_83 (by decide) ?_
                  obtain ⟨v_26864, ev_26864⟩ : ∃ y : Int32, y = i26794_5 + 1 := ⟨_, rfl⟩
                  refine lv_iinc (v := v_26864) (lv' := [(5, .int v_26864), (6, .int v_26792), (0, .ref a0), (1, .int x0), (2, .int v_26792), (3, .int v_26793), (4, .int i26794_4)]) hx hb dX7_bridge_113 hl (k := 6) rfl (by rw [ev_26864]; rfl) (by decide) rfl (fun ls hl => ?_)
                  have fv_26864 : v_26864.toInt = i26794_5.toInt + 1 := by rw [ev_26864]; exact ka_add (x := i26794_5.toInt) (y := 1) rfl (by decide) (by omega) (by omega)
                  refine lv_goto (tgt := 33) hx hb dX7_bridge_116 (by decide) ?_
                  exact ih_26794 i26794_4 v_26864 ⟨by omega, by omega⟩ ⟨by omega, by omega⟩ (by omega) ls (lv_sub hl [2, 3, 4, 5, 6, 0] rfl)
      exact lp_26794 _ (-1) 0 ⟨by decide, by decide⟩ ⟨by decide, by decide⟩ (Nat.lt_succ_self _) ls (lv_sub hl [4, 5, 3, 2, 1, 0] rfl)
    · have c_26791 : v_26790.toInt = 0 := by rw [ka_eq', show ((0 : Int32)).toInt = 0 from by decide] at c_26791; exact c_26791
      refine lv_iconst (v := (-1)) hx hb dX7_bridge_15 (by decide) ?_
      exact ka_rRi C hr hlk ⟨_, rfl, ⟨by decide, by decide⟩⟩ dX7_bridge_16
theorem lq_345 : ∀ w ∈ wsX70, w ∈ wsX7_wrongs := by decide +kernel
theorem lq_346 : Cond.fieldLink RX7 169 "AskedBackModel" "answers" "I" ∈ wsX7_wrongs := by decide +kernel
theorem lq_347 : Cond.fieldLink RX7 46 "AskedBackModel" "asked" "[I" ∈ wsX7_wrongs := by decide +kernel
set_option maxHeartbeats 4000000 in
set_option maxRecDepth 100000 in
theorem cg_X7_wrongs_274 (l : Launch) (D : va_G) (F : Nat → Prop) (a0 : Nat) (x0 : Int32) (a1 : Nat) (x1 : Int32) (a2 : Nat) (a3 : Nat) (a4 : Nat) (a5 : Nat) (a6 : Nat) (a7 : Nat) (a8 : Nat) (x2 : Int32) (x3 : Int32) (x4 : Int32) (x5 : Int32) (x6 : Int32) (x7 : Int32) (x8 : Int32) (a9 : Nat) (a10 : Nat) (a11 : Nat) (a12 : Nat) (a13 : Nat) (a14 : Nat) (x9 : Int32) (x10 : Int32) (x11 : Int32) (x12 : Int32) (x13 : Int32) (x14 : Int32) (k0 : ClassId) (f0 : Nat → Int32) (k1 : ClassId) (f1 : Nat → Int32) (k2 : ClassId) (f2 : Nat → Int32) (hx1 : 0 ≤ x1.toInt ∧ x1.toInt ≤ 80) (hx2 : 0 ≤ x2.toInt ∧ x2.toInt ≤ 5) (hx5 : 1 ≤ x5.toInt ∧ x5.toInt ≤ 8) (hx6 : 0 ≤ x6.toInt ∧ x6.toInt ≤ 40) (hx8 : 0 ≤ x8.toInt ∧ x8.toInt ≤ 10) (hx9 : 0 ≤ x9.toInt ∧ x9.toInt ≤ 60) (hx10 : 0 ≤ x10.toInt ∧ x10.toInt ≤ 60) (hx11 : 0 ≤ x11.toInt ∧ x11.toInt ≤ 60) (hx12 : 0 ≤ x12.toInt ∧ x12.toInt ≤ 8) (hx14 : 0 ≤ x14.toInt ∧ x14.toInt ≤ 1) : ka_R l D F yX7_wrongs wsX7_wrongs 2 43 [.ref a0, .int x0] [(a0, .inr (7, [.ref a1, .int x1, .ref a2, .ref a3, .ref a4, .ref a5, .ref a6, .ref a7, .ref a8, .int x2, .int x3, .int x4, .int x5, .int x6, .int x7, .int x8, .ref a9, .ref a10, .ref a11, .ref a12, .ref a13, .ref a14, .int x9, .int x10, .int x11, .int x12, .int x13, .int x14])), (a2, .inl (k0, 89, .inl f0)), (a9, .inl (k1, 40, .inl f1)), (a10, .inl (k2, 40, .inl f2))] [(k0, .int), (k1, .int), (k2, .int)] (fun v => ∃ x : Int32, v = some (.int x)) := by
  refine ka_R_of (cc := cX7_wrongs) (maxL := 4) (ret := (some .int)) (by decide) rfl (Nat.le_of_ble_eq_true rfl) ?_
  intro p e s m below meth c ls C hr hlk hP hK hE hN hl
  have hS : va_S (fun _ => False) s.heap s.heap [] := va_S.rf
  have C : CallFix p m c cX7_wrongs 4 s [.ref a0, .int x0].toArray wsX7_wrongs RX7 := C
  obtain ⟨hx, hb, hml, hown, hts⟩ := id C
  have hl : lv_has ls 4 [(0, .ref a0), (1, .int x0)] := hl
  have rx0 := ka_rng x0
  have rx1 := ka_rng x1
  have rx2 := ka_rng x2
  have rx3 := ka_rng x3
  have rx4 := ka_rng x4
  have rx5 := ka_rng x5
  have rx6 := ka_rng x6
  have rx7 := ka_rng x7
  have rx8 := ka_rng x8
  have rx9 := ka_rng x9
  have rx10 := ka_rng x10
  have rx11 := ka_rng x11
  have rx12 := ka_rng x12
  have rx13 := ka_rng x13
  have rx14 := ka_rng x14
  refine lv_iconst (v := 0) hx hb dX7_wrongs_0 (by decide) ?_
  refine lv_istore_n (lv' := [(2, .int 0), (0, .ref a0), (1, .int x0)]) hx hb dX7_wrongs_1 rfl hl (by decide) rfl (fun ls hl => ?_)
  refine lv_iconst (v := 0) hx hb dX7_wrongs_2 (by decide) ?_
  refine lv_istore_n (lv' := [(3, .int 0), (2, .int 0), (0, .ref a0), (1, .int x0)]) hx hb dX7_wrongs_3 rfl hl (by decide) rfl (fun ls hl => ?_)
  have lp_26970 : ∀ (n : Nat) (i26970_2 : Int32) (i26970_3 : Int32), (0 ≤ i26970_3.toInt ∧ i26970_3.toInt ≤ 40) → (40 - i26970_3.toInt).toNat < n → ∀ (ls : Array Slot), lv_has ls 4 [(0, .ref a0), (1, .int x0), (2, .int i26970_2), (3, .int i26970_3)] → W p l e ({ frames := 2, cells := 0, slots := 0, locals := 43 }) s m [.ref a0, .int x0].toArray below meth c s.heap [] 0 0 (MQ below (ka_QR (fun v => ∃ x : Int32, v = some (.int x))) [.ref a0, .int x0].toArray s 0 0 (fun _ => False)) (F0 m 4 ls []) := by
    intro n
    induction n with
    | zero =>
      intro i26970_2 i26970_3 hi26970_3 hm
      exact absurd hm (Nat.not_lt_zero _)
    | succ n ih_26970 =>
      intro i26970_2 i26970_3 hi26970_3 hm ls hl
      have ri26970_2 := ka_rng i26970_2
      have ri26970_3 := ka_rng i26970_3
      refine lv_iload_n hx hb dX7_wrongs_4 rfl (lv_at hl 3 rfl) ?_
      refine lv_aload_n hx hb dX7_wrongs_5 rfl (lv_at hl 0 rfl) ?_
      refine ka_get C lq_345 rfl hK hP 0 rfl 13 (by decide) lq_346 rfl dX7_wrongs_6 ?_
      refine lv_icmp_ge (tgt := 47) hx hb dX7_wrongs_9 (by decide) (fun c_26982 => ?_) (fun c_26982 => ?_)
      · have c_26982 : x6.toInt ≤ i26970_3.toInt := by rw [ka_le'] at c_26982; exact c_26982
        refine lv_iload_n hx hb dX7_wrongs_47 rfl (lv_at hl 2 rfl) ?_
        exact ka_rRi C hr hlk ⟨_, rfl⟩ dX7_wrongs_48
      · have c_26982 : ¬ x6.toInt ≤ i26970_3.toInt := by rw [ka_le'] at c_26982; exact c_26982
        refine lv_iload_n hx hb dX7_wrongs_12 rfl (lv_at hl 2 rfl) ?_
        refine lv_aload_n hx hb dX7_wrongs_13 rfl (lv_at hl 0 rfl) ?_
        refine ka_get C lq_345 rfl hK hP 0 rfl 16 (by decide) lq_347 rfl dX7_wrongs_14 ?_
        refine lv_iload_n hx hb dX7_wrongs_17 rfl (lv_at hl 3 rfl) ?_
        refine va_iald hx hb hK hP 2 1 rfl rfl (ka_in (by omega) (by omega)) dX7_wrongs_18 ?_
        refine lv_topi (fun v_26983 ev_26983 => ?_)
        refine lv_iload_n hx hb dX7_wrongs_19 rfl (lv_at hl 1 rfl) ?_
        refine lv_icmp_ne (tgt := 35) hx hb dX7_wrongs_20 (by decide) (fun c_26984 => ?_) (fun c_26984 => ?_)
        · have c_26984 : ¬ v_26983.toInt = x0.toInt := by rw [ka_eq'] at c_26984; exact c_26984
          refine lv_iconst (v := 0) hx hb dX7_wrongs_35 (by decide) ?_
          refine ka_RS (n := 1) C (cg_X7_one_253 l D F ) gX7_wrongs_X7_one rfl (by decide +kernel) ⟨Nat.le_of_ble_eq_true rfl, Nat.le_of_ble_eq_true rfl⟩ hK hP hS hE hN [] rfl [] rfl rfl hl.1 (rest := [.int i26970_2]) rfl (Nat.le_of_ble_eq_true rfl) dX7_wrongs_36 ⟨Nat.le_of_ble_eq_true rfl, Nat.le_of_ble_eq_true rfl⟩ (fun v hv => ?_)
          subst hv
          refine ka_stk (w := [.int 0, .int i26970_2]) rfl ?_
          refine lv_iadd hx hb dX7_wrongs_39 ?_
          refine lv_topi (fun v_26985 ev_26985 => ?_)
          have fv_26985 : v_26985.toInt = i26970_2.toInt + 0 := by rw [ev_26985]; exact ka_add (x := i26970_2.toInt) (y := 0) rfl (by decide) (by omega) (by omega)
          refine lv_istore_n (lv' := [(2, .int v_26985), (0, .ref a0), (1, .int x0), (3, .int i26970_3)]) hx hb dX7_wrongs_40 rfl hl (by decide) rfl (fun ls hl => ?_)
          obtain ⟨v_26986, ev_26986⟩ : ∃ y : Int32, y = i26970_3 + 1 := ⟨_, rfl⟩
          refine lv_iinc (v := v_26986) (lv' := [(3, .int v_26986), (2, .int v_26985), (0, .ref a0), (1, .int x0)]) hx hb dX7_wrongs_41 hl (k := 3) rfl (by rw [ev_26986]; rfl) (by decide) rfl (fun ls hl => ?_)
          have fv_26986 : v_26986.toInt = i26970_3.toInt + 1 := by rw [ev_26986]; exact ka_add (x := i26970_3.toInt) (y := 1) rfl (by decide) (by omega) (by omega)
          refine lv_goto (tgt := 4) hx hb dX7_wrongs_44 (by decide) ?_
          exact ih_26970 v_26985 v_26986 ⟨by omega, by omega⟩ (by omega) ls (lv_sub hl [2, 3, 1, 0] rfl)
        · have c_26984 : v_26983.toInt = x0.toInt := by rw [ka_eq'] at c_26984; exact c_26984
          refine lv_aload_n hx hb dX7_wrongs_23 rfl (lv_at hl 0 rfl) ?_
          refine lv_iload_n hx hb dX7_wrongs_24 rfl (lv_at hl 3 rfl) ?_
          refine ka_RV (n := 1) C (cg_X7_isRight_251 l D F a0 i26970_3 a1 x1 a2 a3 a4 a5 a6 a7 a8 x2 x3 x4 x5 x6 x7 x8 a9 a10 a11 a12 a13 a14 x9 x10 x11 x12 x13 x14 k0 f0 k1 f1 k2 f2 ⟨by omega, by omega⟩ ⟨by omega, by omega⟩ ⟨by omega, by omega⟩ ⟨by omega, by omega⟩ ⟨by omega, by omega⟩ ⟨by omega, by omega⟩ ⟨by omega, by omega⟩ ⟨by omega, by omega⟩ ⟨by omega, by omega⟩ ⟨by omega, by omega⟩ ⟨by omega, by omega⟩) gX7_wrongs_X7_isRight rfl (by decide +kernel) ⟨Nat.le_of_ble_eq_true rfl, Nat.le_of_ble_eq_true rfl⟩ hK hP hS hE hN [0, 1, 2, 3] rfl [0, 1, 2] rfl (ci := 7) rfl rfl 0 rfl rfl hl.1 (rest := [.int i26970_2]) rfl (Nat.le_of_ble_eq_true rfl) dX7_wrongs_25 ⟨Nat.le_of_ble_eq_true rfl, Nat.le_of_ble_eq_true rfl⟩ (fun v hv => ?_)
          obtain ⟨v_26987, rfl, hv_26987⟩ := hv
          have rv_26987 := ka_rng v_26987
          refine ka_stk (w := [.int v_26987, .int i26970_2]) rfl ?_
          refine lv_if_ne (tgt := 35) hx hb dX7_wrongs_28 (by decide) (fun c_26988 => ?_) (fun c_26988 => ?_)
          · have c_26988 : ¬ v_26987.toInt = 0 := by rw [ka_eq', show ((0 : Int32)).toInt = 0 from by decide] at c_26988; exact c_26988
            refine lv_iconst (v := 0) hx hb dX7_wrongs_35 (by decide) ?_
            refine ka_RS (n := 1) C (cg_X7_one_253 l D F ) gX7_wrongs_X7_one rfl (by decide +kernel) ⟨Nat.le_of_ble_eq_true rfl, Nat.le_of_ble_eq_true rfl⟩ hK hP hS hE hN [] rfl [] rfl rfl hl.1 (rest := [.int i26970_2]) rfl (Nat.le_of_ble_eq_true rfl) dX7_wrongs_36 ⟨Nat.le_of_ble_eq_true rfl, Nat.le_of_ble_eq_true rfl⟩ (fun v hv => ?_)
            subst hv
            refine ka_stk (w := [.int 0, .int i26970_2]) rfl ?_
            refine lv_iadd hx hb dX7_wrongs_39 ?_
            refine lv_topi (fun v_26989 ev_26989 => ?_)
            have fv_26989 : v_26989.toInt = i26970_2.toInt + 0 := by rw [ev_26989]; exact ka_add (x := i26970_2.toInt) (y := 0) rfl (by decide) (by omega) (by omega)
            refine lv_istore_n (lv' := [(2, .int v_26989), (0, .ref a0), (1, .int x0), (3, .int i26970_3)]) hx hb dX7_wrongs_40 rfl hl (by decide) rfl (fun ls hl => ?_)
            obtain ⟨v_26990, ev_26990⟩ : ∃ y : Int32, y = i26970_3 + 1 := ⟨_, rfl⟩
            refine lv_iinc (v := v_26990) (lv' := [(3, .int v_26990), (2, .int v_26989), (0, .ref a0), (1, .int x0)]) hx hb dX7_wrongs_41 hl (k := 3) rfl (by rw [ev_26990]; rfl) (by decide) rfl (fun ls hl => ?_)
            have fv_26990 : v_26990.toInt = i26970_3.toInt + 1 := by rw [ev_26990]; exact ka_add (x := i26970_3.toInt) (y := 1) rfl (by decide) (by omega) (by omega)
            refine lv_goto (tgt := 4) hx hb dX7_wrongs_44 (by decide) ?_
            exact ih_26970 v_26989 v_26990 ⟨by omega, by omega⟩ (by omega) ls (lv_sub hl [2, 3, 1, 0] rfl)
          · have c_26988 : v_26987.toInt = 0 := by rw [ka_eq', show ((0 : Int32)).toInt = 0 from by decide] at c_26988; exact c_26988
            refine lv_iconst (v := 1) hx hb dX7_wrongs_31 (by decide) ?_
            refine lv_goto (tgt := 36) hx hb dX7_wrongs_32 (by decide) ?_
            refine ka_RS (n := 1) C (cg_X7_one_254 l D F ) gX7_wrongs_X7_one rfl (by decide +kernel) ⟨Nat.le_of_ble_eq_true rfl, Nat.le_of_ble_eq_true rfl⟩ hK hP hS hE hN [] rfl [] rfl rfl hl.1 (rest := [.int i26970_2]) rfl (Nat.le_of_ble_eq_true rfl) dX7_wrongs_36 ⟨Nat.le_of_ble_eq_true rfl, Nat.le_of_ble_eq_true rfl⟩ (fun v hv => ?_)
            subst hv
            refine ka_stk (w := [.int 1, .int i26970_2]) rfl ?_
            refine lv_iadd hx hb dX7_wrongs_39 ?_
            refine lv_topi (fun v_26991 ev_26991 => ?_)
            refine lv_istore_n (lv' := [(2, .int v_26991), (0, .ref a0), (1, .int x0), (3, .int i26970_3)]) hx hb dX7_wrongs_40 rfl hl (by decide) rfl (fun ls hl => ?_)
            obtain ⟨v_26992, ev_26992⟩ : ∃ y : Int32, y = i26970_3 + 1 := ⟨_, rfl⟩
            refine lv_iinc (v := v_26992) (lv' := [(3, .int v_26992), (2, .int v_26991), (0, .ref a0), (1, .int x0)]) hx hb dX7_wrongs_41 hl (k := 3) rfl (by rw [ev_26992]; rfl) (by decide) rfl (fun ls hl => ?_)
            have fv_26992 : v_26992.toInt = i26970_3.toInt + 1 := by rw [ev_26992]; exact ka_add (x := i26970_3.toInt) (y := 1) rfl (by decide) (by omega) (by omega)
            refine lv_goto (tgt := 4) hx hb dX7_wrongs_44 (by decide) ?_
            exact ih_26970 v_26991 v_26992 ⟨by omega, by omega⟩ (by omega) ls (lv_sub hl [2, 3, 1, 0] rfl)
  exact lp_26970 _ 0 0 ⟨by decide, by decide⟩ (Nat.lt_succ_self _) ls (lv_sub hl [2, 3, 1, 0] rfl)
theorem lq_348 : ∀ w ∈ wsX70, w ∈ wsX7_reveal := by decide +kernel
theorem lq_349 : Cond.fieldLink RX7 36 "AskedBackModel" "lesson" "I" ∈ wsX7_reveal := by decide +kernel
theorem lq_350 : Cond.fieldLink RX7 40 "AskedBackModel" "tries" "I" ∈ wsX7_reveal := by decide +kernel
set_option maxHeartbeats 4000000 in
set_option maxRecDepth 100000 in
theorem cg_X7_reveal_275 (l : Launch) (D : va_G) (F : Nat → Prop) (a0 : Nat) (x0 : Int32) (a1 : Nat) (x1 : Int32) (a2 : Nat) (a3 : Nat) (a4 : Nat) (a5 : Nat) (a6 : Nat) (a7 : Nat) (a8 : Nat) (x2 : Int32) (x3 : Int32) (x4 : Int32) (x5 : Int32) (x6 : Int32) (x7 : Int32) (x8 : Int32) (a9 : Nat) (a10 : Nat) (a11 : Nat) (a12 : Nat) (a13 : Nat) (a14 : Nat) (x9 : Int32) (x10 : Int32) (x11 : Int32) (x12 : Int32) (x13 : Int32) (x14 : Int32) (k0 : ClassId) (f0 : Nat → Int32) (k1 : ClassId) (f1 : Nat → Int32) (k2 : ClassId) (f2 : Nat → Int32) (hx1 : 0 ≤ x1.toInt ∧ x1.toInt ≤ 80) (hx2 : -1 ≤ x2.toInt ∧ x2.toInt ≤ 5) (hx5 : 1 ≤ x5.toInt ∧ x5.toInt ≤ 8) (hx6 : 0 ≤ x6.toInt ∧ x6.toInt ≤ 40) (hx8 : 0 ≤ x8.toInt ∧ x8.toInt ≤ 10) (hx9 : 0 ≤ x9.toInt ∧ x9.toInt ≤ 60) (hx10 : 0 ≤ x10.toInt ∧ x10.toInt ≤ 60) (hx11 : 0 ≤ x11.toInt ∧ x11.toInt ≤ 60) (hx12 : 0 ≤ x12.toInt ∧ x12.toInt ≤ 8) (hx14 : 0 ≤ x14.toInt ∧ x14.toInt ≤ 1) : ka_R l D F yX7_reveal wsX7_reveal 3 66 [.ref a0, .int x0] [(a0, .inr (7, [.ref a1, .int x1, .ref a2, .ref a3, .ref a4, .ref a5, .ref a6, .ref a7, .ref a8, .int x2, .int x3, .int x4, .int x5, .int x6, .int x7, .int x8, .ref a9, .ref a10, .ref a11, .ref a12, .ref a13, .ref a14, .int x9, .int x10, .int x11, .int x12, .int x13, .int x14])), (a2, .inl (k0, 89, .inl f0)), (a9, .inl (k1, 40, .inl f1)), (a10, .inl (k2, 40, .inl f2))] [(k0, .int), (k1, .int), (k2, .int)] (fun v => ∃ x : Int32, v = some (.int x)) := by
  refine ka_R_of (cc := cX7_reveal) (maxL := 2) (ret := (some .int)) (by decide) rfl (Nat.le_of_ble_eq_true rfl) ?_
  intro p e s m below meth c ls C hr hlk hP hK hE hN hl
  have hS : va_S (fun _ => False) s.heap s.heap [] := va_S.rf
  have C : CallFix p m c cX7_reveal 2 s [.ref a0, .int x0].toArray wsX7_reveal RX7 := C
  obtain ⟨hx, hb, hml, hown, hts⟩ := id C
  have hl : lv_has ls 2 [(0, .ref a0), (1, .int x0)] := hl
  have rx0 := ka_rng x0
  have rx1 := ka_rng x1
  have rx2 := ka_rng x2
  have rx3 := ka_rng x3
  have rx4 := ka_rng x4
  have rx5 := ka_rng x5
  have rx6 := ka_rng x6
  have rx7 := ka_rng x7
  have rx8 := ka_rng x8
  have rx9 := ka_rng x9
  have rx10 := ka_rng x10
  have rx11 := ka_rng x11
  have rx12 := ka_rng x12
  have rx13 := ka_rng x13
  have rx14 := ka_rng x14
  refine lv_aload_n hx hb dX7_reveal_0 rfl (lv_at hl 0 rfl) ?_
  refine ka_get C lq_348 rfl hK hP 0 rfl 9 (by decide) lq_349 rfl dX7_reveal_1 ?_
  refine lv_iconst (v := (-1)) hx hb dX7_reveal_4 (by decide) ?_
  refine lv_icmp_eq (tgt := 39) hx hb dX7_reveal_5 (by decide) (fun c_27002 => ?_) (fun c_27002 => ?_)
  · have c_27002 : x2.toInt = -1 := by rw [ka_eq', show ((-1 : Int32)).toInt = -1 from by decide] at c_27002; exact c_27002
    refine lv_iconst (v := (-1)) hx hb dX7_reveal_39 (by decide) ?_
    exact ka_rRi C hr hlk ⟨_, rfl⟩ dX7_reveal_40
  · have c_27002 : ¬ x2.toInt = -1 := by rw [ka_eq', show ((-1 : Int32)).toInt = -1 from by decide] at c_27002; exact c_27002
    refine lv_iload_n hx hb dX7_reveal_8 rfl (lv_at hl 1 rfl) ?_
    refine ka_RS (n := 1) C (cg_X7_isCase_248 l D F x0) gX7_reveal_X7_isCase rfl (by decide +kernel) ⟨Nat.le_of_ble_eq_true rfl, Nat.le_of_ble_eq_true rfl⟩ hK hP hS hE hN [] rfl [] rfl rfl hl.1 (rest := []) rfl (Nat.le_of_ble_eq_true rfl) dX7_reveal_9 ⟨Nat.le_of_ble_eq_true rfl, Nat.le_of_ble_eq_true rfl⟩ (fun v hv => ?_)
    obtain ⟨v_27003, rfl, hv_27003⟩ := hv
    have rv_27003 := ka_rng v_27003
    refine ka_stk (w := [.int v_27003]) rfl ?_
    refine lv_if_eq (tgt := 39) hx hb dX7_reveal_12 (by decide) (fun c_27004 => ?_) (fun c_27004 => ?_)
    · have c_27004 : v_27003.toInt = 0 := by rw [ka_eq', show ((0 : Int32)).toInt = 0 from by decide] at c_27004; exact c_27004
      refine lv_iconst (v := (-1)) hx hb dX7_reveal_39 (by decide) ?_
      exact ka_rRi C hr hlk ⟨_, rfl⟩ dX7_reveal_40
    · have c_27004 : ¬ v_27003.toInt = 0 := by rw [ka_eq', show ((0 : Int32)).toInt = 0 from by decide] at c_27004; exact c_27004
      refine lv_aload_n hx hb dX7_reveal_15 rfl (lv_at hl 0 rfl) ?_
      refine lv_iload_n hx hb dX7_reveal_16 rfl (lv_at hl 1 rfl) ?_
      refine ka_RV (n := 1) C (cg_X7_wrongs_274 l D F a0 x0 a1 x1 a2 a3 a4 a5 a6 a7 a8 x2 x3 x4 x5 x6 x7 x8 a9 a10 a11 a12 a13 a14 x9 x10 x11 x12 x13 x14 k0 f0 k1 f1 k2 f2 ⟨by omega, by omega⟩ ⟨by omega, by omega⟩ ⟨by omega, by omega⟩ ⟨by omega, by omega⟩ ⟨by omega, by omega⟩ ⟨by omega, by omega⟩ ⟨by omega, by omega⟩ ⟨by omega, by omega⟩ ⟨by omega, by omega⟩ ⟨by omega, by omega⟩) gX7_reveal_X7_wrongs rfl (by decide +kernel) ⟨Nat.le_of_ble_eq_true rfl, Nat.le_of_ble_eq_true rfl⟩ hK hP hS hE hN [0, 1, 2, 3] rfl [0, 1, 2] rfl (ci := 7) rfl rfl 0 rfl rfl hl.1 (rest := []) rfl (Nat.le_of_ble_eq_true rfl) dX7_reveal_17 ⟨Nat.le_of_ble_eq_true rfl, Nat.le_of_ble_eq_true rfl⟩ (fun v hv => ?_)
      obtain ⟨v_27005, rfl⟩ := hv
      have rv_27005 := ka_rng v_27005
      refine ka_stk (w := [.int v_27005]) rfl ?_
      refine lv_aload_n hx hb dX7_reveal_20 rfl (lv_at hl 0 rfl) ?_
      refine ka_get C lq_348 rfl hK hP 0 rfl 11 (by decide) lq_350 rfl dX7_reveal_21 ?_
      refine lv_icmp_lt (tgt := 39) hx hb dX7_reveal_24 (by decide) (fun c_27006 => ?_) (fun c_27006 => ?_)
      · have c_27006 : v_27005.toInt < x4.toInt := by rw [ka_lt'] at c_27006; exact c_27006
        refine lv_iconst (v := (-1)) hx hb dX7_reveal_39 (by decide) ?_
        exact ka_rRi C hr hlk ⟨_, rfl⟩ dX7_reveal_40
      · have c_27006 : ¬ v_27005.toInt < x4.toInt := by rw [ka_lt'] at c_27006; exact c_27006
        refine lv_aload_n hx hb dX7_reveal_27 rfl (lv_at hl 0 rfl) ?_
        refine lv_aload_n hx hb dX7_reveal_28 rfl (lv_at hl 0 rfl) ?_
        refine ka_get C lq_348 rfl hK hP 0 rfl 9 (by decide) lq_349 rfl dX7_reveal_29 ?_
        refine lv_iload_n hx hb dX7_reveal_32 rfl (lv_at hl 1 rfl) ?_
        refine ka_RV (n := 2) C (cg_X7_tellsOf_250 l D F a0 x2 x0 a1 x1 a2 a3 a4 a5 a6 a7 a8 x2 x3 x4 x5 x6 x7 x8 a9 a10 a11 a12 a13 a14 x9 x10 x11 x12 x13 x14 k0 f0 ⟨by omega, by omega⟩ ⟨by omega, by omega⟩ ⟨by omega, by omega⟩ ⟨by omega, by omega⟩ ⟨by omega, by omega⟩ ⟨by omega, by omega⟩ ⟨by omega, by omega⟩ ⟨by omega, by omega⟩ ⟨by omega, by omega⟩ ⟨by omega, by omega⟩ ⟨by omega, by omega⟩) gX7_reveal_X7_tellsOf rfl (by decide +kernel) ⟨Nat.le_of_ble_eq_true rfl, Nat.le_of_ble_eq_true rfl⟩ hK hP hS hE hN [0, 1] rfl [0] rfl (ci := 7) rfl rfl 0 rfl rfl hl.1 (rest := []) rfl (Nat.le_of_ble_eq_true rfl) dX7_reveal_33 ⟨Nat.le_of_ble_eq_true rfl, Nat.le_of_ble_eq_true rfl⟩ (fun v hv => ?_)
        obtain ⟨v_27007, rfl⟩ := hv
        have rv_27007 := ka_rng v_27007
        refine ka_stk (w := [.int v_27007]) rfl ?_
        refine lv_goto (tgt := 40) hx hb dX7_reveal_36 (by decide) ?_
        exact ka_rRi C hr hlk ⟨_, rfl⟩ dX7_reveal_40
set_option maxHeartbeats 4000000 in
set_option maxRecDepth 100000 in
theorem cg_X7_latest_276 (l : Launch) (D : va_G) (F : Nat → Prop) (a0 : Nat) (x0 : Int32) (a1 : Nat) (x1 : Int32) (a2 : Nat) (a3 : Nat) (a4 : Nat) (a5 : Nat) (a6 : Nat) (a7 : Nat) (a8 : Nat) (x2 : Int32) (x3 : Int32) (x4 : Int32) (x5 : Int32) (x6 : Int32) (x7 : Int32) (x8 : Int32) (a9 : Nat) (a10 : Nat) (a11 : Nat) (a12 : Nat) (a13 : Nat) (a14 : Nat) (x9 : Int32) (x10 : Int32) (x11 : Int32) (x12 : Int32) (x13 : Int32) (x14 : Int32) (k0 : ClassId) (f0 : Nat → Int32) (k1 : ClassId) (f1 : Nat → Int32) (hx1 : 0 ≤ x1.toInt ∧ x1.toInt ≤ 80) (hx2 : 0 ≤ x2.toInt ∧ x2.toInt ≤ 5) (hx5 : 1 ≤ x5.toInt ∧ x5.toInt ≤ 8) (hx6 : 0 ≤ x6.toInt ∧ x6.toInt ≤ 40) (hx8 : 0 ≤ x8.toInt ∧ x8.toInt ≤ 10) (hx9 : 0 ≤ x9.toInt ∧ x9.toInt ≤ 60) (hx10 : 0 ≤ x10.toInt ∧ x10.toInt ≤ 60) (hx11 : 0 ≤ x11.toInt ∧ x11.toInt ≤ 60) (hx12 : 0 ≤ x12.toInt ∧ x12.toInt ≤ 8) (hx14 : 0 ≤ x14.toInt ∧ x14.toInt ≤ 1) : ka_R l D F yX7_latest wsX7_latest 0 0 [.ref a0, .int x0] [(a0, .inr (7, [.ref a1, .int x1, .ref a2, .ref a3, .ref a4, .ref a5, .ref a6, .ref a7, .ref a8, .int x2, .int x3, .int x4, .int x5, .int x6, .int x7, .int x8, .ref a9, .ref a10, .ref a11, .ref a12, .ref a13, .ref a14, .int x9, .int x10, .int x11, .int x12, .int x13, .int x14])), (a9, .inl (k0, 40, .inl f0)), (a10, .inl (k1, 40, .inl f1))] [(k0, .int), (k1, .int)] (fun v => ∃ x : Int32, v = some (.int x)) := by
  refine ka_R_of (cc := cX7_latest) (maxL := 4) (ret := (some .int)) (by decide) rfl (Nat.le_of_ble_eq_true rfl) ?_
  intro p e s m below meth c ls C hr hlk hP hK hE hN hl
  have hS : va_S (fun _ => False) s.heap s.heap [] := va_S.rf
  have C : CallFix p m c cX7_latest 4 s [.ref a0, .int x0].toArray wsX7_latest RX7 := C
  obtain ⟨hx, hb, hml, hown, hts⟩ := id C
  have hl : lv_has ls 4 [(0, .ref a0), (1, .int x0)] := hl
  have rx0 := ka_rng x0
  have rx1 := ka_rng x1
  have rx2 := ka_rng x2
  have rx3 := ka_rng x3
  have rx4 := ka_rng x4
  have rx5 := ka_rng x5
  have rx6 := ka_rng x6
  have rx7 := ka_rng x7
  have rx8 := ka_rng x8
  have rx9 := ka_rng x9
  have rx10 := ka_rng x10
  have rx11 := ka_rng x11
  have rx12 := ka_rng x12
  have rx13 := ka_rng x13
  have rx14 := ka_rng x14
  refine lv_iconst (v := (-1)) hx hb dX7_latest_0 (by decide) ?_
  refine lv_istore_n (lv' := [(2, .int (-1)), (0, .ref a0), (1, .int x0)]) hx hb dX7_latest_1 rfl hl (by decide) rfl (fun ls hl => ?_)
  refine lv_iconst (v := 0) hx hb dX7_latest_2 (by decide) ?_
  refine lv_istore_n (lv' := [(3, .int 0), (2, .int (-1)), (0, .ref a0), (1, .int x0)]) hx hb dX7_latest_3 rfl hl (by decide) rfl (fun ls hl => ?_)
  have lp_27096 : ∀ (n : Nat) (i27096_2 : Int32) (i27096_3 : Int32), (0 ≤ i27096_3.toInt ∧ i27096_3.toInt ≤ 40) → (40 - i27096_3.toInt).toNat < n → ∀ (ls : Array Slot), lv_has ls 4 [(0, .ref a0), (1, .int x0), (2, .int i27096_2), (3, .int i27096_3)] → W p l e ({ frames := 0, cells := 0, slots := 0, locals := 0 }) s m [.ref a0, .int x0].toArray below meth c s.heap [] 0 0 (MQ below (ka_QR (fun v => ∃ x : Int32, v = some (.int x))) [.ref a0, .int x0].toArray s 0 0 (fun _ => False)) (F0 m 4 ls []) := by
    intro n
    induction n with
    | zero =>
      intro i27096_2 i27096_3 hi27096_3 hm
      exact absurd hm (Nat.not_lt_zero _)
    | succ n ih_27096 =>
      intro i27096_2 i27096_3 hi27096_3 hm ls hl
      have ri27096_2 := ka_rng i27096_2
      have ri27096_3 := ka_rng i27096_3
      refine lv_iload_n hx hb dX7_latest_4 rfl (lv_at hl 3 rfl) ?_
      refine lv_aload_n hx hb dX7_latest_5 rfl (lv_at hl 0 rfl) ?_
      refine ka_get C lq_336 rfl hK hP 0 rfl 13 (by decide) lq_337 rfl dX7_latest_6 ?_
      refine lv_icmp_ge (tgt := 35) hx hb dX7_latest_9 (by decide) (fun c_27103 => ?_) (fun c_27103 => ?_)
      · have c_27103 : x6.toInt ≤ i27096_3.toInt := by rw [ka_le'] at c_27103; exact c_27103
        refine lv_iload_n hx hb dX7_latest_35 rfl (lv_at hl 2 rfl) ?_
        exact ka_rRi C hr hlk ⟨_, rfl⟩ dX7_latest_36
      · have c_27103 : ¬ x6.toInt ≤ i27096_3.toInt := by rw [ka_le'] at c_27103; exact c_27103
        refine lv_aload_n hx hb dX7_latest_12 rfl (lv_at hl 0 rfl) ?_
        refine ka_get C lq_336 rfl hK hP 0 rfl 16 (by decide) lq_338 rfl dX7_latest_13 ?_
        refine lv_iload_n hx hb dX7_latest_16 rfl (lv_at hl 3 rfl) ?_
        refine va_iald hx hb hK hP 1 0 rfl rfl (ka_in (by omega) (by omega)) dX7_latest_17 ?_
        refine lv_topi (fun v_27104 ev_27104 => ?_)
        refine lv_iload_n hx hb dX7_latest_18 rfl (lv_at hl 1 rfl) ?_
        refine lv_icmp_ne (tgt := 29) hx hb dX7_latest_19 (by decide) (fun c_27105 => ?_) (fun c_27105 => ?_)
        · have c_27105 : ¬ v_27104.toInt = x0.toInt := by rw [ka_eq'] at c_27105; exact c_27105
          obtain ⟨v_27106, ev_27106⟩ : ∃ y : Int32, y = i27096_3 + 1 := ⟨_, rfl⟩
          refine lv_iinc (v := v_27106) (lv' := [(3, .int v_27106), (0, .ref a0), (1, .int x0), (2, .int i27096_2)]) hx hb dX7_latest_29 hl (k := 3) rfl (by rw [ev_27106]; rfl) (by decide) rfl (fun ls hl => ?_)
          have fv_27106 : v_27106.toInt = i27096_3.toInt + 1 := by rw [ev_27106]; exact ka_add (x := i27096_3.toInt) (y := 1) rfl (by decide) (by omega) (by omega)
          refine lv_goto (tgt := 4) hx hb dX7_latest_32 (by decide) ?_
          exact ih_27096 i27096_2 v_27106 ⟨by omega, by omega⟩ (by omega) ls (lv_sub hl [1, 2, 3, 0] rfl)
        · have c_27105 : v_27104.toInt = x0.toInt := by rw [ka_eq'] at c_27105; exact c_27105
          refine lv_aload_n hx hb dX7_latest_22 rfl (lv_at hl 0 rfl) ?_
          refine ka_get C lq_336 rfl hK hP 0 rfl 17 (by decide) lq_339 rfl dX7_latest_23 ?_
          refine lv_iload_n hx hb dX7_latest_26 rfl (lv_at hl 3 rfl) ?_
          refine va_iald hx hb hK hP 2 1 rfl rfl (ka_in (by omega) (by omega)) dX7_latest_27 ?_
          refine lv_topi (fun v_27107 ev_27107 => ?_)
          refine lv_istore_n (lv' := [(2, .int v_27107), (0, .ref a0), (1, .int x0), (3, .int i27096_3)]) hx hb dX7_latest_28 rfl hl (by decide) rfl (fun ls hl => ?_)
          obtain ⟨v_27108, ev_27108⟩ : ∃ y : Int32, y = i27096_3 + 1 := ⟨_, rfl⟩
          refine lv_iinc (v := v_27108) (lv' := [(3, .int v_27108), (2, .int v_27107), (0, .ref a0), (1, .int x0)]) hx hb dX7_latest_29 hl (k := 3) rfl (by rw [ev_27108]; rfl) (by decide) rfl (fun ls hl => ?_)
          have fv_27108 : v_27108.toInt = i27096_3.toInt + 1 := by rw [ev_27108]; exact ka_add (x := i27096_3.toInt) (y := 1) rfl (by decide) (by omega) (by omega)
          refine lv_goto (tgt := 4) hx hb dX7_latest_32 (by decide) ?_
          exact ih_27096 v_27107 v_27108 ⟨by omega, by omega⟩ (by omega) ls (lv_sub hl [2, 3, 1, 0] rfl)
  exact lp_27096 _ (-1) 0 ⟨by decide, by decide⟩ (Nat.lt_succ_self _) ls (lv_sub hl [2, 3, 1, 0] rfl)
set_option maxHeartbeats 4000000 in
set_option maxRecDepth 100000 in
theorem cg_X7_timesAsked_277 (l : Launch) (D : va_G) (F : Nat → Prop) (a0 : Nat) (x0 : Int32) (x1 : Int32) (a1 : Nat) (x2 : Int32) (a2 : Nat) (a3 : Nat) (a4 : Nat) (a5 : Nat) (a6 : Nat) (a7 : Nat) (a8 : Nat) (x3 : Int32) (x4 : Int32) (x5 : Int32) (x6 : Int32) (x7 : Int32) (x8 : Int32) (x9 : Int32) (a9 : Nat) (a10 : Nat) (a11 : Nat) (a12 : Nat) (a13 : Nat) (a14 : Nat) (x10 : Int32) (x11 : Int32) (x12 : Int32) (x13 : Int32) (x14 : Int32) (x15 : Int32) (k0 : ClassId) (f0 : Nat → Int32) (hx1 : 0 ≤ x1.toInt ∧ x1.toInt ≤ 40) (hx2 : 0 ≤ x2.toInt ∧ x2.toInt ≤ 80) (hx3 : 0 ≤ x3.toInt ∧ x3.toInt ≤ 5) (hx6 : 1 ≤ x6.toInt ∧ x6.toInt ≤ 8) (hx7 : 0 ≤ x7.toInt ∧ x7.toInt ≤ 40) (hx9 : 0 ≤ x9.toInt ∧ x9.toInt ≤ 10) (hx10 : 0 ≤ x10.toInt ∧ x10.toInt ≤ 60) (hx11 : 0 ≤ x11.toInt ∧ x11.toInt ≤ 60) (hx12 : 0 ≤ x12.toInt ∧ x12.toInt ≤ 60) (hx13 : 0 ≤ x13.toInt ∧ x13.toInt ≤ 8) (hx15 : 0 ≤ x15.toInt ∧ x15.toInt ≤ 1) : ka_R l D F yX7_timesAsked wsX7_timesAsked 1 20 [.ref a0, .int x0, .int x1] [(a0, .inr (7, [.ref a1, .int x2, .ref a2, .ref a3, .ref a4, .ref a5, .ref a6, .ref a7, .ref a8, .int x3, .int x4, .int x5, .int x6, .int x7, .int x8, .int x9, .ref a9, .ref a10, .ref a11, .ref a12, .ref a13, .ref a14, .int x10, .int x11, .int x12, .int x13, .int x14, .int x15])), (a9, .inl (k0, 40, .inl f0))] [(k0, .int)] (fun v => ∃ x : Int32, v = some (.int x)) := by
  refine ka_R_of (cc := cX7_timesAsked) (maxL := 5) (ret := (some .int)) (by decide) rfl (Nat.le_of_ble_eq_true rfl) ?_
  intro p e s m below meth c ls C hr hlk hP hK hE hN hl
  have hS : va_S (fun _ => False) s.heap s.heap [] := va_S.rf
  have C : CallFix p m c cX7_timesAsked 5 s [.ref a0, .int x0, .int x1].toArray wsX7_timesAsked RX7 := C
  obtain ⟨hx, hb, hml, hown, hts⟩ := id C
  have hl : lv_has ls 5 [(0, .ref a0), (1, .int x0), (2, .int x1)] := hl
  have rx0 := ka_rng x0
  have rx1 := ka_rng x1
  have rx2 := ka_rng x2
  have rx3 := ka_rng x3
  have rx4 := ka_rng x4
  have rx5 := ka_rng x5
  have rx6 := ka_rng x6
  have rx7 := ka_rng x7
  have rx8 := ka_rng x8
  have rx9 := ka_rng x9
  have rx10 := ka_rng x10
  have rx11 := ka_rng x11
  have rx12 := ka_rng x12
  have rx13 := ka_rng x13
  have rx14 := ka_rng x14
  have rx15 := ka_rng x15
  refine lv_iconst (v := 0) hx hb dX7_timesAsked_0 (by decide) ?_
  refine lv_istore_n (lv' := [(3, .int 0), (0, .ref a0), (1, .int x0), (2, .int x1)]) hx hb dX7_timesAsked_1 rfl hl (by decide) rfl (fun ls hl => ?_)
  refine lv_iconst (v := 0) hx hb dX7_timesAsked_2 (by decide) ?_
  refine lv_istore (lv' := [(4, .int 0), (3, .int 0), (0, .ref a0), (1, .int x0), (2, .int x1)]) hx hb dX7_timesAsked_3 hl (by decide) rfl (fun ls hl => ?_)
  have lp_27169 : ∀ (n : Nat) (i27169_3 : Int32) (i27169_4 : Int32), (0 ≤ i27169_4.toInt ∧ i27169_4.toInt ≤ 40) → (40 - i27169_4.toInt).toNat < n → ∀ (ls : Array Slot), lv_has ls 5 [(0, .ref a0), (1, .int x0), (2, .int x1), (3, .int i27169_3), (4, .int i27169_4)] → W p l e ({ frames := 1, cells := 0, slots := 0, locals := 20 }) s m [.ref a0, .int x0, .int x1].toArray below meth c s.heap [] 0 0 (MQ below (ka_QR (fun v => ∃ x : Int32, v = some (.int x))) [.ref a0, .int x0, .int x1].toArray s 0 0 (fun _ => False)) (F0 m 5 ls []) := by
    intro n
    induction n with
    | zero =>
      intro i27169_3 i27169_4 hi27169_4 hm
      exact absurd hm (Nat.not_lt_zero _)
    | succ n ih_27169 =>
      intro i27169_3 i27169_4 hi27169_4 hm ls hl
      have ri27169_3 := ka_rng i27169_3
      have ri27169_4 := ka_rng i27169_4
      refine lv_iload hx hb dX7_timesAsked_5 (lv_at hl 4 rfl) ?_
      refine lv_iload_n hx hb dX7_timesAsked_7 rfl (lv_at hl 2 rfl) ?_
      refine lv_icmp_ge (tgt := 39) hx hb dX7_timesAsked_8 (by decide) (fun c_27177 => ?_) (fun c_27177 => ?_)
      · have c_27177 : x1.toInt ≤ i27169_4.toInt := by rw [ka_le'] at c_27177; exact c_27177
        refine lv_iload_n hx hb dX7_timesAsked_39 rfl (lv_at hl 3 rfl) ?_
        exact ka_rRi C hr hlk ⟨_, rfl⟩ dX7_timesAsked_40
      · have c_27177 : ¬ x1.toInt ≤ i27169_4.toInt := by rw [ka_le'] at c_27177; exact c_27177
        refine lv_iload_n hx hb dX7_timesAsked_11 rfl (lv_at hl 3 rfl) ?_
        refine lv_aload_n hx hb dX7_timesAsked_12 rfl (lv_at hl 0 rfl) ?_
        refine ka_get C lq_305 rfl hK hP 0 rfl 16 (by decide) lq_306 rfl dX7_timesAsked_13 ?_
        refine lv_iload hx hb dX7_timesAsked_16 (lv_at hl 4 rfl) ?_
        refine va_iald hx hb hK hP 1 0 rfl rfl (ka_in (by omega) (by omega)) dX7_timesAsked_18 ?_
        refine lv_topi (fun v_27178 ev_27178 => ?_)
        refine lv_iload_n hx hb dX7_timesAsked_19 rfl (lv_at hl 1 rfl) ?_
        refine lv_icmp_ne (tgt := 27) hx hb dX7_timesAsked_20 (by decide) (fun c_27179 => ?_) (fun c_27179 => ?_)
        · have c_27179 : ¬ v_27178.toInt = x0.toInt := by rw [ka_eq'] at c_27179; exact c_27179
          refine lv_iconst (v := 0) hx hb dX7_timesAsked_27 (by decide) ?_
          refine ka_RS (n := 1) C (cg_X7_one_253 l D F ) gX7_timesAsked_X7_one rfl (by decide +kernel) ⟨Nat.le_of_ble_eq_true rfl, Nat.le_of_ble_eq_true rfl⟩ hK hP hS hE hN [] rfl [] rfl rfl hl.1 (rest := [.int i27169_3]) rfl (Nat.le_of_ble_eq_true rfl) dX7_timesAsked_28 ⟨Nat.le_of_ble_eq_true rfl, Nat.le_of_ble_eq_true rfl⟩ (fun v hv => ?_)
          subst hv
          refine ka_stk (w := [.int 0, .int i27169_3]) rfl ?_
          refine lv_iadd hx hb dX7_timesAsked_31 ?_
          refine lv_topi (fun v_27180 ev_27180 => ?_)
          have fv_27180 : v_27180.toInt = i27169_3.toInt + 0 := by rw [ev_27180]; exact ka_add (x := i27169_3.toInt) (y := 0) rfl (by decide) (by omega) (by omega)
          refine lv_istore_n (lv' := [(3, .int v_27180), (0, .ref a0), (1, .int x0), (2, .int x1), (4, .int i27169_4)]) hx hb dX7_timesAsked_32 rfl hl (by decide) rfl (fun ls hl => ?_)
          obtain ⟨v_27181, ev_27181⟩ : ∃ y : Int32, y = i27169_4 + 1 := ⟨_, rfl⟩
          refine lv_iinc (v := v_27181) (lv' := [(4, .int v_27181), (3, .int v_27180), (0, .ref a0), (1, .int x0), (2, .int x1)]) hx hb dX7_timesAsked_33 hl (k := 4) rfl (by rw [ev_27181]; rfl) (by decide) rfl (fun ls hl => ?_)
          have fv_27181 : v_27181.toInt = i27169_4.toInt + 1 := by rw [ev_27181]; exact ka_add (x := i27169_4.toInt) (y := 1) rfl (by decide) (by omega) (by omega)
          refine lv_goto (tgt := 5) hx hb dX7_timesAsked_36 (by decide) ?_
          exact ih_27169 v_27180 v_27181 ⟨by omega, by omega⟩ (by omega) ls (lv_sub hl [2, 3, 4, 1, 0] rfl)
        · have c_27179 : v_27178.toInt = x0.toInt := by rw [ka_eq'] at c_27179; exact c_27179
          refine lv_iconst (v := 1) hx hb dX7_timesAsked_23 (by decide) ?_
          refine lv_goto (tgt := 28) hx hb dX7_timesAsked_24 (by decide) ?_
          refine ka_RS (n := 1) C (cg_X7_one_254 l D F ) gX7_timesAsked_X7_one rfl (by decide +kernel) ⟨Nat.le_of_ble_eq_true rfl, Nat.le_of_ble_eq_true rfl⟩ hK hP hS hE hN [] rfl [] rfl rfl hl.1 (rest := [.int i27169_3]) rfl (Nat.le_of_ble_eq_true rfl) dX7_timesAsked_28 ⟨Nat.le_of_ble_eq_true rfl, Nat.le_of_ble_eq_true rfl⟩ (fun v hv => ?_)
          subst hv
          refine ka_stk (w := [.int 1, .int i27169_3]) rfl ?_
          refine lv_iadd hx hb dX7_timesAsked_31 ?_
          refine lv_topi (fun v_27182 ev_27182 => ?_)
          refine lv_istore_n (lv' := [(3, .int v_27182), (0, .ref a0), (1, .int x0), (2, .int x1), (4, .int i27169_4)]) hx hb dX7_timesAsked_32 rfl hl (by decide) rfl (fun ls hl => ?_)
          obtain ⟨v_27183, ev_27183⟩ : ∃ y : Int32, y = i27169_4 + 1 := ⟨_, rfl⟩
          refine lv_iinc (v := v_27183) (lv' := [(4, .int v_27183), (3, .int v_27182), (0, .ref a0), (1, .int x0), (2, .int x1)]) hx hb dX7_timesAsked_33 hl (k := 4) rfl (by rw [ev_27183]; rfl) (by decide) rfl (fun ls hl => ?_)
          have fv_27183 : v_27183.toInt = i27169_4.toInt + 1 := by rw [ev_27183]; exact ka_add (x := i27169_4.toInt) (y := 1) rfl (by decide) (by omega) (by omega)
          refine lv_goto (tgt := 5) hx hb dX7_timesAsked_36 (by decide) ?_
          exact ih_27169 v_27182 v_27183 ⟨by omega, by omega⟩ (by omega) ls (lv_sub hl [2, 3, 4, 1, 0] rfl)
  exact lp_27169 _ 0 0 ⟨by decide, by decide⟩ (Nat.lt_succ_self _) ls (lv_sub hl [2, 3, 4, 1, 0] rfl)
theorem lq_351 : ∀ w ∈ wsX70, w ∈ wsX7_caseOf := by decide +kernel
theorem lq_352 : Cond.fieldLink RX7 36 "AskedBackModel" "lesson" "I" ∈ wsX7_caseOf := by decide +kernel
theorem lq_353 : Cond.fieldLink RX7 169 "AskedBackModel" "answers" "I" ∈ wsX7_caseOf := by decide +kernel
set_option maxHeartbeats 4000000 in
set_option maxRecDepth 100000 in
theorem cg_X7_caseOf_278 (l : Launch) (D : va_G) (F : Nat → Prop) (a0 : Nat) (x0 : Int32) (x1 : Int32) (a1 : Nat) (x2 : Int32) (a2 : Nat) (a3 : Nat) (a4 : Nat) (a5 : Nat) (a6 : Nat) (a7 : Nat) (a8 : Nat) (x3 : Int32) (x4 : Int32) (x5 : Int32) (x6 : Int32) (x7 : Int32) (x8 : Int32) (x9 : Int32) (a9 : Nat) (a10 : Nat) (a11 : Nat) (a12 : Nat) (a13 : Nat) (a14 : Nat) (x10 : Int32) (x11 : Int32) (x12 : Int32) (x13 : Int32) (x14 : Int32) (x15 : Int32) (k0 : ClassId) (f0 : Nat → Int32) (k1 : ClassId) (f1 : Nat → Int32) (k2 : ClassId) (f2 : Nat → Int32) (hx2 : 0 ≤ x2.toInt ∧ x2.toInt ≤ 80) (hx3 : -1 ≤ x3.toInt ∧ x3.toInt ≤ 5) (hx6 : 1 ≤ x6.toInt ∧ x6.toInt ≤ 8) (hx7 : 0 ≤ x7.toInt ∧ x7.toInt ≤ 40) (hx9 : 0 ≤ x9.toInt ∧ x9.toInt ≤ 10) (hx10 : 0 ≤ x10.toInt ∧ x10.toInt ≤ 60) (hx11 : 0 ≤ x11.toInt ∧ x11.toInt ≤ 60) (hx12 : 0 ≤ x12.toInt ∧ x12.toInt ≤ 60) (hx13 : 0 ≤ x13.toInt ∧ x13.toInt ≤ 8) (hx15 : 0 ≤ x15.toInt ∧ x15.toInt ≤ 1) : ka_R l D F yX7_caseOf wsX7_caseOf 3 66 [.ref a0, .int x0, .int x1] [(a0, .inr (7, [.ref a1, .int x2, .ref a2, .ref a3, .ref a4, .ref a5, .ref a6, .ref a7, .ref a8, .int x3, .int x4, .int x5, .int x6, .int x7, .int x8, .int x9, .ref a9, .ref a10, .ref a11, .ref a12, .ref a13, .ref a14, .int x10, .int x11, .int x12, .int x13, .int x14, .int x15])), (a2, .inl (k0, 89, .inl f0)), (a9, .inl (k1, 40, .inl f1)), (a10, .inl (k2, 40, .inl f2))] [(k0, .int), (k1, .int), (k2, .int)] (fun v => ∃ x : Int32, v = some (.int x)) := by
  refine ka_R_of (cc := cX7_caseOf) (maxL := 3) (ret := (some .int)) (by decide) rfl (Nat.le_of_ble_eq_true rfl) ?_
  intro p e s m below meth c ls C hr hlk hP hK hE hN hl
  have hS : va_S (fun _ => False) s.heap s.heap [] := va_S.rf
  have C : CallFix p m c cX7_caseOf 3 s [.ref a0, .int x0, .int x1].toArray wsX7_caseOf RX7 := C
  obtain ⟨hx, hb, hml, hown, hts⟩ := id C
  have hl : lv_has ls 3 [(0, .ref a0), (1, .int x0), (2, .int x1)] := hl
  have rx0 := ka_rng x0
  have rx1 := ka_rng x1
  have rx2 := ka_rng x2
  have rx3 := ka_rng x3
  have rx4 := ka_rng x4
  have rx5 := ka_rng x5
  have rx6 := ka_rng x6
  have rx7 := ka_rng x7
  have rx8 := ka_rng x8
  have rx9 := ka_rng x9
  have rx10 := ka_rng x10
  have rx11 := ka_rng x11
  have rx12 := ka_rng x12
  have rx13 := ka_rng x13
  have rx14 := ka_rng x14
  have rx15 := ka_rng x15
  refine lv_aload_n hx hb dX7_caseOf_0 rfl (lv_at hl 0 rfl) ?_
  refine ka_get C lq_351 rfl hK hP 0 rfl 9 (by decide) lq_352 rfl dX7_caseOf_1 ?_
  refine lv_iconst (v := (-1)) hx hb dX7_caseOf_4 (by decide) ?_
  refine lv_icmp_eq (tgt := 15) hx hb dX7_caseOf_5 (by decide) (fun c_27194 => ?_) (fun c_27194 => ?_)
  · have c_27194 : x3.toInt = -1 := by rw [ka_eq', show ((-1 : Int32)).toInt = -1 from by decide] at c_27194; exact c_27194
    refine lv_iconst (v := (-1)) hx hb dX7_caseOf_15 (by decide) ?_
    exact ka_rRi C hr hlk ⟨_, rfl⟩ dX7_caseOf_16
  · have c_27194 : ¬ x3.toInt = -1 := by rw [ka_eq', show ((-1 : Int32)).toInt = -1 from by decide] at c_27194; exact c_27194
    refine lv_iload_n hx hb dX7_caseOf_8 rfl (lv_at hl 1 rfl) ?_
    refine ka_RS (n := 1) C (cg_X7_isCase_248 l D F x0) gX7_caseOf_X7_isCase rfl (by decide +kernel) ⟨Nat.le_of_ble_eq_true rfl, Nat.le_of_ble_eq_true rfl⟩ hK hP hS hE hN [] rfl [] rfl rfl hl.1 (rest := []) rfl (Nat.le_of_ble_eq_true rfl) dX7_caseOf_9 ⟨Nat.le_of_ble_eq_true rfl, Nat.le_of_ble_eq_true rfl⟩ (fun v hv => ?_)
    obtain ⟨v_27195, rfl, hv_27195⟩ := hv
    have rv_27195 := ka_rng v_27195
    refine ka_stk (w := [.int v_27195]) rfl ?_
    refine lv_if_ne (tgt := 17) hx hb dX7_caseOf_12 (by decide) (fun c_27196 => ?_) (fun c_27196 => ?_)
    · have c_27196 : ¬ v_27195.toInt = 0 := by rw [ka_eq', show ((0 : Int32)).toInt = 0 from by decide] at c_27196; exact c_27196
      refine lv_iload_n hx hb dX7_caseOf_17 rfl (lv_at hl 2 rfl) ?_
      refine lv_if_ne (tgt := 33) hx hb dX7_caseOf_18 (by decide) (fun c_27197 => ?_) (fun c_27197 => ?_)
      · have c_27197 : ¬ x1.toInt = 0 := by rw [ka_eq', show ((0 : Int32)).toInt = 0 from by decide] at c_27197; exact c_27197
        refine lv_iload_n hx hb dX7_caseOf_33 rfl (lv_at hl 2 rfl) ?_
        refine lv_iconst (v := 1) hx hb dX7_caseOf_34 (by decide) ?_
        refine lv_icmp_ne (tgt := 46) hx hb dX7_caseOf_35 (by decide) (fun c_27198 => ?_) (fun c_27198 => ?_)
        · have c_27198 : ¬ x1.toInt = 1 := by rw [ka_eq', show ((1 : Int32)).toInt = 1 from by decide] at c_27198; exact c_27198
          refine lv_iload_n hx hb dX7_caseOf_46 rfl (lv_at hl 2 rfl) ?_
          refine lv_iconst (v := 2) hx hb dX7_caseOf_47 (by decide) ?_
          refine lv_icmp_ne (tgt := 59) hx hb dX7_caseOf_48 (by decide) (fun c_27199 => ?_) (fun c_27199 => ?_)
          · have c_27199 : ¬ x1.toInt = 2 := by rw [ka_eq', show ((2 : Int32)).toInt = 2 from by decide] at c_27199; exact c_27199
            refine lv_iconst (v := (-1)) hx hb dX7_caseOf_59 (by decide) ?_
            exact ka_rRi C hr hlk ⟨_, rfl⟩ dX7_caseOf_60
          · have c_27199 : x1.toInt = 2 := by rw [ka_eq', show ((2 : Int32)).toInt = 2 from by decide] at c_27199; exact c_27199
            refine lv_aload_n hx hb dX7_caseOf_51 rfl (lv_at hl 0 rfl) ?_
            refine lv_iload_n hx hb dX7_caseOf_52 rfl (lv_at hl 1 rfl) ?_
            refine ka_RV (n := 1) C (cg_X7_latest_276 l D F a0 x0 a1 x2 a2 a3 a4 a5 a6 a7 a8 x3 x4 x5 x6 x7 x8 x9 a9 a10 a11 a12 a13 a14 x10 x11 x12 x13 x14 x15 k1 f1 k2 f2 ⟨by omega, by omega⟩ ⟨by omega, by omega⟩ ⟨by omega, by omega⟩ ⟨by omega, by omega⟩ ⟨by omega, by omega⟩ ⟨by omega, by omega⟩ ⟨by omega, by omega⟩ ⟨by omega, by omega⟩ ⟨by omega, by omega⟩ ⟨by omega, by omega⟩) gX7_caseOf_X7_latest rfl (by decide +kernel) ⟨Nat.le_of_ble_eq_true rfl, Nat.le_of_ble_eq_true rfl⟩ hK hP hS hE hN [0, 2, 3] rfl [1, 2] rfl (ci := 7) rfl rfl 0 rfl rfl hl.1 (rest := []) rfl (Nat.le_of_ble_eq_true rfl) dX7_caseOf_53 ⟨Nat.le_of_ble_eq_true rfl, Nat.le_of_ble_eq_true rfl⟩ (fun v hv => ?_)
            obtain ⟨v_27200, rfl⟩ := hv
            have rv_27200 := ka_rng v_27200
            refine ka_stk (w := [.int v_27200]) rfl ?_
            refine lv_goto (tgt := 60) hx hb dX7_caseOf_56 (by decide) ?_
            exact ka_rRi C hr hlk ⟨_, rfl⟩ dX7_caseOf_60
        · have c_27198 : x1.toInt = 1 := by rw [ka_eq', show ((1 : Int32)).toInt = 1 from by decide] at c_27198; exact c_27198
          refine lv_aload_n hx hb dX7_caseOf_38 rfl (lv_at hl 0 rfl) ?_
          refine lv_iload_n hx hb dX7_caseOf_39 rfl (lv_at hl 1 rfl) ?_
          refine ka_RV (n := 1) C (cg_X7_wrongs_274 l D F a0 x0 a1 x2 a2 a3 a4 a5 a6 a7 a8 x3 x4 x5 x6 x7 x8 x9 a9 a10 a11 a12 a13 a14 x10 x11 x12 x13 x14 x15 k0 f0 k1 f1 k2 f2 ⟨by omega, by omega⟩ ⟨by omega, by omega⟩ ⟨by omega, by omega⟩ ⟨by omega, by omega⟩ ⟨by omega, by omega⟩ ⟨by omega, by omega⟩ ⟨by omega, by omega⟩ ⟨by omega, by omega⟩ ⟨by omega, by omega⟩ ⟨by omega, by omega⟩) gX7_caseOf_X7_wrongs rfl (by decide +kernel) ⟨Nat.le_of_ble_eq_true rfl, Nat.le_of_ble_eq_true rfl⟩ hK hP hS hE hN [0, 1, 2, 3] rfl [0, 1, 2] rfl (ci := 7) rfl rfl 0 rfl rfl hl.1 (rest := []) rfl (Nat.le_of_ble_eq_true rfl) dX7_caseOf_40 ⟨Nat.le_of_ble_eq_true rfl, Nat.le_of_ble_eq_true rfl⟩ (fun v hv => ?_)
          obtain ⟨v_27201, rfl⟩ := hv
          have rv_27201 := ka_rng v_27201
          refine ka_stk (w := [.int v_27201]) rfl ?_
          refine lv_goto (tgt := 60) hx hb dX7_caseOf_43 (by decide) ?_
          exact ka_rRi C hr hlk ⟨_, rfl⟩ dX7_caseOf_60
      · have c_27197 : x1.toInt = 0 := by rw [ka_eq', show ((0 : Int32)).toInt = 0 from by decide] at c_27197; exact c_27197
        refine lv_aload_n hx hb dX7_caseOf_21 rfl (lv_at hl 0 rfl) ?_
        refine lv_iload_n hx hb dX7_caseOf_22 rfl (lv_at hl 1 rfl) ?_
        refine lv_aload_n hx hb dX7_caseOf_23 rfl (lv_at hl 0 rfl) ?_
        refine ka_get C lq_351 rfl hK hP 0 rfl 13 (by decide) lq_353 rfl dX7_caseOf_24 ?_
        refine ka_RV (n := 2) C (cg_X7_timesAsked_277 l D F a0 x0 x7 a1 x2 a2 a3 a4 a5 a6 a7 a8 x3 x4 x5 x6 x7 x8 x9 a9 a10 a11 a12 a13 a14 x10 x11 x12 x13 x14 x15 k1 f1 ⟨by omega, by omega⟩ ⟨by omega, by omega⟩ ⟨by omega, by omega⟩ ⟨by omega, by omega⟩ ⟨by omega, by omega⟩ ⟨by omega, by omega⟩ ⟨by omega, by omega⟩ ⟨by omega, by omega⟩ ⟨by omega, by omega⟩ ⟨by omega, by omega⟩ ⟨by omega, by omega⟩) gX7_caseOf_X7_timesAsked rfl (by decide +kernel) ⟨Nat.le_of_ble_eq_true rfl, Nat.le_of_ble_eq_true rfl⟩ hK hP hS hE hN [0, 2] rfl [1] rfl (ci := 7) rfl rfl 0 rfl rfl hl.1 (rest := []) rfl (Nat.le_of_ble_eq_true rfl) dX7_caseOf_27 ⟨Nat.le_of_ble_eq_true rfl, Nat.le_of_ble_eq_true rfl⟩ (fun v hv => ?_)
        obtain ⟨v_27202, rfl⟩ := hv
        have rv_27202 := ka_rng v_27202
        refine ka_stk (w := [.int v_27202]) rfl ?_
        refine lv_goto (tgt := 60) hx hb dX7_caseOf_30 (by decide) ?_
        exact ka_rRi C hr hlk ⟨_, rfl⟩ dX7_caseOf_60
    · have c_27196 : v_27195.toInt = 0 := by rw [ka_eq', show ((0 : Int32)).toInt = 0 from by decide] at c_27196; exact c_27196
      refine lv_iconst (v := (-1)) hx hb dX7_caseOf_15 (by decide) ?_
      exact ka_rRi C hr hlk ⟨_, rfl⟩ dX7_caseOf_16
set_option maxHeartbeats 4000000 in
set_option maxRecDepth 100000 in
theorem cg_X7_one_279 (l : Launch) (D : va_G) (F : Nat → Prop) (x0 : Int32) : ka_R l D F yX7_one wsX7_one 0 0 [.int x0] [] [] (fun v => ∃ x : Int32, v = some (.int x) ∧ 0 ≤ x.toInt ∧ x.toInt ≤ 1) := by
  refine ka_R_of (cc := cX7_one) (maxL := 1) (ret := (some .int)) (by decide) rfl (Nat.le_of_ble_eq_true rfl) ?_
  intro p e s m below meth c ls C hr hlk hP hK hE hN hl
  have hS : va_S (fun _ => False) s.heap s.heap [] := va_S.rf
  have C : CallFix p m c cX7_one 1 s [.int x0].toArray wsX7_one RX7 := C
  obtain ⟨hx, hb, hml, hown, hts⟩ := id C
  have hl : lv_has ls 1 [(0, .int x0)] := hl
  have rx0 := ka_rng x0
  refine lv_iload_n hx hb dX7_one_0 rfl (lv_at hl 0 rfl) ?_
  refine lv_if_eq (tgt := 8) hx hb dX7_one_1 (by decide) (fun c_27266 => ?_) (fun c_27266 => ?_)
  · have c_27266 : x0.toInt = 0 := by rw [ka_eq', show ((0 : Int32)).toInt = 0 from by decide] at c_27266; exact c_27266
    refine lv_iconst (v := 0) hx hb dX7_one_8 (by decide) ?_
    exact ka_rRi C hr hlk ⟨_, rfl, ⟨by decide, by decide⟩⟩ dX7_one_9
  · have c_27266 : ¬ x0.toInt = 0 := by rw [ka_eq', show ((0 : Int32)).toInt = 0 from by decide] at c_27266; exact c_27266
    refine lv_iconst (v := 1) hx hb dX7_one_4 (by decide) ?_
    refine lv_goto (tgt := 9) hx hb dX7_one_5 (by decide) ?_
    exact ka_rRi C hr hlk ⟨_, rfl, ⟨by decide, by decide⟩⟩ dX7_one_9
theorem lq_354 : ∀ w ∈ wsX70, w ∈ wsX7_count := by decide +kernel
theorem lq_355 : Cond.fieldLink RX7 36 "AskedBackModel" "lesson" "I" ∈ wsX7_count := by decide +kernel
theorem lq_356 : Cond.fieldLink RX7 169 "AskedBackModel" "answers" "I" ∈ wsX7_count := by decide +kernel
theorem lq_357 : Cond.fieldLink RX7 172 "AskedBackModel" "rights" "I" ∈ wsX7_count := by decide +kernel
theorem lq_358 : Cond.fieldLink RX7 175 "AskedBackModel" "said" "I" ∈ wsX7_count := by decide +kernel
theorem lq_359 : Cond.fieldLink RX7 27 "AskedBackModel" "isDone" "[Z" ∈ wsX7_count := by decide +kernel
theorem lq_360 : Cond.fieldLink RX7 71 "AskedBackModel" "taped" "I" ∈ wsX7_count := by decide +kernel
set_option maxHeartbeats 4000000 in
set_option maxRecDepth 100000 in
theorem cg_X7_count_280 (l : Launch) (D : va_G) (F : Nat → Prop) (a0 : Nat) (x0 : Int32) (a1 : Nat) (x1 : Int32) (a2 : Nat) (a3 : Nat) (a4 : Nat) (a5 : Nat) (a6 : Nat) (a7 : Nat) (a8 : Nat) (x2 : Int32) (x3 : Int32) (x4 : Int32) (x5 : Int32) (x6 : Int32) (x7 : Int32) (x8 : Int32) (a9 : Nat) (a10 : Nat) (a11 : Nat) (a12 : Nat) (a13 : Nat) (a14 : Nat) (x9 : Int32) (x10 : Int32) (x11 : Int32) (x12 : Int32) (x13 : Int32) (x14 : Int32) (k0 : ClassId) (f0 : Nat → Int32) (k1 : ClassId) (f1 : Nat → Int32) (k2 : ClassId) (f2 : Nat → Int32) (k3 : ClassId) (f3 : Nat → Int32) (k4 : ClassId) (f4 : Nat → Int32) (hx1 : 0 ≤ x1.toInt ∧ x1.toInt ≤ 80) (hx2 : -1 ≤ x2.toInt ∧ x2.toInt ≤ 5) (hx5 : 1 ≤ x5.toInt ∧ x5.toInt ≤ 8) (hx6 : 0 ≤ x6.toInt ∧ x6.toInt ≤ 40) (hx8 : 0 ≤ x8.toInt ∧ x8.toInt ≤ 10) (hx9 : 0 ≤ x9.toInt ∧ x9.toInt ≤ 60) (hx10 : 0 ≤ x10.toInt ∧ x10.toInt ≤ 60) (hx11 : 0 ≤ x11.toInt ∧ x11.toInt ≤ 60) (hx12 : 0 ≤ x12.toInt ∧ x12.toInt ≤ 8) (hx14 : 0 ≤ x14.toInt ∧ x14.toInt ≤ 1) (hf2 : ∀ j : Nat, 0 ≤ (f2 j).toInt ∧ (f2 j).toInt ≤ 12) : ka_R l D F yX7_count wsX7_count 3 67 [.ref a0, .int x0] [(a0, .inr (7, [.ref a1, .int x1, .ref a2, .ref a3, .ref a4, .ref a5, .ref a6, .ref a7, .ref a8, .int x2, .int x3, .int x4, .int x5, .int x6, .int x7, .int x8, .ref a9, .ref a10, .ref a11, .ref a12, .ref a13, .ref a14, .int x9, .int x10, .int x11, .int x12, .int x13, .int x14])), (a2, .inl (k0, 89, .inl f0)), (a6, .inl (k1, 6, .inl f1)), (a8, .inl (k2, 6, .inl f2)), (a9, .inl (k3, 40, .inl f3)), (a10, .inl (k4, 40, .inl f4))] [(k0, .int), (k1, .boolean), (k2, .int), (k3, .int), (k4, .int)] (fun v => ∃ x : Int32, v = some (.int x)) := by
  refine ka_R_of (cc := cX7_count) (maxL := 4) (ret := (some .int)) (by decide) rfl (Nat.le_of_ble_eq_true rfl) ?_
  intro p e s m below meth c ls C hr hlk hP hK hE hN hl
  have hS : va_S (fun _ => False) s.heap s.heap [] := va_S.rf
  have C : CallFix p m c cX7_count 4 s [.ref a0, .int x0].toArray wsX7_count RX7 := C
  obtain ⟨hx, hb, hml, hown, hts⟩ := id C
  have hl : lv_has ls 4 [(0, .ref a0), (1, .int x0)] := hl
  have rx0 := ka_rng x0
  have rx1 := ka_rng x1
  have rx2 := ka_rng x2
  have rx3 := ka_rng x3
  have rx4 := ka_rng x4
  have rx5 := ka_rng x5
  have rx6 := ka_rng x6
  have rx7 := ka_rng x7
  have rx8 := ka_rng x8
  have rx9 := ka_rng x9
  have rx10 := ka_rng x10
  have rx11 := ka_rng x11
  have rx12 := ka_rng x12
  have rx13 := ka_rng x13
  have rx14 := ka_rng x14
  rcases (show x0.toInt ≤ -1 ∨ x0.toInt = 0 ∨ x0.toInt = 1 ∨ x0.toInt = 2 ∨ x0.toInt = 3 ∨ x0.toInt = 4 ∨ x0.toInt = 5 ∨ x0.toInt = 6 ∨ x0.toInt = 7 ∨ 8 ≤ x0.toInt by omega) with y_27304 | y_27304 | y_27304 | y_27304 | y_27304 | y_27304 | y_27304 | y_27304 | y_27304 | y_27304
  · skip
    refine lv_iload_n hx hb dX7_count_0 rfl (lv_at hl 1 rfl) ?_
    refine lv_tableOut (tgt := 151) hx hb dX7_count_1 (by omega) (by decide) ?_
    refine lv_iconst (v := (-1)) hx hb dX7_count_151 (by decide) ?_
    exact ka_rRi C hr hlk ⟨_, rfl⟩ dX7_count_152
  · obtain rfl : x0 = 0 := (ka_eq' _ _).mpr (y_27304.trans (by decide))
    refine lv_iload_n hx hb dX7_count_0 rfl (lv_at hl 1 rfl) ?_
    refine lv_tableIn (off := 47) (tgt := 48) hx hb dX7_count_1 (by decide) (by decide) (by decide) (by decide) ?_
    refine lv_aload_n hx hb dX7_count_48 rfl (lv_at hl 0 rfl) ?_
    refine ka_get C lq_354 rfl hK hP 0 rfl 9 (by decide) lq_355 rfl dX7_count_49 ?_
    exact ka_rRi C hr hlk ⟨_, rfl⟩ dX7_count_52
  · obtain rfl : x0 = 1 := (ka_eq' _ _).mpr (y_27304.trans (by decide))
    refine lv_iload_n hx hb dX7_count_0 rfl (lv_at hl 1 rfl) ?_
    refine lv_tableIn (off := 52) (tgt := 53) hx hb dX7_count_1 (by decide) (by decide) (by decide) (by decide) ?_
    refine lv_aload_n hx hb dX7_count_53 rfl (lv_at hl 0 rfl) ?_
    refine ka_get C lq_354 rfl hK hP 0 rfl 13 (by decide) lq_356 rfl dX7_count_54 ?_
    exact ka_rRi C hr hlk ⟨_, rfl⟩ dX7_count_57
  · obtain rfl : x0 = 2 := (ka_eq' _ _).mpr (y_27304.trans (by decide))
    refine lv_iload_n hx hb dX7_count_0 rfl (lv_at hl 1 rfl) ?_
    refine lv_tableIn (off := 57) (tgt := 58) hx hb dX7_count_1 (by decide) (by decide) (by decide) (by decide) ?_
    refine lv_aload_n hx hb dX7_count_58 rfl (lv_at hl 0 rfl) ?_
    refine ka_get C lq_354 rfl hK hP 0 rfl 14 (by decide) lq_357 rfl dX7_count_59 ?_
    exact ka_rRi C hr hlk ⟨_, rfl⟩ dX7_count_62
  · obtain rfl : x0 = 3 := (ka_eq' _ _).mpr (y_27304.trans (by decide))
    refine lv_iload_n hx hb dX7_count_0 rfl (lv_at hl 1 rfl) ?_
    refine lv_tableIn (off := 62) (tgt := 63) hx hb dX7_count_1 (by decide) (by decide) (by decide) (by decide) ?_
    refine lv_aload_n hx hb dX7_count_63 rfl (lv_at hl 0 rfl) ?_
    refine ka_get C lq_354 rfl hK hP 0 rfl 15 (by decide) lq_358 rfl dX7_count_64 ?_
    exact ka_rRi C hr hlk ⟨_, rfl⟩ dX7_count_67
  · obtain rfl : x0 = 4 := (ka_eq' _ _).mpr (y_27304.trans (by decide))
    refine lv_iload_n hx hb dX7_count_0 rfl (lv_at hl 1 rfl) ?_
    refine lv_tableIn (off := 67) (tgt := 68) hx hb dX7_count_1 (by decide) (by decide) (by decide) (by decide) ?_
    refine lv_aload_n hx hb dX7_count_68 rfl (lv_at hl 0 rfl) ?_
    refine ka_get C lq_354 rfl hK hP 0 rfl 9 (by decide) lq_355 rfl dX7_count_69 ?_
    refine lv_iconst (v := (-1)) hx hb dX7_count_72 (by decide) ?_
    refine lv_icmp_ne (tgt := 80) hx hb dX7_count_73 (by decide) (fun c_27305 => ?_) (fun c_27305 => ?_)
    · have c_27305 : ¬ x2.toInt = -1 := by rw [ka_eq', show ((-1 : Int32)).toInt = -1 from by decide] at c_27305; exact c_27305
      refine lv_aload_n hx hb dX7_count_80 rfl (lv_at hl 0 rfl) ?_
      refine ka_RV (n := 0) C (cg_X7_lefts_260 l D F a0 a1 x1 a2 a3 a4 a5 a6 a7 a8 x2 x3 x4 x5 x6 x7 x8 a9 a10 a11 a12 a13 a14 x9 x10 x11 x12 x13 x14 k0 f0 k2 f2 k3 f3 k4 f4 ⟨by omega, by omega⟩ ⟨by omega, by omega⟩ ⟨by omega, by omega⟩ ⟨by omega, by omega⟩ ⟨by omega, by omega⟩ ⟨by omega, by omega⟩ ⟨by omega, by omega⟩ ⟨by omega, by omega⟩ ⟨by omega, by omega⟩ ⟨by omega, by omega⟩ hf2) gX7_count_X7_lefts rfl (by decide +kernel) ⟨Nat.le_of_ble_eq_true rfl, Nat.le_of_ble_eq_true rfl⟩ hK hP hS hE hN [0, 1, 3, 4, 5] rfl [0, 2, 3, 4] rfl (ci := 7) rfl rfl 0 rfl rfl hl.1 (rest := []) rfl (Nat.le_of_ble_eq_true rfl) dX7_count_81 ⟨Nat.le_of_ble_eq_true rfl, Nat.le_of_ble_eq_true rfl⟩ (fun v hv => ?_)
      obtain ⟨v_27306, rfl⟩ := hv
      have rv_27306 := ka_rng v_27306
      refine ka_stk (w := [.int v_27306]) rfl ?_
      refine ka_RS (n := 1) C (cg_X7_many_262 l D F v_27306) gX7_count_X7_many rfl (by decide +kernel) ⟨Nat.le_of_ble_eq_true rfl, Nat.le_of_ble_eq_true rfl⟩ hK hP hS hE hN [] rfl [] rfl rfl hl.1 (rest := []) rfl (Nat.le_of_ble_eq_true rfl) dX7_count_84 ⟨Nat.le_of_ble_eq_true rfl, Nat.le_of_ble_eq_true rfl⟩ (fun v hv => ?_)
      obtain ⟨v_27307, rfl⟩ := hv
      have rv_27307 := ka_rng v_27307
      refine ka_stk (w := [.int v_27307]) rfl ?_
      exact ka_rRi C hr hlk ⟨_, rfl⟩ dX7_count_87
    · have c_27305 : x2.toInt = -1 := by rw [ka_eq', show ((-1 : Int32)).toInt = -1 from by decide] at c_27305; exact c_27305
      refine lv_iconst (v := 0) hx hb dX7_count_76 (by decide) ?_
      refine lv_goto (tgt := 87) hx hb dX7_count_77 (by decide) ?_
      exact ka_rRi C hr hlk ⟨_, rfl⟩ dX7_count_87
  · obtain rfl : x0 = 5 := (ka_eq' _ _).mpr (y_27304.trans (by decide))
    refine lv_iload_n hx hb dX7_count_0 rfl (lv_at hl 1 rfl) ?_
    refine lv_tableIn (off := 87) (tgt := 88) hx hb dX7_count_1 (by decide) (by decide) (by decide) (by decide) ?_
    refine lv_aload_n hx hb dX7_count_88 rfl (lv_at hl 0 rfl) ?_
    refine ka_get C lq_354 rfl hK hP 0 rfl 9 (by decide) lq_355 rfl dX7_count_89 ?_
    refine lv_iconst (v := (-1)) hx hb dX7_count_92 (by decide) ?_
    refine lv_icmp_ne (tgt := 100) hx hb dX7_count_93 (by decide) (fun c_27308 => ?_) (fun c_27308 => ?_)
    · have c_27308 : ¬ x2.toInt = -1 := by rw [ka_eq', show ((-1 : Int32)).toInt = -1 from by decide] at c_27308; exact c_27308
      refine lv_aload_n hx hb dX7_count_100 rfl (lv_at hl 0 rfl) ?_
      refine ka_get C lq_354 rfl hK hP 0 rfl 6 (by decide) lq_359 rfl dX7_count_101 ?_
      refine lv_aload_n hx hb dX7_count_104 rfl (lv_at hl 0 rfl) ?_
      refine ka_get C lq_354 rfl hK hP 0 rfl 9 (by decide) lq_355 rfl dX7_count_105 ?_
      refine va_zald hx hb hK hP 2 1 rfl rfl (ka_in (by omega) (by omega)) dX7_count_108 ?_
      refine lv_topi (fun v_27309 ev_27309 => ?_)
      refine ka_RS (n := 1) C (cg_X7_one_279 l D F v_27309) gX7_count_X7_one rfl (by decide +kernel) ⟨Nat.le_of_ble_eq_true rfl, Nat.le_of_ble_eq_true rfl⟩ hK hP hS hE hN [] rfl [] rfl rfl hl.1 (rest := []) rfl (Nat.le_of_ble_eq_true rfl) dX7_count_109 ⟨Nat.le_of_ble_eq_true rfl, Nat.le_of_ble_eq_true rfl⟩ (fun v hv => ?_)
      obtain ⟨v_27310, rfl, hv_27310⟩ := hv
      have rv_27310 := ka_rng v_27310
      refine ka_stk (w := [.int v_27310]) rfl ?_
      exact ka_rRi C hr hlk ⟨_, rfl⟩ dX7_count_112
    · have c_27308 : x2.toInt = -1 := by rw [ka_eq', show ((-1 : Int32)).toInt = -1 from by decide] at c_27308; exact c_27308
      refine lv_iconst (v := 0) hx hb dX7_count_96 (by decide) ?_
      refine lv_goto (tgt := 112) hx hb dX7_count_97 (by decide) ?_
      exact ka_rRi C hr hlk ⟨_, rfl⟩ dX7_count_112
  · obtain rfl : x0 = 6 := (ka_eq' _ _).mpr (y_27304.trans (by decide))
    refine lv_iload_n hx hb dX7_count_0 rfl (lv_at hl 1 rfl) ?_
    refine lv_tableIn (off := 112) (tgt := 113) hx hb dX7_count_1 (by decide) (by decide) (by decide) (by decide) ?_
    refine lv_iconst (v := 0) hx hb dX7_count_113 (by decide) ?_
    refine lv_istore_n (lv' := [(2, .int 0), (0, .ref a0), (1, .int 6)]) hx hb dX7_count_114 rfl hl (by decide) rfl (fun ls hl => ?_)
    refine lv_iconst (v := 0) hx hb dX7_count_115 (by decide) ?_
    refine lv_istore_n (lv' := [(3, .int 0), (2, .int 0), (0, .ref a0), (1, .int 6)]) hx hb dX7_count_116 rfl hl (by decide) rfl (fun ls hl => ?_)
    have lp_27311 : ∀ (n : Nat) (i27311_2 : Int32) (i27311_3 : Int32), (0 ≤ i27311_3.toInt ∧ i27311_3.toInt ≤ 6) → (6 - i27311_3.toInt).toNat < n → ∀ (ls : Array Slot), lv_has ls 4 [(0, .ref a0), (1, .int 6), (2, .int i27311_2), (3, .int i27311_3)] → W p l e ({ frames := 3, cells := 0, slots := 0, locals := 67 }) s m [.ref a0, .int 6].toArray below meth c s.heap [] 0 0 (MQ below (ka_QR (fun v => ∃ x : Int32, v = some (.int x))) [.ref a0, .int 6].toArray s 0 0 (fun _ => False)) (F0 m 117 ls []) := by
      intro n
      induction n with
      | zero =>
        intro i27311_2 i27311_3 hi27311_3 hm
        exact absurd hm (Nat.not_lt_zero _)
      | succ n ih_27311 =>
        intro i27311_2 i27311_3 hi27311_3 hm ls hl
        have ri27311_2 := ka_rng i27311_2
        have ri27311_3 := ka_rng i27311_3
        refine lv_iload_n hx hb dX7_count_117 rfl (lv_at hl 3 rfl) ?_
        refine lv_bipush (v := 6) hx hb dX7_count_118 (by decide) ?_
        refine lv_icmp_ge (tgt := 144) hx hb dX7_count_120 (by decide) (fun c_27319 => ?_) (fun c_27319 => ?_)
        · have c_27319 : 6 ≤ i27311_3.toInt := by rw [ka_le', show ((6 : Int32)).toInt = 6 from by decide] at c_27319; exact c_27319
          refine lv_iload_n hx hb dX7_count_144 rfl (lv_at hl 2 rfl) ?_
          exact ka_rRi C hr hlk ⟨_, rfl⟩ dX7_count_145
        · have c_27319 : ¬ 6 ≤ i27311_3.toInt := by rw [ka_le', show ((6 : Int32)).toInt = 6 from by decide] at c_27319; exact c_27319
          refine lv_aload_n hx hb dX7_count_123 rfl (lv_at hl 0 rfl) ?_
          refine ka_get C lq_354 rfl hK hP 0 rfl 6 (by decide) lq_359 rfl dX7_count_124 ?_
          refine lv_iload_n hx hb dX7_count_127 rfl (lv_at hl 3 rfl) ?_
          refine va_zald hx hb hK hP 2 1 rfl rfl (ka_in (by omega) (by omega)) dX7_count_128 ?_
          refine lv_topi (fun v_27320 ev_27320 => ?_)
          refine lv_if_eq (tgt := 138) hx hb dX7_count_129 (by decide) (fun c_27321 => ?_) (fun c_27321 => ?_)
          · have c_27321 : v_27320.toInt = 0 := by rw [ka_eq', show ((0 : Int32)).toInt = 0 from by decide] at c_27321; exact c_27321
            obtain ⟨v_27322, ev_27322⟩ : ∃ y : Int32, y = i27311_3 + 1 := ⟨_, rfl⟩
            refine lv_iinc (v := v_27322) (lv' := [(3, .int v_27322), (0, .ref a0), (1, .int 6), (2, .int i27311_2)]) hx hb dX7_count_138 hl (k := 3) rfl (by rw [ev_27322]; rfl) (by decide) rfl (fun ls hl => ?_)
            have fv_27322 : v_27322.toInt = i27311_3.toInt + 1 := by rw [ev_27322]; exact ka_add (x := i27311_3.toInt) (y := 1) rfl (by decide) (by omega) (by omega)
            refine lv_goto (tgt := 117) hx hb dX7_count_141 (by decide) ?_
            exact ih_27311 i27311_2 v_27322 ⟨by omega, by omega⟩ (by omega) ls (lv_sub hl [1, 2, 3, 0] rfl)
          · have c_27321 : ¬ v_27320.toInt = 0 := by rw [ka_eq', show ((0 : Int32)).toInt = 0 from by decide] at c_27321; exact c_27321
            refine lv_iload_n hx hb dX7_count_132 rfl (lv_at hl 2 rfl) ?_
            refine lv_iconst (v := 1) hx hb dX7_count_133 (by decide) ?_
            refine lv_iload_n hx hb dX7_count_134 rfl (lv_at hl 3 rfl) ?_
            refine lv_ishl hx hb dX7_count_135 ?_
            refine lv_topi (fun v_27323 ev_27323 => ?_)
            refine lv_ior hx hb dX7_count_136 ?_
            refine lv_topi (fun v_27324 ev_27324 => ?_)
            refine lv_istore_n (lv' := [(2, .int v_27324), (0, .ref a0), (1, .int 6), (3, .int i27311_3)]) hx hb dX7_count_137 rfl hl (by decide) rfl (fun ls hl => ?_)
            obtain ⟨v_27325, ev_27325⟩ : ∃ y : Int32, y = i27311_3 + 1 := ⟨_, rfl⟩
            refine lv_iinc (v := v_27325) (lv' := [(3, .int v_27325), (2, .int v_27324), (0, .ref a0), (1, .int 6)]) hx hb dX7_count_138 hl (k := 3) rfl (by rw [ev_27325]; rfl) (by decide) rfl (fun ls hl => ?_)
            have fv_27325 : v_27325.toInt = i27311_3.toInt + 1 := by rw [ev_27325]; exact ka_add (x := i27311_3.toInt) (y := 1) rfl (by decide) (by omega) (by omega)
            refine lv_goto (tgt := 117) hx hb dX7_count_141 (by decide) ?_
            exact ih_27311 v_27324 v_27325 ⟨by omega, by omega⟩ (by omega) ls (lv_sub hl [2, 3, 1, 0] rfl)
    exact lp_27311 _ 0 0 ⟨by decide, by decide⟩ (Nat.lt_succ_self _) ls (lv_sub hl [2, 3, 1, 0] rfl)
  · obtain rfl : x0 = 7 := (ka_eq' _ _).mpr (y_27304.trans (by decide))
    refine lv_iload_n hx hb dX7_count_0 rfl (lv_at hl 1 rfl) ?_
    refine lv_tableIn (off := 145) (tgt := 146) hx hb dX7_count_1 (by decide) (by decide) (by decide) (by decide) ?_
    refine lv_aload_n hx hb dX7_count_146 rfl (lv_at hl 0 rfl) ?_
    refine ka_get C lq_354 rfl hK hP 0 rfl 1 (by decide) lq_360 rfl dX7_count_147 ?_
    exact ka_rRi C hr hlk ⟨_, rfl⟩ dX7_count_150
  · skip
    refine lv_iload_n hx hb dX7_count_0 rfl (lv_at hl 1 rfl) ?_
    refine lv_tableOut (tgt := 151) hx hb dX7_count_1 (by omega) (by decide) ?_
    refine lv_iconst (v := (-1)) hx hb dX7_count_151 (by decide) ?_
    exact ka_rRi C hr hlk ⟨_, rfl⟩ dX7_count_152
