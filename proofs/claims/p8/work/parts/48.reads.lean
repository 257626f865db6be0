theorem lqr_432 : ∀ w ∈ wsX70, w ∈ wsX7_reads := by decide +kernel
theorem lqr_433 : Cond.fieldLink RX7 78 "AskedBackModel" "nodes" "I" ∈ wsX7_reads := by decide +kernel
theorem lqr_434 : Cond.fieldLink RX7 81 "AskedBackModel" "at" "I" ∈ wsX7_reads := by decide +kernel
theorem lqr_435 : Cond.fieldLink RX7 84 "AskedBackModel" "end" "I" ∈ wsX7_reads := by decide +kernel
theorem lqr_436 : Cond.fieldLink RX7 113 "AskedBackModel" "deep" "I" ∈ wsX7_reads := by decide +kernel
theorem lqr_437 : Cond.fieldLink RX7 97 "AskedBackModel" "isWrong" "Z" ∈ wsX7_reads := by decide +kernel
theorem lqr_438 : Cond.fieldLink RX7 71 "AskedBackModel" "taped" "I" ∈ wsX7_reads := by decide +kernel
theorem lqr_439 : Cond.fieldLink RX7 64 "AskedBackModel" "fault" "I" ∈ wsX7_reads := by decide +kernel
theorem lqr_440 : Cond.fieldLink RX7 13 "AskedBackModel" "tells" "[I" ∈ wsX7_reads := by decide +kernel
theorem lqr_441 : Cond.fieldLink RX7 17 "AskedBackModel" "size" "[I" ∈ wsX7_reads := by decide +kernel
set_option maxHeartbeats 4000000 in
set_option maxRecDepth 100000 in
theorem cr_X7_reads_414 (l : Launch) (D : va_G) (F : Nat → Prop) (a0 : Nat) (x0 : Int32) (a1 : Nat) (x1 : Int32) (a2 : Nat) (a3 : Nat) (a4 : Nat) (a5 : Nat) (a6 : Nat) (a7 : Nat) (a8 : Nat) (x2 : Int32) (x3 : Int32) (x4 : Int32) (x5 : Int32) (x6 : Int32) (x7 : Int32) (x8 : Int32) (a9 : Nat) (a10 : Nat) (a11 : Nat) (a12 : Nat) (a13 : Nat) (a14 : Nat) (x9 : Int32) (x10 : Int32) (x11 : Int32) (x12 : Int32) (x13 : Int32) (x14 : Int32) (k0 : ClassId) (f0 : Nat → Int32) (k1 : ClassId) (f1 : Nat → Int32) (k2 : ClassId) (f2 : Nat → Int32) (k3 : ClassId) (f3 : Nat → Int32) (k4 : ClassId) (f4 : Nat → Int32) (k5 : ClassId) (f5 : Nat → Int32) (k6 : ClassId) (f6 : Nat → Int32) (k7 : ClassId) (f7 : Nat → Int32) (hx0 : 0 ≤ x0.toInt ∧ x0.toInt ≤ 60) (hx1 : 0 ≤ x1.toInt ∧ x1.toInt ≤ 80) (hx2 : -1 ≤ x2.toInt ∧ x2.toInt ≤ 5) (hx5 : 1 ≤ x5.toInt ∧ x5.toInt ≤ 8) (hx6 : 0 ≤ x6.toInt ∧ x6.toInt ≤ 40) (hx8 : 0 ≤ x8.toInt ∧ x8.toInt ≤ 10) (hx9 : 0 ≤ x9.toInt ∧ x9.toInt ≤ 60) (hx10 : 0 ≤ x10.toInt ∧ x10.toInt ≤ 60) (hx11 : 0 ≤ x11.toInt ∧ x11.toInt ≤ 60) (hx12 : 0 ≤ x12.toInt ∧ x12.toInt ≤ 8) (hx14 : 0 ≤ x14.toInt ∧ x14.toInt ≤ 1) (hf0 : sb_Fit f0) (hf2 : ∀ j : Nat, 0 ≤ (f2 j).toInt ∧ (f2 j).toInt ≤ 60) (hf3 : sb_Fit f3) : ka_E l D F yX7_reads wsX7_reads 143 3574 0 0 [.ref a0, .int x0] [(a0, .inr (7, [.ref a1, .int x1, .ref a2, .ref a3, .ref a4, .ref a5, .ref a6, .ref a7, .ref a8, .int x2, .int x3, .int x4, .int x5, .int x6, .int x7, .int x8, .ref a9, .ref a10, .ref a11, .ref a12, .ref a13, .ref a14, .int x9, .int x10, .int x11, .int x12, .int x13, .int x14])), (a1, .inl (k0, 80, .inl f0)), (a2, .inl (k1, 89, .inl f1)), (a3, .inl (k2, 89, .inl f2)), (a4, .inl (k3, 5340, .inl f3)), (a11, .inl (k4, 60, .inl f4)), (a12, .inl (k5, 60, .inl f5)), (a13, .inl (k6, 60, .inl f6)), (a14, .inl (k7, 60, .inl f7))] [(k0, .byte), (k1, .int), (k2, .int), (k3, .byte), (k4, .int), (k5, .int), (k6, .int), (k7, .int)] (fun (u : (Int32) × (Int32) × (Int32) × (Int32) × (Int32) × (Nat → Int32) × (Nat → Int32) × (Nat → Int32) × (Nat → Int32) × (Nat → Int32) × (Nat → Int32) × (Nat → Int32) × (Int32)) => some (.int (u.2.2.2.2.2.2.2.2.2.2.2.2))) (fun (u : (Int32) × (Int32) × (Int32) × (Int32) × (Int32) × (Nat → Int32) × (Nat → Int32) × (Nat → Int32) × (Nat → Int32) × (Nat → Int32) × (Nat → Int32) × (Nat → Int32) × (Int32)) => (0 ≤ (u.1).toInt ∧ (u.1).toInt ≤ 60) ∧ (0 ≤ (u.2.1).toInt ∧ (u.2.1).toInt ≤ 60) ∧ (0 ≤ (u.2.2.1).toInt ∧ (u.2.2.1).toInt ≤ 8) ∧ (0 ≤ (u.2.2.2.2.1).toInt ∧ (u.2.2.2.2.1).toInt ≤ 1) ∧ (∀ j : Nat, 0 ≤ ((u.2.2.2.2.2.2.1) j).toInt ∧ ((u.2.2.2.2.2.2.1) j).toInt ≤ 60) ∧ (sb_Fit (u.2.2.2.2.2.2.2.1)) ∧ (0 ≤ (u.2.2.2.2.2.2.2.2.2.2.2.2).toInt ∧ (u.2.2.2.2.2.2.2.2.2.2.2.2).toInt ≤ 1)) (fun (u : (Int32) × (Int32) × (Int32) × (Int32) × (Int32) × (Nat → Int32) × (Nat → Int32) × (Nat → Int32) × (Nat → Int32) × (Nat → Int32) × (Nat → Int32) × (Nat → Int32) × (Int32)) => [(a0, .inr (7, [.ref a1, .int 0, .ref a2, .ref a3, .ref a4, .ref a5, .ref a6, .ref a7, .ref a8, .int x2, .int x3, .int x4, .int x5, .int x6, .int x7, .int x8, .ref a9, .ref a10, .ref a11, .ref a12, .ref a13, .ref a14, .int (u.1), .int (u.2.1), .int x0, .int (u.2.2.1), .int (u.2.2.2.1), .int (u.2.2.2.2.1)])), (a1, .inl (k0, 80, .inl f0)), (a2, .inl (k1, 89, .inl (u.2.2.2.2.2.1))), (a3, .inl (k2, 89, .inl (u.2.2.2.2.2.2.1))), (a4, .inl (k3, 5340, .inl (u.2.2.2.2.2.2.2.1))), (a11, .inl (k4, 60, .inl (u.2.2.2.2.2.2.2.2.1))), (a12, .inl (k5, 60, .inl (u.2.2.2.2.2.2.2.2.2.1))), (a13, .inl (k6, 60, .inl (u.2.2.2.2.2.2.2.2.2.2.1))), (a14, .inl (k7, 60, .inl (u.2.2.2.2.2.2.2.2.2.2.2.1)))]) (fun (u : (Int32) × (Int32) × (Int32) × (Int32) × (Int32) × (Nat → Int32) × (Nat → Int32) × (Nat → Int32) × (Nat → Int32) × (Nat → Int32) × (Nat → Int32) × (Nat → Int32) × (Int32)) => []) := by
  refine ka_E_of (cc := cX7_reads) (maxL := 3) (ret := (some .boolean)) (by decide) rfl (Nat.le_of_ble_eq_true rfl) ?_
  intro p e s m below meth c ls A C hr hlk hin hP hK hD hS hA hE hN hl
  have C : CallFix p m c cX7_reads 3 s [.ref a0, .int x0].toArray wsX7_reads RX7 := C
  obtain ⟨hx, hb, hml, hown, hts⟩ := id C
  have hl : lv_has ls 3 [(0, .ref a0), (1, .int x0)] := hl
  have rx0 := ka_rng x0
  have rx1 := ka_rng x1
  have rx2 := ka_rng x2
  have rx3 := ka_rng x3
  have rx4 := ka_rng x4
  have rx5 := ka_rng x5
  have rx6 := ka_rng x6
  have rx7 := ka_rng x7
  have rx8 := ka_rng x8
  have rx9 := ka_rng x9
  have rx10 := ka_rng x10
  have rx11 := ka_rng x11
  have rx12 := ka_rng x12
  have rx13 := ka_rng x13
  have rx14 := ka_rng x14
  refine lv_aload_n hx hb dX7_reads_0 rfl (lv_at hl 0 rfl) ?_
  refine lv_iconst (v := 0) hx hb dX7_reads_1 (by decide) ?_
  refine ka_put C lqr_432 tyX7 tyX7_ok nmX7 rfl hK hP hD hS 0 rfl 22 (by decide) lqr_433 rfl rfl rfl (Nat.le_of_ble_eq_true rfl) dX7_reads_2 (fun H locs hP hD hS => ?_)
  have hP : va_P D vwCl [(a0, .inr (7, [.ref a1, .int x1, .ref a2, .ref a3, .ref a4, .ref a5, .ref a6, .ref a7, .ref a8, .int x2, .int x3, .int x4, .int x5, .int x6, .int x7, .int x8, .ref a9, .ref a10, .ref a11, .ref a12, .ref a13, .ref a14, .int 0, .int x10, .int x11, .int x12, .int x13, .int x14])), (a1, .inl (k0, 80, .inl f0)), (a2, .inl (k1, 89, .inl f1)), (a3, .inl (k2, 89, .inl f2)), (a4, .inl (k3, 5340, .inl f3)), (a11, .inl (k4, 60, .inl f4)), (a12, .inl (k5, 60, .inl f5)), (a13, .inl (k6, 60, .inl f6)), (a14, .inl (k7, 60, .inl f7))] H := hP
  have hD : va_D A [(a0, .inr (7, [.ref a1, .int x1, .ref a2, .ref a3, .ref a4, .ref a5, .ref a6, .ref a7, .ref a8, .int x2, .int x3, .int x4, .int x5, .int x6, .int x7, .int x8, .ref a9, .ref a10, .ref a11, .ref a12, .ref a13, .ref a14, .int 0, .int x10, .int x11, .int x12, .int x13, .int x14])), (a1, .inl (k0, 80, .inl f0)), (a2, .inl (k1, 89, .inl f1)), (a3, .inl (k2, 89, .inl f2)), (a4, .inl (k3, 5340, .inl f3)), (a11, .inl (k4, 60, .inl f4)), (a12, .inl (k5, 60, .inl f5)), (a13, .inl (k6, 60, .inl f6)), (a14, .inl (k7, 60, .inl f7))] := hD
  refine lv_aload_n hx hb dX7_reads_5 rfl (lv_at hl 0 rfl) ?_
  refine lv_iconst (v := 0) hx hb dX7_reads_6 (by decide) ?_
  refine ka_put C lqr_432 tyX7 tyX7_ok nmX7 rfl hK hP hD hS 0 rfl 23 (by decide) lqr_434 rfl rfl rfl (Nat.le_of_ble_eq_true rfl) dX7_reads_7 (fun H locs hP hD hS => ?_)
  have hP : va_P D vwCl [(a0, .inr (7, [.ref a1, .int x1, .ref a2, .ref a3, .ref a4, .ref a5, .ref a6, .ref a7, .ref a8, .int x2, .int x3, .int x4, .int x5, .int x6, .int x7, .int x8, .ref a9, .ref a10, .ref a11, .ref a12, .ref a13, .ref a14, .int 0, .int 0, .int x11, .int x12, .int x13, .int x14])), (a1, .inl (k0, 80, .inl f0)), (a2, .inl (k1, 89, .inl f1)), (a3, .inl (k2, 89, .inl f2)), (a4, .inl (k3, 5340, .inl f3)), (a11, .inl (k4, 60, .inl f4)), (a12, .inl (k5, 60, .inl f5)), (a13, .inl (k6, 60, .inl f6)), (a14, .inl (k7, 60, .inl f7))] H := hP
  have hD : va_D A [(a0, .inr (7, [.ref a1, .int x1, .ref a2, .ref a3, .ref a4, .ref a5, .ref a6, .ref a7, .ref a8, .int x2, .int x3, .int x4, .int x5, .int x6, .int x7, .int x8, .ref a9, .ref a10, .ref a11, .ref a12, .ref a13, .ref a14, .int 0, .int 0, .int x11, .int x12, .int x13, .int x14])), (a1, .inl (k0, 80, .inl f0)), (a2, .inl (k1, 89, .inl f1)), (a3, .inl (k2, 89, .inl f2)), (a4, .inl (k3, 5340, .inl f3)), (a11, .inl (k4, 60, .inl f4)), (a12, .inl (k5, 60, .inl f5)), (a13, .inl (k6, 60, .inl f6)), (a14, .inl (k7, 60, .inl f7))] := hD
  refine lv_aload_n hx hb dX7_reads_10 rfl (lv_at hl 0 rfl) ?_
  refine lv_iload_n hx hb dX7_reads_11 rfl (lv_at hl 1 rfl) ?_
  refine ka_put C lqr_432 tyX7 tyX7_ok nmX7 rfl hK hP hD hS 0 rfl 24 (by decide) lqr_435 rfl rfl rfl (Nat.le_of_ble_eq_true rfl) dX7_reads_12 (fun H locs hP hD hS => ?_)
  have hP : va_P D vwCl [(a0, .inr (7, [.ref a1, .int x1, .ref a2, .ref a3, .ref a4, .ref a5, .ref a6, .ref a7, .ref a8, .int x2, .int x3, .int x4, .int x5, .int x6, .int x7, .int x8, .ref a9, .ref a10, .ref a11, .ref a12, .ref a13, .ref a14, .int 0, .int 0, .int x0, .int x12, .int x13, .int x14])), (a1, .inl (k0, 80, .inl f0)), (a2, .inl (k1, 89, .inl f1)), (a3, .inl (k2, 89, .inl f2)), (a4, .inl (k3, 5340, .inl f3)), (a11, .inl (k4, 60, .inl f4)), (a12, .inl (k5, 60, .inl f5)), (a13, .inl (k6, 60, .inl f6)), (a14, .inl (k7, 60, .inl f7))] H := hP
  have hD : va_D A [(a0, .inr (7, [.ref a1, .int x1, .ref a2, .ref a3, .ref a4, .ref a5, .ref a6, .ref a7, .ref a8, .int x2, .int x3, .int x4, .int x5, .int x6, .int x7, .int x8, .ref a9, .ref a10, .ref a11, .ref a12, .ref a13, .ref a14, .int 0, .int 0, .int x0, .int x12, .int x13, .int x14])), (a1, .inl (k0, 80, .inl f0)), (a2, .inl (k1, 89, .inl f1)), (a3, .inl (k2, 89, .inl f2)), (a4, .inl (k3, 5340, .inl f3)), (a11, .inl (k4, 60, .inl f4)), (a12, .inl (k5, 60, .inl f5)), (a13, .inl (k6, 60, .inl f6)), (a14, .inl (k7, 60, .inl f7))] := hD
  refine lv_aload_n hx hb dX7_reads_15 rfl (lv_at hl 0 rfl) ?_
  refine lv_iconst (v := 0) hx hb dX7_reads_16 (by decide) ?_
  refine ka_put C lqr_432 tyX7 tyX7_ok nmX7 rfl hK hP hD hS 0 rfl 25 (by decide) lqr_436 rfl rfl rfl (Nat.le_of_ble_eq_true rfl) dX7_reads_17 (fun H locs hP hD hS => ?_)
  have hP : va_P D vwCl [(a0, .inr (7, [.ref a1, .int x1, .ref a2, .ref a3, .ref a4, .ref a5, .ref a6, .ref a7, .ref a8, .int x2, .int x3, .int x4, .int x5, .int x6, .int x7, .int x8, .ref a9, .ref a10, .ref a11, .ref a12, .ref a13, .ref a14, .int 0, .int 0, .int x0, .int 0, .int x13, .int x14])), (a1, .inl (k0, 80, .inl f0)), (a2, .inl (k1, 89, .inl f1)), (a3, .inl (k2, 89, .inl f2)), (a4, .inl (k3, 5340, .inl f3)), (a11, .inl (k4, 60, .inl f4)), (a12, .inl (k5, 60, .inl f5)), (a13, .inl (k6, 60, .inl f6)), (a14, .inl (k7, 60, .inl f7))] H := hP
  have hD : va_D A [(a0, .inr (7, [.ref a1, .int x1, .ref a2, .ref a3, .ref a4, .ref a5, .ref a6, .ref a7, .ref a8, .int x2, .int x3, .int x4, .int x5, .int x6, .int x7, .int x8, .ref a9, .ref a10, .ref a11, .ref a12, .ref a13, .ref a14, .int 0, .int 0, .int x0, .int 0, .int x13, .int x14])), (a1, .inl (k0, 80, .inl f0)), (a2, .inl (k1, 89, .inl f1)), (a3, .inl (k2, 89, .inl f2)), (a4, .inl (k3, 5340, .inl f3)), (a11, .inl (k4, 60, .inl f4)), (a12, .inl (k5, 60, .inl f5)), (a13, .inl (k6, 60, .inl f6)), (a14, .inl (k7, 60, .inl f7))] := hD
  refine lv_aload_n hx hb dX7_reads_20 rfl (lv_at hl 0 rfl) ?_
  refine lv_iconst (v := 0) hx hb dX7_reads_21 (by decide) ?_
  refine ka_put C lqr_432 tyX7 tyX7_ok nmX7 rfl hK hP hD hS 0 rfl 27 (by decide) lqr_437 rfl rfl rfl (Nat.le_of_ble_eq_true rfl) dX7_reads_22 (fun H locs hP hD hS => ?_)
  have hP : va_P D vwCl [(a0, .inr (7, [.ref a1, .int x1, .ref a2, .ref a3, .ref a4, .ref a5, .ref a6, .ref a7, .ref a8, .int x2, .int x3, .int x4, .int x5, .int x6, .int x7, .int x8, .ref a9, .ref a10, .ref a11, .ref a12, .ref a13, .ref a14, .int 0, .int 0, .int x0, .int 0, .int x13, .int 0])), (a1, .inl (k0, 80, .inl f0)), (a2, .inl (k1, 89, .inl f1)), (a3, .inl (k2, 89, .inl f2)), (a4, .inl (k3, 5340, .inl f3)), (a11, .inl (k4, 60, .inl f4)), (a12, .inl (k5, 60, .inl f5)), (a13, .inl (k6, 60, .inl f6)), (a14, .inl (k7, 60, .inl f7))] H := hP
  have hD : va_D A [(a0, .inr (7, [.ref a1, .int x1, .ref a2, .ref a3, .ref a4, .ref a5, .ref a6, .ref a7, .ref a8, .int x2, .int x3, .int x4, .int x5, .int x6, .int x7, .int x8, .ref a9, .ref a10, .ref a11, .ref a12, .ref a13, .ref a14, .int 0, .int 0, .int x0, .int 0, .int x13, .int 0])), (a1, .inl (k0, 80, .inl f0)), (a2, .inl (k1, 89, .inl f1)), (a3, .inl (k2, 89, .inl f2)), (a4, .inl (k3, 5340, .inl f3)), (a11, .inl (k4, 60, .inl f4)), (a12, .inl (k5, 60, .inl f5)), (a13, .inl (k6, 60, .inl f6)), (a14, .inl (k7, 60, .inl f7))] := hD
  refine lv_aload_n hx hb dX7_reads_25 rfl (lv_at hl 0 rfl) ?_
  refine lv_iconst (v := 1) hx hb dX7_reads_26 (by decide) ?_
  refine ka_EV (n := 1) (wr := [(a2, .inl (k1, 89, .inl f1)), (a3, .inl (k2, 89, .inl f2)), (a4, .inl (k3, 5340, .inl f3))]) C (kt_row1 l D F a0 a1 x1 a2 a3 a4 a5 a6 a7 a8 x2 x3 x4 x5 x6 x7 x8 a9 a10 a11 a12 a13 a14 0 0 x0 0 x13 0 k0 k4 k5 k6 k7 f0 f4 f5 f6 f7 1 ⟨by omega, by omega⟩ ⟨by omega, by omega⟩ ⟨by omega, by omega⟩ ⟨by omega, by omega⟩ ⟨by omega, by omega⟩ ⟨by decide, by decide⟩ ⟨by decide, by decide⟩ ⟨by omega, by omega⟩ ⟨by decide, by decide⟩ ⟨by decide, by decide⟩ hf0 ⟨by decide, by (have h00 : ((0 : Int32)).toInt = 0 := (by decide); omega)⟩ (by decide) (by decide) (by decide)) gX7_reads_X7_row rfl (by decide +kernel) ⟨show kp_fR 1 0 + 1 ≤ 143 by decide, show 8 + (5 + 11) + 25 * kp_fR 1 0 ≤ 3574 by decide⟩ hK hP hD hS hA hE hN [0, 1, 5, 6, 7, 8] rfl (by decide) [2, 3, 4] rfl (by decide) (by decide) [0, 4, 5, 6, 7] rfl (ci := 7) rfl rfl 0 rfl rfl hl.1 (rest := []) rfl (Nat.le_of_ble_eq_true rfl) dX7_reads_27 ⟨Nat.le_of_ble_eq_true rfl, Nat.le_of_ble_eq_true rfl⟩ (fun u H locs hq hP hD hK hS => ?_)
  obtain ⟨v_32894, v_32895, v_32896, v_32897, g_32899, g_32900, g_32901, g_32902, v_32898⟩ := u
  have hq : kp_post ((1 : Nat) : Int) ((0 : Nat) : Int) 0 0 x0.toInt f4 f5 f6 v_32894.toInt v_32895.toInt v_32896.toInt v_32897.toInt v_32898.toInt g_32899 g_32900 g_32901 := hq
  obtain ⟨h1q_32903, -, h3q_32903⟩ := hq
  have rv_32894 := ka_rng v_32894
  have rv_32895 := ka_rng v_32895
  have rv_32896 := ka_rng v_32896
  have rv_32897 := ka_rng v_32897
  have rv_32898 := ka_rng v_32898
  have hP : va_P D vwCl [(a2, .inl (k1, 89, .inl f1)), (a3, .inl (k2, 89, .inl f2)), (a4, .inl (k3, 5340, .inl f3)), (a0, .inr (7, [.ref a1, .int x1, .ref a2, .ref a3, .ref a4, .ref a5, .ref a6, .ref a7, .ref a8, .int x2, .int x3, .int x4, .int x5, .int x6, .int x7, .int x8, .ref a9, .ref a10, .ref a11, .ref a12, .ref a13, .ref a14, .int v_32894, .int v_32895, .int x0, .int v_32896, .int x13, .int v_32897])), (a1, .inl (k0, 80, .inl f0)), (a11, .inl (k4, 60, .inl g_32899)), (a12, .inl (k5, 60, .inl g_32900)), (a13, .inl (k6, 60, .inl g_32901)), (a14, .inl (k7, 60, .inl g_32902))] H := hP
  have hD : va_D A [(a2, .inl (k1, 89, .inl f1)), (a3, .inl (k2, 89, .inl f2)), (a4, .inl (k3, 5340, .inl f3)), (a0, .inr (7, [.ref a1, .int x1, .ref a2, .ref a3, .ref a4, .ref a5, .ref a6, .ref a7, .ref a8, .int x2, .int x3, .int x4, .int x5, .int x6, .int x7, .int x8, .ref a9, .ref a10, .ref a11, .ref a12, .ref a13, .ref a14, .int v_32894, .int v_32895, .int x0, .int v_32896, .int x13, .int v_32897])), (a1, .inl (k0, 80, .inl f0)), (a11, .inl (k4, 60, .inl g_32899)), (a12, .inl (k5, 60, .inl g_32900)), (a13, .inl (k6, 60, .inl g_32901)), (a14, .inl (k7, 60, .inl g_32902))] := hD
  have hK : va_K D vwCl [(k0, .byte), (k1, .int), (k2, .int), (k3, .byte), (k4, .int), (k5, .int), (k6, .int), (k7, .int)] s := by simpa using hK
  refine ka_stk (w := [.int v_32898]) rfl ?_
  rcases h3q_32903 with ⟨hwq_32903, hd1q_32903, hd2q_32903⟩ | ⟨hwq_32903, hdq_32903, k_32904, wk_32904, ek_32904, lk_32904, okk_32904, sk_32904⟩
  · skip
    refine lv_istore_n (lv' := [(2, .int v_32898), (0, .ref a0), (1, .int x0)]) hx hb dX7_reads_30 rfl hl (by decide) rfl (fun ls hl => ?_)
    refine lv_aload_n hx hb dX7_reads_31 rfl (lv_at hl 1 rfl) ?_
    refine ka_EV (n := 0) (wr := [(a2, .inl (k1, 89, .inl f1)), (a3, .inl (k2, 89, .inl f2)), (a4, .inl (k3, 5340, .inl f3)), (a11, .inl (k4, 60, .inl g_32899)), (a12, .inl (k5, 60, .inl g_32900)), (a13, .inl (k6, 60, .inl g_32901)), (a14, .inl (k7, 60, .inl g_32902))]) C (ck_X7_blanks_407 l D F a0 a1 x1 a2 a3 a4 a5 a6 a7 a8 x2 x3 x4 x5 x6 x7 x8 a9 a10 a11 a12 a13 a14 v_32894 v_32895 x0 v_32896 x13 v_32897 k0 f0 ⟨by omega, by omega⟩ ⟨by omega, by omega⟩ ⟨by omega, by omega⟩ ⟨by omega, by omega⟩ ⟨by omega, by omega⟩ ⟨by omega, by omega⟩ ⟨by omega, by omega⟩ ⟨by omega, by omega⟩ ⟨by omega, by omega⟩ ⟨by omega, by omega⟩ hf0 (by omega)) gX7_reads_X7_blanks rfl (by decide +kernel) ⟨Nat.le_of_ble_eq_true rfl, Nat.le_of_ble_eq_true rfl⟩ hK hP hD hS hA hE hN [3, 4] rfl (by decide) [0, 1, 2, 5, 6, 7, 8] rfl (by decide) (by decide) [0] rfl (ci := 7) rfl rfl 3 rfl rfl hl.1 (rest := []) rfl (Nat.le_of_ble_eq_true rfl) dX7_reads_32 ⟨Nat.le_of_ble_eq_true rfl, Nat.le_of_ble_eq_true rfl⟩ (fun u H locs hq hP hD hK hS => ?_)
    obtain ⟨v_32905, rfl⟩ : ∃ z, z = u := ⟨_, rfl⟩
    have hq : (0 ≤ v_32905.toInt ∧ v_32905.toInt ≤ 60) ∧ (v_32895.toInt ≤ v_32905.toInt ∧ v_32905.toInt ≤ x0.toInt) := hq
    obtain ⟨hv_32905, hzz_32906⟩ := hq
    have rv_32905 := ka_rng v_32905
    have hP : va_P D vwCl [(a2, .inl (k1, 89, .inl f1)), (a3, .inl (k2, 89, .inl f2)), (a4, .inl (k3, 5340, .inl f3)), (a11, .inl (k4, 60, .inl g_32899)), (a12, .inl (k5, 60, .inl g_32900)), (a13, .inl (k6, 60, .inl g_32901)), (a14, .inl (k7, 60, .inl g_32902)), (a0, .inr (7, [.ref a1, .int x1, .ref a2, .ref a3, .ref a4, .ref a5, .ref a6, .ref a7, .ref a8, .int x2, .int x3, .int x4, .int x5, .int x6, .int x7, .int x8, .ref a9, .ref a10, .ref a11, .ref a12, .ref a13, .ref a14, .int v_32894, .int v_32905, .int x0, .int v_32896, .int x13, .int v_32897])), (a1, .inl (k0, 80, .inl f0))] H := hP
    have hD : va_D A [(a2, .inl (k1, 89, .inl f1)), (a3, .inl (k2, 89, .inl f2)), (a4, .inl (k3, 5340, .inl f3)), (a11, .inl (k4, 60, .inl g_32899)), (a12, .inl (k5, 60, .inl g_32900)), (a13, .inl (k6, 60, .inl g_32901)), (a14, .inl (k7, 60, .inl g_32902)), (a0, .inr (7, [.ref a1, .int x1, .ref a2, .ref a3, .ref a4, .ref a5, .ref a6, .ref a7, .ref a8, .int x2, .int x3, .int x4, .int x5, .int x6, .int x7, .int x8, .ref a9, .ref a10, .ref a11, .ref a12, .ref a13, .ref a14, .int v_32894, .int v_32905, .int x0, .int v_32896, .int x13, .int v_32897])), (a1, .inl (k0, 80, .inl f0))] := hD
    have hK : va_K D vwCl [(k0, .byte), (k1, .int), (k2, .int), (k3, .byte), (k4, .int), (k5, .int), (k6, .int), (k7, .int)] s := by simpa using hK
    refine ka_stk (w := []) rfl ?_
    refine lv_aload_n hx hb dX7_reads_35 rfl (lv_at hl 1 rfl) ?_
    refine ka_get C lqr_432 rfl hK hP 7 rfl 23 (by decide) lqr_434 rfl dX7_reads_36 ?_
    refine lv_aload_n hx hb dX7_reads_39 rfl (lv_at hl 1 rfl) ?_
    refine ka_get C lqr_432 rfl hK hP 7 rfl 24 (by decide) lqr_435 rfl dX7_reads_40 ?_
    refine lv_icmp_ge (tgt := 51) hx hb dX7_reads_43 (by decide) (fun c_32907 => ?_) (fun c_32907 => ?_)
    · have c_32907 : x0.toInt ≤ v_32905.toInt := by rw [ka_le'] at c_32907; exact c_32907
      refine lv_aload_n hx hb dX7_reads_51 rfl (lv_at hl 1 rfl) ?_
      refine lv_iconst (v := 0) hx hb dX7_reads_52 (by decide) ?_
      refine ka_put C lqr_432 tyX7 tyX7_ok nmX7 rfl hK hP hD hS 7 rfl 1 (by decide) lqr_438 rfl rfl rfl (Nat.le_of_ble_eq_true rfl) dX7_reads_53 (fun H locs hP hD hS => ?_)
      have hP : va_P D vwCl [(a2, .inl (k1, 89, .inl f1)), (a3, .inl (k2, 89, .inl f2)), (a4, .inl (k3, 5340, .inl f3)), (a11, .inl (k4, 60, .inl g_32899)), (a12, .inl (k5, 60, .inl g_32900)), (a13, .inl (k6, 60, .inl g_32901)), (a14, .inl (k7, 60, .inl g_32902)), (a0, .inr (7, [.ref a1, .int 0, .ref a2, .ref a3, .ref a4, .ref a5, .ref a6, .ref a7, .ref a8, .int x2, .int x3, .int x4, .int x5, .int x6, .int x7, .int x8, .ref a9, .ref a10, .ref a11, .ref a12, .ref a13, .ref a14, .int v_32894, .int v_32905, .int x0, .int v_32896, .int x13, .int v_32897])), (a1, .inl (k0, 80, .inl f0))] H := hP
      have hD : va_D A [(a2, .inl (k1, 89, .inl f1)), (a3, .inl (k2, 89, .inl f2)), (a4, .inl (k3, 5340, .inl f3)), (a11, .inl (k4, 60, .inl g_32899)), (a12, .inl (k5, 60, .inl g_32900)), (a13, .inl (k6, 60, .inl g_32901)), (a14, .inl (k7, 60, .inl g_32902)), (a0, .inr (7, [.ref a1, .int 0, .ref a2, .ref a3, .ref a4, .ref a5, .ref a6, .ref a7, .ref a8, .int x2, .int x3, .int x4, .int x5, .int x6, .int x7, .int x8, .ref a9, .ref a10, .ref a11, .ref a12, .ref a13, .ref a14, .int v_32894, .int v_32905, .int x0, .int v_32896, .int x13, .int v_32897])), (a1, .inl (k0, 80, .inl f0))] := hD
      refine lv_aload_n hx hb dX7_reads_56 rfl (lv_at hl 1 rfl) ?_
      refine lv_aload_n hx hb dX7_reads_57 rfl (lv_at hl 1 rfl) ?_
      refine ka_get C lqr_432 rfl hK hP 7 rfl 27 (by decide) lqr_437 rfl dX7_reads_58 ?_
      refine lv_if_eq (tgt := 71) hx hb dX7_reads_61 (by decide) (fun c_ => absurd c_ (by rw [ka_eq', show ((0 : Int32)).toInt = 0 from by decide]; omega)) (fun _ => ?_)
      refine lv_aload_n hx hb dX7_reads_64 rfl (lv_at hl 1 rfl) ?_
      refine ka_get C lqr_432 rfl hK hP 7 rfl 23 (by decide) lqr_434 rfl dX7_reads_65 ?_
      refine lv_goto (tgt := 72) hx hb dX7_reads_68 (by decide) ?_
      refine ka_put C lqr_432 tyX7 tyX7_ok nmX7 rfl hK hP hD hS 7 rfl 26 (by decide) lqr_439 rfl rfl rfl (Nat.le_of_ble_eq_true rfl) dX7_reads_72 (fun H locs hP hD hS => ?_)
      have hP : va_P D vwCl [(a2, .inl (k1, 89, .inl f1)), (a3, .inl (k2, 89, .inl f2)), (a4, .inl (k3, 5340, .inl f3)), (a11, .inl (k4, 60, .inl g_32899)), (a12, .inl (k5, 60, .inl g_32900)), (a13, .inl (k6, 60, .inl g_32901)), (a14, .inl (k7, 60, .inl g_32902)), (a0, .inr (7, [.ref a1, .int 0, .ref a2, .ref a3, .ref a4, .ref a5, .ref a6, .ref a7, .ref a8, .int x2, .int x3, .int x4, .int x5, .int x6, .int x7, .int x8, .ref a9, .ref a10, .ref a11, .ref a12, .ref a13, .ref a14, .int v_32894, .int v_32905, .int x0, .int v_32896, .int v_32905, .int v_32897])), (a1, .inl (k0, 80, .inl f0))] H := hP
      have hD : va_D A [(a2, .inl (k1, 89, .inl f1)), (a3, .inl (k2, 89, .inl f2)), (a4, .inl (k3, 5340, .inl f3)), (a11, .inl (k4, 60, .inl g_32899)), (a12, .inl (k5, 60, .inl g_32900)), (a13, .inl (k6, 60, .inl g_32901)), (a14, .inl (k7, 60, .inl g_32902)), (a0, .inr (7, [.ref a1, .int 0, .ref a2, .ref a3, .ref a4, .ref a5, .ref a6, .ref a7, .ref a8, .int x2, .int x3, .int x4, .int x5, .int x6, .int x7, .int x8, .ref a9, .ref a10, .ref a11, .ref a12, .ref a13, .ref a14, .int v_32894, .int v_32905, .int x0, .int v_32896, .int v_32905, .int v_32897])), (a1, .inl (k0, 80, .inl f0))] := hD
      refine lv_aload_n hx hb dX7_reads_75 rfl (lv_at hl 1 rfl) ?_
      refine ka_get C lqr_432 rfl hK hP 7 rfl 27 (by decide) lqr_437 rfl dX7_reads_76 ?_
      refine lv_if_eq (tgt := 84) hx hb dX7_reads_79 (by decide) (fun c_ => absurd c_ (by rw [ka_eq', show ((0 : Int32)).toInt = 0 from by decide]; omega)) (fun _ => ?_)
      refine lv_iconst (v := 0) hx hb dX7_reads_82 (by decide) ?_
      exact ka_rEz C hr hlk rfl (Nat.le_of_ble_eq_true rfl) (Nat.le_of_ble_eq_true rfl) hS (ka_qE (v_32894, v_32905, v_32896, v_32905, v_32897, f1, f2, f3, g_32899, g_32900, g_32901, g_32902, 0) rfl ⟨(show 0 ≤ v_32894.toInt ∧ v_32894.toInt ≤ 60 from ⟨by omega, by omega⟩), (show 0 ≤ v_32905.toInt ∧ v_32905.toInt ≤ 60 from ⟨by omega, by omega⟩), (show 0 ≤ v_32896.toInt ∧ v_32896.toInt ≤ 8 from ⟨by omega, by omega⟩), (show 0 ≤ v_32897.toInt ∧ v_32897.toInt ≤ 1 from ⟨by omega, by omega⟩), hf2, hf3, (show 0 ≤ ((0 : Int32)).toInt ∧ ((0 : Int32)).toInt ≤ 1 from ⟨by decide, by decide⟩)⟩ hK hP hD hS [7, 8, 0, 1, 2, 3, 4, 5, 6] (by decide) rfl [] rfl) dX7_reads_83
    · have c_32907 : ¬ x0.toInt ≤ v_32905.toInt := by rw [ka_le'] at c_32907; exact c_32907
      refine lv_aload_n hx hb dX7_reads_46 rfl (lv_at hl 1 rfl) ?_
      refine lv_iconst (v := 1) hx hb dX7_reads_47 (by decide) ?_
      refine ka_put C lqr_432 tyX7 tyX7_ok nmX7 rfl hK hP hD hS 7 rfl 27 (by decide) lqr_437 rfl rfl rfl (Nat.le_of_ble_eq_true rfl) dX7_reads_48 (fun H locs hP hD hS => ?_)
      have hP : va_P D vwCl [(a2, .inl (k1, 89, .inl f1)), (a3, .inl (k2, 89, .inl f2)), (a4, .inl (k3, 5340, .inl f3)), (a11, .inl (k4, 60, .inl g_32899)), (a12, .inl (k5, 60, .inl g_32900)), (a13, .inl (k6, 60, .inl g_32901)), (a14, .inl (k7, 60, .inl g_32902)), (a0, .inr (7, [.ref a1, .int x1, .ref a2, .ref a3, .ref a4, .ref a5, .ref a6, .ref a7, .ref a8, .int x2, .int x3, .int x4, .int x5, .int x6, .int x7, .int x8, .ref a9, .ref a10, .ref a11, .ref a12, .ref a13, .ref a14, .int v_32894, .int v_32905, .int x0, .int v_32896, .int x13, .int 1])), (a1, .inl (k0, 80, .inl f0))] H := hP
      have hD : va_D A [(a2, .inl (k1, 89, .inl f1)), (a3, .inl (k2, 89, .inl f2)), (a4, .inl (k3, 5340, .inl f3)), (a11, .inl (k4, 60, .inl g_32899)), (a12, .inl (k5, 60, .inl g_32900)), (a13, .inl (k6, 60, .inl g_32901)), (a14, .inl (k7, 60, .inl g_32902)), (a0, .inr (7, [.ref a1, .int x1, .ref a2, .ref a3, .ref a4, .ref a5, .ref a6, .ref a7, .ref a8, .int x2, .int x3, .int x4, .int x5, .int x6, .int x7, .int x8, .ref a9, .ref a10, .ref a11, .ref a12, .ref a13, .ref a14, .int v_32894, .int v_32905, .int x0, .int v_32896, .int x13, .int 1])), (a1, .inl (k0, 80, .inl f0))] := hD
      refine lv_aload_n hx hb dX7_reads_51 rfl (lv_at hl 1 rfl) ?_
      refine lv_iconst (v := 0) hx hb dX7_reads_52 (by decide) ?_
      refine ka_put C lqr_432 tyX7 tyX7_ok nmX7 rfl hK hP hD hS 7 rfl 1 (by decide) lqr_438 rfl rfl rfl (Nat.le_of_ble_eq_true rfl) dX7_reads_53 (fun H locs hP hD hS => ?_)
      have hP : va_P D vwCl [(a2, .inl (k1, 89, .inl f1)), (a3, .inl (k2, 89, .inl f2)), (a4, .inl (k3, 5340, .inl f3)), (a11, .inl (k4, 60, .inl g_32899)), (a12, .inl (k5, 60, .inl g_32900)), (a13, .inl (k6, 60, .inl g_32901)), (a14, .inl (k7, 60, .inl g_32902)), (a0, .inr (7, [.ref a1, .int 0, .ref a2, .ref a3, .ref a4, .ref a5, .ref a6, .ref a7, .ref a8, .int x2, .int x3, .int x4, .int x5, .int x6, .int x7, .int x8, .ref a9, .ref a10, .ref a11, .ref a12, .ref a13, .ref a14, .int v_32894, .int v_32905, .int x0, .int v_32896, .int x13, .int 1])), (a1, .inl (k0, 80, .inl f0))] H := hP
      have hD : va_D A [(a2, .inl (k1, 89, .inl f1)), (a3, .inl (k2, 89, .inl f2)), (a4, .inl (k3, 5340, .inl f3)), (a11, .inl (k4, 60, .inl g_32899)), (a12, .inl (k5, 60, .inl g_32900)), (a13, .inl (k6, 60, .inl g_32901)), (a14, .inl (k7, 60, .inl g_32902)), (a0, .inr (7, [.ref a1, .int 0, .ref a2, .ref a3, .ref a4, .ref a5, .ref a6, .ref a7, .ref a8, .int x2, .int x3, .int x4, .int x5, .int x6, .int x7, .int x8, .ref a9, .ref a10, .ref a11, .ref a12, .ref a13, .ref a14, .int v_32894, .int v_32905, .int x0, .int v_32896, .int x13, .int 1])), (a1, .inl (k0, 80, .inl f0))] := hD
      refine lv_aload_n hx hb dX7_reads_56 rfl (lv_at hl 1 rfl) ?_
      refine lv_aload_n hx hb dX7_reads_57 rfl (lv_at hl 1 rfl) ?_
      refine ka_get C lqr_432 rfl hK hP 7 rfl 27 (by decide) lqr_437 rfl dX7_reads_58 ?_
      refine lv_if_eq (tgt := 71) hx hb dX7_reads_61 (by decide) (fun c_ => absurd c_ (by decide)) (fun _ => ?_)
      refine lv_aload_n hx hb dX7_reads_64 rfl (lv_at hl 1 rfl) ?_
      refine ka_get C lqr_432 rfl hK hP 7 rfl 23 (by decide) lqr_434 rfl dX7_reads_65 ?_
      refine lv_goto (tgt := 72) hx hb dX7_reads_68 (by decide) ?_
      refine ka_put C lqr_432 tyX7 tyX7_ok nmX7 rfl hK hP hD hS 7 rfl 26 (by decide) lqr_439 rfl rfl rfl (Nat.le_of_ble_eq_true rfl) dX7_reads_72 (fun H locs hP hD hS => ?_)
      have hP : va_P D vwCl [(a2, .inl (k1, 89, .inl f1)), (a3, .inl (k2, 89, .inl f2)), (a4, .inl (k3, 5340, .inl f3)), (a11, .inl (k4, 60, .inl g_32899)), (a12, .inl (k5, 60, .inl g_32900)), (a13, .inl (k6, 60, .inl g_32901)), (a14, .inl (k7, 60, .inl g_32902)), (a0, .inr (7, [.ref a1, .int 0, .ref a2, .ref a3, .ref a4, .ref a5, .ref a6, .ref a7, .ref a8, .int x2, .int x3, .int x4, .int x5, .int x6, .int x7, .int x8, .ref a9, .ref a10, .ref a11, .ref a12, .ref a13, .ref a14, .int v_32894, .int v_32905, .int x0, .int v_32896, .int v_32905, .int 1])), (a1, .inl (k0, 80, .inl f0))] H := hP
      have hD : va_D A [(a2, .inl (k1, 89, .inl f1)), (a3, .inl (k2, 89, .inl f2)), (a4, .inl (k3, 5340, .inl f3)), (a11, .inl (k4, 60, .inl g_32899)), (a12, .inl (k5, 60, .inl g_32900)), (a13, .inl (k6, 60, .inl g_32901)), (a14, .inl (k7, 60, .inl g_32902)), (a0, .inr (7, [.ref a1, .int 0, .ref a2, .ref a3, .ref a4, .ref a5, .ref a6, .ref a7, .ref a8, .int x2, .int x3, .int x4, .int x5, .int x6, .int x7, .int x8, .ref a9, .ref a10, .ref a11, .ref a12, .ref a13, .ref a14, .int v_32894, .int v_32905, .int x0, .int v_32896, .int v_32905, .int 1])), (a1, .inl (k0, 80, .inl f0))] := hD
      refine lv_aload_n hx hb dX7_reads_75 rfl (lv_at hl 1 rfl) ?_
      refine ka_get C lqr_432 rfl hK hP 7 rfl 27 (by decide) lqr_437 rfl dX7_reads_76 ?_
      refine lv_if_eq (tgt := 84) hx hb dX7_reads_79 (by decide) (fun c_ => absurd c_ (by decide)) (fun _ => ?_)
      refine lv_iconst (v := 0) hx hb dX7_reads_82 (by decide) ?_
      exact ka_rEz C hr hlk rfl (Nat.le_of_ble_eq_true rfl) (Nat.le_of_ble_eq_true rfl) hS (ka_qE (v_32894, v_32905, v_32896, v_32905, 1, f1, f2, f3, g_32899, g_32900, g_32901, g_32902, 0) rfl ⟨(show 0 ≤ v_32894.toInt ∧ v_32894.toInt ≤ 60 from ⟨by omega, by omega⟩), (show 0 ≤ v_32905.toInt ∧ v_32905.toInt ≤ 60 from ⟨by omega, by omega⟩), (show 0 ≤ v_32896.toInt ∧ v_32896.toInt ≤ 8 from ⟨by omega, by omega⟩), (show 0 ≤ ((1 : Int32)).toInt ∧ ((1 : Int32)).toInt ≤ 1 from ⟨by decide, by decide⟩), hf2, hf3, (show 0 ≤ ((0 : Int32)).toInt ∧ ((0 : Int32)).toInt ≤ 1 from ⟨by decide, by decide⟩)⟩ hK hP hD hS [7, 8, 0, 1, 2, 3, 4, 5, 6] (by decide) rfl [] rfl) dX7_reads_83
  · skip
    refine lv_istore_n (lv' := [(2, .int v_32898), (0, .ref a0), (1, .int x0)]) hx hb dX7_reads_30 rfl hl (by decide) rfl (fun ls hl => ?_)
    refine lv_aload_n hx hb dX7_reads_31 rfl (lv_at hl 1 rfl) ?_
    refine ka_EV (n := 0) (wr := [(a2, .inl (k1, 89, .inl f1)), (a3, .inl (k2, 89, .inl f2)), (a4, .inl (k3, 5340, .inl f3)), (a11, .inl (k4, 60, .inl g_32899)), (a12, .inl (k5, 60, .inl g_32900)), (a13, .inl (k6, 60, .inl g_32901)), (a14, .inl (k7, 60, .inl g_32902))]) C (ck_X7_blanks_407 l D F a0 a1 x1 a2 a3 a4 a5 a6 a7 a8 x2 x3 x4 x5 x6 x7 x8 a9 a10 a11 a12 a13 a14 v_32894 v_32895 x0 v_32896 x13 v_32897 k0 f0 ⟨by omega, by omega⟩ ⟨by omega, by omega⟩ ⟨by omega, by omega⟩ ⟨by omega, by omega⟩ ⟨by omega, by omega⟩ ⟨by omega, by omega⟩ ⟨by omega, by omega⟩ ⟨by omega, by omega⟩ ⟨by omega, by omega⟩ ⟨by omega, by omega⟩ hf0 (by omega)) gX7_reads_X7_blanks rfl (by decide +kernel) ⟨Nat.le_of_ble_eq_true rfl, Nat.le_of_ble_eq_true rfl⟩ hK hP hD hS hA hE hN [3, 4] rfl (by decide) [0, 1, 2, 5, 6, 7, 8] rfl (by decide) (by decide) [0] rfl (ci := 7) rfl rfl 3 rfl rfl hl.1 (rest := []) rfl (Nat.le_of_ble_eq_true rfl) dX7_reads_32 ⟨Nat.le_of_ble_eq_true rfl, Nat.le_of_ble_eq_true rfl⟩ (fun u H locs hq hP hD hK hS => ?_)
    obtain ⟨v_32908, rfl⟩ : ∃ z, z = u := ⟨_, rfl⟩
    have hq : (0 ≤ v_32908.toInt ∧ v_32908.toInt ≤ 60) ∧ (v_32895.toInt ≤ v_32908.toInt ∧ v_32908.toInt ≤ x0.toInt) := hq
    obtain ⟨hv_32908, hzz_32909⟩ := hq
    have rv_32908 := ka_rng v_32908
    have hP : va_P D vwCl [(a2, .inl (k1, 89, .inl f1)), (a3, .inl (k2, 89, .inl f2)), (a4, .inl (k3, 5340, .inl f3)), (a11, .inl (k4, 60, .inl g_32899)), (a12, .inl (k5, 60, .inl g_32900)), (a13, .inl (k6, 60, .inl g_32901)), (a14, .inl (k7, 60, .inl g_32902)), (a0, .inr (7, [.ref a1, .int x1, .ref a2, .ref a3, .ref a4, .ref a5, .ref a6, .ref a7, .ref a8, .int x2, .int x3, .int x4, .int x5, .int x6, .int x7, .int x8, .ref a9, .ref a10, .ref a11, .ref a12, .ref a13, .ref a14, .int v_32894, .int v_32908, .int x0, .int v_32896, .int x13, .int v_32897])), (a1, .inl (k0, 80, .inl f0))] H := hP
    have hD : va_D A [(a2, .inl (k1, 89, .inl f1)), (a3, .inl (k2, 89, .inl f2)), (a4, .inl (k3, 5340, .inl f3)), (a11, .inl (k4, 60, .inl g_32899)), (a12, .inl (k5, 60, .inl g_32900)), (a13, .inl (k6, 60, .inl g_32901)), (a14, .inl (k7, 60, .inl g_32902)), (a0, .inr (7, [.ref a1, .int x1, .ref a2, .ref a3, .ref a4, .ref a5, .ref a6, .ref a7, .ref a8, .int x2, .int x3, .int x4, .int x5, .int x6, .int x7, .int x8, .ref a9, .ref a10, .ref a11, .ref a12, .ref a13, .ref a14, .int v_32894, .int v_32908, .int x0, .int v_32896, .int x13, .int v_32897])), (a1, .inl (k0, 80, .inl f0))] := hD
    have hK : va_K D vwCl [(k0, .byte), (k1, .int), (k2, .int), (k3, .byte), (k4, .int), (k5, .int), (k6, .int), (k7, .int)] s := by simpa using hK
    refine ka_stk (w := []) rfl ?_
    refine lv_aload_n hx hb dX7_reads_35 rfl (lv_at hl 1 rfl) ?_
    refine ka_get C lqr_432 rfl hK hP 7 rfl 23 (by decide) lqr_434 rfl dX7_reads_36 ?_
    refine lv_aload_n hx hb dX7_reads_39 rfl (lv_at hl 1 rfl) ?_
    refine ka_get C lqr_432 rfl hK hP 7 rfl 24 (by decide) lqr_435 rfl dX7_reads_40 ?_
    refine lv_icmp_ge (tgt := 51) hx hb dX7_reads_43 (by decide) (fun c_32910 => ?_) (fun c_32910 => ?_)
    · have c_32910 : x0.toInt ≤ v_32908.toInt := by rw [ka_le'] at c_32910; exact c_32910
      refine lv_aload_n hx hb dX7_reads_51 rfl (lv_at hl 1 rfl) ?_
      refine lv_iconst (v := 0) hx hb dX7_reads_52 (by decide) ?_
      refine ka_put C lqr_432 tyX7 tyX7_ok nmX7 rfl hK hP hD hS 7 rfl 1 (by decide) lqr_438 rfl rfl rfl (Nat.le_of_ble_eq_true rfl) dX7_reads_53 (fun H locs hP hD hS => ?_)
      have hP : va_P D vwCl [(a2, .inl (k1, 89, .inl f1)), (a3, .inl (k2, 89, .inl f2)), (a4, .inl (k3, 5340, .inl f3)), (a11, .inl (k4, 60, .inl g_32899)), (a12, .inl (k5, 60, .inl g_32900)), (a13, .inl (k6, 60, .inl g_32901)), (a14, .inl (k7, 60, .inl g_32902)), (a0, .inr (7, [.ref a1, .int 0, .ref a2, .ref a3, .ref a4, .ref a5, .ref a6, .ref a7, .ref a8, .int x2, .int x3, .int x4, .int x5, .int x6, .int x7, .int x8, .ref a9, .ref a10, .ref a11, .ref a12, .ref a13, .ref a14, .int v_32894, .int v_32908, .int x0, .int v_32896, .int x13, .int v_32897])), (a1, .inl (k0, 80, .inl f0))] H := hP
      have hD : va_D A [(a2, .inl (k1, 89, .inl f1)), (a3, .inl (k2, 89, .inl f2)), (a4, .inl (k3, 5340, .inl f3)), (a11, .inl (k4, 60, .inl g_32899)), (a12, .inl (k5, 60, .inl g_32900)), (a13, .inl (k6, 60, .inl g_32901)), (a14, .inl (k7, 60, .inl g_32902)), (a0, .inr (7, [.ref a1, .int 0, .ref a2, .ref a3, .ref a4, .ref a5, .ref a6, .ref a7, .ref a8, .int x2, .int x3, .int x4, .int x5, .int x6, .int x7, .int x8, .ref a9, .ref a10, .ref a11, .ref a12, .ref a13, .ref a14, .int v_32894, .int v_32908, .int x0, .int v_32896, .int x13, .int v_32897])), (a1, .inl (k0, 80, .inl f0))] := hD
      refine lv_aload_n hx hb dX7_reads_56 rfl (lv_at hl 1 rfl) ?_
      refine lv_aload_n hx hb dX7_reads_57 rfl (lv_at hl 1 rfl) ?_
      refine ka_get C lqr_432 rfl hK hP 7 rfl 27 (by decide) lqr_437 rfl dX7_reads_58 ?_
      refine lv_if_eq (tgt := 71) hx hb dX7_reads_61 (by decide) (fun _ => ?_) (fun c_ => absurd (by rw [ka_eq', show ((0 : Int32)).toInt = 0 from by decide]; omega) c_)
      refine lv_iconst (v := (-1)) hx hb dX7_reads_71 (by decide) ?_
      refine ka_put C lqr_432 tyX7 tyX7_ok nmX7 rfl hK hP hD hS 7 rfl 26 (by decide) lqr_439 rfl rfl rfl (Nat.le_of_ble_eq_true rfl) dX7_reads_72 (fun H locs hP hD hS => ?_)
      have hP : va_P D vwCl [(a2, .inl (k1, 89, .inl f1)), (a3, .inl (k2, 89, .inl f2)), (a4, .inl (k3, 5340, .inl f3)), (a11, .inl (k4, 60, .inl g_32899)), (a12, .inl (k5, 60, .inl g_32900)), (a13, .inl (k6, 60, .inl g_32901)), (a14, .inl (k7, 60, .inl g_32902)), (a0, .inr (7, [.ref a1, .int 0, .ref a2, .ref a3, .ref a4, .ref a5, .ref a6, .ref a7, .ref a8, .int x2, .int x3, .int x4, .int x5, .int x6, .int x7, .int x8, .ref a9, .ref a10, .ref a11, .ref a12, .ref a13, .ref a14, .int v_32894, .int v_32908, .int x0, .int v_32896, .int (-1), .int v_32897])), (a1, .inl (k0, 80, .inl f0))] H := hP
      have hD : va_D A [(a2, .inl (k1, 89, .inl f1)), (a3, .inl (k2, 89, .inl f2)), (a4, .inl (k3, 5340, .inl f3)), (a11, .inl (k4, 60, .inl g_32899)), (a12, .inl (k5, 60, .inl g_32900)), (a13, .inl (k6, 60, .inl g_32901)), (a14, .inl (k7, 60, .inl g_32902)), (a0, .inr (7, [.ref a1, .int 0, .ref a2, .ref a3, .ref a4, .ref a5, .ref a6, .ref a7, .ref a8, .int x2, .int x3, .int x4, .int x5, .int x6, .int x7, .int x8, .ref a9, .ref a10, .ref a11, .ref a12, .ref a13, .ref a14, .int v_32894, .int v_32908, .int x0, .int v_32896, .int (-1), .int v_32897])), (a1, .inl (k0, 80, .inl f0))] := hD
      refine lv_aload_n hx hb dX7_reads_75 rfl (lv_at hl 1 rfl) ?_
      refine ka_get C lqr_432 rfl hK hP 7 rfl 27 (by decide) lqr_437 rfl dX7_reads_76 ?_
      refine lv_if_eq (tgt := 84) hx hb dX7_reads_79 (by decide) (fun _ => ?_) (fun c_ => absurd (by rw [ka_eq', show ((0 : Int32)).toInt = 0 from by decide]; omega) c_)
      refine lv_aload_n hx hb dX7_reads_84 rfl (lv_at hl 1 rfl) ?_
      refine ka_get C lqr_432 rfl hK hP 7 rfl 2 (by decide) lqr_440 rfl dX7_reads_85 ?_
      refine lv_bipush (v := 88) hx hb dX7_reads_88 (by decide) ?_
      refine lv_aload_n hx hb dX7_reads_90 rfl (lv_at hl 1 rfl) ?_
      refine lv_iload_n hx hb dX7_reads_91 rfl (lv_at hl 0 rfl) ?_
      refine ka_RV (n := 1) C (kt_bits l D F a0 a1 0 a2 a3 a4 a5 a6 a7 a8 x2 x3 x4 x5 x6 x7 x8 a9 a10 a11 a12 a13 a14 v_32894 v_32908 x0 v_32896 (-1) v_32897 k4 k5 k6 k7 g_32899 g_32900 g_32901 g_32902 k_32904 (by omega) v_32898 wk_32904 (by omega) okk_32904) gX7_reads_X7_bits rfl (by decide +kernel) ⟨show (k_32904 + 1) + 1 ≤ 143 by omega, show 8 + (4 + 11) + (k_32904 + 1) * 30 ≤ 3574 by omega⟩ hK hP hS hE hN [7, 3, 4, 5, 6] rfl [4, 5, 6, 7] rfl (ci := 7) rfl rfl 7 rfl rfl hl.1 (rest := [.int 88, .ref a2]) rfl (Nat.le_of_ble_eq_true rfl) dX7_reads_92 ⟨Nat.le_of_ble_eq_true rfl, Nat.le_of_ble_eq_true rfl⟩ (fun v hv => ?_)
      obtain ⟨z_32911, rfl⟩ := hv
      refine ka_stk (w := [.int z_32911, .int 88, .ref a2]) rfl ?_
      refine va_iast hx hb hK hP hD hS 0 1 rfl rfl (ka_in (by decide) (by decide)) dX7_reads_95 (fun H locs hP hD hS => ?_)
      have hP : va_P D vwCl [(a2, .inl (k1, 89, .inl (upd f1 (Int32.toNatClampNeg 88) z_32911))), (a3, .inl (k2, 89, .inl f2)), (a4, .inl (k3, 5340, .inl f3)), (a11, .inl (k4, 60, .inl g_32899)), (a12, .inl (k5, 60, .inl g_32900)), (a13, .inl (k6, 60, .inl g_32901)), (a14, .inl (k7, 60, .inl g_32902)), (a0, .inr (7, [.ref a1, .int 0, .ref a2, .ref a3, .ref a4, .ref a5, .ref a6, .ref a7, .ref a8, .int x2, .int x3, .int x4, .int x5, .int x6, .int x7, .int x8, .ref a9, .ref a10, .ref a11, .ref a12, .ref a13, .ref a14, .int v_32894, .int v_32908, .int x0, .int v_32896, .int (-1), .int v_32897])), (a1, .inl (k0, 80, .inl f0))] H := hP
      have hD : va_D A [(a2, .inl (k1, 89, .inl (upd f1 (Int32.toNatClampNeg 88) z_32911))), (a3, .inl (k2, 89, .inl f2)), (a4, .inl (k3, 5340, .inl f3)), (a11, .inl (k4, 60, .inl g_32899)), (a12, .inl (k5, 60, .inl g_32900)), (a13, .inl (k6, 60, .inl g_32901)), (a14, .inl (k7, 60, .inl g_32902)), (a0, .inr (7, [.ref a1, .int 0, .ref a2, .ref a3, .ref a4, .ref a5, .ref a6, .ref a7, .ref a8, .int x2, .int x3, .int x4, .int x5, .int x6, .int x7, .int x8, .ref a9, .ref a10, .ref a11, .ref a12, .ref a13, .ref a14, .int v_32894, .int v_32908, .int x0, .int v_32896, .int (-1), .int v_32897])), (a1, .inl (k0, 80, .inl f0))] := hD
      generalize (upd f1 (Int32.toNatClampNeg 88) z_32911) = g_32912 at hP hD
      refine lv_aload_n hx hb dX7_reads_96 rfl (lv_at hl 1 rfl) ?_
      refine ka_get C lqr_432 rfl hK hP 7 rfl 3 (by decide) lqr_441 rfl dX7_reads_97 ?_
      refine lv_bipush (v := 88) hx hb dX7_reads_100 (by decide) ?_
      refine lv_iconst (v := 0) hx hb dX7_reads_102 (by decide) ?_
      refine va_iast hx hb hK hP hD hS 1 2 rfl rfl (ka_in (by decide) (by decide)) dX7_reads_103 (fun H locs hP hD hS => ?_)
      have hP : va_P D vwCl [(a2, .inl (k1, 89, .inl g_32912)), (a3, .inl (k2, 89, .inl (upd f2 (Int32.toNatClampNeg 88) 0))), (a4, .inl (k3, 5340, .inl f3)), (a11, .inl (k4, 60, .inl g_32899)), (a12, .inl (k5, 60, .inl g_32900)), (a13, .inl (k6, 60, .inl g_32901)), (a14, .inl (k7, 60, .inl g_32902)), (a0, .inr (7, [.ref a1, .int 0, .ref a2, .ref a3, .ref a4, .ref a5, .ref a6, .ref a7, .ref a8, .int x2, .int x3, .int x4, .int x5, .int x6, .int x7, .int x8, .ref a9, .ref a10, .ref a11, .ref a12, .ref a13, .ref a14, .int v_32894, .int v_32908, .int x0, .int v_32896, .int (-1), .int v_32897])), (a1, .inl (k0, 80, .inl f0))] H := hP
      have hD : va_D A [(a2, .inl (k1, 89, .inl g_32912)), (a3, .inl (k2, 89, .inl (upd f2 (Int32.toNatClampNeg 88) 0))), (a4, .inl (k3, 5340, .inl f3)), (a11, .inl (k4, 60, .inl g_32899)), (a12, .inl (k5, 60, .inl g_32900)), (a13, .inl (k6, 60, .inl g_32901)), (a14, .inl (k7, 60, .inl g_32902)), (a0, .inr (7, [.ref a1, .int 0, .ref a2, .ref a3, .ref a4, .ref a5, .ref a6, .ref a7, .ref a8, .int x2, .int x3, .int x4, .int x5, .int x6, .int x7, .int x8, .ref a9, .ref a10, .ref a11, .ref a12, .ref a13, .ref a14, .int v_32894, .int v_32908, .int x0, .int v_32896, .int (-1), .int v_32897])), (a1, .inl (k0, 80, .inl f0))] := hD
      have hg_32913 : ∀ j : Nat, 0 ≤ ((upd f2 (Int32.toNatClampNeg 88) 0) j).toInt ∧ ((upd f2 (Int32.toNatClampNeg 88) 0) j).toInt ≤ 60 := kb_rngU hf2 (by decide) (by decide)
      have h88 : ((upd f2 (Int32.toNatClampNeg 88) 0) 88).toInt = 0 := by rw [show (upd f2 (Int32.toNatClampNeg 88) 0) 88 = 0 from pk_us]; decide
      generalize (upd f2 (Int32.toNatClampNeg 88) 0) = g_32913 at hP hD hg_32913 h88
      refine lv_aload_n hx hb dX7_reads_104 rfl (lv_at hl 1 rfl) ?_
      refine lv_iload_n hx hb dX7_reads_105 rfl (lv_at hl 0 rfl) ?_
      refine lv_iconst (v := 1) hx hb dX7_reads_106 (by decide) ?_
      have hrm : (g_32913 88).toInt + (wk_32904 + kt_br g_32899 k_32904 (1 : Int32).toInt : Nat) ≤ 60 := by rw [show ((1 : Int32)).toInt = ((1 : Nat) : Int) from by decide]; omega
      refine ka_EV (n := 2) (wr := [(a2, .inl (k1, 89, .inl g_32912)), (a1, .inl (k0, 80, .inl f0))]) C (kt_write l D F a0 a1 0 a2 a3 a4 a5 a6 a7 a8 x2 x3 x4 x5 x6 x7 x8 a9 a10 a11 a12 a13 a14 v_32894 v_32908 x0 v_32896 (-1) v_32897 k4 k5 k6 k7 k2 k3 g_32899 g_32900 g_32901 g_32902 k_32904 (by omega) v_32898 1 wk_32904 g_32913 f3 (by omega) okk_32904 hg_32913 hf3 hrm) gX7_reads_X7_write rfl (by decide +kernel) ⟨show (k_32904 + 1) + 1 ≤ 143 by omega, show 8 + (4 + 11) + (k_32904 + 1) * 30 ≤ 3574 by omega⟩ hK hP hD hS hA hE hN [7, 3, 4, 5, 6, 1, 2] rfl (by decide) [0, 8] rfl (by decide) (by decide) [4, 5, 6, 7, 2, 3] rfl (ci := 7) rfl rfl 7 rfl rfl hl.1 (rest := []) rfl (Nat.le_of_ble_eq_true rfl) dX7_reads_107 ⟨Nat.le_of_ble_eq_true rfl, Nat.le_of_ble_eq_true rfl⟩ (fun u H locs hq hP hD hK hS => ?_)
      obtain ⟨g_32914, g_32915⟩ := u
      have hq : (∀ j : Nat, 0 ≤ (g_32914 j).toInt ∧ (g_32914 j).toInt ≤ 60) ∧ sb_Fit g_32915 ∧ _ := hq
      obtain ⟨hg_32914, hg_32915, -⟩ := hq
      have hP : va_P D vwCl [(a2, .inl (k1, 89, .inl g_32912)), (a1, .inl (k0, 80, .inl f0)), (a0, .inr (7, [.ref a1, .int 0, .ref a2, .ref a3, .ref a4, .ref a5, .ref a6, .ref a7, .ref a8, .int x2, .int x3, .int x4, .int x5, .int x6, .int x7, .int x8, .ref a9, .ref a10, .ref a11, .ref a12, .ref a13, .ref a14, .int v_32894, .int v_32908, .int x0, .int v_32896, .int (-1), .int v_32897])), (a11, .inl (k4, 60, .inl g_32899)), (a12, .inl (k5, 60, .inl g_32900)), (a13, .inl (k6, 60, .inl g_32901)), (a14, .inl (k7, 60, .inl g_32902)), (a3, .inl (k2, 89, .inl g_32914)), (a4, .inl (k3, 5340, .inl g_32915))] H := hP
      have hD : va_D A [(a2, .inl (k1, 89, .inl g_32912)), (a1, .inl (k0, 80, .inl f0)), (a0, .inr (7, [.ref a1, .int 0, .ref a2, .ref a3, .ref a4, .ref a5, .ref a6, .ref a7, .ref a8, .int x2, .int x3, .int x4, .int x5, .int x6, .int x7, .int x8, .ref a9, .ref a10, .ref a11, .ref a12, .ref a13, .ref a14, .int v_32894, .int v_32908, .int x0, .int v_32896, .int (-1), .int v_32897])), (a11, .inl (k4, 60, .inl g_32899)), (a12, .inl (k5, 60, .inl g_32900)), (a13, .inl (k6, 60, .inl g_32901)), (a14, .inl (k7, 60, .inl g_32902)), (a3, .inl (k2, 89, .inl g_32914)), (a4, .inl (k3, 5340, .inl g_32915))] := hD
      have hK : va_K D vwCl [(k0, .byte), (k1, .int), (k2, .int), (k3, .byte), (k4, .int), (k5, .int), (k6, .int), (k7, .int)] s := by simpa using hK
      refine ka_stk (w := []) rfl ?_
      refine lv_iconst (v := 1) hx hb dX7_reads_110 (by decide) ?_
      exact ka_rEz C hr hlk rfl (Nat.le_of_ble_eq_true rfl) (Nat.le_of_ble_eq_true rfl) hS (ka_qE (v_32894, v_32908, v_32896, (-1), v_32897, g_32912, g_32914, g_32915, g_32899, g_32900, g_32901, g_32902, 1) rfl ⟨(show 0 ≤ v_32894.toInt ∧ v_32894.toInt ≤ 60 from ⟨by omega, by omega⟩), (show 0 ≤ v_32908.toInt ∧ v_32908.toInt ≤ 60 from ⟨by omega, by omega⟩), (show 0 ≤ v_32896.toInt ∧ v_32896.toInt ≤ 8 from ⟨by omega, by omega⟩), (show 0 ≤ v_32897.toInt ∧ v_32897.toInt ≤ 1 from ⟨by omega, by omega⟩), hg_32914, hg_32915, (show 0 ≤ ((1 : Int32)).toInt ∧ ((1 : Int32)).toInt ≤ 1 from ⟨by decide, by decide⟩)⟩ hK hP hD hS [2, 1, 0, 7, 8, 3, 4, 5, 6] (by decide) rfl [] rfl) dX7_reads_111
    · have c_32910 : ¬ x0.toInt ≤ v_32908.toInt := by rw [ka_le'] at c_32910; exact c_32910
      refine lv_aload_n hx hb dX7_reads_46 rfl (lv_at hl 1 rfl) ?_
      refine lv_iconst (v := 1) hx hb dX7_reads_47 (by decide) ?_
      refine ka_put C lqr_432 tyX7 tyX7_ok nmX7 rfl hK hP hD hS 7 rfl 27 (by decide) lqr_437 rfl rfl rfl (Nat.le_of_ble_eq_true rfl) dX7_reads_48 (fun H locs hP hD hS => ?_)
      have hP : va_P D vwCl [(a2, .inl (k1, 89, .inl f1)), (a3, .inl (k2, 89, .inl f2)), (a4, .inl (k3, 5340, .inl f3)), (a11, .inl (k4, 60, .inl g_32899)), (a12, .inl (k5, 60, .inl g_32900)), (a13, .inl (k6, 60, .inl g_32901)), (a14, .inl (k7, 60, .inl g_32902)), (a0, .inr (7, [.ref a1, .int x1, .ref a2, .ref a3, .ref a4, .ref a5, .ref a6, .ref a7, .ref a8, .int x2, .int x3, .int x4, .int x5, .int x6, .int x7, .int x8, .ref a9, .ref a10, .ref a11, .ref a12, .ref a13, .ref a14, .int v_32894, .int v_32908, .int x0, .int v_32896, .int x13, .int 1])), (a1, .inl (k0, 80, .inl f0))] H := hP
      have hD : va_D A [(a2, .inl (k1, 89, .inl f1)), (a3, .inl (k2, 89, .inl f2)), (a4, .inl (k3, 5340, .inl f3)), (a11, .inl (k4, 60, .inl g_32899)), (a12, .inl (k5, 60, .inl g_32900)), (a13, .inl (k6, 60, .inl g_32901)), (a14, .inl (k7, 60, .inl g_32902)), (a0, .inr (7, [.ref a1, .int x1, .ref a2, .ref a3, .ref a4, .ref a5, .ref a6, .ref a7, .ref a8, .int x2, .int x3, .int x4, .int x5, .int x6, .int x7, .int x8, .ref a9, .ref a10, .ref a11, .ref a12, .ref a13, .ref a14, .int v_32894, .int v_32908, .int x0, .int v_32896, .int x13, .int 1])), (a1, .inl (k0, 80, .inl f0))] := hD
      refine lv_aload_n hx hb dX7_reads_51 rfl (lv_at hl 1 rfl) ?_
      refine lv_iconst (v := 0) hx hb dX7_reads_52 (by decide) ?_
      refine ka_put C lqr_432 tyX7 tyX7_ok nmX7 rfl hK hP hD hS 7 rfl 1 (by decide) lqr_438 rfl rfl rfl (Nat.le_of_ble_eq_true rfl) dX7_reads_53 (fun H locs hP hD hS => ?_)
      have hP : va_P D vwCl [(a2, .inl (k1, 89, .inl f1)), (a3, .inl (k2, 89, .inl f2)), (a4, .inl (k3, 5340, .inl f3)), (a11, .inl (k4, 60, .inl g_32899)), (a12, .inl (k5, 60, .inl g_32900)), (a13, .inl (k6, 60, .inl g_32901)), (a14, .inl (k7, 60, .inl g_32902)), (a0, .inr (7, [.ref a1, .int 0, .ref a2, .ref a3, .ref a4, .ref a5, .ref a6, .ref a7, .ref a8, .int x2, .int x3, .int x4, .int x5, .int x6, .int x7, .int x8, .ref a9, .ref a10, .ref a11, .ref a12, .ref a13, .ref a14, .int v_32894, .int v_32908, .int x0, .int v_32896, .int x13, .int 1])), (a1, .inl (k0, 80, .inl f0))] H := hP
      have hD : va_D A [(a2, .inl (k1, 89, .inl f1)), (a3, .inl (k2, 89, .inl f2)), (a4, .inl (k3, 5340, .inl f3)), (a11, .inl (k4, 60, .inl g_32899)), (a12, .inl (k5, 60, .inl g_32900)), (a13, .inl (k6, 60, .inl g_32901)), (a14, .inl (k7, 60, .inl g_32902)), (a0, .inr (7, [.ref a1, .int 0, .ref a2, .ref a3, .ref a4, .ref a5, .ref a6, .ref a7, .ref a8, .int x2, .int x3, .int x4, .int x5, .int x6, .int x7, .int x8, .ref a9, .ref a10, .ref a11, .ref a12, .ref a13, .ref a14, .int v_32894, .int v_32908, .int x0, .int v_32896, .int x13, .int 1])), (a1, .inl (k0, 80, .inl f0))] := hD
      refine lv_aload_n hx hb dX7_reads_56 rfl (lv_at hl 1 rfl) ?_
      refine lv_aload_n hx hb dX7_reads_57 rfl (lv_at hl 1 rfl) ?_
      refine ka_get C lqr_432 rfl hK hP 7 rfl 27 (by decide) lqr_437 rfl dX7_reads_58 ?_
      refine lv_if_eq (tgt := 71) hx hb dX7_reads_61 (by decide) (fun c_ => absurd c_ (by decide)) (fun _ => ?_)
      refine lv_aload_n hx hb dX7_reads_64 rfl (lv_at hl 1 rfl) ?_
      refine ka_get C lqr_432 rfl hK hP 7 rfl 23 (by decide) lqr_434 rfl dX7_reads_65 ?_
      refine lv_goto (tgt := 72) hx hb dX7_reads_68 (by decide) ?_
      refine ka_put C lqr_432 tyX7 tyX7_ok nmX7 rfl hK hP hD hS 7 rfl 26 (by decide) lqr_439 rfl rfl rfl (Nat.le_of_ble_eq_true rfl) dX7_reads_72 (fun H locs hP hD hS => ?_)
      have hP : va_P D vwCl [(a2, .inl (k1, 89, .inl f1)), (a3, .inl (k2, 89, .inl f2)), (a4, .inl (k3, 5340, .inl f3)), (a11, .inl (k4, 60, .inl g_32899)), (a12, .inl (k5, 60, .inl g_32900)), (a13, .inl (k6, 60, .inl g_32901)), (a14, .inl (k7, 60, .inl g_32902)), (a0, .inr (7, [.ref a1, .int 0, .ref a2, .ref a3, .ref a4, .ref a5, .ref a6, .ref a7, .ref a8, .int x2, .int x3, .int x4, .int x5, .int x6, .int x7, .int x8, .ref a9, .ref a10, .ref a11, .ref a12, .ref a13, .ref a14, .int v_32894, .int v_32908, .int x0, .int v_32896, .int v_32908, .int 1])), (a1, .inl (k0, 80, .inl f0))] H := hP
      have hD : va_D A [(a2, .inl (k1, 89, .inl f1)), (a3, .inl (k2, 89, .inl f2)), (a4, .inl (k3, 5340, .inl f3)), (a11, .inl (k4, 60, .inl g_32899)), (a12, .inl (k5, 60, .inl g_32900)), (a13, .inl (k6, 60, .inl g_32901)), (a14, .inl (k7, 60, .inl g_32902)), (a0, .inr (7, [.ref a1, .int 0, .ref a2, .ref a3, .ref a4, .ref a5, .ref a6, .ref a7, .ref a8, .int x2, .int x3, .int x4, .int x5, .int x6, .int x7, .int x8, .ref a9, .ref a10, .ref a11, .ref a12, .ref a13, .ref a14, .int v_32894, .int v_32908, .int x0, .int v_32896, .int v_32908, .int 1])), (a1, .inl (k0, 80, .inl f0))] := hD
      refine lv_aload_n hx hb dX7_reads_75 rfl (lv_at hl 1 rfl) ?_
      refine ka_get C lqr_432 rfl hK hP 7 rfl 27 (by decide) lqr_437 rfl dX7_reads_76 ?_
      refine lv_if_eq (tgt := 84) hx hb dX7_reads_79 (by decide) (fun c_ => absurd c_ (by decide)) (fun _ => ?_)
      refine lv_iconst (v := 0) hx hb dX7_reads_82 (by decide) ?_
      exact ka_rEz C hr hlk rfl (Nat.le_of_ble_eq_true rfl) (Nat.le_of_ble_eq_true rfl) hS (ka_qE (v_32894, v_32908, v_32896, v_32908, 1, f1, f2, f3, g_32899, g_32900, g_32901, g_32902, 0) rfl ⟨(show 0 ≤ v_32894.toInt ∧ v_32894.toInt ≤ 60 from ⟨by omega, by omega⟩), (show 0 ≤ v_32908.toInt ∧ v_32908.toInt ≤ 60 from ⟨by omega, by omega⟩), (show 0 ≤ v_32896.toInt ∧ v_32896.toInt ≤ 8 from ⟨by omega, by omega⟩), (show 0 ≤ ((1 : Int32)).toInt ∧ ((1 : Int32)).toInt ≤ 1 from ⟨by decide, by decide⟩), hf2, hf3, (show 0 ≤ ((0 : Int32)).toInt ∧ ((0 : Int32)).toInt ≤ 1 from ⟨by decide, by decide⟩)⟩ hK hP hD hS [7, 8, 0, 1, 2, 3, 4, 5, 6] (by decide) rfl [] rfl) dX7_reads_83
set_option maxHeartbeats 4000000 in
set_option maxRecDepth 100000 in
theorem cr_X7_isLesson_416 (l : Launch) (D : va_G) (F : Nat → Prop) (x0 : Int32) (hx0 : x0.toInt ≤ -1) : ka_R l D F yX7_isLesson wsX7_isLesson 1 22 [.int x0] [] [] (fun v => v = some (.int 0)) := by
  refine ka_R_of (cc := cX7_isLesson) (maxL := 1) (ret := (some .boolean)) (by decide) rfl (Nat.le_of_ble_eq_true rfl) ?_
  intro p e s m below meth c ls C hr hlk hP hK hE hN hl
  have hS : va_S (fun _ => False) s.heap s.heap [] := va_S.rf
  have C : CallFix p m c cX7_isLesson 1 s [.int x0].toArray wsX7_isLesson RX7 := C
  obtain ⟨hx, hb, hml, hown, hts⟩ := id C
  have hl : lv_has ls 1 [(0, .int x0)] := hl
  have rx0 := ka_rng x0
  refine lv_iload_n hx hb dX7_isLesson_0 rfl (lv_at hl 0 rfl) ?_
  refine lv_iconst (v := 0) hx hb dX7_isLesson_1 (by decide) ?_
  refine lv_iconst (v := 5) hx hb dX7_isLesson_2 (by decide) ?_
  refine ka_RS (n := 3) C (cg_X7_isIn_218 l D F x0 (by omega)) gX7_isLesson_X7_isIn rfl (by decide +kernel) ⟨Nat.le_of_ble_eq_true rfl, Nat.le_of_ble_eq_true rfl⟩ hK hP hS hE hN [] rfl [] rfl rfl hl.1 (rest := []) rfl (Nat.le_of_ble_eq_true rfl) dX7_isLesson_3 ⟨Nat.le_of_ble_eq_true rfl, Nat.le_of_ble_eq_true rfl⟩ (fun v hv => ?_)
  subst hv
  refine ka_stk (w := [.int 0]) rfl ?_
  exact ka_rRz C hr hlk rfl rfl dX7_isLesson_6
set_option maxHeartbeats 4000000 in
set_option maxRecDepth 100000 in
theorem cr_X7_isOpenFor_415 (l : Launch) (D : va_G) (F : Nat → Prop) (a0 : Nat) (x0 : Int32) (x1 : Int32) (hx0 : x0.toInt ≤ -1) (hx1 : x1.toInt ≤ -1) : ka_R l D F yX7_isOpenFor wsX7_isOpenFor 2 42 [.ref a0, .int x0, .int x1] [] [] (fun v => v = some (.int 0)) := by
  refine ka_R_of (cc := cX7_isOpenFor) (maxL := 3) (ret := (some .boolean)) (by decide) rfl (Nat.le_of_ble_eq_true rfl) ?_
  intro p e s m below meth c ls C hr hlk hP hK hE hN hl
  have hS : va_S (fun _ => False) s.heap s.heap [] := va_S.rf
  have C : CallFix p m c cX7_isOpenFor 3 s [.ref a0, .int x0, .int x1].toArray wsX7_isOpenFor RX7 := C
  obtain ⟨hx, hb, hml, hown, hts⟩ := id C
  have hl : lv_has ls 3 [(0, .ref a0), (1, .int x0), (2, .int x1)] := hl
  have rx0 := ka_rng x0
  have rx1 := ka_rng x1
  refine lv_iload_n hx hb dX7_isOpenFor_0 rfl (lv_at hl 1 rfl) ?_
  refine ka_RS (n := 1) C (cr_X7_isLesson_416 l D F x0 (by omega)) gX7_isOpenFor_X7_isLesson rfl (by decide +kernel) ⟨Nat.le_of_ble_eq_true rfl, Nat.le_of_ble_eq_true rfl⟩ hK hP hS hE hN [] rfl [] rfl rfl hl.1 (rest := []) rfl (Nat.le_of_ble_eq_true rfl) dX7_isOpenFor_1 ⟨Nat.le_of_ble_eq_true rfl, Nat.le_of_ble_eq_true rfl⟩ (fun v hv => ?_)
  subst hv
  refine ka_stk (w := [.int 0]) rfl ?_
  refine lv_if_eq (tgt := 36) hx hb dX7_isOpenFor_4 (by decide) (fun _ => ?_) (fun c_ => absurd (by decide) c_)
  refine lv_iconst (v := 0) hx hb dX7_isOpenFor_36 (by decide) ?_
  exact ka_rRz C hr hlk rfl rfl dX7_isOpenFor_37
set_option maxHeartbeats 4000000 in
set_option maxRecDepth 100000 in
theorem cr_X7_isOpenFor_417 (l : Launch) (D : va_G) (F : Nat → Prop) (a0 : Nat) (x0 : Int32) (x1 : Int32) (hx0 : x0.toInt ≤ -1) (hx1 : 0 ≤ x1.toInt ∧ x1.toInt ≤ 60) : ka_R l D F yX7_isOpenFor wsX7_isOpenFor 2 42 [.ref a0, .int x0, .int x1] [] [] (fun v => v = some (.int 0)) := by
  refine ka_R_of (cc := cX7_isOpenFor) (maxL := 3) (ret := (some .boolean)) (by decide) rfl (Nat.le_of_ble_eq_true rfl) ?_
  intro p e s m below meth c ls C hr hlk hP hK hE hN hl
  have hS : va_S (fun _ => False) s.heap s.heap [] := va_S.rf
  have C : CallFix p m c cX7_isOpenFor 3 s [.ref a0, .int x0, .int x1].toArray wsX7_isOpenFor RX7 := C
  obtain ⟨hx, hb, hml, hown, hts⟩ := id C
  have hl : lv_has ls 3 [(0, .ref a0), (1, .int x0), (2, .int x1)] := hl
  have rx0 := ka_rng x0
  have rx1 := ka_rng x1
  refine lv_iload_n hx hb dX7_isOpenFor_0 rfl (lv_at hl 1 rfl) ?_
  refine ka_RS (n := 1) C (cr_X7_isLesson_416 l D F x0 (by omega)) gX7_isOpenFor_X7_isLesson rfl (by decide +kernel) ⟨Nat.le_of_ble_eq_true rfl, Nat.le_of_ble_eq_true rfl⟩ hK hP hS hE hN [] rfl [] rfl rfl hl.1 (rest := []) rfl (Nat.le_of_ble_eq_true rfl) dX7_isOpenFor_1 ⟨Nat.le_of_ble_eq_true rfl, Nat.le_of_ble_eq_true rfl⟩ (fun v hv => ?_)
  subst hv
  refine ka_stk (w := [.int 0]) rfl ?_
  refine lv_if_eq (tgt := 36) hx hb dX7_isOpenFor_4 (by decide) (fun _ => ?_) (fun c_ => absurd (by decide) c_)
  refine lv_iconst (v := 0) hx hb dX7_isOpenFor_36 (by decide) ?_
  exact ka_rRz C hr hlk rfl rfl dX7_isOpenFor_37
set_option maxHeartbeats 4000000 in
set_option maxRecDepth 100000 in
theorem cr_X7_isOpenFor_418 (l : Launch) (D : va_G) (F : Nat → Prop) (a0 : Nat) (x0 : Int32) (x1 : Int32) (hx0 : x0.toInt ≤ -1) (hx1 : 61 ≤ x1.toInt) : ka_R l D F yX7_isOpenFor wsX7_isOpenFor 2 42 [.ref a0, .int x0, .int x1] [] [] (fun v => v = some (.int 0)) := by
  refine ka_R_of (cc := cX7_isOpenFor) (maxL := 3) (ret := (some .boolean)) (by decide) rfl (Nat.le_of_ble_eq_true rfl) ?_
  intro p e s m below meth c ls C hr hlk hP hK hE hN hl
  have hS : va_S (fun _ => False) s.heap s.heap [] := va_S.rf
  have C : CallFix p m c cX7_isOpenFor 3 s [.ref a0, .int x0, .int x1].toArray wsX7_isOpenFor RX7 := C
  obtain ⟨hx, hb, hml, hown, hts⟩ := id C
  have hl : lv_has ls 3 [(0, .ref a0), (1, .int x0), (2, .int x1)] := hl
  have rx0 := ka_rng x0
  have rx1 := ka_rng x1
  refine lv_iload_n hx hb dX7_isOpenFor_0 rfl (lv_at hl 1 rfl) ?_
  refine ka_RS (n := 1) C (cr_X7_isLesson_416 l D F x0 (by omega)) gX7_isOpenFor_X7_isLesson rfl (by decide +kernel) ⟨Nat.le_of_ble_eq_true rfl, Nat.le_of_ble_eq_true rfl⟩ hK hP hS hE hN [] rfl [] rfl rfl hl.1 (rest := []) rfl (Nat.le_of_ble_eq_true rfl) dX7_isOpenFor_1 ⟨Nat.le_of_ble_eq_true rfl, Nat.le_of_ble_eq_true rfl⟩ (fun v hv => ?_)
  subst hv
  refine ka_stk (w := [.int 0]) rfl ?_
  refine lv_if_eq (tgt := 36) hx hb dX7_isOpenFor_4 (by decide) (fun _ => ?_) (fun c_ => absurd (by decide) c_)
  refine lv_iconst (v := 0) hx hb dX7_isOpenFor_36 (by decide) ?_
  exact ka_rRz C hr hlk rfl rfl dX7_isOpenFor_37
set_option maxHeartbeats 4000000 in
set_option maxRecDepth 100000 in
theorem cr_X7_isIn_419 (l : Launch) (D : va_G) (F : Nat → Prop) (x0 : Int32) (x1 : Int32) (hx0 : x0.toInt ≤ -1) (hx1 : 0 ≤ x1.toInt ∧ x1.toInt ≤ 60) : ka_R l D F yX7_isIn wsX7_isIn 0 0 [.int x0, .int 0, .int x1] [] [] (fun v => v = some (.int 0)) := by
  refine ka_R_of (cc := cX7_isIn) (maxL := 3) (ret := (some .boolean)) (by decide) rfl (Nat.le_of_ble_eq_true rfl) ?_
  intro p e s m below meth c ls C hr hlk hP hK hE hN hl
  have hS : va_S (fun _ => False) s.heap s.heap [] := va_S.rf
  have C : CallFix p m c cX7_isIn 3 s [.int x0, .int 0, .int x1].toArray wsX7_isIn RX7 := C
  obtain ⟨hx, hb, hml, hown, hts⟩ := id C
  have hl : lv_has ls 3 [(0, .int x0), (1, .int 0), (2, .int x1)] := hl
  have rx0 := ka_rng x0
  have rx1 := ka_rng x1
  refine lv_iload_n hx hb dX7_isIn_0 rfl (lv_at hl 0 rfl) ?_
  refine lv_iload_n hx hb dX7_isIn_1 rfl (lv_at hl 1 rfl) ?_
  refine lv_icmp_lt (tgt := 14) hx hb dX7_isIn_2 (by decide) (fun _ => ?_) (fun c_ => absurd (by rw [ka_lt', show ((0 : Int32)).toInt = 0 from by decide]; omega) c_)
  refine lv_iconst (v := 0) hx hb dX7_isIn_14 (by decide) ?_
  exact ka_rRz C hr hlk rfl rfl dX7_isIn_15
set_option maxHeartbeats 4000000 in
set_option maxRecDepth 100000 in
theorem cr_X7_isText_420 (l : Launch) (D : va_G) (F : Nat → Prop) (a0 : Nat) (x0 : Int32) (a1 : Nat) (x1 : Int32) (a2 : Nat) (a3 : Nat) (a4 : Nat) (a5 : Nat) (a6 : Nat) (a7 : Nat) (a8 : Nat) (x2 : Int32) (x3 : Int32) (x4 : Int32) (x5 : Int32) (x6 : Int32) (x7 : Int32) (x8 : Int32) (a9 : Nat) (a10 : Nat) (a11 : Nat) (a12 : Nat) (a13 : Nat) (a14 : Nat) (x9 : Int32) (x10 : Int32) (x11 : Int32) (x12 : Int32) (x13 : Int32) (x14 : Int32) (hx0 : x0.toInt ≤ -1) (hx1 : 0 ≤ x1.toInt ∧ x1.toInt ≤ 80) (hx2 : -1 ≤ x2.toInt ∧ x2.toInt ≤ 5) (hx5 : 1 ≤ x5.toInt ∧ x5.toInt ≤ 8) (hx6 : 0 ≤ x6.toInt ∧ x6.toInt ≤ 40) (hx8 : 0 ≤ x8.toInt ∧ x8.toInt ≤ 10) (hx9 : 0 ≤ x9.toInt ∧ x9.toInt ≤ 60) (hx10 : 0 ≤ x10.toInt ∧ x10.toInt ≤ 60) (hx11 : 0 ≤ x11.toInt ∧ x11.toInt ≤ 60) (hx12 : 0 ≤ x12.toInt ∧ x12.toInt ≤ 8) (hx14 : 0 ≤ x14.toInt ∧ x14.toInt ≤ 1) : ka_R l D F yX7_isText wsX7_isText 1 22 [.ref a0, .int x0] [(a0, .inr (7, [.ref a1, .int x1, .ref a2, .ref a3, .ref a4, .ref a5, .ref a6, .ref a7, .ref a8, .int x2, .int x3, .int x4, .int x5, .int x6, .int x7, .int x8, .ref a9, .ref a10, .ref a11, .ref a12, .ref a13, .ref a14, .int x9, .int x10, .int x11, .int x12, .int x13, .int x14]))] [] (fun v => v = some (.int 0)) := by
  refine ka_R_of (cc := cX7_isText) (maxL := 2) (ret := (some .boolean)) (by decide) rfl (Nat.le_of_ble_eq_true rfl) ?_
  intro p e s m below meth c ls C hr hlk hP hK hE hN hl
  have hS : va_S (fun _ => False) s.heap s.heap [] := va_S.rf
  have C : CallFix p m c cX7_isText 2 s [.ref a0, .int x0].toArray wsX7_isText RX7 := C
  obtain ⟨hx, hb, hml, hown, hts⟩ := id C
  have hl : lv_has ls 2 [(0, .ref a0), (1, .int x0)] := hl
  have rx0 := ka_rng x0
  have rx1 := ka_rng x1
  have rx2 := ka_rng x2
  have rx3 := ka_rng x3
  have rx4 := ka_rng x4
  have rx5 := ka_rng x5
  have rx6 := ka_rng x6
  have rx7 := ka_rng x7
  have rx8 := ka_rng x8
  have rx9 := ka_rng x9
  have rx10 := ka_rng x10
  have rx11 := ka_rng x11
  have rx12 := ka_rng x12
  have rx13 := ka_rng x13
  have rx14 := ka_rng x14
  refine lv_iload_n hx hb dX7_isText_0 rfl (lv_at hl 1 rfl) ?_
  refine lv_iconst (v := 0) hx hb dX7_isText_1 (by decide) ?_
  refine lv_bipush (v := 60) hx hb dX7_isText_2 (by decide) ?_
  refine lv_aload_n hx hb dX7_isText_4 rfl (lv_at hl 0 rfl) ?_
  refine ka_get C lq_373 rfl hK hP 0 rfl 1 (by decide) lq_374 rfl dX7_isText_5 ?_
  refine va_mmin hx hb (hml.trans hl.1.symm) hown (hts _ lq_375) (hts _ lq_376) (hts _ lq_377) (hts _ lq_378) (Nat.le_of_ble_eq_true rfl) (Nat.le_of_ble_eq_true rfl) (Nat.le_of_ble_eq_true rfl) (Nat.le_of_ble_eq_true rfl) dX7_isText_8 ?_
  refine lv_topi (fun v_33117 ev_33117 => ?_)
  have fv_33117 := kb_min 60 x1; rw [← ev_33117] at fv_33117
  rw [show ((60 : Int32)).toInt = 60 from by decide] at fv_33117
  refine ka_RS (n := 3) C (cr_X7_isIn_419 l D F x0 v_33117 (by omega) ⟨by omega, by omega⟩) gX7_isText_X7_isIn rfl (by decide +kernel) ⟨Nat.le_of_ble_eq_true rfl, Nat.le_of_ble_eq_true rfl⟩ hK hP hS hE hN [] rfl [] rfl rfl hl.1 (rest := []) rfl (Nat.le_of_ble_eq_true rfl) dX7_isText_11 ⟨Nat.le_of_ble_eq_true rfl, Nat.le_of_ble_eq_true rfl⟩ (fun v hv => ?_)
  subst hv
  refine ka_stk (w := [.int 0]) rfl ?_
  exact ka_rRz C hr hlk rfl rfl dX7_isText_14
set_option maxHeartbeats 4000000 in
set_option maxRecDepth 100000 in
theorem cr_X7_isOpenFor_421 (l : Launch) (D : va_G) (F : Nat → Prop) (a0 : Nat) (x0 : Int32) (x1 : Int32) (a1 : Nat) (x2 : Int32) (a2 : Nat) (a3 : Nat) (a4 : Nat) (a5 : Nat) (a6 : Nat) (a7 : Nat) (a8 : Nat) (x3 : Int32) (x4 : Int32) (x5 : Int32) (x6 : Int32) (x7 : Int32) (x8 : Int32) (x9 : Int32) (a9 : Nat) (a10 : Nat) (a11 : Nat) (a12 : Nat) (a13 : Nat) (a14 : Nat) (x10 : Int32) (x11 : Int32) (x12 : Int32) (x13 : Int32) (x14 : Int32) (x15 : Int32) (k0 : ClassId) (f0 : Nat → Int32) (hx0 : 0 ≤ x0.toInt ∧ x0.toInt ≤ 5) (hx1 : x1.toInt ≤ -1) (hx2 : 0 ≤ x2.toInt ∧ x2.toInt ≤ 80) (hx3 : -1 ≤ x3.toInt ∧ x3.toInt ≤ 5) (hx6 : 1 ≤ x6.toInt ∧ x6.toInt ≤ 8) (hx7 : 0 ≤ x7.toInt ∧ x7.toInt ≤ 40) (hx9 : 0 ≤ x9.toInt ∧ x9.toInt ≤ 10) (hx10 : 0 ≤ x10.toInt ∧ x10.toInt ≤ 60) (hx11 : 0 ≤ x11.toInt ∧ x11.toInt ≤ 60) (hx12 : 0 ≤ x12.toInt ∧ x12.toInt ≤ 60) (hx13 : 0 ≤ x13.toInt ∧ x13.toInt ≤ 8) (hx15 : 0 ≤ x15.toInt ∧ x15.toInt ≤ 1) : ka_R l D F yX7_isOpenFor wsX7_isOpenFor 2 43 [.ref a0, .int x0, .int x1] [(a0, .inr (7, [.ref a1, .int x2, .ref a2, .ref a3, .ref a4, .ref a5, .ref a6, .ref a7, .ref a8, .int x3, .int x4, .int x5, .int x6, .int x7, .int x8, .int x9, .ref a9, .ref a10, .ref a11, .ref a12, .ref a13, .ref a14, .int x10, .int x11, .int x12, .int x13, .int x14, .int x15])), (a6, .inl (k0, 6, .inl f0))] [(k0, .boolean)] (fun v => v = some (.int 0)) := by
  refine ka_R_of (cc := cX7_isOpenFor) (maxL := 3) (ret := (some .boolean)) (by decide) rfl (Nat.le_of_ble_eq_true rfl) ?_
  intro p e s m below meth c ls C hr hlk hP hK hE hN hl
  have hS : va_S (fun _ => False) s.heap s.heap [] := va_S.rf
  have C : CallFix p m c cX7_isOpenFor 3 s [.ref a0, .int x0, .int x1].toArray wsX7_isOpenFor RX7 := C
  obtain ⟨hx, hb, hml, hown, hts⟩ := id C
  have hl : lv_has ls 3 [(0, .ref a0), (1, .int x0), (2, .int x1)] := hl
  have rx0 := ka_rng x0
  have rx1 := ka_rng x1
  have rx2 := ka_rng x2
  have rx3 := ka_rng x3
  have rx4 := ka_rng x4
  have rx5 := ka_rng x5
  have rx6 := ka_rng x6
  have rx7 := ka_rng x7
  have rx8 := ka_rng x8
  have rx9 := ka_rng x9
  have rx10 := ka_rng x10
  have rx11 := ka_rng x11
  have rx12 := ka_rng x12
  have rx13 := ka_rng x13
  have rx14 := ka_rng x14
  have rx15 := ka_rng x15
  refine lv_iload_n hx hb dX7_isOpenFor_0 rfl (lv_at hl 1 rfl) ?_
  refine ka_RS (n := 1) C (cg_X7_isLesson_220 l D F x0 ⟨by omega, by omega⟩) gX7_isOpenFor_X7_isLesson rfl (by decide +kernel) ⟨Nat.le_of_ble_eq_true rfl, Nat.le_of_ble_eq_true rfl⟩ hK hP hS hE hN [] rfl [] rfl rfl hl.1 (rest := []) rfl (Nat.le_of_ble_eq_true rfl) dX7_isOpenFor_1 ⟨Nat.le_of_ble_eq_true rfl, Nat.le_of_ble_eq_true rfl⟩ (fun v hv => ?_)
  subst hv
  refine ka_stk (w := [.int 1]) rfl ?_
  refine lv_if_eq (tgt := 36) hx hb dX7_isOpenFor_4 (by decide) (fun c_ => absurd c_ (by decide)) (fun _ => ?_)
  refine lv_iload_n hx hb dX7_isOpenFor_7 rfl (lv_at hl 1 rfl) ?_
  refine lv_aload_n hx hb dX7_isOpenFor_8 rfl (lv_at hl 0 rfl) ?_
  refine ka_get C lq_379 rfl hK hP 0 rfl 9 (by decide) lq_380 rfl dX7_isOpenFor_9 ?_
  refine lv_icmp_eq (tgt := 36) hx hb dX7_isOpenFor_12 (by decide) (fun c_33121 => ?_) (fun c_33121 => ?_)
  · have c_33121 : x0.toInt = x3.toInt := by rw [ka_eq'] at c_33121; exact c_33121
    refine lv_iconst (v := 0) hx hb dX7_isOpenFor_36 (by decide) ?_
    exact ka_rRz C hr hlk rfl rfl dX7_isOpenFor_37
  · have c_33121 : ¬ x0.toInt = x3.toInt := by rw [ka_eq'] at c_33121; exact c_33121
    refine lv_aload_n hx hb dX7_isOpenFor_15 rfl (lv_at hl 0 rfl) ?_
    refine ka_get C lq_379 rfl hK hP 0 rfl 6 (by decide) lq_381 rfl dX7_isOpenFor_16 ?_
    refine lv_iload_n hx hb dX7_isOpenFor_19 rfl (lv_at hl 1 rfl) ?_
    refine va_zald hx hb hK hP 1 0 rfl rfl (ka_in (by omega) (by omega)) dX7_isOpenFor_20 ?_
    refine lv_topi (fun v_33122 ev_33122 => ?_)
    refine lv_if_ne (tgt := 36) hx hb dX7_isOpenFor_21 (by decide) (fun c_33123 => ?_) (fun c_33123 => ?_)
    · have c_33123 : ¬ v_33122.toInt = 0 := by rw [ka_eq', show ((0 : Int32)).toInt = 0 from by decide] at c_33123; exact c_33123
      refine lv_iconst (v := 0) hx hb dX7_isOpenFor_36 (by decide) ?_
      exact ka_rRz C hr hlk rfl rfl dX7_isOpenFor_37
    · have c_33123 : v_33122.toInt = 0 := by rw [ka_eq', show ((0 : Int32)).toInt = 0 from by decide] at c_33123; exact c_33123
      refine lv_aload_n hx hb dX7_isOpenFor_24 rfl (lv_at hl 0 rfl) ?_
      refine lv_iload_n hx hb dX7_isOpenFor_25 rfl (lv_at hl 2 rfl) ?_
      refine ka_RV (n := 1) C (cr_X7_isText_420 l D F a0 x1 a1 x2 a2 a3 a4 a5 a6 a7 a8 x3 x4 x5 x6 x7 x8 x9 a9 a10 a11 a12 a13 a14 x10 x11 x12 x13 x14 x15 (by omega) ⟨by omega, by omega⟩ ⟨by omega, by omega⟩ ⟨by omega, by omega⟩ ⟨by omega, by omega⟩ ⟨by omega, by omega⟩ ⟨by omega, by omega⟩ ⟨by omega, by omega⟩ ⟨by omega, by omega⟩ ⟨by omega, by omega⟩ ⟨by omega, by omega⟩) gX7_isOpenFor_X7_isText rfl (by decide +kernel) ⟨Nat.le_of_ble_eq_true rfl, Nat.le_of_ble_eq_true rfl⟩ hK hP hS hE hN [0] rfl [] rfl (ci := 7) rfl rfl 0 rfl rfl hl.1 (rest := []) rfl (Nat.le_of_ble_eq_true rfl) dX7_isOpenFor_26 ⟨Nat.le_of_ble_eq_true rfl, Nat.le_of_ble_eq_true rfl⟩ (fun v hv => ?_)
      subst hv
      refine ka_stk (w := [.int 0]) rfl ?_
      refine lv_if_eq (tgt := 36) hx hb dX7_isOpenFor_29 (by decide) (fun _ => ?_) (fun c_ => absurd (by decide) c_)
      refine lv_iconst (v := 0) hx hb dX7_isOpenFor_36 (by decide) ?_
      exact ka_rRz C hr hlk rfl rfl dX7_isOpenFor_37
set_option maxHeartbeats 4000000 in
set_option maxRecDepth 100000 in
theorem cr_X7_isIn_422 (l : Launch) (D : va_G) (F : Nat → Prop) (x0 : Int32) (x1 : Int32) (hx0 : 0 ≤ x0.toInt ∧ x0.toInt ≤ 60) (hx1 : 0 ≤ x1.toInt ∧ x1.toInt ≤ 60) : ka_R l D F yX7_isIn wsX7_isIn 0 0 [.int x0, .int 0, .int x1] [] [] (fun v => ∃ x : Int32, v = some (.int x) ∧ 0 ≤ x.toInt ∧ x.toInt ≤ 1) := by
  refine ka_R_of (cc := cX7_isIn) (maxL := 3) (ret := (some .boolean)) (by decide) rfl (Nat.le_of_ble_eq_true rfl) ?_
  intro p e s m below meth c ls C hr hlk hP hK hE hN hl
  have hS : va_S (fun _ => False) s.heap s.heap [] := va_S.rf
  have C : CallFix p m c cX7_isIn 3 s [.int x0, .int 0, .int x1].toArray wsX7_isIn RX7 := C
  obtain ⟨hx, hb, hml, hown, hts⟩ := id C
  have hl : lv_has ls 3 [(0, .int x0), (1, .int 0), (2, .int x1)] := hl
  have rx0 := ka_rng x0
  have rx1 := ka_rng x1
  refine lv_iload_n hx hb dX7_isIn_0 rfl (lv_at hl 0 rfl) ?_
  refine lv_iload_n hx hb dX7_isIn_1 rfl (lv_at hl 1 rfl) ?_
  refine lv_icmp_lt (tgt := 14) hx hb dX7_isIn_2 (by decide) (fun c_ => absurd c_ (by rw [ka_lt', show ((0 : Int32)).toInt = 0 from by decide]; omega)) (fun _ => ?_)
  refine lv_iload_n hx hb dX7_isIn_5 rfl (lv_at hl 0 rfl) ?_
  refine lv_iload_n hx hb dX7_isIn_6 rfl (lv_at hl 2 rfl) ?_
  refine lv_icmp_gt (tgt := 14) hx hb dX7_isIn_7 (by decide) (fun c_33214 => ?_) (fun c_33214 => ?_)
  · have c_33214 : x1.toInt < x0.toInt := by rw [ka_lt'] at c_33214; exact c_33214
    refine lv_iconst (v := 0) hx hb dX7_isIn_14 (by decide) ?_
    exact ka_rRz C hr hlk rfl ⟨_, rfl, ⟨by decide, by decide⟩⟩ dX7_isIn_15
  · have c_33214 : ¬ x1.toInt < x0.toInt := by rw [ka_lt'] at c_33214; exact c_33214
    refine lv_iconst (v := 1) hx hb dX7_isIn_10 (by decide) ?_
    refine lv_goto (tgt := 15) hx hb dX7_isIn_11 (by decide) ?_
    exact ka_rRz C hr hlk rfl ⟨_, rfl, ⟨by decide, by decide⟩⟩ dX7_isIn_15
set_option maxHeartbeats 4000000 in
set_option maxRecDepth 100000 in
theorem cr_X7_isText_423 (l : Launch) (D : va_G) (F : Nat → Prop) (a0 : Nat) (x0 : Int32) (a1 : Nat) (x1 : Int32) (a2 : Nat) (a3 : Nat) (a4 : Nat) (a5 : Nat) (a6 : Nat) (a7 : Nat) (a8 : Nat) (x2 : Int32) (x3 : Int32) (x4 : Int32) (x5 : Int32) (x6 : Int32) (x7 : Int32) (x8 : Int32) (a9 : Nat) (a10 : Nat) (a11 : Nat) (a12 : Nat) (a13 : Nat) (a14 : Nat) (x9 : Int32) (x10 : Int32) (x11 : Int32) (x12 : Int32) (x13 : Int32) (x14 : Int32) (hx0 : 0 ≤ x0.toInt ∧ x0.toInt ≤ 60) (hx1 : 0 ≤ x1.toInt ∧ x1.toInt ≤ 80) (hx2 : -1 ≤ x2.toInt ∧ x2.toInt ≤ 5) (hx5 : 1 ≤ x5.toInt ∧ x5.toInt ≤ 8) (hx6 : 0 ≤ x6.toInt ∧ x6.toInt ≤ 40) (hx8 : 0 ≤ x8.toInt ∧ x8.toInt ≤ 10) (hx9 : 0 ≤ x9.toInt ∧ x9.toInt ≤ 60) (hx10 : 0 ≤ x10.toInt ∧ x10.toInt ≤ 60) (hx11 : 0 ≤ x11.toInt ∧ x11.toInt ≤ 60) (hx12 : 0 ≤ x12.toInt ∧ x12.toInt ≤ 8) (hx14 : 0 ≤ x14.toInt ∧ x14.toInt ≤ 1) : ka_R l D F yX7_isText wsX7_isText 1 22 [.ref a0, .int x0] [(a0, .inr (7, [.ref a1, .int x1, .ref a2, .ref a3, .ref a4, .ref a5, .ref a6, .ref a7, .ref a8, .int x2, .int x3, .int x4, .int x5, .int x6, .int x7, .int x8, .ref a9, .ref a10, .ref a11, .ref a12, .ref a13, .ref a14, .int x9, .int x10, .int x11, .int x12, .int x13, .int x14]))] [] (fun v => ∃ x : Int32, v = some (.int x) ∧ 0 ≤ x.toInt ∧ x.toInt ≤ 1) := by
  refine ka_R_of (cc := cX7_isText) (maxL := 2) (ret := (some .boolean)) (by decide) rfl (Nat.le_of_ble_eq_true rfl) ?_
  intro p e s m below meth c ls C hr hlk hP hK hE hN hl
  have hS : va_S (fun _ => False) s.heap s.heap [] := va_S.rf
  have C : CallFix p m c cX7_isText 2 s [.ref a0, .int x0].toArray wsX7_isText RX7 := C
  obtain ⟨hx, hb, hml, hown, hts⟩ := id C
  have hl : lv_has ls 2 [(0, .ref a0), (1, .int x0)] := hl
  have rx0 := ka_rng x0
  have rx1 := ka_rng x1
  have rx2 := ka_rng x2
  have rx3 := ka_rng x3
  have rx4 := ka_rng x4
  have rx5 := ka_rng x5
  have rx6 := ka_rng x6
  have rx7 := ka_rng x7
  have rx8 := ka_rng x8
  have rx9 := ka_rng x9
  have rx10 := ka_rng x10
  have rx11 := ka_rng x11
  have rx12 := ka_rng x12
  have rx13 := ka_rng x13
  have rx14 := ka_rng x14
  refine lv_iload_n hx hb dX7_isText_0 rfl (lv_at hl 1 rfl) ?_
  refine lv_iconst (v := 0) hx hb dX7_isText_1 (by decide) ?_
  refine lv_bipush (v := 60) hx hb dX7_isText_2 (by decide) ?_
  refine lv_aload_n hx hb dX7_isText_4 rfl (lv_at hl 0 rfl) ?_
  refine ka_get C lq_373 rfl hK hP 0 rfl 1 (by decide) lq_374 rfl dX7_isText_5 ?_
  refine va_mmin hx hb (hml.trans hl.1.symm) hown (hts _ lq_375) (hts _ lq_376) (hts _ lq_377) (hts _ lq_378) (Nat.le_of_ble_eq_true rfl) (Nat.le_of_ble_eq_true rfl) (Nat.le_of_ble_eq_true rfl) (Nat.le_of_ble_eq_true rfl) dX7_isText_8 ?_
  refine lv_topi (fun v_33218 ev_33218 => ?_)
  have fv_33218 := kb_min 60 x1; rw [← ev_33218] at fv_33218
  rw [show ((60 : Int32)).toInt = 60 from by decide] at fv_33218
  refine ka_RS (n := 3) C (cr_X7_isIn_422 l D F x0 v_33218 ⟨by omega, by omega⟩ ⟨by omega, by omega⟩) gX7_isText_X7_isIn rfl (by decide +kernel) ⟨Nat.le_of_ble_eq_true rfl, Nat.le_of_ble_eq_true rfl⟩ hK hP hS hE hN [] rfl [] rfl rfl hl.1 (rest := []) rfl (Nat.le_of_ble_eq_true rfl) dX7_isText_11 ⟨Nat.le_of_ble_eq_true rfl, Nat.le_of_ble_eq_true rfl⟩ (fun v hv => ?_)
  obtain ⟨v_33219, rfl, hv_33219⟩ := hv
  have rv_33219 := ka_rng v_33219
  refine ka_stk (w := [.int v_33219]) rfl ?_
  exact ka_rRz C hr hlk (kb_nz ⟨by omega, by omega⟩) ⟨_, rfl, ⟨by omega, by omega⟩⟩ dX7_isText_14
set_option maxHeartbeats 4000000 in
set_option maxRecDepth 100000 in
theorem cr_X7_isOpenFor_424 (l : Launch) (D : va_G) (F : Nat → Prop) (a0 : Nat) (x0 : Int32) (x1 : Int32) (a1 : Nat) (x2 : Int32) (a2 : Nat) (a3 : Nat) (a4 : Nat) (a5 : Nat) (a6 : Nat) (a7 : Nat) (a8 : Nat) (x3 : Int32) (x4 : Int32) (x5 : Int32) (x6 : Int32) (x7 : Int32) (x8 : Int32) (x9 : Int32) (a9 : Nat) (a10 : Nat) (a11 : Nat) (a12 : Nat) (a13 : Nat) (a14 : Nat) (x10 : Int32) (x11 : Int32) (x12 : Int32) (x13 : Int32) (x14 : Int32) (x15 : Int32) (k0 : ClassId) (f0 : Nat → Int32) (hx0 : 0 ≤ x0.toInt ∧ x0.toInt ≤ 5) (hx1 : 0 ≤ x1.toInt ∧ x1.toInt ≤ 60) (hx2 : 0 ≤ x2.toInt ∧ x2.toInt ≤ 80) (hx3 : -1 ≤ x3.toInt ∧ x3.toInt ≤ 5) (hx6 : 1 ≤ x6.toInt ∧ x6.toInt ≤ 8) (hx7 : 0 ≤ x7.toInt ∧ x7.toInt ≤ 40) (hx9 : 0 ≤ x9.toInt ∧ x9.toInt ≤ 10) (hx10 : 0 ≤ x10.toInt ∧ x10.toInt ≤ 60) (hx11 : 0 ≤ x11.toInt ∧ x11.toInt ≤ 60) (hx12 : 0 ≤ x12.toInt ∧ x12.toInt ≤ 60) (hx13 : 0 ≤ x13.toInt ∧ x13.toInt ≤ 8) (hx15 : 0 ≤ x15.toInt ∧ x15.toInt ≤ 1) : ka_R l D F yX7_isOpenFor wsX7_isOpenFor 2 43 [.ref a0, .int x0, .int x1] [(a0, .inr (7, [.ref a1, .int x2, .ref a2, .ref a3, .ref a4, .ref a5, .ref a6, .ref a7, .ref a8, .int x3, .int x4, .int x5, .int x6, .int x7, .int x8, .int x9, .ref a9, .ref a10, .ref a11, .ref a12, .ref a13, .ref a14, .int x10, .int x11, .int x12, .int x13, .int x14, .int x15])), (a6, .inl (k0, 6, .inl f0))] [(k0, .boolean)] (fun v => ∃ x : Int32, v = some (.int x) ∧ 0 ≤ x.toInt ∧ x.toInt ≤ 1) := by
  refine ka_R_of (cc := cX7_isOpenFor) (maxL := 3) (ret := (some .boolean)) (by decide) rfl (Nat.le_of_ble_eq_true rfl) ?_
  intro p e s m below meth c ls C hr hlk hP hK hE hN hl
  have hS : va_S (fun _ => False) s.heap s.heap [] := va_S.rf
  have C : CallFix p m c cX7_isOpenFor 3 s [.ref a0, .int x0, .int x1].toArray wsX7_isOpenFor RX7 := C
  obtain ⟨hx, hb, hml, hown, hts⟩ := id C
  have hl : lv_has ls 3 [(0, .ref a0), (1, .int x0), (2, .int x1)] := hl
  have rx0 := ka_rng x0
  have rx1 := ka_rng x1
  have rx2 := ka_rng x2
  have rx3 := ka_rng x3
  have rx4 := ka_rng x4
  have rx5 := ka_rng x5
  have rx6 := ka_rng x6
  have rx7 := ka_rng x7
  have rx8 := ka_rng x8
  have rx9 := ka_rng x9
  have rx10 := ka_rng x10
  have rx11 := ka_rng x11
  have rx12 := ka_rng x12
  have rx13 := ka_rng x13
  have rx14 := ka_rng x14
  have rx15 := ka_rng x15
  refine lv_iload_n hx hb dX7_isOpenFor_0 rfl (lv_at hl 1 rfl) ?_
  refine ka_RS (n := 1) C (cg_X7_isLesson_220 l D F x0 ⟨by omega, by omega⟩) gX7_isOpenFor_X7_isLesson rfl (by decide +kernel) ⟨Nat.le_of_ble_eq_true rfl, Nat.le_of_ble_eq_true rfl⟩ hK hP hS hE hN [] rfl [] rfl rfl hl.1 (rest := []) rfl (Nat.le_of_ble_eq_true rfl) dX7_isOpenFor_1 ⟨Nat.le_of_ble_eq_true rfl, Nat.le_of_ble_eq_true rfl⟩ (fun v hv => ?_)
  subst hv
  refine ka_stk (w := [.int 1]) rfl ?_
  refine lv_if_eq (tgt := 36) hx hb dX7_isOpenFor_4 (by decide) (fun c_ => absurd c_ (by decide)) (fun _ => ?_)
  refine lv_iload_n hx hb dX7_isOpenFor_7 rfl (lv_at hl 1 rfl) ?_
  refine lv_aload_n hx hb dX7_isOpenFor_8 rfl (lv_at hl 0 rfl) ?_
  refine ka_get C lq_379 rfl hK hP 0 rfl 9 (by decide) lq_380 rfl dX7_isOpenFor_9 ?_
  refine lv_icmp_eq (tgt := 36) hx hb dX7_isOpenFor_12 (by decide) (fun c_33227 => ?_) (fun c_33227 => ?_)
  · have c_33227 : x0.toInt = x3.toInt := by rw [ka_eq'] at c_33227; exact c_33227
    refine lv_iconst (v := 0) hx hb dX7_isOpenFor_36 (by decide) ?_
    exact ka_rRz C hr hlk rfl ⟨_, rfl, ⟨by decide, by decide⟩⟩ dX7_isOpenFor_37
  · have c_33227 : ¬ x0.toInt = x3.toInt := by rw [ka_eq'] at c_33227; exact c_33227
    refine lv_aload_n hx hb dX7_isOpenFor_15 rfl (lv_at hl 0 rfl) ?_
    refine ka_get C lq_379 rfl hK hP 0 rfl 6 (by decide) lq_381 rfl dX7_isOpenFor_16 ?_
    refine lv_iload_n hx hb dX7_isOpenFor_19 rfl (lv_at hl 1 rfl) ?_
    refine va_zald hx hb hK hP 1 0 rfl rfl (ka_in (by omega) (by omega)) dX7_isOpenFor_20 ?_
    refine lv_topi (fun v_33228 ev_33228 => ?_)
    refine lv_if_ne (tgt := 36) hx hb dX7_isOpenFor_21 (by decide) (fun c_33229 => ?_) (fun c_33229 => ?_)
    · have c_33229 : ¬ v_33228.toInt = 0 := by rw [ka_eq', show ((0 : Int32)).toInt = 0 from by decide] at c_33229; exact c_33229
      refine lv_iconst (v := 0) hx hb dX7_isOpenFor_36 (by decide) ?_
      exact ka_rRz C hr hlk rfl ⟨_, rfl, ⟨by decide, by decide⟩⟩ dX7_isOpenFor_37
    · have c_33229 : v_33228.toInt = 0 := by rw [ka_eq', show ((0 : Int32)).toInt = 0 from by decide] at c_33229; exact c_33229
      refine lv_aload_n hx hb dX7_isOpenFor_24 rfl (lv_at hl 0 rfl) ?_
      refine lv_iload_n hx hb dX7_isOpenFor_25 rfl (lv_at hl 2 rfl) ?_
      refine ka_RV (n := 1) C (cr_X7_isText_423 l D F a0 x1 a1 x2 a2 a3 a4 a5 a6 a7 a8 x3 x4 x5 x6 x7 x8 x9 a9 a10 a11 a12 a13 a14 x10 x11 x12 x13 x14 x15 ⟨by omega, by omega⟩ ⟨by omega, by omega⟩ ⟨by omega, by omega⟩ ⟨by omega, by omega⟩ ⟨by omega, by omega⟩ ⟨by omega, by omega⟩ ⟨by omega, by omega⟩ ⟨by omega, by omega⟩ ⟨by omega, by omega⟩ ⟨by omega, by omega⟩ ⟨by omega, by omega⟩) gX7_isOpenFor_X7_isText rfl (by decide +kernel) ⟨Nat.le_of_ble_eq_true rfl, Nat.le_of_ble_eq_true rfl⟩ hK hP hS hE hN [0] rfl [] rfl (ci := 7) rfl rfl 0 rfl rfl hl.1 (rest := []) rfl (Nat.le_of_ble_eq_true rfl) dX7_isOpenFor_26 ⟨Nat.le_of_ble_eq_true rfl, Nat.le_of_ble_eq_true rfl⟩ (fun v hv => ?_)
      obtain ⟨v_33230, rfl, hv_33230⟩ := hv
      have rv_33230 := ka_rng v_33230
      refine ka_stk (w := [.int v_33230]) rfl ?_
      refine lv_if_eq (tgt := 36) hx hb dX7_isOpenFor_29 (by decide) (fun c_33231 => ?_) (fun c_33231 => ?_)
      · have c_33231 : v_33230.toInt = 0 := by rw [ka_eq', show ((0 : Int32)).toInt = 0 from by decide] at c_33231; exact c_33231
        refine lv_iconst (v := 0) hx hb dX7_isOpenFor_36 (by decide) ?_
        exact ka_rRz C hr hlk rfl ⟨_, rfl, ⟨by decide, by decide⟩⟩ dX7_isOpenFor_37
      · have c_33231 : ¬ v_33230.toInt = 0 := by rw [ka_eq', show ((0 : Int32)).toInt = 0 from by decide] at c_33231; exact c_33231
        refine lv_iconst (v := 1) hx hb dX7_isOpenFor_32 (by decide) ?_
        refine lv_goto (tgt := 37) hx hb dX7_isOpenFor_33 (by decide) ?_
        exact ka_rRz C hr hlk rfl ⟨_, rfl, ⟨by decide, by decide⟩⟩ dX7_isOpenFor_37
set_option maxHeartbeats 4000000 in
set_option maxRecDepth 100000 in
theorem cr_X7_isIn_425 (l : Launch) (D : va_G) (F : Nat → Prop) (x0 : Int32) (x1 : Int32) (hx0 : 61 ≤ x0.toInt) (hx1 : 0 ≤ x1.toInt ∧ x1.toInt ≤ 60) : ka_R l D F yX7_isIn wsX7_isIn 0 0 [.int x0, .int 0, .int x1] [] [] (fun v => v = some (.int 0)) := by
  refine ka_R_of (cc := cX7_isIn) (maxL := 3) (ret := (some .boolean)) (by decide) rfl (Nat.le_of_ble_eq_true rfl) ?_
  intro p e s m below meth c ls C hr hlk hP hK hE hN hl
  have hS : va_S (fun _ => False) s.heap s.heap [] := va_S.rf
  have C : CallFix p m c cX7_isIn 3 s [.int x0, .int 0, .int x1].toArray wsX7_isIn RX7 := C
  obtain ⟨hx, hb, hml, hown, hts⟩ := id C
  have hl : lv_has ls 3 [(0, .int x0), (1, .int 0), (2, .int x1)] := hl
  have rx0 := ka_rng x0
  have rx1 := ka_rng x1
  refine lv_iload_n hx hb dX7_isIn_0 rfl (lv_at hl 0 rfl) ?_
  refine lv_iload_n hx hb dX7_isIn_1 rfl (lv_at hl 1 rfl) ?_
  refine lv_icmp_lt (tgt := 14) hx hb dX7_isIn_2 (by decide) (fun c_ => absurd c_ (by rw [ka_lt', show ((0 : Int32)).toInt = 0 from by decide]; omega)) (fun _ => ?_)
  refine lv_iload_n hx hb dX7_isIn_5 rfl (lv_at hl 0 rfl) ?_
  refine lv_iload_n hx hb dX7_isIn_6 rfl (lv_at hl 2 rfl) ?_
  refine lv_icmp_gt (tgt := 14) hx hb dX7_isIn_7 (by decide) (fun _ => ?_) (fun c_ => absurd (by rw [ka_lt']; omega) c_)
  refine lv_iconst (v := 0) hx hb dX7_isIn_14 (by decide) ?_
  exact ka_rRz C hr hlk rfl rfl dX7_isIn_15
set_option maxHeartbeats 4000000 in
set_option maxRecDepth 100000 in
theorem cr_X7_isText_426 (l : Launch) (D : va_G) (F : Nat → Prop) (a0 : Nat) (x0 : Int32) (a1 : Nat) (x1 : Int32) (a2 : Nat) (a3 : Nat) (a4 : Nat) (a5 : Nat) (a6 : Nat) (a7 : Nat) (a8 : Nat) (x2 : Int32) (x3 : Int32) (x4 : Int32) (x5 : Int32) (x6 : Int32) (x7 : Int32) (x8 : Int32) (a9 : Nat) (a10 : Nat) (a11 : Nat) (a12 : Nat) (a13 : Nat) (a14 : Nat) (x9 : Int32) (x10 : Int32) (x11 : Int32) (x12 : Int32) (x13 : Int32) (x14 : Int32) (hx0 : 61 ≤ x0.toInt) (hx1 : 0 ≤ x1.toInt ∧ x1.toInt ≤ 80) (hx2 : -1 ≤ x2.toInt ∧ x2.toInt ≤ 5) (hx5 : 1 ≤ x5.toInt ∧ x5.toInt ≤ 8) (hx6 : 0 ≤ x6.toInt ∧ x6.toInt ≤ 40) (hx8 : 0 ≤ x8.toInt ∧ x8.toInt ≤ 10) (hx9 : 0 ≤ x9.toInt ∧ x9.toInt ≤ 60) (hx10 : 0 ≤ x10.toInt ∧ x10.toInt ≤ 60) (hx11 : 0 ≤ x11.toInt ∧ x11.toInt ≤ 60) (hx12 : 0 ≤ x12.toInt ∧ x12.toInt ≤ 8) (hx14 : 0 ≤ x14.toInt ∧ x14.toInt ≤ 1) : ka_R l D F yX7_isText wsX7_isText 1 22 [.ref a0, .int x0] [(a0, .inr (7, [.ref a1, .int x1, .ref a2, .ref a3, .ref a4, .ref a5, .ref a6, .ref a7, .ref a8, .int x2, .int x3, .int x4, .int x5, .int x6, .int x7, .int x8, .ref a9, .ref a10, .ref a11, .ref a12, .ref a13, .ref a14, .int x9, .int x10, .int x11, .int x12, .int x13, .int x14]))] [] (fun v => v = some (.int 0)) := by
  refine ka_R_of (cc := cX7_isText) (maxL := 2) (ret := (some .boolean)) (by decide) rfl (Nat.le_of_ble_eq_true rfl) ?_
  intro p e s m below meth c ls C hr hlk hP hK hE hN hl
  have hS : va_S (fun _ => False) s.heap s.heap [] := va_S.rf
  have C : CallFix p m c cX7_isText 2 s [.ref a0, .int x0].toArray wsX7_isText RX7 := C
  obtain ⟨hx, hb, hml, hown, hts⟩ := id C
  have hl : lv_has ls 2 [(0, .ref a0), (1, .int x0)] := hl
  have rx0 := ka_rng x0
  have rx1 := ka_rng x1
  have rx2 := ka_rng x2
  have rx3 := ka_rng x3
  have rx4 := ka_rng x4
  have rx5 := ka_rng x5
  have rx6 := ka_rng x6
  have rx7 := ka_rng x7
  have rx8 := ka_rng x8
  have rx9 := ka_rng x9
  have rx10 := ka_rng x10
  have rx11 := ka_rng x11
  have rx12 := ka_rng x12
  have rx13 := ka_rng x13
  have rx14 := ka_rng x14
  refine lv_iload_n hx hb dX7_isText_0 rfl (lv_at hl 1 rfl) ?_
  refine lv_iconst (v := 0) hx hb dX7_isText_1 (by decide) ?_
  refine lv_bipush (v := 60) hx hb dX7_isText_2 (by decide) ?_
  refine lv_aload_n hx hb dX7_isText_4 rfl (lv_at hl 0 rfl) ?_
  refine ka_get C lq_373 rfl hK hP 0 rfl 1 (by decide) lq_374 rfl dX7_isText_5 ?_
  refine va_mmin hx hb (hml.trans hl.1.symm) hown (hts _ lq_375) (hts _ lq_376) (hts _ lq_377) (hts _ lq_378) (Nat.le_of_ble_eq_true rfl) (Nat.le_of_ble_eq_true rfl) (Nat.le_of_ble_eq_true rfl) (Nat.le_of_ble_eq_true rfl) dX7_isText_8 ?_
  refine lv_topi (fun v_33341 ev_33341 => ?_)
  have fv_33341 := kb_min 60 x1; rw [← ev_33341] at fv_33341
  rw [show ((60 : Int32)).toInt = 60 from by decide] at fv_33341
  refine ka_RS (n := 3) C (cr_X7_isIn_425 l D F x0 v_33341 (by omega) ⟨by omega, by omega⟩) gX7_isText_X7_isIn rfl (by decide +kernel) ⟨Nat.le_of_ble_eq_true rfl, Nat.le_of_ble_eq_true rfl⟩ hK hP hS hE hN [] rfl [] rfl rfl hl.1 (rest := []) rfl (Nat.le_of_ble_eq_true rfl) dX7_isText_11 ⟨Nat.le_of_ble_eq_true rfl, Nat.le_of_ble_eq_true rfl⟩ (fun v hv => ?_)
  subst hv
  refine ka_stk (w := [.int 0]) rfl ?_
  exact ka_rRz C hr hlk rfl rfl dX7_isText_14
set_option maxHeartbeats 4000000 in
set_option maxRecDepth 100000 in
theorem cr_X7_isOpenFor_427 (l : Launch) (D : va_G) (F : Nat → Prop) (a0 : Nat) (x0 : Int32) (x1 : Int32) (a1 : Nat) (x2 : Int32) (a2 : Nat) (a3 : Nat) (a4 : Nat) (a5 : Nat) (a6 : Nat) (a7 : Nat) (a8 : Nat) (x3 : Int32) (x4 : Int32) (x5 : Int32) (x6 : Int32) (x7 : Int32) (x8 : Int32) (x9 : Int32) (a9 : Nat) (a10 : Nat) (a11 : Nat) (a12 : Nat) (a13 : Nat) (a14 : Nat) (x10 : Int32) (x11 : Int32) (x12 : Int32) (x13 : Int32) (x14 : Int32) (x15 : Int32) (k0 : ClassId) (f0 : Nat → Int32) (hx0 : 0 ≤ x0.toInt ∧ x0.toInt ≤ 5) (hx1 : 61 ≤ x1.toInt) (hx2 : 0 ≤ x2.toInt ∧ x2.toInt ≤ 80) (hx3 : -1 ≤ x3.toInt ∧ x3.toInt ≤ 5) (hx6 : 1 ≤ x6.toInt ∧ x6.toInt ≤ 8) (hx7 : 0 ≤ x7.toInt ∧ x7.toInt ≤ 40) (hx9 : 0 ≤ x9.toInt ∧ x9.toInt ≤ 10) (hx10 : 0 ≤ x10.toInt ∧ x10.toInt ≤ 60) (hx11 : 0 ≤ x11.toInt ∧ x11.toInt ≤ 60) (hx12 : 0 ≤ x12.toInt ∧ x12.toInt ≤ 60) (hx13 : 0 ≤ x13.toInt ∧ x13.toInt ≤ 8) (hx15 : 0 ≤ x15.toInt ∧ x15.toInt ≤ 1) : ka_R l D F yX7_isOpenFor wsX7_isOpenFor 2 43 [.ref a0, .int x0, .int x1] [(a0, .inr (7, [.ref a1, .int x2, .ref a2, .ref a3, .ref a4, .ref a5, .ref a6, .ref a7, .ref a8, .int x3, .int x4, .int x5, .int x6, .int x7, .int x8, .int x9, .ref a9, .ref a10, .ref a11, .ref a12, .ref a13, .ref a14, .int x10, .int x11, .int x12, .int x13, .int x14, .int x15])), (a6, .inl (k0, 6, .inl f0))] [(k0, .boolean)] (fun v => v = some (.int 0)) := by
  refine ka_R_of (cc := cX7_isOpenFor) (maxL := 3) (ret := (some .boolean)) (by decide) rfl (Nat.le_of_ble_eq_true rfl) ?_
  intro p e s m below meth c ls C hr hlk hP hK hE hN hl
  have hS : va_S (fun _ => False) s.heap s.heap [] := va_S.rf
  have C : CallFix p m c cX7_isOpenFor 3 s [.ref a0, .int x0, .int x1].toArray wsX7_isOpenFor RX7 := C
  obtain ⟨hx, hb, hml, hown, hts⟩ := id C
  have hl : lv_has ls 3 [(0, .ref a0), (1, .int x0), (2, .int x1)] := hl
  have rx0 := ka_rng x0
  have rx1 := ka_rng x1
  have rx2 := ka_rng x2
  have rx3 := ka_rng x3
  have rx4 := ka_rng x4
  have rx5 := ka_rng x5
  have rx6 := ka_rng x6
  have rx7 := ka_rng x7
  have rx8 := ka_rng x8
  have rx9 := ka_rng x9
  have rx10 := ka_rng x10
  have rx11 := ka_rng x11
  have rx12 := ka_rng x12
  have rx13 := ka_rng x13
  have rx14 := ka_rng x14
  have rx15 := ka_rng x15
  refine lv_iload_n hx hb dX7_isOpenFor_0 rfl (lv_at hl 1 rfl) ?_
  refine ka_RS (n := 1) C (cg_X7_isLesson_220 l D F x0 ⟨by omega, by omega⟩) gX7_isOpenFor_X7_isLesson rfl (by decide +kernel) ⟨Nat.le_of_ble_eq_true rfl, Nat.le_of_ble_eq_true rfl⟩ hK hP hS hE hN [] rfl [] rfl rfl hl.1 (rest := []) rfl (Nat.le_of_ble_eq_true rfl) dX7_isOpenFor_1 ⟨Nat.le_of_ble_eq_true rfl, Nat.le_of_ble_eq_true rfl⟩ (fun v hv => ?_)
  subst hv
  refine ka_stk (w := [.int 1]) rfl ?_
  refine lv_if_eq (tgt := 36) hx hb dX7_isOpenFor_4 (by decide) (fun c_ => absurd c_ (by decide)) (fun _ => ?_)
  refine lv_iload_n hx hb dX7_isOpenFor_7 rfl (lv_at hl 1 rfl) ?_
  refine lv_aload_n hx hb dX7_isOpenFor_8 rfl (lv_at hl 0 rfl) ?_
  refine ka_get C lq_379 rfl hK hP 0 rfl 9 (by decide) lq_380 rfl dX7_isOpenFor_9 ?_
  refine lv_icmp_eq (tgt := 36) hx hb dX7_isOpenFor_12 (by decide) (fun c_33345 => ?_) (fun c_33345 => ?_)
  · have c_33345 : x0.toInt = x3.toInt := by rw [ka_eq'] at c_33345; exact c_33345
    refine lv_iconst (v := 0) hx hb dX7_isOpenFor_36 (by decide) ?_
    exact ka_rRz C hr hlk rfl rfl dX7_isOpenFor_37
  · have c_33345 : ¬ x0.toInt = x3.toInt := by rw [ka_eq'] at c_33345; exact c_33345
    refine lv_aload_n hx hb dX7_isOpenFor_15 rfl (lv_at hl 0 rfl) ?_
    refine ka_get C lq_379 rfl hK hP 0 rfl 6 (by decide) lq_381 rfl dX7_isOpenFor_16 ?_
    refine lv_iload_n hx hb dX7_isOpenFor_19 rfl (lv_at hl 1 rfl) ?_
    refine va_zald hx hb hK hP 1 0 rfl rfl (ka_in (by omega) (by omega)) dX7_isOpenFor_20 ?_
    refine lv_topi (fun v_33346 ev_33346 => ?_)
    refine lv_if_ne (tgt := 36) hx hb dX7_isOpenFor_21 (by decide) (fun c_33347 => ?_) (fun c_33347 => ?_)
    · have c_33347 : ¬ v_33346.toInt = 0 := by rw [ka_eq', show ((0 : Int32)).toInt = 0 from by decide] at c_33347; exact c_33347
      refine lv_iconst (v := 0) hx hb dX7_isOpenFor_36 (by decide) ?_
      exact ka_rRz C hr hlk rfl rfl dX7_isOpenFor_37
    · have c_33347 : v_33346.toInt = 0 := by rw [ka_eq', show ((0 : Int32)).toInt = 0 from by decide] at c_33347; exact c_33347
      refine lv_aload_n hx hb dX7_isOpenFor_24 rfl (lv_at hl 0 rfl) ?_
      refine lv_iload_n hx hb dX7_isOpenFor_25 rfl (lv_at hl 2 rfl) ?_
      refine ka_RV (n := 1) C (cr_X7_isText_426 l D F a0 x1 a1 x2 a2 a3 a4 a5 a6 a7 a8 x3 x4 x5 x6 x7 x8 x9 a9 a10 a11 a12 a13 a14 x10 x11 x12 x13 x14 x15 (by omega) ⟨by omega, by omega⟩ ⟨by omega, by omega⟩ ⟨by omega, by omega⟩ ⟨by omega, by omega⟩ ⟨by omega, by omega⟩ ⟨by omega, by omega⟩ ⟨by omega, by omega⟩ ⟨by omega, by omega⟩ ⟨by omega, by omega⟩ ⟨by omega, by omega⟩) gX7_isOpenFor_X7_isText rfl (by decide +kernel) ⟨Nat.le_of_ble_eq_true rfl, Nat.le_of_ble_eq_true rfl⟩ hK hP hS hE hN [0] rfl [] rfl (ci := 7) rfl rfl 0 rfl rfl hl.1 (rest := []) rfl (Nat.le_of_ble_eq_true rfl) dX7_isOpenFor_26 ⟨Nat.le_of_ble_eq_true rfl, Nat.le_of_ble_eq_true rfl⟩ (fun v hv => ?_)
      subst hv
      refine ka_stk (w := [.int 0]) rfl ?_
      refine lv_if_eq (tgt := 36) hx hb dX7_isOpenFor_29 (by decide) (fun _ => ?_) (fun c_ => absurd (by decide) c_)
      refine lv_iconst (v := 0) hx hb dX7_isOpenFor_36 (by decide) ?_
      exact ka_rRz C hr hlk rfl rfl dX7_isOpenFor_37
set_option maxHeartbeats 4000000 in
set_option maxRecDepth 100000 in
theorem cr_X7_isLesson_429 (l : Launch) (D : va_G) (F : Nat → Prop) (x0 : Int32) (hx0 : 6 ≤ x0.toInt) : ka_R l D F yX7_isLesson wsX7_isLesson 1 22 [.int x0] [] [] (fun v => v = some (.int 0)) := by
  refine ka_R_of (cc := cX7_isLesson) (maxL := 1) (ret := (some .boolean)) (by decide) rfl (Nat.le_of_ble_eq_true rfl) ?_
  intro p e s m below meth c ls C hr hlk hP hK hE hN hl
  have hS : va_S (fun _ => False) s.heap s.heap [] := va_S.rf
  have C : CallFix p m c cX7_isLesson 1 s [.int x0].toArray wsX7_isLesson RX7 := C
  obtain ⟨hx, hb, hml, hown, hts⟩ := id C
  have hl : lv_has ls 1 [(0, .int x0)] := hl
  have rx0 := ka_rng x0
  refine lv_iload_n hx hb dX7_isLesson_0 rfl (lv_at hl 0 rfl) ?_
  refine lv_iconst (v := 0) hx hb dX7_isLesson_1 (by decide) ?_
  refine lv_iconst (v := 5) hx hb dX7_isLesson_2 (by decide) ?_
  refine ka_RS (n := 3) C (cg_X7_isIn_228 l D F x0 (by omega)) gX7_isLesson_X7_isIn rfl (by decide +kernel) ⟨Nat.le_of_ble_eq_true rfl, Nat.le_of_ble_eq_true rfl⟩ hK hP hS hE hN [] rfl [] rfl rfl hl.1 (rest := []) rfl (Nat.le_of_ble_eq_true rfl) dX7_isLesson_3 ⟨Nat.le_of_ble_eq_true rfl, Nat.le_of_ble_eq_true rfl⟩ (fun v hv => ?_)
  subst hv
  refine ka_stk (w := [.int 0]) rfl ?_
  exact ka_rRz C hr hlk rfl rfl dX7_isLesson_6
set_option maxHeartbeats 4000000 in
set_option maxRecDepth 100000 in
theorem cr_X7_isOpenFor_428 (l : Launch) (D : va_G) (F : Nat → Prop) (a0 : Nat) (x0 : Int32) (x1 : Int32) (hx0 : 6 ≤ x0.toInt) (hx1 : x1.toInt ≤ -1) : ka_R l D F yX7_isOpenFor wsX7_isOpenFor 2 42 [.ref a0, .int x0, .int x1] [] [] (fun v => v = some (.int 0)) := by
  refine ka_R_of (cc := cX7_isOpenFor) (maxL := 3) (ret := (some .boolean)) (by decide) rfl (Nat.le_of_ble_eq_true rfl) ?_
  intro p e s m below meth c ls C hr hlk hP hK hE hN hl
  have hS : va_S (fun _ => False) s.heap s.heap [] := va_S.rf
  have C : CallFix p m c cX7_isOpenFor 3 s [.ref a0, .int x0, .int x1].toArray wsX7_isOpenFor RX7 := C
  obtain ⟨hx, hb, hml, hown, hts⟩ := id C
  have hl : lv_has ls 3 [(0, .ref a0), (1, .int x0), (2, .int x1)] := hl
  have rx0 := ka_rng x0
  have rx1 := ka_rng x1
  refine lv_iload_n hx hb dX7_isOpenFor_0 rfl (lv_at hl 1 rfl) ?_
  refine ka_RS (n := 1) C (cr_X7_isLesson_429 l D F x0 (by omega)) gX7_isOpenFor_X7_isLesson rfl (by decide +kernel) ⟨Nat.le_of_ble_eq_true rfl, Nat.le_of_ble_eq_true rfl⟩ hK hP hS hE hN [] rfl [] rfl rfl hl.1 (rest := []) rfl (Nat.le_of_ble_eq_true rfl) dX7_isOpenFor_1 ⟨Nat.le_of_ble_eq_true rfl, Nat.le_of_ble_eq_true rfl⟩ (fun v hv => ?_)
  subst hv
  refine ka_stk (w := [.int 0]) rfl ?_
  refine lv_if_eq (tgt := 36) hx hb dX7_isOpenFor_4 (by decide) (fun _ => ?_) (fun c_ => absurd (by decide) c_)
  refine lv_iconst (v := 0) hx hb dX7_isOpenFor_36 (by decide) ?_
  exact ka_rRz C hr hlk rfl rfl dX7_isOpenFor_37
set_option maxHeartbeats 4000000 in
set_option maxRecDepth 100000 in
theorem cr_X7_isOpenFor_430 (l : Launch) (D : va_G) (F : Nat → Prop) (a0 : Nat) (x0 : Int32) (x1 : Int32) (hx0 : 6 ≤ x0.toInt) (hx1 : 0 ≤ x1.toInt ∧ x1.toInt ≤ 60) : ka_R l D F yX7_isOpenFor wsX7_isOpenFor 2 42 [.ref a0, .int x0, .int x1] [] [] (fun v => v = some (.int 0)) := by
  refine ka_R_of (cc := cX7_isOpenFor) (maxL := 3) (ret := (some .boolean)) (by decide) rfl (Nat.le_of_ble_eq_true rfl) ?_
  intro p e s m below meth c ls C hr hlk hP hK hE hN hl
  have hS : va_S (fun _ => False) s.heap s.heap [] := va_S.rf
  have C : CallFix p m c cX7_isOpenFor 3 s [.ref a0, .int x0, .int x1].toArray wsX7_isOpenFor RX7 := C
  obtain ⟨hx, hb, hml, hown, hts⟩ := id C
  have hl : lv_has ls 3 [(0, .ref a0), (1, .int x0), (2, .int x1)] := hl
  have rx0 := ka_rng x0
  have rx1 := ka_rng x1
  refine lv_iload_n hx hb dX7_isOpenFor_0 rfl (lv_at hl 1 rfl) ?_
  refine ka_RS (n := 1) C (cr_X7_isLesson_429 l D F x0 (by omega)) gX7_isOpenFor_X7_isLesson rfl (by decide +kernel) ⟨Nat.le_of_ble_eq_true rfl, Nat.le_of_ble_eq_true rfl⟩ hK hP hS hE hN [] rfl [] rfl rfl hl.1 (rest := []) rfl (Nat.le_of_ble_eq_true rfl) dX7_isOpenFor_1 ⟨Nat.le_of_ble_eq_true rfl, Nat.le_of_ble_eq_true rfl⟩ (fun v hv => ?_)
  subst hv
  refine ka_stk (w := [.int 0]) rfl ?_
  refine lv_if_eq (tgt := 36) hx hb dX7_isOpenFor_4 (by decide) (fun _ => ?_) (fun c_ => absurd (by decide) c_)
  refine lv_iconst (v := 0) hx hb dX7_isOpenFor_36 (by decide) ?_
  exact ka_rRz C hr hlk rfl rfl dX7_isOpenFor_37
set_option maxHeartbeats 4000000 in
set_option maxRecDepth 100000 in
theorem cr_X7_isOpenFor_431 (l : Launch) (D : va_G) (F : Nat → Prop) (a0 : Nat) (x0 : Int32) (x1 : Int32) (hx0 : 6 ≤ x0.toInt) (hx1 : 61 ≤ x1.toInt) : ka_R l D F yX7_isOpenFor wsX7_isOpenFor 2 42 [.ref a0, .int x0, .int x1] [] [] (fun v => v = some (.int 0)) := by
  refine ka_R_of (cc := cX7_isOpenFor) (maxL := 3) (ret := (some .boolean)) (by decide) rfl (Nat.le_of_ble_eq_true rfl) ?_
  intro p e s m below meth c ls C hr hlk hP hK hE hN hl
  have hS : va_S (fun _ => False) s.heap s.heap [] := va_S.rf
  have C : CallFix p m c cX7_isOpenFor 3 s [.ref a0, .int x0, .int x1].toArray wsX7_isOpenFor RX7 := C
  obtain ⟨hx, hb, hml, hown, hts⟩ := id C
  have hl : lv_has ls 3 [(0, .ref a0), (1, .int x0), (2, .int x1)] := hl
  have rx0 := ka_rng x0
  have rx1 := ka_rng x1
  refine lv_iload_n hx hb dX7_isOpenFor_0 rfl (lv_at hl 1 rfl) ?_
  refine ka_RS (n := 1) C (cr_X7_isLesson_429 l D F x0 (by omega)) gX7_isOpenFor_X7_isLesson rfl (by decide +kernel) ⟨Nat.le_of_ble_eq_true rfl, Nat.le_of_ble_eq_true rfl⟩ hK hP hS hE hN [] rfl [] rfl rfl hl.1 (rest := []) rfl (Nat.le_of_ble_eq_true rfl) dX7_isOpenFor_1 ⟨Nat.le_of_ble_eq_true rfl, Nat.le_of_ble_eq_true rfl⟩ (fun v hv => ?_)
  subst hv
  refine ka_stk (w := [.int 0]) rfl ?_
  refine lv_if_eq (tgt := 36) hx hb dX7_isOpenFor_4 (by decide) (fun _ => ?_) (fun c_ => absurd (by decide) c_)
  refine lv_iconst (v := 0) hx hb dX7_isOpenFor_36 (by decide) ?_
  exact ka_rRz C hr hlk rfl rfl dX7_isOpenFor_37
theorem lqr_442 : ∀ w ∈ wsX70, w ∈ wsX7_law := by decide +kernel
theorem lqr_443 : Cond.fieldLink RX7 23 "AskedBackModel" "hasLaw" "[Z" ∈ wsX7_law := by decide +kernel
set_option maxHeartbeats 4000000 in
set_option maxRecDepth 100000 in
theorem cr_X7_law_432 (l : Launch) (D : va_G) (F : Nat → Prop) (a0 : Nat) (x0 : Int32) (x1 : Int32) (a1 : Nat) (x2 : Int32) (a2 : Nat) (a3 : Nat) (a4 : Nat) (a5 : Nat) (a6 : Nat) (a7 : Nat) (a8 : Nat) (x3 : Int32) (x4 : Int32) (x5 : Int32) (x6 : Int32) (x7 : Int32) (x8 : Int32) (x9 : Int32) (a9 : Nat) (a10 : Nat) (a11 : Nat) (a12 : Nat) (a13 : Nat) (a14 : Nat) (x10 : Int32) (x11 : Int32) (x12 : Int32) (x13 : Int32) (x14 : Int32) (x15 : Int32) (k0 : ClassId) (f0 : Nat → Int32) (k1 : ClassId) (f1 : Nat → Int32) (k2 : ClassId) (f2 : Nat → Int32) (k3 : ClassId) (f3 : Nat → Int32) (k4 : ClassId) (f4 : Nat → Int32) (k5 : ClassId) (f5 : Nat → Int32) (k6 : ClassId) (f6 : Nat → Int32) (k7 : ClassId) (f7 : Nat → Int32) (k8 : ClassId) (f8 : Nat → Int32) (k9 : ClassId) (f9 : Nat → Int32) (hx2 : 0 ≤ x2.toInt ∧ x2.toInt ≤ 80) (hx3 : -1 ≤ x3.toInt ∧ x3.toInt ≤ 5) (hx6 : 1 ≤ x6.toInt ∧ x6.toInt ≤ 8) (hx7 : 0 ≤ x7.toInt ∧ x7.toInt ≤ 40) (hx9 : 0 ≤ x9.toInt ∧ x9.toInt ≤ 10) (hx10 : 0 ≤ x10.toInt ∧ x10.toInt ≤ 60) (hx11 : 0 ≤ x11.toInt ∧ x11.toInt ≤ 60) (hx12 : 0 ≤ x12.toInt ∧ x12.toInt ≤ 60) (hx13 : 0 ≤ x13.toInt ∧ x13.toInt ≤ 8) (hx15 : 0 ≤ x15.toInt ∧ x15.toInt ≤ 1) (hf0 : sb_Fit f0) (hf2 : ∀ j : Nat, 0 ≤ (f2 j).toInt ∧ (f2 j).toInt ≤ 60) (hf3 : sb_Fit f3) : ka_E l D F yX7_law wsX7_law 144 3596 0 0 [.ref a0, .int x0, .int x1] [(a0, .inr (7, [.ref a1, .int x2, .ref a2, .ref a3, .ref a4, .ref a5, .ref a6, .ref a7, .ref a8, .int x3, .int x4, .int x5, .int x6, .int x7, .int x8, .int x9, .ref a9, .ref a10, .ref a11, .ref a12, .ref a13, .ref a14, .int x10, .int x11, .int x12, .int x13, .int x14, .int x15])), (a1, .inl (k0, 80, .inl f0)), (a2, .inl (k1, 89, .inl f1)), (a3, .inl (k2, 89, .inl f2)), (a4, .inl (k3, 5340, .inl f3)), (a5, .inl (k4, 6, .inl f4)), (a6, .inl (k5, 6, .inl f5)), (a11, .inl (k6, 60, .inl f6)), (a12, .inl (k7, 60, .inl f7)), (a13, .inl (k8, 60, .inl f8)), (a14, .inl (k9, 60, .inl f9))] [(k0, .byte), (k1, .int), (k2, .int), (k3, .byte), (k4, .boolean), (k5, .boolean), (k6, .int), (k7, .int), (k8, .int), (k9, .int)] (fun (u : (Int32) × (Int32) × (Int32) × (Int32) × (Int32) × (Int32) × (Int32) × (Nat → Int32) × (Nat → Int32) × (Nat → Int32) × (Nat → Int32) × (Nat → Int32) × (Nat → Int32) × (Nat → Int32) × (Nat → Int32) × (Int32)) => some (.int (u.2.2.2.2.2.2.2.2.2.2.2.2.2.2.2))) (fun (u : (Int32) × (Int32) × (Int32) × (Int32) × (Int32) × (Int32) × (Int32) × (Nat → Int32) × (Nat → Int32) × (Nat → Int32) × (Nat → Int32) × (Nat → Int32) × (Nat → Int32) × (Nat → Int32) × (Nat → Int32) × (Int32)) => (0 ≤ (u.1).toInt ∧ (u.1).toInt ≤ 80) ∧ (0 ≤ (u.2.1).toInt ∧ (u.2.1).toInt ≤ 60) ∧ (0 ≤ (u.2.2.1).toInt ∧ (u.2.2.1).toInt ≤ 60) ∧ (0 ≤ (u.2.2.2.1).toInt ∧ (u.2.2.2.1).toInt ≤ 60) ∧ (0 ≤ (u.2.2.2.2.1).toInt ∧ (u.2.2.2.2.1).toInt ≤ 8) ∧ (0 ≤ (u.2.2.2.2.2.2.1).toInt ∧ (u.2.2.2.2.2.2.1).toInt ≤ 1) ∧ (∀ j : Nat, 0 ≤ ((u.2.2.2.2.2.2.2.2.1) j).toInt ∧ ((u.2.2.2.2.2.2.2.2.1) j).toInt ≤ 60) ∧ (sb_Fit (u.2.2.2.2.2.2.2.2.2.1)) ∧ (0 ≤ (u.2.2.2.2.2.2.2.2.2.2.2.2.2.2.2).toInt ∧ (u.2.2.2.2.2.2.2.2.2.2.2.2.2.2.2).toInt ≤ 1)) (fun (u : (Int32) × (Int32) × (Int32) × (Int32) × (Int32) × (Int32) × (Int32) × (Nat → Int32) × (Nat → Int32) × (Nat → Int32) × (Nat → Int32) × (Nat → Int32) × (Nat → Int32) × (Nat → Int32) × (Nat → Int32) × (Int32)) => [(a0, .inr (7, [.ref a1, .int (u.1), .ref a2, .ref a3, .ref a4, .ref a5, .ref a6, .ref a7, .ref a8, .int x3, .int x4, .int x5, .int x6, .int x7, .int x8, .int x9, .ref a9, .ref a10, .ref a11, .ref a12, .ref a13, .ref a14, .int (u.2.1), .int (u.2.2.1), .int (u.2.2.2.1), .int (u.2.2.2.2.1), .int (u.2.2.2.2.2.1), .int (u.2.2.2.2.2.2.1)])), (a1, .inl (k0, 80, .inl f0)), (a2, .inl (k1, 89, .inl (u.2.2.2.2.2.2.2.1))), (a3, .inl (k2, 89, .inl (u.2.2.2.2.2.2.2.2.1))), (a4, .inl (k3, 5340, .inl (u.2.2.2.2.2.2.2.2.2.1))), (a5, .inl (k4, 6, .inl (u.2.2.2.2.2.2.2.2.2.2.1))), (a6, .inl (k5, 6, .inl f5)), (a11, .inl (k6, 60, .inl (u.2.2.2.2.2.2.2.2.2.2.2.1))), (a12, .inl (k7, 60, .inl (u.2.2.2.2.2.2.2.2.2.2.2.2.1))), (a13, .inl (k8, 60, .inl (u.2.2.2.2.2.2.2.2.2.2.2.2.2.1))), (a14, .inl (k9, 60, .inl (u.2.2.2.2.2.2.2.2.2.2.2.2.2.2.1)))]) (fun (u : (Int32) × (Int32) × (Int32) × (Int32) × (Int32) × (Int32) × (Int32) × (Nat → Int32) × (Nat → Int32) × (Nat → Int32) × (Nat → Int32) × (Nat → Int32) × (Nat → Int32) × (Nat → Int32) × (Nat → Int32) × (Int32)) => []) := by
  refine ka_E_of (cc := cX7_law) (maxL := 3) (ret := (some .boolean)) (by decide) rfl (Nat.le_of_ble_eq_true rfl) ?_
  intro p e s m below meth c ls A C hr hlk hin hP hK hD hS hA hE hN hl
  have C : CallFix p m c cX7_law 3 s [.ref a0, .int x0, .int x1].toArray wsX7_law RX7 := C
  obtain ⟨hx, hb, hml, hown, hts⟩ := id C
  have hl : lv_has ls 3 [(0, .ref a0), (1, .int x0), (2, .int x1)] := hl
  have rx0 := ka_rng x0
  have rx1 := ka_rng x1
  have rx2 := ka_rng x2
  have rx3 := ka_rng x3
  have rx4 := ka_rng x4
  have rx5 := ka_rng x5
  have rx6 := ka_rng x6
  have rx7 := ka_rng x7
  have rx8 := ka_rng x8
  have rx9 := ka_rng x9
  have rx10 := ka_rng x10
  have rx11 := ka_rng x11
  have rx12 := ka_rng x12
  have rx13 := ka_rng x13
  have rx14 := ka_rng x14
  have rx15 := ka_rng x15
  rcases (show x0.toInt ≤ -1 ∨ (0 ≤ x0.toInt ∧ x0.toInt ≤ 5) ∨ 6 ≤ x0.toInt by omega) with y_33452 | y_33452 | y_33452
  · skip
    rcases (show x1.toInt ≤ -1 ∨ (0 ≤ x1.toInt ∧ x1.toInt ≤ 60) ∨ 61 ≤ x1.toInt by omega) with y_33453 | y_33453 | y_33453
    · skip
      refine lv_aload_n hx hb dX7_law_0 rfl (lv_at hl 0 rfl) ?_
      refine lv_iload_n hx hb dX7_law_1 rfl (lv_at hl 1 rfl) ?_
      refine lv_iload_n hx hb dX7_law_2 rfl (lv_at hl 2 rfl) ?_
      refine ka_RV (n := 2) C (cr_X7_isOpenFor_415 l D F a0 x0 x1 (by omega) (by omega)) gX7_law_X7_isOpenFor rfl (by decide +kernel) ⟨Nat.le_of_ble_eq_true rfl, Nat.le_of_ble_eq_true rfl⟩ hK hP hS hE hN [] rfl [] rfl (ci := 7) rfl rfl 0 rfl rfl hl.1 (rest := []) rfl (Nat.le_of_ble_eq_true rfl) dX7_law_3 ⟨Nat.le_of_ble_eq_true rfl, Nat.le_of_ble_eq_true rfl⟩ (fun v hv => ?_)
      subst hv
      refine ka_stk (w := [.int 0]) rfl ?_
      refine lv_if_eq (tgt := 17) hx hb dX7_law_6 (by decide) (fun _ => ?_) (fun c_ => absurd (by decide) c_)
      refine lv_iconst (v := 0) hx hb dX7_law_17 (by decide) ?_
      exact ka_rEz C hr hlk rfl (Nat.le_of_ble_eq_true rfl) (Nat.le_of_ble_eq_true rfl) hS (ka_qE (x2, x10, x11, x12, x13, x14, x15, f1, f2, f3, f4, f6, f7, f8, f9, 0) rfl ⟨(show 0 ≤ x2.toInt ∧ x2.toInt ≤ 80 from ⟨by omega, by omega⟩), (show 0 ≤ x10.toInt ∧ x10.toInt ≤ 60 from ⟨by omega, by omega⟩), (show 0 ≤ x11.toInt ∧ x11.toInt ≤ 60 from ⟨by omega, by omega⟩), (show 0 ≤ x12.toInt ∧ x12.toInt ≤ 60 from ⟨by omega, by omega⟩), (show 0 ≤ x13.toInt ∧ x13.toInt ≤ 8 from ⟨by omega, by omega⟩), (show 0 ≤ x15.toInt ∧ x15.toInt ≤ 1 from ⟨by omega, by omega⟩), hf2, hf3, (show 0 ≤ ((0 : Int32)).toInt ∧ ((0 : Int32)).toInt ≤ 1 from ⟨by decide, by decide⟩)⟩ hK hP hD hS [0, 1, 2, 3, 4, 5, 6, 7, 8, 9, 10] (by decide) rfl [] rfl) dX7_law_18
    · skip
      refine lv_aload_n hx hb dX7_law_0 rfl (lv_at hl 0 rfl) ?_
      refine lv_iload_n hx hb dX7_law_1 rfl (lv_at hl 1 rfl) ?_
      refine lv_iload_n hx hb dX7_law_2 rfl (lv_at hl 2 rfl) ?_
      refine ka_RV (n := 2) C (cr_X7_isOpenFor_417 l D F a0 x0 x1 (by omega) ⟨by omega, by omega⟩) gX7_law_X7_isOpenFor rfl (by decide +kernel) ⟨Nat.le_of_ble_eq_true rfl, Nat.le_of_ble_eq_true rfl⟩ hK hP hS hE hN [] rfl [] rfl (ci := 7) rfl rfl 0 rfl rfl hl.1 (rest := []) rfl (Nat.le_of_ble_eq_true rfl) dX7_law_3 ⟨Nat.le_of_ble_eq_true rfl, Nat.le_of_ble_eq_true rfl⟩ (fun v hv => ?_)
      subst hv
      refine ka_stk (w := [.int 0]) rfl ?_
      refine lv_if_eq (tgt := 17) hx hb dX7_law_6 (by decide) (fun _ => ?_) (fun c_ => absurd (by decide) c_)
      refine lv_iconst (v := 0) hx hb dX7_law_17 (by decide) ?_
      exact ka_rEz C hr hlk rfl (Nat.le_of_ble_eq_true rfl) (Nat.le_of_ble_eq_true rfl) hS (ka_qE (x2, x10, x11, x12, x13, x14, x15, f1, f2, f3, f4, f6, f7, f8, f9, 0) rfl ⟨(show 0 ≤ x2.toInt ∧ x2.toInt ≤ 80 from ⟨by omega, by omega⟩), (show 0 ≤ x10.toInt ∧ x10.toInt ≤ 60 from ⟨by omega, by omega⟩), (show 0 ≤ x11.toInt ∧ x11.toInt ≤ 60 from ⟨by omega, by omega⟩), (show 0 ≤ x12.toInt ∧ x12.toInt ≤ 60 from ⟨by omega, by omega⟩), (show 0 ≤ x13.toInt ∧ x13.toInt ≤ 8 from ⟨by omega, by omega⟩), (show 0 ≤ x15.toInt ∧ x15.toInt ≤ 1 from ⟨by omega, by omega⟩), hf2, hf3, (show 0 ≤ ((0 : Int32)).toInt ∧ ((0 : Int32)).toInt ≤ 1 from ⟨by decide, by decide⟩)⟩ hK hP hD hS [0, 1, 2, 3, 4, 5, 6, 7, 8, 9, 10] (by decide) rfl [] rfl) dX7_law_18
    · skip
      refine lv_aload_n hx hb dX7_law_0 rfl (lv_at hl 0 rfl) ?_
      refine lv_iload_n hx hb dX7_law_1 rfl (lv_at hl 1 rfl) ?_
      refine lv_iload_n hx hb dX7_law_2 rfl (lv_at hl 2 rfl) ?_
      refine ka_RV (n := 2) C (cr_X7_isOpenFor_418 l D F a0 x0 x1 (by omega) (by omega)) gX7_law_X7_isOpenFor rfl (by decide +kernel) ⟨Nat.le_of_ble_eq_true rfl, Nat.le_of_ble_eq_true rfl⟩ hK hP hS hE hN [] rfl [] rfl (ci := 7) rfl rfl 0 rfl rfl hl.1 (rest := []) rfl (Nat.le_of_ble_eq_true rfl) dX7_law_3 ⟨Nat.le_of_ble_eq_true rfl, Nat.le_of_ble_eq_true rfl⟩ (fun v hv => ?_)
      subst hv
      refine ka_stk (w := [.int 0]) rfl ?_
      refine lv_if_eq (tgt := 17) hx hb dX7_law_6 (by decide) (fun _ => ?_) (fun c_ => absurd (by decide) c_)
      refine lv_iconst (v := 0) hx hb dX7_law_17 (by decide) ?_
      exact ka_rEz C hr hlk rfl (Nat.le_of_ble_eq_true rfl) (Nat.le_of_ble_eq_true rfl) hS (ka_qE (x2, x10, x11, x12, x13, x14, x15, f1, f2, f3, f4, f6, f7, f8, f9, 0) rfl ⟨(show 0 ≤ x2.toInt ∧ x2.toInt ≤ 80 from ⟨by omega, by omega⟩), (show 0 ≤ x10.toInt ∧ x10.toInt ≤ 60 from ⟨by omega, by omega⟩), (show 0 ≤ x11.toInt ∧ x11.toInt ≤ 60 from ⟨by omega, by omega⟩), (show 0 ≤ x12.toInt ∧ x12.toInt ≤ 60 from ⟨by omega, by omega⟩), (show 0 ≤ x13.toInt ∧ x13.toInt ≤ 8 from ⟨by omega, by omega⟩), (show 0 ≤ x15.toInt ∧ x15.toInt ≤ 1 from ⟨by omega, by omega⟩), hf2, hf3, (show 0 ≤ ((0 : Int32)).toInt ∧ ((0 : Int32)).toInt ≤ 1 from ⟨by decide, by decide⟩)⟩ hK hP hD hS [0, 1, 2, 3, 4, 5, 6, 7, 8, 9, 10] (by decide) rfl [] rfl) dX7_law_18
  · skip
    rcases (show x1.toInt ≤ -1 ∨ (0 ≤ x1.toInt ∧ x1.toInt ≤ 60) ∨ 61 ≤ x1.toInt by omega) with y_33454 | y_33454 | y_33454
    · skip
      refine lv_aload_n hx hb dX7_law_0 rfl (lv_at hl 0 rfl) ?_
      refine lv_iload_n hx hb dX7_law_1 rfl (lv_at hl 1 rfl) ?_
      refine lv_iload_n hx hb dX7_law_2 rfl (lv_at hl 2 rfl) ?_
      refine ka_RV (n := 2) C (cr_X7_isOpenFor_421 l D F a0 x0 x1 a1 x2 a2 a3 a4 a5 a6 a7 a8 x3 x4 x5 x6 x7 x8 x9 a9 a10 a11 a12 a13 a14 x10 x11 x12 x13 x14 x15 k5 f5 ⟨by omega, by omega⟩ (by omega) ⟨by omega, by omega⟩ ⟨by omega, by omega⟩ ⟨by omega, by omega⟩ ⟨by omega, by omega⟩ ⟨by omega, by omega⟩ ⟨by omega, by omega⟩ ⟨by omega, by omega⟩ ⟨by omega, by omega⟩ ⟨by omega, by omega⟩ ⟨by omega, by omega⟩) gX7_law_X7_isOpenFor rfl (by decide +kernel) ⟨Nat.le_of_ble_eq_true rfl, Nat.le_of_ble_eq_true rfl⟩ hK hP hS hE hN [0, 6] rfl [5] rfl (ci := 7) rfl rfl 0 rfl rfl hl.1 (rest := []) rfl (Nat.le_of_ble_eq_true rfl) dX7_law_3 ⟨Nat.le_of_ble_eq_true rfl, Nat.le_of_ble_eq_true rfl⟩ (fun v hv => ?_)
      subst hv
      refine ka_stk (w := [.int 0]) rfl ?_
      refine lv_if_eq (tgt := 17) hx hb dX7_law_6 (by decide) (fun _ => ?_) (fun c_ => absurd (by decide) c_)
      refine lv_iconst (v := 0) hx hb dX7_law_17 (by decide) ?_
      exact ka_rEz C hr hlk rfl (Nat.le_of_ble_eq_true rfl) (Nat.le_of_ble_eq_true rfl) hS (ka_qE (x2, x10, x11, x12, x13, x14, x15, f1, f2, f3, f4, f6, f7, f8, f9, 0) rfl ⟨(show 0 ≤ x2.toInt ∧ x2.toInt ≤ 80 from ⟨by omega, by omega⟩), (show 0 ≤ x10.toInt ∧ x10.toInt ≤ 60 from ⟨by omega, by omega⟩), (show 0 ≤ x11.toInt ∧ x11.toInt ≤ 60 from ⟨by omega, by omega⟩), (show 0 ≤ x12.toInt ∧ x12.toInt ≤ 60 from ⟨by omega, by omega⟩), (show 0 ≤ x13.toInt ∧ x13.toInt ≤ 8 from ⟨by omega, by omega⟩), (show 0 ≤ x15.toInt ∧ x15.toInt ≤ 1 from ⟨by omega, by omega⟩), hf2, hf3, (show 0 ≤ ((0 : Int32)).toInt ∧ ((0 : Int32)).toInt ≤ 1 from ⟨by decide, by decide⟩)⟩ hK hP hD hS [0, 1, 2, 3, 4, 5, 6, 7, 8, 9, 10] (by decide) rfl [] rfl) dX7_law_18
    · skip
      refine lv_aload_n hx hb dX7_law_0 rfl (lv_at hl 0 rfl) ?_
      refine lv_iload_n hx hb dX7_law_1 rfl (lv_at hl 1 rfl) ?_
      refine lv_iload_n hx hb dX7_law_2 rfl (lv_at hl 2 rfl) ?_
      refine ka_RV (n := 2) C (cr_X7_isOpenFor_424 l D F a0 x0 x1 a1 x2 a2 a3 a4 a5 a6 a7 a8 x3 x4 x5 x6 x7 x8 x9 a9 a10 a11 a12 a13 a14 x10 x11 x12 x13 x14 x15 k5 f5 ⟨by omega, by omega⟩ ⟨by omega, by omega⟩ ⟨by omega, by omega⟩ ⟨by omega, by omega⟩ ⟨by omega, by omega⟩ ⟨by omega, by omega⟩ ⟨by omega, by omega⟩ ⟨by omega, by omega⟩ ⟨by omega, by omega⟩ ⟨by omega, by omega⟩ ⟨by omega, by omega⟩ ⟨by omega, by omega⟩) gX7_law_X7_isOpenFor rfl (by decide +kernel) ⟨Nat.le_of_ble_eq_true rfl, Nat.le_of_ble_eq_true rfl⟩ hK hP hS hE hN [0, 6] rfl [5] rfl (ci := 7) rfl rfl 0 rfl rfl hl.1 (rest := []) rfl (Nat.le_of_ble_eq_true rfl) dX7_law_3 ⟨Nat.le_of_ble_eq_true rfl, Nat.le_of_ble_eq_true rfl⟩ (fun v hv => ?_)
      obtain ⟨v_33455, rfl, hv_33455⟩ := hv
      have rv_33455 := ka_rng v_33455
      refine ka_stk (w := [.int v_33455]) rfl ?_
      refine lv_if_eq (tgt := 17) hx hb dX7_law_6 (by decide) (fun c_33456 => ?_) (fun c_33456 => ?_)
      · have c_33456 : v_33455.toInt = 0 := by rw [ka_eq', show ((0 : Int32)).toInt = 0 from by decide] at c_33456; exact c_33456
        refine lv_iconst (v := 0) hx hb dX7_law_17 (by decide) ?_
        exact ka_rEz C hr hlk rfl (Nat.le_of_ble_eq_true rfl) (Nat.le_of_ble_eq_true rfl) hS (ka_qE (x2, x10, x11, x12, x13, x14, x15, f1, f2, f3, f4, f6, f7, f8, f9, 0) rfl ⟨(show 0 ≤ x2.toInt ∧ x2.toInt ≤ 80 from ⟨by omega, by omega⟩), (show 0 ≤ x10.toInt ∧ x10.toInt ≤ 60 from ⟨by omega, by omega⟩), (show 0 ≤ x11.toInt ∧ x11.toInt ≤ 60 from ⟨by omega, by omega⟩), (show 0 ≤ x12.toInt ∧ x12.toInt ≤ 60 from ⟨by omega, by omega⟩), (show 0 ≤ x13.toInt ∧ x13.toInt ≤ 8 from ⟨by omega, by omega⟩), (show 0 ≤ x15.toInt ∧ x15.toInt ≤ 1 from ⟨by omega, by omega⟩), hf2, hf3, (show 0 ≤ ((0 : Int32)).toInt ∧ ((0 : Int32)).toInt ≤ 1 from ⟨by decide, by decide⟩)⟩ hK hP hD hS [0, 1, 2, 3, 4, 5, 6, 7, 8, 9, 10] (by decide) rfl [] rfl) dX7_law_18
      · have c_33456 : ¬ v_33455.toInt = 0 := by rw [ka_eq', show ((0 : Int32)).toInt = 0 from by decide] at c_33456; exact c_33456
        refine lv_aload_n hx hb dX7_law_9 rfl (lv_at hl 0 rfl) ?_
        refine lv_iload_n hx hb dX7_law_10 rfl (lv_at hl 2 rfl) ?_
        refine ka_EV (n := 1) (wr := [(a5, .inl (k4, 6, .inl f4)), (a6, .inl (k5, 6, .inl f5))]) C (cr_X7_reads_414 l D F a0 x1 a1 x2 a2 a3 a4 a5 a6 a7 a8 x3 x4 x5 x6 x7 x8 x9 a9 a10 a11 a12 a13 a14 x10 x11 x12 x13 x14 x15 k0 f0 k1 f1 k2 f2 k3 f3 k6 f6 k7 f7 k8 f8 k9 f9 ⟨by omega, by omega⟩ ⟨by omega, by omega⟩ ⟨by omega, by omega⟩ ⟨by omega, by omega⟩ ⟨by omega, by omega⟩ ⟨by omega, by omega⟩ ⟨by omega, by omega⟩ ⟨by omega, by omega⟩ ⟨by omega, by omega⟩ ⟨by omega, by omega⟩ ⟨by omega, by omega⟩ hf0 hf2 hf3) gX7_law_X7_reads rfl (by decide +kernel) ⟨Nat.le_of_ble_eq_true rfl, Nat.le_of_ble_eq_true rfl⟩ hK hP hD hS hA hE hN [0, 1, 2, 3, 4, 7, 8, 9, 10] rfl (by decide) [5, 6] rfl (by decide) (by decide) [0, 1, 2, 3, 6, 7, 8, 9] rfl (ci := 7) rfl rfl 0 rfl rfl hl.1 (rest := []) rfl (Nat.le_of_ble_eq_true rfl) dX7_law_11 ⟨Nat.le_of_ble_eq_true rfl, Nat.le_of_ble_eq_true rfl⟩ (fun u H locs hq hP hD hK hS => ?_)
        obtain ⟨v_33457, v_33458, v_33459, v_33460, v_33461, g_33462, g_33463, g_33464, g_33465, g_33466, g_33467, g_33468, v_33469⟩ := u
        have hq : (0 ≤ v_33457.toInt ∧ v_33457.toInt ≤ 60) ∧ (0 ≤ v_33458.toInt ∧ v_33458.toInt ≤ 60) ∧ (0 ≤ v_33459.toInt ∧ v_33459.toInt ≤ 8) ∧ (0 ≤ v_33461.toInt ∧ v_33461.toInt ≤ 1) ∧ (∀ j : Nat, 0 ≤ (g_33463 j).toInt ∧ (g_33463 j).toInt ≤ 60) ∧ (sb_Fit g_33464) ∧ (0 ≤ v_33469.toInt ∧ v_33469.toInt ≤ 1) := hq
        obtain ⟨hv_33457, hv_33458, hv_33459, hv_33461, hg_33463, hg_33464, hv_33469⟩ := hq
        have rv_33457 := ka_rng v_33457
        have rv_33458 := ka_rng v_33458
        have rv_33459 := ka_rng v_33459
        have rv_33460 := ka_rng v_33460
        have rv_33461 := ka_rng v_33461
        have rv_33469 := ka_rng v_33469
        have hP : va_P D vwCl [(a5, .inl (k4, 6, .inl f4)), (a6, .inl (k5, 6, .inl f5)), (a0, .inr (7, [.ref a1, .int 0, .ref a2, .ref a3, .ref a4, .ref a5, .ref a6, .ref a7, .ref a8, .int x3, .int x4, .int x5, .int x6, .int x7, .int x8, .int x9, .ref a9, .ref a10, .ref a11, .ref a12, .ref a13, .ref a14, .int v_33457, .int v_33458, .int x1, .int v_33459, .int v_33460, .int v_33461])), (a1, .inl (k0, 80, .inl f0)), (a2, .inl (k1, 89, .inl g_33462)), (a3, .inl (k2, 89, .inl g_33463)), (a4, .inl (k3, 5340, .inl g_33464)), (a11, .inl (k6, 60, .inl g_33465)), (a12, .inl (k7, 60, .inl g_33466)), (a13, .inl (k8, 60, .inl g_33467)), (a14, .inl (k9, 60, .inl g_33468))] H := hP
        have hD : va_D A [(a5, .inl (k4, 6, .inl f4)), (a6, .inl (k5, 6, .inl f5)), (a0, .inr (7, [.ref a1, .int 0, .ref a2, .ref a3, .ref a4, .ref a5, .ref a6, .ref a7, .ref a8, .int x3, .int x4, .int x5, .int x6, .int x7, .int x8, .int x9, .ref a9, .ref a10, .ref a11, .ref a12, .ref a13, .ref a14, .int v_33457, .int v_33458, .int x1, .int v_33459, .int v_33460, .int v_33461])), (a1, .inl (k0, 80, .inl f0)), (a2, .inl (k1, 89, .inl g_33462)), (a3, .inl (k2, 89, .inl g_33463)), (a4, .inl (k3, 5340, .inl g_33464)), (a11, .inl (k6, 60, .inl g_33465)), (a12, .inl (k7, 60, .inl g_33466)), (a13, .inl (k8, 60, .inl g_33467)), (a14, .inl (k9, 60, .inl g_33468))] := hD
        have hK : va_K D vwCl [(k0, .byte), (k1, .int), (k2, .int), (k3, .byte), (k4, .boolean), (k5, .boolean), (k6, .int), (k7, .int), (k8, .int), (k9, .int)] s := by simpa using hK
        refine ka_stk (w := [.int v_33469]) rfl ?_
        refine lv_if_ne (tgt := 19) hx hb dX7_law_14 (by decide) (fun c_33470 => ?_) (fun c_33470 => ?_)
        · have c_33470 : ¬ v_33469.toInt = 0 := by rw [ka_eq', show ((0 : Int32)).toInt = 0 from by decide] at c_33470; exact c_33470
          refine lv_aload_n hx hb dX7_law_19 rfl (lv_at hl 0 rfl) ?_
          refine lv_iload_n hx hb dX7_law_20 rfl (lv_at hl 1 rfl) ?_
          refine ka_EV (n := 1) (wr := [(a5, .inl (k4, 6, .inl f4)), (a6, .inl (k5, 6, .inl f5)), (a1, .inl (k0, 80, .inl f0)), (a11, .inl (k6, 60, .inl g_33465)), (a12, .inl (k7, 60, .inl g_33466)), (a13, .inl (k8, 60, .inl g_33467)), (a14, .inl (k9, 60, .inl g_33468))]) C (cg_X7_keeps_380 l D F a0 x0 a1 0 a2 a3 a4 a5 a6 a7 a8 x3 x4 x5 x6 x7 x8 x9 a9 a10 a11 a12 a13 a14 v_33457 v_33458 x1 v_33459 v_33460 v_33461 k1 g_33462 k2 g_33463 k3 g_33464 ⟨by omega, by omega⟩ ⟨by decide, by decide⟩ ⟨by omega, by omega⟩ ⟨by omega, by omega⟩ ⟨by omega, by omega⟩ ⟨by omega, by omega⟩ ⟨by omega, by omega⟩ ⟨by omega, by omega⟩ ⟨by omega, by omega⟩ ⟨by omega, by omega⟩ ⟨by omega, by omega⟩ hg_33463 hg_33464) gX7_law_X7_keeps rfl (by decide +kernel) ⟨Nat.le_of_ble_eq_true rfl, Nat.le_of_ble_eq_true rfl⟩ hK hP hD hS hA hE hN [2, 4, 5, 6] rfl (by decide) [0, 1, 3, 7, 8, 9, 10] rfl (by decide) (by decide) [1, 2, 3] rfl (ci := 7) rfl rfl 2 rfl rfl hl.1 (rest := []) rfl (Nat.le_of_ble_eq_true rfl) dX7_law_21 ⟨Nat.le_of_ble_eq_true rfl, Nat.le_of_ble_eq_true rfl⟩ (fun u H locs hq hP hD hK hS => ?_)
          obtain ⟨g_33471, g_33472, g_33473⟩ := u
          have hq : (∀ j : Nat, 0 ≤ (g_33472 j).toInt ∧ (g_33472 j).toInt ≤ 60) ∧ (sb_Fit g_33473) := hq
          obtain ⟨hg_33472, hg_33473⟩ := hq
          have hP : va_P D vwCl [(a5, .inl (k4, 6, .inl f4)), (a6, .inl (k5, 6, .inl f5)), (a1, .inl (k0, 80, .inl f0)), (a11, .inl (k6, 60, .inl g_33465)), (a12, .inl (k7, 60, .inl g_33466)), (a13, .inl (k8, 60, .inl g_33467)), (a14, .inl (k9, 60, .inl g_33468)), (a0, .inr (7, [.ref a1, .int 0, .ref a2, .ref a3, .ref a4, .ref a5, .ref a6, .ref a7, .ref a8, .int x3, .int x4, .int x5, .int x6, .int x7, .int x8, .int x9, .ref a9, .ref a10, .ref a11, .ref a12, .ref a13, .ref a14, .int v_33457, .int v_33458, .int x1, .int v_33459, .int v_33460, .int v_33461])), (a2, .inl (k1, 89, .inl g_33471)), (a3, .inl (k2, 89, .inl g_33472)), (a4, .inl (k3, 5340, .inl g_33473))] H := hP
          have hD : va_D A [(a5, .inl (k4, 6, .inl f4)), (a6, .inl (k5, 6, .inl f5)), (a1, .inl (k0, 80, .inl f0)), (a11, .inl (k6, 60, .inl g_33465)), (a12, .inl (k7, 60, .inl g_33466)), (a13, .inl (k8, 60, .inl g_33467)), (a14, .inl (k9, 60, .inl g_33468)), (a0, .inr (7, [.ref a1, .int 0, .ref a2, .ref a3, .ref a4, .ref a5, .ref a6, .ref a7, .ref a8, .int x3, .int x4, .int x5, .int x6, .int x7, .int x8, .int x9, .ref a9, .ref a10, .ref a11, .ref a12, .ref a13, .ref a14, .int v_33457, .int v_33458, .int x1, .int v_33459, .int v_33460, .int v_33461])), (a2, .inl (k1, 89, .inl g_33471)), (a3, .inl (k2, 89, .inl g_33472)), (a4, .inl (k3, 5340, .inl g_33473))] := hD
          have hK : va_K D vwCl [(k0, .byte), (k1, .int), (k2, .int), (k3, .byte), (k4, .boolean), (k5, .boolean), (k6, .int), (k7, .int), (k8, .int), (k9, .int)] s := by simpa using hK
          refine ka_stk (w := []) rfl ?_
          refine lv_aload_n hx hb dX7_law_24 rfl (lv_at hl 0 rfl) ?_
          refine ka_get C lqr_442 rfl hK hP 7 rfl 5 (by decide) lqr_443 rfl dX7_law_25 ?_
          refine lv_iload_n hx hb dX7_law_28 rfl (lv_at hl 1 rfl) ?_
          refine lv_iconst (v := 1) hx hb dX7_law_29 (by decide) ?_
          refine va_zast hx hb hK hP hD hS 0 4 rfl rfl (ka_in (by omega) (by omega)) dX7_law_30 (fun H locs hP hD hS => ?_)
          have hP : va_P D vwCl [(a5, .inl (k4, 6, .inl (upd f4 (Int32.toNatClampNeg x0) (vp_nar .boolean 1)))), (a6, .inl (k5, 6, .inl f5)), (a1, .inl (k0, 80, .inl f0)), (a11, .inl (k6, 60, .inl g_33465)), (a12, .inl (k7, 60, .inl g_33466)), (a13, .inl (k8, 60, .inl g_33467)), (a14, .inl (k9, 60, .inl g_33468)), (a0, .inr (7, [.ref a1, .int 0, .ref a2, .ref a3, .ref a4, .ref a5, .ref a6, .ref a7, .ref a8, .int x3, .int x4, .int x5, .int x6, .int x7, .int x8, .int x9, .ref a9, .ref a10, .ref a11, .ref a12, .ref a13, .ref a14, .int v_33457, .int v_33458, .int x1, .int v_33459, .int v_33460, .int v_33461])), (a2, .inl (k1, 89, .inl g_33471)), (a3, .inl (k2, 89, .inl g_33472)), (a4, .inl (k3, 5340, .inl g_33473))] H := hP
          have hD : va_D A [(a5, .inl (k4, 6, .inl (upd f4 (Int32.toNatClampNeg x0) (vp_nar .boolean 1)))), (a6, .inl (k5, 6, .inl f5)), (a1, .inl (k0, 80, .inl f0)), (a11, .inl (k6, 60, .inl g_33465)), (a12, .inl (k7, 60, .inl g_33466)), (a13, .inl (k8, 60, .inl g_33467)), (a14, .inl (k9, 60, .inl g_33468)), (a0, .inr (7, [.ref a1, .int 0, .ref a2, .ref a3, .ref a4, .ref a5, .ref a6, .ref a7, .ref a8, .int x3, .int x4, .int x5, .int x6, .int x7, .int x8, .int x9, .ref a9, .ref a10, .ref a11, .ref a12, .ref a13, .ref a14, .int v_33457, .int v_33458, .int x1, .int v_33459, .int v_33460, .int v_33461])), (a2, .inl (k1, 89, .inl g_33471)), (a3, .inl (k2, 89, .inl g_33472)), (a4, .inl (k3, 5340, .inl g_33473))] := hD
          generalize (upd f4 (Int32.toNatClampNeg x0) (vp_nar .boolean 1)) = g_33474 at hP hD
          refine lv_iconst (v := 1) hx hb dX7_law_31 (by decide) ?_
          exact ka_rEz C hr hlk rfl (Nat.le_of_ble_eq_true rfl) (Nat.le_of_ble_eq_true rfl) hS (ka_qE (0, v_33457, v_33458, x1, v_33459, v_33460, v_33461, g_33471, g_33472, g_33473, g_33474, g_33465, g_33466, g_33467, g_33468, 1) rfl ⟨(show 0 ≤ ((0 : Int32)).toInt ∧ ((0 : Int32)).toInt ≤ 80 from ⟨by decide, by decide⟩), (show 0 ≤ v_33457.toInt ∧ v_33457.toInt ≤ 60 from ⟨by omega, by omega⟩), (show 0 ≤ v_33458.toInt ∧ v_33458.toInt ≤ 60 from ⟨by omega, by omega⟩), (show 0 ≤ x1.toInt ∧ x1.toInt ≤ 60 from ⟨by omega, by omega⟩), (show 0 ≤ v_33459.toInt ∧ v_33459.toInt ≤ 8 from ⟨by omega, by omega⟩), (show 0 ≤ v_33461.toInt ∧ v_33461.toInt ≤ 1 from ⟨by omega, by omega⟩), hg_33472, hg_33473, (show 0 ≤ ((1 : Int32)).toInt ∧ ((1 : Int32)).toInt ≤ 1 from ⟨by decide, by decide⟩)⟩ hK hP hD hS [7, 2, 8, 9, 10, 0, 1, 3, 4, 5, 6] (by decide) rfl [] rfl) dX7_law_32
        · have c_33470 : v_33469.toInt = 0 := by rw [ka_eq', show ((0 : Int32)).toInt = 0 from by decide] at c_33470; exact c_33470
          refine lv_iconst (v := 0) hx hb dX7_law_17 (by decide) ?_
          exact ka_rEz C hr hlk rfl (Nat.le_of_ble_eq_true rfl) (Nat.le_of_ble_eq_true rfl) hS (ka_qE (0, v_33457, v_33458, x1, v_33459, v_33460, v_33461, g_33462, g_33463, g_33464, f4, g_33465, g_33466, g_33467, g_33468, 0) rfl ⟨(show 0 ≤ ((0 : Int32)).toInt ∧ ((0 : Int32)).toInt ≤ 80 from ⟨by decide, by decide⟩), (show 0 ≤ v_33457.toInt ∧ v_33457.toInt ≤ 60 from ⟨by omega, by omega⟩), (show 0 ≤ v_33458.toInt ∧ v_33458.toInt ≤ 60 from ⟨by omega, by omega⟩), (show 0 ≤ x1.toInt ∧ x1.toInt ≤ 60 from ⟨by omega, by omega⟩), (show 0 ≤ v_33459.toInt ∧ v_33459.toInt ≤ 8 from ⟨by omega, by omega⟩), (show 0 ≤ v_33461.toInt ∧ v_33461.toInt ≤ 1 from ⟨by omega, by omega⟩), hg_33463, hg_33464, (show 0 ≤ ((0 : Int32)).toInt ∧ ((0 : Int32)).toInt ≤ 1 from ⟨by decide, by decide⟩)⟩ hK hP hD hS [2, 3, 4, 5, 6, 0, 1, 7, 8, 9, 10] (by decide) rfl [] rfl) dX7_law_18
    · skip
      refine lv_aload_n hx hb dX7_law_0 rfl (lv_at hl 0 rfl) ?_
      refine lv_iload_n hx hb dX7_law_1 rfl (lv_at hl 1 rfl) ?_
      refine lv_iload_n hx hb dX7_law_2 rfl (lv_at hl 2 rfl) ?_
      refine ka_RV (n := 2) C (cr_X7_isOpenFor_427 l D F a0 x0 x1 a1 x2 a2 a3 a4 a5 a6 a7 a8 x3 x4 x5 x6 x7 x8 x9 a9 a10 a11 a12 a13 a14 x10 x11 x12 x13 x14 x15 k5 f5 ⟨by omega, by omega⟩ (by omega) ⟨by omega, by omega⟩ ⟨by omega, by omega⟩ ⟨by omega, by omega⟩ ⟨by omega, by omega⟩ ⟨by omega, by omega⟩ ⟨by omega, by omega⟩ ⟨by omega, by omega⟩ ⟨by omega, by omega⟩ ⟨by omega, by omega⟩ ⟨by omega, by omega⟩) gX7_law_X7_isOpenFor rfl (by decide +kernel) ⟨Nat.le_of_ble_eq_true rfl, Nat.le_of_ble_eq_true rfl⟩ hK hP hS hE hN [0, 6] rfl [5] rfl (ci := 7) rfl rfl 0 rfl rfl hl.1 (rest := []) rfl (Nat.le_of_ble_eq_true rfl) dX7_law_3 ⟨Nat.le_of_ble_eq_true rfl, Nat.le_of_ble_eq_true rfl⟩ (fun v hv => ?_)
      subst hv
      refine ka_stk (w := [.int 0]) rfl ?_
      refine lv_if_eq (tgt := 17) hx hb dX7_law_6 (by decide) (fun _ => ?_) (fun c_ => absurd (by decide) c_)
      refine lv_iconst (v := 0) hx hb dX7_law_17 (by decide) ?_
      exact ka_rEz C hr hlk rfl (Nat.le_of_ble_eq_true rfl) (Nat.le_of_ble_eq_true rfl) hS (ka_qE (x2, x10, x11, x12, x13, x14, x15, f1, f2, f3, f4, f6, f7, f8, f9, 0) rfl ⟨(show 0 ≤ x2.toInt ∧ x2.toInt ≤ 80 from ⟨by omega, by omega⟩), (show 0 ≤ x10.toInt ∧ x10.toInt ≤ 60 from ⟨by omega, by omega⟩), (show 0 ≤ x11.toInt ∧ x11.toInt ≤ 60 from ⟨by omega, by omega⟩), (show 0 ≤ x12.toInt ∧ x12.toInt ≤ 60 from ⟨by omega, by omega⟩), (show 0 ≤ x13.toInt ∧ x13.toInt ≤ 8 from ⟨by omega, by omega⟩), (show 0 ≤ x15.toInt ∧ x15.toInt ≤ 1 from ⟨by omega, by omega⟩), hf2, hf3, (show 0 ≤ ((0 : Int32)).toInt ∧ ((0 : Int32)).toInt ≤ 1 from ⟨by decide, by decide⟩)⟩ hK hP hD hS [0, 1, 2, 3, 4, 5, 6, 7, 8, 9, 10] (by decide) rfl [] rfl) dX7_law_18
  · skip
    rcases (show x1.toInt ≤ -1 ∨ (0 ≤ x1.toInt ∧ x1.toInt ≤ 60) ∨ 61 ≤ x1.toInt by omega) with y_33475 | y_33475 | y_33475
    · skip
      refine lv_aload_n hx hb dX7_law_0 rfl (lv_at hl 0 rfl) ?_
      refine lv_iload_n hx hb dX7_law_1 rfl (lv_at hl 1 rfl) ?_
      refine lv_iload_n hx hb dX7_law_2 rfl (lv_at hl 2 rfl) ?_
      refine ka_RV (n := 2) C (cr_X7_isOpenFor_428 l D F a0 x0 x1 (by omega) (by omega)) gX7_law_X7_isOpenFor rfl (by decide +kernel) ⟨Nat.le_of_ble_eq_true rfl, Nat.le_of_ble_eq_true rfl⟩ hK hP hS hE hN [] rfl [] rfl (ci := 7) rfl rfl 0 rfl rfl hl.1 (rest := []) rfl (Nat.le_of_ble_eq_true rfl) dX7_law_3 ⟨Nat.le_of_ble_eq_true rfl, Nat.le_of_ble_eq_true rfl⟩ (fun v hv => ?_)
      subst hv
      refine ka_stk (w := [.int 0]) rfl ?_
      refine lv_if_eq (tgt := 17) hx hb dX7_law_6 (by decide) (fun _ => ?_) (fun c_ => absurd (by decide) c_)
      refine lv_iconst (v := 0) hx hb dX7_law_17 (by decide) ?_
      exact ka_rEz C hr hlk rfl (Nat.le_of_ble_eq_true rfl) (Nat.le_of_ble_eq_true rfl) hS (ka_qE (x2, x10, x11, x12, x13, x14, x15, f1, f2, f3, f4, f6, f7, f8, f9, 0) rfl ⟨(show 0 ≤ x2.toInt ∧ x2.toInt ≤ 80 from ⟨by omega, by omega⟩), (show 0 ≤ x10.toInt ∧ x10.toInt ≤ 60 from ⟨by omega, by omega⟩), (show 0 ≤ x11.toInt ∧ x11.toInt ≤ 60 from ⟨by omega, by omega⟩), (show 0 ≤ x12.toInt ∧ x12.toInt ≤ 60 from ⟨by omega, by omega⟩), (show 0 ≤ x13.toInt ∧ x13.toInt ≤ 8 from ⟨by omega, by omega⟩), (show 0 ≤ x15.toInt ∧ x15.toInt ≤ 1 from ⟨by omega, by omega⟩), hf2, hf3, (show 0 ≤ ((0 : Int32)).toInt ∧ ((0 : Int32)).toInt ≤ 1 from ⟨by decide, by decide⟩)⟩ hK hP hD hS [0, 1, 2, 3, 4, 5, 6, 7, 8, 9, 10] (by decide) rfl [] rfl) dX7_law_18
    · skip
      refine lv_aload_n hx hb dX7_law_0 rfl (lv_at hl 0 rfl) ?_
      refine lv_iload_n hx hb dX7_law_1 rfl (lv_at hl 1 rfl) ?_
      refine lv_iload_n hx hb dX7_law_2 rfl (lv_at hl 2 rfl) ?_
      refine ka_RV (n := 2) C (cr_X7_isOpenFor_430 l D F a0 x0 x1 (by omega) ⟨by omega, by omega⟩) gX7_law_X7_isOpenFor rfl (by decide +kernel) ⟨Nat.le_of_ble_eq_true rfl, Nat.le_of_ble_eq_true rfl⟩ hK hP hS hE hN [] rfl [] rfl (ci := 7) rfl rfl 0 rfl rfl hl.1 (rest := []) rfl (Nat.le_of_ble_eq_true rfl) dX7_law_3 ⟨Nat.le_of_ble_eq_true rfl, Nat.le_of_ble_eq_true rfl⟩ (fun v hv => ?_)
      subst hv
      refine ka_stk (w := [.int 0]) rfl ?_
      refine lv_if_eq (tgt := 17) hx hb dX7_law_6 (by decide) (fun _ => ?_) (fun c_ => absurd (by decide) c_)
      refine lv_iconst (v := 0) hx hb dX7_law_17 (by decide) ?_
      exact ka_rEz C hr hlk rfl (Nat.le_of_ble_eq_true rfl) (Nat.le_of_ble_eq_true rfl) hS (ka_qE (x2, x10, x11, x12, x13, x14, x15, f1, f2, f3, f4, f6, f7, f8, f9, 0) rfl ⟨(show 0 ≤ x2.toInt ∧ x2.toInt ≤ 80 from ⟨by omega, by omega⟩), (show 0 ≤ x10.toInt ∧ x10.toInt ≤ 60 from ⟨by omega, by omega⟩), (show 0 ≤ x11.toInt ∧ x11.toInt ≤ 60 from ⟨by omega, by omega⟩), (show 0 ≤ x12.toInt ∧ x12.toInt ≤ 60 from ⟨by omega, by omega⟩), (show 0 ≤ x13.toInt ∧ x13.toInt ≤ 8 from ⟨by omega, by omega⟩), (show 0 ≤ x15.toInt ∧ x15.toInt ≤ 1 from ⟨by omega, by omega⟩), hf2, hf3, (show 0 ≤ ((0 : Int32)).toInt ∧ ((0 : Int32)).toInt ≤ 1 from ⟨by decide, by decide⟩)⟩ hK hP hD hS [0, 1, 2, 3, 4, 5, 6, 7, 8, 9, 10] (by decide) rfl [] rfl) dX7_law_18
    · skip
      refine lv_aload_n hx hb dX7_law_0 rfl (lv_at hl 0 rfl) ?_
      refine lv_iload_n hx hb dX7_law_1 rfl (lv_at hl 1 rfl) ?_
      refine lv_iload_n hx hb dX7_law_2 rfl (lv_at hl 2 rfl) ?_
      refine ka_RV (n := 2) C (cr_X7_isOpenFor_431 l D F a0 x0 x1 (by omega) (by omega)) gX7_law_X7_isOpenFor rfl (by decide +kernel) ⟨Nat.le_of_ble_eq_true rfl, Nat.le_of_ble_eq_true rfl⟩ hK hP hS hE hN [] rfl [] rfl (ci := 7) rfl rfl 0 rfl rfl hl.1 (rest := []) rfl (Nat.le_of_ble_eq_true rfl) dX7_law_3 ⟨Nat.le_of_ble_eq_true rfl, Nat.le_of_ble_eq_true rfl⟩ (fun v hv => ?_)
      subst hv
      refine ka_stk (w := [.int 0]) rfl ?_
      refine lv_if_eq (tgt := 17) hx hb dX7_law_6 (by decide) (fun _ => ?_) (fun c_ => absurd (by decide) c_)
      refine lv_iconst (v := 0) hx hb dX7_law_17 (by decide) ?_
      exact ka_rEz C hr hlk rfl (Nat.le_of_ble_eq_true rfl) (Nat.le_of_ble_eq_true rfl) hS (ka_qE (x2, x10, x11, x12, x13, x14, x15, f1, f2, f3, f4, f6, f7, f8, f9, 0) rfl ⟨(show 0 ≤ x2.toInt ∧ x2.toInt ≤ 80 from ⟨by omega, by omega⟩), (show 0 ≤ x10.toInt ∧ x10.toInt ≤ 60 from ⟨by omega, by omega⟩), (show 0 ≤ x11.toInt ∧ x11.toInt ≤ 60 from ⟨by omega, by omega⟩), (show 0 ≤ x12.toInt ∧ x12.toInt ≤ 60 from ⟨by omega, by omega⟩), (show 0 ≤ x13.toInt ∧ x13.toInt ≤ 8 from ⟨by omega, by omega⟩), (show 0 ≤ x15.toInt ∧ x15.toInt ≤ 1 from ⟨by omega, by omega⟩), hf2, hf3, (show 0 ≤ ((0 : Int32)).toInt ∧ ((0 : Int32)).toInt ≤ 1 from ⟨by decide, by decide⟩)⟩ hK hP hD hS [0, 1, 2, 3, 4, 5, 6, 7, 8, 9, 10] (by decide) rfl [] rfl) dX7_law_18
theorem lqr_444 : ∀ w ∈ wsX70, w ∈ wsX7_picture := by decide +kernel
theorem lqr_445 : Cond.fieldLink RX7 33 "AskedBackModel" "pictures" "[I" ∈ wsX7_picture := by decide +kernel
set_option maxHeartbeats 4000000 in
set_option maxRecDepth 100000 in
theorem cr_X7_picture_433 (l : Launch) (D : va_G) (F : Nat → Prop) (a0 : Nat) (x0 : Int32) (x1 : Int32) (a1 : Nat) (x2 : Int32) (a2 : Nat) (a3 : Nat) (a4 : Nat) (a5 : Nat) (a6 : Nat) (a7 : Nat) (a8 : Nat) (x3 : Int32) (x4 : Int32) (x5 : Int32) (x6 : Int32) (x7 : Int32) (x8 : Int32) (x9 : Int32) (a9 : Nat) (a10 : Nat) (a11 : Nat) (a12 : Nat) (a13 : Nat) (a14 : Nat) (x10 : Int32) (x11 : Int32) (x12 : Int32) (x13 : Int32) (x14 : Int32) (x15 : Int32) (k0 : ClassId) (f0 : Nat → Int32) (k1 : ClassId) (f1 : Nat → Int32) (k2 : ClassId) (f2 : Nat → Int32) (k3 : ClassId) (f3 : Nat → Int32) (k4 : ClassId) (f4 : Nat → Int32) (k5 : ClassId) (f5 : Nat → Int32) (k6 : ClassId) (f6 : Nat → Int32) (k7 : ClassId) (f7 : Nat → Int32) (k8 : ClassId) (f8 : Nat → Int32) (k9 : ClassId) (f9 : Nat → Int32) (hx2 : 0 ≤ x2.toInt ∧ x2.toInt ≤ 80) (hx3 : -1 ≤ x3.toInt ∧ x3.toInt ≤ 5) (hx6 : 1 ≤ x6.toInt ∧ x6.toInt ≤ 8) (hx7 : 0 ≤ x7.toInt ∧ x7.toInt ≤ 40) (hx9 : 0 ≤ x9.toInt ∧ x9.toInt ≤ 10) (hx10 : 0 ≤ x10.toInt ∧ x10.toInt ≤ 60) (hx11 : 0 ≤ x11.toInt ∧ x11.toInt ≤ 60) (hx12 : 0 ≤ x12.toInt ∧ x12.toInt ≤ 60) (hx13 : 0 ≤ x13.toInt ∧ x13.toInt ≤ 8) (hx15 : 0 ≤ x15.toInt ∧ x15.toInt ≤ 1) (hf0 : sb_Fit f0) (hf2 : ∀ j : Nat, 0 ≤ (f2 j).toInt ∧ (f2 j).toInt ≤ 60) (hf3 : sb_Fit f3) (hf5 : ∀ j : Nat, 0 ≤ (f5 j).toInt ∧ (f5 j).toInt ≤ 12) : ka_E l D F yX7_picture wsX7_picture 144 3596 0 0 [.ref a0, .int x0, .int x1] [(a0, .inr (7, [.ref a1, .int x2, .ref a2, .ref a3, .ref a4, .ref a5, .ref a6, .ref a7, .ref a8, .int x3, .int x4, .int x5, .int x6, .int x7, .int x8, .int x9, .ref a9, .ref a10, .ref a11, .ref a12, .ref a13, .ref a14, .int x10, .int x11, .int x12, .int x13, .int x14, .int x15])), (a1, .inl (k0, 80, .inl f0)), (a2, .inl (k1, 89, .inl f1)), (a3, .inl (k2, 89, .inl f2)), (a4, .inl (k3, 5340, .inl f3)), (a6, .inl (k4, 6, .inl f4)), (a8, .inl (k5, 6, .inl f5)), (a11, .inl (k6, 60, .inl f6)), (a12, .inl (k7, 60, .inl f7)), (a13, .inl (k8, 60, .inl f8)), (a14, .inl (k9, 60, .inl f9))] [(k0, .byte), (k1, .int), (k2, .int), (k3, .byte), (k4, .boolean), (k5, .int), (k6, .int), (k7, .int), (k8, .int), (k9, .int)] (fun (u : (Int32) × (Int32) × (Int32) × (Int32) × (Int32) × (Int32) × (Int32) × (Nat → Int32) × (Nat → Int32) × (Nat → Int32) × (Nat → Int32) × (Nat → Int32) × (Nat → Int32) × (Nat → Int32) × (Nat → Int32) × (Int32)) => some (.int (u.2.2.2.2.2.2.2.2.2.2.2.2.2.2.2))) (fun (u : (Int32) × (Int32) × (Int32) × (Int32) × (Int32) × (Int32) × (Int32) × (Nat → Int32) × (Nat → Int32) × (Nat → Int32) × (Nat → Int32) × (Nat → Int32) × (Nat → Int32) × (Nat → Int32) × (Nat → Int32) × (Int32)) => (0 ≤ (u.1).toInt ∧ (u.1).toInt ≤ 80) ∧ (0 ≤ (u.2.1).toInt ∧ (u.2.1).toInt ≤ 60) ∧ (0 ≤ (u.2.2.1).toInt ∧ (u.2.2.1).toInt ≤ 60) ∧ (0 ≤ (u.2.2.2.1).toInt ∧ (u.2.2.2.1).toInt ≤ 60) ∧ (0 ≤ (u.2.2.2.2.1).toInt ∧ (u.2.2.2.2.1).toInt ≤ 8) ∧ (0 ≤ (u.2.2.2.2.2.2.1).toInt ∧ (u.2.2.2.2.2.2.1).toInt ≤ 1) ∧ (∀ j : Nat, 0 ≤ ((u.2.2.2.2.2.2.2.2.1) j).toInt ∧ ((u.2.2.2.2.2.2.2.2.1) j).toInt ≤ 60) ∧ (sb_Fit (u.2.2.2.2.2.2.2.2.2.1)) ∧ (∀ j : Nat, 0 ≤ ((u.2.2.2.2.2.2.2.2.2.2.1) j).toInt ∧ ((u.2.2.2.2.2.2.2.2.2.2.1) j).toInt ≤ 12) ∧ (-2 ≤ (u.2.2.2.2.2.2.2.2.2.2.2.2.2.2.2).toInt ∧ (u.2.2.2.2.2.2.2.2.2.2.2.2.2.2.2).toInt ≤ 11)) (fun (u : (Int32) × (Int32) × (Int32) × (Int32) × (Int32) × (Int32) × (Int32) × (Nat → Int32) × (Nat → Int32) × (Nat → Int32) × (Nat → Int32) × (Nat → Int32) × (Nat → Int32) × (Nat → Int32) × (Nat → Int32) × (Int32)) => [(a0, .inr (7, [.ref a1, .int (u.1), .ref a2, .ref a3, .ref a4, .ref a5, .ref a6, .ref a7, .ref a8, .int x3, .int x4, .int x5, .int x6, .int x7, .int x8, .int x9, .ref a9, .ref a10, .ref a11, .ref a12, .ref a13, .ref a14, .int (u.2.1), .int (u.2.2.1), .int (u.2.2.2.1), .int (u.2.2.2.2.1), .int (u.2.2.2.2.2.1), .int (u.2.2.2.2.2.2.1)])), (a1, .inl (k0, 80, .inl f0)), (a2, .inl (k1, 89, .inl (u.2.2.2.2.2.2.2.1))), (a3, .inl (k2, 89, .inl (u.2.2.2.2.2.2.2.2.1))), (a4, .inl (k3, 5340, .inl (u.2.2.2.2.2.2.2.2.2.1))), (a6, .inl (k4, 6, .inl f4)), (a8, .inl (k5, 6, .inl (u.2.2.2.2.2.2.2.2.2.2.1))), (a11, .inl (k6, 60, .inl (u.2.2.2.2.2.2.2.2.2.2.2.1))), (a12, .inl (k7, 60, .inl (u.2.2.2.2.2.2.2.2.2.2.2.2.1))), (a13, .inl (k8, 60, .inl (u.2.2.2.2.2.2.2.2.2.2.2.2.2.1))), (a14, .inl (k9, 60, .inl (u.2.2.2.2.2.2.2.2.2.2.2.2.2.2.1)))]) (fun (u : (Int32) × (Int32) × (Int32) × (Int32) × (Int32) × (Int32) × (Int32) × (Nat → Int32) × (Nat → Int32) × (Nat → Int32) × (Nat → Int32) × (Nat → Int32) × (Nat → Int32) × (Nat → Int32) × (Nat → Int32) × (Int32)) => []) := by
  refine ka_E_of (cc := cX7_picture) (maxL := 3) (ret := (some .int)) (by decide) rfl (Nat.le_of_ble_eq_true rfl) ?_
  intro p e s m below meth c ls A C hr hlk hin hP hK hD hS hA hE hN hl
  have C : CallFix p m c cX7_picture 3 s [.ref a0, .int x0, .int x1].toArray wsX7_picture RX7 := C
  obtain ⟨hx, hb, hml, hown, hts⟩ := id C
  have hl : lv_has ls 3 [(0, .ref a0), (1, .int x0), (2, .int x1)] := hl
  have rx0 := ka_rng x0
  have rx1 := ka_rng x1
  have rx2 := ka_rng x2
  have rx3 := ka_rng x3
  have rx4 := ka_rng x4
  have rx5 := ka_rng x5
  have rx6 := ka_rng x6
  have rx7 := ka_rng x7
  have rx8 := ka_rng x8
  have rx9 := ka_rng x9
  have rx10 := ka_rng x10
  have rx11 := ka_rng x11
  have rx12 := ka_rng x12
  have rx13 := ka_rng x13
  have rx14 := ka_rng x14
  have rx15 := ka_rng x15
  rcases (show x0.toInt ≤ -1 ∨ (0 ≤ x0.toInt ∧ x0.toInt ≤ 5) ∨ 6 ≤ x0.toInt by omega) with y_33556 | y_33556 | y_33556
  · skip
    rcases (show x1.toInt ≤ -1 ∨ (0 ≤ x1.toInt ∧ x1.toInt ≤ 60) ∨ 61 ≤ x1.toInt by omega) with y_33557 | y_33557 | y_33557
    · skip
      refine lv_aload_n hx hb dX7_picture_0 rfl (lv_at hl 0 rfl) ?_
      refine lv_iload_n hx hb dX7_picture_1 rfl (lv_at hl 1 rfl) ?_
      refine lv_iload_n hx hb dX7_picture_2 rfl (lv_at hl 2 rfl) ?_
      refine ka_RV (n := 2) C (cr_X7_isOpenFor_415 l D F a0 x0 x1 (by omega) (by omega)) gX7_picture_X7_isOpenFor rfl (by decide +kernel) ⟨Nat.le_of_ble_eq_true rfl, Nat.le_of_ble_eq_true rfl⟩ hK hP hS hE hN [] rfl [] rfl (ci := 7) rfl rfl 0 rfl rfl hl.1 (rest := []) rfl (Nat.le_of_ble_eq_true rfl) dX7_picture_3 ⟨Nat.le_of_ble_eq_true rfl, Nat.le_of_ble_eq_true rfl⟩ (fun v hv => ?_)
      subst hv
      refine ka_stk (w := [.int 0]) rfl ?_
      refine lv_if_eq (tgt := 20) hx hb dX7_picture_6 (by decide) (fun _ => ?_) (fun c_ => absurd (by decide) c_)
      refine lv_bipush (v := (-2)) hx hb dX7_picture_20 (by decide) ?_
      exact ka_rEi C hr hlk (Nat.le_of_ble_eq_true rfl) (Nat.le_of_ble_eq_true rfl) hS (ka_qE (x2, x10, x11, x12, x13, x14, x15, f1, f2, f3, f5, f6, f7, f8, f9, (-2)) rfl ⟨(show 0 ≤ x2.toInt ∧ x2.toInt ≤ 80 from ⟨by omega, by omega⟩), (show 0 ≤ x10.toInt ∧ x10.toInt ≤ 60 from ⟨by omega, by omega⟩), (show 0 ≤ x11.toInt ∧ x11.toInt ≤ 60 from ⟨by omega, by omega⟩), (show 0 ≤ x12.toInt ∧ x12.toInt ≤ 60 from ⟨by omega, by omega⟩), (show 0 ≤ x13.toInt ∧ x13.toInt ≤ 8 from ⟨by omega, by omega⟩), (show 0 ≤ x15.toInt ∧ x15.toInt ≤ 1 from ⟨by omega, by omega⟩), hf2, hf3, hf5, (show -2 ≤ ((-2 : Int32)).toInt ∧ ((-2 : Int32)).toInt ≤ 11 from ⟨by decide, by decide⟩)⟩ hK hP hD hS [0, 1, 2, 3, 4, 5, 6, 7, 8, 9, 10] (by decide) rfl [] rfl) dX7_picture_22
    · skip
      refine lv_aload_n hx hb dX7_picture_0 rfl (lv_at hl 0 rfl) ?_
      refine lv_iload_n hx hb dX7_picture_1 rfl (lv_at hl 1 rfl) ?_
      refine lv_iload_n hx hb dX7_picture_2 rfl (lv_at hl 2 rfl) ?_
      refine ka_RV (n := 2) C (cr_X7_isOpenFor_417 l D F a0 x0 x1 (by omega) ⟨by omega, by omega⟩) gX7_picture_X7_isOpenFor rfl (by decide +kernel) ⟨Nat.le_of_ble_eq_true rfl, Nat.le_of_ble_eq_true rfl⟩ hK hP hS hE hN [] rfl [] rfl (ci := 7) rfl rfl 0 rfl rfl hl.1 (rest := []) rfl (Nat.le_of_ble_eq_true rfl) dX7_picture_3 ⟨Nat.le_of_ble_eq_true rfl, Nat.le_of_ble_eq_true rfl⟩ (fun v hv => ?_)
      subst hv
      refine ka_stk (w := [.int 0]) rfl ?_
      refine lv_if_eq (tgt := 20) hx hb dX7_picture_6 (by decide) (fun _ => ?_) (fun c_ => absurd (by decide) c_)
      refine lv_bipush (v := (-2)) hx hb dX7_picture_20 (by decide) ?_
      exact ka_rEi C hr hlk (Nat.le_of_ble_eq_true rfl) (Nat.le_of_ble_eq_true rfl) hS (ka_qE (x2, x10, x11, x12, x13, x14, x15, f1, f2, f3, f5, f6, f7, f8, f9, (-2)) rfl ⟨(show 0 ≤ x2.toInt ∧ x2.toInt ≤ 80 from ⟨by omega, by omega⟩), (show 0 ≤ x10.toInt ∧ x10.toInt ≤ 60 from ⟨by omega, by omega⟩), (show 0 ≤ x11.toInt ∧ x11.toInt ≤ 60 from ⟨by omega, by omega⟩), (show 0 ≤ x12.toInt ∧ x12.toInt ≤ 60 from ⟨by omega, by omega⟩), (show 0 ≤ x13.toInt ∧ x13.toInt ≤ 8 from ⟨by omega, by omega⟩), (show 0 ≤ x15.toInt ∧ x15.toInt ≤ 1 from ⟨by omega, by omega⟩), hf2, hf3, hf5, (show -2 ≤ ((-2 : Int32)).toInt ∧ ((-2 : Int32)).toInt ≤ 11 from ⟨by decide, by decide⟩)⟩ hK hP hD hS [0, 1, 2, 3, 4, 5, 6, 7, 8, 9, 10] (by decide) rfl [] rfl) dX7_picture_22
    · skip
      refine lv_aload_n hx hb dX7_picture_0 rfl (lv_at hl 0 rfl) ?_
      refine lv_iload_n hx hb dX7_picture_1 rfl (lv_at hl 1 rfl) ?_
      refine lv_iload_n hx hb dX7_picture_2 rfl (lv_at hl 2 rfl) ?_
      refine ka_RV (n := 2) C (cr_X7_isOpenFor_418 l D F a0 x0 x1 (by omega) (by omega)) gX7_picture_X7_isOpenFor rfl (by decide +kernel) ⟨Nat.le_of_ble_eq_true rfl, Nat.le_of_ble_eq_true rfl⟩ hK hP hS hE hN [] rfl [] rfl (ci := 7) rfl rfl 0 rfl rfl hl.1 (rest := []) rfl (Nat.le_of_ble_eq_true rfl) dX7_picture_3 ⟨Nat.le_of_ble_eq_true rfl, Nat.le_of_ble_eq_true rfl⟩ (fun v hv => ?_)
      subst hv
      refine ka_stk (w := [.int 0]) rfl ?_
      refine lv_if_eq (tgt := 20) hx hb dX7_picture_6 (by decide) (fun _ => ?_) (fun c_ => absurd (by decide) c_)
      refine lv_bipush (v := (-2)) hx hb dX7_picture_20 (by decide) ?_
      exact ka_rEi C hr hlk (Nat.le_of_ble_eq_true rfl) (Nat.le_of_ble_eq_true rfl) hS (ka_qE (x2, x10, x11, x12, x13, x14, x15, f1, f2, f3, f5, f6, f7, f8, f9, (-2)) rfl ⟨(show 0 ≤ x2.toInt ∧ x2.toInt ≤ 80 from ⟨by omega, by omega⟩), (show 0 ≤ x10.toInt ∧ x10.toInt ≤ 60 from ⟨by omega, by omega⟩), (show 0 ≤ x11.toInt ∧ x11.toInt ≤ 60 from ⟨by omega, by omega⟩), (show 0 ≤ x12.toInt ∧ x12.toInt ≤ 60 from ⟨by omega, by omega⟩), (show 0 ≤ x13.toInt ∧ x13.toInt ≤ 8 from ⟨by omega, by omega⟩), (show 0 ≤ x15.toInt ∧ x15.toInt ≤ 1 from ⟨by omega, by omega⟩), hf2, hf3, hf5, (show -2 ≤ ((-2 : Int32)).toInt ∧ ((-2 : Int32)).toInt ≤ 11 from ⟨by decide, by decide⟩)⟩ hK hP hD hS [0, 1, 2, 3, 4, 5, 6, 7, 8, 9, 10] (by decide) rfl [] rfl) dX7_picture_22
  · skip
    rcases (show x1.toInt ≤ -1 ∨ (0 ≤ x1.toInt ∧ x1.toInt ≤ 60) ∨ 61 ≤ x1.toInt by omega) with y_33558 | y_33558 | y_33558
    · skip
      refine lv_aload_n hx hb dX7_picture_0 rfl (lv_at hl 0 rfl) ?_
      refine lv_iload_n hx hb dX7_picture_1 rfl (lv_at hl 1 rfl) ?_
      refine lv_iload_n hx hb dX7_picture_2 rfl (lv_at hl 2 rfl) ?_
      refine ka_RV (n := 2) C (cr_X7_isOpenFor_421 l D F a0 x0 x1 a1 x2 a2 a3 a4 a5 a6 a7 a8 x3 x4 x5 x6 x7 x8 x9 a9 a10 a11 a12 a13 a14 x10 x11 x12 x13 x14 x15 k4 f4 ⟨by omega, by omega⟩ (by omega) ⟨by omega, by omega⟩ ⟨by omega, by omega⟩ ⟨by omega, by omega⟩ ⟨by omega, by omega⟩ ⟨by omega, by omega⟩ ⟨by omega, by omega⟩ ⟨by omega, by omega⟩ ⟨by omega, by omega⟩ ⟨by omega, by omega⟩ ⟨by omega, by omega⟩) gX7_picture_X7_isOpenFor rfl (by decide +kernel) ⟨Nat.le_of_ble_eq_true rfl, Nat.le_of_ble_eq_true rfl⟩ hK hP hS hE hN [0, 5] rfl [4] rfl (ci := 7) rfl rfl 0 rfl rfl hl.1 (rest := []) rfl (Nat.le_of_ble_eq_true rfl) dX7_picture_3 ⟨Nat.le_of_ble_eq_true rfl, Nat.le_of_ble_eq_true rfl⟩ (fun v hv => ?_)
      subst hv
      refine ka_stk (w := [.int 0]) rfl ?_
      refine lv_if_eq (tgt := 20) hx hb dX7_picture_6 (by decide) (fun _ => ?_) (fun c_ => absurd (by decide) c_)
      refine lv_bipush (v := (-2)) hx hb dX7_picture_20 (by decide) ?_
      exact ka_rEi C hr hlk (Nat.le_of_ble_eq_true rfl) (Nat.le_of_ble_eq_true rfl) hS (ka_qE (x2, x10, x11, x12, x13, x14, x15, f1, f2, f3, f5, f6, f7, f8, f9, (-2)) rfl ⟨(show 0 ≤ x2.toInt ∧ x2.toInt ≤ 80 from ⟨by omega, by omega⟩), (show 0 ≤ x10.toInt ∧ x10.toInt ≤ 60 from ⟨by omega, by omega⟩), (show 0 ≤ x11.toInt ∧ x11.toInt ≤ 60 from ⟨by omega, by omega⟩), (show 0 ≤ x12.toInt ∧ x12.toInt ≤ 60 from ⟨by omega, by omega⟩), (show 0 ≤ x13.toInt ∧ x13.toInt ≤ 8 from ⟨by omega, by omega⟩), (show 0 ≤ x15.toInt ∧ x15.toInt ≤ 1 from ⟨by omega, by omega⟩), hf2, hf3, hf5, (show -2 ≤ ((-2 : Int32)).toInt ∧ ((-2 : Int32)).toInt ≤ 11 from ⟨by decide, by decide⟩)⟩ hK hP hD hS [0, 1, 2, 3, 4, 5, 6, 7, 8, 9, 10] (by decide) rfl [] rfl) dX7_picture_22
    · skip
      refine lv_aload_n hx hb dX7_picture_0 rfl (lv_at hl 0 rfl) ?_
      refine lv_iload_n hx hb dX7_picture_1 rfl (lv_at hl 1 rfl) ?_
      refine lv_iload_n hx hb dX7_picture_2 rfl (lv_at hl 2 rfl) ?_
      refine ka_RV (n := 2) C (cr_X7_isOpenFor_424 l D F a0 x0 x1 a1 x2 a2 a3 a4 a5 a6 a7 a8 x3 x4 x5 x6 x7 x8 x9 a9 a10 a11 a12 a13 a14 x10 x11 x12 x13 x14 x15 k4 f4 ⟨by omega, by omega⟩ ⟨by omega, by omega⟩ ⟨by omega, by omega⟩ ⟨by omega, by omega⟩ ⟨by omega, by omega⟩ ⟨by omega, by omega⟩ ⟨by omega, by omega⟩ ⟨by omega, by omega⟩ ⟨by omega, by omega⟩ ⟨by omega, by omega⟩ ⟨by omega, by omega⟩ ⟨by omega, by omega⟩) gX7_picture_X7_isOpenFor rfl (by decide +kernel) ⟨Nat.le_of_ble_eq_true rfl, Nat.le_of_ble_eq_true rfl⟩ hK hP hS hE hN [0, 5] rfl [4] rfl (ci := 7) rfl rfl 0 rfl rfl hl.1 (rest := []) rfl (Nat.le_of_ble_eq_true rfl) dX7_picture_3 ⟨Nat.le_of_ble_eq_true rfl, Nat.le_of_ble_eq_true rfl⟩ (fun v hv => ?_)
      obtain ⟨v_33559, rfl, hv_33559⟩ := hv
      have rv_33559 := ka_rng v_33559
      refine ka_stk (w := [.int v_33559]) rfl ?_
      refine lv_if_eq (tgt := 20) hx hb dX7_picture_6 (by decide) (fun c_33560 => ?_) (fun c_33560 => ?_)
      · have c_33560 : v_33559.toInt = 0 := by rw [ka_eq', show ((0 : Int32)).toInt = 0 from by decide] at c_33560; exact c_33560
        refine lv_bipush (v := (-2)) hx hb dX7_picture_20 (by decide) ?_
        exact ka_rEi C hr hlk (Nat.le_of_ble_eq_true rfl) (Nat.le_of_ble_eq_true rfl) hS (ka_qE (x2, x10, x11, x12, x13, x14, x15, f1, f2, f3, f5, f6, f7, f8, f9, (-2)) rfl ⟨(show 0 ≤ x2.toInt ∧ x2.toInt ≤ 80 from ⟨by omega, by omega⟩), (show 0 ≤ x10.toInt ∧ x10.toInt ≤ 60 from ⟨by omega, by omega⟩), (show 0 ≤ x11.toInt ∧ x11.toInt ≤ 60 from ⟨by omega, by omega⟩), (show 0 ≤ x12.toInt ∧ x12.toInt ≤ 60 from ⟨by omega, by omega⟩), (show 0 ≤ x13.toInt ∧ x13.toInt ≤ 8 from ⟨by omega, by omega⟩), (show 0 ≤ x15.toInt ∧ x15.toInt ≤ 1 from ⟨by omega, by omega⟩), hf2, hf3, hf5, (show -2 ≤ ((-2 : Int32)).toInt ∧ ((-2 : Int32)).toInt ≤ 11 from ⟨by decide, by decide⟩)⟩ hK hP hD hS [0, 1, 2, 3, 4, 5, 6, 7, 8, 9, 10] (by decide) rfl [] rfl) dX7_picture_22
      · have c_33560 : ¬ v_33559.toInt = 0 := by rw [ka_eq', show ((0 : Int32)).toInt = 0 from by decide] at c_33560; exact c_33560
        refine lv_aload_n hx hb dX7_picture_9 rfl (lv_at hl 0 rfl) ?_
        refine ka_get C lqr_444 rfl hK hP 0 rfl 8 (by decide) lqr_445 rfl dX7_picture_10 ?_
        refine lv_iload_n hx hb dX7_picture_13 rfl (lv_at hl 1 rfl) ?_
        refine va_iald hx hb hK hP 6 5 rfl rfl (ka_in (by omega) (by omega)) dX7_picture_14 ?_
        refine lv_topi (fun v_33561 ev_33561 => ?_)
        have hv_33561 := hf5 (Int32.toNatClampNeg x0); rw [← ev_33561] at hv_33561
        refine lv_bipush (v := 12) hx hb dX7_picture_15 (by decide) ?_
        refine lv_icmp_ne (tgt := 23) hx hb dX7_picture_17 (by decide) (fun c_33562 => ?_) (fun c_33562 => ?_)
        · have c_33562 : ¬ v_33561.toInt = 12 := by rw [ka_eq', show ((12 : Int32)).toInt = 12 from by decide] at c_33562; exact c_33562
          refine lv_aload_n hx hb dX7_picture_23 rfl (lv_at hl 0 rfl) ?_
          refine lv_iload_n hx hb dX7_picture_24 rfl (lv_at hl 2 rfl) ?_
          refine ka_EV (n := 1) (wr := [(a6, .inl (k4, 6, .inl f4)), (a8, .inl (k5, 6, .inl f5))]) C (cr_X7_reads_414 l D F a0 x1 a1 x2 a2 a3 a4 a5 a6 a7 a8 x3 x4 x5 x6 x7 x8 x9 a9 a10 a11 a12 a13 a14 x10 x11 x12 x13 x14 x15 k0 f0 k1 f1 k2 f2 k3 f3 k6 f6 k7 f7 k8 f8 k9 f9 ⟨by omega, by omega⟩ ⟨by omega, by omega⟩ ⟨by omega, by omega⟩ ⟨by omega, by omega⟩ ⟨by omega, by omega⟩ ⟨by omega, by omega⟩ ⟨by omega, by omega⟩ ⟨by omega, by omega⟩ ⟨by omega, by omega⟩ ⟨by omega, by omega⟩ ⟨by omega, by omega⟩ hf0 hf2 hf3) gX7_picture_X7_reads rfl (by decide +kernel) ⟨Nat.le_of_ble_eq_true rfl, Nat.le_of_ble_eq_true rfl⟩ hK hP hD hS hA hE hN [0, 1, 2, 3, 4, 7, 8, 9, 10] rfl (by decide) [5, 6] rfl (by decide) (by decide) [0, 1, 2, 3, 6, 7, 8, 9] rfl (ci := 7) rfl rfl 0 rfl rfl hl.1 (rest := []) rfl (Nat.le_of_ble_eq_true rfl) dX7_picture_25 ⟨Nat.le_of_ble_eq_true rfl, Nat.le_of_ble_eq_true rfl⟩ (fun u H locs hq hP hD hK hS => ?_)
          obtain ⟨v_33563, v_33564, v_33565, v_33566, v_33567, g_33568, g_33569, g_33570, g_33571, g_33572, g_33573, g_33574, v_33575⟩ := u
          have hq : (0 ≤ v_33563.toInt ∧ v_33563.toInt ≤ 60) ∧ (0 ≤ v_33564.toInt ∧ v_33564.toInt ≤ 60) ∧ (0 ≤ v_33565.toInt ∧ v_33565.toInt ≤ 8) ∧ (0 ≤ v_33567.toInt ∧ v_33567.toInt ≤ 1) ∧ (∀ j : Nat, 0 ≤ (g_33569 j).toInt ∧ (g_33569 j).toInt ≤ 60) ∧ (sb_Fit g_33570) ∧ (0 ≤ v_33575.toInt ∧ v_33575.toInt ≤ 1) := hq
          obtain ⟨hv_33563, hv_33564, hv_33565, hv_33567, hg_33569, hg_33570, hv_33575⟩ := hq
          have rv_33563 := ka_rng v_33563
          have rv_33564 := ka_rng v_33564
          have rv_33565 := ka_rng v_33565
          have rv_33566 := ka_rng v_33566
          have rv_33567 := ka_rng v_33567
          have rv_33575 := ka_rng v_33575
          have hP : va_P D vwCl [(a6, .inl (k4, 6, .inl f4)), (a8, .inl (k5, 6, .inl f5)), (a0, .inr (7, [.ref a1, .int 0, .ref a2, .ref a3, .ref a4, .ref a5, .ref a6, .ref a7, .ref a8, .int x3, .int x4, .int x5, .int x6, .int x7, .int x8, .int x9, .ref a9, .ref a10, .ref a11, .ref a12, .ref a13, .ref a14, .int v_33563, .int v_33564, .int x1, .int v_33565, .int v_33566, .int v_33567])), (a1, .inl (k0, 80, .inl f0)), (a2, .inl (k1, 89, .inl g_33568)), (a3, .inl (k2, 89, .inl g_33569)), (a4, .inl (k3, 5340, .inl g_33570)), (a11, .inl (k6, 60, .inl g_33571)), (a12, .inl (k7, 60, .inl g_33572)), (a13, .inl (k8, 60, .inl g_33573)), (a14, .inl (k9, 60, .inl g_33574))] H := hP
          have hD : va_D A [(a6, .inl (k4, 6, .inl f4)), (a8, .inl (k5, 6, .inl f5)), (a0, .inr (7, [.ref a1, .int 0, .ref a2, .ref a3, .ref a4, .ref a5, .ref a6, .ref a7, .ref a8, .int x3, .int x4, .int x5, .int x6, .int x7, .int x8, .int x9, .ref a9, .ref a10, .ref a11, .ref a12, .ref a13, .ref a14, .int v_33563, .int v_33564, .int x1, .int v_33565, .int v_33566, .int v_33567])), (a1, .inl (k0, 80, .inl f0)), (a2, .inl (k1, 89, .inl g_33568)), (a3, .inl (k2, 89, .inl g_33569)), (a4, .inl (k3, 5340, .inl g_33570)), (a11, .inl (k6, 60, .inl g_33571)), (a12, .inl (k7, 60, .inl g_33572)), (a13, .inl (k8, 60, .inl g_33573)), (a14, .inl (k9, 60, .inl g_33574))] := hD
          have hK : va_K D vwCl [(k0, .byte), (k1, .int), (k2, .int), (k3, .byte), (k4, .boolean), (k5, .int), (k6, .int), (k7, .int), (k8, .int), (k9, .int)] s := by simpa using hK
          refine ka_stk (w := [.int v_33575]) rfl ?_
          refine lv_if_ne (tgt := 33) hx hb dX7_picture_28 (by decide) (fun c_33576 => ?_) (fun c_33576 => ?_)
          · have c_33576 : ¬ v_33575.toInt = 0 := by rw [ka_eq', show ((0 : Int32)).toInt = 0 from by decide] at c_33576; exact c_33576
            refine lv_aload_n hx hb dX7_picture_33 rfl (lv_at hl 0 rfl) ?_
            refine lv_iload_n hx hb dX7_picture_34 rfl (lv_at hl 1 rfl) ?_
            refine lv_aload_n hx hb dX7_picture_35 rfl (lv_at hl 0 rfl) ?_
            refine ka_get C lqr_444 rfl hK hP 2 rfl 8 (by decide) lqr_445 rfl dX7_picture_36 ?_
            refine lv_iload_n hx hb dX7_picture_39 rfl (lv_at hl 1 rfl) ?_
            refine va_iald hx hb hK hP 1 5 rfl rfl (ka_in (by omega) (by omega)) dX7_picture_40 ?_
            refine ka_top (w := .int v_33561) (congrArg Value.int ev_33561.symm) ?_
            refine ka_RS (n := 2) C (cg_X7_pictureAt_224 l D F x0 v_33561 ⟨by omega, by omega⟩ ⟨by omega, by omega⟩) gX7_picture_X7_pictureAt rfl (by decide +kernel) ⟨Nat.le_of_ble_eq_true rfl, Nat.le_of_ble_eq_true rfl⟩ hK hP hS hE hN [] rfl [] rfl rfl hl.1 (rest := [.ref a0]) rfl (Nat.le_of_ble_eq_true rfl) dX7_picture_41 ⟨Nat.le_of_ble_eq_true rfl, Nat.le_of_ble_eq_true rfl⟩ (fun v hv => ?_)
            obtain ⟨v_33577, rfl, hv_33577⟩ := hv
            have rv_33577 := ka_rng v_33577
            refine ka_stk (w := [.int v_33577, .ref a0]) rfl ?_
            refine ka_EV (n := 1) (wr := [(a6, .inl (k4, 6, .inl f4)), (a8, .inl (k5, 6, .inl f5)), (a1, .inl (k0, 80, .inl f0)), (a11, .inl (k6, 60, .inl g_33571)), (a12, .inl (k7, 60, .inl g_33572)), (a13, .inl (k8, 60, .inl g_33573)), (a14, .inl (k9, 60, .inl g_33574))]) C (cg_X7_keeps_381 l D F a0 v_33577 a1 0 a2 a3 a4 a5 a6 a7 a8 x3 x4 x5 x6 x7 x8 x9 a9 a10 a11 a12 a13 a14 v_33563 v_33564 x1 v_33565 v_33566 v_33567 k1 g_33568 k2 g_33569 k3 g_33570 ⟨by omega, by omega⟩ ⟨by decide, by decide⟩ ⟨by omega, by omega⟩ ⟨by omega, by omega⟩ ⟨by omega, by omega⟩ ⟨by omega, by omega⟩ ⟨by omega, by omega⟩ ⟨by omega, by omega⟩ ⟨by omega, by omega⟩ ⟨by omega, by omega⟩ ⟨by omega, by omega⟩ hg_33569 hg_33570) gX7_picture_X7_keeps rfl (by decide +kernel) ⟨Nat.le_of_ble_eq_true rfl, Nat.le_of_ble_eq_true rfl⟩ hK hP hD hS hA hE hN [2, 4, 5, 6] rfl (by decide) [0, 1, 3, 7, 8, 9, 10] rfl (by decide) (by decide) [1, 2, 3] rfl (ci := 7) rfl rfl 2 rfl rfl hl.1 (rest := []) rfl (Nat.le_of_ble_eq_true rfl) dX7_picture_44 ⟨Nat.le_of_ble_eq_true rfl, Nat.le_of_ble_eq_true rfl⟩ (fun u H locs hq hP hD hK hS => ?_)
            obtain ⟨g_33578, g_33579, g_33580⟩ := u
            have hq : (∀ j : Nat, 0 ≤ (g_33579 j).toInt ∧ (g_33579 j).toInt ≤ 60) ∧ (sb_Fit g_33580) := hq
            obtain ⟨hg_33579, hg_33580⟩ := hq
            have hP : va_P D vwCl [(a6, .inl (k4, 6, .inl f4)), (a8, .inl (k5, 6, .inl f5)), (a1, .inl (k0, 80, .inl f0)), (a11, .inl (k6, 60, .inl g_33571)), (a12, .inl (k7, 60, .inl g_33572)), (a13, .inl (k8, 60, .inl g_33573)), (a14, .inl (k9, 60, .inl g_33574)), (a0, .inr (7, [.ref a1, .int 0, .ref a2, .ref a3, .ref a4, .ref a5, .ref a6, .ref a7, .ref a8, .int x3, .int x4, .int x5, .int x6, .int x7, .int x8, .int x9, .ref a9, .ref a10, .ref a11, .ref a12, .ref a13, .ref a14, .int v_33563, .int v_33564, .int x1, .int v_33565, .int v_33566, .int v_33567])), (a2, .inl (k1, 89, .inl g_33578)), (a3, .inl (k2, 89, .inl g_33579)), (a4, .inl (k3, 5340, .inl g_33580))] H := hP
            have hD : va_D A [(a6, .inl (k4, 6, .inl f4)), (a8, .inl (k5, 6, .inl f5)), (a1, .inl (k0, 80, .inl f0)), (a11, .inl (k6, 60, .inl g_33571)), (a12, .inl (k7, 60, .inl g_33572)), (a13, .inl (k8, 60, .inl g_33573)), (a14, .inl (k9, 60, .inl g_33574)), (a0, .inr (7, [.ref a1, .int 0, .ref a2, .ref a3, .ref a4, .ref a5, .ref a6, .ref a7, .ref a8, .int x3, .int x4, .int x5, .int x6, .int x7, .int x8, .int x9, .ref a9, .ref a10, .ref a11, .ref a12, .ref a13, .ref a14, .int v_33563, .int v_33564, .int x1, .int v_33565, .int v_33566, .int v_33567])), (a2, .inl (k1, 89, .inl g_33578)), (a3, .inl (k2, 89, .inl g_33579)), (a4, .inl (k3, 5340, .inl g_33580))] := hD
            have hK : va_K D vwCl [(k0, .byte), (k1, .int), (k2, .int), (k3, .byte), (k4, .boolean), (k5, .int), (k6, .int), (k7, .int), (k8, .int), (k9, .int)] s := by simpa using hK
            refine ka_stk (w := []) rfl ?_
            refine lv_aload_n hx hb dX7_picture_47 rfl (lv_at hl 0 rfl) ?_
            refine ka_get C lqr_444 rfl hK hP 7 rfl 8 (by decide) lqr_445 rfl dX7_picture_48 ?_
            refine lv_iload_n hx hb dX7_picture_51 rfl (lv_at hl 1 rfl) ?_
            refine lv_dup2_11 hx hb dX7_picture_52 rfl rfl ?_
            refine va_iald hx hb hK hP 1 5 rfl rfl (ka_in (by omega) (by omega)) dX7_picture_53 ?_
            refine ka_top (w := .int v_33561) (congrArg Value.int ev_33561.symm) ?_
            refine lv_iconst (v := 1) hx hb dX7_picture_54 (by decide) ?_
            refine lv_iadd hx hb dX7_picture_55 ?_
            refine lv_topi (fun v_33581 ev_33581 => ?_)
            have fv_33581 : v_33581.toInt = v_33561.toInt + 1 := by rw [ev_33581]; exact ka_add (x := v_33561.toInt) (y := 1) rfl (by decide) (by omega) (by omega)
            refine va_iast hx hb hK hP hD hS 1 5 rfl rfl (ka_in (by omega) (by omega)) dX7_picture_56 (fun H locs hP hD hS => ?_)
            have hP : va_P D vwCl [(a6, .inl (k4, 6, .inl f4)), (a8, .inl (k5, 6, .inl (upd f5 (Int32.toNatClampNeg x0) v_33581))), (a1, .inl (k0, 80, .inl f0)), (a11, .inl (k6, 60, .inl g_33571)), (a12, .inl (k7, 60, .inl g_33572)), (a13, .inl (k8, 60, .inl g_33573)), (a14, .inl (k9, 60, .inl g_33574)), (a0, .inr (7, [.ref a1, .int 0, .ref a2, .ref a3, .ref a4, .ref a5, .ref a6, .ref a7, .ref a8, .int x3, .int x4, .int x5, .int x6, .int x7, .int x8, .int x9, .ref a9, .ref a10, .ref a11, .ref a12, .ref a13, .ref a14, .int v_33563, .int v_33564, .int x1, .int v_33565, .int v_33566, .int v_33567])), (a2, .inl (k1, 89, .inl g_33578)), (a3, .inl (k2, 89, .inl g_33579)), (a4, .inl (k3, 5340, .inl g_33580))] H := hP
            have hD : va_D A [(a6, .inl (k4, 6, .inl f4)), (a8, .inl (k5, 6, .inl (upd f5 (Int32.toNatClampNeg x0) v_33581))), (a1, .inl (k0, 80, .inl f0)), (a11, .inl (k6, 60, .inl g_33571)), (a12, .inl (k7, 60, .inl g_33572)), (a13, .inl (k8, 60, .inl g_33573)), (a14, .inl (k9, 60, .inl g_33574)), (a0, .inr (7, [.ref a1, .int 0, .ref a2, .ref a3, .ref a4, .ref a5, .ref a6, .ref a7, .ref a8, .int x3, .int x4, .int x5, .int x6, .int x7, .int x8, .int x9, .ref a9, .ref a10, .ref a11, .ref a12, .ref a13, .ref a14, .int v_33563, .int v_33564, .int x1, .int v_33565, .int v_33566, .int v_33567])), (a2, .inl (k1, 89, .inl g_33578)), (a3, .inl (k2, 89, .inl g_33579)), (a4, .inl (k3, 5340, .inl g_33580))] := hD
            have hg_33582 : ∀ j : Nat, 0 ≤ ((upd f5 (Int32.toNatClampNeg x0) v_33581) j).toInt ∧ ((upd f5 (Int32.toNatClampNeg x0) v_33581) j).toInt ≤ 12 := kb_rngU hf5 (by omega) (by omega)
            generalize (upd f5 (Int32.toNatClampNeg x0) v_33581) = g_33582 at hP hD hg_33582
            refine lv_aload_n hx hb dX7_picture_57 rfl (lv_at hl 0 rfl) ?_
            refine ka_get C lqr_444 rfl hK hP 7 rfl 8 (by decide) lqr_445 rfl dX7_picture_58 ?_
            refine lv_iload_n hx hb dX7_picture_61 rfl (lv_at hl 1 rfl) ?_
            refine va_iald hx hb hK hP 1 5 rfl rfl (ka_in (by omega) (by omega)) dX7_picture_62 ?_
            refine lv_topi (fun v_33583 ev_33583 => ?_)
            have hv_33583 := hg_33582 (Int32.toNatClampNeg x0); rw [← ev_33583] at hv_33583
            refine lv_iconst (v := 1) hx hb dX7_picture_63 (by decide) ?_
            refine lv_isub hx hb dX7_picture_64 ?_
            refine lv_topi (fun v_33584 ev_33584 => ?_)
            have fv_33584 : v_33584.toInt = v_33583.toInt - 1 := by rw [ev_33584]; exact ka_sub (x := v_33583.toInt) (y := 1) rfl (by decide) (by omega) (by omega)
            exact ka_rEi C hr hlk (Nat.le_of_ble_eq_true rfl) (Nat.le_of_ble_eq_true rfl) hS (ka_qE (0, v_33563, v_33564, x1, v_33565, v_33566, v_33567, g_33578, g_33579, g_33580, g_33582, g_33571, g_33572, g_33573, g_33574, v_33584) rfl ⟨(show 0 ≤ ((0 : Int32)).toInt ∧ ((0 : Int32)).toInt ≤ 80 from ⟨by decide, by decide⟩), (show 0 ≤ v_33563.toInt ∧ v_33563.toInt ≤ 60 from ⟨by omega, by omega⟩), (show 0 ≤ v_33564.toInt ∧ v_33564.toInt ≤ 60 from ⟨by omega, by omega⟩), (show 0 ≤ x1.toInt ∧ x1.toInt ≤ 60 from ⟨by omega, by omega⟩), (show 0 ≤ v_33565.toInt ∧ v_33565.toInt ≤ 8 from ⟨by omega, by omega⟩), (show 0 ≤ v_33567.toInt ∧ v_33567.toInt ≤ 1 from ⟨by omega, by omega⟩), hg_33579, hg_33580, hg_33582, (show -2 ≤ v_33584.toInt ∧ v_33584.toInt ≤ 11 from ⟨by omega, by omega⟩)⟩ hK hP hD hS [7, 2, 8, 9, 10, 0, 1, 3, 4, 5, 6] (by decide) rfl [] rfl) dX7_picture_65
          · have c_33576 : v_33575.toInt = 0 := by rw [ka_eq', show ((0 : Int32)).toInt = 0 from by decide] at c_33576; exact c_33576
            refine lv_iconst (v := (-1)) hx hb dX7_picture_31 (by decide) ?_
            exact ka_rEi C hr hlk (Nat.le_of_ble_eq_true rfl) (Nat.le_of_ble_eq_true rfl) hS (ka_qE (0, v_33563, v_33564, x1, v_33565, v_33566, v_33567, g_33568, g_33569, g_33570, f5, g_33571, g_33572, g_33573, g_33574, (-1)) rfl ⟨(show 0 ≤ ((0 : Int32)).toInt ∧ ((0 : Int32)).toInt ≤ 80 from ⟨by decide, by decide⟩), (show 0 ≤ v_33563.toInt ∧ v_33563.toInt ≤ 60 from ⟨by omega, by omega⟩), (show 0 ≤ v_33564.toInt ∧ v_33564.toInt ≤ 60 from ⟨by omega, by omega⟩), (show 0 ≤ x1.toInt ∧ x1.toInt ≤ 60 from ⟨by omega, by omega⟩), (show 0 ≤ v_33565.toInt ∧ v_33565.toInt ≤ 8 from ⟨by omega, by omega⟩), (show 0 ≤ v_33567.toInt ∧ v_33567.toInt ≤ 1 from ⟨by omega, by omega⟩), hg_33569, hg_33570, hf5, (show -2 ≤ ((-1 : Int32)).toInt ∧ ((-1 : Int32)).toInt ≤ 11 from ⟨by decide, by decide⟩)⟩ hK hP hD hS [2, 3, 4, 5, 6, 0, 1, 7, 8, 9, 10] (by decide) rfl [] rfl) dX7_picture_32
        · have c_33562 : v_33561.toInt = 12 := by rw [ka_eq', show ((12 : Int32)).toInt = 12 from by decide] at c_33562; exact c_33562
          refine lv_bipush (v := (-2)) hx hb dX7_picture_20 (by decide) ?_
          exact ka_rEi C hr hlk (Nat.le_of_ble_eq_true rfl) (Nat.le_of_ble_eq_true rfl) hS (ka_qE (x2, x10, x11, x12, x13, x14, x15, f1, f2, f3, f5, f6, f7, f8, f9, (-2)) rfl ⟨(show 0 ≤ x2.toInt ∧ x2.toInt ≤ 80 from ⟨by omega, by omega⟩), (show 0 ≤ x10.toInt ∧ x10.toInt ≤ 60 from ⟨by omega, by omega⟩), (show 0 ≤ x11.toInt ∧ x11.toInt ≤ 60 from ⟨by omega, by omega⟩), (show 0 ≤ x12.toInt ∧ x12.toInt ≤ 60 from ⟨by omega, by omega⟩), (show 0 ≤ x13.toInt ∧ x13.toInt ≤ 8 from ⟨by omega, by omega⟩), (show 0 ≤ x15.toInt ∧ x15.toInt ≤ 1 from ⟨by omega, by omega⟩), hf2, hf3, hf5, (show -2 ≤ ((-2 : Int32)).toInt ∧ ((-2 : Int32)).toInt ≤ 11 from ⟨by decide, by decide⟩)⟩ hK hP hD hS [0, 1, 2, 3, 4, 5, 6, 7, 8, 9, 10] (by decide) rfl [] rfl) dX7_picture_22
    · skip
      refine lv_aload_n hx hb dX7_picture_0 rfl (lv_at hl 0 rfl) ?_
      refine lv_iload_n hx hb dX7_picture_1 rfl (lv_at hl 1 rfl) ?_
      refine lv_iload_n hx hb dX7_picture_2 rfl (lv_at hl 2 rfl) ?_
      refine ka_RV (n := 2) C (cr_X7_isOpenFor_427 l D F a0 x0 x1 a1 x2 a2 a3 a4 a5 a6 a7 a8 x3 x4 x5 x6 x7 x8 x9 a9 a10 a11 a12 a13 a14 x10 x11 x12 x13 x14 x15 k4 f4 ⟨by omega, by omega⟩ (by omega) ⟨by omega, by omega⟩ ⟨by omega, by omega⟩ ⟨by omega, by omega⟩ ⟨by omega, by omega⟩ ⟨by omega, by omega⟩ ⟨by omega, by omega⟩ ⟨by omega, by omega⟩ ⟨by omega, by omega⟩ ⟨by omega, by omega⟩ ⟨by omega, by omega⟩) gX7_picture_X7_isOpenFor rfl (by decide +kernel) ⟨Nat.le_of_ble_eq_true rfl, Nat.le_of_ble_eq_true rfl⟩ hK hP hS hE hN [0, 5] rfl [4] rfl (ci := 7) rfl rfl 0 rfl rfl hl.1 (rest := []) rfl (Nat.le_of_ble_eq_true rfl) dX7_picture_3 ⟨Nat.le_of_ble_eq_true rfl, Nat.le_of_ble_eq_true rfl⟩ (fun v hv => ?_)
      subst hv
      refine ka_stk (w := [.int 0]) rfl ?_
      refine lv_if_eq (tgt := 20) hx hb dX7_picture_6 (by decide) (fun _ => ?_) (fun c_ => absurd (by decide) c_)
      refine lv_bipush (v := (-2)) hx hb dX7_picture_20 (by decide) ?_
      exact ka_rEi C hr hlk (Nat.le_of_ble_eq_true rfl) (Nat.le_of_ble_eq_true rfl) hS (ka_qE (x2, x10, x11, x12, x13, x14, x15, f1, f2, f3, f5, f6, f7, f8, f9, (-2)) rfl ⟨(show 0 ≤ x2.toInt ∧ x2.toInt ≤ 80 from ⟨by omega, by omega⟩), (show 0 ≤ x10.toInt ∧ x10.toInt ≤ 60 from ⟨by omega, by omega⟩), (show 0 ≤ x11.toInt ∧ x11.toInt ≤ 60 from ⟨by omega, by omega⟩), (show 0 ≤ x12.toInt ∧ x12.toInt ≤ 60 from ⟨by omega, by omega⟩), (show 0 ≤ x13.toInt ∧ x13.toInt ≤ 8 from ⟨by omega, by omega⟩), (show 0 ≤ x15.toInt ∧ x15.toInt ≤ 1 from ⟨by omega, by omega⟩), hf2, hf3, hf5, (show -2 ≤ ((-2 : Int32)).toInt ∧ ((-2 : Int32)).toInt ≤ 11 from ⟨by decide, by decide⟩)⟩ hK hP hD hS [0, 1, 2, 3, 4, 5, 6, 7, 8, 9, 10] (by decide) rfl [] rfl) dX7_picture_22
  · skip
    rcases (show x1.toInt ≤ -1 ∨ (0 ≤ x1.toInt ∧ x1.toInt ≤ 60) ∨ 61 ≤ x1.toInt by omega) with y_33585 | y_33585 | y_33585
    · skip
      refine lv_aload_n hx hb dX7_picture_0 rfl (lv_at hl 0 rfl) ?_
      refine lv_iload_n hx hb dX7_picture_1 rfl (lv_at hl 1 rfl) ?_
      refine lv_iload_n hx hb dX7_picture_2 rfl (lv_at hl 2 rfl) ?_
      refine ka_RV (n := 2) C (cr_X7_isOpenFor_428 l D F a0 x0 x1 (by omega) (by omega)) gX7_picture_X7_isOpenFor rfl (by decide +kernel) ⟨Nat.le_of_ble_eq_true rfl, Nat.le_of_ble_eq_true rfl⟩ hK hP hS hE hN [] rfl [] rfl (ci := 7) rfl rfl 0 rfl rfl hl.1 (rest := []) rfl (Nat.le_of_ble_eq_true rfl) dX7_picture_3 ⟨Nat.le_of_ble_eq_true rfl, Nat.le_of_ble_eq_true rfl⟩ (fun v hv => ?_)
      subst hv
      refine ka_stk (w := [.int 0]) rfl ?_
      refine lv_if_eq (tgt := 20) hx hb dX7_picture_6 (by decide) (fun _ => ?_) (fun c_ => absurd (by decide) c_)
      refine lv_bipush (v := (-2)) hx hb dX7_picture_20 (by decide) ?_
      exact ka_rEi C hr hlk (Nat.le_of_ble_eq_true rfl) (Nat.le_of_ble_eq_true rfl) hS (ka_qE (x2, x10, x11, x12, x13, x14, x15, f1, f2, f3, f5, f6, f7, f8, f9, (-2)) rfl ⟨(show 0 ≤ x2.toInt ∧ x2.toInt ≤ 80 from ⟨by omega, by omega⟩), (show 0 ≤ x10.toInt ∧ x10.toInt ≤ 60 from ⟨by omega, by omega⟩), (show 0 ≤ x11.toInt ∧ x11.toInt ≤ 60 from ⟨by omega, by omega⟩), (show 0 ≤ x12.toInt ∧ x12.toInt ≤ 60 from ⟨by omega, by omega⟩), (show 0 ≤ x13.toInt ∧ x13.toInt ≤ 8 from ⟨by omega, by omega⟩), (show 0 ≤ x15.toInt ∧ x15.toInt ≤ 1 from ⟨by omega, by omega⟩), hf2, hf3, hf5, (show -2 ≤ ((-2 : Int32)).toInt ∧ ((-2 : Int32)).toInt ≤ 11 from ⟨by decide, by decide⟩)⟩ hK hP hD hS [0, 1, 2, 3, 4, 5, 6, 7, 8, 9, 10] (by decide) rfl [] rfl) dX7_picture_22
    · skip
      refine lv_aload_n hx hb dX7_picture_0 rfl (lv_at hl 0 rfl) ?_
      refine lv_iload_n hx hb dX7_picture_1 rfl (lv_at hl 1 rfl) ?_
      refine lv_iload_n hx hb dX7_picture_2 rfl (lv_at hl 2 rfl) ?_
      refine ka_RV (n := 2) C (cr_X7_isOpenFor_430 l D F a0 x0 x1 (by omega) ⟨by omega, by omega⟩) gX7_picture_X7_isOpenFor rfl (by decide +kernel) ⟨Nat.le_of_ble_eq_true rfl, Nat.le_of_ble_eq_true rfl⟩ hK hP hS hE hN [] rfl [] rfl (ci := 7) rfl rfl 0 rfl rfl hl.1 (rest := []) rfl (Nat.le_of_ble_eq_true rfl) dX7_picture_3 ⟨Nat.le_of_ble_eq_true rfl, Nat.le_of_ble_eq_true rfl⟩ (fun v hv => ?_)
      subst hv
      refine ka_stk (w := [.int 0]) rfl ?_
      refine lv_if_eq (tgt := 20) hx hb dX7_picture_6 (by decide) (fun _ => ?_) (fun c_ => absurd (by decide) c_)
      refine lv_bipush (v := (-2)) hx hb dX7_picture_20 (by decide) ?_
      exact ka_rEi C hr hlk (Nat.le_of_ble_eq_true rfl) (Nat.le_of_ble_eq_true rfl) hS (ka_qE (x2, x10, x11, x12, x13, x14, x15, f1, f2, f3, f5, f6, f7, f8, f9, (-2)) rfl ⟨(show 0 ≤ x2.toInt ∧ x2.toInt ≤ 80 from ⟨by omega, by omega⟩), (show 0 ≤ x10.toInt ∧ x10.toInt ≤ 60 from ⟨by omega, by omega⟩), (show 0 ≤ x11.toInt ∧ x11.toInt ≤ 60 from ⟨by omega, by omega⟩), (show 0 ≤ x12.toInt ∧ x12.toInt ≤ 60 from ⟨by omega, by omega⟩), (show 0 ≤ x13.toInt ∧ x13.toInt ≤ 8 from ⟨by omega, by omega⟩), (show 0 ≤ x15.toInt ∧ x15.toInt ≤ 1 from ⟨by omega, by omega⟩), hf2, hf3, hf5, (show -2 ≤ ((-2 : Int32)).toInt ∧ ((-2 : Int32)).toInt ≤ 11 from ⟨by decide, by decide⟩)⟩ hK hP hD hS [0, 1, 2, 3, 4, 5, 6, 7, 8, 9, 10] (by decide) rfl [] rfl) dX7_picture_22
    · skip
      refine lv_aload_n hx hb dX7_picture_0 rfl (lv_at hl 0 rfl) ?_
      refine lv_iload_n hx hb dX7_picture_1 rfl (lv_at hl 1 rfl) ?_
      refine lv_iload_n hx hb dX7_picture_2 rfl (lv_at hl 2 rfl) ?_
      refine ka_RV (n := 2) C (cr_X7_isOpenFor_431 l D F a0 x0 x1 (by omega) (by omega)) gX7_picture_X7_isOpenFor rfl (by decide +kernel) ⟨Nat.le_of_ble_eq_true rfl, Nat.le_of_ble_eq_true rfl⟩ hK hP hS hE hN [] rfl [] rfl (ci := 7) rfl rfl 0 rfl rfl hl.1 (rest := []) rfl (Nat.le_of_ble_eq_true rfl) dX7_picture_3 ⟨Nat.le_of_ble_eq_true rfl, Nat.le_of_ble_eq_true rfl⟩ (fun v hv => ?_)
      subst hv
      refine ka_stk (w := [.int 0]) rfl ?_
      refine lv_if_eq (tgt := 20) hx hb dX7_picture_6 (by decide) (fun _ => ?_) (fun c_ => absurd (by decide) c_)
      refine lv_bipush (v := (-2)) hx hb dX7_picture_20 (by decide) ?_
      exact ka_rEi C hr hlk (Nat.le_of_ble_eq_true rfl) (Nat.le_of_ble_eq_true rfl) hS (ka_qE (x2, x10, x11, x12, x13, x14, x15, f1, f2, f3, f5, f6, f7, f8, f9, (-2)) rfl ⟨(show 0 ≤ x2.toInt ∧ x2.toInt ≤ 80 from ⟨by omega, by omega⟩), (show 0 ≤ x10.toInt ∧ x10.toInt ≤ 60 from ⟨by omega, by omega⟩), (show 0 ≤ x11.toInt ∧ x11.toInt ≤ 60 from ⟨by omega, by omega⟩), (show 0 ≤ x12.toInt ∧ x12.toInt ≤ 60 from ⟨by omega, by omega⟩), (show 0 ≤ x13.toInt ∧ x13.toInt ≤ 8 from ⟨by omega, by omega⟩), (show 0 ≤ x15.toInt ∧ x15.toInt ≤ 1 from ⟨by omega, by omega⟩), hf2, hf3, hf5, (show -2 ≤ ((-2 : Int32)).toInt ∧ ((-2 : Int32)).toInt ≤ 11 from ⟨by decide, by decide⟩)⟩ hK hP hD hS [0, 1, 2, 3, 4, 5, 6, 7, 8, 9, 10] (by decide) rfl [] rfl) dX7_picture_22
set_option maxHeartbeats 4000000 in
set_option maxRecDepth 100000 in
theorem cr_X7_isIn_434 (l : Launch) (D : va_G) (F : Nat → Prop) (x0 : Int32) (x1 : Int32) (hx0 : x0.toInt ≤ -1) (hx1 : 0 ≤ x1.toInt ∧ x1.toInt ≤ 60) : ka_R l D F yX7_isIn wsX7_isIn 0 0 [.int x0, .int 0, .int x1] [] [] (fun v => v = some (.int 0)) := by
  refine ka_R_of (cc := cX7_isIn) (maxL := 3) (ret := (some .boolean)) (by decide) rfl (Nat.le_of_ble_eq_true rfl) ?_
  intro p e s m below meth c ls C hr hlk hP hK hE hN hl
  have hS : va_S (fun _ => False) s.heap s.heap [] := va_S.rf
  have C : CallFix p m c cX7_isIn 3 s [.int x0, .int 0, .int x1].toArray wsX7_isIn RX7 := C
  obtain ⟨hx, hb, hml, hown, hts⟩ := id C
  have hl : lv_has ls 3 [(0, .int x0), (1, .int 0), (2, .int x1)] := hl
  have rx0 := ka_rng x0
  have rx1 := ka_rng x1
  refine lv_iload_n hx hb dX7_isIn_0 rfl (lv_at hl 0 rfl) ?_
  refine lv_iload_n hx hb dX7_isIn_1 rfl (lv_at hl 1 rfl) ?_
  refine lv_icmp_lt (tgt := 14) hx hb dX7_isIn_2 (by decide) (fun _ => ?_) (fun c_ => absurd (by rw [ka_lt', show ((0 : Int32)).toInt = 0 from by decide]; omega) c_)
  refine lv_iconst (v := 0) hx hb dX7_isIn_14 (by decide) ?_
  exact ka_rRz C hr hlk rfl rfl dX7_isIn_15
set_option maxHeartbeats 4000000 in
set_option maxRecDepth 100000 in
theorem cr_X7_isText_435 (l : Launch) (D : va_G) (F : Nat → Prop) (a0 : Nat) (x0 : Int32) (a1 : Nat) (x1 : Int32) (a2 : Nat) (a3 : Nat) (a4 : Nat) (a5 : Nat) (a6 : Nat) (a7 : Nat) (a8 : Nat) (x2 : Int32) (x3 : Int32) (x4 : Int32) (x5 : Int32) (x6 : Int32) (x7 : Int32) (x8 : Int32) (a9 : Nat) (a10 : Nat) (a11 : Nat) (a12 : Nat) (a13 : Nat) (a14 : Nat) (x9 : Int32) (x10 : Int32) (x11 : Int32) (x12 : Int32) (x13 : Int32) (x14 : Int32) (hx0 : x0.toInt ≤ -1) (hx1 : 0 ≤ x1.toInt ∧ x1.toInt ≤ 80) (hx2 : 0 ≤ x2.toInt ∧ x2.toInt ≤ 5) (hx5 : 1 ≤ x5.toInt ∧ x5.toInt ≤ 8) (hx6 : 0 ≤ x6.toInt ∧ x6.toInt ≤ 40) (hx8 : 0 ≤ x8.toInt ∧ x8.toInt ≤ 10) (hx9 : 0 ≤ x9.toInt ∧ x9.toInt ≤ 60) (hx10 : 0 ≤ x10.toInt ∧ x10.toInt ≤ 60) (hx11 : 0 ≤ x11.toInt ∧ x11.toInt ≤ 60) (hx12 : 0 ≤ x12.toInt ∧ x12.toInt ≤ 8) (hx14 : 0 ≤ x14.toInt ∧ x14.toInt ≤ 1) : ka_R l D F yX7_isText wsX7_isText 1 22 [.ref a0, .int x0] [(a0, .inr (7, [.ref a1, .int x1, .ref a2, .ref a3, .ref a4, .ref a5, .ref a6, .ref a7, .ref a8, .int x2, .int x3, .int x4, .int x5, .int x6, .int x7, .int x8, .ref a9, .ref a10, .ref a11, .ref a12, .ref a13, .ref a14, .int x9, .int x10, .int x11, .int x12, .int x13, .int x14]))] [] (fun v => v = some (.int 0)) := by
  refine ka_R_of (cc := cX7_isText) (maxL := 2) (ret := (some .boolean)) (by decide) rfl (Nat.le_of_ble_eq_true rfl) ?_
  intro p e s m below meth c ls C hr hlk hP hK hE hN hl
  have hS : va_S (fun _ => False) s.heap s.heap [] := va_S.rf
  have C : CallFix p m c cX7_isText 2 s [.ref a0, .int x0].toArray wsX7_isText RX7 := C
  obtain ⟨hx, hb, hml, hown, hts⟩ := id C
  have hl : lv_has ls 2 [(0, .ref a0), (1, .int x0)] := hl
  have rx0 := ka_rng x0
  have rx1 := ka_rng x1
  have rx2 := ka_rng x2
  have rx3 := ka_rng x3
  have rx4 := ka_rng x4
  have rx5 := ka_rng x5
  have rx6 := ka_rng x6
  have rx7 := ka_rng x7
  have rx8 := ka_rng x8
  have rx9 := ka_rng x9
  have rx10 := ka_rng x10
  have rx11 := ka_rng x11
  have rx12 := ka_rng x12
  have rx13 := ka_rng x13
  have rx14 := ka_rng x14
  refine lv_iload_n hx hb dX7_isText_0 rfl (lv_at hl 1 rfl) ?_
  refine lv_iconst (v := 0) hx hb dX7_isText_1 (by decide) ?_
  refine lv_bipush (v := 60) hx hb dX7_isText_2 (by decide) ?_
  refine lv_aload_n hx hb dX7_isText_4 rfl (lv_at hl 0 rfl) ?_
  refine ka_get C lq_373 rfl hK hP 0 rfl 1 (by decide) lq_374 rfl dX7_isText_5 ?_
  refine va_mmin hx hb (hml.trans hl.1.symm) hown (hts _ lq_375) (hts _ lq_376) (hts _ lq_377) (hts _ lq_378) (Nat.le_of_ble_eq_true rfl) (Nat.le_of_ble_eq_true rfl) (Nat.le_of_ble_eq_true rfl) (Nat.le_of_ble_eq_true rfl) dX7_isText_8 ?_
  refine lv_topi (fun v_33673 ev_33673 => ?_)
  have fv_33673 := kb_min 60 x1; rw [← ev_33673] at fv_33673
  rw [show ((60 : Int32)).toInt = 60 from by decide] at fv_33673
  refine ka_RS (n := 3) C (cr_X7_isIn_434 l D F x0 v_33673 (by omega) ⟨by omega, by omega⟩) gX7_isText_X7_isIn rfl (by decide +kernel) ⟨Nat.le_of_ble_eq_true rfl, Nat.le_of_ble_eq_true rfl⟩ hK hP hS hE hN [] rfl [] rfl rfl hl.1 (rest := []) rfl (Nat.le_of_ble_eq_true rfl) dX7_isText_11 ⟨Nat.le_of_ble_eq_true rfl, Nat.le_of_ble_eq_true rfl⟩ (fun v hv => ?_)
  subst hv
  refine ka_stk (w := [.int 0]) rfl ?_
  exact ka_rRz C hr hlk rfl rfl dX7_isText_14
set_option maxHeartbeats 4000000 in
set_option maxRecDepth 100000 in
theorem cr_X7_isIn_436 (l : Launch) (D : va_G) (F : Nat → Prop) (x0 : Int32) (x1 : Int32) (hx0 : 0 ≤ x0.toInt ∧ x0.toInt ≤ 60) (hx1 : 0 ≤ x1.toInt ∧ x1.toInt ≤ 60) : ka_R l D F yX7_isIn wsX7_isIn 0 0 [.int x0, .int 0, .int x1] [] [] (fun v => ∃ x : Int32, v = some (.int x) ∧ 0 ≤ x.toInt ∧ x.toInt ≤ 1) := by
  refine ka_R_of (cc := cX7_isIn) (maxL := 3) (ret := (some .boolean)) (by decide) rfl (Nat.le_of_ble_eq_true rfl) ?_
  intro p e s m below meth c ls C hr hlk hP hK hE hN hl
  have hS : va_S (fun _ => False) s.heap s.heap [] := va_S.rf
  have C : CallFix p m c cX7_isIn 3 s [.int x0, .int 0, .int x1].toArray wsX7_isIn RX7 := C
  obtain ⟨hx, hb, hml, hown, hts⟩ := id C
  have hl : lv_has ls 3 [(0, .int x0), (1, .int 0), (2, .int x1)] := hl
  have rx0 := ka_rng x0
  have rx1 := ka_rng x1
  refine lv_iload_n hx hb dX7_isIn_0 rfl (lv_at hl 0 rfl) ?_
  refine lv_iload_n hx hb dX7_isIn_1 rfl (lv_at hl 1 rfl) ?_
  refine lv_icmp_lt (tgt := 14) hx hb dX7_isIn_2 (by decide) (fun c_ => absurd c_ (by rw [ka_lt', show ((0 : Int32)).toInt = 0 from by decide]; omega)) (fun _ => ?_)
  refine lv_iload_n hx hb dX7_isIn_5 rfl (lv_at hl 0 rfl) ?_
  refine lv_iload_n hx hb dX7_isIn_6 rfl (lv_at hl 2 rfl) ?_
  refine lv_icmp_gt (tgt := 14) hx hb dX7_isIn_7 (by decide) (fun c_33734 => ?_) (fun c_33734 => ?_)
  · have c_33734 : x1.toInt < x0.toInt := by rw [ka_lt'] at c_33734; exact c_33734
    refine lv_iconst (v := 0) hx hb dX7_isIn_14 (by decide) ?_
    exact ka_rRz C hr hlk rfl ⟨_, rfl, ⟨by decide, by decide⟩⟩ dX7_isIn_15
  · have c_33734 : ¬ x1.toInt < x0.toInt := by rw [ka_lt'] at c_33734; exact c_33734
    refine lv_iconst (v := 1) hx hb dX7_isIn_10 (by decide) ?_
    refine lv_goto (tgt := 15) hx hb dX7_isIn_11 (by decide) ?_
    exact ka_rRz C hr hlk rfl ⟨_, rfl, ⟨by decide, by decide⟩⟩ dX7_isIn_15
set_option maxHeartbeats 4000000 in
set_option maxRecDepth 100000 in
theorem cr_X7_isText_437 (l : Launch) (D : va_G) (F : Nat → Prop) (a0 : Nat) (x0 : Int32) (a1 : Nat) (x1 : Int32) (a2 : Nat) (a3 : Nat) (a4 : Nat) (a5 : Nat) (a6 : Nat) (a7 : Nat) (a8 : Nat) (x2 : Int32) (x3 : Int32) (x4 : Int32) (x5 : Int32) (x6 : Int32) (x7 : Int32) (x8 : Int32) (a9 : Nat) (a10 : Nat) (a11 : Nat) (a12 : Nat) (a13 : Nat) (a14 : Nat) (x9 : Int32) (x10 : Int32) (x11 : Int32) (x12 : Int32) (x13 : Int32) (x14 : Int32) (hx0 : 0 ≤ x0.toInt ∧ x0.toInt ≤ 60) (hx1 : 0 ≤ x1.toInt ∧ x1.toInt ≤ 80) (hx2 : 0 ≤ x2.toInt ∧ x2.toInt ≤ 5) (hx5 : 1 ≤ x5.toInt ∧ x5.toInt ≤ 8) (hx6 : 0 ≤ x6.toInt ∧ x6.toInt ≤ 40) (hx8 : 0 ≤ x8.toInt ∧ x8.toInt ≤ 10) (hx9 : 0 ≤ x9.toInt ∧ x9.toInt ≤ 60) (hx10 : 0 ≤ x10.toInt ∧ x10.toInt ≤ 60) (hx11 : 0 ≤ x11.toInt ∧ x11.toInt ≤ 60) (hx12 : 0 ≤ x12.toInt ∧ x12.toInt ≤ 8) (hx14 : 0 ≤ x14.toInt ∧ x14.toInt ≤ 1) : ka_R l D F yX7_isText wsX7_isText 1 22 [.ref a0, .int x0] [(a0, .inr (7, [.ref a1, .int x1, .ref a2, .ref a3, .ref a4, .ref a5, .ref a6, .ref a7, .ref a8, .int x2, .int x3, .int x4, .int x5, .int x6, .int x7, .int x8, .ref a9, .ref a10, .ref a11, .ref a12, .ref a13, .ref a14, .int x9, .int x10, .int x11, .int x12, .int x13, .int x14]))] [] (fun v => ∃ x : Int32, v = some (.int x) ∧ 0 ≤ x.toInt ∧ x.toInt ≤ 1) := by
  refine ka_R_of (cc := cX7_isText) (maxL := 2) (ret := (some .boolean)) (by decide) rfl (Nat.le_of_ble_eq_true rfl) ?_
  intro p e s m below meth c ls C hr hlk hP hK hE hN hl
  have hS : va_S (fun _ => False) s.heap s.heap [] := va_S.rf
  have C : CallFix p m c cX7_isText 2 s [.ref a0, .int x0].toArray wsX7_isText RX7 := C
  obtain ⟨hx, hb, hml, hown, hts⟩ := id C
  have hl : lv_has ls 2 [(0, .ref a0), (1, .int x0)] := hl
  have rx0 := ka_rng x0
  have rx1 := ka_rng x1
  have rx2 := ka_rng x2
  have rx3 := ka_rng x3
  have rx4 := ka_rng x4
  have rx5 := ka_rng x5
  have rx6 := ka_rng x6
  have rx7 := ka_rng x7
  have rx8 := ka_rng x8
  have rx9 := ka_rng x9
  have rx10 := ka_rng x10
  have rx11 := ka_rng x11
  have rx12 := ka_rng x12
  have rx13 := ka_rng x13
  have rx14 := ka_rng x14
  refine lv_iload_n hx hb dX7_isText_0 rfl (lv_at hl 1 rfl) ?_
  refine lv_iconst (v := 0) hx hb dX7_isText_1 (by decide) ?_
  refine lv_bipush (v := 60) hx hb dX7_isText_2 (by decide) ?_
  refine lv_aload_n hx hb dX7_isText_4 rfl (lv_at hl 0 rfl) ?_
  refine ka_get C lq_373 rfl hK hP 0 rfl 1 (by decide) lq_374 rfl dX7_isText_5 ?_
  refine va_mmin hx hb (hml.trans hl.1.symm) hown (hts _ lq_375) (hts _ lq_376) (hts _ lq_377) (hts _ lq_378) (Nat.le_of_ble_eq_true rfl) (Nat.le_of_ble_eq_true rfl) (Nat.le_of_ble_eq_true rfl) (Nat.le_of_ble_eq_true rfl) dX7_isText_8 ?_
  refine lv_topi (fun v_33738 ev_33738 => ?_)
  have fv_33738 := kb_min 60 x1; rw [← ev_33738] at fv_33738
  rw [show ((60 : Int32)).toInt = 60 from by decide] at fv_33738
  refine ka_RS (n := 3) C (cr_X7_isIn_436 l D F x0 v_33738 ⟨by omega, by omega⟩ ⟨by omega, by omega⟩) gX7_isText_X7_isIn rfl (by decide +kernel) ⟨Nat.le_of_ble_eq_true rfl, Nat.le_of_ble_eq_true rfl⟩ hK hP hS hE hN [] rfl [] rfl rfl hl.1 (rest := []) rfl (Nat.le_of_ble_eq_true rfl) dX7_isText_11 ⟨Nat.le_of_ble_eq_true rfl, Nat.le_of_ble_eq_true rfl⟩ (fun v hv => ?_)
  obtain ⟨v_33739, rfl, hv_33739⟩ := hv
  have rv_33739 := ka_rng v_33739
  refine ka_stk (w := [.int v_33739]) rfl ?_
  exact ka_rRz C hr hlk (kb_nz ⟨by omega, by omega⟩) ⟨_, rfl, ⟨by omega, by omega⟩⟩ dX7_isText_14
set_option maxHeartbeats 4000000 in
set_option maxRecDepth 100000 in
theorem cr_X7_blanks_438 (l : Launch) (D : va_G) (F : Nat → Prop) (a0 : Nat) (a1 : Nat) (x0 : Int32) (a2 : Nat) (a3 : Nat) (a4 : Nat) (a5 : Nat) (a6 : Nat) (a7 : Nat) (a8 : Nat) (x1 : Int32) (x2 : Int32) (x3 : Int32) (x4 : Int32) (x5 : Int32) (x6 : Int32) (x7 : Int32) (a9 : Nat) (a10 : Nat) (a11 : Nat) (a12 : Nat) (a13 : Nat) (a14 : Nat) (x8 : Int32) (x9 : Int32) (x10 : Int32) (x11 : Int32) (x12 : Int32) (x13 : Int32) (k0 : ClassId) (f0 : Nat → Int32) (hx0 : 0 ≤ x0.toInt ∧ x0.toInt ≤ 80) (hx1 : 0 ≤ x1.toInt ∧ x1.toInt ≤ 5) (hx4 : 1 ≤ x4.toInt ∧ x4.toInt ≤ 8) (hx5 : 0 ≤ x5.toInt ∧ x5.toInt ≤ 40) (hx7 : 0 ≤ x7.toInt ∧ x7.toInt ≤ 10) (hx8 : 0 ≤ x8.toInt ∧ x8.toInt ≤ 60) (hx9 : 0 ≤ x9.toInt ∧ x9.toInt ≤ 60) (hx10 : 0 ≤ x10.toInt ∧ x10.toInt ≤ 60) (hx11 : 0 ≤ x11.toInt ∧ x11.toInt ≤ 8) (hx13 : 0 ≤ x13.toInt ∧ x13.toInt ≤ 1) (hf0 : sb_Fit f0) (hpre : 0 ≤ x9.toInt ∧ x9.toInt ≤ x10.toInt ∧ x10.toInt ≤ 60) : ka_E l D F yX7_blanks wsX7_blanks 0 0 0 0 [.ref a0] [(a0, .inr (7, [.ref a1, .int x0, .ref a2, .ref a3, .ref a4, .ref a5, .ref a6, .ref a7, .ref a8, .int x1, .int x2, .int x3, .int x4, .int x5, .int x6, .int x7, .ref a9, .ref a10, .ref a11, .ref a12, .ref a13, .ref a14, .int x8, .int x9, .int x10, .int x11, .int x12, .int x13])), (a1, .inl (k0, 80, .inl f0))] [(k0, .byte)] (fun (u : (Int32)) => none) (fun (u : (Int32)) => (0 ≤ u.toInt ∧ u.toInt ≤ 60) ∧ (x9.toInt ≤ u.toInt ∧ u.toInt ≤ x10.toInt)) (fun (u : (Int32)) => [(a0, .inr (7, [.ref a1, .int x0, .ref a2, .ref a3, .ref a4, .ref a5, .ref a6, .ref a7, .ref a8, .int x1, .int x2, .int x3, .int x4, .int x5, .int x6, .int x7, .ref a9, .ref a10, .ref a11, .ref a12, .ref a13, .ref a14, .int x8, .int u, .int x10, .int x11, .int x12, .int x13])), (a1, .inl (k0, 80, .inl f0))]) (fun (u : (Int32)) => []) := by
  refine ka_E_of (cc := cX7_blanks) (maxL := 1) (ret := none) (by decide) rfl (Nat.le_of_ble_eq_true rfl) ?_
  intro p e s m below meth c ls A C hr hlk hin hP hK hD hS hA hE hN hl
  have C : CallFix p m c cX7_blanks 1 s [.ref a0].toArray wsX7_blanks RX7 := C
  obtain ⟨hx, hb, hml, hown, hts⟩ := id C
  have hl : lv_has ls 1 [(0, .ref a0)] := hl
  have rx0 := ka_rng x0
  have rx1 := ka_rng x1
  have rx2 := ka_rng x2
  have rx3 := ka_rng x3
  have rx4 := ka_rng x4
  have rx5 := ka_rng x5
  have rx6 := ka_rng x6
  have rx7 := ka_rng x7
  have rx8 := ka_rng x8
  have rx9 := ka_rng x9
  have rx10 := ka_rng x10
  have rx11 := ka_rng x11
  have rx12 := ka_rng x12
  have rx13 := ka_rng x13
  have lp_33864 : ∀ (n : Nat) (y33864_0_23 : Int32), (0 ≤ y33864_0_23.toInt ∧ y33864_0_23.toInt ≤ 60) → (x9.toInt ≤ y33864_0_23.toInt ∧ y33864_0_23.toInt ≤ x10.toInt) → (x10.toInt - y33864_0_23.toInt).toNat < n → ∀ (H : Heap) (locs : List Loc), va_P D vwCl [(a0, .inr (7, [.ref a1, .int x0, .ref a2, .ref a3, .ref a4, .ref a5, .ref a6, .ref a7, .ref a8, .int x1, .int x2, .int x3, .int x4, .int x5, .int x6, .int x7, .ref a9, .ref a10, .ref a11, .ref a12, .ref a13, .ref a14, .int x8, .int y33864_0_23, .int x10, .int x11, .int x12, .int x13])), (a1, .inl (k0, 80, .inl f0))] H → va_D A [(a0, .inr (7, [.ref a1, .int x0, .ref a2, .ref a3, .ref a4, .ref a5, .ref a6, .ref a7, .ref a8, .int x1, .int x2, .int x3, .int x4, .int x5, .int x6, .int x7, .ref a9, .ref a10, .ref a11, .ref a12, .ref a13, .ref a14, .int x8, .int y33864_0_23, .int x10, .int x11, .int x12, .int x13])), (a1, .inl (k0, 80, .inl f0))] → va_S A s.heap H locs → ∀ (ls : Array Slot), lv_has ls 1 [(0, .ref a0)] → W p l e ({ frames := 0, cells := 0, slots := 0, locals := 0 }) s m [.ref a0].toArray below meth c H locs 0 0 (MQ below (ka_QE D A (fun (u : (Int32)) => none) (fun (u : (Int32)) => (0 ≤ u.toInt ∧ u.toInt ≤ 60) ∧ (x9.toInt ≤ u.toInt ∧ u.toInt ≤ x10.toInt)) (fun (u : (Int32)) => [(a0, .inr (7, [.ref a1, .int x0, .ref a2, .ref a3, .ref a4, .ref a5, .ref a6, .ref a7, .ref a8, .int x1, .int x2, .int x3, .int x4, .int x5, .int x6, .int x7, .ref a9, .ref a10, .ref a11, .ref a12, .ref a13, .ref a14, .int x8, .int u, .int x10, .int x11, .int x12, .int x13])), (a1, .inl (k0, 80, .inl f0))]) (fun (u : (Int32)) => [])) [.ref a0].toArray s 0 0 A) (F0 m 0 ls []) := by
    intro n
    induction n with
    | zero =>
      intro y33864_0_23 hy33864_0_23 hx33864 hm
      exact absurd hm (Nat.not_lt_zero _)
    | succ n ih_33864 =>
      intro y33864_0_23 hy33864_0_23 hx33864 hm H locs hP hD hS ls hl
      have ry33864_0_23 := ka_rng y33864_0_23
      refine lv_aload_n hx hb dX7_blanks_0 rfl (lv_at hl 0 rfl) ?_
      refine ka_get C lq_274 rfl hK hP 0 rfl 23 (by decide) lq_275 rfl dX7_blanks_1 ?_
      refine lv_aload_n hx hb dX7_blanks_4 rfl (lv_at hl 0 rfl) ?_
      refine ka_get C lq_274 rfl hK hP 0 rfl 24 (by decide) lq_276 rfl dX7_blanks_5 ?_
      refine lv_icmp_ge (tgt := 52) hx hb dX7_blanks_8 (by decide) (fun c_33872 => ?_) (fun c_33872 => ?_)
      · have c_33872 : x10.toInt ≤ y33864_0_23.toInt := by rw [ka_le'] at c_33872; exact c_33872
        exact ka_rEv C hr hlk (Nat.le_of_ble_eq_true rfl) (Nat.le_of_ble_eq_true rfl) hS (ka_qE y33864_0_23 rfl ⟨(show 0 ≤ y33864_0_23.toInt ∧ y33864_0_23.toInt ≤ 60 from ⟨by omega, by omega⟩), (show x9.toInt ≤ y33864_0_23.toInt ∧ y33864_0_23.toInt ≤ x10.toInt from by omega)⟩ hK hP hD hS [0, 1] (by decide) rfl [] rfl) dX7_blanks_52
      · have c_33872 : ¬ x10.toInt ≤ y33864_0_23.toInt := by rw [ka_le'] at c_33872; exact c_33872
        refine lv_aload_n hx hb dX7_blanks_11 rfl (lv_at hl 0 rfl) ?_
        refine ka_get C lq_274 rfl hK hP 0 rfl 0 (by decide) lq_277 rfl dX7_blanks_12 ?_
        refine lv_aload_n hx hb dX7_blanks_15 rfl (lv_at hl 0 rfl) ?_
        refine ka_get C lq_274 rfl hK hP 0 rfl 23 (by decide) lq_275 rfl dX7_blanks_16 ?_
        refine va_bald hx hb hK hP 1 0 rfl rfl (ka_in (by omega) (by omega)) dX7_blanks_19 ?_
        refine lv_topi (fun v_33873 ev_33873 => ?_)
        refine lv_bipush (v := 32) hx hb dX7_blanks_20 (by decide) ?_
        refine lv_icmp_eq (tgt := 39) hx hb dX7_blanks_22 (by decide) (fun c_33874 => ?_) (fun c_33874 => ?_)
        · have c_33874 : v_33873.toInt = 32 := by rw [ka_eq', show ((32 : Int32)).toInt = 32 from by decide] at c_33874; exact c_33874
          refine lv_aload_n hx hb dX7_blanks_39 rfl (lv_at hl 0 rfl) ?_
          refine lv_dup hx hb dX7_blanks_40 rfl ?_
          refine ka_get C lq_274 rfl hK hP 0 rfl 23 (by decide) lq_275 rfl dX7_blanks_41 ?_
          refine lv_iconst (v := 1) hx hb dX7_blanks_44 (by decide) ?_
          refine lv_iadd hx hb dX7_blanks_45 ?_
          refine lv_topi (fun v_33875 ev_33875 => ?_)
          have fv_33875 : v_33875.toInt = y33864_0_23.toInt + 1 := by rw [ev_33875]; exact ka_add (x := y33864_0_23.toInt) (y := 1) rfl (by decide) (by omega) (by omega)
          refine ka_put C lq_274 tyX7 tyX7_ok nmX7 rfl hK hP hD hS 0 rfl 23 (by decide) lq_275 rfl rfl rfl (Nat.le_of_ble_eq_true rfl) dX7_blanks_46 (fun H locs hP hD hS => ?_)
          have hP : va_P D vwCl [(a0, .inr (7, [.ref a1, .int x0, .ref a2, .ref a3, .ref a4, .ref a5, .ref a6, .ref a7, .ref a8, .int x1, .int x2, .int x3, .int x4, .int x5, .int x6, .int x7, .ref a9, .ref a10, .ref a11, .ref a12, .ref a13, .ref a14, .int x8, .int v_33875, .int x10, .int x11, .int x12, .int x13])), (a1, .inl (k0, 80, .inl f0))] H := hP
          have hD : va_D A [(a0, .inr (7, [.ref a1, .int x0, .ref a2, .ref a3, .ref a4, .ref a5, .ref a6, .ref a7, .ref a8, .int x1, .int x2, .int x3, .int x4, .int x5, .int x6, .int x7, .ref a9, .ref a10, .ref a11, .ref a12, .ref a13, .ref a14, .int x8, .int v_33875, .int x10, .int x11, .int x12, .int x13])), (a1, .inl (k0, 80, .inl f0))] := hD
          refine lv_goto (tgt := 0) hx hb dX7_blanks_49 (by decide) ?_
          exact ih_33864 v_33875 ⟨by omega, by omega⟩ (by omega) (by omega) H locs (hP.sub [0, 1] rfl) (hD.sub [0, 1] (by decide) rfl) hS ls (lv_sub hl [0] rfl)
        · have c_33874 : ¬ v_33873.toInt = 32 := by rw [ka_eq', show ((32 : Int32)).toInt = 32 from by decide] at c_33874; exact c_33874
          refine lv_aload_n hx hb dX7_blanks_25 rfl (lv_at hl 0 rfl) ?_
          refine ka_get C lq_274 rfl hK hP 0 rfl 0 (by decide) lq_277 rfl dX7_blanks_26 ?_
          refine lv_aload_n hx hb dX7_blanks_29 rfl (lv_at hl 0 rfl) ?_
          refine ka_get C lq_274 rfl hK hP 0 rfl 23 (by decide) lq_275 rfl dX7_blanks_30 ?_
          refine va_bald hx hb hK hP 1 0 rfl rfl (ka_in (by omega) (by omega)) dX7_blanks_33 ?_
          refine lv_topi (fun v_33876 ev_33876 => ?_)
          refine lv_bipush (v := 10) hx hb dX7_blanks_34 (by decide) ?_
          refine lv_icmp_ne (tgt := 52) hx hb dX7_blanks_36 (by decide) (fun c_33877 => ?_) (fun c_33877 => ?_)
          · have c_33877 : ¬ v_33876.toInt = 10 := by rw [ka_eq', show ((10 : Int32)).toInt = 10 from by decide] at c_33877; exact c_33877
            exact ka_rEv C hr hlk (Nat.le_of_ble_eq_true rfl) (Nat.le_of_ble_eq_true rfl) hS (ka_qE y33864_0_23 rfl ⟨(show 0 ≤ y33864_0_23.toInt ∧ y33864_0_23.toInt ≤ 60 from ⟨by omega, by omega⟩), (show x9.toInt ≤ y33864_0_23.toInt ∧ y33864_0_23.toInt ≤ x10.toInt from by omega)⟩ hK hP hD hS [0, 1] (by decide) rfl [] rfl) dX7_blanks_52
          · have c_33877 : v_33876.toInt = 10 := by rw [ka_eq', show ((10 : Int32)).toInt = 10 from by decide] at c_33877; exact c_33877
            refine lv_aload_n hx hb dX7_blanks_39 rfl (lv_at hl 0 rfl) ?_
            refine lv_dup hx hb dX7_blanks_40 rfl ?_
            refine ka_get C lq_274 rfl hK hP 0 rfl 23 (by decide) lq_275 rfl dX7_blanks_41 ?_
            refine lv_iconst (v := 1) hx hb dX7_blanks_44 (by decide) ?_
            refine lv_iadd hx hb dX7_blanks_45 ?_
            refine lv_topi (fun v_33878 ev_33878 => ?_)
            have fv_33878 : v_33878.toInt = y33864_0_23.toInt + 1 := by rw [ev_33878]; exact ka_add (x := y33864_0_23.toInt) (y := 1) rfl (by decide) (by omega) (by omega)
            refine ka_put C lq_274 tyX7 tyX7_ok nmX7 rfl hK hP hD hS 0 rfl 23 (by decide) lq_275 rfl rfl rfl (Nat.le_of_ble_eq_true rfl) dX7_blanks_46 (fun H locs hP hD hS => ?_)
            have hP : va_P D vwCl [(a0, .inr (7, [.ref a1, .int x0, .ref a2, .ref a3, .ref a4, .ref a5, .ref a6, .ref a7, .ref a8, .int x1, .int x2, .int x3, .int x4, .int x5, .int x6, .int x7, .ref a9, .ref a10, .ref a11, .ref a12, .ref a13, .ref a14, .int x8, .int v_33878, .int x10, .int x11, .int x12, .int x13])), (a1, .inl (k0, 80, .inl f0))] H := hP
            have hD : va_D A [(a0, .inr (7, [.ref a1, .int x0, .ref a2, .ref a3, .ref a4, .ref a5, .ref a6, .ref a7, .ref a8, .int x1, .int x2, .int x3, .int x4, .int x5, .int x6, .int x7, .ref a9, .ref a10, .ref a11, .ref a12, .ref a13, .ref a14, .int x8, .int v_33878, .int x10, .int x11, .int x12, .int x13])), (a1, .inl (k0, 80, .inl f0))] := hD
            refine lv_goto (tgt := 0) hx hb dX7_blanks_49 (by decide) ?_
            exact ih_33864 v_33878 ⟨by omega, by omega⟩ (by omega) (by omega) H locs (hP.sub [0, 1] rfl) (hD.sub [0, 1] (by decide) rfl) hS ls (lv_sub hl [0] rfl)
  exact lp_33864 _ x9 ⟨by omega, by omega⟩ (by omega) (Nat.lt_succ_self _) _ _ hP hD hS ls (lv_sub hl [0] rfl)
set_option maxHeartbeats 4000000 in
set_option maxRecDepth 100000 in
theorem cr_X7_reads_439 (l : Launch) (D : va_G) (F : Nat → Prop) (a0 : Nat) (x0 : Int32) (a1 : Nat) (x1 : Int32) (a2 : Nat) (a3 : Nat) (a4 : Nat) (a5 : Nat) (a6 : Nat) (a7 : Nat) (a8 : Nat) (x2 : Int32) (x3 : Int32) (x4 : Int32) (x5 : Int32) (x6 : Int32) (x7 : Int32) (x8 : Int32) (a9 : Nat) (a10 : Nat) (a11 : Nat) (a12 : Nat) (a13 : Nat) (a14 : Nat) (x9 : Int32) (x10 : Int32) (x11 : Int32) (x12 : Int32) (x13 : Int32) (x14 : Int32) (k0 : ClassId) (f0 : Nat → Int32) (k1 : ClassId) (f1 : Nat → Int32) (k2 : ClassId) (f2 : Nat → Int32) (k3 : ClassId) (f3 : Nat → Int32) (k4 : ClassId) (f4 : Nat → Int32) (k5 : ClassId) (f5 : Nat → Int32) (k6 : ClassId) (f6 : Nat → Int32) (k7 : ClassId) (f7 : Nat → Int32) (hx0 : 0 ≤ x0.toInt ∧ x0.toInt ≤ 60) (hx1 : 0 ≤ x1.toInt ∧ x1.toInt ≤ 80) (hx2 : 0 ≤ x2.toInt ∧ x2.toInt ≤ 5) (hx5 : 1 ≤ x5.toInt ∧ x5.toInt ≤ 8) (hx6 : 0 ≤ x6.toInt ∧ x6.toInt ≤ 40) (hx8 : 0 ≤ x8.toInt ∧ x8.toInt ≤ 10) (hx9 : 0 ≤ x9.toInt ∧ x9.toInt ≤ 60) (hx10 : 0 ≤ x10.toInt ∧ x10.toInt ≤ 60) (hx11 : 0 ≤ x11.toInt ∧ x11.toInt ≤ 60) (hx12 : 0 ≤ x12.toInt ∧ x12.toInt ≤ 8) (hx14 : 0 ≤ x14.toInt ∧ x14.toInt ≤ 1) (hf0 : sb_Fit f0) (hf2 : ∀ j : Nat, 0 ≤ (f2 j).toInt ∧ (f2 j).toInt ≤ 60) (hf3 : sb_Fit f3) : ka_E l D F yX7_reads wsX7_reads 143 3574 0 0 [.ref a0, .int x0] [(a0, .inr (7, [.ref a1, .int x1, .ref a2, .ref a3, .ref a4, .ref a5, .ref a6, .ref a7, .ref a8, .int x2, .int x3, .int x4, .int x5, .int x6, .int x7, .int x8, .ref a9, .ref a10, .ref a11, .ref a12, .ref a13, .ref a14, .int x9, .int x10, .int x11, .int x12, .int x13, .int x14])), (a1, .inl (k0, 80, .inl f0)), (a2, .inl (k1, 89, .inl f1)), (a3, .inl (k2, 89, .inl f2)), (a4, .inl (k3, 5340, .inl f3)), (a11, .inl (k4, 60, .inl f4)), (a12, .inl (k5, 60, .inl f5)), (a13, .inl (k6, 60, .inl f6)), (a14, .inl (k7, 60, .inl f7))] [(k0, .byte), (k1, .int), (k2, .int), (k3, .byte), (k4, .int), (k5, .int), (k6, .int), (k7, .int)] (fun (u : (Int32) × (Int32) × (Int32) × (Int32) × (Int32) × (Nat → Int32) × (Nat → Int32) × (Nat → Int32) × (Nat → Int32) × (Nat → Int32) × (Nat → Int32) × (Nat → Int32) × (Int32)) => some (.int (u.2.2.2.2.2.2.2.2.2.2.2.2))) (fun (u : (Int32) × (Int32) × (Int32) × (Int32) × (Int32) × (Nat → Int32) × (Nat → Int32) × (Nat → Int32) × (Nat → Int32) × (Nat → Int32) × (Nat → Int32) × (Nat → Int32) × (Int32)) => (0 ≤ (u.1).toInt ∧ (u.1).toInt ≤ 60) ∧ (0 ≤ (u.2.1).toInt ∧ (u.2.1).toInt ≤ 60) ∧ (0 ≤ (u.2.2.1).toInt ∧ (u.2.2.1).toInt ≤ 8) ∧ (0 ≤ (u.2.2.2.2.1).toInt ∧ (u.2.2.2.2.1).toInt ≤ 1) ∧ (∀ j : Nat, 0 ≤ ((u.2.2.2.2.2.2.1) j).toInt ∧ ((u.2.2.2.2.2.2.1) j).toInt ≤ 60) ∧ (sb_Fit (u.2.2.2.2.2.2.2.1)) ∧ (0 ≤ (u.2.2.2.2.2.2.2.2.2.2.2.2).toInt ∧ (u.2.2.2.2.2.2.2.2.2.2.2.2).toInt ≤ 1)) (fun (u : (Int32) × (Int32) × (Int32) × (Int32) × (Int32) × (Nat → Int32) × (Nat → Int32) × (Nat → Int32) × (Nat → Int32) × (Nat → Int32) × (Nat → Int32) × (Nat → Int32) × (Int32)) => [(a0, .inr (7, [.ref a1, .int 0, .ref a2, .ref a3, .ref a4, .ref a5, .ref a6, .ref a7, .ref a8, .int x2, .int x3, .int x4, .int x5, .int x6, .int x7, .int x8, .ref a9, .ref a10, .ref a11, .ref a12, .ref a13, .ref a14, .int (u.1), .int (u.2.1), .int x0, .int (u.2.2.1), .int (u.2.2.2.1), .int (u.2.2.2.2.1)])), (a1, .inl (k0, 80, .inl f0)), (a2, .inl (k1, 89, .inl (u.2.2.2.2.2.1))), (a3, .inl (k2, 89, .inl (u.2.2.2.2.2.2.1))), (a4, .inl (k3, 5340, .inl (u.2.2.2.2.2.2.2.1))), (a11, .inl (k4, 60, .inl (u.2.2.2.2.2.2.2.2.1))), (a12, .inl (k5, 60, .inl (u.2.2.2.2.2.2.2.2.2.1))), (a13, .inl (k6, 60, .inl (u.2.2.2.2.2.2.2.2.2.2.1))), (a14, .inl (k7, 60, .inl (u.2.2.2.2.2.2.2.2.2.2.2.1)))]) (fun (u : (Int32) × (Int32) × (Int32) × (Int32) × (Int32) × (Nat → Int32) × (Nat → Int32) × (Nat → Int32) × (Nat → Int32) × (Nat → Int32) × (Nat → Int32) × (Nat → Int32) × (Int32)) => []) := by
  refine ka_E_of (cc := cX7_reads) (maxL := 3) (ret := (some .boolean)) (by decide) rfl (Nat.le_of_ble_eq_true rfl) ?_
  intro p e s m below meth c ls A C hr hlk hin hP hK hD hS hA hE hN hl
  have C : CallFix p m c cX7_reads 3 s [.ref a0, .int x0].toArray wsX7_reads RX7 := C
  obtain ⟨hx, hb, hml, hown, hts⟩ := id C
  have hl : lv_has ls 3 [(0, .ref a0), (1, .int x0)] := hl
  have rx0 := ka_rng x0
  have rx1 := ka_rng x1
  have rx2 := ka_rng x2
  have rx3 := ka_rng x3
  have rx4 := ka_rng x4
  have rx5 := ka_rng x5
  have rx6 := ka_rng x6
  have rx7 := ka_rng x7
  have rx8 := ka_rng x8
  have rx9 := ka_rng x9
  have rx10 := ka_rng x10
  have rx11 := ka_rng x11
  have rx12 := ka_rng x12
  have rx13 := ka_rng x13
  have rx14 := ka_rng x14
  refine lv_aload_n hx hb dX7_reads_0 rfl (lv_at hl 0 rfl) ?_
  refine lv_iconst (v := 0) hx hb dX7_reads_1 (by decide) ?_
  refine ka_put C lqr_432 tyX7 tyX7_ok nmX7 rfl hK hP hD hS 0 rfl 22 (by decide) lqr_433 rfl rfl rfl (Nat.le_of_ble_eq_true rfl) dX7_reads_2 (fun H locs hP hD hS => ?_)
  have hP : va_P D vwCl [(a0, .inr (7, [.ref a1, .int x1, .ref a2, .ref a3, .ref a4, .ref a5, .ref a6, .ref a7, .ref a8, .int x2, .int x3, .int x4, .int x5, .int x6, .int x7, .int x8, .ref a9, .ref a10, .ref a11, .ref a12, .ref a13, .ref a14, .int 0, .int x10, .int x11, .int x12, .int x13, .int x14])), (a1, .inl (k0, 80, .inl f0)), (a2, .inl (k1, 89, .inl f1)), (a3, .inl (k2, 89, .inl f2)), (a4, .inl (k3, 5340, .inl f3)), (a11, .inl (k4, 60, .inl f4)), (a12, .inl (k5, 60, .inl f5)), (a13, .inl (k6, 60, .inl f6)), (a14, .inl (k7, 60, .inl f7))] H := hP
  have hD : va_D A [(a0, .inr (7, [.ref a1, .int x1, .ref a2, .ref a3, .ref a4, .ref a5, .ref a6, .ref a7, .ref a8, .int x2, .int x3, .int x4, .int x5, .int x6, .int x7, .int x8, .ref a9, .ref a10, .ref a11, .ref a12, .ref a13, .ref a14, .int 0, .int x10, .int x11, .int x12, .int x13, .int x14])), (a1, .inl (k0, 80, .inl f0)), (a2, .inl (k1, 89, .inl f1)), (a3, .inl (k2, 89, .inl f2)), (a4, .inl (k3, 5340, .inl f3)), (a11, .inl (k4, 60, .inl f4)), (a12, .inl (k5, 60, .inl f5)), (a13, .inl (k6, 60, .inl f6)), (a14, .inl (k7, 60, .inl f7))] := hD
  refine lv_aload_n hx hb dX7_reads_5 rfl (lv_at hl 0 rfl) ?_
  refine lv_iconst (v := 0) hx hb dX7_reads_6 (by decide) ?_
  refine ka_put C lqr_432 tyX7 tyX7_ok nmX7 rfl hK hP hD hS 0 rfl 23 (by decide) lqr_434 rfl rfl rfl (Nat.le_of_ble_eq_true rfl) dX7_reads_7 (fun H locs hP hD hS => ?_)
  have hP : va_P D vwCl [(a0, .inr (7, [.ref a1, .int x1, .ref a2, .ref a3, .ref a4, .ref a5, .ref a6, .ref a7, .ref a8, .int x2, .int x3, .int x4, .int x5, .int x6, .int x7, .int x8, .ref a9, .ref a10, .ref a11, .ref a12, .ref a13, .ref a14, .int 0, .int 0, .int x11, .int x12, .int x13, .int x14])), (a1, .inl (k0, 80, .inl f0)), (a2, .inl (k1, 89, .inl f1)), (a3, .inl (k2, 89, .inl f2)), (a4, .inl (k3, 5340, .inl f3)), (a11, .inl (k4, 60, .inl f4)), (a12, .inl (k5, 60, .inl f5)), (a13, .inl (k6, 60, .inl f6)), (a14, .inl (k7, 60, .inl f7))] H := hP
  have hD : va_D A [(a0, .inr (7, [.ref a1, .int x1, .ref a2, .ref a3, .ref a4, .ref a5, .ref a6, .ref a7, .ref a8, .int x2, .int x3, .int x4, .int x5, .int x6, .int x7, .int x8, .ref a9, .ref a10, .ref a11, .ref a12, .ref a13, .ref a14, .int 0, .int 0, .int x11, .int x12, .int x13, .int x14])), (a1, .inl (k0, 80, .inl f0)), (a2, .inl (k1, 89, .inl f1)), (a3, .inl (k2, 89, .inl f2)), (a4, .inl (k3, 5340, .inl f3)), (a11, .inl (k4, 60, .inl f4)), (a12, .inl (k5, 60, .inl f5)), (a13, .inl (k6, 60, .inl f6)), (a14, .inl (k7, 60, .inl f7))] := hD
  refine lv_aload_n hx hb dX7_reads_10 rfl (lv_at hl 0 rfl) ?_
  refine lv_iload_n hx hb dX7_reads_11 rfl (lv_at hl 1 rfl) ?_
  refine ka_put C lqr_432 tyX7 tyX7_ok nmX7 rfl hK hP hD hS 0 rfl 24 (by decide) lqr_435 rfl rfl rfl (Nat.le_of_ble_eq_true rfl) dX7_reads_12 (fun H locs hP hD hS => ?_)
  have hP : va_P D vwCl [(a0, .inr (7, [.ref a1, .int x1, .ref a2, .ref a3, .ref a4, .ref a5, .ref a6, .ref a7, .ref a8, .int x2, .int x3, .int x4, .int x5, .int x6, .int x7, .int x8, .ref a9, .ref a10, .ref a11, .ref a12, .ref a13, .ref a14, .int 0, .int 0, .int x0, .int x12, .int x13, .int x14])), (a1, .inl (k0, 80, .inl f0)), (a2, .inl (k1, 89, .inl f1)), (a3, .inl (k2, 89, .inl f2)), (a4, .inl (k3, 5340, .inl f3)), (a11, .inl (k4, 60, .inl f4)), (a12, .inl (k5, 60, .inl f5)), (a13, .inl (k6, 60, .inl f6)), (a14, .inl (k7, 60, .inl f7))] H := hP
  have hD : va_D A [(a0, .inr (7, [.ref a1, .int x1, .ref a2, .ref a3, .ref a4, .ref a5, .ref a6, .ref a7, .ref a8, .int x2, .int x3, .int x4, .int x5, .int x6, .int x7, .int x8, .ref a9, .ref a10, .ref a11, .ref a12, .ref a13, .ref a14, .int 0, .int 0, .int x0, .int x12, .int x13, .int x14])), (a1, .inl (k0, 80, .inl f0)), (a2, .inl (k1, 89, .inl f1)), (a3, .inl (k2, 89, .inl f2)), (a4, .inl (k3, 5340, .inl f3)), (a11, .inl (k4, 60, .inl f4)), (a12, .inl (k5, 60, .inl f5)), (a13, .inl (k6, 60, .inl f6)), (a14, .inl (k7, 60, .inl f7))] := hD
  refine lv_aload_n hx hb dX7_reads_15 rfl (lv_at hl 0 rfl) ?_
  refine lv_iconst (v := 0) hx hb dX7_reads_16 (by decide) ?_
  refine ka_put C lqr_432 tyX7 tyX7_ok nmX7 rfl hK hP hD hS 0 rfl 25 (by decide) lqr_436 rfl rfl rfl (Nat.le_of_ble_eq_true rfl) dX7_reads_17 (fun H locs hP hD hS => ?_)
  have hP : va_P D vwCl [(a0, .inr (7, [.ref a1, .int x1, .ref a2, .ref a3, .ref a4, .ref a5, .ref a6, .ref a7, .ref a8, .int x2, .int x3, .int x4, .int x5, .int x6, .int x7, .int x8, .ref a9, .ref a10, .ref a11, .ref a12, .ref a13, .ref a14, .int 0, .int 0, .int x0, .int 0, .int x13, .int x14])), (a1, .inl (k0, 80, .inl f0)), (a2, .inl (k1, 89, .inl f1)), (a3, .inl (k2, 89, .inl f2)), (a4, .inl (k3, 5340, .inl f3)), (a11, .inl (k4, 60, .inl f4)), (a12, .inl (k5, 60, .inl f5)), (a13, .inl (k6, 60, .inl f6)), (a14, .inl (k7, 60, .inl f7))] H := hP
  have hD : va_D A [(a0, .inr (7, [.ref a1, .int x1, .ref a2, .ref a3, .ref a4, .ref a5, .ref a6, .ref a7, .ref a8, .int x2, .int x3, .int x4, .int x5, .int x6, .int x7, .int x8, .ref a9, .ref a10, .ref a11, .ref a12, .ref a13, .ref a14, .int 0, .int 0, .int x0, .int 0, .int x13, .int x14])), (a1, .inl (k0, 80, .inl f0)), (a2, .inl (k1, 89, .inl f1)), (a3, .inl (k2, 89, .inl f2)), (a4, .inl (k3, 5340, .inl f3)), (a11, .inl (k4, 60, .inl f4)), (a12, .inl (k5, 60, .inl f5)), (a13, .inl (k6, 60, .inl f6)), (a14, .inl (k7, 60, .inl f7))] := hD
  refine lv_aload_n hx hb dX7_reads_20 rfl (lv_at hl 0 rfl) ?_
  refine lv_iconst (v := 0) hx hb dX7_reads_21 (by decide) ?_
  refine ka_put C lqr_432 tyX7 tyX7_ok nmX7 rfl hK hP hD hS 0 rfl 27 (by decide) lqr_437 rfl rfl rfl (Nat.le_of_ble_eq_true rfl) dX7_reads_22 (fun H locs hP hD hS => ?_)
  have hP : va_P D vwCl [(a0, .inr (7, [.ref a1, .int x1, .ref a2, .ref a3, .ref a4, .ref a5, .ref a6, .ref a7, .ref a8, .int x2, .int x3, .int x4, .int x5, .int x6, .int x7, .int x8, .ref a9, .ref a10, .ref a11, .ref a12, .ref a13, .ref a14, .int 0, .int 0, .int x0, .int 0, .int x13, .int 0])), (a1, .inl (k0, 80, .inl f0)), (a2, .inl (k1, 89, .inl f1)), (a3, .inl (k2, 89, .inl f2)), (a4, .inl (k3, 5340, .inl f3)), (a11, .inl (k4, 60, .inl f4)), (a12, .inl (k5, 60, .inl f5)), (a13, .inl (k6, 60, .inl f6)), (a14, .inl (k7, 60, .inl f7))] H := hP
  have hD : va_D A [(a0, .inr (7, [.ref a1, .int x1, .ref a2, .ref a3, .ref a4, .ref a5, .ref a6, .ref a7, .ref a8, .int x2, .int x3, .int x4, .int x5, .int x6, .int x7, .int x8, .ref a9, .ref a10, .ref a11, .ref a12, .ref a13, .ref a14, .int 0, .int 0, .int x0, .int 0, .int x13, .int 0])), (a1, .inl (k0, 80, .inl f0)), (a2, .inl (k1, 89, .inl f1)), (a3, .inl (k2, 89, .inl f2)), (a4, .inl (k3, 5340, .inl f3)), (a11, .inl (k4, 60, .inl f4)), (a12, .inl (k5, 60, .inl f5)), (a13, .inl (k6, 60, .inl f6)), (a14, .inl (k7, 60, .inl f7))] := hD
  refine lv_aload_n hx hb dX7_reads_25 rfl (lv_at hl 0 rfl) ?_
  refine lv_iconst (v := 1) hx hb dX7_reads_26 (by decide) ?_
  refine ka_EV (n := 1) (wr := [(a2, .inl (k1, 89, .inl f1)), (a3, .inl (k2, 89, .inl f2)), (a4, .inl (k3, 5340, .inl f3))]) C (kt_row1 l D F a0 a1 x1 a2 a3 a4 a5 a6 a7 a8 x2 x3 x4 x5 x6 x7 x8 a9 a10 a11 a12 a13 a14 0 0 x0 0 x13 0 k0 k4 k5 k6 k7 f0 f4 f5 f6 f7 1 ⟨by omega, by omega⟩ ⟨by omega, by omega⟩ ⟨by omega, by omega⟩ ⟨by omega, by omega⟩ ⟨by omega, by omega⟩ ⟨by decide, by decide⟩ ⟨by decide, by decide⟩ ⟨by omega, by omega⟩ ⟨by decide, by decide⟩ ⟨by decide, by decide⟩ hf0 ⟨by decide, by (have h00 : ((0 : Int32)).toInt = 0 := (by decide); omega)⟩ (by decide) (by decide) (by decide)) gX7_reads_X7_row rfl (by decide +kernel) ⟨show kp_fR 1 0 + 1 ≤ 143 by decide, show 8 + (5 + 11) + 25 * kp_fR 1 0 ≤ 3574 by decide⟩ hK hP hD hS hA hE hN [0, 1, 5, 6, 7, 8] rfl (by decide) [2, 3, 4] rfl (by decide) (by decide) [0, 4, 5, 6, 7] rfl (ci := 7) rfl rfl 0 rfl rfl hl.1 (rest := []) rfl (Nat.le_of_ble_eq_true rfl) dX7_reads_27 ⟨Nat.le_of_ble_eq_true rfl, Nat.le_of_ble_eq_true rfl⟩ (fun u H locs hq hP hD hK hS => ?_)
  obtain ⟨v_33908, v_33909, v_33910, v_33911, g_33913, g_33914, g_33915, g_33916, v_33912⟩ := u
  have hq : kp_post ((1 : Nat) : Int) ((0 : Nat) : Int) 0 0 x0.toInt f4 f5 f6 v_33908.toInt v_33909.toInt v_33910.toInt v_33911.toInt v_33912.toInt g_33913 g_33914 g_33915 := hq
  obtain ⟨h1q_33917, -, h3q_33917⟩ := hq
  have rv_33908 := ka_rng v_33908
  have rv_33909 := ka_rng v_33909
  have rv_33910 := ka_rng v_33910
  have rv_33911 := ka_rng v_33911
  have rv_33912 := ka_rng v_33912
  have hP : va_P D vwCl [(a2, .inl (k1, 89, .inl f1)), (a3, .inl (k2, 89, .inl f2)), (a4, .inl (k3, 5340, .inl f3)), (a0, .inr (7, [.ref a1, .int x1, .ref a2, .ref a3, .ref a4, .ref a5, .ref a6, .ref a7, .ref a8, .int x2, .int x3, .int x4, .int x5, .int x6, .int x7, .int x8, .ref a9, .ref a10, .ref a11, .ref a12, .ref a13, .ref a14, .int v_33908, .int v_33909, .int x0, .int v_33910, .int x13, .int v_33911])), (a1, .inl (k0, 80, .inl f0)), (a11, .inl (k4, 60, .inl g_33913)), (a12, .inl (k5, 60, .inl g_33914)), (a13, .inl (k6, 60, .inl g_33915)), (a14, .inl (k7, 60, .inl g_33916))] H := hP
  have hD : va_D A [(a2, .inl (k1, 89, .inl f1)), (a3, .inl (k2, 89, .inl f2)), (a4, .inl (k3, 5340, .inl f3)), (a0, .inr (7, [.ref a1, .int x1, .ref a2, .ref a3, .ref a4, .ref a5, .ref a6, .ref a7, .ref a8, .int x2, .int x3, .int x4, .int x5, .int x6, .int x7, .int x8, .ref a9, .ref a10, .ref a11, .ref a12, .ref a13, .ref a14, .int v_33908, .int v_33909, .int x0, .int v_33910, .int x13, .int v_33911])), (a1, .inl (k0, 80, .inl f0)), (a11, .inl (k4, 60, .inl g_33913)), (a12, .inl (k5, 60, .inl g_33914)), (a13, .inl (k6, 60, .inl g_33915)), (a14, .inl (k7, 60, .inl g_33916))] := hD
  have hK : va_K D vwCl [(k0, .byte), (k1, .int), (k2, .int), (k3, .byte), (k4, .int), (k5, .int), (k6, .int), (k7, .int)] s := by simpa using hK
  refine ka_stk (w := [.int v_33912]) rfl ?_
  rcases h3q_33917 with ⟨hwq_33917, hd1q_33917, hd2q_33917⟩ | ⟨hwq_33917, hdq_33917, k_33918, wk_33918, ek_33918, lk_33918, okk_33918, sk_33918⟩
  · skip
    refine lv_istore_n (lv' := [(2, .int v_33912), (0, .ref a0), (1, .int x0)]) hx hb dX7_reads_30 rfl hl (by decide) rfl (fun ls hl => ?_)
    refine lv_aload_n hx hb dX7_reads_31 rfl (lv_at hl 1 rfl) ?_
    refine ka_EV (n := 0) (wr := [(a2, .inl (k1, 89, .inl f1)), (a3, .inl (k2, 89, .inl f2)), (a4, .inl (k3, 5340, .inl f3)), (a11, .inl (k4, 60, .inl g_33913)), (a12, .inl (k5, 60, .inl g_33914)), (a13, .inl (k6, 60, .inl g_33915)), (a14, .inl (k7, 60, .inl g_33916))]) C (cr_X7_blanks_438 l D F a0 a1 x1 a2 a3 a4 a5 a6 a7 a8 x2 x3 x4 x5 x6 x7 x8 a9 a10 a11 a12 a13 a14 v_33908 v_33909 x0 v_33910 x13 v_33911 k0 f0 ⟨by omega, by omega⟩ ⟨by omega, by omega⟩ ⟨by omega, by omega⟩ ⟨by omega, by omega⟩ ⟨by omega, by omega⟩ ⟨by omega, by omega⟩ ⟨by omega, by omega⟩ ⟨by omega, by omega⟩ ⟨by omega, by omega⟩ ⟨by omega, by omega⟩ hf0 (by omega)) gX7_reads_X7_blanks rfl (by decide +kernel) ⟨Nat.le_of_ble_eq_true rfl, Nat.le_of_ble_eq_true rfl⟩ hK hP hD hS hA hE hN [3, 4] rfl (by decide) [0, 1, 2, 5, 6, 7, 8] rfl (by decide) (by decide) [0] rfl (ci := 7) rfl rfl 3 rfl rfl hl.1 (rest := []) rfl (Nat.le_of_ble_eq_true rfl) dX7_reads_32 ⟨Nat.le_of_ble_eq_true rfl, Nat.le_of_ble_eq_true rfl⟩ (fun u H locs hq hP hD hK hS => ?_)
    obtain ⟨v_33919, rfl⟩ : ∃ z, z = u := ⟨_, rfl⟩
    have hq : (0 ≤ v_33919.toInt ∧ v_33919.toInt ≤ 60) ∧ (v_33909.toInt ≤ v_33919.toInt ∧ v_33919.toInt ≤ x0.toInt) := hq
    obtain ⟨hv_33919, hzz_33920⟩ := hq
    have rv_33919 := ka_rng v_33919
    have hP : va_P D vwCl [(a2, .inl (k1, 89, .inl f1)), (a3, .inl (k2, 89, .inl f2)), (a4, .inl (k3, 5340, .inl f3)), (a11, .inl (k4, 60, .inl g_33913)), (a12, .inl (k5, 60, .inl g_33914)), (a13, .inl (k6, 60, .inl g_33915)), (a14, .inl (k7, 60, .inl g_33916)), (a0, .inr (7, [.ref a1, .int x1, .ref a2, .ref a3, .ref a4, .ref a5, .ref a6, .ref a7, .ref a8, .int x2, .int x3, .int x4, .int x5, .int x6, .int x7, .int x8, .ref a9, .ref a10, .ref a11, .ref a12, .ref a13, .ref a14, .int v_33908, .int v_33919, .int x0, .int v_33910, .int x13, .int v_33911])), (a1, .inl (k0, 80, .inl f0))] H := hP
    have hD : va_D A [(a2, .inl (k1, 89, .inl f1)), (a3, .inl (k2, 89, .inl f2)), (a4, .inl (k3, 5340, .inl f3)), (a11, .inl (k4, 60, .inl g_33913)), (a12, .inl (k5, 60, .inl g_33914)), (a13, .inl (k6, 60, .inl g_33915)), (a14, .inl (k7, 60, .inl g_33916)), (a0, .inr (7, [.ref a1, .int x1, .ref a2, .ref a3, .ref a4, .ref a5, .ref a6, .ref a7, .ref a8, .int x2, .int x3, .int x4, .int x5, .int x6, .int x7, .int x8, .ref a9, .ref a10, .ref a11, .ref a12, .ref a13, .ref a14, .int v_33908, .int v_33919, .int x0, .int v_33910, .int x13, .int v_33911])), (a1, .inl (k0, 80, .inl f0))] := hD
    have hK : va_K D vwCl [(k0, .byte), (k1, .int), (k2, .int), (k3, .byte), (k4, .int), (k5, .int), (k6, .int), (k7, .int)] s := by simpa using hK
    refine ka_stk (w := []) rfl ?_
    refine lv_aload_n hx hb dX7_reads_35 rfl (lv_at hl 1 rfl) ?_
    refine ka_get C lqr_432 rfl hK hP 7 rfl 23 (by decide) lqr_434 rfl dX7_reads_36 ?_
    refine lv_aload_n hx hb dX7_reads_39 rfl (lv_at hl 1 rfl) ?_
    refine ka_get C lqr_432 rfl hK hP 7 rfl 24 (by decide) lqr_435 rfl dX7_reads_40 ?_
    refine lv_icmp_ge (tgt := 51) hx hb dX7_reads_43 (by decide) (fun c_33921 => ?_) (fun c_33921 => ?_)
    · have c_33921 : x0.toInt ≤ v_33919.toInt := by rw [ka_le'] at c_33921; exact c_33921
      refine lv_aload_n hx hb dX7_reads_51 rfl (lv_at hl 1 rfl) ?_
      refine lv_iconst (v := 0) hx hb dX7_reads_52 (by decide) ?_
      refine ka_put C lqr_432 tyX7 tyX7_ok nmX7 rfl hK hP hD hS 7 rfl 1 (by decide) lqr_438 rfl rfl rfl (Nat.le_of_ble_eq_true rfl) dX7_reads_53 (fun H locs hP hD hS => ?_)
      have hP : va_P D vwCl [(a2, .inl (k1, 89, .inl f1)), (a3, .inl (k2, 89, .inl f2)), (a4, .inl (k3, 5340, .inl f3)), (a11, .inl (k4, 60, .inl g_33913)), (a12, .inl (k5, 60, .inl g_33914)), (a13, .inl (k6, 60, .inl g_33915)), (a14, .inl (k7, 60, .inl g_33916)), (a0, .inr (7, [.ref a1, .int 0, .ref a2, .ref a3, .ref a4, .ref a5, .ref a6, .ref a7, .ref a8, .int x2, .int x3, .int x4, .int x5, .int x6, .int x7, .int x8, .ref a9, .ref a10, .ref a11, .ref a12, .ref a13, .ref a14, .int v_33908, .int v_33919, .int x0, .int v_33910, .int x13, .int v_33911])), (a1, .inl (k0, 80, .inl f0))] H := hP
      have hD : va_D A [(a2, .inl (k1, 89, .inl f1)), (a3, .inl (k2, 89, .inl f2)), (a4, .inl (k3, 5340, .inl f3)), (a11, .inl (k4, 60, .inl g_33913)), (a12, .inl (k5, 60, .inl g_33914)), (a13, .inl (k6, 60, .inl g_33915)), (a14, .inl (k7, 60, .inl g_33916)), (a0, .inr (7, [.ref a1, .int 0, .ref a2, .ref a3, .ref a4, .ref a5, .ref a6, .ref a7, .ref a8, .int x2, .int x3, .int x4, .int x5, .int x6, .int x7, .int x8, .ref a9, .ref a10, .ref a11, .ref a12, .ref a13, .ref a14, .int v_33908, .int v_33919, .int x0, .int v_33910, .int x13, .int v_33911])), (a1, .inl (k0, 80, .inl f0))] := hD
      refine lv_aload_n hx hb dX7_reads_56 rfl (lv_at hl 1 rfl) ?_
      refine lv_aload_n hx hb dX7_reads_57 rfl (lv_at hl 1 rfl) ?_
      refine ka_get C lqr_432 rfl hK hP 7 rfl 27 (by decide) lqr_437 rfl dX7_reads_58 ?_
      refine lv_if_eq (tgt := 71) hx hb dX7_reads_61 (by decide) (fun c_ => absurd c_ (by rw [ka_eq', show ((0 : Int32)).toInt = 0 from by decide]; omega)) (fun _ => ?_)
      refine lv_aload_n hx hb dX7_reads_64 rfl (lv_at hl 1 rfl) ?_
      refine ka_get C lqr_432 rfl hK hP 7 rfl 23 (by decide) lqr_434 rfl dX7_reads_65 ?_
      refine lv_goto (tgt := 72) hx hb dX7_reads_68 (by decide) ?_
      refine ka_put C lqr_432 tyX7 tyX7_ok nmX7 rfl hK hP hD hS 7 rfl 26 (by decide) lqr_439 rfl rfl rfl (Nat.le_of_ble_eq_true rfl) dX7_reads_72 (fun H locs hP hD hS => ?_)
      have hP : va_P D vwCl [(a2, .inl (k1, 89, .inl f1)), (a3, .inl (k2, 89, .inl f2)), (a4, .inl (k3, 5340, .inl f3)), (a11, .inl (k4, 60, .inl g_33913)), (a12, .inl (k5, 60, .inl g_33914)), (a13, .inl (k6, 60, .inl g_33915)), (a14, .inl (k7, 60, .inl g_33916)), (a0, .inr (7, [.ref a1, .int 0, .ref a2, .ref a3, .ref a4, .ref a5, .ref a6, .ref a7, .ref a8, .int x2, .int x3, .int x4, .int x5, .int x6, .int x7, .int x8, .ref a9, .ref a10, .ref a11, .ref a12, .ref a13, .ref a14, .int v_33908, .int v_33919, .int x0, .int v_33910, .int v_33919, .int v_33911])), (a1, .inl (k0, 80, .inl f0))] H := hP
      have hD : va_D A [(a2, .inl (k1, 89, .inl f1)), (a3, .inl (k2, 89, .inl f2)), (a4, .inl (k3, 5340, .inl f3)), (a11, .inl (k4, 60, .inl g_33913)), (a12, .inl (k5, 60, .inl g_33914)), (a13, .inl (k6, 60, .inl g_33915)), (a14, .inl (k7, 60, .inl g_33916)), (a0, .inr (7, [.ref a1, .int 0, .ref a2, .ref a3, .ref a4, .ref a5, .ref a6, .ref a7, .ref a8, .int x2, .int x3, .int x4, .int x5, .int x6, .int x7, .int x8, .ref a9, .ref a10, .ref a11, .ref a12, .ref a13, .ref a14, .int v_33908, .int v_33919, .int x0, .int v_33910, .int v_33919, .int v_33911])), (a1, .inl (k0, 80, .inl f0))] := hD
      refine lv_aload_n hx hb dX7_reads_75 rfl (lv_at hl 1 rfl) ?_
      refine ka_get C lqr_432 rfl hK hP 7 rfl 27 (by decide) lqr_437 rfl dX7_reads_76 ?_
      refine lv_if_eq (tgt := 84) hx hb dX7_reads_79 (by decide) (fun c_ => absurd c_ (by rw [ka_eq', show ((0 : Int32)).toInt = 0 from by decide]; omega)) (fun _ => ?_)
      refine lv_iconst (v := 0) hx hb dX7_reads_82 (by decide) ?_
      exact ka_rEz C hr hlk rfl (Nat.le_of_ble_eq_true rfl) (Nat.le_of_ble_eq_true rfl) hS (ka_qE (v_33908, v_33919, v_33910, v_33919, v_33911, f1, f2, f3, g_33913, g_33914, g_33915, g_33916, 0) rfl ⟨(show 0 ≤ v_33908.toInt ∧ v_33908.toInt ≤ 60 from ⟨by omega, by omega⟩), (show 0 ≤ v_33919.toInt ∧ v_33919.toInt ≤ 60 from ⟨by omega, by omega⟩), (show 0 ≤ v_33910.toInt ∧ v_33910.toInt ≤ 8 from ⟨by omega, by omega⟩), (show 0 ≤ v_33911.toInt ∧ v_33911.toInt ≤ 1 from ⟨by omega, by omega⟩), hf2, hf3, (show 0 ≤ ((0 : Int32)).toInt ∧ ((0 : Int32)).toInt ≤ 1 from ⟨by decide, by decide⟩)⟩ hK hP hD hS [7, 8, 0, 1, 2, 3, 4, 5, 6] (by decide) rfl [] rfl) dX7_reads_83
    · have c_33921 : ¬ x0.toInt ≤ v_33919.toInt := by rw [ka_le'] at c_33921; exact c_33921
      refine lv_aload_n hx hb dX7_reads_46 rfl (lv_at hl 1 rfl) ?_
      refine lv_iconst (v := 1) hx hb dX7_reads_47 (by decide) ?_
      refine ka_put C lqr_432 tyX7 tyX7_ok nmX7 rfl hK hP hD hS 7 rfl 27 (by decide) lqr_437 rfl rfl rfl (Nat.le_of_ble_eq_true rfl) dX7_reads_48 (fun H locs hP hD hS => ?_)
      have hP : va_P D vwCl [(a2, .inl (k1, 89, .inl f1)), (a3, .inl (k2, 89, .inl f2)), (a4, .inl (k3, 5340, .inl f3)), (a11, .inl (k4, 60, .inl g_33913)), (a12, .inl (k5, 60, .inl g_33914)), (a13, .inl (k6, 60, .inl g_33915)), (a14, .inl (k7, 60, .inl g_33916)), (a0, .inr (7, [.ref a1, .int x1, .ref a2, .ref a3, .ref a4, .ref a5, .ref a6, .ref a7, .ref a8, .int x2, .int x3, .int x4, .int x5, .int x6, .int x7, .int x8, .ref a9, .ref a10, .ref a11, .ref a12, .ref a13, .ref a14, .int v_33908, .int v_33919, .int x0, .int v_33910, .int x13, .int 1])), (a1, .inl (k0, 80, .inl f0))] H := hP
      have hD : va_D A [(a2, .inl (k1, 89, .inl f1)), (a3, .inl (k2, 89, .inl f2)), (a4, .inl (k3, 5340, .inl f3)), (a11, .inl (k4, 60, .inl g_33913)), (a12, .inl (k5, 60, .inl g_33914)), (a13, .inl (k6, 60, .inl g_33915)), (a14, .inl (k7, 60, .inl g_33916)), (a0, .inr (7, [.ref a1, .int x1, .ref a2, .ref a3, .ref a4, .ref a5, .ref a6, .ref a7, .ref a8, .int x2, .int x3, .int x4, .int x5, .int x6, .int x7, .int x8, .ref a9, .ref a10, .ref a11, .ref a12, .ref a13, .ref a14, .int v_33908, .int v_33919, .int x0, .int v_33910, .int x13, .int 1])), (a1, .inl (k0, 80, .inl f0))] := hD
      refine lv_aload_n hx hb dX7_reads_51 rfl (lv_at hl 1 rfl) ?_
      refine lv_iconst (v := 0) hx hb dX7_reads_52 (by decide) ?_
      refine ka_put C lqr_432 tyX7 tyX7_ok nmX7 rfl hK hP hD hS 7 rfl 1 (by decide) lqr_438 rfl rfl rfl (Nat.le_of_ble_eq_true rfl) dX7_reads_53 (fun H locs hP hD hS => ?_)
      have hP : va_P D vwCl [(a2, .inl (k1, 89, .inl f1)), (a3, .inl (k2, 89, .inl f2)), (a4, .inl (k3, 5340, .inl f3)), (a11, .inl (k4, 60, .inl g_33913)), (a12, .inl (k5, 60, .inl g_33914)), (a13, .inl (k6, 60, .inl g_33915)), (a14, .inl (k7, 60, .inl g_33916)), (a0, .inr (7, [.ref a1, .int 0, .ref a2, .ref a3, .ref a4, .ref a5, .ref a6, .ref a7, .ref a8, .int x2, .int x3, .int x4, .int x5, .int x6, .int x7, .int x8, .ref a9, .ref a10, .ref a11, .ref a12, .ref a13, .ref a14, .int v_33908, .int v_33919, .int x0, .int v_33910, .int x13, .int 1])), (a1, .inl (k0, 80, .inl f0))] H := hP
      have hD : va_D A [(a2, .inl (k1, 89, .inl f1)), (a3, .inl (k2, 89, .inl f2)), (a4, .inl (k3, 5340, .inl f3)), (a11, .inl (k4, 60, .inl g_33913)), (a12, .inl (k5, 60, .inl g_33914)), (a13, .inl (k6, 60, .inl g_33915)), (a14, .inl (k7, 60, .inl g_33916)), (a0, .inr (7, [.ref a1, .int 0, .ref a2, .ref a3, .ref a4, .ref a5, .ref a6, .ref a7, .ref a8, .int x2, .int x3, .int x4, .int x5, .int x6, .int x7, .int x8, .ref a9, .ref a10, .ref a11, .ref a12, .ref a13, .ref a14, .int v_33908, .int v_33919, .int x0, .int v_33910, .int x13, .int 1])), (a1, .inl (k0, 80, .inl f0))] := hD
      refine lv_aload_n hx hb dX7_reads_56 rfl (lv_at hl 1 rfl) ?_
      refine lv_aload_n hx hb dX7_reads_57 rfl (lv_at hl 1 rfl) ?_
      refine ka_get C lqr_432 rfl hK hP 7 rfl 27 (by decide) lqr_437 rfl dX7_reads_58 ?_
      refine lv_if_eq (tgt := 71) hx hb dX7_reads_61 (by decide) (fun c_ => absurd c_ (by decide)) (fun _ => ?_)
      refine lv_aload_n hx hb dX7_reads_64 rfl (lv_at hl 1 rfl) ?_
      refine ka_get C lqr_432 rfl hK hP 7 rfl 23 (by decide) lqr_434 rfl dX7_reads_65 ?_
      refine lv_goto (tgt := 72) hx hb dX7_reads_68 (by decide) ?_
      refine ka_put C lqr_432 tyX7 tyX7_ok nmX7 rfl hK hP hD hS 7 rfl 26 (by decide) lqr_439 rfl rfl rfl (Nat.le_of_ble_eq_true rfl) dX7_reads_72 (fun H locs hP hD hS => ?_)
      have hP : va_P D vwCl [(a2, .inl (k1, 89, .inl f1)), (a3, .inl (k2, 89, .inl f2)), (a4, .inl (k3, 5340, .inl f3)), (a11, .inl (k4, 60, .inl g_33913)), (a12, .inl (k5, 60, .inl g_33914)), (a13, .inl (k6, 60, .inl g_33915)), (a14, .inl (k7, 60, .inl g_33916)), (a0, .inr (7, [.ref a1, .int 0, .ref a2, .ref a3, .ref a4, .ref a5, .ref a6, .ref a7, .ref a8, .int x2, .int x3, .int x4, .int x5, .int x6, .int x7, .int x8, .ref a9, .ref a10, .ref a11, .ref a12, .ref a13, .ref a14, .int v_33908, .int v_33919, .int x0, .int v_33910, .int v_33919, .int 1])), (a1, .inl (k0, 80, .inl f0))] H := hP
      have hD : va_D A [(a2, .inl (k1, 89, .inl f1)), (a3, .inl (k2, 89, .inl f2)), (a4, .inl (k3, 5340, .inl f3)), (a11, .inl (k4, 60, .inl g_33913)), (a12, .inl (k5, 60, .inl g_33914)), (a13, .inl (k6, 60, .inl g_33915)), (a14, .inl (k7, 60, .inl g_33916)), (a0, .inr (7, [.ref a1, .int 0, .ref a2, .ref a3, .ref a4, .ref a5, .ref a6, .ref a7, .ref a8, .int x2, .int x3, .int x4, .int x5, .int x6, .int x7, .int x8, .ref a9, .ref a10, .ref a11, .ref a12, .ref a13, .ref a14, .int v_33908, .int v_33919, .int x0, .int v_33910, .int v_33919, .int 1])), (a1, .inl (k0, 80, .inl f0))] := hD
      refine lv_aload_n hx hb dX7_reads_75 rfl (lv_at hl 1 rfl) ?_
      refine ka_get C lqr_432 rfl hK hP 7 rfl 27 (by decide) lqr_437 rfl dX7_reads_76 ?_
      refine lv_if_eq (tgt := 84) hx hb dX7_reads_79 (by decide) (fun c_ => absurd c_ (by decide)) (fun _ => ?_)
      refine lv_iconst (v := 0) hx hb dX7_reads_82 (by decide) ?_
      exact ka_rEz C hr hlk rfl (Nat.le_of_ble_eq_true rfl) (Nat.le_of_ble_eq_true rfl) hS (ka_qE (v_33908, v_33919, v_33910, v_33919, 1, f1, f2, f3, g_33913, g_33914, g_33915, g_33916, 0) rfl ⟨(show 0 ≤ v_33908.toInt ∧ v_33908.toInt ≤ 60 from ⟨by omega, by omega⟩), (show 0 ≤ v_33919.toInt ∧ v_33919.toInt ≤ 60 from ⟨by omega, by omega⟩), (show 0 ≤ v_33910.toInt ∧ v_33910.toInt ≤ 8 from ⟨by omega, by omega⟩), (show 0 ≤ ((1 : Int32)).toInt ∧ ((1 : Int32)).toInt ≤ 1 from ⟨by decide, by decide⟩), hf2, hf3, (show 0 ≤ ((0 : Int32)).toInt ∧ ((0 : Int32)).toInt ≤ 1 from ⟨by decide, by decide⟩)⟩ hK hP hD hS [7, 8, 0, 1, 2, 3, 4, 5, 6] (by decide) rfl [] rfl) dX7_reads_83
  · skip
    refine lv_istore_n (lv' := [(2, .int v_33912), (0, .ref a0), (1, .int x0)]) hx hb dX7_reads_30 rfl hl (by decide) rfl (fun ls hl => ?_)
    refine lv_aload_n hx hb dX7_reads_31 rfl (lv_at hl 1 rfl) ?_
    refine ka_EV (n := 0) (wr := [(a2, .inl (k1, 89, .inl f1)), (a3, .inl (k2, 89, .inl f2)), (a4, .inl (k3, 5340, .inl f3)), (a11, .inl (k4, 60, .inl g_33913)), (a12, .inl (k5, 60, .inl g_33914)), (a13, .inl (k6, 60, .inl g_33915)), (a14, .inl (k7, 60, .inl g_33916))]) C (cr_X7_blanks_438 l D F a0 a1 x1 a2 a3 a4 a5 a6 a7 a8 x2 x3 x4 x5 x6 x7 x8 a9 a10 a11 a12 a13 a14 v_33908 v_33909 x0 v_33910 x13 v_33911 k0 f0 ⟨by omega, by omega⟩ ⟨by omega, by omega⟩ ⟨by omega, by omega⟩ ⟨by omega, by omega⟩ ⟨by omega, by omega⟩ ⟨by omega, by omega⟩ ⟨by omega, by omega⟩ ⟨by omega, by omega⟩ ⟨by omega, by omega⟩ ⟨by omega, by omega⟩ hf0 (by omega)) gX7_reads_X7_blanks rfl (by decide +kernel) ⟨Nat.le_of_ble_eq_true rfl, Nat.le_of_ble_eq_true rfl⟩ hK hP hD hS hA hE hN [3, 4] rfl (by decide) [0, 1, 2, 5, 6, 7, 8] rfl (by decide) (by decide) [0] rfl (ci := 7) rfl rfl 3 rfl rfl hl.1 (rest := []) rfl (Nat.le_of_ble_eq_true rfl) dX7_reads_32 ⟨Nat.le_of_ble_eq_true rfl, Nat.le_of_ble_eq_true rfl⟩ (fun u H locs hq hP hD hK hS => ?_)
    obtain ⟨v_33922, rfl⟩ : ∃ z, z = u := ⟨_, rfl⟩
    have hq : (0 ≤ v_33922.toInt ∧ v_33922.toInt ≤ 60) ∧ (v_33909.toInt ≤ v_33922.toInt ∧ v_33922.toInt ≤ x0.toInt) := hq
    obtain ⟨hv_33922, hzz_33923⟩ := hq
    have rv_33922 := ka_rng v_33922
    have hP : va_P D vwCl [(a2, .inl (k1, 89, .inl f1)), (a3, .inl (k2, 89, .inl f2)), (a4, .inl (k3, 5340, .inl f3)), (a11, .inl (k4, 60, .inl g_33913)), (a12, .inl (k5, 60, .inl g_33914)), (a13, .inl (k6, 60, .inl g_33915)), (a14, .inl (k7, 60, .inl g_33916)), (a0, .inr (7, [.ref a1, .int x1, .ref a2, .ref a3, .ref a4, .ref a5, .ref a6, .ref a7, .ref a8, .int x2, .int x3, .int x4, .int x5, .int x6, .int x7, .int x8, .ref a9, .ref a10, .ref a11, .ref a12, .ref a13, .ref a14, .int v_33908, .int v_33922, .int x0, .int v_33910, .int x13, .int v_33911])), (a1, .inl (k0, 80, .inl f0))] H := hP
    have hD : va_D A [(a2, .inl (k1, 89, .inl f1)), (a3, .inl (k2, 89, .inl f2)), (a4, .inl (k3, 5340, .inl f3)), (a11, .inl (k4, 60, .inl g_33913)), (a12, .inl (k5, 60, .inl g_33914)), (a13, .inl (k6, 60, .inl g_33915)), (a14, .inl (k7, 60, .inl g_33916)), (a0, .inr (7, [.ref a1, .int x1, .ref a2, .ref a3, .ref a4, .ref a5, .ref a6, .ref a7, .ref a8, .int x2, .int x3, .int x4, .int x5, .int x6, .int x7, .int x8, .ref a9, .ref a10, .ref a11, .ref a12, .ref a13, .ref a14, .int v_33908, .int v_33922, .int x0, .int v_33910, .int x13, .int v_33911])), (a1, .inl (k0, 80, .inl f0))] := hD
    have hK : va_K D vwCl [(k0, .byte), (k1, .int), (k2, .int), (k3, .byte), (k4, .int), (k5, .int), (k6, .int), (k7, .int)] s := by simpa using hK
    refine ka_stk (w := []) rfl ?_
    refine lv_aload_n hx hb dX7_reads_35 rfl (lv_at hl 1 rfl) ?_
    refine ka_get C lqr_432 rfl hK hP 7 rfl 23 (by decide) lqr_434 rfl dX7_reads_36 ?_
    refine lv_aload_n hx hb dX7_reads_39 rfl (lv_at hl 1 rfl) ?_
    refine ka_get C lqr_432 rfl hK hP 7 rfl 24 (by decide) lqr_435 rfl dX7_reads_40 ?_
    refine lv_icmp_ge (tgt := 51) hx hb dX7_reads_43 (by decide) (fun c_33924 => ?_) (fun c_33924 => ?_)
    · have c_33924 : x0.toInt ≤ v_33922.toInt := by rw [ka_le'] at c_33924; exact c_33924
      refine lv_aload_n hx hb dX7_reads_51 rfl (lv_at hl 1 rfl) ?_
      refine lv_iconst (v := 0) hx hb dX7_reads_52 (by decide) ?_
      refine ka_put C lqr_432 tyX7 tyX7_ok nmX7 rfl hK hP hD hS 7 rfl 1 (by decide) lqr_438 rfl rfl rfl (Nat.le_of_ble_eq_true rfl) dX7_reads_53 (fun H locs hP hD hS => ?_)
      have hP : va_P D vwCl [(a2, .inl (k1, 89, .inl f1)), (a3, .inl (k2, 89, .inl f2)), (a4, .inl (k3, 5340, .inl f3)), (a11, .inl (k4, 60, .inl g_33913)), (a12, .inl (k5, 60, .inl g_33914)), (a13, .inl (k6, 60, .inl g_33915)), (a14, .inl (k7, 60, .inl g_33916)), (a0, .inr (7, [.ref a1, .int 0, .ref a2, .ref a3, .ref a4, .ref a5, .ref a6, .ref a7, .ref a8, .int x2, .int x3, .int x4, .int x5, .int x6, .int x7, .int x8, .ref a9, .ref a10, .ref a11, .ref a12, .ref a13, .ref a14, .int v_33908, .int v_33922, .int x0, .int v_33910, .int x13, .int v_33911])), (a1, .inl (k0, 80, .inl f0))] H := hP
      have hD : va_D A [(a2, .inl (k1, 89, .inl f1)), (a3, .inl (k2, 89, .inl f2)), (a4, .inl (k3, 5340, .inl f3)), (a11, .inl (k4, 60, .inl g_33913)), (a12, .inl (k5, 60, .inl g_33914)), (a13, .inl (k6, 60, .inl g_33915)), (a14, .inl (k7, 60, .inl g_33916)), (a0, .inr (7, [.ref a1, .int 0, .ref a2, .ref a3, .ref a4, .ref a5, .ref a6, .ref a7, .ref a8, .int x2, .int x3, .int x4, .int x5, .int x6, .int x7, .int x8, .ref a9, .ref a10, .ref a11, .ref a12, .ref a13, .ref a14, .int v_33908, .int v_33922, .int x0, .int v_33910, .int x13, .int v_33911])), (a1, .inl (k0, 80, .inl f0))] := hD
      refine lv_aload_n hx hb dX7_reads_56 rfl (lv_at hl 1 rfl) ?_
      refine lv_aload_n hx hb dX7_reads_57 rfl (lv_at hl 1 rfl) ?_
      refine ka_get C lqr_432 rfl hK hP 7 rfl 27 (by decide) lqr_437 rfl dX7_reads_58 ?_
      refine lv_if_eq (tgt := 71) hx hb dX7_reads_61 (by decide) (fun _ => ?_) (fun c_ => absurd (by rw [ka_eq', show ((0 : Int32)).toInt = 0 from by decide]; omega) c_)
      refine lv_iconst (v := (-1)) hx hb dX7_reads_71 (by decide) ?_
      refine ka_put C lqr_432 tyX7 tyX7_ok nmX7 rfl hK hP hD hS 7 rfl 26 (by decide) lqr_439 rfl rfl rfl (Nat.le_of_ble_eq_true rfl) dX7_reads_72 (fun H locs hP hD hS => ?_)
      have hP : va_P D vwCl [(a2, .inl (k1, 89, .inl f1)), (a3, .inl (k2, 89, .inl f2)), (a4, .inl (k3, 5340, .inl f3)), (a11, .inl (k4, 60, .inl g_33913)), (a12, .inl (k5, 60, .inl g_33914)), (a13, .inl (k6, 60, .inl g_33915)), (a14, .inl (k7, 60, .inl g_33916)), (a0, .inr (7, [.ref a1, .int 0, .ref a2, .ref a3, .ref a4, .ref a5, .ref a6, .ref a7, .ref a8, .int x2, .int x3, .int x4, .int x5, .int x6, .int x7, .int x8, .ref a9, .ref a10, .ref a11, .ref a12, .ref a13, .ref a14, .int v_33908, .int v_33922, .int x0, .int v_33910, .int (-1), .int v_33911])), (a1, .inl (k0, 80, .inl f0))] H := hP
      have hD : va_D A [(a2, .inl (k1, 89, .inl f1)), (a3, .inl (k2, 89, .inl f2)), (a4, .inl (k3, 5340, .inl f3)), (a11, .inl (k4, 60, .inl g_33913)), (a12, .inl (k5, 60, .inl g_33914)), (a13, .inl (k6, 60, .inl g_33915)), (a14, .inl (k7, 60, .inl g_33916)), (a0, .inr (7, [.ref a1, .int 0, .ref a2, .ref a3, .ref a4, .ref a5, .ref a6, .ref a7, .ref a8, .int x2, .int x3, .int x4, .int x5, .int x6, .int x7, .int x8, .ref a9, .ref a10, .ref a11, .ref a12, .ref a13, .ref a14, .int v_33908, .int v_33922, .int x0, .int v_33910, .int (-1), .int v_33911])), (a1, .inl (k0, 80, .inl f0))] := hD
      refine lv_aload_n hx hb dX7_reads_75 rfl (lv_at hl 1 rfl) ?_
      refine ka_get C lqr_432 rfl hK hP 7 rfl 27 (by decide) lqr_437 rfl dX7_reads_76 ?_
      refine lv_if_eq (tgt := 84) hx hb dX7_reads_79 (by decide) (fun _ => ?_) (fun c_ => absurd (by rw [ka_eq', show ((0 : Int32)).toInt = 0 from by decide]; omega) c_)
      refine lv_aload_n hx hb dX7_reads_84 rfl (lv_at hl 1 rfl) ?_
      refine ka_get C lqr_432 rfl hK hP 7 rfl 2 (by decide) lqr_440 rfl dX7_reads_85 ?_
      refine lv_bipush (v := 88) hx hb dX7_reads_88 (by decide) ?_
      refine lv_aload_n hx hb dX7_reads_90 rfl (lv_at hl 1 rfl) ?_
      refine lv_iload_n hx hb dX7_reads_91 rfl (lv_at hl 0 rfl) ?_
      refine ka_RV (n := 1) C (kt_bits l D F a0 a1 0 a2 a3 a4 a5 a6 a7 a8 x2 x3 x4 x5 x6 x7 x8 a9 a10 a11 a12 a13 a14 v_33908 v_33922 x0 v_33910 (-1) v_33911 k4 k5 k6 k7 g_33913 g_33914 g_33915 g_33916 k_33918 (by omega) v_33912 wk_33918 (by omega) okk_33918) gX7_reads_X7_bits rfl (by decide +kernel) ⟨show (k_33918 + 1) + 1 ≤ 143 by omega, show 8 + (4 + 11) + (k_33918 + 1) * 30 ≤ 3574 by omega⟩ hK hP hS hE hN [7, 3, 4, 5, 6] rfl [4, 5, 6, 7] rfl (ci := 7) rfl rfl 7 rfl rfl hl.1 (rest := [.int 88, .ref a2]) rfl (Nat.le_of_ble_eq_true rfl) dX7_reads_92 ⟨Nat.le_of_ble_eq_true rfl, Nat.le_of_ble_eq_true rfl⟩ (fun v hv => ?_)
      obtain ⟨z_33925, rfl⟩ := hv
      refine ka_stk (w := [.int z_33925, .int 88, .ref a2]) rfl ?_
      refine va_iast hx hb hK hP hD hS 0 1 rfl rfl (ka_in (by decide) (by decide)) dX7_reads_95 (fun H locs hP hD hS => ?_)
      have hP : va_P D vwCl [(a2, .inl (k1, 89, .inl (upd f1 (Int32.toNatClampNeg 88) z_33925))), (a3, .inl (k2, 89, .inl f2)), (a4, .inl (k3, 5340, .inl f3)), (a11, .inl (k4, 60, .inl g_33913)), (a12, .inl (k5, 60, .inl g_33914)), (a13, .inl (k6, 60, .inl g_33915)), (a14, .inl (k7, 60, .inl g_33916)), (a0, .inr (7, [.ref a1, .int 0, .ref a2, .ref a3, .ref a4, .ref a5, .ref a6, .ref a7, .ref a8, .int x2, .int x3, .int x4, .int x5, .int x6, .int x7, .int x8, .ref a9, .ref a10, .ref a11, .ref a12, .ref a13, .ref a14, .int v_33908, .int v_33922, .int x0, .int v_33910, .int (-1), .int v_33911])), (a1, .inl (k0, 80, .inl f0))] H := hP
      have hD : va_D A [(a2, .inl (k1, 89, .inl (upd f1 (Int32.toNatClampNeg 88) z_33925))), (a3, .inl (k2, 89, .inl f2)), (a4, .inl (k3, 5340, .inl f3)), (a11, .inl (k4, 60, .inl g_33913)), (a12, .inl (k5, 60, .inl g_33914)), (a13, .inl (k6, 60, .inl g_33915)), (a14, .inl (k7, 60, .inl g_33916)), (a0, .inr (7, [.ref a1, .int 0, .ref a2, .ref a3, .ref a4, .ref a5, .ref a6, .ref a7, .ref a8, .int x2, .int x3, .int x4, .int x5, .int x6, .int x7, .int x8, .ref a9, .ref a10, .ref a11, .ref a12, .ref a13, .ref a14, .int v_33908, .int v_33922, .int x0, .int v_33910, .int (-1), .int v_33911])), (a1, .inl (k0, 80, .inl f0))] := hD
      generalize (upd f1 (Int32.toNatClampNeg 88) z_33925) = g_33926 at hP hD
      refine lv_aload_n hx hb dX7_reads_96 rfl (lv_at hl 1 rfl) ?_
      refine ka_get C lqr_432 rfl hK hP 7 rfl 3 (by decide) lqr_441 rfl dX7_reads_97 ?_
      refine lv_bipush (v := 88) hx hb dX7_reads_100 (by decide) ?_
      refine lv_iconst (v := 0) hx hb dX7_reads_102 (by decide) ?_
      refine va_iast hx hb hK hP hD hS 1 2 rfl rfl (ka_in (by decide) (by decide)) dX7_reads_103 (fun H locs hP hD hS => ?_)
      have hP : va_P D vwCl [(a2, .inl (k1, 89, .inl g_33926)), (a3, .inl (k2, 89, .inl (upd f2 (Int32.toNatClampNeg 88) 0))), (a4, .inl (k3, 5340, .inl f3)), (a11, .inl (k4, 60, .inl g_33913)), (a12, .inl (k5, 60, .inl g_33914)), (a13, .inl (k6, 60, .inl g_33915)), (a14, .inl (k7, 60, .inl g_33916)), (a0, .inr (7, [.ref a1, .int 0, .ref a2, .ref a3, .ref a4, .ref a5, .ref a6, .ref a7, .ref a8, .int x2, .int x3, .int x4, .int x5, .int x6, .int x7, .int x8, .ref a9, .ref a10, .ref a11, .ref a12, .ref a13, .ref a14, .int v_33908, .int v_33922, .int x0, .int v_33910, .int (-1), .int v_33911])), (a1, .inl (k0, 80, .inl f0))] H := hP
      have hD : va_D A [(a2, .inl (k1, 89, .inl g_33926)), (a3, .inl (k2, 89, .inl (upd f2 (Int32.toNatClampNeg 88) 0))), (a4, .inl (k3, 5340, .inl f3)), (a11, .inl (k4, 60, .inl g_33913)), (a12, .inl (k5, 60, .inl g_33914)), (a13, .inl (k6, 60, .inl g_33915)), (a14, .inl (k7, 60, .inl g_33916)), (a0, .inr (7, [.ref a1, .int 0, .ref a2, .ref a3, .ref a4, .ref a5, .ref a6, .ref a7, .ref a8, .int x2, .int x3, .int x4, .int x5, .int x6, .int x7, .int x8, .ref a9, .ref a10, .ref a11, .ref a12, .ref a13, .ref a14, .int v_33908, .int v_33922, .int x0, .int v_33910, .int (-1), .int v_33911])), (a1, .inl (k0, 80, .inl f0))] := hD
      have hg_33927 : ∀ j : Nat, 0 ≤ ((upd f2 (Int32.toNatClampNeg 88) 0) j).toInt ∧ ((upd f2 (Int32.toNatClampNeg 88) 0) j).toInt ≤ 60 := kb_rngU hf2 (by decide) (by decide)
      have h88 : ((upd f2 (Int32.toNatClampNeg 88) 0) 88).toInt = 0 := by rw [show (upd f2 (Int32.toNatClampNeg 88) 0) 88 = 0 from pk_us]; decide
      generalize (upd f2 (Int32.toNatClampNeg 88) 0) = g_33927 at hP hD hg_33927 h88
      refine lv_aload_n hx hb dX7_reads_104 rfl (lv_at hl 1 rfl) ?_
      refine lv_iload_n hx hb dX7_reads_105 rfl (lv_at hl 0 rfl) ?_
      refine lv_iconst (v := 1) hx hb dX7_reads_106 (by decide) ?_
      have hrm : (g_33927 88).toInt + (wk_33918 + kt_br g_33913 k_33918 (1 : Int32).toInt : Nat) ≤ 60 := by rw [show ((1 : Int32)).toInt = ((1 : Nat) : Int) from by decide]; omega
      refine ka_EV (n := 2) (wr := [(a2, .inl (k1, 89, .inl g_33926)), (a1, .inl (k0, 80, .inl f0))]) C (kt_write l D F a0 a1 0 a2 a3 a4 a5 a6 a7 a8 x2 x3 x4 x5 x6 x7 x8 a9 a10 a11 a12 a13 a14 v_33908 v_33922 x0 v_33910 (-1) v_33911 k4 k5 k6 k7 k2 k3 g_33913 g_33914 g_33915 g_33916 k_33918 (by omega) v_33912 1 wk_33918 g_33927 f3 (by omega) okk_33918 hg_33927 hf3 hrm) gX7_reads_X7_write rfl (by decide +kernel) ⟨show (k_33918 + 1) + 1 ≤ 143 by omega, show 8 + (4 + 11) + (k_33918 + 1) * 30 ≤ 3574 by omega⟩ hK hP hD hS hA hE hN [7, 3, 4, 5, 6, 1, 2] rfl (by decide) [0, 8] rfl (by decide) (by decide) [4, 5, 6, 7, 2, 3] rfl (ci := 7) rfl rfl 7 rfl rfl hl.1 (rest := []) rfl (Nat.le_of_ble_eq_true rfl) dX7_reads_107 ⟨Nat.le_of_ble_eq_true rfl, Nat.le_of_ble_eq_true rfl⟩ (fun u H locs hq hP hD hK hS => ?_)
      obtain ⟨g_33928, g_33929⟩ := u
      have hq : (∀ j : Nat, 0 ≤ (g_33928 j).toInt ∧ (g_33928 j).toInt ≤ 60) ∧ sb_Fit g_33929 ∧ _ := hq
      obtain ⟨hg_33928, hg_33929, -⟩ := hq
      have hP : va_P D vwCl [(a2, .inl (k1, 89, .inl g_33926)), (a1, .inl (k0, 80, .inl f0)), (a0, .inr (7, [.ref a1, .int 0, .ref a2, .ref a3, .ref a4, .ref a5, .ref a6, .ref a7, .ref a8, .int x2, .int x3, .int x4, .int x5, .int x6, .int x7, .int x8, .ref a9, .ref a10, .ref a11, .ref a12, .ref a13, .ref a14, .int v_33908, .int v_33922, .int x0, .int v_33910, .int (-1), .int v_33911])), (a11, .inl (k4, 60, .inl g_33913)), (a12, .inl (k5, 60, .inl g_33914)), (a13, .inl (k6, 60, .inl g_33915)), (a14, .inl (k7, 60, .inl g_33916)), (a3, .inl (k2, 89, .inl g_33928)), (a4, .inl (k3, 5340, .inl g_33929))] H := hP
      have hD : va_D A [(a2, .inl (k1, 89, .inl g_33926)), (a1, .inl (k0, 80, .inl f0)), (a0, .inr (7, [.ref a1, .int 0, .ref a2, .ref a3, .ref a4, .ref a5, .ref a6, .ref a7, .ref a8, .int x2, .int x3, .int x4, .int x5, .int x6, .int x7, .int x8, .ref a9, .ref a10, .ref a11, .ref a12, .ref a13, .ref a14, .int v_33908, .int v_33922, .int x0, .int v_33910, .int (-1), .int v_33911])), (a11, .inl (k4, 60, .inl g_33913)), (a12, .inl (k5, 60, .inl g_33914)), (a13, .inl (k6, 60, .inl g_33915)), (a14, .inl (k7, 60, .inl g_33916)), (a3, .inl (k2, 89, .inl g_33928)), (a4, .inl (k3, 5340, .inl g_33929))] := hD
      have hK : va_K D vwCl [(k0, .byte), (k1, .int), (k2, .int), (k3, .byte), (k4, .int), (k5, .int), (k6, .int), (k7, .int)] s := by simpa using hK
      refine ka_stk (w := []) rfl ?_
      refine lv_iconst (v := 1) hx hb dX7_reads_110 (by decide) ?_
      exact ka_rEz C hr hlk rfl (Nat.le_of_ble_eq_true rfl) (Nat.le_of_ble_eq_true rfl) hS (ka_qE (v_33908, v_33922, v_33910, (-1), v_33911, g_33926, g_33928, g_33929, g_33913, g_33914, g_33915, g_33916, 1) rfl ⟨(show 0 ≤ v_33908.toInt ∧ v_33908.toInt ≤ 60 from ⟨by omega, by omega⟩), (show 0 ≤ v_33922.toInt ∧ v_33922.toInt ≤ 60 from ⟨by omega, by omega⟩), (show 0 ≤ v_33910.toInt ∧ v_33910.toInt ≤ 8 from ⟨by omega, by omega⟩), (show 0 ≤ v_33911.toInt ∧ v_33911.toInt ≤ 1 from ⟨by omega, by omega⟩), hg_33928, hg_33929, (show 0 ≤ ((1 : Int32)).toInt ∧ ((1 : Int32)).toInt ≤ 1 from ⟨by decide, by decide⟩)⟩ hK hP hD hS [2, 1, 0, 7, 8, 3, 4, 5, 6] (by decide) rfl [] rfl) dX7_reads_111
    · have c_33924 : ¬ x0.toInt ≤ v_33922.toInt := by rw [ka_le'] at c_33924; exact c_33924
      refine lv_aload_n hx hb dX7_reads_46 rfl (lv_at hl 1 rfl) ?_
      refine lv_iconst (v := 1) hx hb dX7_reads_47 (by decide) ?_
      refine ka_put C lqr_432 tyX7 tyX7_ok nmX7 rfl hK hP hD hS 7 rfl 27 (by decide) lqr_437 rfl rfl rfl (Nat.le_of_ble_eq_true rfl) dX7_reads_48 (fun H locs hP hD hS => ?_)
      have hP : va_P D vwCl [(a2, .inl (k1, 89, .inl f1)), (a3, .inl (k2, 89, .inl f2)), (a4, .inl (k3, 5340, .inl f3)), (a11, .inl (k4, 60, .inl g_33913)), (a12, .inl (k5, 60, .inl g_33914)), (a13, .inl (k6, 60, .inl g_33915)), (a14, .inl (k7, 60, .inl g_33916)), (a0, .inr (7, [.ref a1, .int x1, .ref a2, .ref a3, .ref a4, .ref a5, .ref a6, .ref a7, .ref a8, .int x2, .int x3, .int x4, .int x5, .int x6, .int x7, .int x8, .ref a9, .ref a10, .ref a11, .ref a12, .ref a13, .ref a14, .int v_33908, .int v_33922, .int x0, .int v_33910, .int x13, .int 1])), (a1, .inl (k0, 80, .inl f0))] H := hP
      have hD : va_D A [(a2, .inl (k1, 89, .inl f1)), (a3, .inl (k2, 89, .inl f2)), (a4, .inl (k3, 5340, .inl f3)), (a11, .inl (k4, 60, .inl g_33913)), (a12, .inl (k5, 60, .inl g_33914)), (a13, .inl (k6, 60, .inl g_33915)), (a14, .inl (k7, 60, .inl g_33916)), (a0, .inr (7, [.ref a1, .int x1, .ref a2, .ref a3, .ref a4, .ref a5, .ref a6, .ref a7, .ref a8, .int x2, .int x3, .int x4, .int x5, .int x6, .int x7, .int x8, .ref a9, .ref a10, .ref a11, .ref a12, .ref a13, .ref a14, .int v_33908, .int v_33922, .int x0, .int v_33910, .int x13, .int 1])), (a1, .inl (k0, 80, .inl f0))] := hD
      refine lv_aload_n hx hb dX7_reads_51 rfl (lv_at hl 1 rfl) ?_
      refine lv_iconst (v := 0) hx hb dX7_reads_52 (by decide) ?_
      refine ka_put C lqr_432 tyX7 tyX7_ok nmX7 rfl hK hP hD hS 7 rfl 1 (by decide) lqr_438 rfl rfl rfl (Nat.le_of_ble_eq_true rfl) dX7_reads_53 (fun H locs hP hD hS => ?_)
      have hP : va_P D vwCl [(a2, .inl (k1, 89, .inl f1)), (a3, .inl (k2, 89, .inl f2)), (a4, .inl (k3, 5340, .inl f3)), (a11, .inl (k4, 60, .inl g_33913)), (a12, .inl (k5, 60, .inl g_33914)), (a13, .inl (k6, 60, .inl g_33915)), (a14, .inl (k7, 60, .inl g_33916)), (a0, .inr (7, [.ref a1, .int 0, .ref a2, .ref a3, .ref a4, .ref a5, .ref a6, .ref a7, .ref a8, .int x2, .int x3, .int x4, .int x5, .int x6, .int x7, .int x8, .ref a9, .ref a10, .ref a11, .ref a12, .ref a13, .ref a14, .int v_33908, .int v_33922, .int x0, .int v_33910, .int x13, .int 1])), (a1, .inl (k0, 80, .inl f0))] H := hP
      have hD : va_D A [(a2, .inl (k1, 89, .inl f1)), (a3, .inl (k2, 89, .inl f2)), (a4, .inl (k3, 5340, .inl f3)), (a11, .inl (k4, 60, .inl g_33913)), (a12, .inl (k5, 60, .inl g_33914)), (a13, .inl (k6, 60, .inl g_33915)), (a14, .inl (k7, 60, .inl g_33916)), (a0, .inr (7, [.ref a1, .int 0, .ref a2, .ref a3, .ref a4, .ref a5, .ref a6, .ref a7, .ref a8, .int x2, .int x3, .int x4, .int x5, .int x6, .int x7, .int x8, .ref a9, .ref a10, .ref a11, .ref a12, .ref a13, .ref a14, .int v_33908, .int v_33922, .int x0, .int v_33910, .int x13, .int 1])), (a1, .inl (k0, 80, .inl f0))] := hD
      refine lv_aload_n hx hb dX7_reads_56 rfl (lv_at hl 1 rfl) ?_
      refine lv_aload_n hx hb dX7_reads_57 rfl (lv_at hl 1 rfl) ?_
      refine ka_get C lqr_432 rfl hK hP 7 rfl 27 (by decide) lqr_437 rfl dX7_reads_58 ?_
      refine lv_if_eq (tgt := 71) hx hb dX7_reads_61 (by decide) (fun c_ => absurd c_ (by decide)) (fun _ => ?_)
      refine lv_aload_n hx hb dX7_reads_64 rfl (lv_at hl 1 rfl) ?_
      refine ka_get C lqr_432 rfl hK hP 7 rfl 23 (by decide) lqr_434 rfl dX7_reads_65 ?_
      refine lv_goto (tgt := 72) hx hb dX7_reads_68 (by decide) ?_
      refine ka_put C lqr_432 tyX7 tyX7_ok nmX7 rfl hK hP hD hS 7 rfl 26 (by decide) lqr_439 rfl rfl rfl (Nat.le_of_ble_eq_true rfl) dX7_reads_72 (fun H locs hP hD hS => ?_)
      have hP : va_P D vwCl [(a2, .inl (k1, 89, .inl f1)), (a3, .inl (k2, 89, .inl f2)), (a4, .inl (k3, 5340, .inl f3)), (a11, .inl (k4, 60, .inl g_33913)), (a12, .inl (k5, 60, .inl g_33914)), (a13, .inl (k6, 60, .inl g_33915)), (a14, .inl (k7, 60, .inl g_33916)), (a0, .inr (7, [.ref a1, .int 0, .ref a2, .ref a3, .ref a4, .ref a5, .ref a6, .ref a7, .ref a8, .int x2, .int x3, .int x4, .int x5, .int x6, .int x7, .int x8, .ref a9, .ref a10, .ref a11, .ref a12, .ref a13, .ref a14, .int v_33908, .int v_33922, .int x0, .int v_33910, .int v_33922, .int 1])), (a1, .inl (k0, 80, .inl f0))] H := hP
      have hD : va_D A [(a2, .inl (k1, 89, .inl f1)), (a3, .inl (k2, 89, .inl f2)), (a4, .inl (k3, 5340, .inl f3)), (a11, .inl (k4, 60, .inl g_33913)), (a12, .inl (k5, 60, .inl g_33914)), (a13, .inl (k6, 60, .inl g_33915)), (a14, .inl (k7, 60, .inl g_33916)), (a0, .inr (7, [.ref a1, .int 0, .ref a2, .ref a3, .ref a4, .ref a5, .ref a6, .ref a7, .ref a8, .int x2, .int x3, .int x4, .int x5, .int x6, .int x7, .int x8, .ref a9, .ref a10, .ref a11, .ref a12, .ref a13, .ref a14, .int v_33908, .int v_33922, .int x0, .int v_33910, .int v_33922, .int 1])), (a1, .inl (k0, 80, .inl f0))] := hD
      refine lv_aload_n hx hb dX7_reads_75 rfl (lv_at hl 1 rfl) ?_
      refine ka_get C lqr_432 rfl hK hP 7 rfl 27 (by decide) lqr_437 rfl dX7_reads_76 ?_
      refine lv_if_eq (tgt := 84) hx hb dX7_reads_79 (by decide) (fun c_ => absurd c_ (by decide)) (fun _ => ?_)
      refine lv_iconst (v := 0) hx hb dX7_reads_82 (by decide) ?_
      exact ka_rEz C hr hlk rfl (Nat.le_of_ble_eq_true rfl) (Nat.le_of_ble_eq_true rfl) hS (ka_qE (v_33908, v_33922, v_33910, v_33922, 1, f1, f2, f3, g_33913, g_33914, g_33915, g_33916, 0) rfl ⟨(show 0 ≤ v_33908.toInt ∧ v_33908.toInt ≤ 60 from ⟨by omega, by omega⟩), (show 0 ≤ v_33922.toInt ∧ v_33922.toInt ≤ 60 from ⟨by omega, by omega⟩), (show 0 ≤ v_33910.toInt ∧ v_33910.toInt ≤ 8 from ⟨by omega, by omega⟩), (show 0 ≤ ((1 : Int32)).toInt ∧ ((1 : Int32)).toInt ≤ 1 from ⟨by decide, by decide⟩), hf2, hf3, (show 0 ≤ ((0 : Int32)).toInt ∧ ((0 : Int32)).toInt ≤ 1 from ⟨by decide, by decide⟩)⟩ hK hP hD hS [7, 8, 0, 1, 2, 3, 4, 5, 6] (by decide) rfl [] rfl) dX7_reads_83
set_option maxHeartbeats 4000000 in
set_option maxRecDepth 100000 in
theorem cr_X7_keeps_440 (l : Launch) (D : va_G) (F : Nat → Prop) (a0 : Nat) (x0 : Int32) (a1 : Nat) (x1 : Int32) (a2 : Nat) (a3 : Nat) (a4 : Nat) (a5 : Nat) (a6 : Nat) (a7 : Nat) (a8 : Nat) (x2 : Int32) (x3 : Int32) (x4 : Int32) (x5 : Int32) (x6 : Int32) (x7 : Int32) (x8 : Int32) (a9 : Nat) (a10 : Nat) (a11 : Nat) (a12 : Nat) (a13 : Nat) (a14 : Nat) (x9 : Int32) (x10 : Int32) (x11 : Int32) (x12 : Int32) (x13 : Int32) (x14 : Int32) (k0 : ClassId) (f0 : Nat → Int32) (k1 : ClassId) (f1 : Nat → Int32) (k2 : ClassId) (f2 : Nat → Int32) (hx0 : 78 ≤ x0.toInt ∧ x0.toInt ≤ 87) (hx1 : 0 ≤ x1.toInt ∧ x1.toInt ≤ 80) (hx2 : 0 ≤ x2.toInt ∧ x2.toInt ≤ 5) (hx5 : 1 ≤ x5.toInt ∧ x5.toInt ≤ 8) (hx6 : 0 ≤ x6.toInt ∧ x6.toInt ≤ 40) (hx8 : 0 ≤ x8.toInt ∧ x8.toInt ≤ 10) (hx9 : 0 ≤ x9.toInt ∧ x9.toInt ≤ 60) (hx10 : 0 ≤ x10.toInt ∧ x10.toInt ≤ 60) (hx11 : 0 ≤ x11.toInt ∧ x11.toInt ≤ 60) (hx12 : 0 ≤ x12.toInt ∧ x12.toInt ≤ 8) (hx14 : 0 ≤ x14.toInt ∧ x14.toInt ≤ 1) (hf1 : ∀ j : Nat, 0 ≤ (f1 j).toInt ∧ (f1 j).toInt ≤ 60) (hf2 : sb_Fit f2) : ka_E l D F yX7_keeps wsX7_keeps 0 0 0 0 [.ref a0, .int x0] [(a0, .inr (7, [.ref a1, .int x1, .ref a2, .ref a3, .ref a4, .ref a5, .ref a6, .ref a7, .ref a8, .int x2, .int x3, .int x4, .int x5, .int x6, .int x7, .int x8, .ref a9, .ref a10, .ref a11, .ref a12, .ref a13, .ref a14, .int x9, .int x10, .int x11, .int x12, .int x13, .int x14])), (a2, .inl (k0, 89, .inl f0)), (a3, .inl (k1, 89, .inl f1)), (a4, .inl (k2, 5340, .inl f2))] [(k0, .int), (k1, .int), (k2, .byte)] (fun (u : (Nat → Int32) × (Nat → Int32) × (Nat → Int32)) => none) (fun (u : (Nat → Int32) × (Nat → Int32) × (Nat → Int32)) => (∀ j : Nat, 0 ≤ ((u.2.1) j).toInt ∧ ((u.2.1) j).toInt ≤ 60) ∧ (sb_Fit (u.2.2))) (fun (u : (Nat → Int32) × (Nat → Int32) × (Nat → Int32)) => [(a0, .inr (7, [.ref a1, .int x1, .ref a2, .ref a3, .ref a4, .ref a5, .ref a6, .ref a7, .ref a8, .int x2, .int x3, .int x4, .int x5, .int x6, .int x7, .int x8, .ref a9, .ref a10, .ref a11, .ref a12, .ref a13, .ref a14, .int x9, .int x10, .int x11, .int x12, .int x13, .int x14])), (a2, .inl (k0, 89, .inl (u.1))), (a3, .inl (k1, 89, .inl (u.2.1))), (a4, .inl (k2, 5340, .inl (u.2.2)))]) (fun (u : (Nat → Int32) × (Nat → Int32) × (Nat → Int32)) => []) := by
  refine ka_E_of (cc := cX7_keeps) (maxL := 3) (ret := none) (by decide) rfl (Nat.le_of_ble_eq_true rfl) ?_
  intro p e s m below meth c ls A C hr hlk hin hP hK hD hS hA hE hN hl
  have C : CallFix p m c cX7_keeps 3 s [.ref a0, .int x0].toArray wsX7_keeps RX7 := C
  obtain ⟨hx, hb, hml, hown, hts⟩ := id C
  have hl : lv_has ls 3 [(0, .ref a0), (1, .int x0)] := hl
  have rx0 := ka_rng x0
  have rx1 := ka_rng x1
  have rx2 := ka_rng x2
  have rx3 := ka_rng x3
  have rx4 := ka_rng x4
  have rx5 := ka_rng x5
  have rx6 := ka_rng x6
  have rx7 := ka_rng x7
  have rx8 := ka_rng x8
  have rx9 := ka_rng x9
  have rx10 := ka_rng x10
  have rx11 := ka_rng x11
  have rx12 := ka_rng x12
  have rx13 := ka_rng x13
  have rx14 := ka_rng x14
  refine lv_aload_n hx hb dX7_keeps_0 rfl (lv_at hl 0 rfl) ?_
  refine ka_get C lq_369 rfl hK hP 0 rfl 2 (by decide) lq_370 rfl dX7_keeps_1 ?_
  refine lv_iload_n hx hb dX7_keeps_4 rfl (lv_at hl 1 rfl) ?_
  refine lv_aload_n hx hb dX7_keeps_5 rfl (lv_at hl 0 rfl) ?_
  refine ka_get C lq_369 rfl hK hP 0 rfl 2 (by decide) lq_370 rfl dX7_keeps_6 ?_
  refine lv_bipush (v := 88) hx hb dX7_keeps_9 (by decide) ?_
  refine va_iald hx hb hK hP 1 0 rfl rfl (ka_in (by decide) (by decide)) dX7_keeps_11 ?_
  refine lv_topi (fun v_34033 ev_34033 => ?_)
  refine va_iast hx hb hK hP hD hS 1 0 rfl rfl (ka_in (by omega) (by omega)) dX7_keeps_12 (fun H locs hP hD hS => ?_)
  have hP : va_P D vwCl [(a0, .inr (7, [.ref a1, .int x1, .ref a2, .ref a3, .ref a4, .ref a5, .ref a6, .ref a7, .ref a8, .int x2, .int x3, .int x4, .int x5, .int x6, .int x7, .int x8, .ref a9, .ref a10, .ref a11, .ref a12, .ref a13, .ref a14, .int x9, .int x10, .int x11, .int x12, .int x13, .int x14])), (a2, .inl (k0, 89, .inl (upd f0 (Int32.toNatClampNeg x0) v_34033))), (a3, .inl (k1, 89, .inl f1)), (a4, .inl (k2, 5340, .inl f2))] H := hP
  have hD : va_D A [(a0, .inr (7, [.ref a1, .int x1, .ref a2, .ref a3, .ref a4, .ref a5, .ref a6, .ref a7, .ref a8, .int x2, .int x3, .int x4, .int x5, .int x6, .int x7, .int x8, .ref a9, .ref a10, .ref a11, .ref a12, .ref a13, .ref a14, .int x9, .int x10, .int x11, .int x12, .int x13, .int x14])), (a2, .inl (k0, 89, .inl (upd f0 (Int32.toNatClampNeg x0) v_34033))), (a3, .inl (k1, 89, .inl f1)), (a4, .inl (k2, 5340, .inl f2))] := hD
  generalize (upd f0 (Int32.toNatClampNeg x0) v_34033) = g_34034 at hP hD
  refine lv_aload_n hx hb dX7_keeps_13 rfl (lv_at hl 0 rfl) ?_
  refine ka_get C lq_369 rfl hK hP 0 rfl 3 (by decide) lq_371 rfl dX7_keeps_14 ?_
  refine lv_iload_n hx hb dX7_keeps_17 rfl (lv_at hl 1 rfl) ?_
  refine lv_aload_n hx hb dX7_keeps_18 rfl (lv_at hl 0 rfl) ?_
  refine ka_get C lq_369 rfl hK hP 0 rfl 3 (by decide) lq_371 rfl dX7_keeps_19 ?_
  refine lv_bipush (v := 88) hx hb dX7_keeps_22 (by decide) ?_
  refine va_iald hx hb hK hP 2 1 rfl rfl (ka_in (by decide) (by decide)) dX7_keeps_24 ?_
  refine lv_topi (fun v_34035 ev_34035 => ?_)
  have hv_34035 := hf1 (Int32.toNatClampNeg 88); rw [← ev_34035] at hv_34035
  refine va_iast hx hb hK hP hD hS 2 1 rfl rfl (ka_in (by omega) (by omega)) dX7_keeps_25 (fun H locs hP hD hS => ?_)
  have hP : va_P D vwCl [(a0, .inr (7, [.ref a1, .int x1, .ref a2, .ref a3, .ref a4, .ref a5, .ref a6, .ref a7, .ref a8, .int x2, .int x3, .int x4, .int x5, .int x6, .int x7, .int x8, .ref a9, .ref a10, .ref a11, .ref a12, .ref a13, .ref a14, .int x9, .int x10, .int x11, .int x12, .int x13, .int x14])), (a2, .inl (k0, 89, .inl g_34034)), (a3, .inl (k1, 89, .inl (upd f1 (Int32.toNatClampNeg x0) v_34035))), (a4, .inl (k2, 5340, .inl f2))] H := hP
  have hD : va_D A [(a0, .inr (7, [.ref a1, .int x1, .ref a2, .ref a3, .ref a4, .ref a5, .ref a6, .ref a7, .ref a8, .int x2, .int x3, .int x4, .int x5, .int x6, .int x7, .int x8, .ref a9, .ref a10, .ref a11, .ref a12, .ref a13, .ref a14, .int x9, .int x10, .int x11, .int x12, .int x13, .int x14])), (a2, .inl (k0, 89, .inl g_34034)), (a3, .inl (k1, 89, .inl (upd f1 (Int32.toNatClampNeg x0) v_34035))), (a4, .inl (k2, 5340, .inl f2))] := hD
  have hg_34036 : ∀ j : Nat, 0 ≤ ((upd f1 (Int32.toNatClampNeg x0) v_34035) j).toInt ∧ ((upd f1 (Int32.toNatClampNeg x0) v_34035) j).toInt ≤ 60 := kb_rngU hf1 (by omega) (by omega)
  generalize (upd f1 (Int32.toNatClampNeg x0) v_34035) = g_34036 at hP hD hg_34036
  refine lv_iconst (v := 0) hx hb dX7_keeps_26 (by decide) ?_
  refine lv_istore_n (lv' := [(2, .int 0), (0, .ref a0), (1, .int x0)]) hx hb dX7_keeps_27 rfl hl (by decide) rfl (fun ls hl => ?_)
  have lp_34046 : ∀ (n : Nat) (i34046_2 : Int32) (w34046_3 : Nat → Int32), (0 ≤ i34046_2.toInt ∧ i34046_2.toInt ≤ 60) → (sb_Fit w34046_3) → (60 - i34046_2.toInt).toNat < n → ∀ (H : Heap) (locs : List Loc), va_P D vwCl [(a0, .inr (7, [.ref a1, .int x1, .ref a2, .ref a3, .ref a4, .ref a5, .ref a6, .ref a7, .ref a8, .int x2, .int x3, .int x4, .int x5, .int x6, .int x7, .int x8, .ref a9, .ref a10, .ref a11, .ref a12, .ref a13, .ref a14, .int x9, .int x10, .int x11, .int x12, .int x13, .int x14])), (a2, .inl (k0, 89, .inl g_34034)), (a3, .inl (k1, 89, .inl g_34036)), (a4, .inl (k2, 5340, .inl w34046_3))] H → va_D A [(a0, .inr (7, [.ref a1, .int x1, .ref a2, .ref a3, .ref a4, .ref a5, .ref a6, .ref a7, .ref a8, .int x2, .int x3, .int x4, .int x5, .int x6, .int x7, .int x8, .ref a9, .ref a10, .ref a11, .ref a12, .ref a13, .ref a14, .int x9, .int x10, .int x11, .int x12, .int x13, .int x14])), (a2, .inl (k0, 89, .inl g_34034)), (a3, .inl (k1, 89, .inl g_34036)), (a4, .inl (k2, 5340, .inl w34046_3))] → va_S A s.heap H locs → ∀ (ls : Array Slot), lv_has ls 3 [(0, .ref a0), (1, .int x0), (2, .int i34046_2)] → W p l e ({ frames := 0, cells := 0, slots := 0, locals := 0 }) s m [.ref a0, .int x0].toArray below meth c H locs 0 0 (MQ below (ka_QE D A (fun (u : (Nat → Int32) × (Nat → Int32) × (Nat → Int32)) => none) (fun (u : (Nat → Int32) × (Nat → Int32) × (Nat → Int32)) => (∀ j : Nat, 0 ≤ ((u.2.1) j).toInt ∧ ((u.2.1) j).toInt ≤ 60) ∧ (sb_Fit (u.2.2))) (fun (u : (Nat → Int32) × (Nat → Int32) × (Nat → Int32)) => [(a0, .inr (7, [.ref a1, .int x1, .ref a2, .ref a3, .ref a4, .ref a5, .ref a6, .ref a7, .ref a8, .int x2, .int x3, .int x4, .int x5, .int x6, .int x7, .int x8, .ref a9, .ref a10, .ref a11, .ref a12, .ref a13, .ref a14, .int x9, .int x10, .int x11, .int x12, .int x13, .int x14])), (a2, .inl (k0, 89, .inl (u.1))), (a3, .inl (k1, 89, .inl (u.2.1))), (a4, .inl (k2, 5340, .inl (u.2.2)))]) (fun (u : (Nat → Int32) × (Nat → Int32) × (Nat → Int32)) => [])) [.ref a0, .int x0].toArray s 0 0 A) (F0 m 28 ls []) := by
    intro n
    induction n with
    | zero =>
      intro i34046_2 w34046_3 hi34046_2 hw34046_3 hm
      exact absurd hm (Nat.not_lt_zero _)
    | succ n ih_34046 =>
      intro i34046_2 w34046_3 hi34046_2 hw34046_3 hm H locs hP hD hS ls hl
      have ri34046_2 := ka_rng i34046_2
      refine lv_iload_n hx hb dX7_keeps_28 rfl (lv_at hl 2 rfl) ?_
      refine lv_aload_n hx hb dX7_keeps_29 rfl (lv_at hl 0 rfl) ?_
      refine ka_get C lq_369 rfl hK hP 0 rfl 3 (by decide) lq_371 rfl dX7_keeps_30 ?_
      refine lv_bipush (v := 88) hx hb dX7_keeps_33 (by decide) ?_
      refine va_iald hx hb hK hP 2 1 rfl rfl (ka_in (by decide) (by decide)) dX7_keeps_35 ?_
      refine lv_topi (fun v_34055 ev_34055 => ?_)
      have hv_34055 := hg_34036 (Int32.toNatClampNeg 88); rw [← ev_34055] at hv_34055
      refine lv_icmp_ge (tgt := 66) hx hb dX7_keeps_36 (by decide) (fun c_34056 => ?_) (fun c_34056 => ?_)
      · have c_34056 : v_34055.toInt ≤ i34046_2.toInt := by rw [ka_le'] at c_34056; exact c_34056
        exact ka_rEv C hr hlk (Nat.le_of_ble_eq_true rfl) (Nat.le_of_ble_eq_true rfl) hS (ka_qE (g_34034, g_34036, w34046_3) rfl ⟨hg_34036, hw34046_3⟩ hK hP hD hS [0, 1, 2, 3] (by decide) rfl [] rfl) dX7_keeps_66
      · have c_34056 : ¬ v_34055.toInt ≤ i34046_2.toInt := by rw [ka_le'] at c_34056; exact c_34056
        refine lv_aload_n hx hb dX7_keeps_39 rfl (lv_at hl 0 rfl) ?_
        refine ka_get C lq_369 rfl hK hP 0 rfl 4 (by decide) lq_372 rfl dX7_keeps_40 ?_
        refine lv_bipush (v := 60) hx hb dX7_keeps_43 (by decide) ?_
        refine lv_iload_n hx hb dX7_keeps_45 rfl (lv_at hl 1 rfl) ?_
        refine lv_imul hx hb dX7_keeps_46 ?_
        refine lv_topi (fun v_34057 ev_34057 => ?_)
        have fv_34057 : v_34057.toInt = 60 * x0.toInt := by rw [ev_34057]; exact ka_mul (x := 60) (y := x0.toInt) (by decide) rfl (by omega) (by omega)
        refine lv_iload_n hx hb dX7_keeps_47 rfl (lv_at hl 2 rfl) ?_
        refine lv_iadd hx hb dX7_keeps_48 ?_
        refine lv_topi (fun v_34058 ev_34058 => ?_)
        have fv_34058 : v_34058.toInt = v_34057.toInt + i34046_2.toInt := by rw [ev_34058]; exact ka_add (x := v_34057.toInt) (y := i34046_2.toInt) rfl rfl (by omega) (by omega)
        refine lv_aload_n hx hb dX7_keeps_49 rfl (lv_at hl 0 rfl) ?_
        refine ka_get C lq_369 rfl hK hP 0 rfl 4 (by decide) lq_372 rfl dX7_keeps_50 ?_
        refine lv_sipush (v := 5280) hx hb dX7_keeps_53 (by decide) ?_
        refine lv_iload_n hx hb dX7_keeps_56 rfl (lv_at hl 2 rfl) ?_
        refine lv_iadd hx hb dX7_keeps_57 ?_
        refine lv_topi (fun v_34059 ev_34059 => ?_)
        have fv_34059 : v_34059.toInt = 5280 + i34046_2.toInt := by rw [ev_34059]; exact ka_add (x := 5280) (y := i34046_2.toInt) (by decide) rfl (by omega) (by omega)
        refine va_bald hx hb hK hP 3 2 rfl rfl (ka_in (by omega) (by omega)) dX7_keeps_58 ?_
        refine lv_topi (fun v_34060 ev_34060 => ?_)
        refine va_bast hx hb hK hP hD hS 3 2 rfl rfl (ka_in (by omega) (by omega)) dX7_keeps_59 (fun H locs hP hD hS => ?_)
        have hP : va_P D vwCl [(a0, .inr (7, [.ref a1, .int x1, .ref a2, .ref a3, .ref a4, .ref a5, .ref a6, .ref a7, .ref a8, .int x2, .int x3, .int x4, .int x5, .int x6, .int x7, .int x8, .ref a9, .ref a10, .ref a11, .ref a12, .ref a13, .ref a14, .int x9, .int x10, .int x11, .int x12, .int x13, .int x14])), (a2, .inl (k0, 89, .inl g_34034)), (a3, .inl (k1, 89, .inl g_34036)), (a4, .inl (k2, 5340, .inl (upd w34046_3 (Int32.toNatClampNeg v_34058) (vp_nar .byte v_34060))))] H := hP
        have hD : va_D A [(a0, .inr (7, [.ref a1, .int x1, .ref a2, .ref a3, .ref a4, .ref a5, .ref a6, .ref a7, .ref a8, .int x2, .int x3, .int x4, .int x5, .int x6, .int x7, .int x8, .ref a9, .ref a10, .ref a11, .ref a12, .ref a13, .ref a14, .int x9, .int x10, .int x11, .int x12, .int x13, .int x14])), (a2, .inl (k0, 89, .inl g_34034)), (a3, .inl (k1, 89, .inl g_34036)), (a4, .inl (k2, 5340, .inl (upd w34046_3 (Int32.toNatClampNeg v_34058) (vp_nar .byte v_34060))))] := hD
        have hg_34061 : sb_Fit (upd w34046_3 (Int32.toNatClampNeg v_34058) (vp_nar .byte v_34060)) := sb_fitU hw34046_3 (kb_nb _)
        generalize (upd w34046_3 (Int32.toNatClampNeg v_34058) (vp_nar .byte v_34060)) = g_34061 at hP hD hg_34061
        obtain ⟨v_34062, ev_34062⟩ : ∃ y : Int32, y = i34046_2 + 1 := ⟨_, rfl⟩
        refine lv_iinc (v := v_34062) (lv' := [(2, .int v_34062), (0, .ref a0), (1, .int x0)]) hx hb dX7_keeps_60 hl (k := 2) rfl (by rw [ev_34062]; rfl) (by decide) rfl (fun ls hl => ?_)
        have fv_34062 : v_34062.toInt = i34046_2.toInt + 1 := by rw [ev_34062]; exact ka_add (x := i34046_2.toInt) (y := 1) rfl (by decide) (by omega) (by omega)
        refine lv_goto (tgt := 28) hx hb dX7_keeps_63 (by decide) ?_
        exact ih_34046 v_34062 g_34061 ⟨by omega, by omega⟩ hg_34061 (by omega) H locs (hP.sub [0, 1, 2, 3] rfl) (hD.sub [0, 1, 2, 3] (by decide) rfl) hS ls (lv_sub hl [1, 2, 0] rfl)
  exact lp_34046 _ 0 f2 ⟨by decide, by decide⟩ hf2 (Nat.lt_succ_self _) _ _ hP hD hS ls (lv_sub hl [1, 2, 0] rfl)
set_option maxHeartbeats 4000000 in
set_option maxRecDepth 100000 in
theorem cr_X7_isIn_441 (l : Launch) (D : va_G) (F : Nat → Prop) (x0 : Int32) (x1 : Int32) (hx0 : 61 ≤ x0.toInt) (hx1 : 0 ≤ x1.toInt ∧ x1.toInt ≤ 60) : ka_R l D F yX7_isIn wsX7_isIn 0 0 [.int x0, .int 0, .int x1] [] [] (fun v => v = some (.int 0)) := by
  refine ka_R_of (cc := cX7_isIn) (maxL := 3) (ret := (some .boolean)) (by decide) rfl (Nat.le_of_ble_eq_true rfl) ?_
  intro p e s m below meth c ls C hr hlk hP hK hE hN hl
  have hS : va_S (fun _ => False) s.heap s.heap [] := va_S.rf
  have C : CallFix p m c cX7_isIn 3 s [.int x0, .int 0, .int x1].toArray wsX7_isIn RX7 := C
  obtain ⟨hx, hb, hml, hown, hts⟩ := id C
  have hl : lv_has ls 3 [(0, .int x0), (1, .int 0), (2, .int x1)] := hl
  have rx0 := ka_rng x0
  have rx1 := ka_rng x1
  refine lv_iload_n hx hb dX7_isIn_0 rfl (lv_at hl 0 rfl) ?_
  refine lv_iload_n hx hb dX7_isIn_1 rfl (lv_at hl 1 rfl) ?_
  refine lv_icmp_lt (tgt := 14) hx hb dX7_isIn_2 (by decide) (fun c_ => absurd c_ (by rw [ka_lt', show ((0 : Int32)).toInt = 0 from by decide]; omega)) (fun _ => ?_)
  refine lv_iload_n hx hb dX7_isIn_5 rfl (lv_at hl 0 rfl) ?_
  refine lv_iload_n hx hb dX7_isIn_6 rfl (lv_at hl 2 rfl) ?_
  refine lv_icmp_gt (tgt := 14) hx hb dX7_isIn_7 (by decide) (fun _ => ?_) (fun c_ => absurd (by rw [ka_lt']; omega) c_)
  refine lv_iconst (v := 0) hx hb dX7_isIn_14 (by decide) ?_
  exact ka_rRz C hr hlk rfl rfl dX7_isIn_15
set_option maxHeartbeats 4000000 in
set_option maxRecDepth 100000 in
theorem cr_X7_isText_442 (l : Launch) (D : va_G) (F : Nat → Prop) (a0 : Nat) (x0 : Int32) (a1 : Nat) (x1 : Int32) (a2 : Nat) (a3 : Nat) (a4 : Nat) (a5 : Nat) (a6 : Nat) (a7 : Nat) (a8 : Nat) (x2 : Int32) (x3 : Int32) (x4 : Int32) (x5 : Int32) (x6 : Int32) (x7 : Int32) (x8 : Int32) (a9 : Nat) (a10 : Nat) (a11 : Nat) (a12 : Nat) (a13 : Nat) (a14 : Nat) (x9 : Int32) (x10 : Int32) (x11 : Int32) (x12 : Int32) (x13 : Int32) (x14 : Int32) (hx0 : 61 ≤ x0.toInt) (hx1 : 0 ≤ x1.toInt ∧ x1.toInt ≤ 80) (hx2 : 0 ≤ x2.toInt ∧ x2.toInt ≤ 5) (hx5 : 1 ≤ x5.toInt ∧ x5.toInt ≤ 8) (hx6 : 0 ≤ x6.toInt ∧ x6.toInt ≤ 40) (hx8 : 0 ≤ x8.toInt ∧ x8.toInt ≤ 10) (hx9 : 0 ≤ x9.toInt ∧ x9.toInt ≤ 60) (hx10 : 0 ≤ x10.toInt ∧ x10.toInt ≤ 60) (hx11 : 0 ≤ x11.toInt ∧ x11.toInt ≤ 60) (hx12 : 0 ≤ x12.toInt ∧ x12.toInt ≤ 8) (hx14 : 0 ≤ x14.toInt ∧ x14.toInt ≤ 1) : ka_R l D F yX7_isText wsX7_isText 1 22 [.ref a0, .int x0] [(a0, .inr (7, [.ref a1, .int x1, .ref a2, .ref a3, .ref a4, .ref a5, .ref a6, .ref a7, .ref a8, .int x2, .int x3, .int x4, .int x5, .int x6, .int x7, .int x8, .ref a9, .ref a10, .ref a11, .ref a12, .ref a13, .ref a14, .int x9, .int x10, .int x11, .int x12, .int x13, .int x14]))] [] (fun v => v = some (.int 0)) := by
  refine ka_R_of (cc := cX7_isText) (maxL := 2) (ret := (some .boolean)) (by decide) rfl (Nat.le_of_ble_eq_true rfl) ?_
  intro p e s m below meth c ls C hr hlk hP hK hE hN hl
  have hS : va_S (fun _ => False) s.heap s.heap [] := va_S.rf
  have C : CallFix p m c cX7_isText 2 s [.ref a0, .int x0].toArray wsX7_isText RX7 := C
  obtain ⟨hx, hb, hml, hown, hts⟩ := id C
  have hl : lv_has ls 2 [(0, .ref a0), (1, .int x0)] := hl
  have rx0 := ka_rng x0
  have rx1 := ka_rng x1
  have rx2 := ka_rng x2
  have rx3 := ka_rng x3
  have rx4 := ka_rng x4
  have rx5 := ka_rng x5
  have rx6 := ka_rng x6
  have rx7 := ka_rng x7
  have rx8 := ka_rng x8
  have rx9 := ka_rng x9
  have rx10 := ka_rng x10
  have rx11 := ka_rng x11
  have rx12 := ka_rng x12
  have rx13 := ka_rng x13
  have rx14 := ka_rng x14
  refine lv_iload_n hx hb dX7_isText_0 rfl (lv_at hl 1 rfl) ?_
  refine lv_iconst (v := 0) hx hb dX7_isText_1 (by decide) ?_
  refine lv_bipush (v := 60) hx hb dX7_isText_2 (by decide) ?_
  refine lv_aload_n hx hb dX7_isText_4 rfl (lv_at hl 0 rfl) ?_
  refine ka_get C lq_373 rfl hK hP 0 rfl 1 (by decide) lq_374 rfl dX7_isText_5 ?_
  refine va_mmin hx hb (hml.trans hl.1.symm) hown (hts _ lq_375) (hts _ lq_376) (hts _ lq_377) (hts _ lq_378) (Nat.le_of_ble_eq_true rfl) (Nat.le_of_ble_eq_true rfl) (Nat.le_of_ble_eq_true rfl) (Nat.le_of_ble_eq_true rfl) dX7_isText_8 ?_
  refine lv_topi (fun v_34127 ev_34127 => ?_)
  have fv_34127 := kb_min 60 x1; rw [← ev_34127] at fv_34127
  rw [show ((60 : Int32)).toInt = 60 from by decide] at fv_34127
  refine ka_RS (n := 3) C (cr_X7_isIn_441 l D F x0 v_34127 (by omega) ⟨by omega, by omega⟩) gX7_isText_X7_isIn rfl (by decide +kernel) ⟨Nat.le_of_ble_eq_true rfl, Nat.le_of_ble_eq_true rfl⟩ hK hP hS hE hN [] rfl [] rfl rfl hl.1 (rest := []) rfl (Nat.le_of_ble_eq_true rfl) dX7_isText_11 ⟨Nat.le_of_ble_eq_true rfl, Nat.le_of_ble_eq_true rfl⟩ (fun v hv => ?_)
  subst hv
  refine ka_stk (w := [.int 0]) rfl ?_
  exact ka_rRz C hr hlk rfl rfl dX7_isText_14
theorem lqr_446 : ∀ w ∈ wsX70, w ∈ wsX7_say := by decide +kernel
theorem lqr_447 : Cond.fieldLink RX7 36 "AskedBackModel" "lesson" "I" ∈ wsX7_say := by decide +kernel
theorem lqr_448 : Cond.fieldLink RX7 175 "AskedBackModel" "said" "I" ∈ wsX7_say := by decide +kernel
set_option maxHeartbeats 4000000 in
set_option maxRecDepth 100000 in
theorem cr_X7_say_443 (l : Launch) (D : va_G) (F : Nat → Prop) (a0 : Nat) (x0 : Int32) (a1 : Nat) (x1 : Int32) (a2 : Nat) (a3 : Nat) (a4 : Nat) (a5 : Nat) (a6 : Nat) (a7 : Nat) (a8 : Nat) (x2 : Int32) (x3 : Int32) (x4 : Int32) (x5 : Int32) (x6 : Int32) (x7 : Int32) (x8 : Int32) (a9 : Nat) (a10 : Nat) (a11 : Nat) (a12 : Nat) (a13 : Nat) (a14 : Nat) (x9 : Int32) (x10 : Int32) (x11 : Int32) (x12 : Int32) (x13 : Int32) (x14 : Int32) (k0 : ClassId) (f0 : Nat → Int32) (k1 : ClassId) (f1 : Nat → Int32) (k2 : ClassId) (f2 : Nat → Int32) (k3 : ClassId) (f3 : Nat → Int32) (k4 : ClassId) (f4 : Nat → Int32) (k5 : ClassId) (f5 : Nat → Int32) (k6 : ClassId) (f6 : Nat → Int32) (k7 : ClassId) (f7 : Nat → Int32) (hx1 : 0 ≤ x1.toInt ∧ x1.toInt ≤ 80) (hx2 : -1 ≤ x2.toInt ∧ x2.toInt ≤ 5) (hx5 : 1 ≤ x5.toInt ∧ x5.toInt ≤ 8) (hx6 : 0 ≤ x6.toInt ∧ x6.toInt ≤ 40) (hx8 : 0 ≤ x8.toInt ∧ x8.toInt ≤ 10) (hx9 : 0 ≤ x9.toInt ∧ x9.toInt ≤ 60) (hx10 : 0 ≤ x10.toInt ∧ x10.toInt ≤ 60) (hx11 : 0 ≤ x11.toInt ∧ x11.toInt ≤ 60) (hx12 : 0 ≤ x12.toInt ∧ x12.toInt ≤ 8) (hx14 : 0 ≤ x14.toInt ∧ x14.toInt ≤ 1) (hf0 : sb_Fit f0) (hf2 : ∀ j : Nat, 0 ≤ (f2 j).toInt ∧ (f2 j).toInt ≤ 60) (hf3 : sb_Fit f3) : ka_E l D F yX7_say wsX7_say 144 3596 0 0 [.ref a0, .int x0] [(a0, .inr (7, [.ref a1, .int x1, .ref a2, .ref a3, .ref a4, .ref a5, .ref a6, .ref a7, .ref a8, .int x2, .int x3, .int x4, .int x5, .int x6, .int x7, .int x8, .ref a9, .ref a10, .ref a11, .ref a12, .ref a13, .ref a14, .int x9, .int x10, .int x11, .int x12, .int x13, .int x14])), (a1, .inl (k0, 80, .inl f0)), (a2, .inl (k1, 89, .inl f1)), (a3, .inl (k2, 89, .inl f2)), (a4, .inl (k3, 5340, .inl f3)), (a11, .inl (k4, 60, .inl f4)), (a12, .inl (k5, 60, .inl f5)), (a13, .inl (k6, 60, .inl f6)), (a14, .inl (k7, 60, .inl f7))] [(k0, .byte), (k1, .int), (k2, .int), (k3, .byte), (k4, .int), (k5, .int), (k6, .int), (k7, .int)] (fun (u : (Int32) × (Int32) × (Int32) × (Int32) × (Int32) × (Int32) × (Int32) × (Int32) × (Nat → Int32) × (Nat → Int32) × (Nat → Int32) × (Nat → Int32) × (Nat → Int32) × (Nat → Int32) × (Nat → Int32) × (Int32)) => some (.int (u.2.2.2.2.2.2.2.2.2.2.2.2.2.2.2))) (fun (u : (Int32) × (Int32) × (Int32) × (Int32) × (Int32) × (Int32) × (Int32) × (Int32) × (Nat → Int32) × (Nat → Int32) × (Nat → Int32) × (Nat → Int32) × (Nat → Int32) × (Nat → Int32) × (Nat → Int32) × (Int32)) => (0 ≤ (u.1).toInt ∧ (u.1).toInt ≤ 80) ∧ (0 ≤ (u.2.1).toInt ∧ (u.2.1).toInt ≤ 10) ∧ (0 ≤ (u.2.2.1).toInt ∧ (u.2.2.1).toInt ≤ 60) ∧ (0 ≤ (u.2.2.2.1).toInt ∧ (u.2.2.2.1).toInt ≤ 60) ∧ (0 ≤ (u.2.2.2.2.1).toInt ∧ (u.2.2.2.2.1).toInt ≤ 60) ∧ (0 ≤ (u.2.2.2.2.2.1).toInt ∧ (u.2.2.2.2.2.1).toInt ≤ 8) ∧ (0 ≤ (u.2.2.2.2.2.2.2.1).toInt ∧ (u.2.2.2.2.2.2.2.1).toInt ≤ 1) ∧ (∀ j : Nat, 0 ≤ ((u.2.2.2.2.2.2.2.2.2.1) j).toInt ∧ ((u.2.2.2.2.2.2.2.2.2.1) j).toInt ≤ 60) ∧ (sb_Fit (u.2.2.2.2.2.2.2.2.2.2.1)) ∧ (-2 ≤ (u.2.2.2.2.2.2.2.2.2.2.2.2.2.2.2).toInt ∧ (u.2.2.2.2.2.2.2.2.2.2.2.2.2.2.2).toInt ≤ 9)) (fun (u : (Int32) × (Int32) × (Int32) × (Int32) × (Int32) × (Int32) × (Int32) × (Int32) × (Nat → Int32) × (Nat → Int32) × (Nat → Int32) × (Nat → Int32) × (Nat → Int32) × (Nat → Int32) × (Nat → Int32) × (Int32)) => [(a0, .inr (7, [.ref a1, .int (u.1), .ref a2, .ref a3, .ref a4, .ref a5, .ref a6, .ref a7, .ref a8, .int x2, .int x3, .int x4, .int x5, .int x6, .int x7, .int (u.2.1), .ref a9, .ref a10, .ref a11, .ref a12, .ref a13, .ref a14, .int (u.2.2.1), .int (u.2.2.2.1), .int (u.2.2.2.2.1), .int (u.2.2.2.2.2.1), .int (u.2.2.2.2.2.2.1), .int (u.2.2.2.2.2.2.2.1)])), (a1, .inl (k0, 80, .inl f0)), (a2, .inl (k1, 89, .inl (u.2.2.2.2.2.2.2.2.1))), (a3, .inl (k2, 89, .inl (u.2.2.2.2.2.2.2.2.2.1))), (a4, .inl (k3, 5340, .inl (u.2.2.2.2.2.2.2.2.2.2.1))), (a11, .inl (k4, 60, .inl (u.2.2.2.2.2.2.2.2.2.2.2.1))), (a12, .inl (k5, 60, .inl (u.2.2.2.2.2.2.2.2.2.2.2.2.1))), (a13, .inl (k6, 60, .inl (u.2.2.2.2.2.2.2.2.2.2.2.2.2.1))), (a14, .inl (k7, 60, .inl (u.2.2.2.2.2.2.2.2.2.2.2.2.2.2.1)))]) (fun (u : (Int32) × (Int32) × (Int32) × (Int32) × (Int32) × (Int32) × (Int32) × (Int32) × (Nat → Int32) × (Nat → Int32) × (Nat → Int32) × (Nat → Int32) × (Nat → Int32) × (Nat → Int32) × (Nat → Int32) × (Int32)) => []) := by
  refine ka_E_of (cc := cX7_say) (maxL := 2) (ret := (some .int)) (by decide) rfl (Nat.le_of_ble_eq_true rfl) ?_
  intro p e s m below meth c ls A C hr hlk hin hP hK hD hS hA hE hN hl
  have C : CallFix p m c cX7_say 2 s [.ref a0, .int x0].toArray wsX7_say RX7 := C
  obtain ⟨hx, hb, hml, hown, hts⟩ := id C
  have hl : lv_has ls 2 [(0, .ref a0), (1, .int x0)] := hl
  have rx0 := ka_rng x0
  have rx1 := ka_rng x1
  have rx2 := ka_rng x2
  have rx3 := ka_rng x3
  have rx4 := ka_rng x4
  have rx5 := ka_rng x5
  have rx6 := ka_rng x6
  have rx7 := ka_rng x7
  have rx8 := ka_rng x8
  have rx9 := ka_rng x9
  have rx10 := ka_rng x10
  have rx11 := ka_rng x11
  have rx12 := ka_rng x12
  have rx13 := ka_rng x13
  have rx14 := ka_rng x14
  rcases (show x0.toInt ≤ -1 ∨ (0 ≤ x0.toInt ∧ x0.toInt ≤ 60) ∨ 61 ≤ x0.toInt by omega) with y_34154 | y_34154 | y_34154
  · skip
    refine lv_aload_n hx hb dX7_say_0 rfl (lv_at hl 0 rfl) ?_
    refine ka_get C lqr_446 rfl hK hP 0 rfl 9 (by decide) lqr_447 rfl dX7_say_1 ?_
    refine lv_iconst (v := (-1)) hx hb dX7_say_4 (by decide) ?_
    refine lv_icmp_eq (tgt := 25) hx hb dX7_say_5 (by decide) (fun c_34155 => ?_) (fun c_34155 => ?_)
    · have c_34155 : x2.toInt = -1 := by rw [ka_eq', show ((-1 : Int32)).toInt = -1 from by decide] at c_34155; exact c_34155
      refine lv_bipush (v := (-2)) hx hb dX7_say_25 (by decide) ?_
      exact ka_rEi C hr hlk (Nat.le_of_ble_eq_true rfl) (Nat.le_of_ble_eq_true rfl) hS (ka_qE (x1, x8, x9, x10, x11, x12, x13, x14, f1, f2, f3, f4, f5, f6, f7, (-2)) rfl ⟨(show 0 ≤ x1.toInt ∧ x1.toInt ≤ 80 from ⟨by omega, by omega⟩), (show 0 ≤ x8.toInt ∧ x8.toInt ≤ 10 from ⟨by omega, by omega⟩), (show 0 ≤ x9.toInt ∧ x9.toInt ≤ 60 from ⟨by omega, by omega⟩), (show 0 ≤ x10.toInt ∧ x10.toInt ≤ 60 from ⟨by omega, by omega⟩), (show 0 ≤ x11.toInt ∧ x11.toInt ≤ 60 from ⟨by omega, by omega⟩), (show 0 ≤ x12.toInt ∧ x12.toInt ≤ 8 from ⟨by omega, by omega⟩), (show 0 ≤ x14.toInt ∧ x14.toInt ≤ 1 from ⟨by omega, by omega⟩), hf2, hf3, (show -2 ≤ ((-2 : Int32)).toInt ∧ ((-2 : Int32)).toInt ≤ 9 from ⟨by decide, by decide⟩)⟩ hK hP hD hS [0, 1, 2, 3, 4, 5, 6, 7, 8] (by decide) rfl [] rfl) dX7_say_27
    · have c_34155 : ¬ x2.toInt = -1 := by rw [ka_eq', show ((-1 : Int32)).toInt = -1 from by decide] at c_34155; exact c_34155
      refine lv_aload_n hx hb dX7_say_8 rfl (lv_at hl 0 rfl) ?_
      refine lv_iload_n hx hb dX7_say_9 rfl (lv_at hl 1 rfl) ?_
      refine ka_RV (n := 1) C (cr_X7_isText_435 l D F a0 x0 a1 x1 a2 a3 a4 a5 a6 a7 a8 x2 x3 x4 x5 x6 x7 x8 a9 a10 a11 a12 a13 a14 x9 x10 x11 x12 x13 x14 (by omega) ⟨by omega, by omega⟩ ⟨by omega, by omega⟩ ⟨by omega, by omega⟩ ⟨by omega, by omega⟩ ⟨by omega, by omega⟩ ⟨by omega, by omega⟩ ⟨by omega, by omega⟩ ⟨by omega, by omega⟩ ⟨by omega, by omega⟩ ⟨by omega, by omega⟩) gX7_say_X7_isText rfl (by decide +kernel) ⟨Nat.le_of_ble_eq_true rfl, Nat.le_of_ble_eq_true rfl⟩ hK hP hS hE hN [0] rfl [] rfl (ci := 7) rfl rfl 0 rfl rfl hl.1 (rest := []) rfl (Nat.le_of_ble_eq_true rfl) dX7_say_10 ⟨Nat.le_of_ble_eq_true rfl, Nat.le_of_ble_eq_true rfl⟩ (fun v hv => ?_)
      subst hv
      refine ka_stk (w := [.int 0]) rfl ?_
      refine lv_if_eq (tgt := 25) hx hb dX7_say_13 (by decide) (fun _ => ?_) (fun c_ => absurd (by decide) c_)
      refine lv_bipush (v := (-2)) hx hb dX7_say_25 (by decide) ?_
      exact ka_rEi C hr hlk (Nat.le_of_ble_eq_true rfl) (Nat.le_of_ble_eq_true rfl) hS (ka_qE (x1, x8, x9, x10, x11, x12, x13, x14, f1, f2, f3, f4, f5, f6, f7, (-2)) rfl ⟨(show 0 ≤ x1.toInt ∧ x1.toInt ≤ 80 from ⟨by omega, by omega⟩), (show 0 ≤ x8.toInt ∧ x8.toInt ≤ 10 from ⟨by omega, by omega⟩), (show 0 ≤ x9.toInt ∧ x9.toInt ≤ 60 from ⟨by omega, by omega⟩), (show 0 ≤ x10.toInt ∧ x10.toInt ≤ 60 from ⟨by omega, by omega⟩), (show 0 ≤ x11.toInt ∧ x11.toInt ≤ 60 from ⟨by omega, by omega⟩), (show 0 ≤ x12.toInt ∧ x12.toInt ≤ 8 from ⟨by omega, by omega⟩), (show 0 ≤ x14.toInt ∧ x14.toInt ≤ 1 from ⟨by omega, by omega⟩), hf2, hf3, (show -2 ≤ ((-2 : Int32)).toInt ∧ ((-2 : Int32)).toInt ≤ 9 from ⟨by decide, by decide⟩)⟩ hK hP hD hS [0, 1, 2, 3, 4, 5, 6, 7, 8] (by decide) rfl [] rfl) dX7_say_27
  · skip
    refine lv_aload_n hx hb dX7_say_0 rfl (lv_at hl 0 rfl) ?_
    refine ka_get C lqr_446 rfl hK hP 0 rfl 9 (by decide) lqr_447 rfl dX7_say_1 ?_
    refine lv_iconst (v := (-1)) hx hb dX7_say_4 (by decide) ?_
    refine lv_icmp_eq (tgt := 25) hx hb dX7_say_5 (by decide) (fun c_34156 => ?_) (fun c_34156 => ?_)
    · have c_34156 : x2.toInt = -1 := by rw [ka_eq', show ((-1 : Int32)).toInt = -1 from by decide] at c_34156; exact c_34156
      refine lv_bipush (v := (-2)) hx hb dX7_say_25 (by decide) ?_
      exact ka_rEi C hr hlk (Nat.le_of_ble_eq_true rfl) (Nat.le_of_ble_eq_true rfl) hS (ka_qE (x1, x8, x9, x10, x11, x12, x13, x14, f1, f2, f3, f4, f5, f6, f7, (-2)) rfl ⟨(show 0 ≤ x1.toInt ∧ x1.toInt ≤ 80 from ⟨by omega, by omega⟩), (show 0 ≤ x8.toInt ∧ x8.toInt ≤ 10 from ⟨by omega, by omega⟩), (show 0 ≤ x9.toInt ∧ x9.toInt ≤ 60 from ⟨by omega, by omega⟩), (show 0 ≤ x10.toInt ∧ x10.toInt ≤ 60 from ⟨by omega, by omega⟩), (show 0 ≤ x11.toInt ∧ x11.toInt ≤ 60 from ⟨by omega, by omega⟩), (show 0 ≤ x12.toInt ∧ x12.toInt ≤ 8 from ⟨by omega, by omega⟩), (show 0 ≤ x14.toInt ∧ x14.toInt ≤ 1 from ⟨by omega, by omega⟩), hf2, hf3, (show -2 ≤ ((-2 : Int32)).toInt ∧ ((-2 : Int32)).toInt ≤ 9 from ⟨by decide, by decide⟩)⟩ hK hP hD hS [0, 1, 2, 3, 4, 5, 6, 7, 8] (by decide) rfl [] rfl) dX7_say_27
    · have c_34156 : ¬ x2.toInt = -1 := by rw [ka_eq', show ((-1 : Int32)).toInt = -1 from by decide] at c_34156; exact c_34156
      refine lv_aload_n hx hb dX7_say_8 rfl (lv_at hl 0 rfl) ?_
      refine lv_iload_n hx hb dX7_say_9 rfl (lv_at hl 1 rfl) ?_
      refine ka_RV (n := 1) C (cr_X7_isText_437 l D F a0 x0 a1 x1 a2 a3 a4 a5 a6 a7 a8 x2 x3 x4 x5 x6 x7 x8 a9 a10 a11 a12 a13 a14 x9 x10 x11 x12 x13 x14 ⟨by omega, by omega⟩ ⟨by omega, by omega⟩ ⟨by omega, by omega⟩ ⟨by omega, by omega⟩ ⟨by omega, by omega⟩ ⟨by omega, by omega⟩ ⟨by omega, by omega⟩ ⟨by omega, by omega⟩ ⟨by omega, by omega⟩ ⟨by omega, by omega⟩ ⟨by omega, by omega⟩) gX7_say_X7_isText rfl (by decide +kernel) ⟨Nat.le_of_ble_eq_true rfl, Nat.le_of_ble_eq_true rfl⟩ hK hP hS hE hN [0] rfl [] rfl (ci := 7) rfl rfl 0 rfl rfl hl.1 (rest := []) rfl (Nat.le_of_ble_eq_true rfl) dX7_say_10 ⟨Nat.le_of_ble_eq_true rfl, Nat.le_of_ble_eq_true rfl⟩ (fun v hv => ?_)
      obtain ⟨v_34157, rfl, hv_34157⟩ := hv
      have rv_34157 := ka_rng v_34157
      refine ka_stk (w := [.int v_34157]) rfl ?_
      refine lv_if_eq (tgt := 25) hx hb dX7_say_13 (by decide) (fun c_34158 => ?_) (fun c_34158 => ?_)
      · have c_34158 : v_34157.toInt = 0 := by rw [ka_eq', show ((0 : Int32)).toInt = 0 from by decide] at c_34158; exact c_34158
        refine lv_bipush (v := (-2)) hx hb dX7_say_25 (by decide) ?_
        exact ka_rEi C hr hlk (Nat.le_of_ble_eq_true rfl) (Nat.le_of_ble_eq_true rfl) hS (ka_qE (x1, x8, x9, x10, x11, x12, x13, x14, f1, f2, f3, f4, f5, f6, f7, (-2)) rfl ⟨(show 0 ≤ x1.toInt ∧ x1.toInt ≤ 80 from ⟨by omega, by omega⟩), (show 0 ≤ x8.toInt ∧ x8.toInt ≤ 10 from ⟨by omega, by omega⟩), (show 0 ≤ x9.toInt ∧ x9.toInt ≤ 60 from ⟨by omega, by omega⟩), (show 0 ≤ x10.toInt ∧ x10.toInt ≤ 60 from ⟨by omega, by omega⟩), (show 0 ≤ x11.toInt ∧ x11.toInt ≤ 60 from ⟨by omega, by omega⟩), (show 0 ≤ x12.toInt ∧ x12.toInt ≤ 8 from ⟨by omega, by omega⟩), (show 0 ≤ x14.toInt ∧ x14.toInt ≤ 1 from ⟨by omega, by omega⟩), hf2, hf3, (show -2 ≤ ((-2 : Int32)).toInt ∧ ((-2 : Int32)).toInt ≤ 9 from ⟨by decide, by decide⟩)⟩ hK hP hD hS [0, 1, 2, 3, 4, 5, 6, 7, 8] (by decide) rfl [] rfl) dX7_say_27
      · have c_34158 : ¬ v_34157.toInt = 0 := by rw [ka_eq', show ((0 : Int32)).toInt = 0 from by decide] at c_34158; exact c_34158
        refine lv_aload_n hx hb dX7_say_16 rfl (lv_at hl 0 rfl) ?_
        refine ka_get C lqr_446 rfl hK hP 0 rfl 15 (by decide) lqr_448 rfl dX7_say_17 ?_
        refine lv_bipush (v := 10) hx hb dX7_say_20 (by decide) ?_
        refine lv_icmp_ne (tgt := 28) hx hb dX7_say_22 (by decide) (fun c_34159 => ?_) (fun c_34159 => ?_)
        · have c_34159 : ¬ x8.toInt = 10 := by rw [ka_eq', show ((10 : Int32)).toInt = 10 from by decide] at c_34159; exact c_34159
          refine lv_aload_n hx hb dX7_say_28 rfl (lv_at hl 0 rfl) ?_
          refine lv_iload_n hx hb dX7_say_29 rfl (lv_at hl 1 rfl) ?_
          refine ka_EV (n := 1) (wr := []) C (cr_X7_reads_439 l D F a0 x0 a1 x1 a2 a3 a4 a5 a6 a7 a8 x2 x3 x4 x5 x6 x7 x8 a9 a10 a11 a12 a13 a14 x9 x10 x11 x12 x13 x14 k0 f0 k1 f1 k2 f2 k3 f3 k4 f4 k5 f5 k6 f6 k7 f7 ⟨by omega, by omega⟩ ⟨by omega, by omega⟩ ⟨by omega, by omega⟩ ⟨by omega, by omega⟩ ⟨by omega, by omega⟩ ⟨by omega, by omega⟩ ⟨by omega, by omega⟩ ⟨by omega, by omega⟩ ⟨by omega, by omega⟩ ⟨by omega, by omega⟩ ⟨by omega, by omega⟩ hf0 hf2 hf3) gX7_say_X7_reads rfl (by decide +kernel) ⟨Nat.le_of_ble_eq_true rfl, Nat.le_of_ble_eq_true rfl⟩ hK hP hD hS hA hE hN [0, 1, 2, 3, 4, 5, 6, 7, 8] rfl (by decide) [] rfl (by decide) (by decide) [0, 1, 2, 3, 4, 5, 6, 7] rfl (ci := 7) rfl rfl 0 rfl rfl hl.1 (rest := []) rfl (Nat.le_of_ble_eq_true rfl) dX7_say_30 ⟨Nat.le_of_ble_eq_true rfl, Nat.le_of_ble_eq_true rfl⟩ (fun u H locs hq hP hD hK hS => ?_)
          obtain ⟨v_34160, v_34161, v_34162, v_34163, v_34164, g_34165, g_34166, g_34167, g_34168, g_34169, g_34170, g_34171, v_34172⟩ := u
          have hq : (0 ≤ v_34160.toInt ∧ v_34160.toInt ≤ 60) ∧ (0 ≤ v_34161.toInt ∧ v_34161.toInt ≤ 60) ∧ (0 ≤ v_34162.toInt ∧ v_34162.toInt ≤ 8) ∧ (0 ≤ v_34164.toInt ∧ v_34164.toInt ≤ 1) ∧ (∀ j : Nat, 0 ≤ (g_34166 j).toInt ∧ (g_34166 j).toInt ≤ 60) ∧ (sb_Fit g_34167) ∧ (0 ≤ v_34172.toInt ∧ v_34172.toInt ≤ 1) := hq
          obtain ⟨hv_34160, hv_34161, hv_34162, hv_34164, hg_34166, hg_34167, hv_34172⟩ := hq
          have rv_34160 := ka_rng v_34160
          have rv_34161 := ka_rng v_34161
          have rv_34162 := ka_rng v_34162
          have rv_34163 := ka_rng v_34163
          have rv_34164 := ka_rng v_34164
          have rv_34172 := ka_rng v_34172
          have hP : va_P D vwCl [(a0, .inr (7, [.ref a1, .int 0, .ref a2, .ref a3, .ref a4, .ref a5, .ref a6, .ref a7, .ref a8, .int x2, .int x3, .int x4, .int x5, .int x6, .int x7, .int x8, .ref a9, .ref a10, .ref a11, .ref a12, .ref a13, .ref a14, .int v_34160, .int v_34161, .int x0, .int v_34162, .int v_34163, .int v_34164])), (a1, .inl (k0, 80, .inl f0)), (a2, .inl (k1, 89, .inl g_34165)), (a3, .inl (k2, 89, .inl g_34166)), (a4, .inl (k3, 5340, .inl g_34167)), (a11, .inl (k4, 60, .inl g_34168)), (a12, .inl (k5, 60, .inl g_34169)), (a13, .inl (k6, 60, .inl g_34170)), (a14, .inl (k7, 60, .inl g_34171))] H := hP
          have hD : va_D A [(a0, .inr (7, [.ref a1, .int 0, .ref a2, .ref a3, .ref a4, .ref a5, .ref a6, .ref a7, .ref a8, .int x2, .int x3, .int x4, .int x5, .int x6, .int x7, .int x8, .ref a9, .ref a10, .ref a11, .ref a12, .ref a13, .ref a14, .int v_34160, .int v_34161, .int x0, .int v_34162, .int v_34163, .int v_34164])), (a1, .inl (k0, 80, .inl f0)), (a2, .inl (k1, 89, .inl g_34165)), (a3, .inl (k2, 89, .inl g_34166)), (a4, .inl (k3, 5340, .inl g_34167)), (a11, .inl (k4, 60, .inl g_34168)), (a12, .inl (k5, 60, .inl g_34169)), (a13, .inl (k6, 60, .inl g_34170)), (a14, .inl (k7, 60, .inl g_34171))] := hD
          have hK : va_K D vwCl [(k0, .byte), (k1, .int), (k2, .int), (k3, .byte), (k4, .int), (k5, .int), (k6, .int), (k7, .int)] s := by simpa using hK
          refine ka_stk (w := [.int v_34172]) rfl ?_
          refine lv_if_ne (tgt := 38) hx hb dX7_say_33 (by decide) (fun c_34173 => ?_) (fun c_34173 => ?_)
          · have c_34173 : ¬ v_34172.toInt = 0 := by rw [ka_eq', show ((0 : Int32)).toInt = 0 from by decide] at c_34173; exact c_34173
            refine lv_aload_n hx hb dX7_say_38 rfl (lv_at hl 0 rfl) ?_
            refine lv_bipush (v := 78) hx hb dX7_say_39 (by decide) ?_
            refine lv_aload_n hx hb dX7_say_41 rfl (lv_at hl 0 rfl) ?_
            refine ka_get C lqr_446 rfl hK hP 0 rfl 15 (by decide) lqr_448 rfl dX7_say_42 ?_
            refine lv_iadd hx hb dX7_say_45 ?_
            refine lv_topi (fun v_34174 ev_34174 => ?_)
            have fv_34174 : v_34174.toInt = 78 + x8.toInt := by rw [ev_34174]; exact ka_add (x := 78) (y := x8.toInt) (by decide) rfl (by omega) (by omega)
            refine ka_EV (n := 1) (wr := [(a1, .inl (k0, 80, .inl f0)), (a11, .inl (k4, 60, .inl g_34168)), (a12, .inl (k5, 60, .inl g_34169)), (a13, .inl (k6, 60, .inl g_34170)), (a14, .inl (k7, 60, .inl g_34171))]) C (cr_X7_keeps_440 l D F a0 v_34174 a1 0 a2 a3 a4 a5 a6 a7 a8 x2 x3 x4 x5 x6 x7 x8 a9 a10 a11 a12 a13 a14 v_34160 v_34161 x0 v_34162 v_34163 v_34164 k1 g_34165 k2 g_34166 k3 g_34167 ⟨by omega, by omega⟩ ⟨by decide, by decide⟩ ⟨by omega, by omega⟩ ⟨by omega, by omega⟩ ⟨by omega, by omega⟩ ⟨by omega, by omega⟩ ⟨by omega, by omega⟩ ⟨by omega, by omega⟩ ⟨by omega, by omega⟩ ⟨by omega, by omega⟩ ⟨by omega, by omega⟩ hg_34166 hg_34167) gX7_say_X7_keeps rfl (by decide +kernel) ⟨Nat.le_of_ble_eq_true rfl, Nat.le_of_ble_eq_true rfl⟩ hK hP hD hS hA hE hN [0, 2, 3, 4] rfl (by decide) [1, 5, 6, 7, 8] rfl (by decide) (by decide) [1, 2, 3] rfl (ci := 7) rfl rfl 0 rfl rfl hl.1 (rest := []) rfl (Nat.le_of_ble_eq_true rfl) dX7_say_46 ⟨Nat.le_of_ble_eq_true rfl, Nat.le_of_ble_eq_true rfl⟩ (fun u H locs hq hP hD hK hS => ?_)
            obtain ⟨g_34175, g_34176, g_34177⟩ := u
            have hq : (∀ j : Nat, 0 ≤ (g_34176 j).toInt ∧ (g_34176 j).toInt ≤ 60) ∧ (sb_Fit g_34177) := hq
            obtain ⟨hg_34176, hg_34177⟩ := hq
            have hP : va_P D vwCl [(a1, .inl (k0, 80, .inl f0)), (a11, .inl (k4, 60, .inl g_34168)), (a12, .inl (k5, 60, .inl g_34169)), (a13, .inl (k6, 60, .inl g_34170)), (a14, .inl (k7, 60, .inl g_34171)), (a0, .inr (7, [.ref a1, .int 0, .ref a2, .ref a3, .ref a4, .ref a5, .ref a6, .ref a7, .ref a8, .int x2, .int x3, .int x4, .int x5, .int x6, .int x7, .int x8, .ref a9, .ref a10, .ref a11, .ref a12, .ref a13, .ref a14, .int v_34160, .int v_34161, .int x0, .int v_34162, .int v_34163, .int v_34164])), (a2, .inl (k1, 89, .inl g_34175)), (a3, .inl (k2, 89, .inl g_34176)), (a4, .inl (k3, 5340, .inl g_34177))] H := hP
            have hD : va_D A [(a1, .inl (k0, 80, .inl f0)), (a11, .inl (k4, 60, .inl g_34168)), (a12, .inl (k5, 60, .inl g_34169)), (a13, .inl (k6, 60, .inl g_34170)), (a14, .inl (k7, 60, .inl g_34171)), (a0, .inr (7, [.ref a1, .int 0, .ref a2, .ref a3, .ref a4, .ref a5, .ref a6, .ref a7, .ref a8, .int x2, .int x3, .int x4, .int x5, .int x6, .int x7, .int x8, .ref a9, .ref a10, .ref a11, .ref a12, .ref a13, .ref a14, .int v_34160, .int v_34161, .int x0, .int v_34162, .int v_34163, .int v_34164])), (a2, .inl (k1, 89, .inl g_34175)), (a3, .inl (k2, 89, .inl g_34176)), (a4, .inl (k3, 5340, .inl g_34177))] := hD
            have hK : va_K D vwCl [(k0, .byte), (k1, .int), (k2, .int), (k3, .byte), (k4, .int), (k5, .int), (k6, .int), (k7, .int)] s := by simpa using hK
            refine ka_stk (w := []) rfl ?_
            refine lv_aload_n hx hb dX7_say_49 rfl (lv_at hl 0 rfl) ?_
            refine lv_dup hx hb dX7_say_50 rfl ?_
            refine ka_get C lqr_446 rfl hK hP 5 rfl 15 (by decide) lqr_448 rfl dX7_say_51 ?_
            refine lv_iconst (v := 1) hx hb dX7_say_54 (by decide) ?_
            refine lv_iadd hx hb dX7_say_55 ?_
            refine lv_topi (fun v_34178 ev_34178 => ?_)
            have fv_34178 : v_34178.toInt = x8.toInt + 1 := by rw [ev_34178]; exact ka_add (x := x8.toInt) (y := 1) rfl (by decide) (by omega) (by omega)
            refine ka_put C lqr_446 tyX7 tyX7_ok nmX7 rfl hK hP hD hS 5 rfl 15 (by decide) lqr_448 rfl rfl rfl (Nat.le_of_ble_eq_true rfl) dX7_say_56 (fun H locs hP hD hS => ?_)
            have hP : va_P D vwCl [(a1, .inl (k0, 80, .inl f0)), (a11, .inl (k4, 60, .inl g_34168)), (a12, .inl (k5, 60, .inl g_34169)), (a13, .inl (k6, 60, .inl g_34170)), (a14, .inl (k7, 60, .inl g_34171)), (a0, .inr (7, [.ref a1, .int 0, .ref a2, .ref a3, .ref a4, .ref a5, .ref a6, .ref a7, .ref a8, .int x2, .int x3, .int x4, .int x5, .int x6, .int x7, .int v_34178, .ref a9, .ref a10, .ref a11, .ref a12, .ref a13, .ref a14, .int v_34160, .int v_34161, .int x0, .int v_34162, .int v_34163, .int v_34164])), (a2, .inl (k1, 89, .inl g_34175)), (a3, .inl (k2, 89, .inl g_34176)), (a4, .inl (k3, 5340, .inl g_34177))] H := hP
            have hD : va_D A [(a1, .inl (k0, 80, .inl f0)), (a11, .inl (k4, 60, .inl g_34168)), (a12, .inl (k5, 60, .inl g_34169)), (a13, .inl (k6, 60, .inl g_34170)), (a14, .inl (k7, 60, .inl g_34171)), (a0, .inr (7, [.ref a1, .int 0, .ref a2, .ref a3, .ref a4, .ref a5, .ref a6, .ref a7, .ref a8, .int x2, .int x3, .int x4, .int x5, .int x6, .int x7, .int v_34178, .ref a9, .ref a10, .ref a11, .ref a12, .ref a13, .ref a14, .int v_34160, .int v_34161, .int x0, .int v_34162, .int v_34163, .int v_34164])), (a2, .inl (k1, 89, .inl g_34175)), (a3, .inl (k2, 89, .inl g_34176)), (a4, .inl (k3, 5340, .inl g_34177))] := hD
            refine lv_aload_n hx hb dX7_say_59 rfl (lv_at hl 0 rfl) ?_
            refine ka_get C lqr_446 rfl hK hP 5 rfl 15 (by decide) lqr_448 rfl dX7_say_60 ?_
            refine lv_iconst (v := 1) hx hb dX7_say_63 (by decide) ?_
            refine lv_isub hx hb dX7_say_64 ?_
            refine lv_topi (fun v_34179 ev_34179 => ?_)
            have fv_34179 : v_34179.toInt = v_34178.toInt - 1 := by rw [ev_34179]; exact ka_sub (x := v_34178.toInt) (y := 1) rfl (by decide) (by omega) (by omega)
            exact ka_rEi C hr hlk (Nat.le_of_ble_eq_true rfl) (Nat.le_of_ble_eq_true rfl) hS (ka_qE (0, v_34178, v_34160, v_34161, x0, v_34162, v_34163, v_34164, g_34175, g_34176, g_34177, g_34168, g_34169, g_34170, g_34171, v_34179) rfl ⟨(show 0 ≤ ((0 : Int32)).toInt ∧ ((0 : Int32)).toInt ≤ 80 from ⟨by decide, by decide⟩), (show 0 ≤ v_34178.toInt ∧ v_34178.toInt ≤ 10 from ⟨by omega, by omega⟩), (show 0 ≤ v_34160.toInt ∧ v_34160.toInt ≤ 60 from ⟨by omega, by omega⟩), (show 0 ≤ v_34161.toInt ∧ v_34161.toInt ≤ 60 from ⟨by omega, by omega⟩), (show 0 ≤ x0.toInt ∧ x0.toInt ≤ 60 from ⟨by omega, by omega⟩), (show 0 ≤ v_34162.toInt ∧ v_34162.toInt ≤ 8 from ⟨by omega, by omega⟩), (show 0 ≤ v_34164.toInt ∧ v_34164.toInt ≤ 1 from ⟨by omega, by omega⟩), hg_34176, hg_34177, (show -2 ≤ v_34179.toInt ∧ v_34179.toInt ≤ 9 from ⟨by omega, by omega⟩)⟩ hK hP hD hS [5, 0, 6, 7, 8, 1, 2, 3, 4] (by decide) rfl [] rfl) dX7_say_65
          · have c_34173 : v_34172.toInt = 0 := by rw [ka_eq', show ((0 : Int32)).toInt = 0 from by decide] at c_34173; exact c_34173
            refine lv_iconst (v := (-1)) hx hb dX7_say_36 (by decide) ?_
            exact ka_rEi C hr hlk (Nat.le_of_ble_eq_true rfl) (Nat.le_of_ble_eq_true rfl) hS (ka_qE (0, x8, v_34160, v_34161, x0, v_34162, v_34163, v_34164, g_34165, g_34166, g_34167, g_34168, g_34169, g_34170, g_34171, (-1)) rfl ⟨(show 0 ≤ ((0 : Int32)).toInt ∧ ((0 : Int32)).toInt ≤ 80 from ⟨by decide, by decide⟩), (show 0 ≤ x8.toInt ∧ x8.toInt ≤ 10 from ⟨by omega, by omega⟩), (show 0 ≤ v_34160.toInt ∧ v_34160.toInt ≤ 60 from ⟨by omega, by omega⟩), (show 0 ≤ v_34161.toInt ∧ v_34161.toInt ≤ 60 from ⟨by omega, by omega⟩), (show 0 ≤ x0.toInt ∧ x0.toInt ≤ 60 from ⟨by omega, by omega⟩), (show 0 ≤ v_34162.toInt ∧ v_34162.toInt ≤ 8 from ⟨by omega, by omega⟩), (show 0 ≤ v_34164.toInt ∧ v_34164.toInt ≤ 1 from ⟨by omega, by omega⟩), hg_34166, hg_34167, (show -2 ≤ ((-1 : Int32)).toInt ∧ ((-1 : Int32)).toInt ≤ 9 from ⟨by decide, by decide⟩)⟩ hK hP hD hS [0, 1, 2, 3, 4, 5, 6, 7, 8] (by decide) rfl [] rfl) dX7_say_37
        · have c_34159 : x8.toInt = 10 := by rw [ka_eq', show ((10 : Int32)).toInt = 10 from by decide] at c_34159; exact c_34159
          refine lv_bipush (v := (-2)) hx hb dX7_say_25 (by decide) ?_
          exact ka_rEi C hr hlk (Nat.le_of_ble_eq_true rfl) (Nat.le_of_ble_eq_true rfl) hS (ka_qE (x1, x8, x9, x10, x11, x12, x13, x14, f1, f2, f3, f4, f5, f6, f7, (-2)) rfl ⟨(show 0 ≤ x1.toInt ∧ x1.toInt ≤ 80 from ⟨by omega, by omega⟩), (show 0 ≤ x8.toInt ∧ x8.toInt ≤ 10 from ⟨by omega, by omega⟩), (show 0 ≤ x9.toInt ∧ x9.toInt ≤ 60 from ⟨by omega, by omega⟩), (show 0 ≤ x10.toInt ∧ x10.toInt ≤ 60 from ⟨by omega, by omega⟩), (show 0 ≤ x11.toInt ∧ x11.toInt ≤ 60 from ⟨by omega, by omega⟩), (show 0 ≤ x12.toInt ∧ x12.toInt ≤ 8 from ⟨by omega, by omega⟩), (show 0 ≤ x14.toInt ∧ x14.toInt ≤ 1 from ⟨by omega, by omega⟩), hf2, hf3, (show -2 ≤ ((-2 : Int32)).toInt ∧ ((-2 : Int32)).toInt ≤ 9 from ⟨by decide, by decide⟩)⟩ hK hP hD hS [0, 1, 2, 3, 4, 5, 6, 7, 8] (by decide) rfl [] rfl) dX7_say_27
  · skip
    refine lv_aload_n hx hb dX7_say_0 rfl (lv_at hl 0 rfl) ?_
    refine ka_get C lqr_446 rfl hK hP 0 rfl 9 (by decide) lqr_447 rfl dX7_say_1 ?_
    refine lv_iconst (v := (-1)) hx hb dX7_say_4 (by decide) ?_
    refine lv_icmp_eq (tgt := 25) hx hb dX7_say_5 (by decide) (fun c_34180 => ?_) (fun c_34180 => ?_)
    · have c_34180 : x2.toInt = -1 := by rw [ka_eq', show ((-1 : Int32)).toInt = -1 from by decide] at c_34180; exact c_34180
      refine lv_bipush (v := (-2)) hx hb dX7_say_25 (by decide) ?_
      exact ka_rEi C hr hlk (Nat.le_of_ble_eq_true rfl) (Nat.le_of_ble_eq_true rfl) hS (ka_qE (x1, x8, x9, x10, x11, x12, x13, x14, f1, f2, f3, f4, f5, f6, f7, (-2)) rfl ⟨(show 0 ≤ x1.toInt ∧ x1.toInt ≤ 80 from ⟨by omega, by omega⟩), (show 0 ≤ x8.toInt ∧ x8.toInt ≤ 10 from ⟨by omega, by omega⟩), (show 0 ≤ x9.toInt ∧ x9.toInt ≤ 60 from ⟨by omega, by omega⟩), (show 0 ≤ x10.toInt ∧ x10.toInt ≤ 60 from ⟨by omega, by omega⟩), (show 0 ≤ x11.toInt ∧ x11.toInt ≤ 60 from ⟨by omega, by omega⟩), (show 0 ≤ x12.toInt ∧ x12.toInt ≤ 8 from ⟨by omega, by omega⟩), (show 0 ≤ x14.toInt ∧ x14.toInt ≤ 1 from ⟨by omega, by omega⟩), hf2, hf3, (show -2 ≤ ((-2 : Int32)).toInt ∧ ((-2 : Int32)).toInt ≤ 9 from ⟨by decide, by decide⟩)⟩ hK hP hD hS [0, 1, 2, 3, 4, 5, 6, 7, 8] (by decide) rfl [] rfl) dX7_say_27
    · have c_34180 : ¬ x2.toInt = -1 := by rw [ka_eq', show ((-1 : Int32)).toInt = -1 from by decide] at c_34180; exact c_34180
      refine lv_aload_n hx hb dX7_say_8 rfl (lv_at hl 0 rfl) ?_
      refine lv_iload_n hx hb dX7_say_9 rfl (lv_at hl 1 rfl) ?_
      refine ka_RV (n := 1) C (cr_X7_isText_442 l D F a0 x0 a1 x1 a2 a3 a4 a5 a6 a7 a8 x2 x3 x4 x5 x6 x7 x8 a9 a10 a11 a12 a13 a14 x9 x10 x11 x12 x13 x14 (by omega) ⟨by omega, by omega⟩ ⟨by omega, by omega⟩ ⟨by omega, by omega⟩ ⟨by omega, by omega⟩ ⟨by omega, by omega⟩ ⟨by omega, by omega⟩ ⟨by omega, by omega⟩ ⟨by omega, by omega⟩ ⟨by omega, by omega⟩ ⟨by omega, by omega⟩) gX7_say_X7_isText rfl (by decide +kernel) ⟨Nat.le_of_ble_eq_true rfl, Nat.le_of_ble_eq_true rfl⟩ hK hP hS hE hN [0] rfl [] rfl (ci := 7) rfl rfl 0 rfl rfl hl.1 (rest := []) rfl (Nat.le_of_ble_eq_true rfl) dX7_say_10 ⟨Nat.le_of_ble_eq_true rfl, Nat.le_of_ble_eq_true rfl⟩ (fun v hv => ?_)
      subst hv
      refine ka_stk (w := [.int 0]) rfl ?_
      refine lv_if_eq (tgt := 25) hx hb dX7_say_13 (by decide) (fun _ => ?_) (fun c_ => absurd (by decide) c_)
      refine lv_bipush (v := (-2)) hx hb dX7_say_25 (by decide) ?_
      exact ka_rEi C hr hlk (Nat.le_of_ble_eq_true rfl) (Nat.le_of_ble_eq_true rfl) hS (ka_qE (x1, x8, x9, x10, x11, x12, x13, x14, f1, f2, f3, f4, f5, f6, f7, (-2)) rfl ⟨(show 0 ≤ x1.toInt ∧ x1.toInt ≤ 80 from ⟨by omega, by omega⟩), (show 0 ≤ x8.toInt ∧ x8.toInt ≤ 10 from ⟨by omega, by omega⟩), (show 0 ≤ x9.toInt ∧ x9.toInt ≤ 60 from ⟨by omega, by omega⟩), (show 0 ≤ x10.toInt ∧ x10.toInt ≤ 60 from ⟨by omega, by omega⟩), (show 0 ≤ x11.toInt ∧ x11.toInt ≤ 60 from ⟨by omega, by omega⟩), (show 0 ≤ x12.toInt ∧ x12.toInt ≤ 8 from ⟨by omega, by omega⟩), (show 0 ≤ x14.toInt ∧ x14.toInt ≤ 1 from ⟨by omega, by omega⟩), hf2, hf3, (show -2 ≤ ((-2 : Int32)).toInt ∧ ((-2 : Int32)).toInt ≤ 9 from ⟨by decide, by decide⟩)⟩ hK hP hD hS [0, 1, 2, 3, 4, 5, 6, 7, 8] (by decide) rfl [] rfl) dX7_say_27
set_option maxHeartbeats 4000000 in
set_option maxRecDepth 100000 in
theorem cr_X7_tellsOf_444 (l : Launch) (D : va_G) (F : Nat → Prop) (a0 : Nat) (x0 : Int32) (a1 : Nat) (x1 : Int32) (a2 : Nat) (a3 : Nat) (a4 : Nat) (a5 : Nat) (a6 : Nat) (a7 : Nat) (a8 : Nat) (x2 : Int32) (x3 : Int32) (x4 : Int32) (x5 : Int32) (x6 : Int32) (x7 : Int32) (x8 : Int32) (a9 : Nat) (a10 : Nat) (a11 : Nat) (a12 : Nat) (a13 : Nat) (a14 : Nat) (x9 : Int32) (x10 : Int32) (x11 : Int32) (x12 : Int32) (x13 : Int32) (x14 : Int32) (k0 : ClassId) (f0 : Nat → Int32) (hx0 : 0 ≤ x0.toInt ∧ x0.toInt ≤ 31) (hx1 : 0 ≤ x1.toInt ∧ x1.toInt ≤ 80) (hx2 : 0 ≤ x2.toInt ∧ x2.toInt ≤ 5) (hx5 : 1 ≤ x5.toInt ∧ x5.toInt ≤ 8) (hx6 : 0 ≤ x6.toInt ∧ x6.toInt ≤ 40) (hx8 : 0 ≤ x8.toInt ∧ x8.toInt ≤ 10) (hx9 : 0 ≤ x9.toInt ∧ x9.toInt ≤ 60) (hx10 : 0 ≤ x10.toInt ∧ x10.toInt ≤ 60) (hx11 : 0 ≤ x11.toInt ∧ x11.toInt ≤ 60) (hx12 : 0 ≤ x12.toInt ∧ x12.toInt ≤ 8) (hx14 : 0 ≤ x14.toInt ∧ x14.toInt ≤ 1) : ka_R l D F yX7_tellsOf wsX7_tellsOf 0 0 [.ref a0, .int 88, .int x0] [(a0, .inr (7, [.ref a1, .int x1, .ref a2, .ref a3, .ref a4, .ref a5, .ref a6, .ref a7, .ref a8, .int x2, .int x3, .int x4, .int x5, .int x6, .int x7, .int x8, .ref a9, .ref a10, .ref a11, .ref a12, .ref a13, .ref a14, .int x9, .int x10, .int x11, .int x12, .int x13, .int x14])), (a2, .inl (k0, 89, .inl f0))] [(k0, .int)] (fun v => ∃ x : Int32, v = some (.int x)) := by
  refine ka_R_of (cc := cX7_tellsOf) (maxL := 3) (ret := (some .int)) (by decide) rfl (Nat.le_of_ble_eq_true rfl) ?_
  intro p e s m below meth c ls C hr hlk hP hK hE hN hl
  have hS : va_S (fun _ => False) s.heap s.heap [] := va_S.rf
  have C : CallFix p m c cX7_tellsOf 3 s [.ref a0, .int 88, .int x0].toArray wsX7_tellsOf RX7 := C
  obtain ⟨hx, hb, hml, hown, hts⟩ := id C
  have hl : lv_has ls 3 [(0, .ref a0), (1, .int 88), (2, .int x0)] := hl
  have rx0 := ka_rng x0
  have rx1 := ka_rng x1
  have rx2 := ka_rng x2
  have rx3 := ka_rng x3
  have rx4 := ka_rng x4
  have rx5 := ka_rng x5
  have rx6 := ka_rng x6
  have rx7 := ka_rng x7
  have rx8 := ka_rng x8
  have rx9 := ka_rng x9
  have rx10 := ka_rng x10
  have rx11 := ka_rng x11
  have rx12 := ka_rng x12
  have rx13 := ka_rng x13
  have rx14 := ka_rng x14
  refine lv_aload_n hx hb dX7_tellsOf_0 rfl (lv_at hl 0 rfl) ?_
  refine ka_get C lq_283 rfl hK hP 0 rfl 2 (by decide) lq_284 rfl dX7_tellsOf_1 ?_
  refine lv_iload_n hx hb dX7_tellsOf_4 rfl (lv_at hl 1 rfl) ?_
  refine va_iald hx hb hK hP 1 0 rfl rfl (ka_in (by decide) (by decide)) dX7_tellsOf_5 ?_
  refine lv_topi (fun v_34263 ev_34263 => ?_)
  refine lv_iload_n hx hb dX7_tellsOf_6 rfl (lv_at hl 2 rfl) ?_
  refine lv_ishr hx hb dX7_tellsOf_7 ?_
  refine lv_topi (fun v_34264 ev_34264 => ?_)
  refine lv_iconst (v := 1) hx hb dX7_tellsOf_8 (by decide) ?_
  refine lv_iand hx hb dX7_tellsOf_9 ?_
  refine lv_topi (fun v_34265 ev_34265 => ?_)
  exact ka_rRi C hr hlk ⟨_, rfl⟩ dX7_tellsOf_10
theorem lqr_449 : ∀ w ∈ wsX70, w ∈ wsX7_judge := by decide +kernel
theorem lqr_450 : Cond.fieldLink RX7 36 "AskedBackModel" "lesson" "I" ∈ wsX7_judge := by decide +kernel
set_option maxHeartbeats 4000000 in
set_option maxRecDepth 100000 in
theorem cr_X7_judge_445 (l : Launch) (D : va_G) (F : Nat → Prop) (a0 : Nat) (x0 : Int32) (a1 : Nat) (x1 : Int32) (a2 : Nat) (a3 : Nat) (a4 : Nat) (a5 : Nat) (a6 : Nat) (a7 : Nat) (a8 : Nat) (x2 : Int32) (x3 : Int32) (x4 : Int32) (x5 : Int32) (x6 : Int32) (x7 : Int32) (x8 : Int32) (a9 : Nat) (a10 : Nat) (a11 : Nat) (a12 : Nat) (a13 : Nat) (a14 : Nat) (x9 : Int32) (x10 : Int32) (x11 : Int32) (x12 : Int32) (x13 : Int32) (x14 : Int32) (k0 : ClassId) (f0 : Nat → Int32) (k1 : ClassId) (f1 : Nat → Int32) (k2 : ClassId) (f2 : Nat → Int32) (k3 : ClassId) (f3 : Nat → Int32) (k4 : ClassId) (f4 : Nat → Int32) (k5 : ClassId) (f5 : Nat → Int32) (k6 : ClassId) (f6 : Nat → Int32) (k7 : ClassId) (f7 : Nat → Int32) (hx1 : 0 ≤ x1.toInt ∧ x1.toInt ≤ 80) (hx2 : -1 ≤ x2.toInt ∧ x2.toInt ≤ 5) (hx5 : 1 ≤ x5.toInt ∧ x5.toInt ≤ 8) (hx6 : 0 ≤ x6.toInt ∧ x6.toInt ≤ 40) (hx8 : 0 ≤ x8.toInt ∧ x8.toInt ≤ 10) (hx9 : 0 ≤ x9.toInt ∧ x9.toInt ≤ 60) (hx10 : 0 ≤ x10.toInt ∧ x10.toInt ≤ 60) (hx11 : 0 ≤ x11.toInt ∧ x11.toInt ≤ 60) (hx12 : 0 ≤ x12.toInt ∧ x12.toInt ≤ 8) (hx14 : 0 ≤ x14.toInt ∧ x14.toInt ≤ 1) (hf0 : sb_Fit f0) (hf2 : ∀ j : Nat, 0 ≤ (f2 j).toInt ∧ (f2 j).toInt ≤ 60) (hf3 : sb_Fit f3) : ka_E l D F yX7_judge wsX7_judge 144 3596 0 0 [.ref a0, .int x0] [(a0, .inr (7, [.ref a1, .int x1, .ref a2, .ref a3, .ref a4, .ref a5, .ref a6, .ref a7, .ref a8, .int x2, .int x3, .int x4, .int x5, .int x6, .int x7, .int x8, .ref a9, .ref a10, .ref a11, .ref a12, .ref a13, .ref a14, .int x9, .int x10, .int x11, .int x12, .int x13, .int x14])), (a1, .inl (k0, 80, .inl f0)), (a2, .inl (k1, 89, .inl f1)), (a3, .inl (k2, 89, .inl f2)), (a4, .inl (k3, 5340, .inl f3)), (a11, .inl (k4, 60, .inl f4)), (a12, .inl (k5, 60, .inl f5)), (a13, .inl (k6, 60, .inl f6)), (a14, .inl (k7, 60, .inl f7))] [(k0, .byte), (k1, .int), (k2, .int), (k3, .byte), (k4, .int), (k5, .int), (k6, .int), (k7, .int)] (fun (u : (Int32) × (Int32) × (Int32) × (Int32) × (Int32) × (Int32) × (Int32) × (Nat → Int32) × (Nat → Int32) × (Nat → Int32) × (Nat → Int32) × (Nat → Int32) × (Nat → Int32) × (Nat → Int32) × (Int32)) => some (.int (u.2.2.2.2.2.2.2.2.2.2.2.2.2.2))) (fun (u : (Int32) × (Int32) × (Int32) × (Int32) × (Int32) × (Int32) × (Int32) × (Nat → Int32) × (Nat → Int32) × (Nat → Int32) × (Nat → Int32) × (Nat → Int32) × (Nat → Int32) × (Nat → Int32) × (Int32)) => (0 ≤ (u.1).toInt ∧ (u.1).toInt ≤ 80) ∧ (0 ≤ (u.2.1).toInt ∧ (u.2.1).toInt ≤ 60) ∧ (0 ≤ (u.2.2.1).toInt ∧ (u.2.2.1).toInt ≤ 60) ∧ (0 ≤ (u.2.2.2.1).toInt ∧ (u.2.2.2.1).toInt ≤ 60) ∧ (0 ≤ (u.2.2.2.2.1).toInt ∧ (u.2.2.2.2.1).toInt ≤ 8) ∧ (0 ≤ (u.2.2.2.2.2.2.1).toInt ∧ (u.2.2.2.2.2.2.1).toInt ≤ 1) ∧ (∀ j : Nat, 0 ≤ ((u.2.2.2.2.2.2.2.2.1) j).toInt ∧ ((u.2.2.2.2.2.2.2.2.1) j).toInt ≤ 60) ∧ (sb_Fit (u.2.2.2.2.2.2.2.2.2.1))) (fun (u : (Int32) × (Int32) × (Int32) × (Int32) × (Int32) × (Int32) × (Int32) × (Nat → Int32) × (Nat → Int32) × (Nat → Int32) × (Nat → Int32) × (Nat → Int32) × (Nat → Int32) × (Nat → Int32) × (Int32)) => [(a0, .inr (7, [.ref a1, .int (u.1), .ref a2, .ref a3, .ref a4, .ref a5, .ref a6, .ref a7, .ref a8, .int x2, .int x3, .int x4, .int x5, .int x6, .int x7, .int x8, .ref a9, .ref a10, .ref a11, .ref a12, .ref a13, .ref a14, .int (u.2.1), .int (u.2.2.1), .int (u.2.2.2.1), .int (u.2.2.2.2.1), .int (u.2.2.2.2.2.1), .int (u.2.2.2.2.2.2.1)])), (a1, .inl (k0, 80, .inl f0)), (a2, .inl (k1, 89, .inl (u.2.2.2.2.2.2.2.1))), (a3, .inl (k2, 89, .inl (u.2.2.2.2.2.2.2.2.1))), (a4, .inl (k3, 5340, .inl (u.2.2.2.2.2.2.2.2.2.1))), (a11, .inl (k4, 60, .inl (u.2.2.2.2.2.2.2.2.2.2.1))), (a12, .inl (k5, 60, .inl (u.2.2.2.2.2.2.2.2.2.2.2.1))), (a13, .inl (k6, 60, .inl (u.2.2.2.2.2.2.2.2.2.2.2.2.1))), (a14, .inl (k7, 60, .inl (u.2.2.2.2.2.2.2.2.2.2.2.2.2.1)))]) (fun (u : (Int32) × (Int32) × (Int32) × (Int32) × (Int32) × (Int32) × (Int32) × (Nat → Int32) × (Nat → Int32) × (Nat → Int32) × (Nat → Int32) × (Nat → Int32) × (Nat → Int32) × (Nat → Int32) × (Int32)) => []) := by
  refine ka_E_of (cc := cX7_judge) (maxL := 4) (ret := (some .int)) (by decide) rfl (Nat.le_of_ble_eq_true rfl) ?_
  intro p e s m below meth c ls A C hr hlk hin hP hK hD hS hA hE hN hl
  have C : CallFix p m c cX7_judge 4 s [.ref a0, .int x0].toArray wsX7_judge RX7 := C
  obtain ⟨hx, hb, hml, hown, hts⟩ := id C
  have hl : lv_has ls 4 [(0, .ref a0), (1, .int x0)] := hl
  have rx0 := ka_rng x0
  have rx1 := ka_rng x1
  have rx2 := ka_rng x2
  have rx3 := ka_rng x3
  have rx4 := ka_rng x4
  have rx5 := ka_rng x5
  have rx6 := ka_rng x6
  have rx7 := ka_rng x7
  have rx8 := ka_rng x8
  have rx9 := ka_rng x9
  have rx10 := ka_rng x10
  have rx11 := ka_rng x11
  have rx12 := ka_rng x12
  have rx13 := ka_rng x13
  have rx14 := ka_rng x14
  rcases (show x0.toInt ≤ -1 ∨ (0 ≤ x0.toInt ∧ x0.toInt ≤ 60) ∨ 61 ≤ x0.toInt by omega) with y_34318 | y_34318 | y_34318
  · skip
    refine lv_aload_n hx hb dX7_judge_0 rfl (lv_at hl 0 rfl) ?_
    refine ka_get C lqr_449 rfl hK hP 0 rfl 9 (by decide) lqr_450 rfl dX7_judge_1 ?_
    refine lv_iconst (v := (-1)) hx hb dX7_judge_4 (by decide) ?_
    refine lv_icmp_eq (tgt := 16) hx hb dX7_judge_5 (by decide) (fun c_34319 => ?_) (fun c_34319 => ?_)
    · have c_34319 : x2.toInt = -1 := by rw [ka_eq', show ((-1 : Int32)).toInt = -1 from by decide] at c_34319; exact c_34319
      refine lv_bipush (v := (-2)) hx hb dX7_judge_16 (by decide) ?_
      exact ka_rEi C hr hlk (Nat.le_of_ble_eq_true rfl) (Nat.le_of_ble_eq_true rfl) hS (ka_qE (x1, x9, x10, x11, x12, x13, x14, f1, f2, f3, f4, f5, f6, f7, (-2)) rfl ⟨(show 0 ≤ x1.toInt ∧ x1.toInt ≤ 80 from ⟨by omega, by omega⟩), (show 0 ≤ x9.toInt ∧ x9.toInt ≤ 60 from ⟨by omega, by omega⟩), (show 0 ≤ x10.toInt ∧ x10.toInt ≤ 60 from ⟨by omega, by omega⟩), (show 0 ≤ x11.toInt ∧ x11.toInt ≤ 60 from ⟨by omega, by omega⟩), (show 0 ≤ x12.toInt ∧ x12.toInt ≤ 8 from ⟨by omega, by omega⟩), (show 0 ≤ x14.toInt ∧ x14.toInt ≤ 1 from ⟨by omega, by omega⟩), hf2, hf3⟩ hK hP hD hS [0, 1, 2, 3, 4, 5, 6, 7, 8] (by decide) rfl [] rfl) dX7_judge_18
    · have c_34319 : ¬ x2.toInt = -1 := by rw [ka_eq', show ((-1 : Int32)).toInt = -1 from by decide] at c_34319; exact c_34319
      refine lv_aload_n hx hb dX7_judge_8 rfl (lv_at hl 0 rfl) ?_
      refine lv_iload_n hx hb dX7_judge_9 rfl (lv_at hl 1 rfl) ?_
      refine ka_RV (n := 1) C (cr_X7_isText_435 l D F a0 x0 a1 x1 a2 a3 a4 a5 a6 a7 a8 x2 x3 x4 x5 x6 x7 x8 a9 a10 a11 a12 a13 a14 x9 x10 x11 x12 x13 x14 (by omega) ⟨by omega, by omega⟩ ⟨by omega, by omega⟩ ⟨by omega, by omega⟩ ⟨by omega, by omega⟩ ⟨by omega, by omega⟩ ⟨by omega, by omega⟩ ⟨by omega, by omega⟩ ⟨by omega, by omega⟩ ⟨by omega, by omega⟩ ⟨by omega, by omega⟩) gX7_judge_X7_isText rfl (by decide +kernel) ⟨Nat.le_of_ble_eq_true rfl, Nat.le_of_ble_eq_true rfl⟩ hK hP hS hE hN [0] rfl [] rfl (ci := 7) rfl rfl 0 rfl rfl hl.1 (rest := []) rfl (Nat.le_of_ble_eq_true rfl) dX7_judge_10 ⟨Nat.le_of_ble_eq_true rfl, Nat.le_of_ble_eq_true rfl⟩ (fun v hv => ?_)
      subst hv
      refine ka_stk (w := [.int 0]) rfl ?_
      refine lv_if_ne (tgt := 19) hx hb dX7_judge_13 (by decide) (fun c_ => absurd (by decide) c_) (fun _ => ?_)
      refine lv_bipush (v := (-2)) hx hb dX7_judge_16 (by decide) ?_
      exact ka_rEi C hr hlk (Nat.le_of_ble_eq_true rfl) (Nat.le_of_ble_eq_true rfl) hS (ka_qE (x1, x9, x10, x11, x12, x13, x14, f1, f2, f3, f4, f5, f6, f7, (-2)) rfl ⟨(show 0 ≤ x1.toInt ∧ x1.toInt ≤ 80 from ⟨by omega, by omega⟩), (show 0 ≤ x9.toInt ∧ x9.toInt ≤ 60 from ⟨by omega, by omega⟩), (show 0 ≤ x10.toInt ∧ x10.toInt ≤ 60 from ⟨by omega, by omega⟩), (show 0 ≤ x11.toInt ∧ x11.toInt ≤ 60 from ⟨by omega, by omega⟩), (show 0 ≤ x12.toInt ∧ x12.toInt ≤ 8 from ⟨by omega, by omega⟩), (show 0 ≤ x14.toInt ∧ x14.toInt ≤ 1 from ⟨by omega, by omega⟩), hf2, hf3⟩ hK hP hD hS [0, 1, 2, 3, 4, 5, 6, 7, 8] (by decide) rfl [] rfl) dX7_judge_18
  · skip
    refine lv_aload_n hx hb dX7_judge_0 rfl (lv_at hl 0 rfl) ?_
    refine ka_get C lqr_449 rfl hK hP 0 rfl 9 (by decide) lqr_450 rfl dX7_judge_1 ?_
    refine lv_iconst (v := (-1)) hx hb dX7_judge_4 (by decide) ?_
    refine lv_icmp_eq (tgt := 16) hx hb dX7_judge_5 (by decide) (fun c_34320 => ?_) (fun c_34320 => ?_)
    · have c_34320 : x2.toInt = -1 := by rw [ka_eq', show ((-1 : Int32)).toInt = -1 from by decide] at c_34320; exact c_34320
      refine lv_bipush (v := (-2)) hx hb dX7_judge_16 (by decide) ?_
      exact ka_rEi C hr hlk (Nat.le_of_ble_eq_true rfl) (Nat.le_of_ble_eq_true rfl) hS (ka_qE (x1, x9, x10, x11, x12, x13, x14, f1, f2, f3, f4, f5, f6, f7, (-2)) rfl ⟨(show 0 ≤ x1.toInt ∧ x1.toInt ≤ 80 from ⟨by omega, by omega⟩), (show 0 ≤ x9.toInt ∧ x9.toInt ≤ 60 from ⟨by omega, by omega⟩), (show 0 ≤ x10.toInt ∧ x10.toInt ≤ 60 from ⟨by omega, by omega⟩), (show 0 ≤ x11.toInt ∧ x11.toInt ≤ 60 from ⟨by omega, by omega⟩), (show 0 ≤ x12.toInt ∧ x12.toInt ≤ 8 from ⟨by omega, by omega⟩), (show 0 ≤ x14.toInt ∧ x14.toInt ≤ 1 from ⟨by omega, by omega⟩), hf2, hf3⟩ hK hP hD hS [0, 1, 2, 3, 4, 5, 6, 7, 8] (by decide) rfl [] rfl) dX7_judge_18
    · have c_34320 : ¬ x2.toInt = -1 := by rw [ka_eq', show ((-1 : Int32)).toInt = -1 from by decide] at c_34320; exact c_34320
      refine lv_aload_n hx hb dX7_judge_8 rfl (lv_at hl 0 rfl) ?_
      refine lv_iload_n hx hb dX7_judge_9 rfl (lv_at hl 1 rfl) ?_
      refine ka_RV (n := 1) C (cr_X7_isText_437 l D F a0 x0 a1 x1 a2 a3 a4 a5 a6 a7 a8 x2 x3 x4 x5 x6 x7 x8 a9 a10 a11 a12 a13 a14 x9 x10 x11 x12 x13 x14 ⟨by omega, by omega⟩ ⟨by omega, by omega⟩ ⟨by omega, by omega⟩ ⟨by omega, by omega⟩ ⟨by omega, by omega⟩ ⟨by omega, by omega⟩ ⟨by omega, by omega⟩ ⟨by omega, by omega⟩ ⟨by omega, by omega⟩ ⟨by omega, by omega⟩ ⟨by omega, by omega⟩) gX7_judge_X7_isText rfl (by decide +kernel) ⟨Nat.le_of_ble_eq_true rfl, Nat.le_of_ble_eq_true rfl⟩ hK hP hS hE hN [0] rfl [] rfl (ci := 7) rfl rfl 0 rfl rfl hl.1 (rest := []) rfl (Nat.le_of_ble_eq_true rfl) dX7_judge_10 ⟨Nat.le_of_ble_eq_true rfl, Nat.le_of_ble_eq_true rfl⟩ (fun v hv => ?_)
      obtain ⟨v_34321, rfl, hv_34321⟩ := hv
      have rv_34321 := ka_rng v_34321
      refine ka_stk (w := [.int v_34321]) rfl ?_
      refine lv_if_ne (tgt := 19) hx hb dX7_judge_13 (by decide) (fun c_34322 => ?_) (fun c_34322 => ?_)
      · have c_34322 : ¬ v_34321.toInt = 0 := by rw [ka_eq', show ((0 : Int32)).toInt = 0 from by decide] at c_34322; exact c_34322
        refine lv_aload_n hx hb dX7_judge_19 rfl (lv_at hl 0 rfl) ?_
        refine lv_iload_n hx hb dX7_judge_20 rfl (lv_at hl 1 rfl) ?_
        refine ka_EV (n := 1) (wr := []) C (cr_X7_reads_439 l D F a0 x0 a1 x1 a2 a3 a4 a5 a6 a7 a8 x2 x3 x4 x5 x6 x7 x8 a9 a10 a11 a12 a13 a14 x9 x10 x11 x12 x13 x14 k0 f0 k1 f1 k2 f2 k3 f3 k4 f4 k5 f5 k6 f6 k7 f7 ⟨by omega, by omega⟩ ⟨by omega, by omega⟩ ⟨by omega, by omega⟩ ⟨by omega, by omega⟩ ⟨by omega, by omega⟩ ⟨by omega, by omega⟩ ⟨by omega, by omega⟩ ⟨by omega, by omega⟩ ⟨by omega, by omega⟩ ⟨by omega, by omega⟩ ⟨by omega, by omega⟩ hf0 hf2 hf3) gX7_judge_X7_reads rfl (by decide +kernel) ⟨Nat.le_of_ble_eq_true rfl, Nat.le_of_ble_eq_true rfl⟩ hK hP hD hS hA hE hN [0, 1, 2, 3, 4, 5, 6, 7, 8] rfl (by decide) [] rfl (by decide) (by decide) [0, 1, 2, 3, 4, 5, 6, 7] rfl (ci := 7) rfl rfl 0 rfl rfl hl.1 (rest := []) rfl (Nat.le_of_ble_eq_true rfl) dX7_judge_21 ⟨Nat.le_of_ble_eq_true rfl, Nat.le_of_ble_eq_true rfl⟩ (fun u H locs hq hP hD hK hS => ?_)
        obtain ⟨v_34323, v_34324, v_34325, v_34326, v_34327, g_34328, g_34329, g_34330, g_34331, g_34332, g_34333, g_34334, v_34335⟩ := u
        have hq : (0 ≤ v_34323.toInt ∧ v_34323.toInt ≤ 60) ∧ (0 ≤ v_34324.toInt ∧ v_34324.toInt ≤ 60) ∧ (0 ≤ v_34325.toInt ∧ v_34325.toInt ≤ 8) ∧ (0 ≤ v_34327.toInt ∧ v_34327.toInt ≤ 1) ∧ (∀ j : Nat, 0 ≤ (g_34329 j).toInt ∧ (g_34329 j).toInt ≤ 60) ∧ (sb_Fit g_34330) ∧ (0 ≤ v_34335.toInt ∧ v_34335.toInt ≤ 1) := hq
        obtain ⟨hv_34323, hv_34324, hv_34325, hv_34327, hg_34329, hg_34330, hv_34335⟩ := hq
        have rv_34323 := ka_rng v_34323
        have rv_34324 := ka_rng v_34324
        have rv_34325 := ka_rng v_34325
        have rv_34326 := ka_rng v_34326
        have rv_34327 := ka_rng v_34327
        have rv_34335 := ka_rng v_34335
        have hP : va_P D vwCl [(a0, .inr (7, [.ref a1, .int 0, .ref a2, .ref a3, .ref a4, .ref a5, .ref a6, .ref a7, .ref a8, .int x2, .int x3, .int x4, .int x5, .int x6, .int x7, .int x8, .ref a9, .ref a10, .ref a11, .ref a12, .ref a13, .ref a14, .int v_34323, .int v_34324, .int x0, .int v_34325, .int v_34326, .int v_34327])), (a1, .inl (k0, 80, .inl f0)), (a2, .inl (k1, 89, .inl g_34328)), (a3, .inl (k2, 89, .inl g_34329)), (a4, .inl (k3, 5340, .inl g_34330)), (a11, .inl (k4, 60, .inl g_34331)), (a12, .inl (k5, 60, .inl g_34332)), (a13, .inl (k6, 60, .inl g_34333)), (a14, .inl (k7, 60, .inl g_34334))] H := hP
        have hD : va_D A [(a0, .inr (7, [.ref a1, .int 0, .ref a2, .ref a3, .ref a4, .ref a5, .ref a6, .ref a7, .ref a8, .int x2, .int x3, .int x4, .int x5, .int x6, .int x7, .int x8, .ref a9, .ref a10, .ref a11, .ref a12, .ref a13, .ref a14, .int v_34323, .int v_34324, .int x0, .int v_34325, .int v_34326, .int v_34327])), (a1, .inl (k0, 80, .inl f0)), (a2, .inl (k1, 89, .inl g_34328)), (a3, .inl (k2, 89, .inl g_34329)), (a4, .inl (k3, 5340, .inl g_34330)), (a11, .inl (k4, 60, .inl g_34331)), (a12, .inl (k5, 60, .inl g_34332)), (a13, .inl (k6, 60, .inl g_34333)), (a14, .inl (k7, 60, .inl g_34334))] := hD
        have hK : va_K D vwCl [(k0, .byte), (k1, .int), (k2, .int), (k3, .byte), (k4, .int), (k5, .int), (k6, .int), (k7, .int)] s := by simpa using hK
        refine ka_stk (w := [.int v_34335]) rfl ?_
        refine lv_if_ne (tgt := 29) hx hb dX7_judge_24 (by decide) (fun c_34336 => ?_) (fun c_34336 => ?_)
        · have c_34336 : ¬ v_34335.toInt = 0 := by rw [ka_eq', show ((0 : Int32)).toInt = 0 from by decide] at c_34336; exact c_34336
          refine lv_iconst (v := 0) hx hb dX7_judge_29 (by decide) ?_
          refine lv_istore_n (lv' := [(2, .int 0), (0, .ref a0), (1, .int x0)]) hx hb dX7_judge_30 rfl hl (by decide) rfl (fun ls hl => ?_)
          refine lv_iconst (v := 0) hx hb dX7_judge_31 (by decide) ?_
          refine lv_istore_n (lv' := [(3, .int 0), (2, .int 0), (0, .ref a0), (1, .int x0)]) hx hb dX7_judge_32 rfl hl (by decide) rfl (fun ls hl => ?_)
          have lp_34337 : ∀ (n : Nat) (i34337_2 : Int32) (i34337_3 : Int32), (0 ≤ i34337_3.toInt ∧ i34337_3.toInt ≤ 32) → (32 - i34337_3.toInt).toNat < n → ∀ (H : Heap) (locs : List Loc), va_P D vwCl [(a0, .inr (7, [.ref a1, .int 0, .ref a2, .ref a3, .ref a4, .ref a5, .ref a6, .ref a7, .ref a8, .int x2, .int x3, .int x4, .int x5, .int x6, .int x7, .int x8, .ref a9, .ref a10, .ref a11, .ref a12, .ref a13, .ref a14, .int v_34323, .int v_34324, .int x0, .int v_34325, .int v_34326, .int v_34327])), (a1, .inl (k0, 80, .inl f0)), (a2, .inl (k1, 89, .inl g_34328)), (a3, .inl (k2, 89, .inl g_34329)), (a4, .inl (k3, 5340, .inl g_34330)), (a11, .inl (k4, 60, .inl g_34331)), (a12, .inl (k5, 60, .inl g_34332)), (a13, .inl (k6, 60, .inl g_34333)), (a14, .inl (k7, 60, .inl g_34334))] H → va_D A [(a0, .inr (7, [.ref a1, .int 0, .ref a2, .ref a3, .ref a4, .ref a5, .ref a6, .ref a7, .ref a8, .int x2, .int x3, .int x4, .int x5, .int x6, .int x7, .int x8, .ref a9, .ref a10, .ref a11, .ref a12, .ref a13, .ref a14, .int v_34323, .int v_34324, .int x0, .int v_34325, .int v_34326, .int v_34327])), (a1, .inl (k0, 80, .inl f0)), (a2, .inl (k1, 89, .inl g_34328)), (a3, .inl (k2, 89, .inl g_34329)), (a4, .inl (k3, 5340, .inl g_34330)), (a11, .inl (k4, 60, .inl g_34331)), (a12, .inl (k5, 60, .inl g_34332)), (a13, .inl (k6, 60, .inl g_34333)), (a14, .inl (k7, 60, .inl g_34334))] → va_S A s.heap H locs → ∀ (ls : Array Slot), lv_has ls 4 [(0, .ref a0), (1, .int x0), (2, .int i34337_2), (3, .int i34337_3)] → W p l e ({ frames := 144, cells := 0, slots := 0, locals := 3596 }) s m [.ref a0, .int x0].toArray below meth c H locs 0 0 (MQ below (ka_QE D A (fun (u : (Int32) × (Int32) × (Int32) × (Int32) × (Int32) × (Int32) × (Int32) × (Nat → Int32) × (Nat → Int32) × (Nat → Int32) × (Nat → Int32) × (Nat → Int32) × (Nat → Int32) × (Nat → Int32) × (Int32)) => some (.int (u.2.2.2.2.2.2.2.2.2.2.2.2.2.2))) (fun (u : (Int32) × (Int32) × (Int32) × (Int32) × (Int32) × (Int32) × (Int32) × (Nat → Int32) × (Nat → Int32) × (Nat → Int32) × (Nat → Int32) × (Nat → Int32) × (Nat → Int32) × (Nat → Int32) × (Int32)) => (0 ≤ (u.1).toInt ∧ (u.1).toInt ≤ 80) ∧ (0 ≤ (u.2.1).toInt ∧ (u.2.1).toInt ≤ 60) ∧ (0 ≤ (u.2.2.1).toInt ∧ (u.2.2.1).toInt ≤ 60) ∧ (0 ≤ (u.2.2.2.1).toInt ∧ (u.2.2.2.1).toInt ≤ 60) ∧ (0 ≤ (u.2.2.2.2.1).toInt ∧ (u.2.2.2.2.1).toInt ≤ 8) ∧ (0 ≤ (u.2.2.2.2.2.2.1).toInt ∧ (u.2.2.2.2.2.2.1).toInt ≤ 1) ∧ (∀ j : Nat, 0 ≤ ((u.2.2.2.2.2.2.2.2.1) j).toInt ∧ ((u.2.2.2.2.2.2.2.2.1) j).toInt ≤ 60) ∧ (sb_Fit (u.2.2.2.2.2.2.2.2.2.1))) (fun (u : (Int32) × (Int32) × (Int32) × (Int32) × (Int32) × (Int32) × (Int32) × (Nat → Int32) × (Nat → Int32) × (Nat → Int32) × (Nat → Int32) × (Nat → Int32) × (Nat → Int32) × (Nat → Int32) × (Int32)) => [(a0, .inr (7, [.ref a1, .int (u.1), .ref a2, .ref a3, .ref a4, .ref a5, .ref a6, .ref a7, .ref a8, .int x2, .int x3, .int x4, .int x5, .int x6, .int x7, .int x8, .ref a9, .ref a10, .ref a11, .ref a12, .ref a13, .ref a14, .int (u.2.1), .int (u.2.2.1), .int (u.2.2.2.1), .int (u.2.2.2.2.1), .int (u.2.2.2.2.2.1), .int (u.2.2.2.2.2.2.1)])), (a1, .inl (k0, 80, .inl f0)), (a2, .inl (k1, 89, .inl (u.2.2.2.2.2.2.2.1))), (a3, .inl (k2, 89, .inl (u.2.2.2.2.2.2.2.2.1))), (a4, .inl (k3, 5340, .inl (u.2.2.2.2.2.2.2.2.2.1))), (a11, .inl (k4, 60, .inl (u.2.2.2.2.2.2.2.2.2.2.1))), (a12, .inl (k5, 60, .inl (u.2.2.2.2.2.2.2.2.2.2.2.1))), (a13, .inl (k6, 60, .inl (u.2.2.2.2.2.2.2.2.2.2.2.2.1))), (a14, .inl (k7, 60, .inl (u.2.2.2.2.2.2.2.2.2.2.2.2.2.1)))]) (fun (u : (Int32) × (Int32) × (Int32) × (Int32) × (Int32) × (Int32) × (Int32) × (Nat → Int32) × (Nat → Int32) × (Nat → Int32) × (Nat → Int32) × (Nat → Int32) × (Nat → Int32) × (Nat → Int32) × (Int32)) => [])) [.ref a0, .int x0].toArray s 0 0 A) (F0 m 33 ls []) := by
            intro n
            induction n with
            | zero =>
              intro i34337_2 i34337_3 hi34337_3 hm
              exact absurd hm (Nat.not_lt_zero _)
            | succ n ih_34337 =>
              intro i34337_2 i34337_3 hi34337_3 hm H locs hP hD hS ls hl
              have ri34337_2 := ka_rng i34337_2
              have ri34337_3 := ka_rng i34337_3
              refine lv_iload_n hx hb dX7_judge_33 rfl (lv_at hl 3 rfl) ?_
              refine lv_bipush (v := 32) hx hb dX7_judge_34 (by decide) ?_
              refine lv_icmp_ge (tgt := 75) hx hb dX7_judge_36 (by decide) (fun c_34346 => ?_) (fun c_34346 => ?_)
              · have c_34346 : 32 ≤ i34337_3.toInt := by rw [ka_le', show ((32 : Int32)).toInt = 32 from by decide] at c_34346; exact c_34346
                refine lv_iload_n hx hb dX7_judge_75 rfl (lv_at hl 2 rfl) ?_
                exact ka_rEi C hr hlk (Nat.le_of_ble_eq_true rfl) (Nat.le_of_ble_eq_true rfl) hS (ka_qE (0, v_34323, v_34324, x0, v_34325, v_34326, v_34327, g_34328, g_34329, g_34330, g_34331, g_34332, g_34333, g_34334, i34337_2) rfl ⟨(show 0 ≤ ((0 : Int32)).toInt ∧ ((0 : Int32)).toInt ≤ 80 from ⟨by decide, by decide⟩), (show 0 ≤ v_34323.toInt ∧ v_34323.toInt ≤ 60 from ⟨by omega, by omega⟩), (show 0 ≤ v_34324.toInt ∧ v_34324.toInt ≤ 60 from ⟨by omega, by omega⟩), (show 0 ≤ x0.toInt ∧ x0.toInt ≤ 60 from ⟨by omega, by omega⟩), (show 0 ≤ v_34325.toInt ∧ v_34325.toInt ≤ 8 from ⟨by omega, by omega⟩), (show 0 ≤ v_34327.toInt ∧ v_34327.toInt ≤ 1 from ⟨by omega, by omega⟩), hg_34329, hg_34330⟩ hK hP hD hS [0, 1, 2, 3, 4, 5, 6, 7, 8] (by decide) rfl [] rfl) dX7_judge_76
              · have c_34346 : ¬ 32 ≤ i34337_3.toInt := by rw [ka_le', show ((32 : Int32)).toInt = 32 from by decide] at c_34346; exact c_34346
                refine lv_iload_n hx hb dX7_judge_39 rfl (lv_at hl 2 rfl) ?_
                refine lv_aload_n hx hb dX7_judge_40 rfl (lv_at hl 0 rfl) ?_
                refine lv_bipush (v := 88) hx hb dX7_judge_41 (by decide) ?_
                refine lv_iload_n hx hb dX7_judge_43 rfl (lv_at hl 3 rfl) ?_
                refine ka_RV (n := 2) C (cr_X7_tellsOf_444 l D F a0 i34337_3 a1 0 a2 a3 a4 a5 a6 a7 a8 x2 x3 x4 x5 x6 x7 x8 a9 a10 a11 a12 a13 a14 v_34323 v_34324 x0 v_34325 v_34326 v_34327 k1 g_34328 ⟨by omega, by omega⟩ ⟨by decide, by decide⟩ ⟨by omega, by omega⟩ ⟨by omega, by omega⟩ ⟨by omega, by omega⟩ ⟨by omega, by omega⟩ ⟨by omega, by omega⟩ ⟨by omega, by omega⟩ ⟨by omega, by omega⟩ ⟨by omega, by omega⟩ ⟨by omega, by omega⟩) gX7_judge_X7_tellsOf rfl (by decide +kernel) ⟨Nat.le_of_ble_eq_true rfl, Nat.le_of_ble_eq_true rfl⟩ hK hP hS hE hN [0, 2] rfl [1] rfl (ci := 7) rfl rfl 0 rfl rfl hl.1 (rest := [.int i34337_2]) rfl (Nat.le_of_ble_eq_true rfl) dX7_judge_44 ⟨Nat.le_of_ble_eq_true rfl, Nat.le_of_ble_eq_true rfl⟩ (fun v hv => ?_)
                obtain ⟨v_34347, rfl⟩ := hv
                have rv_34347 := ka_rng v_34347
                refine ka_stk (w := [.int v_34347, .int i34337_2]) rfl ?_
                refine lv_aload_n hx hb dX7_judge_47 rfl (lv_at hl 0 rfl) ?_
                refine lv_aload_n hx hb dX7_judge_48 rfl (lv_at hl 0 rfl) ?_
                refine ka_get C lqr_449 rfl hK hP 0 rfl 9 (by decide) lqr_450 rfl dX7_judge_49 ?_
                refine lv_iload_n hx hb dX7_judge_52 rfl (lv_at hl 3 rfl) ?_
                refine ka_RV (n := 2) C (cg_X7_tellsOf_272 l D F a0 x2 i34337_3 a1 0 a2 a3 a4 a5 a6 a7 a8 x2 x3 x4 x5 x6 x7 x8 a9 a10 a11 a12 a13 a14 v_34323 v_34324 x0 v_34325 v_34326 v_34327 k1 g_34328 ⟨by omega, by omega⟩ ⟨by omega, by omega⟩ ⟨by decide, by decide⟩ ⟨by omega, by omega⟩ ⟨by omega, by omega⟩ ⟨by omega, by omega⟩ ⟨by omega, by omega⟩ ⟨by omega, by omega⟩ ⟨by omega, by omega⟩ ⟨by omega, by omega⟩ ⟨by omega, by omega⟩ ⟨by omega, by omega⟩) gX7_judge_X7_tellsOf rfl (by decide +kernel) ⟨Nat.le_of_ble_eq_true rfl, Nat.le_of_ble_eq_true rfl⟩ hK hP hS hE hN [0, 2] rfl [1] rfl (ci := 7) rfl rfl 0 rfl rfl hl.1 (rest := [.int v_34347, .int i34337_2]) rfl (Nat.le_of_ble_eq_true rfl) dX7_judge_53 ⟨Nat.le_of_ble_eq_true rfl, Nat.le_of_ble_eq_true rfl⟩ (fun v hv => ?_)
                obtain ⟨v_34348, rfl⟩ := hv
                have rv_34348 := ka_rng v_34348
                refine ka_stk (w := [.int v_34348, .int v_34347, .int i34337_2]) rfl ?_
                refine lv_icmp_eq (tgt := 63) hx hb dX7_judge_56 (by decide) (fun c_34349 => ?_) (fun c_34349 => ?_)
                · have c_34349 : v_34347.toInt = v_34348.toInt := by rw [ka_eq'] at c_34349; exact c_34349
                  refine lv_iconst (v := 0) hx hb dX7_judge_63 (by decide) ?_
                  refine ka_RS (n := 1) C (cg_X7_one_253 l D F ) gX7_judge_X7_one rfl (by decide +kernel) ⟨Nat.le_of_ble_eq_true rfl, Nat.le_of_ble_eq_true rfl⟩ hK hP hS hE hN [] rfl [] rfl rfl hl.1 (rest := [.int i34337_2]) rfl (Nat.le_of_ble_eq_true rfl) dX7_judge_64 ⟨Nat.le_of_ble_eq_true rfl, Nat.le_of_ble_eq_true rfl⟩ (fun v hv => ?_)
                  subst hv
                  refine ka_stk (w := [.int 0, .int i34337_2]) rfl ?_
                  refine lv_iadd hx hb dX7_judge_67 ?_
                  refine lv_topi (fun v_34350 ev_34350 => ?_)
                  have fv_34350 : v_34350.toInt = i34337_2.toInt + 0 := by rw [ev_34350]; exact ka_add (x := i34337_2.toInt) (y := 0) rfl (by decide) (by omega) (by omega)
                  refine lv_istore_n (lv' := [(2, .int v_34350), (0, .ref a0), (1, .int x0), (3, .int i34337_3)]) hx hb dX7_judge_68 rfl hl (by decide) rfl (fun ls hl => ?_)
                  obtain ⟨v_34351, ev_34351⟩ : ∃ y : Int32, y = i34337_3 + 1 := ⟨_, rfl⟩
                  refine lv_iinc (v := v_34351) (lv' := [(3, .int v_34351), (2, .int v_34350), (0, .ref a0), (1, .int x0)]) hx hb dX7_judge_69 hl (k := 3) rfl (by rw [ev_34351]; rfl) (by decide) rfl (fun ls hl => ?_)
                  have fv_34351 : v_34351.toInt = i34337_3.toInt + 1 := by rw [ev_34351]; exact ka_add (x := i34337_3.toInt) (y := 1) rfl (by decide) (by omega) (by omega)
                  refine lv_goto (tgt := 33) hx hb dX7_judge_72 (by decide) ?_
                  exact ih_34337 v_34350 v_34351 ⟨by omega, by omega⟩ (by omega) H locs (hP.sub [0, 1, 2, 3, 4, 5, 6, 7, 8] rfl) (hD.sub [0, 1, 2, 3, 4, 5, 6, 7, 8] (by decide) rfl) hS ls (lv_sub hl [2, 3, 1, 0] rfl)
                · have c_34349 : ¬ v_34347.toInt = v_34348.toInt := by rw [ka_eq'] at c_34349; exact c_34349
                  refine lv_iconst (v := 1) hx hb dX7_judge_59 (by decide) ?_
                  refine lv_goto (tgt := 64) hx hb dX7_judge_60 (by decide) ?_
                  refine ka_RS (n := 1) C (cg_X7_one_254 l D F ) gX7_judge_X7_one rfl (by decide +kernel) ⟨Nat.le_of_ble_eq_true rfl, Nat.le_of_ble_eq_true rfl⟩ hK hP hS hE hN [] rfl [] rfl rfl hl.1 (rest := [.int i34337_2]) rfl (Nat.le_of_ble_eq_true rfl) dX7_judge_64 ⟨Nat.le_of_ble_eq_true rfl, Nat.le_of_ble_eq_true rfl⟩ (fun v hv => ?_)
                  subst hv
                  refine ka_stk (w := [.int 1, .int i34337_2]) rfl ?_
                  refine lv_iadd hx hb dX7_judge_67 ?_
                  refine lv_topi (fun v_34352 ev_34352 => ?_)
                  refine lv_istore_n (lv' := [(2, .int v_34352), (0, .ref a0), (1, .int x0), (3, .int i34337_3)]) hx hb dX7_judge_68 rfl hl (by decide) rfl (fun ls hl => ?_)
                  obtain ⟨v_34353, ev_34353⟩ : ∃ y : Int32, y = i34337_3 + 1 := ⟨_, rfl⟩
                  refine lv_iinc (v := v_34353) (lv' := [(3, .int v_34353), (2, .int v_34352), (0, .ref a0), (1, .int x0)]) hx hb dX7_judge_69 hl (k := 3) rfl (by rw [ev_34353]; rfl) (by decide) rfl (fun ls hl => ?_)
                  have fv_34353 : v_34353.toInt = i34337_3.toInt + 1 := by rw [ev_34353]; exact ka_add (x := i34337_3.toInt) (y := 1) rfl (by decide) (by omega) (by omega)
                  refine lv_goto (tgt := 33) hx hb dX7_judge_72 (by decide) ?_
                  exact ih_34337 v_34352 v_34353 ⟨by omega, by omega⟩ (by omega) H locs (hP.sub [0, 1, 2, 3, 4, 5, 6, 7, 8] rfl) (hD.sub [0, 1, 2, 3, 4, 5, 6, 7, 8] (by decide) rfl) hS ls (lv_sub hl [2, 3, 1, 0] rfl)
          exact lp_34337 _ 0 0 ⟨by decide, by decide⟩ (Nat.lt_succ_self _) _ _ hP hD hS ls (lv_sub hl [2, 3, 1, 0] rfl)
        · have c_34336 : v_34335.toInt = 0 := by rw [ka_eq', show ((0 : Int32)).toInt = 0 from by decide] at c_34336; exact c_34336
          refine lv_iconst (v := (-1)) hx hb dX7_judge_27 (by decide) ?_
          exact ka_rEi C hr hlk (Nat.le_of_ble_eq_true rfl) (Nat.le_of_ble_eq_true rfl) hS (ka_qE (0, v_34323, v_34324, x0, v_34325, v_34326, v_34327, g_34328, g_34329, g_34330, g_34331, g_34332, g_34333, g_34334, (-1)) rfl ⟨(show 0 ≤ ((0 : Int32)).toInt ∧ ((0 : Int32)).toInt ≤ 80 from ⟨by decide, by decide⟩), (show 0 ≤ v_34323.toInt ∧ v_34323.toInt ≤ 60 from ⟨by omega, by omega⟩), (show 0 ≤ v_34324.toInt ∧ v_34324.toInt ≤ 60 from ⟨by omega, by omega⟩), (show 0 ≤ x0.toInt ∧ x0.toInt ≤ 60 from ⟨by omega, by omega⟩), (show 0 ≤ v_34325.toInt ∧ v_34325.toInt ≤ 8 from ⟨by omega, by omega⟩), (show 0 ≤ v_34327.toInt ∧ v_34327.toInt ≤ 1 from ⟨by omega, by omega⟩), hg_34329, hg_34330⟩ hK hP hD hS [0, 1, 2, 3, 4, 5, 6, 7, 8] (by decide) rfl [] rfl) dX7_judge_28
      · have c_34322 : v_34321.toInt = 0 := by rw [ka_eq', show ((0 : Int32)).toInt = 0 from by decide] at c_34322; exact c_34322
        refine lv_bipush (v := (-2)) hx hb dX7_judge_16 (by decide) ?_
        exact ka_rEi C hr hlk (Nat.le_of_ble_eq_true rfl) (Nat.le_of_ble_eq_true rfl) hS (ka_qE (x1, x9, x10, x11, x12, x13, x14, f1, f2, f3, f4, f5, f6, f7, (-2)) rfl ⟨(show 0 ≤ x1.toInt ∧ x1.toInt ≤ 80 from ⟨by omega, by omega⟩), (show 0 ≤ x9.toInt ∧ x9.toInt ≤ 60 from ⟨by omega, by omega⟩), (show 0 ≤ x10.toInt ∧ x10.toInt ≤ 60 from ⟨by omega, by omega⟩), (show 0 ≤ x11.toInt ∧ x11.toInt ≤ 60 from ⟨by omega, by omega⟩), (show 0 ≤ x12.toInt ∧ x12.toInt ≤ 8 from ⟨by omega, by omega⟩), (show 0 ≤ x14.toInt ∧ x14.toInt ≤ 1 from ⟨by omega, by omega⟩), hf2, hf3⟩ hK hP hD hS [0, 1, 2, 3, 4, 5, 6, 7, 8] (by decide) rfl [] rfl) dX7_judge_18
  · skip
    refine lv_aload_n hx hb dX7_judge_0 rfl (lv_at hl 0 rfl) ?_
    refine ka_get C lqr_449 rfl hK hP 0 rfl 9 (by decide) lqr_450 rfl dX7_judge_1 ?_
    refine lv_iconst (v := (-1)) hx hb dX7_judge_4 (by decide) ?_
    refine lv_icmp_eq (tgt := 16) hx hb dX7_judge_5 (by decide) (fun c_34354 => ?_) (fun c_34354 => ?_)
    · have c_34354 : x2.toInt = -1 := by rw [ka_eq', show ((-1 : Int32)).toInt = -1 from by decide] at c_34354; exact c_34354
      refine lv_bipush (v := (-2)) hx hb dX7_judge_16 (by decide) ?_
      exact ka_rEi C hr hlk (Nat.le_of_ble_eq_true rfl) (Nat.le_of_ble_eq_true rfl) hS (ka_qE (x1, x9, x10, x11, x12, x13, x14, f1, f2, f3, f4, f5, f6, f7, (-2)) rfl ⟨(show 0 ≤ x1.toInt ∧ x1.toInt ≤ 80 from ⟨by omega, by omega⟩), (show 0 ≤ x9.toInt ∧ x9.toInt ≤ 60 from ⟨by omega, by omega⟩), (show 0 ≤ x10.toInt ∧ x10.toInt ≤ 60 from ⟨by omega, by omega⟩), (show 0 ≤ x11.toInt ∧ x11.toInt ≤ 60 from ⟨by omega, by omega⟩), (show 0 ≤ x12.toInt ∧ x12.toInt ≤ 8 from ⟨by omega, by omega⟩), (show 0 ≤ x14.toInt ∧ x14.toInt ≤ 1 from ⟨by omega, by omega⟩), hf2, hf3⟩ hK hP hD hS [0, 1, 2, 3, 4, 5, 6, 7, 8] (by decide) rfl [] rfl) dX7_judge_18
    · have c_34354 : ¬ x2.toInt = -1 := by rw [ka_eq', show ((-1 : Int32)).toInt = -1 from by decide] at c_34354; exact c_34354
      refine lv_aload_n hx hb dX7_judge_8 rfl (lv_at hl 0 rfl) ?_
      refine lv_iload_n hx hb dX7_judge_9 rfl (lv_at hl 1 rfl) ?_
      refine ka_RV (n := 1) C (cr_X7_isText_442 l D F a0 x0 a1 x1 a2 a3 a4 a5 a6 a7 a8 x2 x3 x4 x5 x6 x7 x8 a9 a10 a11 a12 a13 a14 x9 x10 x11 x12 x13 x14 (by omega) ⟨by omega, by omega⟩ ⟨by omega, by omega⟩ ⟨by omega, by omega⟩ ⟨by omega, by omega⟩ ⟨by omega, by omega⟩ ⟨by omega, by omega⟩ ⟨by omega, by omega⟩ ⟨by omega, by omega⟩ ⟨by omega, by omega⟩ ⟨by omega, by omega⟩) gX7_judge_X7_isText rfl (by decide +kernel) ⟨Nat.le_of_ble_eq_true rfl, Nat.le_of_ble_eq_true rfl⟩ hK hP hS hE hN [0] rfl [] rfl (ci := 7) rfl rfl 0 rfl rfl hl.1 (rest := []) rfl (Nat.le_of_ble_eq_true rfl) dX7_judge_10 ⟨Nat.le_of_ble_eq_true rfl, Nat.le_of_ble_eq_true rfl⟩ (fun v hv => ?_)
      subst hv
      refine ka_stk (w := [.int 0]) rfl ?_
      refine lv_if_ne (tgt := 19) hx hb dX7_judge_13 (by decide) (fun c_ => absurd (by decide) c_) (fun _ => ?_)
      refine lv_bipush (v := (-2)) hx hb dX7_judge_16 (by decide) ?_
      exact ka_rEi C hr hlk (Nat.le_of_ble_eq_true rfl) (Nat.le_of_ble_eq_true rfl) hS (ka_qE (x1, x9, x10, x11, x12, x13, x14, f1, f2, f3, f4, f5, f6, f7, (-2)) rfl ⟨(show 0 ≤ x1.toInt ∧ x1.toInt ≤ 80 from ⟨by omega, by omega⟩), (show 0 ≤ x9.toInt ∧ x9.toInt ≤ 60 from ⟨by omega, by omega⟩), (show 0 ≤ x10.toInt ∧ x10.toInt ≤ 60 from ⟨by omega, by omega⟩), (show 0 ≤ x11.toInt ∧ x11.toInt ≤ 60 from ⟨by omega, by omega⟩), (show 0 ≤ x12.toInt ∧ x12.toInt ≤ 8 from ⟨by omega, by omega⟩), (show 0 ≤ x14.toInt ∧ x14.toInt ≤ 1 from ⟨by omega, by omega⟩), hf2, hf3⟩ hK hP hD hS [0, 1, 2, 3, 4, 5, 6, 7, 8] (by decide) rfl [] rfl) dX7_judge_18
