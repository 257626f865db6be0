set_option maxHeartbeats 4000000 in
set_option maxRecDepth 100000 in
theorem ck_X7_blanks_407 (l : Launch) (D : va_G) (F : Nat → Prop) (a0 : Nat) (a1 : Nat) (x0 : Int32) (a2 : Nat) (a3 : Nat) (a4 : Nat) (a5 : Nat) (a6 : Nat) (a7 : Nat) (a8 : Nat) (x1 : Int32) (x2 : Int32) (x3 : Int32) (x4 : Int32) (x5 : Int32) (x6 : Int32) (x7 : Int32) (a9 : Nat) (a10 : Nat) (a11 : Nat) (a12 : Nat) (a13 : Nat) (a14 : Nat) (x8 : Int32) (x9 : Int32) (x10 : Int32) (x11 : Int32) (x12 : Int32) (x13 : Int32) (k0 : ClassId) (f0 : Nat → Int32) (hx0 : 0 ≤ x0.toInt ∧ x0.toInt ≤ 80) (hx1 : -1 ≤ x1.toInt ∧ x1.toInt ≤ 5) (hx4 : 1 ≤ x4.toInt ∧ x4.toInt ≤ 8) (hx5 : 0 ≤ x5.toInt ∧ x5.toInt ≤ 40) (hx7 : 0 ≤ x7.toInt ∧ x7.toInt ≤ 10) (hx8 : 0 ≤ x8.toInt ∧ x8.toInt ≤ 60) (hx9 : 0 ≤ x9.toInt ∧ x9.toInt ≤ 60) (hx10 : 0 ≤ x10.toInt ∧ x10.toInt ≤ 60) (hx11 : 0 ≤ x11.toInt ∧ x11.toInt ≤ 8) (hx13 : 0 ≤ x13.toInt ∧ x13.toInt ≤ 1) (hf0 : sb_Fit f0) (hpre : 0 ≤ x9.toInt ∧ x9.toInt ≤ x10.toInt ∧ x10.toInt ≤ 60) : ka_E l D F yX7_blanks wsX7_blanks 0 0 0 0 [.ref a0] [(a0, .inr (7, [.ref a1, .int x0, .ref a2, .ref a3, .ref a4, .ref a5, .ref a6, .ref a7, .ref a8, .int x1, .int x2, .int x3, .int x4, .int x5, .int x6, .int x7, .ref a9, .ref a10, .ref a11, .ref a12, .ref a13, .ref a14, .int x8, .int x9, .int x10, .int x11, .int x12, .int x13])), (a1, .inl (k0, 80, .inl f0))] [(k0, .byte)] (fun (u : (Int32)) => none) (fun (u : (Int32)) => (0 ≤ u.toInt ∧ u.toInt ≤ 60) ∧ (x9.toInt ≤ u.toInt ∧ u.toInt ≤ x10.toInt)) (fun (u : (Int32)) => [(a0, .inr (7, [.ref a1, .int x0, .ref a2, .ref a3, .ref a4, .ref a5, .ref a6, .ref a7, .ref a8, .int x1, .int x2, .int x3, .int x4, .int x5, .int x6, .int x7, .ref a9, .ref a10, .ref a11, .ref a12, .ref a13, .ref a14, .int x8, .int u, .int x10, .int x11, .int x12, .int x13])), (a1, .inl (k0, 80, .inl f0))]) (fun (u : (Int32)) => []) := by
  refine ka_E_of (cc := cX7_blanks) (maxL := 1) (ret := none) (by decide) rfl (Nat.le_of_ble_eq_true rfl) ?_
  intro p e s m below meth c ls A C hr hlk hin hP hK hD hS hA hE hN hl
  have C : CallFix p m c cX7_blanks 1 s [.ref a0].toArray wsX7_blanks RX7 := C
  obtain ⟨hx, hb, hml, hown, hts⟩ := id C
  have hl : lv_has ls 1 [(0, .ref a0)] := hl
  have rx0 := ka_rng x0
  have rx1 := ka_rng x1
  have rx2 := ka_rng x2
  have rx3 := ka_rng x3
  have rx4 := ka_rng x4
  have rx5 := ka_rng x5
  have rx6 := ka_rng x6
  have rx7 := ka_rng x7
  have rx8 := ka_rng x8
  have rx9 := ka_rng x9
  have rx10 := ka_rng x10
  have rx11 := ka_rng x11
  have rx12 := ka_rng x12
  have rx13 := ka_rng x13
  have lp_32445 : ∀ (n : Nat) (y32445_0_23 : Int32), (0 ≤ y32445_0_23.toInt ∧ y32445_0_23.toInt ≤ 60) → (x9.toInt ≤ y32445_0_23.toInt ∧ y32445_0_23.toInt ≤ x10.toInt) → (x10.toInt - y32445_0_23.toInt).toNat < n → ∀ (H : Heap) (locs : List Loc), va_P D vwCl [(a0, .inr (7, [.ref a1, .int x0, .ref a2, .ref a3, .ref a4, .ref a5, .ref a6, .ref a7, .ref a8, .int x1, .int x2, .int x3, .int x4, .int x5, .int x6, .int x7, .ref a9, .ref a10, .ref a11, .ref a12, .ref a13, .ref a14, .int x8, .int y32445_0_23, .int x10, .int x11, .int x12, .int x13])), (a1, .inl (k0, 80, .inl f0))] H → va_D A [(a0, .inr (7, [.ref a1, .int x0, .ref a2, .ref a3, .ref a4, .ref a5, .ref a6, .ref a7, .ref a8, .int x1, .int x2, .int x3, .int x4, .int x5, .int x6, .int x7, .ref a9, .ref a10, .ref a11, .ref a12, .ref a13, .ref a14, .int x8, .int y32445_0_23, .int x10, .int x11, .int x12, .int x13])), (a1, .inl (k0, 80, .inl f0))] → va_S A s.heap H locs → ∀ (ls : Array Slot), lv_has ls 1 [(0, .ref a0)] → W p l e ({ frames := 0, cells := 0, slots := 0, locals := 0 }) s m [.ref a0].toArray below meth c H locs 0 0 (MQ below (ka_QE D A (fun (u : (Int32)) => none) (fun (u : (Int32)) => (0 ≤ u.toInt ∧ u.toInt ≤ 60) ∧ (x9.toInt ≤ u.toInt ∧ u.toInt ≤ x10.toInt)) (fun (u : (Int32)) => [(a0, .inr (7, [.ref a1, .int x0, .ref a2, .ref a3, .ref a4, .ref a5, .ref a6, .ref a7, .ref a8, .int x1, .int x2, .int x3, .int x4, .int x5, .int x6, .int x7, .ref a9, .ref a10, .ref a11, .ref a12, .ref a13, .ref a14, .int x8, .int u, .int x10, .int x11, .int x12, .int x13])), (a1, .inl (k0, 80, .inl f0))]) (fun (u : (Int32)) => [])) [.ref a0].toArray s 0 0 A) (F0 m 0 ls []) := by
    intro n
    induction n with
    | zero =>
      intro y32445_0_23 hy32445_0_23 hx32445 hm
      exact absurd hm (Nat.not_lt_zero _)
    | succ n ih_32445 =>
      intro y32445_0_23 hy32445_0_23 hx32445 hm H locs hP hD hS ls hl
      have ry32445_0_23 := ka_rng y32445_0_23
      refine lv_aload_n hx hb dX7_blanks_0 rfl (lv_at hl 0 rfl) ?_
      refine ka_get C lq_274 rfl hK hP 0 rfl 23 (by decide) lq_275 rfl dX7_blanks_1 ?_
      refine lv_aload_n hx hb dX7_blanks_4 rfl (lv_at hl 0 rfl) ?_
      refine ka_get C lq_274 rfl hK hP 0 rfl 24 (by decide) lq_276 rfl dX7_blanks_5 ?_
      refine lv_icmp_ge (tgt := 52) hx hb dX7_blanks_8 (by decide) (fun c_32453 => ?_) (fun c_32453 => ?_)
      · have c_32453 : x10.toInt ≤ y32445_0_23.toInt := by rw [ka_le'] at c_32453; exact c_32453
        exact ka_rEv C hr hlk (Nat.le_of_ble_eq_true rfl) (Nat.le_of_ble_eq_true rfl) hS (ka_qE y32445_0_23 rfl ⟨(show 0 ≤ y32445_0_23.toInt ∧ y32445_0_23.toInt ≤ 60 from ⟨by omega, by omega⟩), (show x9.toInt ≤ y32445_0_23.toInt ∧ y32445_0_23.toInt ≤ x10.toInt from by omega)⟩ hK hP hD hS [0, 1] (by decide) rfl [] rfl) dX7_blanks_52
      · have c_32453 : ¬ x10.toInt ≤ y32445_0_23.toInt := by rw [ka_le'] at c_32453; exact c_32453
        refine lv_aload_n hx hb dX7_blanks_11 rfl (lv_at hl 0 rfl) ?_
        refine ka_get C lq_274 rfl hK hP 0 rfl 0 (by decide) lq_277 rfl dX7_blanks_12 ?_
        refine lv_aload_n hx hb dX7_blanks_15 rfl (lv_at hl 0 rfl) ?_
        refine ka_get C lq_274 rfl hK hP 0 rfl 23 (by decide) lq_275 rfl dX7_blanks_16 ?_
        refine va_bald hx hb hK hP 1 0 rfl rfl (ka_in (by omega) (by omega)) dX7_blanks_19 ?_
        refine lv_topi (fun v_32454 ev_32454 => ?_)
        refine lv_bipush (v := 32) hx hb dX7_blanks_20 (by decide) ?_
        refine lv_icmp_eq (tgt := 39) hx hb dX7_blanks_22 (by decide) (fun c_32455 => ?_) (fun c_32455 => ?_)
        · have c_32455 : v_32454.toInt = 32 := by rw [ka_eq', show ((32 : Int32)).toInt = 32 from by decide] at c_32455; exact c_32455
          refine lv_aload_n hx hb dX7_blanks_39 rfl (lv_at hl 0 rfl) ?_
          refine lv_dup hx hb dX7_blanks_40 rfl ?_
          refine ka_get C lq_274 rfl hK hP 0 rfl 23 (by decide) lq_275 rfl dX7_blanks_41 ?_
          refine lv_iconst (v := 1) hx hb dX7_blanks_44 (by decide) ?_
          refine lv_iadd hx hb dX7_blanks_45 ?_
          refine lv_topi (fun v_32456 ev_32456 => ?_)
          have fv_32456 : v_32456.toInt = y32445_0_23.toInt + 1 := by rw [ev_32456]; exact ka_add (x := y32445_0_23.toInt) (y := 1) rfl (by decide) (by omega) (by omega)
          refine ka_put C lq_274 tyX7 tyX7_ok nmX7 rfl hK hP hD hS 0 rfl 23 (by decide) lq_275 rfl rfl rfl (Nat.le_of_ble_eq_true rfl) dX7_blanks_46 (fun H locs hP hD hS => ?_)
          have hP : va_P D vwCl [(a0, .inr (7, [.ref a1, .int x0, .ref a2, .ref a3, .ref a4, .ref a5, .ref a6, .ref a7, .ref a8, .int x1, .int x2, .int x3, .int x4, .int x5, .int x6, .int x7, .ref a9, .ref a10, .ref a11, .ref a12, .ref a13, .ref a14, .int x8, .int v_32456, .int x10, .int x11, .int x12, .int x13])), (a1, .inl (k0, 80, .inl f0))] H := hP
          have hD : va_D A [(a0, .inr (7, [.ref a1, .int x0, .ref a2, .ref a3, .ref a4, .ref a5, .ref a6, .ref a7, .ref a8, .int x1, .int x2, .int x3, .int x4, .int x5, .int x6, .int x7, .ref a9, .ref a10, .ref a11, .ref a12, .ref a13, .ref a14, .int x8, .int v_32456, .int x10, .int x11, .int x12, .int x13])), (a1, .inl (k0, 80, .inl f0))] := hD
          refine lv_goto (tgt := 0) hx hb dX7_blanks_49 (by decide) ?_
          exact ih_32445 v_32456 ⟨by omega, by omega⟩ (by omega) (by omega) H locs (hP.sub [0, 1] rfl) (hD.sub [0, 1] (by decide) rfl) hS ls (lv_sub hl [0] rfl)
        · have c_32455 : ¬ v_32454.toInt = 32 := by rw [ka_eq', show ((32 : Int32)).toInt = 32 from by decide] at c_32455; exact c_32455
          refine lv_aload_n hx hb dX7_blanks_25 rfl (lv_at hl 0 rfl) ?_
          refine ka_get C lq_274 rfl hK hP 0 rfl 0 (by decide) lq_277 rfl dX7_blanks_26 ?_
          refine lv_aload_n hx hb dX7_blanks_29 rfl (lv_at hl 0 rfl) ?_
          refine ka_get C lq_274 rfl hK hP 0 rfl 23 (by decide) lq_275 rfl dX7_blanks_30 ?_
          refine va_bald hx hb hK hP 1 0 rfl rfl (ka_in (by omega) (by omega)) dX7_blanks_33 ?_
          refine lv_topi (fun v_32457 ev_32457 => ?_)
          refine lv_bipush (v := 10) hx hb dX7_blanks_34 (by decide) ?_
          refine lv_icmp_ne (tgt := 52) hx hb dX7_blanks_36 (by decide) (fun c_32458 => ?_) (fun c_32458 => ?_)
          · have c_32458 : ¬ v_32457.toInt = 10 := by rw [ka_eq', show ((10 : Int32)).toInt = 10 from by decide] at c_32458; exact c_32458
            exact ka_rEv C hr hlk (Nat.le_of_ble_eq_true rfl) (Nat.le_of_ble_eq_true rfl) hS (ka_qE y32445_0_23 rfl ⟨(show 0 ≤ y32445_0_23.toInt ∧ y32445_0_23.toInt ≤ 60 from ⟨by omega, by omega⟩), (show x9.toInt ≤ y32445_0_23.toInt ∧ y32445_0_23.toInt ≤ x10.toInt from by omega)⟩ hK hP hD hS [0, 1] (by decide) rfl [] rfl) dX7_blanks_52
          · have c_32458 : v_32457.toInt = 10 := by rw [ka_eq', show ((10 : Int32)).toInt = 10 from by decide] at c_32458; exact c_32458
            refine lv_aload_n hx hb dX7_blanks_39 rfl (lv_at hl 0 rfl) ?_
            refine lv_dup hx hb dX7_blanks_40 rfl ?_
            refine ka_get C lq_274 rfl hK hP 0 rfl 23 (by decide) lq_275 rfl dX7_blanks_41 ?_
            refine lv_iconst (v := 1) hx hb dX7_blanks_44 (by decide) ?_
            refine lv_iadd hx hb dX7_blanks_45 ?_
            refine lv_topi (fun v_32459 ev_32459 => ?_)
            have fv_32459 : v_32459.toInt = y32445_0_23.toInt + 1 := by rw [ev_32459]; exact ka_add (x := y32445_0_23.toInt) (y := 1) rfl (by decide) (by omega) (by omega)
            refine ka_put C lq_274 tyX7 tyX7_ok nmX7 rfl hK hP hD hS 0 rfl 23 (by decide) lq_275 rfl rfl rfl (Nat.le_of_ble_eq_true rfl) dX7_blanks_46 (fun H locs hP hD hS => ?_)
            have hP : va_P D vwCl [(a0, .inr (7, [.ref a1, .int x0, .ref a2, .ref a3, .ref a4, .ref a5, .ref a6, .ref a7, .ref a8, .int x1, .int x2, .int x3, .int x4, .int x5, .int x6, .int x7, .ref a9, .ref a10, .ref a11, .ref a12, .ref a13, .ref a14, .int x8, .int v_32459, .int x10, .int x11, .int x12, .int x13])), (a1, .inl (k0, 80, .inl f0))] H := hP
            have hD : va_D A [(a0, .inr (7, [.ref a1, .int x0, .ref a2, .ref a3, .ref a4, .ref a5, .ref a6, .ref a7, .ref a8, .int x1, .int x2, .int x3, .int x4, .int x5, .int x6, .int x7, .ref a9, .ref a10, .ref a11, .ref a12, .ref a13, .ref a14, .int x8, .int v_32459, .int x10, .int x11, .int x12, .int x13])), (a1, .inl (k0, 80, .inl f0))] := hD
            refine lv_goto (tgt := 0) hx hb dX7_blanks_49 (by decide) ?_
            exact ih_32445 v_32459 ⟨by omega, by omega⟩ (by omega) (by omega) H locs (hP.sub [0, 1] rfl) (hD.sub [0, 1] (by decide) rfl) hS ls (lv_sub hl [0] rfl)
  exact lp_32445 _ x9 ⟨by omega, by omega⟩ (by omega) (Nat.lt_succ_self _) _ _ hP hD hS ls (lv_sub hl [0] rfl)
theorem lq_417 : ∀ w ∈ wsX70, w ∈ wsX7_is := by decide +kernel
theorem lq_418 : Cond.fieldLink RX7 81 "AskedBackModel" "at" "I" ∈ wsX7_is := by decide +kernel
theorem lq_419 : Cond.fieldLink RX7 84 "AskedBackModel" "end" "I" ∈ wsX7_is := by decide +kernel
theorem lq_420 : Cond.fieldLink RX7 7 "AskedBackModel" "tape" "[B" ∈ wsX7_is := by decide +kernel
set_option maxHeartbeats 4000000 in
set_option maxRecDepth 100000 in
theorem ck_X7_is_408 (l : Launch) (D : va_G) (F : Nat → Prop) (a0 : Nat) (a1 : Nat) (x0 : Int32) (a2 : Nat) (a3 : Nat) (a4 : Nat) (a5 : Nat) (a6 : Nat) (a7 : Nat) (a8 : Nat) (x1 : Int32) (x2 : Int32) (x3 : Int32) (x4 : Int32) (x5 : Int32) (x6 : Int32) (x7 : Int32) (a9 : Nat) (a10 : Nat) (a11 : Nat) (a12 : Nat) (a13 : Nat) (a14 : Nat) (x8 : Int32) (x9 : Int32) (x10 : Int32) (x11 : Int32) (x12 : Int32) (x13 : Int32) (k0 : ClassId) (f0 : Nat → Int32) (hx0 : 0 ≤ x0.toInt ∧ x0.toInt ≤ 80) (hx1 : -1 ≤ x1.toInt ∧ x1.toInt ≤ 5) (hx4 : 1 ≤ x4.toInt ∧ x4.toInt ≤ 8) (hx5 : 0 ≤ x5.toInt ∧ x5.toInt ≤ 40) (hx7 : 0 ≤ x7.toInt ∧ x7.toInt ≤ 10) (hx8 : 0 ≤ x8.toInt ∧ x8.toInt ≤ 60) (hx9 : 0 ≤ x9.toInt ∧ x9.toInt ≤ 60) (hx10 : 0 ≤ x10.toInt ∧ x10.toInt ≤ 60) (hx11 : 0 ≤ x11.toInt ∧ x11.toInt ≤ 8) (hx13 : 0 ≤ x13.toInt ∧ x13.toInt ≤ 1) (hf0 : sb_Fit f0) (hpre : 0 ≤ x9.toInt ∧ x9.toInt ≤ x10.toInt ∧ x10.toInt ≤ 60) : ka_E l D F yX7_is wsX7_is 1 20 0 0 [.ref a0, .int 124] [(a0, .inr (7, [.ref a1, .int x0, .ref a2, .ref a3, .ref a4, .ref a5, .ref a6, .ref a7, .ref a8, .int x1, .int x2, .int x3, .int x4, .int x5, .int x6, .int x7, .ref a9, .ref a10, .ref a11, .ref a12, .ref a13, .ref a14, .int x8, .int x9, .int x10, .int x11, .int x12, .int x13])), (a1, .inl (k0, 80, .inl f0))] [(k0, .byte)] (fun (u : (Int32) × (Int32)) => some (.int (u.2))) (fun (u : (Int32) × (Int32)) => (0 ≤ (u.1).toInt ∧ (u.1).toInt ≤ 60) ∧ (0 ≤ (u.2).toInt ∧ (u.2).toInt ≤ 1) ∧ (x9.toInt ≤ (u.1).toInt ∧ (u.1).toInt ≤ x10.toInt ∧ ((u.2).toInt = 0 ∨ (u.1).toInt < x10.toInt))) (fun (u : (Int32) × (Int32)) => [(a0, .inr (7, [.ref a1, .int x0, .ref a2, .ref a3, .ref a4, .ref a5, .ref a6, .ref a7, .ref a8, .int x1, .int x2, .int x3, .int x4, .int x5, .int x6, .int x7, .ref a9, .ref a10, .ref a11, .ref a12, .ref a13, .ref a14, .int x8, .int (u.1), .int x10, .int x11, .int x12, .int x13])), (a1, .inl (k0, 80, .inl f0))]) (fun (u : (Int32) × (Int32)) => []) := by
  refine ka_E_of (cc := cX7_is) (maxL := 2) (ret := (some .boolean)) (by decide) rfl (Nat.le_of_ble_eq_true rfl) ?_
  intro p e s m below meth c ls A C hr hlk hin hP hK hD hS hA hE hN hl
  have C : CallFix p m c cX7_is 2 s [.ref a0, .int 124].toArray wsX7_is RX7 := C
  obtain ⟨hx, hb, hml, hown, hts⟩ := id C
  have hl : lv_has ls 2 [(0, .ref a0), (1, .int 124)] := hl
  have rx0 := ka_rng x0
  have rx1 := ka_rng x1
  have rx2 := ka_rng x2
  have rx3 := ka_rng x3
  have rx4 := ka_rng x4
  have rx5 := ka_rng x5
  have rx6 := ka_rng x6
  have rx7 := ka_rng x7
  have rx8 := ka_rng x8
  have rx9 := ka_rng x9
  have rx10 := ka_rng x10
  have rx11 := ka_rng x11
  have rx12 := ka_rng x12
  have rx13 := ka_rng x13
  refine lv_aload_n hx hb dX7_is_0 rfl (lv_at hl 0 rfl) ?_
  refine ka_EV (n := 0) (wr := []) C (ck_X7_blanks_407 l D F a0 a1 x0 a2 a3 a4 a5 a6 a7 a8 x1 x2 x3 x4 x5 x6 x7 a9 a10 a11 a12 a13 a14 x8 x9 x10 x11 x12 x13 k0 f0 ⟨by omega, by omega⟩ ⟨by omega, by omega⟩ ⟨by omega, by omega⟩ ⟨by omega, by omega⟩ ⟨by omega, by omega⟩ ⟨by omega, by omega⟩ ⟨by omega, by omega⟩ ⟨by omega, by omega⟩ ⟨by omega, by omega⟩ ⟨by omega, by omega⟩ hf0 (by omega)) gX7_is_X7_blanks rfl (by decide +kernel) ⟨Nat.le_of_ble_eq_true rfl, Nat.le_of_ble_eq_true rfl⟩ hK hP hD hS hA hE hN [0, 1] rfl (by decide) [] rfl (by decide) (by decide) [0] rfl (ci := 7) rfl rfl 0 rfl rfl hl.1 (rest := []) rfl (Nat.le_of_ble_eq_true rfl) dX7_is_1 ⟨Nat.le_of_ble_eq_true rfl, Nat.le_of_ble_eq_true rfl⟩ (fun u H locs hq hP hD hK hS => ?_)
  obtain ⟨v_32468, rfl⟩ : ∃ z, z = u := ⟨_, rfl⟩
  have hq : (0 ≤ v_32468.toInt ∧ v_32468.toInt ≤ 60) ∧ (x9.toInt ≤ v_32468.toInt ∧ v_32468.toInt ≤ x10.toInt) := hq
  obtain ⟨hv_32468, hzz_32469⟩ := hq
  have rv_32468 := ka_rng v_32468
  have hP : va_P D vwCl [(a0, .inr (7, [.ref a1, .int x0, .ref a2, .ref a3, .ref a4, .ref a5, .ref a6, .ref a7, .ref a8, .int x1, .int x2, .int x3, .int x4, .int x5, .int x6, .int x7, .ref a9, .ref a10, .ref a11, .ref a12, .ref a13, .ref a14, .int x8, .int v_32468, .int x10, .int x11, .int x12, .int x13])), (a1, .inl (k0, 80, .inl f0))] H := hP
  have hD : va_D A [(a0, .inr (7, [.ref a1, .int x0, .ref a2, .ref a3, .ref a4, .ref a5, .ref a6, .ref a7, .ref a8, .int x1, .int x2, .int x3, .int x4, .int x5, .int x6, .int x7, .ref a9, .ref a10, .ref a11, .ref a12, .ref a13, .ref a14, .int x8, .int v_32468, .int x10, .int x11, .int x12, .int x13])), (a1, .inl (k0, 80, .inl f0))] := hD
  have hK : va_K D vwCl [(k0, .byte)] s := by simpa using hK
  refine ka_stk (w := []) rfl ?_
  refine lv_aload_n hx hb dX7_is_4 rfl (lv_at hl 0 rfl) ?_
  refine ka_get C lq_417 rfl hK hP 0 rfl 23 (by decide) lq_418 rfl dX7_is_5 ?_
  refine lv_aload_n hx hb dX7_is_8 rfl (lv_at hl 0 rfl) ?_
  refine ka_get C lq_417 rfl hK hP 0 rfl 24 (by decide) lq_419 rfl dX7_is_9 ?_
  refine lv_icmp_ge (tgt := 32) hx hb dX7_is_12 (by decide) (fun c_32470 => ?_) (fun c_32470 => ?_)
  · have c_32470 : x10.toInt ≤ v_32468.toInt := by rw [ka_le'] at c_32470; exact c_32470
    refine lv_iconst (v := 0) hx hb dX7_is_32 (by decide) ?_
    exact ka_rEz C hr hlk rfl (Nat.le_of_ble_eq_true rfl) (Nat.le_of_ble_eq_true rfl) hS (ka_qE (v_32468, 0) rfl ⟨(show 0 ≤ v_32468.toInt ∧ v_32468.toInt ≤ 60 from ⟨by omega, by omega⟩), (show 0 ≤ ((0 : Int32)).toInt ∧ ((0 : Int32)).toInt ≤ 1 from ⟨by decide, by decide⟩), (show x9.toInt ≤ v_32468.toInt ∧ v_32468.toInt ≤ x10.toInt ∧ (0 = 0 ∨ v_32468.toInt < x10.toInt) from by omega)⟩ hK hP hD hS [0, 1] (by decide) rfl [] rfl) dX7_is_33
  · have c_32470 : ¬ x10.toInt ≤ v_32468.toInt := by rw [ka_le'] at c_32470; exact c_32470
    refine lv_aload_n hx hb dX7_is_15 rfl (lv_at hl 0 rfl) ?_
    refine ka_get C lq_417 rfl hK hP 0 rfl 0 (by decide) lq_420 rfl dX7_is_16 ?_
    refine lv_aload_n hx hb dX7_is_19 rfl (lv_at hl 0 rfl) ?_
    refine ka_get C lq_417 rfl hK hP 0 rfl 23 (by decide) lq_418 rfl dX7_is_20 ?_
    refine va_bald hx hb hK hP 1 0 rfl rfl (ka_in (by omega) (by omega)) dX7_is_23 ?_
    refine lv_topi (fun v_32471 ev_32471 => ?_)
    refine lv_iload_n hx hb dX7_is_24 rfl (lv_at hl 1 rfl) ?_
    refine lv_icmp_ne (tgt := 32) hx hb dX7_is_25 (by decide) (fun c_32472 => ?_) (fun c_32472 => ?_)
    · have c_32472 : ¬ v_32471.toInt = 124 := by rw [ka_eq', show ((124 : Int32)).toInt = 124 from by decide] at c_32472; exact c_32472
      refine lv_iconst (v := 0) hx hb dX7_is_32 (by decide) ?_
      exact ka_rEz C hr hlk rfl (Nat.le_of_ble_eq_true rfl) (Nat.le_of_ble_eq_true rfl) hS (ka_qE (v_32468, 0) rfl ⟨(show 0 ≤ v_32468.toInt ∧ v_32468.toInt ≤ 60 from ⟨by omega, by omega⟩), (show 0 ≤ ((0 : Int32)).toInt ∧ ((0 : Int32)).toInt ≤ 1 from ⟨by decide, by decide⟩), (show x9.toInt ≤ v_32468.toInt ∧ v_32468.toInt ≤ x10.toInt ∧ (0 = 0 ∨ v_32468.toInt < x10.toInt) from by omega)⟩ hK hP hD hS [0, 1] (by decide) rfl [] rfl) dX7_is_33
    · have c_32472 : v_32471.toInt = 124 := by rw [ka_eq', show ((124 : Int32)).toInt = 124 from by decide] at c_32472; exact c_32472
      refine lv_iconst (v := 1) hx hb dX7_is_28 (by decide) ?_
      refine lv_goto (tgt := 33) hx hb dX7_is_29 (by decide) ?_
      exact ka_rEz C hr hlk rfl (Nat.le_of_ble_eq_true rfl) (Nat.le_of_ble_eq_true rfl) hS (ka_qE (v_32468, 1) rfl ⟨(show 0 ≤ v_32468.toInt ∧ v_32468.toInt ≤ 60 from ⟨by omega, by omega⟩), (show 0 ≤ ((1 : Int32)).toInt ∧ ((1 : Int32)).toInt ≤ 1 from ⟨by decide, by decide⟩), (show x9.toInt ≤ v_32468.toInt ∧ v_32468.toInt ≤ x10.toInt ∧ (1 = 0 ∨ v_32468.toInt < x10.toInt) from by omega)⟩ hK hP hD hS [0, 1] (by decide) rfl [] rfl) dX7_is_33
set_option maxHeartbeats 4000000 in
set_option maxRecDepth 100000 in
theorem ck_X7_is_409 (l : Launch) (D : va_G) (F : Nat → Prop) (a0 : Nat) (a1 : Nat) (x0 : Int32) (a2 : Nat) (a3 : Nat) (a4 : Nat) (a5 : Nat) (a6 : Nat) (a7 : Nat) (a8 : Nat) (x1 : Int32) (x2 : Int32) (x3 : Int32) (x4 : Int32) (x5 : Int32) (x6 : Int32) (x7 : Int32) (a9 : Nat) (a10 : Nat) (a11 : Nat) (a12 : Nat) (a13 : Nat) (a14 : Nat) (x8 : Int32) (x9 : Int32) (x10 : Int32) (x11 : Int32) (x12 : Int32) (x13 : Int32) (k0 : ClassId) (f0 : Nat → Int32) (hx0 : 0 ≤ x0.toInt ∧ x0.toInt ≤ 80) (hx1 : -1 ≤ x1.toInt ∧ x1.toInt ≤ 5) (hx4 : 1 ≤ x4.toInt ∧ x4.toInt ≤ 8) (hx5 : 0 ≤ x5.toInt ∧ x5.toInt ≤ 40) (hx7 : 0 ≤ x7.toInt ∧ x7.toInt ≤ 10) (hx8 : 0 ≤ x8.toInt ∧ x8.toInt ≤ 60) (hx9 : 0 ≤ x9.toInt ∧ x9.toInt ≤ 60) (hx10 : 0 ≤ x10.toInt ∧ x10.toInt ≤ 60) (hx11 : 0 ≤ x11.toInt ∧ x11.toInt ≤ 8) (hx13 : 0 ≤ x13.toInt ∧ x13.toInt ≤ 1) (hf0 : sb_Fit f0) (hpre : 0 ≤ x9.toInt ∧ x9.toInt ≤ x10.toInt ∧ x10.toInt ≤ 60) : ka_E l D F yX7_is wsX7_is 1 20 0 0 [.ref a0, .int 94] [(a0, .inr (7, [.ref a1, .int x0, .ref a2, .ref a3, .ref a4, .ref a5, .ref a6, .ref a7, .ref a8, .int x1, .int x2, .int x3, .int x4, .int x5, .int x6, .int x7, .ref a9, .ref a10, .ref a11, .ref a12, .ref a13, .ref a14, .int x8, .int x9, .int x10, .int x11, .int x12, .int x13])), (a1, .inl (k0, 80, .inl f0))] [(k0, .byte)] (fun (u : (Int32) × (Int32)) => some (.int (u.2))) (fun (u : (Int32) × (Int32)) => (0 ≤ (u.1).toInt ∧ (u.1).toInt ≤ 60) ∧ (0 ≤ (u.2).toInt ∧ (u.2).toInt ≤ 1) ∧ (x9.toInt ≤ (u.1).toInt ∧ (u.1).toInt ≤ x10.toInt ∧ ((u.2).toInt = 0 ∨ (u.1).toInt < x10.toInt))) (fun (u : (Int32) × (Int32)) => [(a0, .inr (7, [.ref a1, .int x0, .ref a2, .ref a3, .ref a4, .ref a5, .ref a6, .ref a7, .ref a8, .int x1, .int x2, .int x3, .int x4, .int x5, .int x6, .int x7, .ref a9, .ref a10, .ref a11, .ref a12, .ref a13, .ref a14, .int x8, .int (u.1), .int x10, .int x11, .int x12, .int x13])), (a1, .inl (k0, 80, .inl f0))]) (fun (u : (Int32) × (Int32)) => []) := by
  refine ka_E_of (cc := cX7_is) (maxL := 2) (ret := (some .boolean)) (by decide) rfl (Nat.le_of_ble_eq_true rfl) ?_
  intro p e s m below meth c ls A C hr hlk hin hP hK hD hS hA hE hN hl
  have C : CallFix p m c cX7_is 2 s [.ref a0, .int 94].toArray wsX7_is RX7 := C
  obtain ⟨hx, hb, hml, hown, hts⟩ := id C
  have hl : lv_has ls 2 [(0, .ref a0), (1, .int 94)] := hl
  have rx0 := ka_rng x0
  have rx1 := ka_rng x1
  have rx2 := ka_rng x2
  have rx3 := ka_rng x3
  have rx4 := ka_rng x4
  have rx5 := ka_rng x5
  have rx6 := ka_rng x6
  have rx7 := ka_rng x7
  have rx8 := ka_rng x8
  have rx9 := ka_rng x9
  have rx10 := ka_rng x10
  have rx11 := ka_rng x11
  have rx12 := ka_rng x12
  have rx13 := ka_rng x13
  refine lv_aload_n hx hb dX7_is_0 rfl (lv_at hl 0 rfl) ?_
  refine ka_EV (n := 0) (wr := []) C (ck_X7_blanks_407 l D F a0 a1 x0 a2 a3 a4 a5 a6 a7 a8 x1 x2 x3 x4 x5 x6 x7 a9 a10 a11 a12 a13 a14 x8 x9 x10 x11 x12 x13 k0 f0 ⟨by omega, by omega⟩ ⟨by omega, by omega⟩ ⟨by omega, by omega⟩ ⟨by omega, by omega⟩ ⟨by omega, by omega⟩ ⟨by omega, by omega⟩ ⟨by omega, by omega⟩ ⟨by omega, by omega⟩ ⟨by omega, by omega⟩ ⟨by omega, by omega⟩ hf0 (by omega)) gX7_is_X7_blanks rfl (by decide +kernel) ⟨Nat.le_of_ble_eq_true rfl, Nat.le_of_ble_eq_true rfl⟩ hK hP hD hS hA hE hN [0, 1] rfl (by decide) [] rfl (by decide) (by decide) [0] rfl (ci := 7) rfl rfl 0 rfl rfl hl.1 (rest := []) rfl (Nat.le_of_ble_eq_true rfl) dX7_is_1 ⟨Nat.le_of_ble_eq_true rfl, Nat.le_of_ble_eq_true rfl⟩ (fun u H locs hq hP hD hK hS => ?_)
  obtain ⟨v_32509, rfl⟩ : ∃ z, z = u := ⟨_, rfl⟩
  have hq : (0 ≤ v_32509.toInt ∧ v_32509.toInt ≤ 60) ∧ (x9.toInt ≤ v_32509.toInt ∧ v_32509.toInt ≤ x10.toInt) := hq
  obtain ⟨hv_32509, hzz_32510⟩ := hq
  have rv_32509 := ka_rng v_32509
  have hP : va_P D vwCl [(a0, .inr (7, [.ref a1, .int x0, .ref a2, .ref a3, .ref a4, .ref a5, .ref a6, .ref a7, .ref a8, .int x1, .int x2, .int x3, .int x4, .int x5, .int x6, .int x7, .ref a9, .ref a10, .ref a11, .ref a12, .ref a13, .ref a14, .int x8, .int v_32509, .int x10, .int x11, .int x12, .int x13])), (a1, .inl (k0, 80, .inl f0))] H := hP
  have hD : va_D A [(a0, .inr (7, [.ref a1, .int x0, .ref a2, .ref a3, .ref a4, .ref a5, .ref a6, .ref a7, .ref a8, .int x1, .int x2, .int x3, .int x4, .int x5, .int x6, .int x7, .ref a9, .ref a10, .ref a11, .ref a12, .ref a13, .ref a14, .int x8, .int v_32509, .int x10, .int x11, .int x12, .int x13])), (a1, .inl (k0, 80, .inl f0))] := hD
  have hK : va_K D vwCl [(k0, .byte)] s := by simpa using hK
  refine ka_stk (w := []) rfl ?_
  refine lv_aload_n hx hb dX7_is_4 rfl (lv_at hl 0 rfl) ?_
  refine ka_get C lq_417 rfl hK hP 0 rfl 23 (by decide) lq_418 rfl dX7_is_5 ?_
  refine lv_aload_n hx hb dX7_is_8 rfl (lv_at hl 0 rfl) ?_
  refine ka_get C lq_417 rfl hK hP 0 rfl 24 (by decide) lq_419 rfl dX7_is_9 ?_
  refine lv_icmp_ge (tgt := 32) hx hb dX7_is_12 (by decide) (fun c_32511 => ?_) (fun c_32511 => ?_)
  · have c_32511 : x10.toInt ≤ v_32509.toInt := by rw [ka_le'] at c_32511; exact c_32511
    refine lv_iconst (v := 0) hx hb dX7_is_32 (by decide) ?_
    exact ka_rEz C hr hlk rfl (Nat.le_of_ble_eq_true rfl) (Nat.le_of_ble_eq_true rfl) hS (ka_qE (v_32509, 0) rfl ⟨(show 0 ≤ v_32509.toInt ∧ v_32509.toInt ≤ 60 from ⟨by omega, by omega⟩), (show 0 ≤ ((0 : Int32)).toInt ∧ ((0 : Int32)).toInt ≤ 1 from ⟨by decide, by decide⟩), (show x9.toInt ≤ v_32509.toInt ∧ v_32509.toInt ≤ x10.toInt ∧ (0 = 0 ∨ v_32509.toInt < x10.toInt) from by omega)⟩ hK hP hD hS [0, 1] (by decide) rfl [] rfl) dX7_is_33
  · have c_32511 : ¬ x10.toInt ≤ v_32509.toInt := by rw [ka_le'] at c_32511; exact c_32511
    refine lv_aload_n hx hb dX7_is_15 rfl (lv_at hl 0 rfl) ?_
    refine ka_get C lq_417 rfl hK hP 0 rfl 0 (by decide) lq_420 rfl dX7_is_16 ?_
    refine lv_aload_n hx hb dX7_is_19 rfl (lv_at hl 0 rfl) ?_
    refine ka_get C lq_417 rfl hK hP 0 rfl 23 (by decide) lq_418 rfl dX7_is_20 ?_
    refine va_bald hx hb hK hP 1 0 rfl rfl (ka_in (by omega) (by omega)) dX7_is_23 ?_
    refine lv_topi (fun v_32512 ev_32512 => ?_)
    refine lv_iload_n hx hb dX7_is_24 rfl (lv_at hl 1 rfl) ?_
    refine lv_icmp_ne (tgt := 32) hx hb dX7_is_25 (by decide) (fun c_32513 => ?_) (fun c_32513 => ?_)
    · have c_32513 : ¬ v_32512.toInt = 94 := by rw [ka_eq', show ((94 : Int32)).toInt = 94 from by decide] at c_32513; exact c_32513
      refine lv_iconst (v := 0) hx hb dX7_is_32 (by decide) ?_
      exact ka_rEz C hr hlk rfl (Nat.le_of_ble_eq_true rfl) (Nat.le_of_ble_eq_true rfl) hS (ka_qE (v_32509, 0) rfl ⟨(show 0 ≤ v_32509.toInt ∧ v_32509.toInt ≤ 60 from ⟨by omega, by omega⟩), (show 0 ≤ ((0 : Int32)).toInt ∧ ((0 : Int32)).toInt ≤ 1 from ⟨by decide, by decide⟩), (show x9.toInt ≤ v_32509.toInt ∧ v_32509.toInt ≤ x10.toInt ∧ (0 = 0 ∨ v_32509.toInt < x10.toInt) from by omega)⟩ hK hP hD hS [0, 1] (by decide) rfl [] rfl) dX7_is_33
    · have c_32513 : v_32512.toInt = 94 := by rw [ka_eq', show ((94 : Int32)).toInt = 94 from by decide] at c_32513; exact c_32513
      refine lv_iconst (v := 1) hx hb dX7_is_28 (by decide) ?_
      refine lv_goto (tgt := 33) hx hb dX7_is_29 (by decide) ?_
      exact ka_rEz C hr hlk rfl (Nat.le_of_ble_eq_true rfl) (Nat.le_of_ble_eq_true rfl) hS (ka_qE (v_32509, 1) rfl ⟨(show 0 ≤ v_32509.toInt ∧ v_32509.toInt ≤ 60 from ⟨by omega, by omega⟩), (show 0 ≤ ((1 : Int32)).toInt ∧ ((1 : Int32)).toInt ≤ 1 from ⟨by decide, by decide⟩), (show x9.toInt ≤ v_32509.toInt ∧ v_32509.toInt ≤ x10.toInt ∧ (1 = 0 ∨ v_32509.toInt < x10.toInt) from by omega)⟩ hK hP hD hS [0, 1] (by decide) rfl [] rfl) dX7_is_33
set_option maxHeartbeats 4000000 in
set_option maxRecDepth 100000 in
theorem ck_X7_is_410 (l : Launch) (D : va_G) (F : Nat → Prop) (a0 : Nat) (a1 : Nat) (x0 : Int32) (a2 : Nat) (a3 : Nat) (a4 : Nat) (a5 : Nat) (a6 : Nat) (a7 : Nat) (a8 : Nat) (x1 : Int32) (x2 : Int32) (x3 : Int32) (x4 : Int32) (x5 : Int32) (x6 : Int32) (x7 : Int32) (a9 : Nat) (a10 : Nat) (a11 : Nat) (a12 : Nat) (a13 : Nat) (a14 : Nat) (x8 : Int32) (x9 : Int32) (x10 : Int32) (x11 : Int32) (x12 : Int32) (x13 : Int32) (k0 : ClassId) (f0 : Nat → Int32) (hx0 : 0 ≤ x0.toInt ∧ x0.toInt ≤ 80) (hx1 : -1 ≤ x1.toInt ∧ x1.toInt ≤ 5) (hx4 : 1 ≤ x4.toInt ∧ x4.toInt ≤ 8) (hx5 : 0 ≤ x5.toInt ∧ x5.toInt ≤ 40) (hx7 : 0 ≤ x7.toInt ∧ x7.toInt ≤ 10) (hx8 : 0 ≤ x8.toInt ∧ x8.toInt ≤ 60) (hx9 : 0 ≤ x9.toInt ∧ x9.toInt ≤ 60) (hx10 : 0 ≤ x10.toInt ∧ x10.toInt ≤ 60) (hx11 : 0 ≤ x11.toInt ∧ x11.toInt ≤ 8) (hx13 : 0 ≤ x13.toInt ∧ x13.toInt ≤ 1) (hf0 : sb_Fit f0) (hpre : 0 ≤ x9.toInt ∧ x9.toInt ≤ x10.toInt ∧ x10.toInt ≤ 60) : ka_E l D F yX7_is wsX7_is 1 20 0 0 [.ref a0, .int 38] [(a0, .inr (7, [.ref a1, .int x0, .ref a2, .ref a3, .ref a4, .ref a5, .ref a6, .ref a7, .ref a8, .int x1, .int x2, .int x3, .int x4, .int x5, .int x6, .int x7, .ref a9, .ref a10, .ref a11, .ref a12, .ref a13, .ref a14, .int x8, .int x9, .int x10, .int x11, .int x12, .int x13])), (a1, .inl (k0, 80, .inl f0))] [(k0, .byte)] (fun (u : (Int32) × (Int32)) => some (.int (u.2))) (fun (u : (Int32) × (Int32)) => (0 ≤ (u.1).toInt ∧ (u.1).toInt ≤ 60) ∧ (0 ≤ (u.2).toInt ∧ (u.2).toInt ≤ 1) ∧ (x9.toInt ≤ (u.1).toInt ∧ (u.1).toInt ≤ x10.toInt ∧ ((u.2).toInt = 0 ∨ (u.1).toInt < x10.toInt))) (fun (u : (Int32) × (Int32)) => [(a0, .inr (7, [.ref a1, .int x0, .ref a2, .ref a3, .ref a4, .ref a5, .ref a6, .ref a7, .ref a8, .int x1, .int x2, .int x3, .int x4, .int x5, .int x6, .int x7, .ref a9, .ref a10, .ref a11, .ref a12, .ref a13, .ref a14, .int x8, .int (u.1), .int x10, .int x11, .int x12, .int x13])), (a1, .inl (k0, 80, .inl f0))]) (fun (u : (Int32) × (Int32)) => []) := by
  refine ka_E_of (cc := cX7_is) (maxL := 2) (ret := (some .boolean)) (by decide) rfl (Nat.le_of_ble_eq_true rfl) ?_
  intro p e s m below meth c ls A C hr hlk hin hP hK hD hS hA hE hN hl
  have C : CallFix p m c cX7_is 2 s [.ref a0, .int 38].toArray wsX7_is RX7 := C
  obtain ⟨hx, hb, hml, hown, hts⟩ := id C
  have hl : lv_has ls 2 [(0, .ref a0), (1, .int 38)] := hl
  have rx0 := ka_rng x0
  have rx1 := ka_rng x1
  have rx2 := ka_rng x2
  have rx3 := ka_rng x3
  have rx4 := ka_rng x4
  have rx5 := ka_rng x5
  have rx6 := ka_rng x6
  have rx7 := ka_rng x7
  have rx8 := ka_rng x8
  have rx9 := ka_rng x9
  have rx10 := ka_rng x10
  have rx11 := ka_rng x11
  have rx12 := ka_rng x12
  have rx13 := ka_rng x13
  refine lv_aload_n hx hb dX7_is_0 rfl (lv_at hl 0 rfl) ?_
  refine ka_EV (n := 0) (wr := []) C (ck_X7_blanks_407 l D F a0 a1 x0 a2 a3 a4 a5 a6 a7 a8 x1 x2 x3 x4 x5 x6 x7 a9 a10 a11 a12 a13 a14 x8 x9 x10 x11 x12 x13 k0 f0 ⟨by omega, by omega⟩ ⟨by omega, by omega⟩ ⟨by omega, by omega⟩ ⟨by omega, by omega⟩ ⟨by omega, by omega⟩ ⟨by omega, by omega⟩ ⟨by omega, by omega⟩ ⟨by omega, by omega⟩ ⟨by omega, by omega⟩ ⟨by omega, by omega⟩ hf0 (by omega)) gX7_is_X7_blanks rfl (by decide +kernel) ⟨Nat.le_of_ble_eq_true rfl, Nat.le_of_ble_eq_true rfl⟩ hK hP hD hS hA hE hN [0, 1] rfl (by decide) [] rfl (by decide) (by decide) [0] rfl (ci := 7) rfl rfl 0 rfl rfl hl.1 (rest := []) rfl (Nat.le_of_ble_eq_true rfl) dX7_is_1 ⟨Nat.le_of_ble_eq_true rfl, Nat.le_of_ble_eq_true rfl⟩ (fun u H locs hq hP hD hK hS => ?_)
  obtain ⟨v_32550, rfl⟩ : ∃ z, z = u := ⟨_, rfl⟩
  have hq : (0 ≤ v_32550.toInt ∧ v_32550.toInt ≤ 60) ∧ (x9.toInt ≤ v_32550.toInt ∧ v_32550.toInt ≤ x10.toInt) := hq
  obtain ⟨hv_32550, hzz_32551⟩ := hq
  have rv_32550 := ka_rng v_32550
  have hP : va_P D vwCl [(a0, .inr (7, [.ref a1, .int x0, .ref a2, .ref a3, .ref a4, .ref a5, .ref a6, .ref a7, .ref a8, .int x1, .int x2, .int x3, .int x4, .int x5, .int x6, .int x7, .ref a9, .ref a10, .ref a11, .ref a12, .ref a13, .ref a14, .int x8, .int v_32550, .int x10, .int x11, .int x12, .int x13])), (a1, .inl (k0, 80, .inl f0))] H := hP
  have hD : va_D A [(a0, .inr (7, [.ref a1, .int x0, .ref a2, .ref a3, .ref a4, .ref a5, .ref a6, .ref a7, .ref a8, .int x1, .int x2, .int x3, .int x4, .int x5, .int x6, .int x7, .ref a9, .ref a10, .ref a11, .ref a12, .ref a13, .ref a14, .int x8, .int v_32550, .int x10, .int x11, .int x12, .int x13])), (a1, .inl (k0, 80, .inl f0))] := hD
  have hK : va_K D vwCl [(k0, .byte)] s := by simpa using hK
  refine ka_stk (w := []) rfl ?_
  refine lv_aload_n hx hb dX7_is_4 rfl (lv_at hl 0 rfl) ?_
  refine ka_get C lq_417 rfl hK hP 0 rfl 23 (by decide) lq_418 rfl dX7_is_5 ?_
  refine lv_aload_n hx hb dX7_is_8 rfl (lv_at hl 0 rfl) ?_
  refine ka_get C lq_417 rfl hK hP 0 rfl 24 (by decide) lq_419 rfl dX7_is_9 ?_
  refine lv_icmp_ge (tgt := 32) hx hb dX7_is_12 (by decide) (fun c_32552 => ?_) (fun c_32552 => ?_)
  · have c_32552 : x10.toInt ≤ v_32550.toInt := by rw [ka_le'] at c_32552; exact c_32552
    refine lv_iconst (v := 0) hx hb dX7_is_32 (by decide) ?_
    exact ka_rEz C hr hlk rfl (Nat.le_of_ble_eq_true rfl) (Nat.le_of_ble_eq_true rfl) hS (ka_qE (v_32550, 0) rfl ⟨(show 0 ≤ v_32550.toInt ∧ v_32550.toInt ≤ 60 from ⟨by omega, by omega⟩), (show 0 ≤ ((0 : Int32)).toInt ∧ ((0 : Int32)).toInt ≤ 1 from ⟨by decide, by decide⟩), (show x9.toInt ≤ v_32550.toInt ∧ v_32550.toInt ≤ x10.toInt ∧ (0 = 0 ∨ v_32550.toInt < x10.toInt) from by omega)⟩ hK hP hD hS [0, 1] (by decide) rfl [] rfl) dX7_is_33
  · have c_32552 : ¬ x10.toInt ≤ v_32550.toInt := by rw [ka_le'] at c_32552; exact c_32552
    refine lv_aload_n hx hb dX7_is_15 rfl (lv_at hl 0 rfl) ?_
    refine ka_get C lq_417 rfl hK hP 0 rfl 0 (by decide) lq_420 rfl dX7_is_16 ?_
    refine lv_aload_n hx hb dX7_is_19 rfl (lv_at hl 0 rfl) ?_
    refine ka_get C lq_417 rfl hK hP 0 rfl 23 (by decide) lq_418 rfl dX7_is_20 ?_
    refine va_bald hx hb hK hP 1 0 rfl rfl (ka_in (by omega) (by omega)) dX7_is_23 ?_
    refine lv_topi (fun v_32553 ev_32553 => ?_)
    refine lv_iload_n hx hb dX7_is_24 rfl (lv_at hl 1 rfl) ?_
    refine lv_icmp_ne (tgt := 32) hx hb dX7_is_25 (by decide) (fun c_32554 => ?_) (fun c_32554 => ?_)
    · have c_32554 : ¬ v_32553.toInt = 38 := by rw [ka_eq', show ((38 : Int32)).toInt = 38 from by decide] at c_32554; exact c_32554
      refine lv_iconst (v := 0) hx hb dX7_is_32 (by decide) ?_
      exact ka_rEz C hr hlk rfl (Nat.le_of_ble_eq_true rfl) (Nat.le_of_ble_eq_true rfl) hS (ka_qE (v_32550, 0) rfl ⟨(show 0 ≤ v_32550.toInt ∧ v_32550.toInt ≤ 60 from ⟨by omega, by omega⟩), (show 0 ≤ ((0 : Int32)).toInt ∧ ((0 : Int32)).toInt ≤ 1 from ⟨by decide, by decide⟩), (show x9.toInt ≤ v_32550.toInt ∧ v_32550.toInt ≤ x10.toInt ∧ (0 = 0 ∨ v_32550.toInt < x10.toInt) from by omega)⟩ hK hP hD hS [0, 1] (by decide) rfl [] rfl) dX7_is_33
    · have c_32554 : v_32553.toInt = 38 := by rw [ka_eq', show ((38 : Int32)).toInt = 38 from by decide] at c_32554; exact c_32554
      refine lv_iconst (v := 1) hx hb dX7_is_28 (by decide) ?_
      refine lv_goto (tgt := 33) hx hb dX7_is_29 (by decide) ?_
      exact ka_rEz C hr hlk rfl (Nat.le_of_ble_eq_true rfl) (Nat.le_of_ble_eq_true rfl) hS (ka_qE (v_32550, 1) rfl ⟨(show 0 ≤ v_32550.toInt ∧ v_32550.toInt ≤ 60 from ⟨by omega, by omega⟩), (show 0 ≤ ((1 : Int32)).toInt ∧ ((1 : Int32)).toInt ≤ 1 from ⟨by decide, by decide⟩), (show x9.toInt ≤ v_32550.toInt ∧ v_32550.toInt ≤ x10.toInt ∧ (1 = 0 ∨ v_32550.toInt < x10.toInt) from by omega)⟩ hK hP hD hS [0, 1] (by decide) rfl [] rfl) dX7_is_33
set_option maxHeartbeats 4000000 in
set_option maxRecDepth 100000 in
theorem ck_X7_is_411 (l : Launch) (D : va_G) (F : Nat → Prop) (a0 : Nat) (a1 : Nat) (x0 : Int32) (a2 : Nat) (a3 : Nat) (a4 : Nat) (a5 : Nat) (a6 : Nat) (a7 : Nat) (a8 : Nat) (x1 : Int32) (x2 : Int32) (x3 : Int32) (x4 : Int32) (x5 : Int32) (x6 : Int32) (x7 : Int32) (a9 : Nat) (a10 : Nat) (a11 : Nat) (a12 : Nat) (a13 : Nat) (a14 : Nat) (x8 : Int32) (x9 : Int32) (x10 : Int32) (x11 : Int32) (x12 : Int32) (x13 : Int32) (k0 : ClassId) (f0 : Nat → Int32) (hx0 : 0 ≤ x0.toInt ∧ x0.toInt ≤ 80) (hx1 : -1 ≤ x1.toInt ∧ x1.toInt ≤ 5) (hx4 : 1 ≤ x4.toInt ∧ x4.toInt ≤ 8) (hx5 : 0 ≤ x5.toInt ∧ x5.toInt ≤ 40) (hx7 : 0 ≤ x7.toInt ∧ x7.toInt ≤ 10) (hx8 : 0 ≤ x8.toInt ∧ x8.toInt ≤ 60) (hx9 : 0 ≤ x9.toInt ∧ x9.toInt ≤ 60) (hx10 : 0 ≤ x10.toInt ∧ x10.toInt ≤ 60) (hx11 : 0 ≤ x11.toInt ∧ x11.toInt ≤ 8) (hx13 : 0 ≤ x13.toInt ∧ x13.toInt ≤ 1) (hf0 : sb_Fit f0) (hpre : 0 ≤ x9.toInt ∧ x9.toInt ≤ x10.toInt ∧ x10.toInt ≤ 60) : ka_E l D F yX7_is wsX7_is 1 20 0 0 [.ref a0, .int 41] [(a0, .inr (7, [.ref a1, .int x0, .ref a2, .ref a3, .ref a4, .ref a5, .ref a6, .ref a7, .ref a8, .int x1, .int x2, .int x3, .int x4, .int x5, .int x6, .int x7, .ref a9, .ref a10, .ref a11, .ref a12, .ref a13, .ref a14, .int x8, .int x9, .int x10, .int x11, .int x12, .int x13])), (a1, .inl (k0, 80, .inl f0))] [(k0, .byte)] (fun (u : (Int32) × (Int32)) => some (.int (u.2))) (fun (u : (Int32) × (Int32)) => (0 ≤ (u.1).toInt ∧ (u.1).toInt ≤ 60) ∧ (0 ≤ (u.2).toInt ∧ (u.2).toInt ≤ 1) ∧ (x9.toInt ≤ (u.1).toInt ∧ (u.1).toInt ≤ x10.toInt ∧ ((u.2).toInt = 0 ∨ (u.1).toInt < x10.toInt))) (fun (u : (Int32) × (Int32)) => [(a0, .inr (7, [.ref a1, .int x0, .ref a2, .ref a3, .ref a4, .ref a5, .ref a6, .ref a7, .ref a8, .int x1, .int x2, .int x3, .int x4, .int x5, .int x6, .int x7, .ref a9, .ref a10, .ref a11, .ref a12, .ref a13, .ref a14, .int x8, .int (u.1), .int x10, .int x11, .int x12, .int x13])), (a1, .inl (k0, 80, .inl f0))]) (fun (u : (Int32) × (Int32)) => []) := by
  refine ka_E_of (cc := cX7_is) (maxL := 2) (ret := (some .boolean)) (by decide) rfl (Nat.le_of_ble_eq_true rfl) ?_
  intro p e s m below meth c ls A C hr hlk hin hP hK hD hS hA hE hN hl
  have C : CallFix p m c cX7_is 2 s [.ref a0, .int 41].toArray wsX7_is RX7 := C
  obtain ⟨hx, hb, hml, hown, hts⟩ := id C
  have hl : lv_has ls 2 [(0, .ref a0), (1, .int 41)] := hl
  have rx0 := ka_rng x0
  have rx1 := ka_rng x1
  have rx2 := ka_rng x2
  have rx3 := ka_rng x3
  have rx4 := ka_rng x4
  have rx5 := ka_rng x5
  have rx6 := ka_rng x6
  have rx7 := ka_rng x7
  have rx8 := ka_rng x8
  have rx9 := ka_rng x9
  have rx10 := ka_rng x10
  have rx11 := ka_rng x11
  have rx12 := ka_rng x12
  have rx13 := ka_rng x13
  refine lv_aload_n hx hb dX7_is_0 rfl (lv_at hl 0 rfl) ?_
  refine ka_EV (n := 0) (wr := []) C (ck_X7_blanks_407 l D F a0 a1 x0 a2 a3 a4 a5 a6 a7 a8 x1 x2 x3 x4 x5 x6 x7 a9 a10 a11 a12 a13 a14 x8 x9 x10 x11 x12 x13 k0 f0 ⟨by omega, by omega⟩ ⟨by omega, by omega⟩ ⟨by omega, by omega⟩ ⟨by omega, by omega⟩ ⟨by omega, by omega⟩ ⟨by omega, by omega⟩ ⟨by omega, by omega⟩ ⟨by omega, by omega⟩ ⟨by omega, by omega⟩ ⟨by omega, by omega⟩ hf0 (by omega)) gX7_is_X7_blanks rfl (by decide +kernel) ⟨Nat.le_of_ble_eq_true rfl, Nat.le_of_ble_eq_true rfl⟩ hK hP hD hS hA hE hN [0, 1] rfl (by decide) [] rfl (by decide) (by decide) [0] rfl (ci := 7) rfl rfl 0 rfl rfl hl.1 (rest := []) rfl (Nat.le_of_ble_eq_true rfl) dX7_is_1 ⟨Nat.le_of_ble_eq_true rfl, Nat.le_of_ble_eq_true rfl⟩ (fun u H locs hq hP hD hK hS => ?_)
  obtain ⟨v_32591, rfl⟩ : ∃ z, z = u := ⟨_, rfl⟩
  have hq : (0 ≤ v_32591.toInt ∧ v_32591.toInt ≤ 60) ∧ (x9.toInt ≤ v_32591.toInt ∧ v_32591.toInt ≤ x10.toInt) := hq
  obtain ⟨hv_32591, hzz_32592⟩ := hq
  have rv_32591 := ka_rng v_32591
  have hP : va_P D vwCl [(a0, .inr (7, [.ref a1, .int x0, .ref a2, .ref a3, .ref a4, .ref a5, .ref a6, .ref a7, .ref a8, .int x1, .int x2, .int x3, .int x4, .int x5, .int x6, .int x7, .ref a9, .ref a10, .ref a11, .ref a12, .ref a13, .ref a14, .int x8, .int v_32591, .int x10, .int x11, .int x12, .int x13])), (a1, .inl (k0, 80, .inl f0))] H := hP
  have hD : va_D A [(a0, .inr (7, [.ref a1, .int x0, .ref a2, .ref a3, .ref a4, .ref a5, .ref a6, .ref a7, .ref a8, .int x1, .int x2, .int x3, .int x4, .int x5, .int x6, .int x7, .ref a9, .ref a10, .ref a11, .ref a12, .ref a13, .ref a14, .int x8, .int v_32591, .int x10, .int x11, .int x12, .int x13])), (a1, .inl (k0, 80, .inl f0))] := hD
  have hK : va_K D vwCl [(k0, .byte)] s := by simpa using hK
  refine ka_stk (w := []) rfl ?_
  refine lv_aload_n hx hb dX7_is_4 rfl (lv_at hl 0 rfl) ?_
  refine ka_get C lq_417 rfl hK hP 0 rfl 23 (by decide) lq_418 rfl dX7_is_5 ?_
  refine lv_aload_n hx hb dX7_is_8 rfl (lv_at hl 0 rfl) ?_
  refine ka_get C lq_417 rfl hK hP 0 rfl 24 (by decide) lq_419 rfl dX7_is_9 ?_
  refine lv_icmp_ge (tgt := 32) hx hb dX7_is_12 (by decide) (fun c_32593 => ?_) (fun c_32593 => ?_)
  · have c_32593 : x10.toInt ≤ v_32591.toInt := by rw [ka_le'] at c_32593; exact c_32593
    refine lv_iconst (v := 0) hx hb dX7_is_32 (by decide) ?_
    exact ka_rEz C hr hlk rfl (Nat.le_of_ble_eq_true rfl) (Nat.le_of_ble_eq_true rfl) hS (ka_qE (v_32591, 0) rfl ⟨(show 0 ≤ v_32591.toInt ∧ v_32591.toInt ≤ 60 from ⟨by omega, by omega⟩), (show 0 ≤ ((0 : Int32)).toInt ∧ ((0 : Int32)).toInt ≤ 1 from ⟨by decide, by decide⟩), (show x9.toInt ≤ v_32591.toInt ∧ v_32591.toInt ≤ x10.toInt ∧ (0 = 0 ∨ v_32591.toInt < x10.toInt) from by omega)⟩ hK hP hD hS [0, 1] (by decide) rfl [] rfl) dX7_is_33
  · have c_32593 : ¬ x10.toInt ≤ v_32591.toInt := by rw [ka_le'] at c_32593; exact c_32593
    refine lv_aload_n hx hb dX7_is_15 rfl (lv_at hl 0 rfl) ?_
    refine ka_get C lq_417 rfl hK hP 0 rfl 0 (by decide) lq_420 rfl dX7_is_16 ?_
    refine lv_aload_n hx hb dX7_is_19 rfl (lv_at hl 0 rfl) ?_
    refine ka_get C lq_417 rfl hK hP 0 rfl 23 (by decide) lq_418 rfl dX7_is_20 ?_
    refine va_bald hx hb hK hP 1 0 rfl rfl (ka_in (by omega) (by omega)) dX7_is_23 ?_
    refine lv_topi (fun v_32594 ev_32594 => ?_)
    refine lv_iload_n hx hb dX7_is_24 rfl (lv_at hl 1 rfl) ?_
    refine lv_icmp_ne (tgt := 32) hx hb dX7_is_25 (by decide) (fun c_32595 => ?_) (fun c_32595 => ?_)
    · have c_32595 : ¬ v_32594.toInt = 41 := by rw [ka_eq', show ((41 : Int32)).toInt = 41 from by decide] at c_32595; exact c_32595
      refine lv_iconst (v := 0) hx hb dX7_is_32 (by decide) ?_
      exact ka_rEz C hr hlk rfl (Nat.le_of_ble_eq_true rfl) (Nat.le_of_ble_eq_true rfl) hS (ka_qE (v_32591, 0) rfl ⟨(show 0 ≤ v_32591.toInt ∧ v_32591.toInt ≤ 60 from ⟨by omega, by omega⟩), (show 0 ≤ ((0 : Int32)).toInt ∧ ((0 : Int32)).toInt ≤ 1 from ⟨by decide, by decide⟩), (show x9.toInt ≤ v_32591.toInt ∧ v_32591.toInt ≤ x10.toInt ∧ (0 = 0 ∨ v_32591.toInt < x10.toInt) from by omega)⟩ hK hP hD hS [0, 1] (by decide) rfl [] rfl) dX7_is_33
    · have c_32595 : v_32594.toInt = 41 := by rw [ka_eq', show ((41 : Int32)).toInt = 41 from by decide] at c_32595; exact c_32595
      refine lv_iconst (v := 1) hx hb dX7_is_28 (by decide) ?_
      refine lv_goto (tgt := 33) hx hb dX7_is_29 (by decide) ?_
      exact ka_rEz C hr hlk rfl (Nat.le_of_ble_eq_true rfl) (Nat.le_of_ble_eq_true rfl) hS (ka_qE (v_32591, 1) rfl ⟨(show 0 ≤ v_32591.toInt ∧ v_32591.toInt ≤ 60 from ⟨by omega, by omega⟩), (show 0 ≤ ((1 : Int32)).toInt ∧ ((1 : Int32)).toInt ≤ 1 from ⟨by decide, by decide⟩), (show x9.toInt ≤ v_32591.toInt ∧ v_32591.toInt ≤ x10.toInt ∧ (1 = 0 ∨ v_32591.toInt < x10.toInt) from by omega)⟩ hK hP hD hS [0, 1] (by decide) rfl [] rfl) dX7_is_33
theorem lq_421 : ∀ w ∈ wsX70, w ∈ wsX7_wrong := by decide +kernel
theorem lq_422 : Cond.fieldLink RX7 97 "AskedBackModel" "isWrong" "Z" ∈ wsX7_wrong := by decide +kernel
set_option maxHeartbeats 4000000 in
set_option maxRecDepth 100000 in
theorem ck_X7_wrong_412 (l : Launch) (D : va_G) (F : Nat → Prop) (a0 : Nat) (a1 : Nat) (x0 : Int32) (a2 : Nat) (a3 : Nat) (a4 : Nat) (a5 : Nat) (a6 : Nat) (a7 : Nat) (a8 : Nat) (x1 : Int32) (x2 : Int32) (x3 : Int32) (x4 : Int32) (x5 : Int32) (x6 : Int32) (x7 : Int32) (a9 : Nat) (a10 : Nat) (a11 : Nat) (a12 : Nat) (a13 : Nat) (a14 : Nat) (x8 : Int32) (x9 : Int32) (x10 : Int32) (x11 : Int32) (x12 : Int32) (x13 : Int32) (hx0 : 0 ≤ x0.toInt ∧ x0.toInt ≤ 80) (hx1 : -1 ≤ x1.toInt ∧ x1.toInt ≤ 5) (hx4 : 1 ≤ x4.toInt ∧ x4.toInt ≤ 8) (hx5 : 0 ≤ x5.toInt ∧ x5.toInt ≤ 40) (hx7 : 0 ≤ x7.toInt ∧ x7.toInt ≤ 10) (hx8 : 0 ≤ x8.toInt ∧ x8.toInt ≤ 60) (hx9 : 0 ≤ x9.toInt ∧ x9.toInt ≤ 60) (hx10 : 0 ≤ x10.toInt ∧ x10.toInt ≤ 60) (hx11 : 0 ≤ x11.toInt ∧ x11.toInt ≤ 8) (hx13 : 0 ≤ x13.toInt ∧ x13.toInt ≤ 1) : ka_E l D F yX7_wrong wsX7_wrong 0 0 0 0 [.ref a0] [(a0, .inr (7, [.ref a1, .int x0, .ref a2, .ref a3, .ref a4, .ref a5, .ref a6, .ref a7, .ref a8, .int x1, .int x2, .int x3, .int x4, .int x5, .int x6, .int x7, .ref a9, .ref a10, .ref a11, .ref a12, .ref a13, .ref a14, .int x8, .int x9, .int x10, .int x11, .int x12, .int x13]))] [] (fun (u : Unit) => some (.int 0)) (fun (u : Unit) => True) (fun (u : Unit) => [(a0, .inr (7, [.ref a1, .int x0, .ref a2, .ref a3, .ref a4, .ref a5, .ref a6, .ref a7, .ref a8, .int x1, .int x2, .int x3, .int x4, .int x5, .int x6, .int x7, .ref a9, .ref a10, .ref a11, .ref a12, .ref a13, .ref a14, .int x8, .int x9, .int x10, .int x11, .int x12, .int 1]))]) (fun (u : Unit) => []) := by
  refine ka_E_of (cc := cX7_wrong) (maxL := 1) (ret := (some .int)) (by decide) rfl (Nat.le_of_ble_eq_true rfl) ?_
  intro p e s m below meth c ls A C hr hlk hin hP hK hD hS hA hE hN hl
  have C : CallFix p m c cX7_wrong 1 s [.ref a0].toArray wsX7_wrong RX7 := C
  obtain ⟨hx, hb, hml, hown, hts⟩ := id C
  have hl : lv_has ls 1 [(0, .ref a0)] := hl
  have rx0 := ka_rng x0
  have rx1 := ka_rng x1
  have rx2 := ka_rng x2
  have rx3 := ka_rng x3
  have rx4 := ka_rng x4
  have rx5 := ka_rng x5
  have rx6 := ka_rng x6
  have rx7 := ka_rng x7
  have rx8 := ka_rng x8
  have rx9 := ka_rng x9
  have rx10 := ka_rng x10
  have rx11 := ka_rng x11
  have rx12 := ka_rng x12
  have rx13 := ka_rng x13
  refine lv_aload_n hx hb dX7_wrong_0 rfl (lv_at hl 0 rfl) ?_
  refine lv_iconst (v := 1) hx hb dX7_wrong_1 (by decide) ?_
  refine ka_put C lq_421 tyX7 tyX7_ok nmX7 rfl hK hP hD hS 0 rfl 27 (by decide) lq_422 rfl rfl rfl (Nat.le_of_ble_eq_true rfl) dX7_wrong_2 (fun H locs hP hD hS => ?_)
  have hP : va_P D vwCl [(a0, .inr (7, [.ref a1, .int x0, .ref a2, .ref a3, .ref a4, .ref a5, .ref a6, .ref a7, .ref a8, .int x1, .int x2, .int x3, .int x4, .int x5, .int x6, .int x7, .ref a9, .ref a10, .ref a11, .ref a12, .ref a13, .ref a14, .int x8, .int x9, .int x10, .int x11, .int x12, .int 1]))] H := hP
  have hD : va_D A [(a0, .inr (7, [.ref a1, .int x0, .ref a2, .ref a3, .ref a4, .ref a5, .ref a6, .ref a7, .ref a8, .int x1, .int x2, .int x3, .int x4, .int x5, .int x6, .int x7, .ref a9, .ref a10, .ref a11, .ref a12, .ref a13, .ref a14, .int x8, .int x9, .int x10, .int x11, .int x12, .int 1]))] := hD
  refine lv_iconst (v := 0) hx hb dX7_wrong_5 (by decide) ?_
  exact ka_rEi C hr hlk (Nat.le_of_ble_eq_true rfl) (Nat.le_of_ble_eq_true rfl) hS (ka_qE () rfl trivial hK hP hD hS [0] (by decide) rfl [] rfl) dX7_wrong_6
