set_option maxHeartbeats 4000000 in
set_option maxRecDepth 100000 in
theorem cr_X6_set_456 (l : Launch) (D : va_G) (F : Nat → Prop) (a0 : Nat) (x0 : Int32) (x1 : Int32) (a1 : Nat) (a2 : Nat) (a3 : Nat) (a4 : Nat) (x2 : Int32) (x3 : Int32) (x4 : Int32) (x5 : Int32) (x6 : Int32) (a5 : Nat) (a6 : Nat) (x7 : Int32) (a7 : Nat) (a8 : Nat) (a9 : Nat) (x8 : Int32) (x9 : Int32) (x10 : Int32) (x11 : Int32) (x12 : Int32) (x13 : Int32) (hx2 : -1 ≤ x2.toInt ∧ x2.toInt ≤ 5) (hx8 : 0 ≤ x8.toInt ∧ x8.toInt ≤ 10) : ka_E l D F yX6_set wsX6_set 3 61 0 0 [.ref a0, .int x0, .int x1] [(a0, .inr (6, [.ref a1, .ref a2, .ref a3, .ref a4, .int x2, .int x3, .int x4, .int x5, .int x6])), (a3, .inr (0, [.ref a5, .ref a6, .int x7])), (a4, .inr (4, [.ref a7, .ref a8, .ref a9, .int x8, .int x9, .int x10, .int x11, .int x12, .int x13]))] [] (fun (u : (Int32) × (Int32) × (Int32) × (Int32) × (Int32)) => some (.int (u.2.2.2.2))) (fun (u : (Int32) × (Int32) × (Int32) × (Int32) × (Int32)) => (0 ≤ (u.2.2.2.2).toInt ∧ (u.2.2.2.2).toInt ≤ 1)) (fun (u : (Int32) × (Int32) × (Int32) × (Int32) × (Int32)) => [(a0, .inr (6, [.ref a1, .ref a2, .ref a3, .ref a4, .int x2, .int x3, .int (u.1), .int (u.2.1), .int (u.2.2.1)])), (a3, .inr (0, [.ref a5, .ref a6, .int (u.2.2.2.1)])), (a4, .inr (4, [.ref a7, .ref a8, .ref a9, .int x8, .int x9, .int x10, .int x11, .int x12, .int x13]))]) (fun (u : (Int32) × (Int32) × (Int32) × (Int32) × (Int32)) => []) := by
  refine ka_E_of (cc := cX6_set) (maxL := 3) (ret := (some .boolean)) (by decide) rfl (Nat.le_of_ble_eq_true rfl) ?_
  intro p e s m below meth c ls A C hr hlk hin hP hK hD hS hA hE hN hl
  have C : CallFix p m c cX6_set 3 s [.ref a0, .int x0, .int x1].toArray wsX6_set RX6 := C
  obtain ⟨hx, hb, hml, hown, hts⟩ := id C
  have hl : lv_has ls 3 [(0, .ref a0), (1, .int x0), (2, .int x1)] := hl
  have rx0 := ka_rng x0
  have rx1 := ka_rng x1
  have rx2 := ka_rng x2
  have rx3 := ka_rng x3
  have rx4 := ka_rng x4
  have rx5 := ka_rng x5
  have rx6 := ka_rng x6
  have rx7 := ka_rng x7
  have rx8 := ka_rng x8
  have rx9 := ka_rng x9
  have rx10 := ka_rng x10
  have rx11 := ka_rng x11
  have rx12 := ka_rng x12
  have rx13 := ka_rng x13
  rcases (show x0.toInt ≤ -1 ∨ x0.toInt = 0 ∨ x0.toInt = 1 ∨ x0.toInt = 2 ∨ 3 ≤ x0.toInt by omega) with y_35618 | y_35618 | y_35618 | y_35618 | y_35618
  · skip
    refine lv_iload_n hx hb dX6_set_0 rfl (lv_at hl 1 rfl) ?_
    refine lv_tableOut (tgt := 89) hx hb dX6_set_1 (by omega) (by decide) ?_
    refine lv_iconst (v := 0) hx hb dX6_set_89 (by decide) ?_
    exact ka_rEz C hr hlk rfl (Nat.le_of_ble_eq_true rfl) (Nat.le_of_ble_eq_true rfl) hS (ka_qE (x4, x5, x6, x7, 0) rfl (show 0 ≤ ((0 : Int32)).toInt ∧ ((0 : Int32)).toInt ≤ 1 from ⟨by decide, by decide⟩) hK hP hD hS [0, 1, 2] (by decide) rfl [] rfl) dX6_set_90
  · obtain rfl : x0 = 0 := (ka_eq' _ _).mpr (y_35618.trans (by decide))
    refine lv_iload_n hx hb dX6_set_0 rfl (lv_at hl 1 rfl) ?_
    refine lv_tableIn (off := 27) (tgt := 28) hx hb dX6_set_1 (by decide) (by decide) (by decide) (by decide) ?_
    refine lv_iload_n hx hb dX6_set_28 rfl (lv_at hl 2 rfl) ?_
    refine lv_if_lt (tgt := 37) hx hb dX6_set_29 (by decide) (fun c_35619 => ?_) (fun c_35619 => ?_)
    · have c_35619 : x1.toInt < 0 := by rw [ka_lt', show ((0 : Int32)).toInt = 0 from by decide] at c_35619; exact c_35619
      refine lv_iconst (v := 0) hx hb dX6_set_37 (by decide) ?_
      exact ka_rEz C hr hlk rfl (Nat.le_of_ble_eq_true rfl) (Nat.le_of_ble_eq_true rfl) hS (ka_qE (x4, x5, x6, x7, 0) rfl (show 0 ≤ ((0 : Int32)).toInt ∧ ((0 : Int32)).toInt ≤ 1 from ⟨by decide, by decide⟩) hK hP hD hS [0, 1, 2] (by decide) rfl [] rfl) dX6_set_38
    · have c_35619 : ¬ x1.toInt < 0 := by rw [ka_lt', show ((0 : Int32)).toInt = 0 from by decide] at c_35619; exact c_35619
      refine lv_iload_n hx hb dX6_set_32 rfl (lv_at hl 2 rfl) ?_
      refine lv_iconst (v := 3) hx hb dX6_set_33 (by decide) ?_
      refine lv_icmp_le (tgt := 39) hx hb dX6_set_34 (by decide) (fun c_35620 => ?_) (fun c_35620 => ?_)
      · have c_35620 : x1.toInt ≤ 3 := by rw [ka_le', show ((3 : Int32)).toInt = 3 from by decide] at c_35620; exact c_35620
        refine lv_aload_n hx hb dX6_set_39 rfl (lv_at hl 0 rfl) ?_
        refine lv_iload_n hx hb dX6_set_40 rfl (lv_at hl 2 rfl) ?_
        refine ka_put C lq_361 tyX6 tyX6_ok nmX6 rfl hK hP hD hS 0 rfl 6 (by decide) lq_362 rfl rfl rfl (Nat.le_of_ble_eq_true rfl) dX6_set_41 (fun H locs hP hD hS => ?_)
        have hP : va_P D vwCl [(a0, .inr (6, [.ref a1, .ref a2, .ref a3, .ref a4, .int x2, .int x3, .int x1, .int x5, .int x6])), (a3, .inr (0, [.ref a5, .ref a6, .int x7])), (a4, .inr (4, [.ref a7, .ref a8, .ref a9, .int x8, .int x9, .int x10, .int x11, .int x12, .int x13]))] H := hP
        have hD : va_D A [(a0, .inr (6, [.ref a1, .ref a2, .ref a3, .ref a4, .int x2, .int x3, .int x1, .int x5, .int x6])), (a3, .inr (0, [.ref a5, .ref a6, .int x7])), (a4, .inr (4, [.ref a7, .ref a8, .ref a9, .int x8, .int x9, .int x10, .int x11, .int x12, .int x13]))] := hD
        refine lv_iconst (v := 1) hx hb dX6_set_44 (by decide) ?_
        exact ka_rEz C hr hlk rfl (Nat.le_of_ble_eq_true rfl) (Nat.le_of_ble_eq_true rfl) hS (ka_qE (x1, x5, x6, x7, 1) rfl (show 0 ≤ ((1 : Int32)).toInt ∧ ((1 : Int32)).toInt ≤ 1 from ⟨by decide, by decide⟩) hK hP hD hS [0, 1, 2] (by decide) rfl [] rfl) dX6_set_45
      · have c_35620 : ¬ x1.toInt ≤ 3 := by rw [ka_le', show ((3 : Int32)).toInt = 3 from by decide] at c_35620; exact c_35620
        refine lv_iconst (v := 0) hx hb dX6_set_37 (by decide) ?_
        exact ka_rEz C hr hlk rfl (Nat.le_of_ble_eq_true rfl) (Nat.le_of_ble_eq_true rfl) hS (ka_qE (x4, x5, x6, x7, 0) rfl (show 0 ≤ ((0 : Int32)).toInt ∧ ((0 : Int32)).toInt ≤ 1 from ⟨by decide, by decide⟩) hK hP hD hS [0, 1, 2] (by decide) rfl [] rfl) dX6_set_38
  · obtain rfl : x0 = 1 := (ka_eq' _ _).mpr (y_35618.trans (by decide))
    refine lv_iload_n hx hb dX6_set_0 rfl (lv_at hl 1 rfl) ?_
    refine lv_tableIn (off := 45) (tgt := 46) hx hb dX6_set_1 (by decide) (by decide) (by decide) (by decide) ?_
    refine lv_iload_n hx hb dX6_set_46 rfl (lv_at hl 2 rfl) ?_
    refine lv_iconst (v := 1) hx hb dX6_set_47 (by decide) ?_
    refine lv_icmp_lt (tgt := 56) hx hb dX6_set_48 (by decide) (fun c_35621 => ?_) (fun c_35621 => ?_)
    · have c_35621 : x1.toInt < 1 := by rw [ka_lt', show ((1 : Int32)).toInt = 1 from by decide] at c_35621; exact c_35621
      refine lv_iconst (v := 0) hx hb dX6_set_56 (by decide) ?_
      exact ka_rEz C hr hlk rfl (Nat.le_of_ble_eq_true rfl) (Nat.le_of_ble_eq_true rfl) hS (ka_qE (x4, x5, x6, x7, 0) rfl (show 0 ≤ ((0 : Int32)).toInt ∧ ((0 : Int32)).toInt ≤ 1 from ⟨by decide, by decide⟩) hK hP hD hS [0, 1, 2] (by decide) rfl [] rfl) dX6_set_57
    · have c_35621 : ¬ x1.toInt < 1 := by rw [ka_lt', show ((1 : Int32)).toInt = 1 from by decide] at c_35621; exact c_35621
      refine lv_iload_n hx hb dX6_set_51 rfl (lv_at hl 2 rfl) ?_
      refine lv_iconst (v := 5) hx hb dX6_set_52 (by decide) ?_
      refine lv_icmp_le (tgt := 58) hx hb dX6_set_53 (by decide) (fun c_35622 => ?_) (fun c_35622 => ?_)
      · have c_35622 : x1.toInt ≤ 5 := by rw [ka_le', show ((5 : Int32)).toInt = 5 from by decide] at c_35622; exact c_35622
        refine lv_aload_n hx hb dX6_set_58 rfl (lv_at hl 0 rfl) ?_
        refine lv_iload_n hx hb dX6_set_59 rfl (lv_at hl 2 rfl) ?_
        refine ka_put C lq_361 tyX6 tyX6_ok nmX6 rfl hK hP hD hS 0 rfl 7 (by decide) lq_365 rfl rfl rfl (Nat.le_of_ble_eq_true rfl) dX6_set_60 (fun H locs hP hD hS => ?_)
        have hP : va_P D vwCl [(a0, .inr (6, [.ref a1, .ref a2, .ref a3, .ref a4, .int x2, .int x3, .int x4, .int x1, .int x6])), (a3, .inr (0, [.ref a5, .ref a6, .int x7])), (a4, .inr (4, [.ref a7, .ref a8, .ref a9, .int x8, .int x9, .int x10, .int x11, .int x12, .int x13]))] H := hP
        have hD : va_D A [(a0, .inr (6, [.ref a1, .ref a2, .ref a3, .ref a4, .int x2, .int x3, .int x4, .int x1, .int x6])), (a3, .inr (0, [.ref a5, .ref a6, .int x7])), (a4, .inr (4, [.ref a7, .ref a8, .ref a9, .int x8, .int x9, .int x10, .int x11, .int x12, .int x13]))] := hD
        refine lv_iconst (v := 1) hx hb dX6_set_63 (by decide) ?_
        exact ka_rEz C hr hlk rfl (Nat.le_of_ble_eq_true rfl) (Nat.le_of_ble_eq_true rfl) hS (ka_qE (x4, x1, x6, x7, 1) rfl (show 0 ≤ ((1 : Int32)).toInt ∧ ((1 : Int32)).toInt ≤ 1 from ⟨by decide, by decide⟩) hK hP hD hS [0, 1, 2] (by decide) rfl [] rfl) dX6_set_64
      · have c_35622 : ¬ x1.toInt ≤ 5 := by rw [ka_le', show ((5 : Int32)).toInt = 5 from by decide] at c_35622; exact c_35622
        refine lv_iconst (v := 0) hx hb dX6_set_56 (by decide) ?_
        exact ka_rEz C hr hlk rfl (Nat.le_of_ble_eq_true rfl) (Nat.le_of_ble_eq_true rfl) hS (ka_qE (x4, x5, x6, x7, 0) rfl (show 0 ≤ ((0 : Int32)).toInt ∧ ((0 : Int32)).toInt ≤ 1 from ⟨by decide, by decide⟩) hK hP hD hS [0, 1, 2] (by decide) rfl [] rfl) dX6_set_57
  · obtain rfl : x0 = 2 := (ka_eq' _ _).mpr (y_35618.trans (by decide))
    refine lv_iload_n hx hb dX6_set_0 rfl (lv_at hl 1 rfl) ?_
    refine lv_tableIn (off := 64) (tgt := 65) hx hb dX6_set_1 (by decide) (by decide) (by decide) (by decide) ?_
    refine lv_iload_n hx hb dX6_set_65 rfl (lv_at hl 2 rfl) ?_
    refine lv_iconst (v := 1) hx hb dX6_set_66 (by decide) ?_
    refine lv_icmp_lt (tgt := 76) hx hb dX6_set_67 (by decide) (fun c_35623 => ?_) (fun c_35623 => ?_)
    · have c_35623 : x1.toInt < 1 := by rw [ka_lt', show ((1 : Int32)).toInt = 1 from by decide] at c_35623; exact c_35623
      refine lv_iconst (v := 0) hx hb dX6_set_76 (by decide) ?_
      exact ka_rEz C hr hlk rfl (Nat.le_of_ble_eq_true rfl) (Nat.le_of_ble_eq_true rfl) hS (ka_qE (x4, x5, x6, x7, 0) rfl (show 0 ≤ ((0 : Int32)).toInt ∧ ((0 : Int32)).toInt ≤ 1 from ⟨by decide, by decide⟩) hK hP hD hS [0, 1, 2] (by decide) rfl [] rfl) dX6_set_77
    · have c_35623 : ¬ x1.toInt < 1 := by rw [ka_lt', show ((1 : Int32)).toInt = 1 from by decide] at c_35623; exact c_35623
      refine lv_iload_n hx hb dX6_set_70 rfl (lv_at hl 2 rfl) ?_
      refine lv_bipush (v := 8) hx hb dX6_set_71 (by decide) ?_
      refine lv_icmp_le (tgt := 78) hx hb dX6_set_73 (by decide) (fun c_35624 => ?_) (fun c_35624 => ?_)
      · have c_35624 : x1.toInt ≤ 8 := by rw [ka_le', show ((8 : Int32)).toInt = 8 from by decide] at c_35624; exact c_35624
        refine lv_aload_n hx hb dX6_set_78 rfl (lv_at hl 0 rfl) ?_
        refine lv_iload_n hx hb dX6_set_79 rfl (lv_at hl 2 rfl) ?_
        refine ka_put C lq_361 tyX6 tyX6_ok nmX6 rfl hK hP hD hS 0 rfl 8 (by decide) lq_367 rfl rfl rfl (Nat.le_of_ble_eq_true rfl) dX6_set_80 (fun H locs hP hD hS => ?_)
        have hP : va_P D vwCl [(a0, .inr (6, [.ref a1, .ref a2, .ref a3, .ref a4, .int x2, .int x3, .int x4, .int x5, .int x1])), (a3, .inr (0, [.ref a5, .ref a6, .int x7])), (a4, .inr (4, [.ref a7, .ref a8, .ref a9, .int x8, .int x9, .int x10, .int x11, .int x12, .int x13]))] H := hP
        have hD : va_D A [(a0, .inr (6, [.ref a1, .ref a2, .ref a3, .ref a4, .int x2, .int x3, .int x4, .int x5, .int x1])), (a3, .inr (0, [.ref a5, .ref a6, .int x7])), (a4, .inr (4, [.ref a7, .ref a8, .ref a9, .int x8, .int x9, .int x10, .int x11, .int x12, .int x13]))] := hD
        refine lv_aload_n hx hb dX6_set_83 rfl (lv_at hl 0 rfl) ?_
        refine ka_EV (n := 0) (wr := []) C (cg_X6_endIfDone_184 l D F a0 a1 a2 a3 a4 x2 x3 x4 x5 x1 a5 a6 x7 a7 a8 a9 x8 x9 x10 x11 x12 x13 ⟨by omega, by omega⟩ ⟨by omega, by omega⟩) gX6_set_X6_endIfDone rfl (by decide +kernel) ⟨Nat.le_of_ble_eq_true rfl, Nat.le_of_ble_eq_true rfl⟩ hK hP hD hS hA hE hN [0, 1, 2] rfl (by decide) [] rfl (by decide) (by decide) [] rfl (ci := 6) rfl rfl 0 rfl rfl hl.1 (rest := []) rfl (Nat.le_of_ble_eq_true rfl) dX6_set_84 ⟨Nat.le_of_ble_eq_true rfl, Nat.le_of_ble_eq_true rfl⟩ (fun u H locs hq hP hD hK hS => ?_)
        obtain ⟨v_35625, rfl⟩ : ∃ z, z = u := ⟨_, rfl⟩
        have rv_35625 := ka_rng v_35625
        have hP : va_P D vwCl [(a0, .inr (6, [.ref a1, .ref a2, .ref a3, .ref a4, .int x2, .int x3, .int x4, .int x5, .int x1])), (a3, .inr (0, [.ref a5, .ref a6, .int v_35625])), (a4, .inr (4, [.ref a7, .ref a8, .ref a9, .int x8, .int x9, .int x10, .int x11, .int x12, .int x13]))] H := hP
        have hD : va_D A [(a0, .inr (6, [.ref a1, .ref a2, .ref a3, .ref a4, .int x2, .int x3, .int x4, .int x5, .int x1])), (a3, .inr (0, [.ref a5, .ref a6, .int v_35625])), (a4, .inr (4, [.ref a7, .ref a8, .ref a9, .int x8, .int x9, .int x10, .int x11, .int x12, .int x13]))] := hD
        have hK : va_K D vwCl [] s := by simpa using hK
        refine ka_stk (w := []) rfl ?_
        refine lv_iconst (v := 1) hx hb dX6_set_87 (by decide) ?_
        exact ka_rEz C hr hlk rfl (Nat.le_of_ble_eq_true rfl) (Nat.le_of_ble_eq_true rfl) hS (ka_qE (x4, x5, x1, v_35625, 1) rfl (show 0 ≤ ((1 : Int32)).toInt ∧ ((1 : Int32)).toInt ≤ 1 from ⟨by decide, by decide⟩) hK hP hD hS [0, 1, 2] (by decide) rfl [] rfl) dX6_set_88
      · have c_35624 : ¬ x1.toInt ≤ 8 := by rw [ka_le', show ((8 : Int32)).toInt = 8 from by decide] at c_35624; exact c_35624
        refine lv_iconst (v := 0) hx hb dX6_set_76 (by decide) ?_
        exact ka_rEz C hr hlk rfl (Nat.le_of_ble_eq_true rfl) (Nat.le_of_ble_eq_true rfl) hS (ka_qE (x4, x5, x6, x7, 0) rfl (show 0 ≤ ((0 : Int32)).toInt ∧ ((0 : Int32)).toInt ≤ 1 from ⟨by decide, by decide⟩) hK hP hD hS [0, 1, 2] (by decide) rfl [] rfl) dX6_set_77
  · skip
    refine lv_iload_n hx hb dX6_set_0 rfl (lv_at hl 1 rfl) ?_
    refine lv_tableOut (tgt := 89) hx hb dX6_set_1 (by omega) (by decide) ?_
    refine lv_iconst (v := 0) hx hb dX6_set_89 (by decide) ?_
    exact ka_rEz C hr hlk rfl (Nat.le_of_ble_eq_true rfl) (Nat.le_of_ble_eq_true rfl) hS (ka_qE (x4, x5, x6, x7, 0) rfl (show 0 ≤ ((0 : Int32)).toInt ∧ ((0 : Int32)).toInt ≤ 1 from ⟨by decide, by decide⟩) hK hP hD hS [0, 1, 2] (by decide) rfl [] rfl) dX6_set_90
set_option maxHeartbeats 4000000 in
set_option maxRecDepth 100000 in
theorem cr_X7_set_457 (l : Launch) (D : va_G) (F : Nat → Prop) (a0 : Nat) (x0 : Int32) (x1 : Int32) (a1 : Nat) (x2 : Int32) (a2 : Nat) (a3 : Nat) (a4 : Nat) (a5 : Nat) (a6 : Nat) (a7 : Nat) (a8 : Nat) (x3 : Int32) (x4 : Int32) (x5 : Int32) (x6 : Int32) (x7 : Int32) (x8 : Int32) (x9 : Int32) (a9 : Nat) (a10 : Nat) (a11 : Nat) (a12 : Nat) (a13 : Nat) (a14 : Nat) (x10 : Int32) (x11 : Int32) (x12 : Int32) (x13 : Int32) (x14 : Int32) (x15 : Int32) (hx2 : 0 ≤ x2.toInt ∧ x2.toInt ≤ 80) (hx3 : -1 ≤ x3.toInt ∧ x3.toInt ≤ 5) (hx6 : 1 ≤ x6.toInt ∧ x6.toInt ≤ 8) (hx7 : 0 ≤ x7.toInt ∧ x7.toInt ≤ 40) (hx9 : 0 ≤ x9.toInt ∧ x9.toInt ≤ 10) (hx10 : 0 ≤ x10.toInt ∧ x10.toInt ≤ 60) (hx11 : 0 ≤ x11.toInt ∧ x11.toInt ≤ 60) (hx12 : 0 ≤ x12.toInt ∧ x12.toInt ≤ 60) (hx13 : 0 ≤ x13.toInt ∧ x13.toInt ≤ 8) (hx15 : 0 ≤ x15.toInt ∧ x15.toInt ≤ 1) : ka_E l D F yX7_set wsX7_set 1 22 0 0 [.ref a0, .int x0, .int x1] [(a0, .inr (7, [.ref a1, .int x2, .ref a2, .ref a3, .ref a4, .ref a5, .ref a6, .ref a7, .ref a8, .int x3, .int x4, .int x5, .int x6, .int x7, .int x8, .int x9, .ref a9, .ref a10, .ref a11, .ref a12, .ref a13, .ref a14, .int x10, .int x11, .int x12, .int x13, .int x14, .int x15]))] [] (fun (u : (Int32) × (Int32) × (Int32) × (Int32)) => some (.int (u.2.2.2))) (fun (u : (Int32) × (Int32) × (Int32) × (Int32)) => (1 ≤ (u.2.2.1).toInt ∧ (u.2.2.1).toInt ≤ 8) ∧ (0 ≤ (u.2.2.2).toInt ∧ (u.2.2.2).toInt ≤ 1)) (fun (u : (Int32) × (Int32) × (Int32) × (Int32)) => [(a0, .inr (7, [.ref a1, .int x2, .ref a2, .ref a3, .ref a4, .ref a5, .ref a6, .ref a7, .ref a8, .int x3, .int (u.1), .int (u.2.1), .int (u.2.2.1), .int x7, .int x8, .int x9, .ref a9, .ref a10, .ref a11, .ref a12, .ref a13, .ref a14, .int x10, .int x11, .int x12, .int x13, .int x14, .int x15]))]) (fun (u : (Int32) × (Int32) × (Int32) × (Int32)) => []) := by
  refine ka_E_of (cc := cX7_set) (maxL := 3) (ret := (some .boolean)) (by decide) rfl (Nat.le_of_ble_eq_true rfl) ?_
  intro p e s m below meth c ls A C hr hlk hin hP hK hD hS hA hE hN hl
  have C : CallFix p m c cX7_set 3 s [.ref a0, .int x0, .int x1].toArray wsX7_set RX7 := C
  obtain ⟨hx, hb, hml, hown, hts⟩ := id C
  have hl : lv_has ls 3 [(0, .ref a0), (1, .int x0), (2, .int x1)] := hl
  have rx0 := ka_rng x0
  have rx1 := ka_rng x1
  have rx2 := ka_rng x2
  have rx3 := ka_rng x3
  have rx4 := ka_rng x4
  have rx5 := ka_rng x5
  have rx6 := ka_rng x6
  have rx7 := ka_rng x7
  have rx8 := ka_rng x8
  have rx9 := ka_rng x9
  have rx10 := ka_rng x10
  have rx11 := ka_rng x11
  have rx12 := ka_rng x12
  have rx13 := ka_rng x13
  have rx14 := ka_rng x14
  have rx15 := ka_rng x15
  rcases (show x0.toInt ≤ -1 ∨ x0.toInt = 0 ∨ x0.toInt = 1 ∨ x0.toInt = 2 ∨ 3 ≤ x0.toInt by omega) with y_35661 | y_35661 | y_35661 | y_35661 | y_35661
  · skip
    rcases (show x1.toInt ≤ -1 ∨ x1.toInt = 0 ∨ (1 ≤ x1.toInt ∧ x1.toInt ≤ 3) ∨ (4 ≤ x1.toInt ∧ x1.toInt ≤ 5) ∨ (6 ≤ x1.toInt ∧ x1.toInt ≤ 8) ∨ 9 ≤ x1.toInt by omega) with y_35662 | y_35662 | y_35662 | y_35662 | y_35662 | y_35662
    · skip
      refine lv_iload_n hx hb dX7_set_0 rfl (lv_at hl 1 rfl) ?_
      refine lv_iconst (v := 0) hx hb dX7_set_1 (by decide) ?_
      refine lv_iconst (v := 2) hx hb dX7_set_2 (by decide) ?_
      refine ka_RS (n := 3) C (cg_X7_isIn_282 l D F x0 (by omega)) gX7_set_X7_isIn rfl (by decide +kernel) ⟨Nat.le_of_ble_eq_true rfl, Nat.le_of_ble_eq_true rfl⟩ hK hP hS hE hN [] rfl [] rfl rfl hl.1 (rest := []) rfl (Nat.le_of_ble_eq_true rfl) dX7_set_3 ⟨Nat.le_of_ble_eq_true rfl, Nat.le_of_ble_eq_true rfl⟩ (fun v hv => ?_)
      subst hv
      refine ka_stk (w := [.int 0]) rfl ?_
      refine lv_if_eq (tgt := 44) hx hb dX7_set_6 (by decide) (fun _ => ?_) (fun c_ => absurd (by decide) c_)
      refine lv_iconst (v := 0) hx hb dX7_set_44 (by decide) ?_
      exact ka_rEz C hr hlk rfl (Nat.le_of_ble_eq_true rfl) (Nat.le_of_ble_eq_true rfl) hS (ka_qE (x4, x5, x6, 0) rfl ⟨(show 1 ≤ x6.toInt ∧ x6.toInt ≤ 8 from ⟨by omega, by omega⟩), (show 0 ≤ ((0 : Int32)).toInt ∧ ((0 : Int32)).toInt ≤ 1 from ⟨by decide, by decide⟩)⟩ hK hP hD hS [0] (by decide) rfl [] rfl) dX7_set_45
    · obtain rfl : x1 = 0 := (ka_eq' _ _).mpr (y_35662.trans (by decide))
      refine lv_iload_n hx hb dX7_set_0 rfl (lv_at hl 1 rfl) ?_
      refine lv_iconst (v := 0) hx hb dX7_set_1 (by decide) ?_
      refine lv_iconst (v := 2) hx hb dX7_set_2 (by decide) ?_
      refine ka_RS (n := 3) C (cg_X7_isIn_282 l D F x0 (by omega)) gX7_set_X7_isIn rfl (by decide +kernel) ⟨Nat.le_of_ble_eq_true rfl, Nat.le_of_ble_eq_true rfl⟩ hK hP hS hE hN [] rfl [] rfl rfl hl.1 (rest := []) rfl (Nat.le_of_ble_eq_true rfl) dX7_set_3 ⟨Nat.le_of_ble_eq_true rfl, Nat.le_of_ble_eq_true rfl⟩ (fun v hv => ?_)
      subst hv
      refine ka_stk (w := [.int 0]) rfl ?_
      refine lv_if_eq (tgt := 44) hx hb dX7_set_6 (by decide) (fun _ => ?_) (fun c_ => absurd (by decide) c_)
      refine lv_iconst (v := 0) hx hb dX7_set_44 (by decide) ?_
      exact ka_rEz C hr hlk rfl (Nat.le_of_ble_eq_true rfl) (Nat.le_of_ble_eq_true rfl) hS (ka_qE (x4, x5, x6, 0) rfl ⟨(show 1 ≤ x6.toInt ∧ x6.toInt ≤ 8 from ⟨by omega, by omega⟩), (show 0 ≤ ((0 : Int32)).toInt ∧ ((0 : Int32)).toInt ≤ 1 from ⟨by decide, by decide⟩)⟩ hK hP hD hS [0] (by decide) rfl [] rfl) dX7_set_45
    · skip
      refine lv_iload_n hx hb dX7_set_0 rfl (lv_at hl 1 rfl) ?_
      refine lv_iconst (v := 0) hx hb dX7_set_1 (by decide) ?_
      refine lv_iconst (v := 2) hx hb dX7_set_2 (by decide) ?_
      refine ka_RS (n := 3) C (cg_X7_isIn_282 l D F x0 (by omega)) gX7_set_X7_isIn rfl (by decide +kernel) ⟨Nat.le_of_ble_eq_true rfl, Nat.le_of_ble_eq_true rfl⟩ hK hP hS hE hN [] rfl [] rfl rfl hl.1 (rest := []) rfl (Nat.le_of_ble_eq_true rfl) dX7_set_3 ⟨Nat.le_of_ble_eq_true rfl, Nat.le_of_ble_eq_true rfl⟩ (fun v hv => ?_)
      subst hv
      refine ka_stk (w := [.int 0]) rfl ?_
      refine lv_if_eq (tgt := 44) hx hb dX7_set_6 (by decide) (fun _ => ?_) (fun c_ => absurd (by decide) c_)
      refine lv_iconst (v := 0) hx hb dX7_set_44 (by decide) ?_
      exact ka_rEz C hr hlk rfl (Nat.le_of_ble_eq_true rfl) (Nat.le_of_ble_eq_true rfl) hS (ka_qE (x4, x5, x6, 0) rfl ⟨(show 1 ≤ x6.toInt ∧ x6.toInt ≤ 8 from ⟨by omega, by omega⟩), (show 0 ≤ ((0 : Int32)).toInt ∧ ((0 : Int32)).toInt ≤ 1 from ⟨by decide, by decide⟩)⟩ hK hP hD hS [0] (by decide) rfl [] rfl) dX7_set_45
    · skip
      refine lv_iload_n hx hb dX7_set_0 rfl (lv_at hl 1 rfl) ?_
      refine lv_iconst (v := 0) hx hb dX7_set_1 (by decide) ?_
      refine lv_iconst (v := 2) hx hb dX7_set_2 (by decide) ?_
      refine ka_RS (n := 3) C (cg_X7_isIn_282 l D F x0 (by omega)) gX7_set_X7_isIn rfl (by decide +kernel) ⟨Nat.le_of_ble_eq_true rfl, Nat.le_of_ble_eq_true rfl⟩ hK hP hS hE hN [] rfl [] rfl rfl hl.1 (rest := []) rfl (Nat.le_of_ble_eq_true rfl) dX7_set_3 ⟨Nat.le_of_ble_eq_true rfl, Nat.le_of_ble_eq_true rfl⟩ (fun v hv => ?_)
      subst hv
      refine ka_stk (w := [.int 0]) rfl ?_
      refine lv_if_eq (tgt := 44) hx hb dX7_set_6 (by decide) (fun _ => ?_) (fun c_ => absurd (by decide) c_)
      refine lv_iconst (v := 0) hx hb dX7_set_44 (by decide) ?_
      exact ka_rEz C hr hlk rfl (Nat.le_of_ble_eq_true rfl) (Nat.le_of_ble_eq_true rfl) hS (ka_qE (x4, x5, x6, 0) rfl ⟨(show 1 ≤ x6.toInt ∧ x6.toInt ≤ 8 from ⟨by omega, by omega⟩), (show 0 ≤ ((0 : Int32)).toInt ∧ ((0 : Int32)).toInt ≤ 1 from ⟨by decide, by decide⟩)⟩ hK hP hD hS [0] (by decide) rfl [] rfl) dX7_set_45
    · skip
      refine lv_iload_n hx hb dX7_set_0 rfl (lv_at hl 1 rfl) ?_
      refine lv_iconst (v := 0) hx hb dX7_set_1 (by decide) ?_
      refine lv_iconst (v := 2) hx hb dX7_set_2 (by decide) ?_
      refine ka_RS (n := 3) C (cg_X7_isIn_282 l D F x0 (by omega)) gX7_set_X7_isIn rfl (by decide +kernel) ⟨Nat.le_of_ble_eq_true rfl, Nat.le_of_ble_eq_true rfl⟩ hK hP hS hE hN [] rfl [] rfl rfl hl.1 (rest := []) rfl (Nat.le_of_ble_eq_true rfl) dX7_set_3 ⟨Nat.le_of_ble_eq_true rfl, Nat.le_of_ble_eq_true rfl⟩ (fun v hv => ?_)
      subst hv
      refine ka_stk (w := [.int 0]) rfl ?_
      refine lv_if_eq (tgt := 44) hx hb dX7_set_6 (by decide) (fun _ => ?_) (fun c_ => absurd (by decide) c_)
      refine lv_iconst (v := 0) hx hb dX7_set_44 (by decide) ?_
      exact ka_rEz C hr hlk rfl (Nat.le_of_ble_eq_true rfl) (Nat.le_of_ble_eq_true rfl) hS (ka_qE (x4, x5, x6, 0) rfl ⟨(show 1 ≤ x6.toInt ∧ x6.toInt ≤ 8 from ⟨by omega, by omega⟩), (show 0 ≤ ((0 : Int32)).toInt ∧ ((0 : Int32)).toInt ≤ 1 from ⟨by decide, by decide⟩)⟩ hK hP hD hS [0] (by decide) rfl [] rfl) dX7_set_45
    · skip
      refine lv_iload_n hx hb dX7_set_0 rfl (lv_at hl 1 rfl) ?_
      refine lv_iconst (v := 0) hx hb dX7_set_1 (by decide) ?_
      refine lv_iconst (v := 2) hx hb dX7_set_2 (by decide) ?_
      refine ka_RS (n := 3) C (cg_X7_isIn_282 l D F x0 (by omega)) gX7_set_X7_isIn rfl (by decide +kernel) ⟨Nat.le_of_ble_eq_true rfl, Nat.le_of_ble_eq_true rfl⟩ hK hP hS hE hN [] rfl [] rfl rfl hl.1 (rest := []) rfl (Nat.le_of_ble_eq_true rfl) dX7_set_3 ⟨Nat.le_of_ble_eq_true rfl, Nat.le_of_ble_eq_true rfl⟩ (fun v hv => ?_)
      subst hv
      refine ka_stk (w := [.int 0]) rfl ?_
      refine lv_if_eq (tgt := 44) hx hb dX7_set_6 (by decide) (fun _ => ?_) (fun c_ => absurd (by decide) c_)
      refine lv_iconst (v := 0) hx hb dX7_set_44 (by decide) ?_
      exact ka_rEz C hr hlk rfl (Nat.le_of_ble_eq_true rfl) (Nat.le_of_ble_eq_true rfl) hS (ka_qE (x4, x5, x6, 0) rfl ⟨(show 1 ≤ x6.toInt ∧ x6.toInt ≤ 8 from ⟨by omega, by omega⟩), (show 0 ≤ ((0 : Int32)).toInt ∧ ((0 : Int32)).toInt ≤ 1 from ⟨by decide, by decide⟩)⟩ hK hP hD hS [0] (by decide) rfl [] rfl) dX7_set_45
  · obtain rfl : x0 = 0 := (ka_eq' _ _).mpr (y_35661.trans (by decide))
    rcases (show x1.toInt ≤ -1 ∨ x1.toInt = 0 ∨ (1 ≤ x1.toInt ∧ x1.toInt ≤ 3) ∨ (4 ≤ x1.toInt ∧ x1.toInt ≤ 5) ∨ (6 ≤ x1.toInt ∧ x1.toInt ≤ 8) ∨ 9 ≤ x1.toInt by omega) with y_35663 | y_35663 | y_35663 | y_35663 | y_35663 | y_35663
    · skip
      refine lv_iload_n hx hb dX7_set_0 rfl (lv_at hl 1 rfl) ?_
      refine lv_iconst (v := 0) hx hb dX7_set_1 (by decide) ?_
      refine lv_iconst (v := 2) hx hb dX7_set_2 (by decide) ?_
      refine ka_RS (n := 3) C (cg_X7_isIn_296 l D F ) gX7_set_X7_isIn rfl (by decide +kernel) ⟨Nat.le_of_ble_eq_true rfl, Nat.le_of_ble_eq_true rfl⟩ hK hP hS hE hN [] rfl [] rfl rfl hl.1 (rest := []) rfl (Nat.le_of_ble_eq_true rfl) dX7_set_3 ⟨Nat.le_of_ble_eq_true rfl, Nat.le_of_ble_eq_true rfl⟩ (fun v hv => ?_)
      subst hv
      refine ka_stk (w := [.int 1]) rfl ?_
      refine lv_if_eq (tgt := 44) hx hb dX7_set_6 (by decide) (fun c_ => absurd c_ (by decide)) (fun _ => ?_)
      refine lv_iload_n hx hb dX7_set_9 rfl (lv_at hl 2 rfl) ?_
      refine lv_iload_n hx hb dX7_set_10 rfl (lv_at hl 1 rfl) ?_
      refine lv_if_ne (tgt := 18) hx hb dX7_set_11 (by decide) (fun c_ => absurd (by decide) c_) (fun _ => ?_)
      refine lv_iconst (v := 0) hx hb dX7_set_14 (by decide) ?_
      refine lv_goto (tgt := 19) hx hb dX7_set_15 (by decide) ?_
      refine lv_iload_n hx hb dX7_set_19 rfl (lv_at hl 1 rfl) ?_
      refine lv_if_ne (tgt := 27) hx hb dX7_set_20 (by decide) (fun c_ => absurd (by decide) c_) (fun _ => ?_)
      refine lv_iconst (v := 3) hx hb dX7_set_23 (by decide) ?_
      refine lv_goto (tgt := 38) hx hb dX7_set_24 (by decide) ?_
      refine ka_RS (n := 3) C (cg_X7_isIn_297 l D F x1 (by omega)) gX7_set_X7_isIn rfl (by decide +kernel) ⟨Nat.le_of_ble_eq_true rfl, Nat.le_of_ble_eq_true rfl⟩ hK hP hS hE hN [] rfl [] rfl rfl hl.1 (rest := []) rfl (Nat.le_of_ble_eq_true rfl) dX7_set_38 ⟨Nat.le_of_ble_eq_true rfl, Nat.le_of_ble_eq_true rfl⟩ (fun v hv => ?_)
      subst hv
      refine ka_stk (w := [.int 0]) rfl ?_
      refine lv_if_ne (tgt := 46) hx hb dX7_set_41 (by decide) (fun c_ => absurd (by decide) c_) (fun _ => ?_)
      refine lv_iconst (v := 0) hx hb dX7_set_44 (by decide) ?_
      exact ka_rEz C hr hlk rfl (Nat.le_of_ble_eq_true rfl) (Nat.le_of_ble_eq_true rfl) hS (ka_qE (x4, x5, x6, 0) rfl ⟨(show 1 ≤ x6.toInt ∧ x6.toInt ≤ 8 from ⟨by omega, by omega⟩), (show 0 ≤ ((0 : Int32)).toInt ∧ ((0 : Int32)).toInt ≤ 1 from ⟨by decide, by decide⟩)⟩ hK hP hD hS [0] (by decide) rfl [] rfl) dX7_set_45
    · obtain rfl : x1 = 0 := (ka_eq' _ _).mpr (y_35663.trans (by decide))
      refine lv_iload_n hx hb dX7_set_0 rfl (lv_at hl 1 rfl) ?_
      refine lv_iconst (v := 0) hx hb dX7_set_1 (by decide) ?_
      refine lv_iconst (v := 2) hx hb dX7_set_2 (by decide) ?_
      refine ka_RS (n := 3) C (cg_X7_isIn_296 l D F ) gX7_set_X7_isIn rfl (by decide +kernel) ⟨Nat.le_of_ble_eq_true rfl, Nat.le_of_ble_eq_true rfl⟩ hK hP hS hE hN [] rfl [] rfl rfl hl.1 (rest := []) rfl (Nat.le_of_ble_eq_true rfl) dX7_set_3 ⟨Nat.le_of_ble_eq_true rfl, Nat.le_of_ble_eq_true rfl⟩ (fun v hv => ?_)
      subst hv
      refine ka_stk (w := [.int 1]) rfl ?_
      refine lv_if_eq (tgt := 44) hx hb dX7_set_6 (by decide) (fun c_ => absurd c_ (by decide)) (fun _ => ?_)
      refine lv_iload_n hx hb dX7_set_9 rfl (lv_at hl 2 rfl) ?_
      refine lv_iload_n hx hb dX7_set_10 rfl (lv_at hl 1 rfl) ?_
      refine lv_if_ne (tgt := 18) hx hb dX7_set_11 (by decide) (fun c_ => absurd (by decide) c_) (fun _ => ?_)
      refine lv_iconst (v := 0) hx hb dX7_set_14 (by decide) ?_
      refine lv_goto (tgt := 19) hx hb dX7_set_15 (by decide) ?_
      refine lv_iload_n hx hb dX7_set_19 rfl (lv_at hl 1 rfl) ?_
      refine lv_if_ne (tgt := 27) hx hb dX7_set_20 (by decide) (fun c_ => absurd (by decide) c_) (fun _ => ?_)
      refine lv_iconst (v := 3) hx hb dX7_set_23 (by decide) ?_
      refine lv_goto (tgt := 38) hx hb dX7_set_24 (by decide) ?_
      refine ka_RS (n := 3) C (cg_X7_isIn_302 l D F ) gX7_set_X7_isIn rfl (by decide +kernel) ⟨Nat.le_of_ble_eq_true rfl, Nat.le_of_ble_eq_true rfl⟩ hK hP hS hE hN [] rfl [] rfl rfl hl.1 (rest := []) rfl (Nat.le_of_ble_eq_true rfl) dX7_set_38 ⟨Nat.le_of_ble_eq_true rfl, Nat.le_of_ble_eq_true rfl⟩ (fun v hv => ?_)
      subst hv
      refine ka_stk (w := [.int 1]) rfl ?_
      refine lv_if_ne (tgt := 46) hx hb dX7_set_41 (by decide) (fun _ => ?_) (fun c_ => absurd c_ (by decide))
      refine lv_iload_n hx hb dX7_set_46 rfl (lv_at hl 1 rfl) ?_
      refine lv_if_ne (tgt := 58) hx hb dX7_set_47 (by decide) (fun c_ => absurd (by decide) c_) (fun _ => ?_)
      refine lv_aload_n hx hb dX7_set_50 rfl (lv_at hl 0 rfl) ?_
      refine lv_iload_n hx hb dX7_set_51 rfl (lv_at hl 2 rfl) ?_
      refine ka_put C lq_363 tyX7 tyX7_ok nmX7 rfl hK hP hD hS 0 rfl 10 (by decide) lq_364 rfl rfl rfl (Nat.le_of_ble_eq_true rfl) dX7_set_52 (fun H locs hP hD hS => ?_)
      have hP : va_P D vwCl [(a0, .inr (7, [.ref a1, .int x2, .ref a2, .ref a3, .ref a4, .ref a5, .ref a6, .ref a7, .ref a8, .int x3, .int 0, .int x5, .int x6, .int x7, .int x8, .int x9, .ref a9, .ref a10, .ref a11, .ref a12, .ref a13, .ref a14, .int x10, .int x11, .int x12, .int x13, .int x14, .int x15]))] H := hP
      have hD : va_D A [(a0, .inr (7, [.ref a1, .int x2, .ref a2, .ref a3, .ref a4, .ref a5, .ref a6, .ref a7, .ref a8, .int x3, .int 0, .int x5, .int x6, .int x7, .int x8, .int x9, .ref a9, .ref a10, .ref a11, .ref a12, .ref a13, .ref a14, .int x10, .int x11, .int x12, .int x13, .int x14, .int x15]))] := hD
      refine lv_goto (tgt := 76) hx hb dX7_set_55 (by decide) ?_
      refine lv_iconst (v := 1) hx hb dX7_set_76 (by decide) ?_
      exact ka_rEz C hr hlk rfl (Nat.le_of_ble_eq_true rfl) (Nat.le_of_ble_eq_true rfl) hS (ka_qE (0, x5, x6, 1) rfl ⟨(show 1 ≤ x6.toInt ∧ x6.toInt ≤ 8 from ⟨by omega, by omega⟩), (show 0 ≤ ((1 : Int32)).toInt ∧ ((1 : Int32)).toInt ≤ 1 from ⟨by decide, by decide⟩)⟩ hK hP hD hS [0] (by decide) rfl [] rfl) dX7_set_77
    · skip
      refine lv_iload_n hx hb dX7_set_0 rfl (lv_at hl 1 rfl) ?_
      refine lv_iconst (v := 0) hx hb dX7_set_1 (by decide) ?_
      refine lv_iconst (v := 2) hx hb dX7_set_2 (by decide) ?_
      refine ka_RS (n := 3) C (cg_X7_isIn_296 l D F ) gX7_set_X7_isIn rfl (by decide +kernel) ⟨Nat.le_of_ble_eq_true rfl, Nat.le_of_ble_eq_true rfl⟩ hK hP hS hE hN [] rfl [] rfl rfl hl.1 (rest := []) rfl (Nat.le_of_ble_eq_true rfl) dX7_set_3 ⟨Nat.le_of_ble_eq_true rfl, Nat.le_of_ble_eq_true rfl⟩ (fun v hv => ?_)
      subst hv
      refine ka_stk (w := [.int 1]) rfl ?_
      refine lv_if_eq (tgt := 44) hx hb dX7_set_6 (by decide) (fun c_ => absurd c_ (by decide)) (fun _ => ?_)
      refine lv_iload_n hx hb dX7_set_9 rfl (lv_at hl 2 rfl) ?_
      refine lv_iload_n hx hb dX7_set_10 rfl (lv_at hl 1 rfl) ?_
      refine lv_if_ne (tgt := 18) hx hb dX7_set_11 (by decide) (fun c_ => absurd (by decide) c_) (fun _ => ?_)
      refine lv_iconst (v := 0) hx hb dX7_set_14 (by decide) ?_
      refine lv_goto (tgt := 19) hx hb dX7_set_15 (by decide) ?_
      refine lv_iload_n hx hb dX7_set_19 rfl (lv_at hl 1 rfl) ?_
      refine lv_if_ne (tgt := 27) hx hb dX7_set_20 (by decide) (fun c_ => absurd (by decide) c_) (fun _ => ?_)
      refine lv_iconst (v := 3) hx hb dX7_set_23 (by decide) ?_
      refine lv_goto (tgt := 38) hx hb dX7_set_24 (by decide) ?_
      refine ka_RS (n := 3) C (cg_X7_isIn_305 l D F x1 ⟨by omega, by omega⟩) gX7_set_X7_isIn rfl (by decide +kernel) ⟨Nat.le_of_ble_eq_true rfl, Nat.le_of_ble_eq_true rfl⟩ hK hP hS hE hN [] rfl [] rfl rfl hl.1 (rest := []) rfl (Nat.le_of_ble_eq_true rfl) dX7_set_38 ⟨Nat.le_of_ble_eq_true rfl, Nat.le_of_ble_eq_true rfl⟩ (fun v hv => ?_)
      subst hv
      refine ka_stk (w := [.int 1]) rfl ?_
      refine lv_if_ne (tgt := 46) hx hb dX7_set_41 (by decide) (fun _ => ?_) (fun c_ => absurd c_ (by decide))
      refine lv_iload_n hx hb dX7_set_46 rfl (lv_at hl 1 rfl) ?_
      refine lv_if_ne (tgt := 58) hx hb dX7_set_47 (by decide) (fun c_ => absurd (by decide) c_) (fun _ => ?_)
      refine lv_aload_n hx hb dX7_set_50 rfl (lv_at hl 0 rfl) ?_
      refine lv_iload_n hx hb dX7_set_51 rfl (lv_at hl 2 rfl) ?_
      refine ka_put C lq_363 tyX7 tyX7_ok nmX7 rfl hK hP hD hS 0 rfl 10 (by decide) lq_364 rfl rfl rfl (Nat.le_of_ble_eq_true rfl) dX7_set_52 (fun H locs hP hD hS => ?_)
      have hP : va_P D vwCl [(a0, .inr (7, [.ref a1, .int x2, .ref a2, .ref a3, .ref a4, .ref a5, .ref a6, .ref a7, .ref a8, .int x3, .int x1, .int x5, .int x6, .int x7, .int x8, .int x9, .ref a9, .ref a10, .ref a11, .ref a12, .ref a13, .ref a14, .int x10, .int x11, .int x12, .int x13, .int x14, .int x15]))] H := hP
      have hD : va_D A [(a0, .inr (7, [.ref a1, .int x2, .ref a2, .ref a3, .ref a4, .ref a5, .ref a6, .ref a7, .ref a8, .int x3, .int x1, .int x5, .int x6, .int x7, .int x8, .int x9, .ref a9, .ref a10, .ref a11, .ref a12, .ref a13, .ref a14, .int x10, .int x11, .int x12, .int x13, .int x14, .int x15]))] := hD
      refine lv_goto (tgt := 76) hx hb dX7_set_55 (by decide) ?_
      refine lv_iconst (v := 1) hx hb dX7_set_76 (by decide) ?_
      exact ka_rEz C hr hlk rfl (Nat.le_of_ble_eq_true rfl) (Nat.le_of_ble_eq_true rfl) hS (ka_qE (x1, x5, x6, 1) rfl ⟨(show 1 ≤ x6.toInt ∧ x6.toInt ≤ 8 from ⟨by omega, by omega⟩), (show 0 ≤ ((1 : Int32)).toInt ∧ ((1 : Int32)).toInt ≤ 1 from ⟨by decide, by decide⟩)⟩ hK hP hD hS [0] (by decide) rfl [] rfl) dX7_set_77
    · skip
      refine lv_iload_n hx hb dX7_set_0 rfl (lv_at hl 1 rfl) ?_
      refine lv_iconst (v := 0) hx hb dX7_set_1 (by decide) ?_
      refine lv_iconst (v := 2) hx hb dX7_set_2 (by decide) ?_
      refine ka_RS (n := 3) C (cg_X7_isIn_296 l D F ) gX7_set_X7_isIn rfl (by decide +kernel) ⟨Nat.le_of_ble_eq_true rfl, Nat.le_of_ble_eq_true rfl⟩ hK hP hS hE hN [] rfl [] rfl rfl hl.1 (rest := []) rfl (Nat.le_of_ble_eq_true rfl) dX7_set_3 ⟨Nat.le_of_ble_eq_true rfl, Nat.le_of_ble_eq_true rfl⟩ (fun v hv => ?_)
      subst hv
      refine ka_stk (w := [.int 1]) rfl ?_
      refine lv_if_eq (tgt := 44) hx hb dX7_set_6 (by decide) (fun c_ => absurd c_ (by decide)) (fun _ => ?_)
      refine lv_iload_n hx hb dX7_set_9 rfl (lv_at hl 2 rfl) ?_
      refine lv_iload_n hx hb dX7_set_10 rfl (lv_at hl 1 rfl) ?_
      refine lv_if_ne (tgt := 18) hx hb dX7_set_11 (by decide) (fun c_ => absurd (by decide) c_) (fun _ => ?_)
      refine lv_iconst (v := 0) hx hb dX7_set_14 (by decide) ?_
      refine lv_goto (tgt := 19) hx hb dX7_set_15 (by decide) ?_
      refine lv_iload_n hx hb dX7_set_19 rfl (lv_at hl 1 rfl) ?_
      refine lv_if_ne (tgt := 27) hx hb dX7_set_20 (by decide) (fun c_ => absurd (by decide) c_) (fun _ => ?_)
      refine lv_iconst (v := 3) hx hb dX7_set_23 (by decide) ?_
      refine lv_goto (tgt := 38) hx hb dX7_set_24 (by decide) ?_
      refine ka_RS (n := 3) C (cg_X7_isIn_308 l D F x1 ⟨by omega, by omega⟩) gX7_set_X7_isIn rfl (by decide +kernel) ⟨Nat.le_of_ble_eq_true rfl, Nat.le_of_ble_eq_true rfl⟩ hK hP hS hE hN [] rfl [] rfl rfl hl.1 (rest := []) rfl (Nat.le_of_ble_eq_true rfl) dX7_set_38 ⟨Nat.le_of_ble_eq_true rfl, Nat.le_of_ble_eq_true rfl⟩ (fun v hv => ?_)
      subst hv
      refine ka_stk (w := [.int 0]) rfl ?_
      refine lv_if_ne (tgt := 46) hx hb dX7_set_41 (by decide) (fun c_ => absurd (by decide) c_) (fun _ => ?_)
      refine lv_iconst (v := 0) hx hb dX7_set_44 (by decide) ?_
      exact ka_rEz C hr hlk rfl (Nat.le_of_ble_eq_true rfl) (Nat.le_of_ble_eq_true rfl) hS (ka_qE (x4, x5, x6, 0) rfl ⟨(show 1 ≤ x6.toInt ∧ x6.toInt ≤ 8 from ⟨by omega, by omega⟩), (show 0 ≤ ((0 : Int32)).toInt ∧ ((0 : Int32)).toInt ≤ 1 from ⟨by decide, by decide⟩)⟩ hK hP hD hS [0] (by decide) rfl [] rfl) dX7_set_45
    · skip
      refine lv_iload_n hx hb dX7_set_0 rfl (lv_at hl 1 rfl) ?_
      refine lv_iconst (v := 0) hx hb dX7_set_1 (by decide) ?_
      refine lv_iconst (v := 2) hx hb dX7_set_2 (by decide) ?_
      refine ka_RS (n := 3) C (cg_X7_isIn_296 l D F ) gX7_set_X7_isIn rfl (by decide +kernel) ⟨Nat.le_of_ble_eq_true rfl, Nat.le_of_ble_eq_true rfl⟩ hK hP hS hE hN [] rfl [] rfl rfl hl.1 (rest := []) rfl (Nat.le_of_ble_eq_true rfl) dX7_set_3 ⟨Nat.le_of_ble_eq_true rfl, Nat.le_of_ble_eq_true rfl⟩ (fun v hv => ?_)
      subst hv
      refine ka_stk (w := [.int 1]) rfl ?_
      refine lv_if_eq (tgt := 44) hx hb dX7_set_6 (by decide) (fun c_ => absurd c_ (by decide)) (fun _ => ?_)
      refine lv_iload_n hx hb dX7_set_9 rfl (lv_at hl 2 rfl) ?_
      refine lv_iload_n hx hb dX7_set_10 rfl (lv_at hl 1 rfl) ?_
      refine lv_if_ne (tgt := 18) hx hb dX7_set_11 (by decide) (fun c_ => absurd (by decide) c_) (fun _ => ?_)
      refine lv_iconst (v := 0) hx hb dX7_set_14 (by decide) ?_
      refine lv_goto (tgt := 19) hx hb dX7_set_15 (by decide) ?_
      refine lv_iload_n hx hb dX7_set_19 rfl (lv_at hl 1 rfl) ?_
      refine lv_if_ne (tgt := 27) hx hb dX7_set_20 (by decide) (fun c_ => absurd (by decide) c_) (fun _ => ?_)
      refine lv_iconst (v := 3) hx hb dX7_set_23 (by decide) ?_
      refine lv_goto (tgt := 38) hx hb dX7_set_24 (by decide) ?_
      refine ka_RS (n := 3) C (cg_X7_isIn_312 l D F x1 ⟨by omega, by omega⟩) gX7_set_X7_isIn rfl (by decide +kernel) ⟨Nat.le_of_ble_eq_true rfl, Nat.le_of_ble_eq_true rfl⟩ hK hP hS hE hN [] rfl [] rfl rfl hl.1 (rest := []) rfl (Nat.le_of_ble_eq_true rfl) dX7_set_38 ⟨Nat.le_of_ble_eq_true rfl, Nat.le_of_ble_eq_true rfl⟩ (fun v hv => ?_)
      subst hv
      refine ka_stk (w := [.int 0]) rfl ?_
      refine lv_if_ne (tgt := 46) hx hb dX7_set_41 (by decide) (fun c_ => absurd (by decide) c_) (fun _ => ?_)
      refine lv_iconst (v := 0) hx hb dX7_set_44 (by decide) ?_
      exact ka_rEz C hr hlk rfl (Nat.le_of_ble_eq_true rfl) (Nat.le_of_ble_eq_true rfl) hS (ka_qE (x4, x5, x6, 0) rfl ⟨(show 1 ≤ x6.toInt ∧ x6.toInt ≤ 8 from ⟨by omega, by omega⟩), (show 0 ≤ ((0 : Int32)).toInt ∧ ((0 : Int32)).toInt ≤ 1 from ⟨by decide, by decide⟩)⟩ hK hP hD hS [0] (by decide) rfl [] rfl) dX7_set_45
    · skip
      refine lv_iload_n hx hb dX7_set_0 rfl (lv_at hl 1 rfl) ?_
      refine lv_iconst (v := 0) hx hb dX7_set_1 (by decide) ?_
      refine lv_iconst (v := 2) hx hb dX7_set_2 (by decide) ?_
      refine ka_RS (n := 3) C (cg_X7_isIn_296 l D F ) gX7_set_X7_isIn rfl (by decide +kernel) ⟨Nat.le_of_ble_eq_true rfl, Nat.le_of_ble_eq_true rfl⟩ hK hP hS hE hN [] rfl [] rfl rfl hl.1 (rest := []) rfl (Nat.le_of_ble_eq_true rfl) dX7_set_3 ⟨Nat.le_of_ble_eq_true rfl, Nat.le_of_ble_eq_true rfl⟩ (fun v hv => ?_)
      subst hv
      refine ka_stk (w := [.int 1]) rfl ?_
      refine lv_if_eq (tgt := 44) hx hb dX7_set_6 (by decide) (fun c_ => absurd c_ (by decide)) (fun _ => ?_)
      refine lv_iload_n hx hb dX7_set_9 rfl (lv_at hl 2 rfl) ?_
      refine lv_iload_n hx hb dX7_set_10 rfl (lv_at hl 1 rfl) ?_
      refine lv_if_ne (tgt := 18) hx hb dX7_set_11 (by decide) (fun c_ => absurd (by decide) c_) (fun _ => ?_)
      refine lv_iconst (v := 0) hx hb dX7_set_14 (by decide) ?_
      refine lv_goto (tgt := 19) hx hb dX7_set_15 (by decide) ?_
      refine lv_iload_n hx hb dX7_set_19 rfl (lv_at hl 1 rfl) ?_
      refine lv_if_ne (tgt := 27) hx hb dX7_set_20 (by decide) (fun c_ => absurd (by decide) c_) (fun _ => ?_)
      refine lv_iconst (v := 3) hx hb dX7_set_23 (by decide) ?_
      refine lv_goto (tgt := 38) hx hb dX7_set_24 (by decide) ?_
      refine ka_RS (n := 3) C (cg_X7_isIn_316 l D F x1 (by omega)) gX7_set_X7_isIn rfl (by decide +kernel) ⟨Nat.le_of_ble_eq_true rfl, Nat.le_of_ble_eq_true rfl⟩ hK hP hS hE hN [] rfl [] rfl rfl hl.1 (rest := []) rfl (Nat.le_of_ble_eq_true rfl) dX7_set_38 ⟨Nat.le_of_ble_eq_true rfl, Nat.le_of_ble_eq_true rfl⟩ (fun v hv => ?_)
      subst hv
      refine ka_stk (w := [.int 0]) rfl ?_
      refine lv_if_ne (tgt := 46) hx hb dX7_set_41 (by decide) (fun c_ => absurd (by decide) c_) (fun _ => ?_)
      refine lv_iconst (v := 0) hx hb dX7_set_44 (by decide) ?_
      exact ka_rEz C hr hlk rfl (Nat.le_of_ble_eq_true rfl) (Nat.le_of_ble_eq_true rfl) hS (ka_qE (x4, x5, x6, 0) rfl ⟨(show 1 ≤ x6.toInt ∧ x6.toInt ≤ 8 from ⟨by omega, by omega⟩), (show 0 ≤ ((0 : Int32)).toInt ∧ ((0 : Int32)).toInt ≤ 1 from ⟨by decide, by decide⟩)⟩ hK hP hD hS [0] (by decide) rfl [] rfl) dX7_set_45
  · obtain rfl : x0 = 1 := (ka_eq' _ _).mpr (y_35661.trans (by decide))
    rcases (show x1.toInt ≤ -1 ∨ x1.toInt = 0 ∨ (1 ≤ x1.toInt ∧ x1.toInt ≤ 3) ∨ (4 ≤ x1.toInt ∧ x1.toInt ≤ 5) ∨ (6 ≤ x1.toInt ∧ x1.toInt ≤ 8) ∨ 9 ≤ x1.toInt by omega) with y_35664 | y_35664 | y_35664 | y_35664 | y_35664 | y_35664
    · skip
      refine lv_iload_n hx hb dX7_set_0 rfl (lv_at hl 1 rfl) ?_
      refine lv_iconst (v := 0) hx hb dX7_set_1 (by decide) ?_
      refine lv_iconst (v := 2) hx hb dX7_set_2 (by decide) ?_
      refine ka_RS (n := 3) C (cg_X7_isIn_320 l D F ) gX7_set_X7_isIn rfl (by decide +kernel) ⟨Nat.le_of_ble_eq_true rfl, Nat.le_of_ble_eq_true rfl⟩ hK hP hS hE hN [] rfl [] rfl rfl hl.1 (rest := []) rfl (Nat.le_of_ble_eq_true rfl) dX7_set_3 ⟨Nat.le_of_ble_eq_true rfl, Nat.le_of_ble_eq_true rfl⟩ (fun v hv => ?_)
      subst hv
      refine ka_stk (w := [.int 1]) rfl ?_
      refine lv_if_eq (tgt := 44) hx hb dX7_set_6 (by decide) (fun c_ => absurd c_ (by decide)) (fun _ => ?_)
      refine lv_iload_n hx hb dX7_set_9 rfl (lv_at hl 2 rfl) ?_
      refine lv_iload_n hx hb dX7_set_10 rfl (lv_at hl 1 rfl) ?_
      refine lv_if_ne (tgt := 18) hx hb dX7_set_11 (by decide) (fun _ => ?_) (fun c_ => absurd c_ (by decide))
      refine lv_iconst (v := 1) hx hb dX7_set_18 (by decide) ?_
      refine lv_iload_n hx hb dX7_set_19 rfl (lv_at hl 1 rfl) ?_
      refine lv_if_ne (tgt := 27) hx hb dX7_set_20 (by decide) (fun _ => ?_) (fun c_ => absurd c_ (by decide))
      refine lv_iload_n hx hb dX7_set_27 rfl (lv_at hl 1 rfl) ?_
      refine lv_iconst (v := 1) hx hb dX7_set_28 (by decide) ?_
      refine lv_icmp_ne (tgt := 36) hx hb dX7_set_29 (by decide) (fun c_ => absurd (by decide) c_) (fun _ => ?_)
      refine lv_iconst (v := 5) hx hb dX7_set_32 (by decide) ?_
      refine lv_goto (tgt := 38) hx hb dX7_set_33 (by decide) ?_
      refine ka_RS (n := 3) C (cg_X7_isIn_321 l D F x1 (by omega)) gX7_set_X7_isIn rfl (by decide +kernel) ⟨Nat.le_of_ble_eq_true rfl, Nat.le_of_ble_eq_true rfl⟩ hK hP hS hE hN [] rfl [] rfl rfl hl.1 (rest := []) rfl (Nat.le_of_ble_eq_true rfl) dX7_set_38 ⟨Nat.le_of_ble_eq_true rfl, Nat.le_of_ble_eq_true rfl⟩ (fun v hv => ?_)
      subst hv
      refine ka_stk (w := [.int 0]) rfl ?_
      refine lv_if_ne (tgt := 46) hx hb dX7_set_41 (by decide) (fun c_ => absurd (by decide) c_) (fun _ => ?_)
      refine lv_iconst (v := 0) hx hb dX7_set_44 (by decide) ?_
      exact ka_rEz C hr hlk rfl (Nat.le_of_ble_eq_true rfl) (Nat.le_of_ble_eq_true rfl) hS (ka_qE (x4, x5, x6, 0) rfl ⟨(show 1 ≤ x6.toInt ∧ x6.toInt ≤ 8 from ⟨by omega, by omega⟩), (show 0 ≤ ((0 : Int32)).toInt ∧ ((0 : Int32)).toInt ≤ 1 from ⟨by decide, by decide⟩)⟩ hK hP hD hS [0] (by decide) rfl [] rfl) dX7_set_45
    · obtain rfl : x1 = 0 := (ka_eq' _ _).mpr (y_35664.trans (by decide))
      refine lv_iload_n hx hb dX7_set_0 rfl (lv_at hl 1 rfl) ?_
      refine lv_iconst (v := 0) hx hb dX7_set_1 (by decide) ?_
      refine lv_iconst (v := 2) hx hb dX7_set_2 (by decide) ?_
      refine ka_RS (n := 3) C (cg_X7_isIn_320 l D F ) gX7_set_X7_isIn rfl (by decide +kernel) ⟨Nat.le_of_ble_eq_true rfl, Nat.le_of_ble_eq_true rfl⟩ hK hP hS hE hN [] rfl [] rfl rfl hl.1 (rest := []) rfl (Nat.le_of_ble_eq_true rfl) dX7_set_3 ⟨Nat.le_of_ble_eq_true rfl, Nat.le_of_ble_eq_true rfl⟩ (fun v hv => ?_)
      subst hv
      refine ka_stk (w := [.int 1]) rfl ?_
      refine lv_if_eq (tgt := 44) hx hb dX7_set_6 (by decide) (fun c_ => absurd c_ (by decide)) (fun _ => ?_)
      refine lv_iload_n hx hb dX7_set_9 rfl (lv_at hl 2 rfl) ?_
      refine lv_iload_n hx hb dX7_set_10 rfl (lv_at hl 1 rfl) ?_
      refine lv_if_ne (tgt := 18) hx hb dX7_set_11 (by decide) (fun _ => ?_) (fun c_ => absurd c_ (by decide))
      refine lv_iconst (v := 1) hx hb dX7_set_18 (by decide) ?_
      refine lv_iload_n hx hb dX7_set_19 rfl (lv_at hl 1 rfl) ?_
      refine lv_if_ne (tgt := 27) hx hb dX7_set_20 (by decide) (fun _ => ?_) (fun c_ => absurd c_ (by decide))
      refine lv_iload_n hx hb dX7_set_27 rfl (lv_at hl 1 rfl) ?_
      refine lv_iconst (v := 1) hx hb dX7_set_28 (by decide) ?_
      refine lv_icmp_ne (tgt := 36) hx hb dX7_set_29 (by decide) (fun c_ => absurd (by decide) c_) (fun _ => ?_)
      refine lv_iconst (v := 5) hx hb dX7_set_32 (by decide) ?_
      refine lv_goto (tgt := 38) hx hb dX7_set_33 (by decide) ?_
      refine ka_RS (n := 3) C (cg_X7_isIn_326 l D F ) gX7_set_X7_isIn rfl (by decide +kernel) ⟨Nat.le_of_ble_eq_true rfl, Nat.le_of_ble_eq_true rfl⟩ hK hP hS hE hN [] rfl [] rfl rfl hl.1 (rest := []) rfl (Nat.le_of_ble_eq_true rfl) dX7_set_38 ⟨Nat.le_of_ble_eq_true rfl, Nat.le_of_ble_eq_true rfl⟩ (fun v hv => ?_)
      subst hv
      refine ka_stk (w := [.int 0]) rfl ?_
      refine lv_if_ne (tgt := 46) hx hb dX7_set_41 (by decide) (fun c_ => absurd (by decide) c_) (fun _ => ?_)
      refine lv_iconst (v := 0) hx hb dX7_set_44 (by decide) ?_
      exact ka_rEz C hr hlk rfl (Nat.le_of_ble_eq_true rfl) (Nat.le_of_ble_eq_true rfl) hS (ka_qE (x4, x5, x6, 0) rfl ⟨(show 1 ≤ x6.toInt ∧ x6.toInt ≤ 8 from ⟨by omega, by omega⟩), (show 0 ≤ ((0 : Int32)).toInt ∧ ((0 : Int32)).toInt ≤ 1 from ⟨by decide, by decide⟩)⟩ hK hP hD hS [0] (by decide) rfl [] rfl) dX7_set_45
    · skip
      refine lv_iload_n hx hb dX7_set_0 rfl (lv_at hl 1 rfl) ?_
      refine lv_iconst (v := 0) hx hb dX7_set_1 (by decide) ?_
      refine lv_iconst (v := 2) hx hb dX7_set_2 (by decide) ?_
      refine ka_RS (n := 3) C (cg_X7_isIn_320 l D F ) gX7_set_X7_isIn rfl (by decide +kernel) ⟨Nat.le_of_ble_eq_true rfl, Nat.le_of_ble_eq_true rfl⟩ hK hP hS hE hN [] rfl [] rfl rfl hl.1 (rest := []) rfl (Nat.le_of_ble_eq_true rfl) dX7_set_3 ⟨Nat.le_of_ble_eq_true rfl, Nat.le_of_ble_eq_true rfl⟩ (fun v hv => ?_)
      subst hv
      refine ka_stk (w := [.int 1]) rfl ?_
      refine lv_if_eq (tgt := 44) hx hb dX7_set_6 (by decide) (fun c_ => absurd c_ (by decide)) (fun _ => ?_)
      refine lv_iload_n hx hb dX7_set_9 rfl (lv_at hl 2 rfl) ?_
      refine lv_iload_n hx hb dX7_set_10 rfl (lv_at hl 1 rfl) ?_
      refine lv_if_ne (tgt := 18) hx hb dX7_set_11 (by decide) (fun _ => ?_) (fun c_ => absurd c_ (by decide))
      refine lv_iconst (v := 1) hx hb dX7_set_18 (by decide) ?_
      refine lv_iload_n hx hb dX7_set_19 rfl (lv_at hl 1 rfl) ?_
      refine lv_if_ne (tgt := 27) hx hb dX7_set_20 (by decide) (fun _ => ?_) (fun c_ => absurd c_ (by decide))
      refine lv_iload_n hx hb dX7_set_27 rfl (lv_at hl 1 rfl) ?_
      refine lv_iconst (v := 1) hx hb dX7_set_28 (by decide) ?_
      refine lv_icmp_ne (tgt := 36) hx hb dX7_set_29 (by decide) (fun c_ => absurd (by decide) c_) (fun _ => ?_)
      refine lv_iconst (v := 5) hx hb dX7_set_32 (by decide) ?_
      refine lv_goto (tgt := 38) hx hb dX7_set_33 (by decide) ?_
      refine ka_RS (n := 3) C (cg_X7_isIn_330 l D F x1 ⟨by omega, by omega⟩) gX7_set_X7_isIn rfl (by decide +kernel) ⟨Nat.le_of_ble_eq_true rfl, Nat.le_of_ble_eq_true rfl⟩ hK hP hS hE hN [] rfl [] rfl rfl hl.1 (rest := []) rfl (Nat.le_of_ble_eq_true rfl) dX7_set_38 ⟨Nat.le_of_ble_eq_true rfl, Nat.le_of_ble_eq_true rfl⟩ (fun v hv => ?_)
      subst hv
      refine ka_stk (w := [.int 1]) rfl ?_
      refine lv_if_ne (tgt := 46) hx hb dX7_set_41 (by decide) (fun _ => ?_) (fun c_ => absurd c_ (by decide))
      refine lv_iload_n hx hb dX7_set_46 rfl (lv_at hl 1 rfl) ?_
      refine lv_if_ne (tgt := 58) hx hb dX7_set_47 (by decide) (fun _ => ?_) (fun c_ => absurd c_ (by decide))
      refine lv_iload_n hx hb dX7_set_58 rfl (lv_at hl 1 rfl) ?_
      refine lv_iconst (v := 1) hx hb dX7_set_59 (by decide) ?_
      refine lv_icmp_ne (tgt := 71) hx hb dX7_set_60 (by decide) (fun c_ => absurd (by decide) c_) (fun _ => ?_)
      refine lv_aload_n hx hb dX7_set_63 rfl (lv_at hl 0 rfl) ?_
      refine lv_iload_n hx hb dX7_set_64 rfl (lv_at hl 2 rfl) ?_
      refine ka_put C lq_363 tyX7 tyX7_ok nmX7 rfl hK hP hD hS 0 rfl 11 (by decide) lq_366 rfl rfl rfl (Nat.le_of_ble_eq_true rfl) dX7_set_65 (fun H locs hP hD hS => ?_)
      have hP : va_P D vwCl [(a0, .inr (7, [.ref a1, .int x2, .ref a2, .ref a3, .ref a4, .ref a5, .ref a6, .ref a7, .ref a8, .int x3, .int x4, .int x1, .int x6, .int x7, .int x8, .int x9, .ref a9, .ref a10, .ref a11, .ref a12, .ref a13, .ref a14, .int x10, .int x11, .int x12, .int x13, .int x14, .int x15]))] H := hP
      have hD : va_D A [(a0, .inr (7, [.ref a1, .int x2, .ref a2, .ref a3, .ref a4, .ref a5, .ref a6, .ref a7, .ref a8, .int x3, .int x4, .int x1, .int x6, .int x7, .int x8, .int x9, .ref a9, .ref a10, .ref a11, .ref a12, .ref a13, .ref a14, .int x10, .int x11, .int x12, .int x13, .int x14, .int x15]))] := hD
      refine lv_goto (tgt := 76) hx hb dX7_set_68 (by decide) ?_
      refine lv_iconst (v := 1) hx hb dX7_set_76 (by decide) ?_
      exact ka_rEz C hr hlk rfl (Nat.le_of_ble_eq_true rfl) (Nat.le_of_ble_eq_true rfl) hS (ka_qE (x4, x1, x6, 1) rfl ⟨(show 1 ≤ x6.toInt ∧ x6.toInt ≤ 8 from ⟨by omega, by omega⟩), (show 0 ≤ ((1 : Int32)).toInt ∧ ((1 : Int32)).toInt ≤ 1 from ⟨by decide, by decide⟩)⟩ hK hP hD hS [0] (by decide) rfl [] rfl) dX7_set_77
    · skip
      refine lv_iload_n hx hb dX7_set_0 rfl (lv_at hl 1 rfl) ?_
      refine lv_iconst (v := 0) hx hb dX7_set_1 (by decide) ?_
      refine lv_iconst (v := 2) hx hb dX7_set_2 (by decide) ?_
      refine ka_RS (n := 3) C (cg_X7_isIn_320 l D F ) gX7_set_X7_isIn rfl (by decide +kernel) ⟨Nat.le_of_ble_eq_true rfl, Nat.le_of_ble_eq_true rfl⟩ hK hP hS hE hN [] rfl [] rfl rfl hl.1 (rest := []) rfl (Nat.le_of_ble_eq_true rfl) dX7_set_3 ⟨Nat.le_of_ble_eq_true rfl, Nat.le_of_ble_eq_true rfl⟩ (fun v hv => ?_)
      subst hv
      refine ka_stk (w := [.int 1]) rfl ?_
      refine lv_if_eq (tgt := 44) hx hb dX7_set_6 (by decide) (fun c_ => absurd c_ (by decide)) (fun _ => ?_)
      refine lv_iload_n hx hb dX7_set_9 rfl (lv_at hl 2 rfl) ?_
      refine lv_iload_n hx hb dX7_set_10 rfl (lv_at hl 1 rfl) ?_
      refine lv_if_ne (tgt := 18) hx hb dX7_set_11 (by decide) (fun _ => ?_) (fun c_ => absurd c_ (by decide))
      refine lv_iconst (v := 1) hx hb dX7_set_18 (by decide) ?_
      refine lv_iload_n hx hb dX7_set_19 rfl (lv_at hl 1 rfl) ?_
      refine lv_if_ne (tgt := 27) hx hb dX7_set_20 (by decide) (fun _ => ?_) (fun c_ => absurd c_ (by decide))
      refine lv_iload_n hx hb dX7_set_27 rfl (lv_at hl 1 rfl) ?_
      refine lv_iconst (v := 1) hx hb dX7_set_28 (by decide) ?_
      refine lv_icmp_ne (tgt := 36) hx hb dX7_set_29 (by decide) (fun c_ => absurd (by decide) c_) (fun _ => ?_)
      refine lv_iconst (v := 5) hx hb dX7_set_32 (by decide) ?_
      refine lv_goto (tgt := 38) hx hb dX7_set_33 (by decide) ?_
      refine ka_RS (n := 3) C (cg_X7_isIn_333 l D F x1 ⟨by omega, by omega⟩) gX7_set_X7_isIn rfl (by decide +kernel) ⟨Nat.le_of_ble_eq_true rfl, Nat.le_of_ble_eq_true rfl⟩ hK hP hS hE hN [] rfl [] rfl rfl hl.1 (rest := []) rfl (Nat.le_of_ble_eq_true rfl) dX7_set_38 ⟨Nat.le_of_ble_eq_true rfl, Nat.le_of_ble_eq_true rfl⟩ (fun v hv => ?_)
      subst hv
      refine ka_stk (w := [.int 1]) rfl ?_
      refine lv_if_ne (tgt := 46) hx hb dX7_set_41 (by decide) (fun _ => ?_) (fun c_ => absurd c_ (by decide))
      refine lv_iload_n hx hb dX7_set_46 rfl (lv_at hl 1 rfl) ?_
      refine lv_if_ne (tgt := 58) hx hb dX7_set_47 (by decide) (fun _ => ?_) (fun c_ => absurd c_ (by decide))
      refine lv_iload_n hx hb dX7_set_58 rfl (lv_at hl 1 rfl) ?_
      refine lv_iconst (v := 1) hx hb dX7_set_59 (by decide) ?_
      refine lv_icmp_ne (tgt := 71) hx hb dX7_set_60 (by decide) (fun c_ => absurd (by decide) c_) (fun _ => ?_)
      refine lv_aload_n hx hb dX7_set_63 rfl (lv_at hl 0 rfl) ?_
      refine lv_iload_n hx hb dX7_set_64 rfl (lv_at hl 2 rfl) ?_
      refine ka_put C lq_363 tyX7 tyX7_ok nmX7 rfl hK hP hD hS 0 rfl 11 (by decide) lq_366 rfl rfl rfl (Nat.le_of_ble_eq_true rfl) dX7_set_65 (fun H locs hP hD hS => ?_)
      have hP : va_P D vwCl [(a0, .inr (7, [.ref a1, .int x2, .ref a2, .ref a3, .ref a4, .ref a5, .ref a6, .ref a7, .ref a8, .int x3, .int x4, .int x1, .int x6, .int x7, .int x8, .int x9, .ref a9, .ref a10, .ref a11, .ref a12, .ref a13, .ref a14, .int x10, .int x11, .int x12, .int x13, .int x14, .int x15]))] H := hP
      have hD : va_D A [(a0, .inr (7, [.ref a1, .int x2, .ref a2, .ref a3, .ref a4, .ref a5, .ref a6, .ref a7, .ref a8, .int x3, .int x4, .int x1, .int x6, .int x7, .int x8, .int x9, .ref a9, .ref a10, .ref a11, .ref a12, .ref a13, .ref a14, .int x10, .int x11, .int x12, .int x13, .int x14, .int x15]))] := hD
      refine lv_goto (tgt := 76) hx hb dX7_set_68 (by decide) ?_
      refine lv_iconst (v := 1) hx hb dX7_set_76 (by decide) ?_
      exact ka_rEz C hr hlk rfl (Nat.le_of_ble_eq_true rfl) (Nat.le_of_ble_eq_true rfl) hS (ka_qE (x4, x1, x6, 1) rfl ⟨(show 1 ≤ x6.toInt ∧ x6.toInt ≤ 8 from ⟨by omega, by omega⟩), (show 0 ≤ ((1 : Int32)).toInt ∧ ((1 : Int32)).toInt ≤ 1 from ⟨by decide, by decide⟩)⟩ hK hP hD hS [0] (by decide) rfl [] rfl) dX7_set_77
    · skip
      refine lv_iload_n hx hb dX7_set_0 rfl (lv_at hl 1 rfl) ?_
      refine lv_iconst (v := 0) hx hb dX7_set_1 (by decide) ?_
      refine lv_iconst (v := 2) hx hb dX7_set_2 (by decide) ?_
      refine ka_RS (n := 3) C (cg_X7_isIn_320 l D F ) gX7_set_X7_isIn rfl (by decide +kernel) ⟨Nat.le_of_ble_eq_true rfl, Nat.le_of_ble_eq_true rfl⟩ hK hP hS hE hN [] rfl [] rfl rfl hl.1 (rest := []) rfl (Nat.le_of_ble_eq_true rfl) dX7_set_3 ⟨Nat.le_of_ble_eq_true rfl, Nat.le_of_ble_eq_true rfl⟩ (fun v hv => ?_)
      subst hv
      refine ka_stk (w := [.int 1]) rfl ?_
      refine lv_if_eq (tgt := 44) hx hb dX7_set_6 (by decide) (fun c_ => absurd c_ (by decide)) (fun _ => ?_)
      refine lv_iload_n hx hb dX7_set_9 rfl (lv_at hl 2 rfl) ?_
      refine lv_iload_n hx hb dX7_set_10 rfl (lv_at hl 1 rfl) ?_
      refine lv_if_ne (tgt := 18) hx hb dX7_set_11 (by decide) (fun _ => ?_) (fun c_ => absurd c_ (by decide))
      refine lv_iconst (v := 1) hx hb dX7_set_18 (by decide) ?_
      refine lv_iload_n hx hb dX7_set_19 rfl (lv_at hl 1 rfl) ?_
      refine lv_if_ne (tgt := 27) hx hb dX7_set_20 (by decide) (fun _ => ?_) (fun c_ => absurd c_ (by decide))
      refine lv_iload_n hx hb dX7_set_27 rfl (lv_at hl 1 rfl) ?_
      refine lv_iconst (v := 1) hx hb dX7_set_28 (by decide) ?_
      refine lv_icmp_ne (tgt := 36) hx hb dX7_set_29 (by decide) (fun c_ => absurd (by decide) c_) (fun _ => ?_)
      refine lv_iconst (v := 5) hx hb dX7_set_32 (by decide) ?_
      refine lv_goto (tgt := 38) hx hb dX7_set_33 (by decide) ?_
      refine ka_RS (n := 3) C (cg_X7_isIn_336 l D F x1 ⟨by omega, by omega⟩) gX7_set_X7_isIn rfl (by decide +kernel) ⟨Nat.le_of_ble_eq_true rfl, Nat.le_of_ble_eq_true rfl⟩ hK hP hS hE hN [] rfl [] rfl rfl hl.1 (rest := []) rfl (Nat.le_of_ble_eq_true rfl) dX7_set_38 ⟨Nat.le_of_ble_eq_true rfl, Nat.le_of_ble_eq_true rfl⟩ (fun v hv => ?_)
      subst hv
      refine ka_stk (w := [.int 0]) rfl ?_
      refine lv_if_ne (tgt := 46) hx hb dX7_set_41 (by decide) (fun c_ => absurd (by decide) c_) (fun _ => ?_)
      refine lv_iconst (v := 0) hx hb dX7_set_44 (by decide) ?_
      exact ka_rEz C hr hlk rfl (Nat.le_of_ble_eq_true rfl) (Nat.le_of_ble_eq_true rfl) hS (ka_qE (x4, x5, x6, 0) rfl ⟨(show 1 ≤ x6.toInt ∧ x6.toInt ≤ 8 from ⟨by omega, by omega⟩), (show 0 ≤ ((0 : Int32)).toInt ∧ ((0 : Int32)).toInt ≤ 1 from ⟨by decide, by decide⟩)⟩ hK hP hD hS [0] (by decide) rfl [] rfl) dX7_set_45
    · skip
      refine lv_iload_n hx hb dX7_set_0 rfl (lv_at hl 1 rfl) ?_
      refine lv_iconst (v := 0) hx hb dX7_set_1 (by decide) ?_
      refine lv_iconst (v := 2) hx hb dX7_set_2 (by decide) ?_
      refine ka_RS (n := 3) C (cg_X7_isIn_320 l D F ) gX7_set_X7_isIn rfl (by decide +kernel) ⟨Nat.le_of_ble_eq_true rfl, Nat.le_of_ble_eq_true rfl⟩ hK hP hS hE hN [] rfl [] rfl rfl hl.1 (rest := []) rfl (Nat.le_of_ble_eq_true rfl) dX7_set_3 ⟨Nat.le_of_ble_eq_true rfl, Nat.le_of_ble_eq_true rfl⟩ (fun v hv => ?_)
      subst hv
      refine ka_stk (w := [.int 1]) rfl ?_
      refine lv_if_eq (tgt := 44) hx hb dX7_set_6 (by decide) (fun c_ => absurd c_ (by decide)) (fun _ => ?_)
      refine lv_iload_n hx hb dX7_set_9 rfl (lv_at hl 2 rfl) ?_
      refine lv_iload_n hx hb dX7_set_10 rfl (lv_at hl 1 rfl) ?_
      refine lv_if_ne (tgt := 18) hx hb dX7_set_11 (by decide) (fun _ => ?_) (fun c_ => absurd c_ (by decide))
      refine lv_iconst (v := 1) hx hb dX7_set_18 (by decide) ?_
      refine lv_iload_n hx hb dX7_set_19 rfl (lv_at hl 1 rfl) ?_
      refine lv_if_ne (tgt := 27) hx hb dX7_set_20 (by decide) (fun _ => ?_) (fun c_ => absurd c_ (by decide))
      refine lv_iload_n hx hb dX7_set_27 rfl (lv_at hl 1 rfl) ?_
      refine lv_iconst (v := 1) hx hb dX7_set_28 (by decide) ?_
      refine lv_icmp_ne (tgt := 36) hx hb dX7_set_29 (by decide) (fun c_ => absurd (by decide) c_) (fun _ => ?_)
      refine lv_iconst (v := 5) hx hb dX7_set_32 (by decide) ?_
      refine lv_goto (tgt := 38) hx hb dX7_set_33 (by decide) ?_
      refine ka_RS (n := 3) C (cg_X7_isIn_340 l D F x1 (by omega)) gX7_set_X7_isIn rfl (by decide +kernel) ⟨Nat.le_of_ble_eq_true rfl, Nat.le_of_ble_eq_true rfl⟩ hK hP hS hE hN [] rfl [] rfl rfl hl.1 (rest := []) rfl (Nat.le_of_ble_eq_true rfl) dX7_set_38 ⟨Nat.le_of_ble_eq_true rfl, Nat.le_of_ble_eq_true rfl⟩ (fun v hv => ?_)
      subst hv
      refine ka_stk (w := [.int 0]) rfl ?_
      refine lv_if_ne (tgt := 46) hx hb dX7_set_41 (by decide) (fun c_ => absurd (by decide) c_) (fun _ => ?_)
      refine lv_iconst (v := 0) hx hb dX7_set_44 (by decide) ?_
      exact ka_rEz C hr hlk rfl (Nat.le_of_ble_eq_true rfl) (Nat.le_of_ble_eq_true rfl) hS (ka_qE (x4, x5, x6, 0) rfl ⟨(show 1 ≤ x6.toInt ∧ x6.toInt ≤ 8 from ⟨by omega, by omega⟩), (show 0 ≤ ((0 : Int32)).toInt ∧ ((0 : Int32)).toInt ≤ 1 from ⟨by decide, by decide⟩)⟩ hK hP hD hS [0] (by decide) rfl [] rfl) dX7_set_45
  · obtain rfl : x0 = 2 := (ka_eq' _ _).mpr (y_35661.trans (by decide))
    rcases (show x1.toInt ≤ -1 ∨ x1.toInt = 0 ∨ (1 ≤ x1.toInt ∧ x1.toInt ≤ 3) ∨ (4 ≤ x1.toInt ∧ x1.toInt ≤ 5) ∨ (6 ≤ x1.toInt ∧ x1.toInt ≤ 8) ∨ 9 ≤ x1.toInt by omega) with y_35665 | y_35665 | y_35665 | y_35665 | y_35665 | y_35665
    · skip
      refine lv_iload_n hx hb dX7_set_0 rfl (lv_at hl 1 rfl) ?_
      refine lv_iconst (v := 0) hx hb dX7_set_1 (by decide) ?_
      refine lv_iconst (v := 2) hx hb dX7_set_2 (by decide) ?_
      refine ka_RS (n := 3) C (cg_X7_isIn_344 l D F ) gX7_set_X7_isIn rfl (by decide +kernel) ⟨Nat.le_of_ble_eq_true rfl, Nat.le_of_ble_eq_true rfl⟩ hK hP hS hE hN [] rfl [] rfl rfl hl.1 (rest := []) rfl (Nat.le_of_ble_eq_true rfl) dX7_set_3 ⟨Nat.le_of_ble_eq_true rfl, Nat.le_of_ble_eq_true rfl⟩ (fun v hv => ?_)
      subst hv
      refine ka_stk (w := [.int 1]) rfl ?_
      refine lv_if_eq (tgt := 44) hx hb dX7_set_6 (by decide) (fun c_ => absurd c_ (by decide)) (fun _ => ?_)
      refine lv_iload_n hx hb dX7_set_9 rfl (lv_at hl 2 rfl) ?_
      refine lv_iload_n hx hb dX7_set_10 rfl (lv_at hl 1 rfl) ?_
      refine lv_if_ne (tgt := 18) hx hb dX7_set_11 (by decide) (fun _ => ?_) (fun c_ => absurd c_ (by decide))
      refine lv_iconst (v := 1) hx hb dX7_set_18 (by decide) ?_
      refine lv_iload_n hx hb dX7_set_19 rfl (lv_at hl 1 rfl) ?_
      refine lv_if_ne (tgt := 27) hx hb dX7_set_20 (by decide) (fun _ => ?_) (fun c_ => absurd c_ (by decide))
      refine lv_iload_n hx hb dX7_set_27 rfl (lv_at hl 1 rfl) ?_
      refine lv_iconst (v := 1) hx hb dX7_set_28 (by decide) ?_
      refine lv_icmp_ne (tgt := 36) hx hb dX7_set_29 (by decide) (fun _ => ?_) (fun c_ => absurd c_ (by decide))
      refine lv_bipush (v := 8) hx hb dX7_set_36 (by decide) ?_
      refine ka_RS (n := 3) C (cg_X7_isIn_345 l D F x1 (by omega)) gX7_set_X7_isIn rfl (by decide +kernel) ⟨Nat.le_of_ble_eq_true rfl, Nat.le_of_ble_eq_true rfl⟩ hK hP hS hE hN [] rfl [] rfl rfl hl.1 (rest := []) rfl (Nat.le_of_ble_eq_true rfl) dX7_set_38 ⟨Nat.le_of_ble_eq_true rfl, Nat.le_of_ble_eq_true rfl⟩ (fun v hv => ?_)
      subst hv
      refine ka_stk (w := [.int 0]) rfl ?_
      refine lv_if_ne (tgt := 46) hx hb dX7_set_41 (by decide) (fun c_ => absurd (by decide) c_) (fun _ => ?_)
      refine lv_iconst (v := 0) hx hb dX7_set_44 (by decide) ?_
      exact ka_rEz C hr hlk rfl (Nat.le_of_ble_eq_true rfl) (Nat.le_of_ble_eq_true rfl) hS (ka_qE (x4, x5, x6, 0) rfl ⟨(show 1 ≤ x6.toInt ∧ x6.toInt ≤ 8 from ⟨by omega, by omega⟩), (show 0 ≤ ((0 : Int32)).toInt ∧ ((0 : Int32)).toInt ≤ 1 from ⟨by decide, by decide⟩)⟩ hK hP hD hS [0] (by decide) rfl [] rfl) dX7_set_45
    · obtain rfl : x1 = 0 := (ka_eq' _ _).mpr (y_35665.trans (by decide))
      refine lv_iload_n hx hb dX7_set_0 rfl (lv_at hl 1 rfl) ?_
      refine lv_iconst (v := 0) hx hb dX7_set_1 (by decide) ?_
      refine lv_iconst (v := 2) hx hb dX7_set_2 (by decide) ?_
      refine ka_RS (n := 3) C (cg_X7_isIn_344 l D F ) gX7_set_X7_isIn rfl (by decide +kernel) ⟨Nat.le_of_ble_eq_true rfl, Nat.le_of_ble_eq_true rfl⟩ hK hP hS hE hN [] rfl [] rfl rfl hl.1 (rest := []) rfl (Nat.le_of_ble_eq_true rfl) dX7_set_3 ⟨Nat.le_of_ble_eq_true rfl, Nat.le_of_ble_eq_true rfl⟩ (fun v hv => ?_)
      subst hv
      refine ka_stk (w := [.int 1]) rfl ?_
      refine lv_if_eq (tgt := 44) hx hb dX7_set_6 (by decide) (fun c_ => absurd c_ (by decide)) (fun _ => ?_)
      refine lv_iload_n hx hb dX7_set_9 rfl (lv_at hl 2 rfl) ?_
      refine lv_iload_n hx hb dX7_set_10 rfl (lv_at hl 1 rfl) ?_
      refine lv_if_ne (tgt := 18) hx hb dX7_set_11 (by decide) (fun _ => ?_) (fun c_ => absurd c_ (by decide))
      refine lv_iconst (v := 1) hx hb dX7_set_18 (by decide) ?_
      refine lv_iload_n hx hb dX7_set_19 rfl (lv_at hl 1 rfl) ?_
      refine lv_if_ne (tgt := 27) hx hb dX7_set_20 (by decide) (fun _ => ?_) (fun c_ => absurd c_ (by decide))
      refine lv_iload_n hx hb dX7_set_27 rfl (lv_at hl 1 rfl) ?_
      refine lv_iconst (v := 1) hx hb dX7_set_28 (by decide) ?_
      refine lv_icmp_ne (tgt := 36) hx hb dX7_set_29 (by decide) (fun _ => ?_) (fun c_ => absurd c_ (by decide))
      refine lv_bipush (v := 8) hx hb dX7_set_36 (by decide) ?_
      refine ka_RS (n := 3) C (cg_X7_isIn_350 l D F ) gX7_set_X7_isIn rfl (by decide +kernel) ⟨Nat.le_of_ble_eq_true rfl, Nat.le_of_ble_eq_true rfl⟩ hK hP hS hE hN [] rfl [] rfl rfl hl.1 (rest := []) rfl (Nat.le_of_ble_eq_true rfl) dX7_set_38 ⟨Nat.le_of_ble_eq_true rfl, Nat.le_of_ble_eq_true rfl⟩ (fun v hv => ?_)
      subst hv
      refine ka_stk (w := [.int 0]) rfl ?_
      refine lv_if_ne (tgt := 46) hx hb dX7_set_41 (by decide) (fun c_ => absurd (by decide) c_) (fun _ => ?_)
      refine lv_iconst (v := 0) hx hb dX7_set_44 (by decide) ?_
      exact ka_rEz C hr hlk rfl (Nat.le_of_ble_eq_true rfl) (Nat.le_of_ble_eq_true rfl) hS (ka_qE (x4, x5, x6, 0) rfl ⟨(show 1 ≤ x6.toInt ∧ x6.toInt ≤ 8 from ⟨by omega, by omega⟩), (show 0 ≤ ((0 : Int32)).toInt ∧ ((0 : Int32)).toInt ≤ 1 from ⟨by decide, by decide⟩)⟩ hK hP hD hS [0] (by decide) rfl [] rfl) dX7_set_45
    · skip
      refine lv_iload_n hx hb dX7_set_0 rfl (lv_at hl 1 rfl) ?_
      refine lv_iconst (v := 0) hx hb dX7_set_1 (by decide) ?_
      refine lv_iconst (v := 2) hx hb dX7_set_2 (by decide) ?_
      refine ka_RS (n := 3) C (cg_X7_isIn_344 l D F ) gX7_set_X7_isIn rfl (by decide +kernel) ⟨Nat.le_of_ble_eq_true rfl, Nat.le_of_ble_eq_true rfl⟩ hK hP hS hE hN [] rfl [] rfl rfl hl.1 (rest := []) rfl (Nat.le_of_ble_eq_true rfl) dX7_set_3 ⟨Nat.le_of_ble_eq_true rfl, Nat.le_of_ble_eq_true rfl⟩ (fun v hv => ?_)
      subst hv
      refine ka_stk (w := [.int 1]) rfl ?_
      refine lv_if_eq (tgt := 44) hx hb dX7_set_6 (by decide) (fun c_ => absurd c_ (by decide)) (fun _ => ?_)
      refine lv_iload_n hx hb dX7_set_9 rfl (lv_at hl 2 rfl) ?_
      refine lv_iload_n hx hb dX7_set_10 rfl (lv_at hl 1 rfl) ?_
      refine lv_if_ne (tgt := 18) hx hb dX7_set_11 (by decide) (fun _ => ?_) (fun c_ => absurd c_ (by decide))
      refine lv_iconst (v := 1) hx hb dX7_set_18 (by decide) ?_
      refine lv_iload_n hx hb dX7_set_19 rfl (lv_at hl 1 rfl) ?_
      refine lv_if_ne (tgt := 27) hx hb dX7_set_20 (by decide) (fun _ => ?_) (fun c_ => absurd c_ (by decide))
      refine lv_iload_n hx hb dX7_set_27 rfl (lv_at hl 1 rfl) ?_
      refine lv_iconst (v := 1) hx hb dX7_set_28 (by decide) ?_
      refine lv_icmp_ne (tgt := 36) hx hb dX7_set_29 (by decide) (fun _ => ?_) (fun c_ => absurd c_ (by decide))
      refine lv_bipush (v := 8) hx hb dX7_set_36 (by decide) ?_
      refine ka_RS (n := 3) C (cg_X7_isIn_354 l D F x1 ⟨by omega, by omega⟩) gX7_set_X7_isIn rfl (by decide +kernel) ⟨Nat.le_of_ble_eq_true rfl, Nat.le_of_ble_eq_true rfl⟩ hK hP hS hE hN [] rfl [] rfl rfl hl.1 (rest := []) rfl (Nat.le_of_ble_eq_true rfl) dX7_set_38 ⟨Nat.le_of_ble_eq_true rfl, Nat.le_of_ble_eq_true rfl⟩ (fun v hv => ?_)
      subst hv
      refine ka_stk (w := [.int 1]) rfl ?_
      refine lv_if_ne (tgt := 46) hx hb dX7_set_41 (by decide) (fun _ => ?_) (fun c_ => absurd c_ (by decide))
      refine lv_iload_n hx hb dX7_set_46 rfl (lv_at hl 1 rfl) ?_
      refine lv_if_ne (tgt := 58) hx hb dX7_set_47 (by decide) (fun _ => ?_) (fun c_ => absurd c_ (by decide))
      refine lv_iload_n hx hb dX7_set_58 rfl (lv_at hl 1 rfl) ?_
      refine lv_iconst (v := 1) hx hb dX7_set_59 (by decide) ?_
      refine lv_icmp_ne (tgt := 71) hx hb dX7_set_60 (by decide) (fun _ => ?_) (fun c_ => absurd c_ (by decide))
      refine lv_aload_n hx hb dX7_set_71 rfl (lv_at hl 0 rfl) ?_
      refine lv_iload_n hx hb dX7_set_72 rfl (lv_at hl 2 rfl) ?_
      refine ka_put C lq_363 tyX7 tyX7_ok nmX7 rfl hK hP hD hS 0 rfl 12 (by decide) lq_368 rfl rfl rfl (Nat.le_of_ble_eq_true rfl) dX7_set_73 (fun H locs hP hD hS => ?_)
      have hP : va_P D vwCl [(a0, .inr (7, [.ref a1, .int x2, .ref a2, .ref a3, .ref a4, .ref a5, .ref a6, .ref a7, .ref a8, .int x3, .int x4, .int x5, .int x1, .int x7, .int x8, .int x9, .ref a9, .ref a10, .ref a11, .ref a12, .ref a13, .ref a14, .int x10, .int x11, .int x12, .int x13, .int x14, .int x15]))] H := hP
      have hD : va_D A [(a0, .inr (7, [.ref a1, .int x2, .ref a2, .ref a3, .ref a4, .ref a5, .ref a6, .ref a7, .ref a8, .int x3, .int x4, .int x5, .int x1, .int x7, .int x8, .int x9, .ref a9, .ref a10, .ref a11, .ref a12, .ref a13, .ref a14, .int x10, .int x11, .int x12, .int x13, .int x14, .int x15]))] := hD
      refine lv_iconst (v := 1) hx hb dX7_set_76 (by decide) ?_
      exact ka_rEz C hr hlk rfl (Nat.le_of_ble_eq_true rfl) (Nat.le_of_ble_eq_true rfl) hS (ka_qE (x4, x5, x1, 1) rfl ⟨(show 1 ≤ x1.toInt ∧ x1.toInt ≤ 8 from ⟨by omega, by omega⟩), (show 0 ≤ ((1 : Int32)).toInt ∧ ((1 : Int32)).toInt ≤ 1 from ⟨by decide, by decide⟩)⟩ hK hP hD hS [0] (by decide) rfl [] rfl) dX7_set_77
    · skip
      refine lv_iload_n hx hb dX7_set_0 rfl (lv_at hl 1 rfl) ?_
      refine lv_iconst (v := 0) hx hb dX7_set_1 (by decide) ?_
      refine lv_iconst (v := 2) hx hb dX7_set_2 (by decide) ?_
      refine ka_RS (n := 3) C (cg_X7_isIn_344 l D F ) gX7_set_X7_isIn rfl (by decide +kernel) ⟨Nat.le_of_ble_eq_true rfl, Nat.le_of_ble_eq_true rfl⟩ hK hP hS hE hN [] rfl [] rfl rfl hl.1 (rest := []) rfl (Nat.le_of_ble_eq_true rfl) dX7_set_3 ⟨Nat.le_of_ble_eq_true rfl, Nat.le_of_ble_eq_true rfl⟩ (fun v hv => ?_)
      subst hv
      refine ka_stk (w := [.int 1]) rfl ?_
      refine lv_if_eq (tgt := 44) hx hb dX7_set_6 (by decide) (fun c_ => absurd c_ (by decide)) (fun _ => ?_)
      refine lv_iload_n hx hb dX7_set_9 rfl (lv_at hl 2 rfl) ?_
      refine lv_iload_n hx hb dX7_set_10 rfl (lv_at hl 1 rfl) ?_
      refine lv_if_ne (tgt := 18) hx hb dX7_set_11 (by decide) (fun _ => ?_) (fun c_ => absurd c_ (by decide))
      refine lv_iconst (v := 1) hx hb dX7_set_18 (by decide) ?_
      refine lv_iload_n hx hb dX7_set_19 rfl (lv_at hl 1 rfl) ?_
      refine lv_if_ne (tgt := 27) hx hb dX7_set_20 (by decide) (fun _ => ?_) (fun c_ => absurd c_ (by decide))
      refine lv_iload_n hx hb dX7_set_27 rfl (lv_at hl 1 rfl) ?_
      refine lv_iconst (v := 1) hx hb dX7_set_28 (by decide) ?_
      refine lv_icmp_ne (tgt := 36) hx hb dX7_set_29 (by decide) (fun _ => ?_) (fun c_ => absurd c_ (by decide))
      refine lv_bipush (v := 8) hx hb dX7_set_36 (by decide) ?_
      refine ka_RS (n := 3) C (cg_X7_isIn_357 l D F x1 ⟨by omega, by omega⟩) gX7_set_X7_isIn rfl (by decide +kernel) ⟨Nat.le_of_ble_eq_true rfl, Nat.le_of_ble_eq_true rfl⟩ hK hP hS hE hN [] rfl [] rfl rfl hl.1 (rest := []) rfl (Nat.le_of_ble_eq_true rfl) dX7_set_38 ⟨Nat.le_of_ble_eq_true rfl, Nat.le_of_ble_eq_true rfl⟩ (fun v hv => ?_)
      subst hv
      refine ka_stk (w := [.int 1]) rfl ?_
      refine lv_if_ne (tgt := 46) hx hb dX7_set_41 (by decide) (fun _ => ?_) (fun c_ => absurd c_ (by decide))
      refine lv_iload_n hx hb dX7_set_46 rfl (lv_at hl 1 rfl) ?_
      refine lv_if_ne (tgt := 58) hx hb dX7_set_47 (by decide) (fun _ => ?_) (fun c_ => absurd c_ (by decide))
      refine lv_iload_n hx hb dX7_set_58 rfl (lv_at hl 1 rfl) ?_
      refine lv_iconst (v := 1) hx hb dX7_set_59 (by decide) ?_
      refine lv_icmp_ne (tgt := 71) hx hb dX7_set_60 (by decide) (fun _ => ?_) (fun c_ => absurd c_ (by decide))
      refine lv_aload_n hx hb dX7_set_71 rfl (lv_at hl 0 rfl) ?_
      refine lv_iload_n hx hb dX7_set_72 rfl (lv_at hl 2 rfl) ?_
      refine ka_put C lq_363 tyX7 tyX7_ok nmX7 rfl hK hP hD hS 0 rfl 12 (by decide) lq_368 rfl rfl rfl (Nat.le_of_ble_eq_true rfl) dX7_set_73 (fun H locs hP hD hS => ?_)
      have hP : va_P D vwCl [(a0, .inr (7, [.ref a1, .int x2, .ref a2, .ref a3, .ref a4, .ref a5, .ref a6, .ref a7, .ref a8, .int x3, .int x4, .int x5, .int x1, .int x7, .int x8, .int x9, .ref a9, .ref a10, .ref a11, .ref a12, .ref a13, .ref a14, .int x10, .int x11, .int x12, .int x13, .int x14, .int x15]))] H := hP
      have hD : va_D A [(a0, .inr (7, [.ref a1, .int x2, .ref a2, .ref a3, .ref a4, .ref a5, .ref a6, .ref a7, .ref a8, .int x3, .int x4, .int x5, .int x1, .int x7, .int x8, .int x9, .ref a9, .ref a10, .ref a11, .ref a12, .ref a13, .ref a14, .int x10, .int x11, .int x12, .int x13, .int x14, .int x15]))] := hD
      refine lv_iconst (v := 1) hx hb dX7_set_76 (by decide) ?_
      exact ka_rEz C hr hlk rfl (Nat.le_of_ble_eq_true rfl) (Nat.le_of_ble_eq_true rfl) hS (ka_qE (x4, x5, x1, 1) rfl ⟨(show 1 ≤ x1.toInt ∧ x1.toInt ≤ 8 from ⟨by omega, by omega⟩), (show 0 ≤ ((1 : Int32)).toInt ∧ ((1 : Int32)).toInt ≤ 1 from ⟨by decide, by decide⟩)⟩ hK hP hD hS [0] (by decide) rfl [] rfl) dX7_set_77
    · skip
      refine lv_iload_n hx hb dX7_set_0 rfl (lv_at hl 1 rfl) ?_
      refine lv_iconst (v := 0) hx hb dX7_set_1 (by decide) ?_
      refine lv_iconst (v := 2) hx hb dX7_set_2 (by decide) ?_
      refine ka_RS (n := 3) C (cg_X7_isIn_344 l D F ) gX7_set_X7_isIn rfl (by decide +kernel) ⟨Nat.le_of_ble_eq_true rfl, Nat.le_of_ble_eq_true rfl⟩ hK hP hS hE hN [] rfl [] rfl rfl hl.1 (rest := []) rfl (Nat.le_of_ble_eq_true rfl) dX7_set_3 ⟨Nat.le_of_ble_eq_true rfl, Nat.le_of_ble_eq_true rfl⟩ (fun v hv => ?_)
      subst hv
      refine ka_stk (w := [.int 1]) rfl ?_
      refine lv_if_eq (tgt := 44) hx hb dX7_set_6 (by decide) (fun c_ => absurd c_ (by decide)) (fun _ => ?_)
      refine lv_iload_n hx hb dX7_set_9 rfl (lv_at hl 2 rfl) ?_
      refine lv_iload_n hx hb dX7_set_10 rfl (lv_at hl 1 rfl) ?_
      refine lv_if_ne (tgt := 18) hx hb dX7_set_11 (by decide) (fun _ => ?_) (fun c_ => absurd c_ (by decide))
      refine lv_iconst (v := 1) hx hb dX7_set_18 (by decide) ?_
      refine lv_iload_n hx hb dX7_set_19 rfl (lv_at hl 1 rfl) ?_
      refine lv_if_ne (tgt := 27) hx hb dX7_set_20 (by decide) (fun _ => ?_) (fun c_ => absurd c_ (by decide))
      refine lv_iload_n hx hb dX7_set_27 rfl (lv_at hl 1 rfl) ?_
      refine lv_iconst (v := 1) hx hb dX7_set_28 (by decide) ?_
      refine lv_icmp_ne (tgt := 36) hx hb dX7_set_29 (by decide) (fun _ => ?_) (fun c_ => absurd c_ (by decide))
      refine lv_bipush (v := 8) hx hb dX7_set_36 (by decide) ?_
      refine ka_RS (n := 3) C (cg_X7_isIn_360 l D F x1 ⟨by omega, by omega⟩) gX7_set_X7_isIn rfl (by decide +kernel) ⟨Nat.le_of_ble_eq_true rfl, Nat.le_of_ble_eq_true rfl⟩ hK hP hS hE hN [] rfl [] rfl rfl hl.1 (rest := []) rfl (Nat.le_of_ble_eq_true rfl) dX7_set_38 ⟨Nat.le_of_ble_eq_true rfl, Nat.le_of_ble_eq_true rfl⟩ (fun v hv => ?_)
      subst hv
      refine ka_stk (w := [.int 1]) rfl ?_
      refine lv_if_ne (tgt := 46) hx hb dX7_set_41 (by decide) (fun _ => ?_) (fun c_ => absurd c_ (by decide))
      refine lv_iload_n hx hb dX7_set_46 rfl (lv_at hl 1 rfl) ?_
      refine lv_if_ne (tgt := 58) hx hb dX7_set_47 (by decide) (fun _ => ?_) (fun c_ => absurd c_ (by decide))
      refine lv_iload_n hx hb dX7_set_58 rfl (lv_at hl 1 rfl) ?_
      refine lv_iconst (v := 1) hx hb dX7_set_59 (by decide) ?_
      refine lv_icmp_ne (tgt := 71) hx hb dX7_set_60 (by decide) (fun _ => ?_) (fun c_ => absurd c_ (by decide))
      refine lv_aload_n hx hb dX7_set_71 rfl (lv_at hl 0 rfl) ?_
      refine lv_iload_n hx hb dX7_set_72 rfl (lv_at hl 2 rfl) ?_
      refine ka_put C lq_363 tyX7 tyX7_ok nmX7 rfl hK hP hD hS 0 rfl 12 (by decide) lq_368 rfl rfl rfl (Nat.le_of_ble_eq_true rfl) dX7_set_73 (fun H locs hP hD hS => ?_)
      have hP : va_P D vwCl [(a0, .inr (7, [.ref a1, .int x2, .ref a2, .ref a3, .ref a4, .ref a5, .ref a6, .ref a7, .ref a8, .int x3, .int x4, .int x5, .int x1, .int x7, .int x8, .int x9, .ref a9, .ref a10, .ref a11, .ref a12, .ref a13, .ref a14, .int x10, .int x11, .int x12, .int x13, .int x14, .int x15]))] H := hP
      have hD : va_D A [(a0, .inr (7, [.ref a1, .int x2, .ref a2, .ref a3, .ref a4, .ref a5, .ref a6, .ref a7, .ref a8, .int x3, .int x4, .int x5, .int x1, .int x7, .int x8, .int x9, .ref a9, .ref a10, .ref a11, .ref a12, .ref a13, .ref a14, .int x10, .int x11, .int x12, .int x13, .int x14, .int x15]))] := hD
      refine lv_iconst (v := 1) hx hb dX7_set_76 (by decide) ?_
      exact ka_rEz C hr hlk rfl (Nat.le_of_ble_eq_true rfl) (Nat.le_of_ble_eq_true rfl) hS (ka_qE (x4, x5, x1, 1) rfl ⟨(show 1 ≤ x1.toInt ∧ x1.toInt ≤ 8 from ⟨by omega, by omega⟩), (show 0 ≤ ((1 : Int32)).toInt ∧ ((1 : Int32)).toInt ≤ 1 from ⟨by decide, by decide⟩)⟩ hK hP hD hS [0] (by decide) rfl [] rfl) dX7_set_77
    · skip
      refine lv_iload_n hx hb dX7_set_0 rfl (lv_at hl 1 rfl) ?_
      refine lv_iconst (v := 0) hx hb dX7_set_1 (by decide) ?_
      refine lv_iconst (v := 2) hx hb dX7_set_2 (by decide) ?_
      refine ka_RS (n := 3) C (cg_X7_isIn_344 l D F ) gX7_set_X7_isIn rfl (by decide +kernel) ⟨Nat.le_of_ble_eq_true rfl, Nat.le_of_ble_eq_true rfl⟩ hK hP hS hE hN [] rfl [] rfl rfl hl.1 (rest := []) rfl (Nat.le_of_ble_eq_true rfl) dX7_set_3 ⟨Nat.le_of_ble_eq_true rfl, Nat.le_of_ble_eq_true rfl⟩ (fun v hv => ?_)
      subst hv
      refine ka_stk (w := [.int 1]) rfl ?_
      refine lv_if_eq (tgt := 44) hx hb dX7_set_6 (by decide) (fun c_ => absurd c_ (by decide)) (fun _ => ?_)
      refine lv_iload_n hx hb dX7_set_9 rfl (lv_at hl 2 rfl) ?_
      refine lv_iload_n hx hb dX7_set_10 rfl (lv_at hl 1 rfl) ?_
      refine lv_if_ne (tgt := 18) hx hb dX7_set_11 (by decide) (fun _ => ?_) (fun c_ => absurd c_ (by decide))
      refine lv_iconst (v := 1) hx hb dX7_set_18 (by decide) ?_
      refine lv_iload_n hx hb dX7_set_19 rfl (lv_at hl 1 rfl) ?_
      refine lv_if_ne (tgt := 27) hx hb dX7_set_20 (by decide) (fun _ => ?_) (fun c_ => absurd c_ (by decide))
      refine lv_iload_n hx hb dX7_set_27 rfl (lv_at hl 1 rfl) ?_
      refine lv_iconst (v := 1) hx hb dX7_set_28 (by decide) ?_
      refine lv_icmp_ne (tgt := 36) hx hb dX7_set_29 (by decide) (fun _ => ?_) (fun c_ => absurd c_ (by decide))
      refine lv_bipush (v := 8) hx hb dX7_set_36 (by decide) ?_
      refine ka_RS (n := 3) C (cg_X7_isIn_363 l D F x1 (by omega)) gX7_set_X7_isIn rfl (by decide +kernel) ⟨Nat.le_of_ble_eq_true rfl, Nat.le_of_ble_eq_true rfl⟩ hK hP hS hE hN [] rfl [] rfl rfl hl.1 (rest := []) rfl (Nat.le_of_ble_eq_true rfl) dX7_set_38 ⟨Nat.le_of_ble_eq_true rfl, Nat.le_of_ble_eq_true rfl⟩ (fun v hv => ?_)
      subst hv
      refine ka_stk (w := [.int 0]) rfl ?_
      refine lv_if_ne (tgt := 46) hx hb dX7_set_41 (by decide) (fun c_ => absurd (by decide) c_) (fun _ => ?_)
      refine lv_iconst (v := 0) hx hb dX7_set_44 (by decide) ?_
      exact ka_rEz C hr hlk rfl (Nat.le_of_ble_eq_true rfl) (Nat.le_of_ble_eq_true rfl) hS (ka_qE (x4, x5, x6, 0) rfl ⟨(show 1 ≤ x6.toInt ∧ x6.toInt ≤ 8 from ⟨by omega, by omega⟩), (show 0 ≤ ((0 : Int32)).toInt ∧ ((0 : Int32)).toInt ≤ 1 from ⟨by decide, by decide⟩)⟩ hK hP hD hS [0] (by decide) rfl [] rfl) dX7_set_45
  · skip
    rcases (show x1.toInt ≤ -1 ∨ x1.toInt = 0 ∨ (1 ≤ x1.toInt ∧ x1.toInt ≤ 3) ∨ (4 ≤ x1.toInt ∧ x1.toInt ≤ 5) ∨ (6 ≤ x1.toInt ∧ x1.toInt ≤ 8) ∨ 9 ≤ x1.toInt by omega) with y_35666 | y_35666 | y_35666 | y_35666 | y_35666 | y_35666
    · skip
      refine lv_iload_n hx hb dX7_set_0 rfl (lv_at hl 1 rfl) ?_
      refine lv_iconst (v := 0) hx hb dX7_set_1 (by decide) ?_
      refine lv_iconst (v := 2) hx hb dX7_set_2 (by decide) ?_
      refine ka_RS (n := 3) C (cg_X7_isIn_367 l D F x0 (by omega)) gX7_set_X7_isIn rfl (by decide +kernel) ⟨Nat.le_of_ble_eq_true rfl, Nat.le_of_ble_eq_true rfl⟩ hK hP hS hE hN [] rfl [] rfl rfl hl.1 (rest := []) rfl (Nat.le_of_ble_eq_true rfl) dX7_set_3 ⟨Nat.le_of_ble_eq_true rfl, Nat.le_of_ble_eq_true rfl⟩ (fun v hv => ?_)
      subst hv
      refine ka_stk (w := [.int 0]) rfl ?_
      refine lv_if_eq (tgt := 44) hx hb dX7_set_6 (by decide) (fun _ => ?_) (fun c_ => absurd (by decide) c_)
      refine lv_iconst (v := 0) hx hb dX7_set_44 (by decide) ?_
      exact ka_rEz C hr hlk rfl (Nat.le_of_ble_eq_true rfl) (Nat.le_of_ble_eq_true rfl) hS (ka_qE (x4, x5, x6, 0) rfl ⟨(show 1 ≤ x6.toInt ∧ x6.toInt ≤ 8 from ⟨by omega, by omega⟩), (show 0 ≤ ((0 : Int32)).toInt ∧ ((0 : Int32)).toInt ≤ 1 from ⟨by decide, by decide⟩)⟩ hK hP hD hS [0] (by decide) rfl [] rfl) dX7_set_45
    · obtain rfl : x1 = 0 := (ka_eq' _ _).mpr (y_35666.trans (by decide))
      refine lv_iload_n hx hb dX7_set_0 rfl (lv_at hl 1 rfl) ?_
      refine lv_iconst (v := 0) hx hb dX7_set_1 (by decide) ?_
      refine lv_iconst (v := 2) hx hb dX7_set_2 (by decide) ?_
      refine ka_RS (n := 3) C (cg_X7_isIn_367 l D F x0 (by omega)) gX7_set_X7_isIn rfl (by decide +kernel) ⟨Nat.le_of_ble_eq_true rfl, Nat.le_of_ble_eq_true rfl⟩ hK hP hS hE hN [] rfl [] rfl rfl hl.1 (rest := []) rfl (Nat.le_of_ble_eq_true rfl) dX7_set_3 ⟨Nat.le_of_ble_eq_true rfl, Nat.le_of_ble_eq_true rfl⟩ (fun v hv => ?_)
      subst hv
      refine ka_stk (w := [.int 0]) rfl ?_
      refine lv_if_eq (tgt := 44) hx hb dX7_set_6 (by decide) (fun _ => ?_) (fun c_ => absurd (by decide) c_)
      refine lv_iconst (v := 0) hx hb dX7_set_44 (by decide) ?_
      exact ka_rEz C hr hlk rfl (Nat.le_of_ble_eq_true rfl) (Nat.le_of_ble_eq_true rfl) hS (ka_qE (x4, x5, x6, 0) rfl ⟨(show 1 ≤ x6.toInt ∧ x6.toInt ≤ 8 from ⟨by omega, by omega⟩), (show 0 ≤ ((0 : Int32)).toInt ∧ ((0 : Int32)).toInt ≤ 1 from ⟨by decide, by decide⟩)⟩ hK hP hD hS [0] (by decide) rfl [] rfl) dX7_set_45
    · skip
      refine lv_iload_n hx hb dX7_set_0 rfl (lv_at hl 1 rfl) ?_
      refine lv_iconst (v := 0) hx hb dX7_set_1 (by decide) ?_
      refine lv_iconst (v := 2) hx hb dX7_set_2 (by decide) ?_
      refine ka_RS (n := 3) C (cg_X7_isIn_367 l D F x0 (by omega)) gX7_set_X7_isIn rfl (by decide +kernel) ⟨Nat.le_of_ble_eq_true rfl, Nat.le_of_ble_eq_true rfl⟩ hK hP hS hE hN [] rfl [] rfl rfl hl.1 (rest := []) rfl (Nat.le_of_ble_eq_true rfl) dX7_set_3 ⟨Nat.le_of_ble_eq_true rfl, Nat.le_of_ble_eq_true rfl⟩ (fun v hv => ?_)
      subst hv
      refine ka_stk (w := [.int 0]) rfl ?_
      refine lv_if_eq (tgt := 44) hx hb dX7_set_6 (by decide) (fun _ => ?_) (fun c_ => absurd (by decide) c_)
      refine lv_iconst (v := 0) hx hb dX7_set_44 (by decide) ?_
      exact ka_rEz C hr hlk rfl (Nat.le_of_ble_eq_true rfl) (Nat.le_of_ble_eq_true rfl) hS (ka_qE (x4, x5, x6, 0) rfl ⟨(show 1 ≤ x6.toInt ∧ x6.toInt ≤ 8 from ⟨by omega, by omega⟩), (show 0 ≤ ((0 : Int32)).toInt ∧ ((0 : Int32)).toInt ≤ 1 from ⟨by decide, by decide⟩)⟩ hK hP hD hS [0] (by decide) rfl [] rfl) dX7_set_45
    · skip
      refine lv_iload_n hx hb dX7_set_0 rfl (lv_at hl 1 rfl) ?_
      refine lv_iconst (v := 0) hx hb dX7_set_1 (by decide) ?_
      refine lv_iconst (v := 2) hx hb dX7_set_2 (by decide) ?_
      refine ka_RS (n := 3) C (cg_X7_isIn_367 l D F x0 (by omega)) gX7_set_X7_isIn rfl (by decide +kernel) ⟨Nat.le_of_ble_eq_true rfl, Nat.le_of_ble_eq_true rfl⟩ hK hP hS hE hN [] rfl [] rfl rfl hl.1 (rest := []) rfl (Nat.le_of_ble_eq_true rfl) dX7_set_3 ⟨Nat.le_of_ble_eq_true rfl, Nat.le_of_ble_eq_true rfl⟩ (fun v hv => ?_)
      subst hv
      refine ka_stk (w := [.int 0]) rfl ?_
      refine lv_if_eq (tgt := 44) hx hb dX7_set_6 (by decide) (fun _ => ?_) (fun c_ => absurd (by decide) c_)
      refine lv_iconst (v := 0) hx hb dX7_set_44 (by decide) ?_
      exact ka_rEz C hr hlk rfl (Nat.le_of_ble_eq_true rfl) (Nat.le_of_ble_eq_true rfl) hS (ka_qE (x4, x5, x6, 0) rfl ⟨(show 1 ≤ x6.toInt ∧ x6.toInt ≤ 8 from ⟨by omega, by omega⟩), (show 0 ≤ ((0 : Int32)).toInt ∧ ((0 : Int32)).toInt ≤ 1 from ⟨by decide, by decide⟩)⟩ hK hP hD hS [0] (by decide) rfl [] rfl) dX7_set_45
    · skip
      refine lv_iload_n hx hb dX7_set_0 rfl (lv_at hl 1 rfl) ?_
      refine lv_iconst (v := 0) hx hb dX7_set_1 (by decide) ?_
      refine lv_iconst (v := 2) hx hb dX7_set_2 (by decide) ?_
      refine ka_RS (n := 3) C (cg_X7_isIn_367 l D F x0 (by omega)) gX7_set_X7_isIn rfl (by decide +kernel) ⟨Nat.le_of_ble_eq_true rfl, Nat.le_of_ble_eq_true rfl⟩ hK hP hS hE hN [] rfl [] rfl rfl hl.1 (rest := []) rfl (Nat.le_of_ble_eq_true rfl) dX7_set_3 ⟨Nat.le_of_ble_eq_true rfl, Nat.le_of_ble_eq_true rfl⟩ (fun v hv => ?_)
      subst hv
      refine ka_stk (w := [.int 0]) rfl ?_
      refine lv_if_eq (tgt := 44) hx hb dX7_set_6 (by decide) (fun _ => ?_) (fun c_ => absurd (by decide) c_)
      refine lv_iconst (v := 0) hx hb dX7_set_44 (by decide) ?_
      exact ka_rEz C hr hlk rfl (Nat.le_of_ble_eq_true rfl) (Nat.le_of_ble_eq_true rfl) hS (ka_qE (x4, x5, x6, 0) rfl ⟨(show 1 ≤ x6.toInt ∧ x6.toInt ≤ 8 from ⟨by omega, by omega⟩), (show 0 ≤ ((0 : Int32)).toInt ∧ ((0 : Int32)).toInt ≤ 1 from ⟨by decide, by decide⟩)⟩ hK hP hD hS [0] (by decide) rfl [] rfl) dX7_set_45
    · skip
      refine lv_iload_n hx hb dX7_set_0 rfl (lv_at hl 1 rfl) ?_
      refine lv_iconst (v := 0) hx hb dX7_set_1 (by decide) ?_
      refine lv_iconst (v := 2) hx hb dX7_set_2 (by decide) ?_
      refine ka_RS (n := 3) C (cg_X7_isIn_367 l D F x0 (by omega)) gX7_set_X7_isIn rfl (by decide +kernel) ⟨Nat.le_of_ble_eq_true rfl, Nat.le_of_ble_eq_true rfl⟩ hK hP hS hE hN [] rfl [] rfl rfl hl.1 (rest := []) rfl (Nat.le_of_ble_eq_true rfl) dX7_set_3 ⟨Nat.le_of_ble_eq_true rfl, Nat.le_of_ble_eq_true rfl⟩ (fun v hv => ?_)
      subst hv
      refine ka_stk (w := [.int 0]) rfl ?_
      refine lv_if_eq (tgt := 44) hx hb dX7_set_6 (by decide) (fun _ => ?_) (fun c_ => absurd (by decide) c_)
      refine lv_iconst (v := 0) hx hb dX7_set_44 (by decide) ?_
      exact ka_rEz C hr hlk rfl (Nat.le_of_ble_eq_true rfl) (Nat.le_of_ble_eq_true rfl) hS (ka_qE (x4, x5, x6, 0) rfl ⟨(show 1 ≤ x6.toInt ∧ x6.toInt ≤ 8 from ⟨by omega, by omega⟩), (show 0 ≤ ((0 : Int32)).toInt ∧ ((0 : Int32)).toInt ≤ 1 from ⟨by decide, by decide⟩)⟩ hK hP hD hS [0] (by decide) rfl [] rfl) dX7_set_45
set_option maxHeartbeats 8000000 in
set_option maxRecDepth 100000 in
theorem lc_9 {p : Program} {l : Launch} {e : Env} {s : State} {m : MethodId} {below : List Frame} {meth : Method} {c : Code} {b L : Nat} {xs : Nat → Int32} {D : va_G} {A : Nat → Prop} {qh : Nat} {qtp : Nat} {qby : Nat} {qkby : ClassId} {qrd : Nat} {qou : Nat} {qkou : ClassId} {qco : Nat} {qls : Nat} {qkls : ClassId} {qnd : Nat} {qknd : ClassId} {qL0 : Nat} {qt0 : Nat} {qkt0 : ClassId} {qp0 : Nat} {qkp0 : ClassId} {qL1 : Nat} {qt1 : Nat} {qkt1 : ClassId} {qp1 : Nat} {qkp1 : ClassId} {qL2 : Nat} {qt2 : Nat} {qkt2 : ClassId} {qp2 : Nat} {qkp2 : ClassId} {qL3 : Nat} {qt3 : Nat} {qkt3 : ClassId} {qp3 : Nat} {qkp3 : ClassId} {qL4 : Nat} {qt4 : Nat} {qkt4 : ClassId} {qp4 : Nat} {qkp4 : ClassId} {qL5 : Nat} {qt5 : Nat} {qkt5 : ClassId} {qp5 : Nat} {qkp5 : ClassId} {qtk : Nat} {qzo : Nat} {qkzo : ClassId} {qon : Nat} {qkon : ClassId} {qsd : Nat} {qksd : ClassId} {qm : Nat} {qm0 : Nat} {qkm0 : ClassId} {qm2 : Nat} {qkm2 : ClassId} {qm3 : Nat} {qkm3 : ClassId} {qm4 : Nat} {qkm4 : ClassId} {qm5 : Nat} {qkm5 : ClassId} {qm6 : Nat} {qkm6 : ClassId} {qm7 : Nat} {qkm7 : ClassId} {qm8 : Nat} {qkm8 : ClassId} {qm16 : Nat} {qkm16 : ClassId} {qm17 : Nat} {qkm17 : ClassId} {qm18 : Nat} {qkm18 : ClassId} {qm19 : Nat} {qkm19 : ClassId} {qm20 : Nat} {qkm20 : ClassId} {qm21 : Nat} {qkm21 : ClassId} {i : Int32} {iN cells slots : Nat} (C : CallFix p m c cL_law 4 s #[Value.ref b] wsL_law RL) (hr : meth.sig.returnType = ret) (hlk : meth.locks = false) (hX : va_X b L xs s s.heap) (hbl : b < s.heap.size) (hAe : A = fun q => s.heap.size ≤ q) (hE : ka_SE D (fun _ => False) A s s.heap) (hN : ka_NW s) (hi : i.toInt = (iN : Int)) (hiL : iN + 6 ≤ L) (hLL : L ≤ 3072) (hcs : cells + 2 ≤ 600000 ∧ slots + 122 ≤ 7302250) (kk : ky_J p l e s m below meth c b D A qh qtp qby qkby qrd qou qkou qco qls qkls qnd qknd qL0 qt0 qkt0 qp0 qkp0 qL1 qt1 qkt1 qp1 qkp1 qL2 qt2 qkt2 qp2 qkp2 qL3 qt3 qkt3 qp3 qkp3 qL4 qt4 qkt4 qp4 qkp4 qL5 qt5 qkt5 qp5 qkp5 qtk qzo qkzo qon qkon qsd qksd qm qm0 qkm0 qm2 qkm2 qm3 qkm3 qm4 qkm4 qm5 qkm5 qm6 qkm6 qm7 qkm7 qm8 qkm8 qm16 qkm16 qm17 qkm17 qm18 qkm18 qm19 qkm19 qm20 qkm20 qm21 qkm21 i (cells + 2) (slots + 122) 725) : ky_J p l e s m below meth c b D A qh qtp qby qkby qrd qou qkou qco qls qkls qnd qknd qL0 qt0 qkt0 qp0 qkp0 qL1 qt1 qkt1 qp1 qkp1 qL2 qt2 qkt2 qp2 qkp2 qL3 qt3 qkt3 qp3 qkp3 qL4 qt4 qkt4 qp4 qkp4 qL5 qt5 qkt5 qp5 qkp5 qtk qzo qkzo qon qkon qsd qksd qm qm0 qkm0 qm2 qkm2 qm3 qkm3 qm4 qkm4 qm5 qkm5 qm6 qkm6 qm7 qkm7 qm8 qkm8 qm16 qkm16 qm17 qkm17 qm18 qkm18 qm19 qkm19 qm20 qkm20 qm21 qkm21 i cells slots 429 := by
  intro qzh_4 qzh_5 qzh_6 qzh_7 qzh_8 qztp_1 qfby qzrd_2 qzrd_3 qzrd_4 qzrd_5 qzrd_6 qzrd_7 qfou qzco_2 qfnd qzL0_2 qoL0 qft0 qpo0 qzL1_2 qoL1 qft1 qpo1 qzL2_2 qoL2 qft2 qpo2 qzL3_2 qoL3 qft3 qpo3 qzL4_2 qoL4 qft4 qpo4 qzL5_2 qoL5 qft5 qpo5 qztk_3 qztk_4 qztk_5 qztk_6 qztk_7 qztk_8 qfzo qfon qfsd qzm_1 qzm_9 qzm_10 qzm_11 qzm_12 qzm_13 qzm_14 qzm_15 qzm_22 qzm_23 qzm_24 qzm_25 qzm_26 qzm_27 qfm0 qfm2 qfm3 qfm4 qfm5 qfm6 qfm7 qfm8 qfm16 qfm17 qfm18 qfm19 qfm20 qfm21 Z tz hqzh_4 hqztp_1 hqfby hqzrd_2 hqfou hqzL0_2 hqoL0 hqpo0 hqzL1_2 hqoL1 hqpo1 hqzL2_2 hqoL2 hqpo2 hqzL3_2 hqoL3 hqpo3 hqzL4_2 hqoL4 hqpo4 hqzL5_2 hqoL5 hqpo5 hqztk_3 hqzm_1 hqzm_9 hqzm_12 hqzm_13 hqzm_15 hqzm_22 hqzm_23 hqzm_24 hqzm_25 hqzm_27 hqfm0 hqfm3 hqfm4 hqfm8 hrel H locs hP hD hK hS ls hl
  obtain ⟨hx, hb, hml, hown, hts⟩ := id C
  have hA : ∀ q, s.heap.size ≤ q → A q := fun q h => by rw [hAe]; exact h
  have hbA : ¬ A b := by rw [hAe]; exact Nat.not_le.mpr hbl
  obtain ⟨z1, ez1⟩ : ∃ y : Int32, y = xs (iN + 1) := ⟨_, rfl⟩
  obtain ⟨z2, ez2⟩ : ∃ y : Int32, y = xs (iN + 2) := ⟨_, rfl⟩
  obtain ⟨z3, ez3⟩ : ∃ y : Int32, y = xs (iN + 3) := ⟨_, rfl⟩
  obtain ⟨z4, ez4⟩ : ∃ y : Int32, y = xs (iN + 4) := ⟨_, rfl⟩
  obtain ⟨z5, ez5⟩ : ∃ y : Int32, y = xs (iN + 5) := ⟨_, rfl⟩
  refine lv_aload_n hx hb dL_law_429 rfl (lv_at hl 2 rfl) ?_
  refine lv_aload_n hx hb dL_law_430 rfl (lv_at hl 3 rfl) ?_
  refine lv_iload_n hx hb dL_law_431 rfl (lv_at hl 0 rfl) ?_
  refine lv_iconst (v := 1) hx hb dL_law_432 (by decide) ?_
  refine lv_iadd hx hb dL_law_433 ?_
  refine lv_topi (fun v_35565 ev_35565 => ?_)
  have fv_35565 : v_35565.toInt = i.toInt + 1 := by rw [ev_35565]; exact ka_add (x := i.toInt) (y := 1) rfl (by decide) (by omega) (by omega)
  refine va_sld hx hb hX hbl hbA hS (ka_in (by omega) (by omega)) dL_law_434 ?_
  refine ka_top (w := .int z1) (congrArg Value.int (by rw [kp_cl (n := iN + 1) (by omega)]; exact ez1.symm)) ?_
  refine lv_aload_n hx hb dL_law_435 rfl (lv_at hl 3 rfl) ?_
  refine lv_iload_n hx hb dL_law_436 rfl (lv_at hl 0 rfl) ?_
  refine lv_iconst (v := 2) hx hb dL_law_437 (by decide) ?_
  refine lv_iadd hx hb dL_law_438 ?_
  refine lv_topi (fun v_35566 ev_35566 => ?_)
  have fv_35566 : v_35566.toInt = i.toInt + 2 := by rw [ev_35566]; exact ka_add (x := i.toInt) (y := 2) rfl (by decide) (by omega) (by omega)
  refine va_sld hx hb hX hbl hbA hS (ka_in (by omega) (by omega)) dL_law_439 ?_
  refine ka_top (w := .int z2) (congrArg Value.int (by rw [kp_cl (n := iN + 2) (by omega)]; exact ez2.symm)) ?_
  refine kz_EV (n := 2) (wr := [(qtp, .inr (5, [.ref qby, .int qztp_1])), (qby, .inl (qkby, 80, .inl qfby)), (qrd, .inr (3, [.ref qtp, .ref qou, .int qzrd_2, .int qzrd_3, .int qzrd_4, .int qzrd_5, .int qzrd_6, .int qzrd_7])), (qou, .inl (qkou, 120, .inl qfou)), (qls, .inl (qkls, 6, .inr (.inr (.inr (.inr (va_up (va_up (va_up (va_up (va_up (va_up (fun _ => none) 0 (some qL0)) 1 (some qL1)) 2 (some qL2)) 3 (some qL3)) 4 (some qL4)) 5 (some qL5))))))), (qnd, .inl (qknd, 6, .inl qfnd)), (qL0, .inr (2, [.ref qp0, .ref qt0, .int qzL0_2, va_rf qoL0])), (qt0, .inl (qkt0, 32, .inl qft0)), (qp0, .inl (qkp0, 12, .inr (.inr (.inr (.inr qpo0))))), (qL1, .inr (2, [.ref qp1, .ref qt1, .int qzL1_2, va_rf qoL1])), (qt1, .inl (qkt1, 32, .inl qft1)), (qp1, .inl (qkp1, 12, .inr (.inr (.inr (.inr qpo1))))), (qL2, .inr (2, [.ref qp2, .ref qt2, .int qzL2_2, va_rf qoL2])), (qt2, .inl (qkt2, 32, .inl qft2)), (qp2, .inl (qkp2, 12, .inr (.inr (.inr (.inr qpo2))))), (qL3, .inr (2, [.ref qp3, .ref qt3, .int qzL3_2, va_rf qoL3])), (qt3, .inl (qkt3, 32, .inl qft3)), (qp3, .inl (qkp3, 12, .inr (.inr (.inr (.inr qpo3))))), (qL4, .inr (2, [.ref qp4, .ref qt4, .int qzL4_2, va_rf qoL4])), (qt4, .inl (qkt4, 32, .inl qft4)), (qp4, .inl (qkp4, 12, .inr (.inr (.inr (.inr qpo4))))), (qL5, .inr (2, [.ref qp5, .ref qt5, .int qzL5_2, va_rf qoL5])), (qt5, .inl (qkt5, 32, .inl qft5)), (qp5, .inl (qkp5, 12, .inr (.inr (.inr (.inr qpo5))))), (qzo, .inl (qkzo, 32, .inl qfzo)), (qon, .inl (qkon, 32, .inl qfon)), (qsd, .inl (qksd, 10, .inl qfsd)), (qm, .inr (7, [.ref qm0, .int qzm_1, .ref qm2, .ref qm3, .ref qm4, .ref qm5, .ref qm6, .ref qm7, .ref qm8, .int qzm_9, .int qzm_10, .int qzm_11, .int qzm_12, .int qzm_13, .int qzm_14, .int qzm_15, .ref qm16, .ref qm17, .ref qm18, .ref qm19, .ref qm20, .ref qm21, .int qzm_22, .int qzm_23, .int qzm_24, .int qzm_25, .int qzm_26, .int qzm_27])), (qm0, .inl (qkm0, 80, .inl qfm0)), (qm2, .inl (qkm2, 89, .inl qfm2)), (qm3, .inl (qkm3, 89, .inl qfm3)), (qm4, .inl (qkm4, 5340, .inl qfm4)), (qm5, .inl (qkm5, 6, .inl qfm5)), (qm6, .inl (qkm6, 6, .inl qfm6)), (qm7, .inl (qkm7, 36, .inl qfm7)), (qm8, .inl (qkm8, 6, .inl qfm8)), (qm16, .inl (qkm16, 40, .inl qfm16)), (qm17, .inl (qkm17, 40, .inl qfm17)), (qm18, .inl (qkm18, 60, .inl qfm18)), (qm19, .inl (qkm19, 60, .inl qfm19)), (qm20, .inl (qkm20, 60, .inl qfm20)), (qm21, .inl (qkm21, 60, .inl qfm21))]) C (cr_X6_set_456 l D (kz_F Z tz) qh z1 z2 qtp qrd qco qtk qzh_4 qzh_5 qzh_6 qzh_7 qzh_8 qls qnd qzco_2 qzo qon qsd qztk_3 qztk_4 qztk_5 qztk_6 qztk_7 qztk_8 ⟨by omega, by omega⟩ ⟨by omega, by omega⟩) gL_law_X6_set rfl (by decide +kernel) ⟨Nat.le_of_ble_eq_true rfl, Nat.le_of_ble_eq_true rfl⟩ hK hP hD hS hA hE hN [0, 5, 26] rfl (by decide) [1, 2, 3, 4, 6, 7, 8, 9, 10, 11, 12, 13, 14, 15, 16, 17, 18, 19, 20, 21, 22, 23, 24, 25, 27, 28, 29, 30, 31, 32, 33, 34, 35, 36, 37, 38, 39, 40, 41, 42, 43, 44] rfl (by decide) (by decide) [] rfl (ci := 6) rfl rfl 0 rfl rfl hl.1 (rest := []) rfl (Nat.le_of_ble_eq_true rfl) dL_law_440 ⟨show cells + 0 ≤ 600000 by omega, show slots + 0 ≤ 7302250 by omega⟩ (fun u H locs hq hP hD hK hS => ?_)
  obtain ⟨v_35626, v_35627, v_35628, v_35629, v_35630⟩ := u
  have hq : (0 ≤ v_35630.toInt ∧ v_35630.toInt ≤ 1) := hq
  have hv_35630 := hq
  have hP : va_P D vwCl ([(qtp, .inr (5, [.ref qby, .int qztp_1])), (qby, .inl (qkby, 80, .inl qfby)), (qrd, .inr (3, [.ref qtp, .ref qou, .int qzrd_2, .int qzrd_3, .int qzrd_4, .int qzrd_5, .int qzrd_6, .int qzrd_7])), (qou, .inl (qkou, 120, .inl qfou)), (qls, .inl (qkls, 6, .inr (.inr (.inr (.inr (va_up (va_up (va_up (va_up (va_up (va_up (fun _ => none) 0 (some qL0)) 1 (some qL1)) 2 (some qL2)) 3 (some qL3)) 4 (some qL4)) 5 (some qL5))))))), (qnd, .inl (qknd, 6, .inl qfnd)), (qL0, .inr (2, [.ref qp0, .ref qt0, .int qzL0_2, va_rf qoL0])), (qt0, .inl (qkt0, 32, .inl qft0)), (qp0, .inl (qkp0, 12, .inr (.inr (.inr (.inr qpo0))))), (qL1, .inr (2, [.ref qp1, .ref qt1, .int qzL1_2, va_rf qoL1])), (qt1, .inl (qkt1, 32, .inl qft1)), (qp1, .inl (qkp1, 12, .inr (.inr (.inr (.inr qpo1))))), (qL2, .inr (2, [.ref qp2, .ref qt2, .int qzL2_2, va_rf qoL2])), (qt2, .inl (qkt2, 32, .inl qft2)), (qp2, .inl (qkp2, 12, .inr (.inr (.inr (.inr qpo2))))), (qL3, .inr (2, [.ref qp3, .ref qt3, .int qzL3_2, va_rf qoL3])), (qt3, .inl (qkt3, 32, .inl qft3)), (qp3, .inl (qkp3, 12, .inr (.inr (.inr (.inr qpo3))))), (qL4, .inr (2, [.ref qp4, .ref qt4, .int qzL4_2, va_rf qoL4])), (qt4, .inl (qkt4, 32, .inl qft4)), (qp4, .inl (qkp4, 12, .inr (.inr (.inr (.inr qpo4))))), (qL5, .inr (2, [.ref qp5, .ref qt5, .int qzL5_2, va_rf qoL5])), (qt5, .inl (qkt5, 32, .inl qft5)), (qp5, .inl (qkp5, 12, .inr (.inr (.inr (.inr qpo5))))), (qzo, .inl (qkzo, 32, .inl qfzo)), (qon, .inl (qkon, 32, .inl qfon)), (qsd, .inl (qksd, 10, .inl qfsd)), (qm, .inr (7, [.ref qm0, .int qzm_1, .ref qm2, .ref qm3, .ref qm4, .ref qm5, .ref qm6, .ref qm7, .ref qm8, .int qzm_9, .int qzm_10, .int qzm_11, .int qzm_12, .int qzm_13, .int qzm_14, .int qzm_15, .ref qm16, .ref qm17, .ref qm18, .ref qm19, .ref qm20, .ref qm21, .int qzm_22, .int qzm_23, .int qzm_24, .int qzm_25, .int qzm_26, .int qzm_27])), (qm0, .inl (qkm0, 80, .inl qfm0)), (qm2, .inl (qkm2, 89, .inl qfm2)), (qm3, .inl (qkm3, 89, .inl qfm3)), (qm4, .inl (qkm4, 5340, .inl qfm4)), (qm5, .inl (qkm5, 6, .inl qfm5)), (qm6, .inl (qkm6, 6, .inl qfm6)), (qm7, .inl (qkm7, 36, .inl qfm7)), (qm8, .inl (qkm8, 6, .inl qfm8)), (qm16, .inl (qkm16, 40, .inl qfm16)), (qm17, .inl (qkm17, 40, .inl qfm17)), (qm18, .inl (qkm18, 60, .inl qfm18)), (qm19, .inl (qkm19, 60, .inl qfm19)), (qm20, .inl (qkm20, 60, .inl qfm20)), (qm21, .inl (qkm21, 60, .inl qfm21)), (qh, .inr (6, [.ref qtp, .ref qrd, .ref qco, .ref qtk, .int qzh_4, .int qzh_5, .int v_35626, .int v_35627, .int v_35628])), (qco, .inr (0, [.ref qls, .ref qnd, .int v_35629])), (qtk, .inr (4, [.ref qzo, .ref qon, .ref qsd, .int qztk_3, .int qztk_4, .int qztk_5, .int qztk_6, .int qztk_7, .int qztk_8]))] ++ Z) H := hP
  have hD : va_D A ([(qtp, .inr (5, [.ref qby, .int qztp_1])), (qby, .inl (qkby, 80, .inl qfby)), (qrd, .inr (3, [.ref qtp, .ref qou, .int qzrd_2, .int qzrd_3, .int qzrd_4, .int qzrd_5, .int qzrd_6, .int qzrd_7])), (qou, .inl (qkou, 120, .inl qfou)), (qls, .inl (qkls, 6, .inr (.inr (.inr (.inr (va_up (va_up (va_up (va_up (va_up (va_up (fun _ => none) 0 (some qL0)) 1 (some qL1)) 2 (some qL2)) 3 (some qL3)) 4 (some qL4)) 5 (some qL5))))))), (qnd, .inl (qknd, 6, .inl qfnd)), (qL0, .inr (2, [.ref qp0, .ref qt0, .int qzL0_2, va_rf qoL0])), (qt0, .inl (qkt0, 32, .inl qft0)), (qp0, .inl (qkp0, 12, .inr (.inr (.inr (.inr qpo0))))), (qL1, .inr (2, [.ref qp1, .ref qt1, .int qzL1_2, va_rf qoL1])), (qt1, .inl (qkt1, 32, .inl qft1)), (qp1, .inl (qkp1, 12, .inr (.inr (.inr (.inr qpo1))))), (qL2, .inr (2, [.ref qp2, .ref qt2, .int qzL2_2, va_rf qoL2])), (qt2, .inl (qkt2, 32, .inl qft2)), (qp2, .inl (qkp2, 12, .inr (.inr (.inr (.inr qpo2))))), (qL3, .inr (2, [.ref qp3, .ref qt3, .int qzL3_2, va_rf qoL3])), (qt3, .inl (qkt3, 32, .inl qft3)), (qp3, .inl (qkp3, 12, .inr (.inr (.inr (.inr qpo3))))), (qL4, .inr (2, [.ref qp4, .ref qt4, .int qzL4_2, va_rf qoL4])), (qt4, .inl (qkt4, 32, .inl qft4)), (qp4, .inl (qkp4, 12, .inr (.inr (.inr (.inr qpo4))))), (qL5, .inr (2, [.ref qp5, .ref qt5, .int qzL5_2, va_rf qoL5])), (qt5, .inl (qkt5, 32, .inl qft5)), (qp5, .inl (qkp5, 12, .inr (.inr (.inr (.inr qpo5))))), (qzo, .inl (qkzo, 32, .inl qfzo)), (qon, .inl (qkon, 32, .inl qfon)), (qsd, .inl (qksd, 10, .inl qfsd)), (qm, .inr (7, [.ref qm0, .int qzm_1, .ref qm2, .ref qm3, .ref qm4, .ref qm5, .ref qm6, .ref qm7, .ref qm8, .int qzm_9, .int qzm_10, .int qzm_11, .int qzm_12, .int qzm_13, .int qzm_14, .int qzm_15, .ref qm16, .ref qm17, .ref qm18, .ref qm19, .ref qm20, .ref qm21, .int qzm_22, .int qzm_23, .int qzm_24, .int qzm_25, .int qzm_26, .int qzm_27])), (qm0, .inl (qkm0, 80, .inl qfm0)), (qm2, .inl (qkm2, 89, .inl qfm2)), (qm3, .inl (qkm3, 89, .inl qfm3)), (qm4, .inl (qkm4, 5340, .inl qfm4)), (qm5, .inl (qkm5, 6, .inl qfm5)), (qm6, .inl (qkm6, 6, .inl qfm6)), (qm7, .inl (qkm7, 36, .inl qfm7)), (qm8, .inl (qkm8, 6, .inl qfm8)), (qm16, .inl (qkm16, 40, .inl qfm16)), (qm17, .inl (qkm17, 40, .inl qfm17)), (qm18, .inl (qkm18, 60, .inl qfm18)), (qm19, .inl (qkm19, 60, .inl qfm19)), (qm20, .inl (qkm20, 60, .inl qfm20)), (qm21, .inl (qkm21, 60, .inl qfm21)), (qh, .inr (6, [.ref qtp, .ref qrd, .ref qco, .ref qtk, .int qzh_4, .int qzh_5, .int v_35626, .int v_35627, .int v_35628])), (qco, .inr (0, [.ref qls, .ref qnd, .int v_35629])), (qtk, .inr (4, [.ref qzo, .ref qon, .ref qsd, .int qztk_3, .int qztk_4, .int qztk_5, .int qztk_6, .int qztk_7, .int qztk_8]))] ++ Z) := hD
  have hK : va_K D vwCl ([(qkby, .byte), (qkou, .byte), (qkls, .object RX2), (qknd, .int), (qkt0, .int), (qkp0, .object RX1), (qkt1, .int), (qkp1, .object RX1), (qkt2, .int), (qkp2, .object RX1), (qkt3, .int), (qkp3, .object RX1), (qkt4, .int), (qkp4, .object RX1), (qkt5, .int), (qkp5, .object RX1), (qkzo, .int), (qkon, .int), (qksd, .int), (qkm0, .byte), (qkm2, .int), (qkm3, .int), (qkm4, .byte), (qkm5, .boolean), (qkm6, .boolean), (qkm7, .boolean), (qkm8, .int), (qkm16, .int), (qkm17, .int), (qkm18, .int), (qkm19, .int), (qkm20, .int), (qkm21, .int)] ++ tz) s := kz_K0 hK
  refine ka_stk (w := [.int v_35630]) rfl ?_
  refine lv_pop hx hb dL_law_443 rfl ?_
  refine lv_aload_n hx hb dL_law_444 rfl (lv_at hl 1 rfl) ?_
  refine lv_aload_n hx hb dL_law_445 rfl (lv_at hl 3 rfl) ?_
  refine lv_iload_n hx hb dL_law_446 rfl (lv_at hl 0 rfl) ?_
  refine lv_iconst (v := 1) hx hb dL_law_447 (by decide) ?_
  refine lv_iadd hx hb dL_law_448 ?_
  refine lv_topi (fun v_35631 ev_35631 => ?_)
  have fv_35631 : v_35631.toInt = i.toInt + 1 := by rw [ev_35631]; exact ka_add (x := i.toInt) (y := 1) rfl (by decide) (by omega) (by omega)
  refine va_sld hx hb hX hbl hbA hS (ka_in (by omega) (by omega)) dL_law_449 ?_
  refine ka_top (w := .int z1) (congrArg Value.int (by rw [kp_cl (n := iN + 1) (by omega)]; exact ez1.symm)) ?_
  refine lv_aload_n hx hb dL_law_450 rfl (lv_at hl 3 rfl) ?_
  refine lv_iload_n hx hb dL_law_451 rfl (lv_at hl 0 rfl) ?_
  refine lv_iconst (v := 2) hx hb dL_law_452 (by decide) ?_
  refine lv_iadd hx hb dL_law_453 ?_
  refine lv_topi (fun v_35632 ev_35632 => ?_)
  have fv_35632 : v_35632.toInt = i.toInt + 2 := by rw [ev_35632]; exact ka_add (x := i.toInt) (y := 2) rfl (by decide) (by omega) (by omega)
  refine va_sld hx hb hX hbl hbA hS (ka_in (by omega) (by omega)) dL_law_454 ?_
  refine ka_top (w := .int z2) (congrArg Value.int (by rw [kp_cl (n := iN + 2) (by omega)]; exact ez2.symm)) ?_
  refine kz_EV (n := 2) (wr := [(qtp, .inr (5, [.ref qby, .int qztp_1])), (qby, .inl (qkby, 80, .inl qfby)), (qrd, .inr (3, [.ref qtp, .ref qou, .int qzrd_2, .int qzrd_3, .int qzrd_4, .int qzrd_5, .int qzrd_6, .int qzrd_7])), (qou, .inl (qkou, 120, .inl qfou)), (qls, .inl (qkls, 6, .inr (.inr (.inr (.inr (va_up (va_up (va_up (va_up (va_up (va_up (fun _ => none) 0 (some qL0)) 1 (some qL1)) 2 (some qL2)) 3 (some qL3)) 4 (some qL4)) 5 (some qL5))))))), (qnd, .inl (qknd, 6, .inl qfnd)), (qL0, .inr (2, [.ref qp0, .ref qt0, .int qzL0_2, va_rf qoL0])), (qt0, .inl (qkt0, 32, .inl qft0)), (qp0, .inl (qkp0, 12, .inr (.inr (.inr (.inr qpo0))))), (qL1, .inr (2, [.ref qp1, .ref qt1, .int qzL1_2, va_rf qoL1])), (qt1, .inl (qkt1, 32, .inl qft1)), (qp1, .inl (qkp1, 12, .inr (.inr (.inr (.inr qpo1))))), (qL2, .inr (2, [.ref qp2, .ref qt2, .int qzL2_2, va_rf qoL2])), (qt2, .inl (qkt2, 32, .inl qft2)), (qp2, .inl (qkp2, 12, .inr (.inr (.inr (.inr qpo2))))), (qL3, .inr (2, [.ref qp3, .ref qt3, .int qzL3_2, va_rf qoL3])), (qt3, .inl (qkt3, 32, .inl qft3)), (qp3, .inl (qkp3, 12, .inr (.inr (.inr (.inr qpo3))))), (qL4, .inr (2, [.ref qp4, .ref qt4, .int qzL4_2, va_rf qoL4])), (qt4, .inl (qkt4, 32, .inl qft4)), (qp4, .inl (qkp4, 12, .inr (.inr (.inr (.inr qpo4))))), (qL5, .inr (2, [.ref qp5, .ref qt5, .int qzL5_2, va_rf qoL5])), (qt5, .inl (qkt5, 32, .inl qft5)), (qp5, .inl (qkp5, 12, .inr (.inr (.inr (.inr qpo5))))), (qzo, .inl (qkzo, 32, .inl qfzo)), (qon, .inl (qkon, 32, .inl qfon)), (qsd, .inl (qksd, 10, .inl qfsd)), (qm0, .inl (qkm0, 80, .inl qfm0)), (qm2, .inl (qkm2, 89, .inl qfm2)), (qm3, .inl (qkm3, 89, .inl qfm3)), (qm4, .inl (qkm4, 5340, .inl qfm4)), (qm5, .inl (qkm5, 6, .inl qfm5)), (qm6, .inl (qkm6, 6, .inl qfm6)), (qm7, .inl (qkm7, 36, .inl qfm7)), (qm8, .inl (qkm8, 6, .inl qfm8)), (qm16, .inl (qkm16, 40, .inl qfm16)), (qm17, .inl (qkm17, 40, .inl qfm17)), (qm18, .inl (qkm18, 60, .inl qfm18)), (qm19, .inl (qkm19, 60, .inl qfm19)), (qm20, .inl (qkm20, 60, .inl qfm20)), (qm21, .inl (qkm21, 60, .inl qfm21)), (qh, .inr (6, [.ref qtp, .ref qrd, .ref qco, .ref qtk, .int qzh_4, .int qzh_5, .int v_35626, .int v_35627, .int v_35628])), (qco, .inr (0, [.ref qls, .ref qnd, .int v_35629])), (qtk, .inr (4, [.ref qzo, .ref qon, .ref qsd, .int qztk_3, .int qztk_4, .int qztk_5, .int qztk_6, .int qztk_7, .int qztk_8]))]) C (cr_X7_set_457 l D (kz_F Z tz) qm z1 z2 qm0 qzm_1 qm2 qm3 qm4 qm5 qm6 qm7 qm8 qzm_9 qzm_10 qzm_11 qzm_12 qzm_13 qzm_14 qzm_15 qm16 qm17 qm18 qm19 qm20 qm21 qzm_22 qzm_23 qzm_24 qzm_25 qzm_26 qzm_27 ⟨by omega, by omega⟩ ⟨by omega, by omega⟩ ⟨by omega, by omega⟩ ⟨by omega, by omega⟩ ⟨by omega, by omega⟩ ⟨by omega, by omega⟩ ⟨by omega, by omega⟩ ⟨by omega, by omega⟩ ⟨by omega, by omega⟩ ⟨by omega, by omega⟩) gL_law_X7_set rfl (by decide +kernel) ⟨Nat.le_of_ble_eq_true rfl, Nat.le_of_ble_eq_true rfl⟩ hK hP hD hS hA hE hN [27] rfl (by decide) [0, 1, 2, 3, 4, 5, 6, 7, 8, 9, 10, 11, 12, 13, 14, 15, 16, 17, 18, 19, 20, 21, 22, 23, 24, 25, 26, 28, 29, 30, 31, 32, 33, 34, 35, 36, 37, 38, 39, 40, 41, 42, 43, 44] rfl (by decide) (by decide) [] rfl (ci := 7) rfl rfl 27 rfl rfl hl.1 (rest := []) rfl (Nat.le_of_ble_eq_true rfl) dL_law_455 ⟨show (cells + 0) + 0 ≤ 600000 by omega, show (slots + 0) + 0 ≤ 7302250 by omega⟩ (fun u H locs hq hP hD hK hS => ?_)
  obtain ⟨v_35667, v_35668, v_35669, v_35670⟩ := u
  have hq : (1 ≤ v_35669.toInt ∧ v_35669.toInt ≤ 8) ∧ (0 ≤ v_35670.toInt ∧ v_35670.toInt ≤ 1) := hq
  obtain ⟨hv_35669, hv_35670⟩ := hq
  have hP : va_P D vwCl ([(qtp, .inr (5, [.ref qby, .int qztp_1])), (qby, .inl (qkby, 80, .inl qfby)), (qrd, .inr (3, [.ref qtp, .ref qou, .int qzrd_2, .int qzrd_3, .int qzrd_4, .int qzrd_5, .int qzrd_6, .int qzrd_7])), (qou, .inl (qkou, 120, .inl qfou)), (qls, .inl (qkls, 6, .inr (.inr (.inr (.inr (va_up (va_up (va_up (va_up (va_up (va_up (fun _ => none) 0 (some qL0)) 1 (some qL1)) 2 (some qL2)) 3 (some qL3)) 4 (some qL4)) 5 (some qL5))))))), (qnd, .inl (qknd, 6, .inl qfnd)), (qL0, .inr (2, [.ref qp0, .ref qt0, .int qzL0_2, va_rf qoL0])), (qt0, .inl (qkt0, 32, .inl qft0)), (qp0, .inl (qkp0, 12, .inr (.inr (.inr (.inr qpo0))))), (qL1, .inr (2, [.ref qp1, .ref qt1, .int qzL1_2, va_rf qoL1])), (qt1, .inl (qkt1, 32, .inl qft1)), (qp1, .inl (qkp1, 12, .inr (.inr (.inr (.inr qpo1))))), (qL2, .inr (2, [.ref qp2, .ref qt2, .int qzL2_2, va_rf qoL2])), (qt2, .inl (qkt2, 32, .inl qft2)), (qp2, .inl (qkp2, 12, .inr (.inr (.inr (.inr qpo2))))), (qL3, .inr (2, [.ref qp3, .ref qt3, .int qzL3_2, va_rf qoL3])), (qt3, .inl (qkt3, 32, .inl qft3)), (qp3, .inl (qkp3, 12, .inr (.inr (.inr (.inr qpo3))))), (qL4, .inr (2, [.ref qp4, .ref qt4, .int qzL4_2, va_rf qoL4])), (qt4, .inl (qkt4, 32, .inl qft4)), (qp4, .inl (qkp4, 12, .inr (.inr (.inr (.inr qpo4))))), (qL5, .inr (2, [.ref qp5, .ref qt5, .int qzL5_2, va_rf qoL5])), (qt5, .inl (qkt5, 32, .inl qft5)), (qp5, .inl (qkp5, 12, .inr (.inr (.inr (.inr qpo5))))), (qzo, .inl (qkzo, 32, .inl qfzo)), (qon, .inl (qkon, 32, .inl qfon)), (qsd, .inl (qksd, 10, .inl qfsd)), (qm0, .inl (qkm0, 80, .inl qfm0)), (qm2, .inl (qkm2, 89, .inl qfm2)), (qm3, .inl (qkm3, 89, .inl qfm3)), (qm4, .inl (qkm4, 5340, .inl qfm4)), (qm5, .inl (qkm5, 6, .inl qfm5)), (qm6, .inl (qkm6, 6, .inl qfm6)), (qm7, .inl (qkm7, 36, .inl qfm7)), (qm8, .inl (qkm8, 6, .inl qfm8)), (qm16, .inl (qkm16, 40, .inl qfm16)), (qm17, .inl (qkm17, 40, .inl qfm17)), (qm18, .inl (qkm18, 60, .inl qfm18)), (qm19, .inl (qkm19, 60, .inl qfm19)), (qm20, .inl (qkm20, 60, .inl qfm20)), (qm21, .inl (qkm21, 60, .inl qfm21)), (qh, .inr (6, [.ref qtp, .ref qrd, .ref qco, .ref qtk, .int qzh_4, .int qzh_5, .int v_35626, .int v_35627, .int v_35628])), (qco, .inr (0, [.ref qls, .ref qnd, .int v_35629])), (qtk, .inr (4, [.ref qzo, .ref qon, .ref qsd, .int qztk_3, .int qztk_4, .int qztk_5, .int qztk_6, .int qztk_7, .int qztk_8])), (qm, .inr (7, [.ref qm0, .int qzm_1, .ref qm2, .ref qm3, .ref qm4, .ref qm5, .ref qm6, .ref qm7, .ref qm8, .int qzm_9, .int v_35667, .int v_35668, .int v_35669, .int qzm_13, .int qzm_14, .int qzm_15, .ref qm16, .ref qm17, .ref qm18, .ref qm19, .ref qm20, .ref qm21, .int qzm_22, .int qzm_23, .int qzm_24, .int qzm_25, .int qzm_26, .int qzm_27]))] ++ Z) H := hP
  have hD : va_D A ([(qtp, .inr (5, [.ref qby, .int qztp_1])), (qby, .inl (qkby, 80, .inl qfby)), (qrd, .inr (3, [.ref qtp, .ref qou, .int qzrd_2, .int qzrd_3, .int qzrd_4, .int qzrd_5, .int qzrd_6, .int qzrd_7])), (qou, .inl (qkou, 120, .inl qfou)), (qls, .inl (qkls, 6, .inr (.inr (.inr (.inr (va_up (va_up (va_up (va_up (va_up (va_up (fun _ => none) 0 (some qL0)) 1 (some qL1)) 2 (some qL2)) 3 (some qL3)) 4 (some qL4)) 5 (some qL5))))))), (qnd, .inl (qknd, 6, .inl qfnd)), (qL0, .inr (2, [.ref qp0, .ref qt0, .int qzL0_2, va_rf qoL0])), (qt0, .inl (qkt0, 32, .inl qft0)), (qp0, .inl (qkp0, 12, .inr (.inr (.inr (.inr qpo0))))), (qL1, .inr (2, [.ref qp1, .ref qt1, .int qzL1_2, va_rf qoL1])), (qt1, .inl (qkt1, 32, .inl qft1)), (qp1, .inl (qkp1, 12, .inr (.inr (.inr (.inr qpo1))))), (qL2, .inr (2, [.ref qp2, .ref qt2, .int qzL2_2, va_rf qoL2])), (qt2, .inl (qkt2, 32, .inl qft2)), (qp2, .inl (qkp2, 12, .inr (.inr (.inr (.inr qpo2))))), (qL3, .inr (2, [.ref qp3, .ref qt3, .int qzL3_2, va_rf qoL3])), (qt3, .inl (qkt3, 32, .inl qft3)), (qp3, .inl (qkp3, 12, .inr (.inr (.inr (.inr qpo3))))), (qL4, .inr (2, [.ref qp4, .ref qt4, .int qzL4_2, va_rf qoL4])), (qt4, .inl (qkt4, 32, .inl qft4)), (qp4, .inl (qkp4, 12, .inr (.inr (.inr (.inr qpo4))))), (qL5, .inr (2, [.ref qp5, .ref qt5, .int qzL5_2, va_rf qoL5])), (qt5, .inl (qkt5, 32, .inl qft5)), (qp5, .inl (qkp5, 12, .inr (.inr (.inr (.inr qpo5))))), (qzo, .inl (qkzo, 32, .inl qfzo)), (qon, .inl (qkon, 32, .inl qfon)), (qsd, .inl (qksd, 10, .inl qfsd)), (qm0, .inl (qkm0, 80, .inl qfm0)), (qm2, .inl (qkm2, 89, .inl qfm2)), (qm3, .inl (qkm3, 89, .inl qfm3)), (qm4, .inl (qkm4, 5340, .inl qfm4)), (qm5, .inl (qkm5, 6, .inl qfm5)), (qm6, .inl (qkm6, 6, .inl qfm6)), (qm7, .inl (qkm7, 36, .inl qfm7)), (qm8, .inl (qkm8, 6, .inl qfm8)), (qm16, .inl (qkm16, 40, .inl qfm16)), (qm17, .inl (qkm17, 40, .inl qfm17)), (qm18, .inl (qkm18, 60, .inl qfm18)), (qm19, .inl (qkm19, 60, .inl qfm19)), (qm20, .inl (qkm20, 60, .inl qfm20)), (qm21, .inl (qkm21, 60, .inl qfm21)), (qh, .inr (6, [.ref qtp, .ref qrd, .ref qco, .ref qtk, .int qzh_4, .int qzh_5, .int v_35626, .int v_35627, .int v_35628])), (qco, .inr (0, [.ref qls, .ref qnd, .int v_35629])), (qtk, .inr (4, [.ref qzo, .ref qon, .ref qsd, .int qztk_3, .int qztk_4, .int qztk_5, .int qztk_6, .int qztk_7, .int qztk_8])), (qm, .inr (7, [.ref qm0, .int qzm_1, .ref qm2, .ref qm3, .ref qm4, .ref qm5, .ref qm6, .ref qm7, .ref qm8, .int qzm_9, .int v_35667, .int v_35668, .int v_35669, .int qzm_13, .int qzm_14, .int qzm_15, .ref qm16, .ref qm17, .ref qm18, .ref qm19, .ref qm20, .ref qm21, .int qzm_22, .int qzm_23, .int qzm_24, .int qzm_25, .int qzm_26, .int qzm_27]))] ++ Z) := hD
  have hK : va_K D vwCl ([(qkby, .byte), (qkou, .byte), (qkls, .object RX2), (qknd, .int), (qkt0, .int), (qkp0, .object RX1), (qkt1, .int), (qkp1, .object RX1), (qkt2, .int), (qkp2, .object RX1), (qkt3, .int), (qkp3, .object RX1), (qkt4, .int), (qkp4, .object RX1), (qkt5, .int), (qkp5, .object RX1), (qkzo, .int), (qkon, .int), (qksd, .int), (qkm0, .byte), (qkm2, .int), (qkm3, .int), (qkm4, .byte), (qkm5, .boolean), (qkm6, .boolean), (qkm7, .boolean), (qkm8, .int), (qkm16, .int), (qkm17, .int), (qkm18, .int), (qkm19, .int), (qkm20, .int), (qkm21, .int)] ++ tz) s := kz_K0 hK
  refine ka_stk (w := [.int v_35670]) rfl ?_
  refine lv_pop hx hb dL_law_458 rfl ?_
  refine lv_goto (tgt := 725) hx hb dL_law_459 (by decide) ?_
  refine W.widen (k := cells + 2) (n := slots + 122) (show ((cells + 0) + 0) ≤ cells + 2 by omega) (show ((slots + 0) + 0) ≤ slots + 122 by omega) ?_
  exact kk qzh_4 qzh_5 v_35626 v_35627 v_35628 qztp_1 qfby qzrd_2 qzrd_3 qzrd_4 qzrd_5 qzrd_6 qzrd_7 qfou v_35629 qfnd qzL0_2 qoL0 qft0 qpo0 qzL1_2 qoL1 qft1 qpo1 qzL2_2 qoL2 qft2 qpo2 qzL3_2 qoL3 qft3 qpo3 qzL4_2 qoL4 qft4 qpo4 qzL5_2 qoL5 qft5 qpo5 qztk_3 qztk_4 qztk_5 qztk_6 qztk_7 qztk_8 qfzo qfon qfsd qzm_1 qzm_9 v_35667 v_35668 v_35669 qzm_13 qzm_14 qzm_15 qzm_22 qzm_23 qzm_24 qzm_25 qzm_26 qzm_27 qfm0 qfm2 qfm3 qfm4 qfm5 qfm6 qfm7 qfm8 qfm16 qfm17 qfm18 qfm19 qfm20 qfm21 Z tz ⟨by omega, by omega⟩ ⟨by omega, by omega⟩ hqfby ⟨by omega, by omega⟩ hqfou ⟨by omega, by omega⟩ hqoL0 hqpo0 ⟨by omega, by omega⟩ hqoL1 hqpo1 ⟨by omega, by omega⟩ hqoL2 hqpo2 ⟨by omega, by omega⟩ hqoL3 hqpo3 ⟨by omega, by omega⟩ hqoL4 hqpo4 ⟨by omega, by omega⟩ hqoL5 hqpo5 ⟨by omega, by omega⟩ ⟨by omega, by omega⟩ ⟨by omega, by omega⟩ ⟨by omega, by omega⟩ ⟨by omega, by omega⟩ ⟨by omega, by omega⟩ ⟨by omega, by omega⟩ ⟨by omega, by omega⟩ ⟨by omega, by omega⟩ ⟨by omega, by omega⟩ ⟨by omega, by omega⟩ hqfm0 hqfm3 hqfm4 hqfm8 hrel H locs (kz_subP hP [41, 0, 1, 2, 3, 42, 4, 5, 6, 7, 8, 9, 10, 11, 12, 13, 14, 15, 16, 17, 18, 19, 20, 21, 22, 23, 43, 24, 25, 26, 44, 27, 28, 29, 30, 31, 32, 33, 34, 35, 36, 37, 38, 39, 40] rfl) (kz_subD hD [41, 0, 1, 2, 3, 42, 4, 5, 6, 7, 8, 9, 10, 11, 12, 13, 14, 15, 16, 17, 18, 19, 20, 21, 22, 23, 43, 24, 25, 26, 44, 27, 28, 29, 30, 31, 32, 33, 34, 35, 36, 37, 38, 39, 40] (by decide) rfl) hK hS ls (lv_sub hl [0, 1, 2, 3] rfl)
