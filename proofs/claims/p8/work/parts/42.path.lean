set_option maxHeartbeats 4000000 in
set_option maxRecDepth 100000 in
theorem cg_X7_isIn_399 (l : Launch) (D : va_G) (F : Nat → Prop) (x0 : Int32) (x1 : Int32) (hx0 : x0.toInt ≤ -1) (hx1 : -1 ≤ x1.toInt ∧ x1.toInt ≤ 11) : ka_R l D F yX7_isIn wsX7_isIn 0 0 [.int x0, .int 0, .int x1] [] [] (fun v => v = some (.int 0)) := by
  refine ka_R_of (cc := cX7_isIn) (maxL := 3) (ret := (some .boolean)) (by decide) rfl (Nat.le_of_ble_eq_true rfl) ?_
  intro p e s m below meth c ls C hr hlk hP hK hE hN hl
  have hS : va_S (fun _ => False) s.heap s.heap [] := va_S.rf
  have C : CallFix p m c cX7_isIn 3 s [.int x0, .int 0, .int x1].toArray wsX7_isIn RX7 := C
  obtain ⟨hx, hb, hml, hown, hts⟩ := id C
  have hl : lv_has ls 3 [(0, .int x0), (1, .int 0), (2, .int x1)] := hl
  have rx0 := ka_rng x0
  have rx1 := ka_rng x1
  refine lv_iload_n hx hb dX7_isIn_0 rfl (lv_at hl 0 rfl) ?_
  refine lv_iload_n hx hb dX7_isIn_1 rfl (lv_at hl 1 rfl) ?_
  refine lv_icmp_lt (tgt := 14) hx hb dX7_isIn_2 (by decide) (fun _ => ?_) (fun c_ => absurd (by rw [ka_lt', show ((0 : Int32)).toInt = 0 from by decide]; omega) c_)
  refine lv_iconst (v := 0) hx hb dX7_isIn_14 (by decide) ?_
  exact ka_rRz C hr hlk rfl rfl dX7_isIn_15
set_option maxHeartbeats 4000000 in
set_option maxRecDepth 100000 in
theorem cg_X7_isIn_400 (l : Launch) (D : va_G) (F : Nat → Prop) (x0 : Int32) (x1 : Int32) (hx0 : 0 ≤ x0.toInt ∧ x0.toInt ≤ 11) (hx1 : -1 ≤ x1.toInt ∧ x1.toInt ≤ 11) : ka_R l D F yX7_isIn wsX7_isIn 0 0 [.int x0, .int 0, .int x1] [] [] (fun v => ∃ x : Int32, v = some (.int x) ∧ 0 ≤ x.toInt ∧ x.toInt ≤ 1) := by
  refine ka_R_of (cc := cX7_isIn) (maxL := 3) (ret := (some .boolean)) (by decide) rfl (Nat.le_of_ble_eq_true rfl) ?_
  intro p e s m below meth c ls C hr hlk hP hK hE hN hl
  have hS : va_S (fun _ => False) s.heap s.heap [] := va_S.rf
  have C : CallFix p m c cX7_isIn 3 s [.int x0, .int 0, .int x1].toArray wsX7_isIn RX7 := C
  obtain ⟨hx, hb, hml, hown, hts⟩ := id C
  have hl : lv_has ls 3 [(0, .int x0), (1, .int 0), (2, .int x1)] := hl
  have rx0 := ka_rng x0
  have rx1 := ka_rng x1
  refine lv_iload_n hx hb dX7_isIn_0 rfl (lv_at hl 0 rfl) ?_
  refine lv_iload_n hx hb dX7_isIn_1 rfl (lv_at hl 1 rfl) ?_
  refine lv_icmp_lt (tgt := 14) hx hb dX7_isIn_2 (by decide) (fun c_ => absurd c_ (by rw [ka_lt', show ((0 : Int32)).toInt = 0 from by decide]; omega)) (fun _ => ?_)
  refine lv_iload_n hx hb dX7_isIn_5 rfl (lv_at hl 0 rfl) ?_
  refine lv_iload_n hx hb dX7_isIn_6 rfl (lv_at hl 2 rfl) ?_
  refine lv_icmp_gt (tgt := 14) hx hb dX7_isIn_7 (by decide) (fun c_31851 => ?_) (fun c_31851 => ?_)
  · have c_31851 : x1.toInt < x0.toInt := by rw [ka_lt'] at c_31851; exact c_31851
    refine lv_iconst (v := 0) hx hb dX7_isIn_14 (by decide) ?_
    exact ka_rRz C hr hlk rfl ⟨_, rfl, ⟨by decide, by decide⟩⟩ dX7_isIn_15
  · have c_31851 : ¬ x1.toInt < x0.toInt := by rw [ka_lt'] at c_31851; exact c_31851
    refine lv_iconst (v := 1) hx hb dX7_isIn_10 (by decide) ?_
    refine lv_goto (tgt := 15) hx hb dX7_isIn_11 (by decide) ?_
    exact ka_rRz C hr hlk rfl ⟨_, rfl, ⟨by decide, by decide⟩⟩ dX7_isIn_15
set_option maxHeartbeats 4000000 in
set_option maxRecDepth 100000 in
theorem cg_X7_parts_401 (l : Launch) (D : va_G) (F : Nat → Prop) (a0 : Nat) (x0 : Int32) (a1 : Nat) (x1 : Int32) (a2 : Nat) (a3 : Nat) (a4 : Nat) (a5 : Nat) (a6 : Nat) (a7 : Nat) (a8 : Nat) (x2 : Int32) (x3 : Int32) (x4 : Int32) (x5 : Int32) (x6 : Int32) (x7 : Int32) (x8 : Int32) (a9 : Nat) (a10 : Nat) (a11 : Nat) (a12 : Nat) (a13 : Nat) (a14 : Nat) (x9 : Int32) (x10 : Int32) (x11 : Int32) (x12 : Int32) (x13 : Int32) (x14 : Int32) (k0 : ClassId) (f0 : Nat → Int32) (k1 : ClassId) (f1 : Nat → Int32) (hx1 : 0 ≤ x1.toInt ∧ x1.toInt ≤ 80) (hx2 : 0 ≤ x2.toInt ∧ x2.toInt ≤ 5) (hx5 : 1 ≤ x5.toInt ∧ x5.toInt ≤ 8) (hx6 : 0 ≤ x6.toInt ∧ x6.toInt ≤ 40) (hx8 : 0 ≤ x8.toInt ∧ x8.toInt ≤ 10) (hx9 : 0 ≤ x9.toInt ∧ x9.toInt ≤ 60) (hx10 : 0 ≤ x10.toInt ∧ x10.toInt ≤ 60) (hx11 : 0 ≤ x11.toInt ∧ x11.toInt ≤ 60) (hx12 : 0 ≤ x12.toInt ∧ x12.toInt ≤ 8) (hx14 : 0 ≤ x14.toInt ∧ x14.toInt ≤ 1) (hf1 : ∀ j : Nat, 0 ≤ (f1 j).toInt ∧ (f1 j).toInt ≤ 12) : ka_R l D F yX7_parts wsX7_parts 2 46 [.ref a0, .int x0, .int 0] [(a0, .inr (7, [.ref a1, .int x1, .ref a2, .ref a3, .ref a4, .ref a5, .ref a6, .ref a7, .ref a8, .int x2, .int x3, .int x4, .int x5, .int x6, .int x7, .int x8, .ref a9, .ref a10, .ref a11, .ref a12, .ref a13, .ref a14, .int x9, .int x10, .int x11, .int x12, .int x13, .int x14])), (a2, .inl (k0, 89, .inl f0)), (a8, .inl (k1, 6, .inl f1))] [(k0, .int), (k1, .int)] (fun v => ∃ x : Int32, v = some (.int x) ∧ (-1 ≤ x.toInt ∧ x.toInt ≤ 31) ∧ (x.toInt = -1 ∨ ¬ kb_sb 0 x = 1)) := by
  refine ka_R_of (cc := cX7_parts) (maxL := 8) (ret := (some .int)) (by decide) rfl (Nat.le_of_ble_eq_true rfl) ?_
  intro p e s m below meth c ls C hr hlk hP hK hE hN hl
  have hS : va_S (fun _ => False) s.heap s.heap [] := va_S.rf
  have C : CallFix p m c cX7_parts 8 s [.ref a0, .int x0, .int 0].toArray wsX7_parts RX7 := C
  obtain ⟨hx, hb, hml, hown, hts⟩ := id C
  have hl : lv_has ls 8 [(0, .ref a0), (1, .int x0), (2, .int 0)] := hl
  have rx0 := ka_rng x0
  have rx1 := ka_rng x1
  have rx2 := ka_rng x2
  have rx3 := ka_rng x3
  have rx4 := ka_rng x4
  have rx5 := ka_rng x5
  have rx6 := ka_rng x6
  have rx7 := ka_rng x7
  have rx8 := ka_rng x8
  have rx9 := ka_rng x9
  have rx10 := ka_rng x10
  have rx11 := ka_rng x11
  have rx12 := ka_rng x12
  have rx13 := ka_rng x13
  have rx14 := ka_rng x14
  refine lv_iconst (v := (-1)) hx hb dX7_parts_0 (by decide) ?_
  refine lv_istore_n (lv' := [(3, .int (-1)), (0, .ref a0), (1, .int x0), (2, .int 0)]) hx hb dX7_parts_1 rfl hl (by decide) rfl (fun ls hl => ?_)
  refine lv_iload_n hx hb dX7_parts_2 rfl (lv_at hl 2 rfl) ?_
  refine ka_RS (n := 1) C (cg_X7_many_262 l D F x0) gX7_parts_X7_many rfl (by decide +kernel) ⟨Nat.le_of_ble_eq_true rfl, Nat.le_of_ble_eq_true rfl⟩ hK hP hS hE hN [] rfl [] rfl rfl hl.1 (rest := []) rfl (Nat.le_of_ble_eq_true rfl) dX7_parts_3 ⟨Nat.le_of_ble_eq_true rfl, Nat.le_of_ble_eq_true rfl⟩ (fun v hv => ?_)
  obtain ⟨v_31972, rfl⟩ := hv
  have rv_31972 := ka_rng v_31972
  refine ka_stk (w := [.int v_31972]) rfl ?_
  refine lv_istore (lv' := [(4, .int v_31972), (3, .int (-1)), (0, .ref a0), (1, .int x0), (2, .int 0)]) hx hb dX7_parts_6 hl (by decide) rfl (fun ls hl => ?_)
  refine lv_iconst (v := 0) hx hb dX7_parts_8 (by decide) ?_
  refine lv_istore (lv' := [(5, .int 0), (4, .int v_31972), (3, .int (-1)), (0, .ref a0), (1, .int x0), (2, .int 0)]) hx hb dX7_parts_9 hl (by decide) rfl (fun ls hl => ?_)
  have lp_31973 : ∀ (n : Nat) (i31973_3 : Int32) (i31973_4 : Int32) (i31973_5 : Int32), (-1 ≤ i31973_3.toInt ∧ i31973_3.toInt ≤ 31) → (0 ≤ i31973_5.toInt ∧ i31973_5.toInt ≤ 32) → (i31973_3.toInt = -1 ∨ ¬ kb_sb 0 i31973_3 = 1) → (32 - i31973_5.toInt).toNat < n → ∀ (ls : Array Slot), lv_has ls 8 [(0, .ref a0), (1, .int x0), (2, .int 0), (3, .int i31973_3), (4, .int i31973_4), (5, .int i31973_5)] → W p l e ({ frames := 2, cells := 0, slots := 0, locals := 46 }) s m [.ref a0, .int x0, .int 0].toArray below meth c s.heap [] 0 0 (MQ below (ka_QR (fun v => ∃ x : Int32, v = some (.int x) ∧ (-1 ≤ x.toInt ∧ x.toInt ≤ 31) ∧ (x.toInt = -1 ∨ ¬ kb_sb 0 x = 1))) [.ref a0, .int x0, .int 0].toArray s 0 0 (fun _ => False)) (F0 m 11 ls []) := by
    intro n
    induction n with
    | zero =>
      intro i31973_3 i31973_4 i31973_5 hi31973_3 hi31973_5 hx31973 hm
      exact absurd hm (Nat.not_lt_zero _)
    | succ n ih_31973 =>
      intro i31973_3 i31973_4 i31973_5 hi31973_3 hi31973_5 hx31973 hm ls hl
      have ri31973_3 := ka_rng i31973_3
      have ri31973_4 := ka_rng i31973_4
      have ri31973_5 := ka_rng i31973_5
      refine lv_iload hx hb dX7_parts_11 (lv_at hl 5 rfl) ?_
      refine lv_bipush (v := 32) hx hb dX7_parts_13 (by decide) ?_
      refine lv_icmp_ge (tgt := 80) hx hb dX7_parts_15 (by decide) (fun c_31987 => ?_) (fun c_31987 => ?_)
      · have c_31987 : 32 ≤ i31973_5.toInt := by rw [ka_le', show ((32 : Int32)).toInt = 32 from by decide] at c_31987; exact c_31987
        refine lv_iload_n hx hb dX7_parts_80 rfl (lv_at hl 3 rfl) ?_
        exact ka_rRi C hr hlk ⟨_, rfl, ⟨by omega, by omega⟩, (by first | assumption | exact Or.inl (by decide))⟩ dX7_parts_81
      · have c_31987 : ¬ 32 ≤ i31973_5.toInt := by rw [ka_le', show ((32 : Int32)).toInt = 32 from by decide] at c_31987; exact c_31987
        refine lv_iload_n hx hb dX7_parts_18 rfl (lv_at hl 2 rfl) ?_
        refine lv_iload hx hb dX7_parts_19 (lv_at hl 5 rfl) ?_
        refine lv_ishr hx hb dX7_parts_21 ?_
        refine lv_topi (fun v_31988 ev_31988 => ?_)
        refine lv_iconst (v := 1) hx hb dX7_parts_22 (by decide) ?_
        refine lv_iand hx hb dX7_parts_23 ?_
        refine lv_topi (fun v_31989 ev_31989 => ?_)
        refine lv_iconst (v := 1) hx hb dX7_parts_24 (by decide) ?_
        refine lv_icmp_ne (tgt := 31) hx hb dX7_parts_25 (by decide) (fun c_31990 => ?_) (fun c_31990 => ?_)
        · have c_31990 : ¬ v_31989.toInt = 1 := by rw [ka_eq', show ((1 : Int32)).toInt = 1 from by decide] at c_31990; exact c_31990
          refine lv_aload_n hx hb dX7_parts_31 rfl (lv_at hl 0 rfl) ?_
          refine lv_iload_n hx hb dX7_parts_32 rfl (lv_at hl 1 rfl) ?_
          refine lv_iload hx hb dX7_parts_33 (lv_at hl 5 rfl) ?_
          refine ka_RV (n := 2) C (cg_X7_tellOne_264 l D F a0 x0 i31973_5 a1 x1 a2 a3 a4 a5 a6 a7 a8 x2 x3 x4 x5 x6 x7 x8 a9 a10 a11 a12 a13 a14 x9 x10 x11 x12 x13 x14 k0 f0 k1 f1 ⟨by omega, by omega⟩ ⟨by omega, by omega⟩ ⟨by omega, by omega⟩ ⟨by omega, by omega⟩ ⟨by omega, by omega⟩ ⟨by omega, by omega⟩ ⟨by omega, by omega⟩ ⟨by omega, by omega⟩ ⟨by omega, by omega⟩ ⟨by omega, by omega⟩ ⟨by omega, by omega⟩ hf1) gX7_parts_X7_tellOne rfl (by decide +kernel) ⟨Nat.le_of_ble_eq_true rfl, Nat.le_of_ble_eq_true rfl⟩ hK hP hS hE hN [0, 1, 2] rfl [0, 1] rfl (ci := 7) rfl rfl 0 rfl rfl hl.1 (rest := []) rfl (Nat.le_of_ble_eq_true rfl) dX7_parts_35 ⟨Nat.le_of_ble_eq_true rfl, Nat.le_of_ble_eq_true rfl⟩ (fun v hv => ?_)
          obtain ⟨v_31991, rfl⟩ := hv
          have rv_31991 := ka_rng v_31991
          refine ka_stk (w := [.int v_31991]) rfl ?_
          refine ka_RS (n := 1) C (cg_X7_many_262 l D F v_31991) gX7_parts_X7_many rfl (by decide +kernel) ⟨Nat.le_of_ble_eq_true rfl, Nat.le_of_ble_eq_true rfl⟩ hK hP hS hE hN [] rfl [] rfl rfl hl.1 (rest := []) rfl (Nat.le_of_ble_eq_true rfl) dX7_parts_38 ⟨Nat.le_of_ble_eq_true rfl, Nat.le_of_ble_eq_true rfl⟩ (fun v hv => ?_)
          obtain ⟨v_31992, rfl⟩ := hv
          have rv_31992 := ka_rng v_31992
          refine ka_stk (w := [.int v_31992]) rfl ?_
          refine lv_istore (lv' := [(6, .int v_31992), (0, .ref a0), (1, .int x0), (2, .int 0), (3, .int i31973_3), (4, .int i31973_4), (5, .int i31973_5)]) hx hb dX7_parts_41 hl (by decide) rfl (fun ls hl => ?_)
          refine lv_iload hx hb dX7_parts_43 (lv_at hl 0 rfl) ?_
          refine lv_iload_n hx hb dX7_parts_45 rfl (lv_at hl 2 rfl) ?_
          refine ka_RS (n := 1) C (cg_X7_many_262 l D F x0) gX7_parts_X7_many rfl (by decide +kernel) ⟨Nat.le_of_ble_eq_true rfl, Nat.le_of_ble_eq_true rfl⟩ hK hP hS hE hN [] rfl [] rfl rfl hl.1 (rest := [.int v_31992]) rfl (Nat.le_of_ble_eq_true rfl) dX7_parts_46 ⟨Nat.le_of_ble_eq_true rfl, Nat.le_of_ble_eq_true rfl⟩ (fun v hv => ?_)
          obtain ⟨v_31993, rfl⟩ := hv
          have rv_31993 := ka_rng v_31993
          refine ka_stk (w := [.int v_31993, .int v_31992]) rfl ?_
          refine lv_iload hx hb dX7_parts_49 (lv_at hl 0 rfl) ?_
          refine lv_isub hx hb dX7_parts_51 ?_
          refine lv_topi (fun v_31994 ev_31994 => ?_)
          refine va_mmax hx hb (hml.trans hl.1.symm) hown (hts _ lq_330) (hts _ lq_331) (hts _ lq_332) (hts _ lq_333) (Nat.le_of_ble_eq_true rfl) (Nat.le_of_ble_eq_true rfl) (Nat.le_of_ble_eq_true rfl) (Nat.le_of_ble_eq_true rfl) dX7_parts_52 ?_
          refine lv_topi (fun v_31995 ev_31995 => ?_)
          have fv_31995 := kb_max v_31992 v_31994; rw [← ev_31995] at fv_31995
          refine lv_istore (lv' := [(7, .int v_31995), (6, .int v_31992), (0, .ref a0), (1, .int x0), (2, .int 0), (3, .int i31973_3), (4, .int i31973_4), (5, .int i31973_5)]) hx hb dX7_parts_55 hl (by decide) rfl (fun ls hl => ?_)
          refine lv_iload hx hb dX7_parts_57 (lv_at hl 0 rfl) ?_
          refine lv_iload hx hb dX7_parts_59 (lv_at hl 6 rfl) ?_
          refine lv_icmp_lt (tgt := 67) hx hb dX7_parts_61 (by decide) (fun c_31996 => ?_) (fun c_31996 => ?_)
          · have c_31996 : v_31995.toInt < i31973_4.toInt := by rw [ka_lt'] at c_31996; exact c_31996
            refine lv_iload hx hb dX7_parts_67 (lv_at hl 7 rfl) ?_
            refine lv_istore_n (lv' := [(3, .int i31973_5), (7, .int v_31995), (6, .int v_31992), (0, .ref a0), (1, .int x0), (2, .int 0), (4, .int i31973_4), (5, .int i31973_5)]) hx hb dX7_parts_69 rfl hl (by decide) rfl (fun ls hl => ?_)
            refine lv_iload hx hb dX7_parts_70 (lv_at hl 1 rfl) ?_
            refine lv_istore (lv' := [(4, .int v_31995), (3, .int i31973_5), (7, .int v_31995), (6, .int v_31992), (0, .ref a0), (1, .int x0), (2, .int 0), (5, .int i31973_5)]) hx hb dX7_parts_72 hl (by decide) rfl (fun ls hl => ?_)
            obtain ⟨v_31997, ev_31997⟩ : ∃ y : Int32, y = i31973_5 + 1 := ⟨_, rfl⟩
            refine lv_iinc (v := v_31997) (lv' := [(5, .int v_31997), (4, .int v_31995), (3, .int i31973_5), (7, .int v_31995), (6, .int v_31992), (0, .ref a0), (1, .int x0), (2, .int 0)]) hx hb dX7_parts_74 hl (k := 7) rfl (by rw [ev_31997]; rfl) (by decide) rfl (fun ls hl => ?_)
            have fv_31997 : v_31997.toInt = i31973_5.toInt + 1 := by rw [ev_31997]; exact ka_add (x := i31973_5.toInt) (y := 1) rfl (by decide) (by omega) (by omega)
            refine lv_goto (tgt := 11) hx hb dX7_parts_77 (by decide) ?_
            exact ih_31973 i31973_5 v_31995 v_31997 ⟨by omega, by omega⟩ ⟨by omega, by omega⟩ (by first | assumption | exact Or.inr (kb_sbp (by assumption) (by assumption) (by assumption))) (by omega) ls (lv_sub hl [5, 6, 7, 2, 1, 0] rfl)
          · have c_31996 : ¬ v_31995.toInt < i31973_4.toInt := by rw [ka_lt'] at c_31996; exact c_31996
            refine lv_goto (tgt := 74) hx hb dX7_parts_64 (by decide) ?_
            obtain ⟨v_31998, ev_31998⟩ : ∃ y : Int32, y = i31973_5 + 1 := ⟨_, rfl⟩
            refine lv_iinc (v := v_31998) (lv' := [(5, .int v_31998), (7, .int v_31995), (6, .int v_31992), (0, .ref a0), (1, .int x0), (2, .int 0), (3, .int i31973_3), (4, .int i31973_4)]) hx hb dX7_parts_74 hl (k := 7) rfl (by rw [ev_31998]; rfl) (by decide) rfl (fun ls hl => ?_)
            have fv_31998 : v_31998.toInt = i31973_5.toInt + 1 := by rw [ev_31998]; exact ka_add (x := i31973_5.toInt) (y := 1) rfl (by decide) (by omega) (by omega)
            refine lv_goto (tgt := 11) hx hb dX7_parts_77 (by decide) ?_
            exact ih_31973 i31973_3 i31973_4 v_31998 ⟨by omega, by omega⟩ ⟨by omega, by omega⟩ (by first | assumption | exact Or.inr (kb_sbp (by assumption) (by assumption) (by assumption))) (by omega) ls (lv_sub hl [3, 4, 5, 6, 7, 0] rfl)
        · have c_31990 : v_31989.toInt = 1 := by rw [ka_eq', show ((1 : Int32)).toInt = 1 from by decide] at c_31990; exact c_31990
          refine lv_goto (tgt := 74) hx hb dX7_parts_28 (by decide) ?_
          obtain ⟨v_31999, ev_31999⟩ : ∃ y : Int32, y = i31973_5 + 1 := ⟨_, rfl⟩
          refine lv_iinc (v := v_31999) (lv' := [(5, .int v_31999), (0, .ref a0), (1, .int x0), (2, .int 0), (3, .int i31973_3), (4, .int i31973_4)]) hx hb dX7_parts_74 hl (k := 5) rfl (by rw [ev_31999]; rfl) (by decide) rfl (fun ls hl => ?_)
          have fv_31999 : v_31999.toInt = i31973_5.toInt + 1 := by rw [ev_31999]; exact ka_add (x := i31973_5.toInt) (y := 1) rfl (by decide) (by omega) (by omega)
          refine lv_goto (tgt := 11) hx hb dX7_parts_77 (by decide) ?_
          exact ih_31973 i31973_3 i31973_4 v_31999 ⟨by omega, by omega⟩ ⟨by omega, by omega⟩ (by first | assumption | exact Or.inr (kb_sbp (by assumption) (by assumption) (by assumption))) (by omega) ls (lv_sub hl [1, 2, 3, 4, 5, 0] rfl)
  exact lp_31973 _ (-1) v_31972 0 ⟨by decide, by decide⟩ ⟨by decide, by decide⟩ (Or.inl (by decide)) (Nat.lt_succ_self _) ls (lv_sub hl [3, 4, 5, 2, 1, 0] rfl)
set_option maxHeartbeats 4000000 in
set_option maxRecDepth 100000 in
theorem cg_X7_parts_402 (l : Launch) (D : va_G) (F : Nat → Prop) (a0 : Nat) (x0 : Int32) (x1 : Int32) (a1 : Nat) (x2 : Int32) (a2 : Nat) (a3 : Nat) (a4 : Nat) (a5 : Nat) (a6 : Nat) (a7 : Nat) (a8 : Nat) (x3 : Int32) (x4 : Int32) (x5 : Int32) (x6 : Int32) (x7 : Int32) (x8 : Int32) (x9 : Int32) (a9 : Nat) (a10 : Nat) (a11 : Nat) (a12 : Nat) (a13 : Nat) (a14 : Nat) (x10 : Int32) (x11 : Int32) (x12 : Int32) (x13 : Int32) (x14 : Int32) (x15 : Int32) (k0 : ClassId) (f0 : Nat → Int32) (k1 : ClassId) (f1 : Nat → Int32) (hx2 : 0 ≤ x2.toInt ∧ x2.toInt ≤ 80) (hx3 : 0 ≤ x3.toInt ∧ x3.toInt ≤ 5) (hx6 : 1 ≤ x6.toInt ∧ x6.toInt ≤ 8) (hx7 : 0 ≤ x7.toInt ∧ x7.toInt ≤ 40) (hx9 : 0 ≤ x9.toInt ∧ x9.toInt ≤ 10) (hx10 : 0 ≤ x10.toInt ∧ x10.toInt ≤ 60) (hx11 : 0 ≤ x11.toInt ∧ x11.toInt ≤ 60) (hx12 : 0 ≤ x12.toInt ∧ x12.toInt ≤ 60) (hx13 : 0 ≤ x13.toInt ∧ x13.toInt ≤ 8) (hx15 : 0 ≤ x15.toInt ∧ x15.toInt ≤ 1) (hf1 : ∀ j : Nat, 0 ≤ (f1 j).toInt ∧ (f1 j).toInt ≤ 12) : ka_R l D F yX7_parts wsX7_parts 2 46 [.ref a0, .int x0, .int x1] [(a0, .inr (7, [.ref a1, .int x2, .ref a2, .ref a3, .ref a4, .ref a5, .ref a6, .ref a7, .ref a8, .int x3, .int x4, .int x5, .int x6, .int x7, .int x8, .int x9, .ref a9, .ref a10, .ref a11, .ref a12, .ref a13, .ref a14, .int x10, .int x11, .int x12, .int x13, .int x14, .int x15])), (a2, .inl (k0, 89, .inl f0)), (a8, .inl (k1, 6, .inl f1))] [(k0, .int), (k1, .int)] (fun v => ∃ x : Int32, v = some (.int x) ∧ (-1 ≤ x.toInt ∧ x.toInt ≤ 31) ∧ (x.toInt = -1 ∨ ¬ kb_sb x1 x = 1)) := by
  refine ka_R_of (cc := cX7_parts) (maxL := 8) (ret := (some .int)) (by decide) rfl (Nat.le_of_ble_eq_true rfl) ?_
  intro p e s m below meth c ls C hr hlk hP hK hE hN hl
  have hS : va_S (fun _ => False) s.heap s.heap [] := va_S.rf
  have C : CallFix p m c cX7_parts 8 s [.ref a0, .int x0, .int x1].toArray wsX7_parts RX7 := C
  obtain ⟨hx, hb, hml, hown, hts⟩ := id C
  have hl : lv_has ls 8 [(0, .ref a0), (1, .int x0), (2, .int x1)] := hl
  have rx0 := ka_rng x0
  have rx1 := ka_rng x1
  have rx2 := ka_rng x2
  have rx3 := ka_rng x3
  have rx4 := ka_rng x4
  have rx5 := ka_rng x5
  have rx6 := ka_rng x6
  have rx7 := ka_rng x7
  have rx8 := ka_rng x8
  have rx9 := ka_rng x9
  have rx10 := ka_rng x10
  have rx11 := ka_rng x11
  have rx12 := ka_rng x12
  have rx13 := ka_rng x13
  have rx14 := ka_rng x14
  have rx15 := ka_rng x15
  refine lv_iconst (v := (-1)) hx hb dX7_parts_0 (by decide) ?_
  refine lv_istore_n (lv' := [(3, .int (-1)), (0, .ref a0), (1, .int x0), (2, .int x1)]) hx hb dX7_parts_1 rfl hl (by decide) rfl (fun ls hl => ?_)
  refine lv_iload_n hx hb dX7_parts_2 rfl (lv_at hl 2 rfl) ?_
  refine ka_RS (n := 1) C (cg_X7_many_262 l D F x0) gX7_parts_X7_many rfl (by decide +kernel) ⟨Nat.le_of_ble_eq_true rfl, Nat.le_of_ble_eq_true rfl⟩ hK hP hS hE hN [] rfl [] rfl rfl hl.1 (rest := []) rfl (Nat.le_of_ble_eq_true rfl) dX7_parts_3 ⟨Nat.le_of_ble_eq_true rfl, Nat.le_of_ble_eq_true rfl⟩ (fun v hv => ?_)
  obtain ⟨v_32096, rfl⟩ := hv
  have rv_32096 := ka_rng v_32096
  refine ka_stk (w := [.int v_32096]) rfl ?_
  refine lv_istore (lv' := [(4, .int v_32096), (3, .int (-1)), (0, .ref a0), (1, .int x0), (2, .int x1)]) hx hb dX7_parts_6 hl (by decide) rfl (fun ls hl => ?_)
  refine lv_iconst (v := 0) hx hb dX7_parts_8 (by decide) ?_
  refine lv_istore (lv' := [(5, .int 0), (4, .int v_32096), (3, .int (-1)), (0, .ref a0), (1, .int x0), (2, .int x1)]) hx hb dX7_parts_9 hl (by decide) rfl (fun ls hl => ?_)
  have lp_32097 : ∀ (n : Nat) (i32097_3 : Int32) (i32097_4 : Int32) (i32097_5 : Int32), (-1 ≤ i32097_3.toInt ∧ i32097_3.toInt ≤ 31) → (0 ≤ i32097_5.toInt ∧ i32097_5.toInt ≤ 32) → (i32097_3.toInt = -1 ∨ ¬ kb_sb x1 i32097_3 = 1) → (32 - i32097_5.toInt).toNat < n → ∀ (ls : Array Slot), lv_has ls 8 [(0, .ref a0), (1, .int x0), (2, .int x1), (3, .int i32097_3), (4, .int i32097_4), (5, .int i32097_5)] → W p l e ({ frames := 2, cells := 0, slots := 0, locals := 46 }) s m [.ref a0, .int x0, .int x1].toArray below meth c s.heap [] 0 0 (MQ below (ka_QR (fun v => ∃ x : Int32, v = some (.int x) ∧ (-1 ≤ x.toInt ∧ x.toInt ≤ 31) ∧ (x.toInt = -1 ∨ ¬ kb_sb x1 x = 1))) [.ref a0, .int x0, .int x1].toArray s 0 0 (fun _ => False)) (F0 m 11 ls []) := by
    intro n
    induction n with
    | zero =>
      intro i32097_3 i32097_4 i32097_5 hi32097_3 hi32097_5 hx32097 hm
      exact absurd hm (Nat.not_lt_zero _)
    | succ n ih_32097 =>
      intro i32097_3 i32097_4 i32097_5 hi32097_3 hi32097_5 hx32097 hm ls hl
      have ri32097_3 := ka_rng i32097_3
      have ri32097_4 := ka_rng i32097_4
      have ri32097_5 := ka_rng i32097_5
      refine lv_iload hx hb dX7_parts_11 (lv_at hl 5 rfl) ?_
      refine lv_bipush (v := 32) hx hb dX7_parts_13 (by decide) ?_
      refine lv_icmp_ge (tgt := 80) hx hb dX7_parts_15 (by decide) (fun c_32111 => ?_) (fun c_32111 => ?_)
      · have c_32111 : 32 ≤ i32097_5.toInt := by rw [ka_le', show ((32 : Int32)).toInt = 32 from by decide] at c_32111; exact c_32111
        refine lv_iload_n hx hb dX7_parts_80 rfl (lv_at hl 3 rfl) ?_
        exact ka_rRi C hr hlk ⟨_, rfl, ⟨by omega, by omega⟩, (by first | assumption | exact Or.inl (by decide))⟩ dX7_parts_81
      · have c_32111 : ¬ 32 ≤ i32097_5.toInt := by rw [ka_le', show ((32 : Int32)).toInt = 32 from by decide] at c_32111; exact c_32111
        refine lv_iload_n hx hb dX7_parts_18 rfl (lv_at hl 2 rfl) ?_
        refine lv_iload hx hb dX7_parts_19 (lv_at hl 5 rfl) ?_
        refine lv_ishr hx hb dX7_parts_21 ?_
        refine lv_topi (fun v_32112 ev_32112 => ?_)
        refine lv_iconst (v := 1) hx hb dX7_parts_22 (by decide) ?_
        refine lv_iand hx hb dX7_parts_23 ?_
        refine lv_topi (fun v_32113 ev_32113 => ?_)
        refine lv_iconst (v := 1) hx hb dX7_parts_24 (by decide) ?_
        refine lv_icmp_ne (tgt := 31) hx hb dX7_parts_25 (by decide) (fun c_32114 => ?_) (fun c_32114 => ?_)
        · have c_32114 : ¬ v_32113.toInt = 1 := by rw [ka_eq', show ((1 : Int32)).toInt = 1 from by decide] at c_32114; exact c_32114
          refine lv_aload_n hx hb dX7_parts_31 rfl (lv_at hl 0 rfl) ?_
          refine lv_iload_n hx hb dX7_parts_32 rfl (lv_at hl 1 rfl) ?_
          refine lv_iload hx hb dX7_parts_33 (lv_at hl 5 rfl) ?_
          refine ka_RV (n := 2) C (cg_X7_tellOne_264 l D F a0 x0 i32097_5 a1 x2 a2 a3 a4 a5 a6 a7 a8 x3 x4 x5 x6 x7 x8 x9 a9 a10 a11 a12 a13 a14 x10 x11 x12 x13 x14 x15 k0 f0 k1 f1 ⟨by omega, by omega⟩ ⟨by omega, by omega⟩ ⟨by omega, by omega⟩ ⟨by omega, by omega⟩ ⟨by omega, by omega⟩ ⟨by omega, by omega⟩ ⟨by omega, by omega⟩ ⟨by omega, by omega⟩ ⟨by omega, by omega⟩ ⟨by omega, by omega⟩ ⟨by omega, by omega⟩ hf1) gX7_parts_X7_tellOne rfl (by decide +kernel) ⟨Nat.le_of_ble_eq_true rfl, Nat.le_of_ble_eq_true rfl⟩ hK hP hS hE hN [0, 1, 2] rfl [0, 1] rfl (ci := 7) rfl rfl 0 rfl rfl hl.1 (rest := []) rfl (Nat.le_of_ble_eq_true rfl) dX7_parts_35 ⟨Nat.le_of_ble_eq_true rfl, Nat.le_of_ble_eq_true rfl⟩ (fun v hv => ?_)
          obtain ⟨v_32115, rfl⟩ := hv
          have rv_32115 := ka_rng v_32115
          refine ka_stk (w := [.int v_32115]) rfl ?_
          refine ka_RS (n := 1) C (cg_X7_many_262 l D F v_32115) gX7_parts_X7_many rfl (by decide +kernel) ⟨Nat.le_of_ble_eq_true rfl, Nat.le_of_ble_eq_true rfl⟩ hK hP hS hE hN [] rfl [] rfl rfl hl.1 (rest := []) rfl (Nat.le_of_ble_eq_true rfl) dX7_parts_38 ⟨Nat.le_of_ble_eq_true rfl, Nat.le_of_ble_eq_true rfl⟩ (fun v hv => ?_)
          obtain ⟨v_32116, rfl⟩ := hv
          have rv_32116 := ka_rng v_32116
          refine ka_stk (w := [.int v_32116]) rfl ?_
          refine lv_istore (lv' := [(6, .int v_32116), (0, .ref a0), (1, .int x0), (2, .int x1), (3, .int i32097_3), (4, .int i32097_4), (5, .int i32097_5)]) hx hb dX7_parts_41 hl (by decide) rfl (fun ls hl => ?_)
          refine lv_iload hx hb dX7_parts_43 (lv_at hl 0 rfl) ?_
          refine lv_iload_n hx hb dX7_parts_45 rfl (lv_at hl 2 rfl) ?_
          refine ka_RS (n := 1) C (cg_X7_many_262 l D F x0) gX7_parts_X7_many rfl (by decide +kernel) ⟨Nat.le_of_ble_eq_true rfl, Nat.le_of_ble_eq_true rfl⟩ hK hP hS hE hN [] rfl [] rfl rfl hl.1 (rest := [.int v_32116]) rfl (Nat.le_of_ble_eq_true rfl) dX7_parts_46 ⟨Nat.le_of_ble_eq_true rfl, Nat.le_of_ble_eq_true rfl⟩ (fun v hv => ?_)
          obtain ⟨v_32117, rfl⟩ := hv
          have rv_32117 := ka_rng v_32117
          refine ka_stk (w := [.int v_32117, .int v_32116]) rfl ?_
          refine lv_iload hx hb dX7_parts_49 (lv_at hl 0 rfl) ?_
          refine lv_isub hx hb dX7_parts_51 ?_
          refine lv_topi (fun v_32118 ev_32118 => ?_)
          refine va_mmax hx hb (hml.trans hl.1.symm) hown (hts _ lq_330) (hts _ lq_331) (hts _ lq_332) (hts _ lq_333) (Nat.le_of_ble_eq_true rfl) (Nat.le_of_ble_eq_true rfl) (Nat.le_of_ble_eq_true rfl) (Nat.le_of_ble_eq_true rfl) dX7_parts_52 ?_
          refine lv_topi (fun v_32119 ev_32119 => ?_)
          have fv_32119 := kb_max v_32116 v_32118; rw [← ev_32119] at fv_32119
          refine lv_istore (lv' := [(7, .int v_32119), (6, .int v_32116), (0, .ref a0), (1, .int x0), (2, .int x1), (3, .int i32097_3), (4, .int i32097_4), (5, .int i32097_5)]) hx hb dX7_parts_55 hl (by decide) rfl (fun ls hl => ?_)
          refine lv_iload hx hb dX7_parts_57 (lv_at hl 0 rfl) ?_
          refine lv_iload hx hb dX7_parts_59 (lv_at hl 6 rfl) ?_
          refine lv_icmp_lt (tgt := 67) hx hb dX7_parts_61 (by decide) (fun c_32120 => ?_) (fun c_32120 => ?_)
          · have c_32120 : v_32119.toInt < i32097_4.toInt := by rw [ka_lt'] at c_32120; exact c_32120
            refine lv_iload hx hb dX7_parts_67 (lv_at hl 7 rfl) ?_
            refine lv_istore_n (lv' := [(3, .int i32097_5), (7, .int v_32119), (6, .int v_32116), (0, .ref a0), (1, .int x0), (2, .int x1), (4, .int i32097_4), (5, .int i32097_5)]) hx hb dX7_parts_69 rfl hl (by decide) rfl (fun ls hl => ?_)
            refine lv_iload hx hb dX7_parts_70 (lv_at hl 1 rfl) ?_
            refine lv_istore (lv' := [(4, .int v_32119), (3, .int i32097_5), (7, .int v_32119), (6, .int v_32116), (0, .ref a0), (1, .int x0), (2, .int x1), (5, .int i32097_5)]) hx hb dX7_parts_72 hl (by decide) rfl (fun ls hl => ?_)
            obtain ⟨v_32121, ev_32121⟩ : ∃ y : Int32, y = i32097_5 + 1 := ⟨_, rfl⟩
            refine lv_iinc (v := v_32121) (lv' := [(5, .int v_32121), (4, .int v_32119), (3, .int i32097_5), (7, .int v_32119), (6, .int v_32116), (0, .ref a0), (1, .int x0), (2, .int x1)]) hx hb dX7_parts_74 hl (k := 7) rfl (by rw [ev_32121]; rfl) (by decide) rfl (fun ls hl => ?_)
            have fv_32121 : v_32121.toInt = i32097_5.toInt + 1 := by rw [ev_32121]; exact ka_add (x := i32097_5.toInt) (y := 1) rfl (by decide) (by omega) (by omega)
            refine lv_goto (tgt := 11) hx hb dX7_parts_77 (by decide) ?_
            exact ih_32097 i32097_5 v_32119 v_32121 ⟨by omega, by omega⟩ ⟨by omega, by omega⟩ (by first | assumption | exact Or.inr (kb_sbp (by assumption) (by assumption) (by assumption))) (by omega) ls (lv_sub hl [5, 6, 7, 2, 1, 0] rfl)
          · have c_32120 : ¬ v_32119.toInt < i32097_4.toInt := by rw [ka_lt'] at c_32120; exact c_32120
            refine lv_goto (tgt := 74) hx hb dX7_parts_64 (by decide) ?_
            obtain ⟨v_32122, ev_32122⟩ : ∃ y : Int32, y = i32097_5 + 1 := ⟨_, rfl⟩
            refine lv_iinc (v := v_32122) (lv' := [(5, .int v_32122), (7, .int v_32119), (6, .int v_32116), (0, .ref a0), (1, .int x0), (2, .int x1), (3, .int i32097_3), (4, .int i32097_4)]) hx hb dX7_parts_74 hl (k := 7) rfl (by rw [ev_32122]; rfl) (by decide) rfl (fun ls hl => ?_)
            have fv_32122 : v_32122.toInt = i32097_5.toInt + 1 := by rw [ev_32122]; exact ka_add (x := i32097_5.toInt) (y := 1) rfl (by decide) (by omega) (by omega)
            refine lv_goto (tgt := 11) hx hb dX7_parts_77 (by decide) ?_
            exact ih_32097 i32097_3 i32097_4 v_32122 ⟨by omega, by omega⟩ ⟨by omega, by omega⟩ (by first | assumption | exact Or.inr (kb_sbp (by assumption) (by assumption) (by assumption))) (by omega) ls (lv_sub hl [3, 4, 5, 6, 7, 0] rfl)
        · have c_32114 : v_32113.toInt = 1 := by rw [ka_eq', show ((1 : Int32)).toInt = 1 from by decide] at c_32114; exact c_32114
          refine lv_goto (tgt := 74) hx hb dX7_parts_28 (by decide) ?_
          obtain ⟨v_32123, ev_32123⟩ : ∃ y : Int32, y = i32097_5 + 1 := ⟨_, rfl⟩
          refine lv_iinc (v := v_32123) (lv' := [(5, .int v_32123), (0, .ref a0), (1, .int x0), (2, .int x1), (3, .int i32097_3), (4, .int i32097_4)]) hx hb dX7_parts_74 hl (k := 5) rfl (by rw [ev_32123]; rfl) (by decide) rfl (fun ls hl => ?_)
          have fv_32123 : v_32123.toInt = i32097_5.toInt + 1 := by rw [ev_32123]; exact ka_add (x := i32097_5.toInt) (y := 1) rfl (by decide) (by omega) (by omega)
          refine lv_goto (tgt := 11) hx hb dX7_parts_77 (by decide) ?_
          exact ih_32097 i32097_3 i32097_4 v_32123 ⟨by omega, by omega⟩ ⟨by omega, by omega⟩ (by first | assumption | exact Or.inr (kb_sbp (by assumption) (by assumption) (by assumption))) (by omega) ls (lv_sub hl [1, 2, 3, 4, 5, 0] rfl)
  exact lp_32097 _ (-1) v_32096 0 ⟨by decide, by decide⟩ ⟨by decide, by decide⟩ (Or.inl (by decide)) (Nat.lt_succ_self _) ls (lv_sub hl [3, 4, 5, 2, 1, 0] rfl)
theorem lq_403 : ∀ w ∈ wsX70, w ∈ wsX7_path := by decide +kernel
theorem lq_404 : Cond.fieldLink RX7 33 "AskedBackModel" "pictures" "[I" ∈ wsX7_path := by decide +kernel
theorem lq_405 : Cond.fieldLink RX7 36 "AskedBackModel" "lesson" "I" ∈ wsX7_path := by decide +kernel
set_option maxHeartbeats 4000000 in
set_option maxRecDepth 100000 in
theorem cg_X7_path_403 (l : Launch) (D : va_G) (F : Nat → Prop) (a0 : Nat) (x0 : Int32) (a1 : Nat) (x1 : Int32) (a2 : Nat) (a3 : Nat) (a4 : Nat) (a5 : Nat) (a6 : Nat) (a7 : Nat) (a8 : Nat) (x2 : Int32) (x3 : Int32) (x4 : Int32) (x5 : Int32) (x6 : Int32) (x7 : Int32) (x8 : Int32) (a9 : Nat) (a10 : Nat) (a11 : Nat) (a12 : Nat) (a13 : Nat) (a14 : Nat) (x9 : Int32) (x10 : Int32) (x11 : Int32) (x12 : Int32) (x13 : Int32) (x14 : Int32) (k0 : ClassId) (f0 : Nat → Int32) (k1 : ClassId) (f1 : Nat → Int32) (hx0 : 0 ≤ x0.toInt ∧ x0.toInt ≤ 11) (hx1 : 0 ≤ x1.toInt ∧ x1.toInt ≤ 80) (hx2 : 0 ≤ x2.toInt ∧ x2.toInt ≤ 5) (hx5 : 1 ≤ x5.toInt ∧ x5.toInt ≤ 8) (hx6 : 0 ≤ x6.toInt ∧ x6.toInt ≤ 40) (hx8 : 0 ≤ x8.toInt ∧ x8.toInt ≤ 10) (hx9 : 0 ≤ x9.toInt ∧ x9.toInt ≤ 60) (hx10 : 0 ≤ x10.toInt ∧ x10.toInt ≤ 60) (hx11 : 0 ≤ x11.toInt ∧ x11.toInt ≤ 60) (hx12 : 0 ≤ x12.toInt ∧ x12.toInt ≤ 8) (hx14 : 0 ≤ x14.toInt ∧ x14.toInt ≤ 1) (hf1 : ∀ j : Nat, 0 ≤ (f1 j).toInt ∧ (f1 j).toInt ≤ 12) : ka_R l D F yX7_path wsX7_path 3 73 [.ref a0, .int x0] [(a0, .inr (7, [.ref a1, .int x1, .ref a2, .ref a3, .ref a4, .ref a5, .ref a6, .ref a7, .ref a8, .int x2, .int x3, .int x4, .int x5, .int x6, .int x7, .int x8, .ref a9, .ref a10, .ref a11, .ref a12, .ref a13, .ref a14, .int x9, .int x10, .int x11, .int x12, .int x13, .int x14])), (a2, .inl (k0, 89, .inl f0)), (a8, .inl (k1, 6, .inl f1))] [(k0, .int), (k1, .int)] (fun v => ∃ x : Int32, v = some (.int x)) := by
  refine ka_R_of (cc := cX7_path) (maxL := 7) (ret := (some .int)) (by decide) rfl (Nat.le_of_ble_eq_true rfl) ?_
  intro p e s m below meth c ls C hr hlk hP hK hE hN hl
  have hS : va_S (fun _ => False) s.heap s.heap [] := va_S.rf
  have C : CallFix p m c cX7_path 7 s [.ref a0, .int x0].toArray wsX7_path RX7 := C
  obtain ⟨hx, hb, hml, hown, hts⟩ := id C
  have hl : lv_has ls 7 [(0, .ref a0), (1, .int x0)] := hl
  have rx0 := ka_rng x0
  have rx1 := ka_rng x1
  have rx2 := ka_rng x2
  have rx3 := ka_rng x3
  have rx4 := ka_rng x4
  have rx5 := ka_rng x5
  have rx6 := ka_rng x6
  have rx7 := ka_rng x7
  have rx8 := ka_rng x8
  have rx9 := ka_rng x9
  have rx10 := ka_rng x10
  have rx11 := ka_rng x11
  have rx12 := ka_rng x12
  have rx13 := ka_rng x13
  have rx14 := ka_rng x14
  refine lv_iconst (v := 1) hx hb dX7_path_0 (by decide) ?_
  refine lv_aload_n hx hb dX7_path_1 rfl (lv_at hl 0 rfl) ?_
  refine ka_get C lq_403 rfl hK hP 0 rfl 8 (by decide) lq_404 rfl dX7_path_2 ?_
  refine lv_aload_n hx hb dX7_path_5 rfl (lv_at hl 0 rfl) ?_
  refine ka_get C lq_403 rfl hK hP 0 rfl 9 (by decide) lq_405 rfl dX7_path_6 ?_
  refine va_iald hx hb hK hP 2 1 rfl rfl (ka_in (by omega) (by omega)) dX7_path_9 ?_
  refine lv_topi (fun v_32167 ev_32167 => ?_)
  have hv_32167 := hf1 (Int32.toNatClampNeg x2); rw [← ev_32167] at hv_32167
  refine lv_ishl hx hb dX7_path_10 ?_
  refine lv_topi (fun v_32168 ev_32168 => ?_)
  refine lv_iconst (v := 1) hx hb dX7_path_11 (by decide) ?_
  refine lv_isub hx hb dX7_path_12 ?_
  refine lv_topi (fun v_32169 ev_32169 => ?_)
  refine lv_istore_n (lv' := [(2, .int v_32169), (0, .ref a0), (1, .int x0)]) hx hb dX7_path_13 rfl hl (by decide) rfl (fun ls hl => ?_)
  refine lv_iconst (v := 0) hx hb dX7_path_14 (by decide) ?_
  refine lv_istore_n (lv' := [(3, .int 0), (2, .int v_32169), (0, .ref a0), (1, .int x0)]) hx hb dX7_path_15 rfl hl (by decide) rfl (fun ls hl => ?_)
  refine lv_iconst (v := 0) hx hb dX7_path_16 (by decide) ?_
  refine lv_istore (lv' := [(4, .int 0), (3, .int 0), (2, .int v_32169), (0, .ref a0), (1, .int x0)]) hx hb dX7_path_17 hl (by decide) rfl (fun ls hl => ?_)
  refine lv_aload_n hx hb dX7_path_19 rfl (lv_at hl 3 rfl) ?_
  refine lv_iload_n hx hb dX7_path_20 rfl (lv_at hl 2 rfl) ?_
  refine lv_iload_n hx hb dX7_path_21 rfl (lv_at hl 1 rfl) ?_
  refine ka_RV (n := 2) C (cg_X7_parts_401 l D F a0 v_32169 a1 x1 a2 a3 a4 a5 a6 a7 a8 x2 x3 x4 x5 x6 x7 x8 a9 a10 a11 a12 a13 a14 x9 x10 x11 x12 x13 x14 k0 f0 k1 f1 ⟨by omega, by omega⟩ ⟨by omega, by omega⟩ ⟨by omega, by omega⟩ ⟨by omega, by omega⟩ ⟨by omega, by omega⟩ ⟨by omega, by omega⟩ ⟨by omega, by omega⟩ ⟨by omega, by omega⟩ ⟨by omega, by omega⟩ ⟨by omega, by omega⟩ hf1) gX7_path_X7_parts rfl (by decide +kernel) ⟨Nat.le_of_ble_eq_true rfl, Nat.le_of_ble_eq_true rfl⟩ hK hP hS hE hN [0, 1, 2] rfl [0, 1] rfl (ci := 7) rfl rfl 0 rfl rfl hl.1 (rest := []) rfl (Nat.le_of_ble_eq_true rfl) dX7_path_22 ⟨Nat.le_of_ble_eq_true rfl, Nat.le_of_ble_eq_true rfl⟩ (fun v hv => ?_)
  obtain ⟨v_32170, rfl, hv_32170, hxv_32170⟩ := hv
  have rv_32170 := ka_rng v_32170
  refine ka_stk (w := [.int v_32170]) rfl ?_
  refine lv_istore (lv' := [(5, .int v_32170), (4, .int 0), (3, .int 0), (2, .int v_32169), (0, .ref a0), (1, .int x0)]) hx hb dX7_path_25 hl (by decide) rfl (fun ls hl => ?_)
  have lp_32171 : ∀ (n : Nat) (i32171_2 : Int32) (i32171_3 : Int32) (i32171_4 : Int32) (i32171_5 : Int32), (-1 ≤ i32171_5.toInt ∧ i32171_5.toInt ≤ 31) → (i32171_5.toInt = -1 ∨ ¬ kb_sb i32171_3 i32171_5 = 1) → (((nf_M i32171_3 : Nat) : Int)).toNat < n → ∀ (ls : Array Slot), lv_has ls 7 [(0, .ref a0), (1, .int x0), (2, .int i32171_2), (3, .int i32171_3), (4, .int i32171_4), (5, .int i32171_5)] → W p l e ({ frames := 3, cells := 0, slots := 0, locals := 73 }) s m [.ref a0, .int x0].toArray below meth c s.heap [] 0 0 (MQ below (ka_QR (fun v => ∃ x : Int32, v = some (.int x))) [.ref a0, .int x0].toArray s 0 0 (fun _ => False)) (F0 m 27 ls []) := by
    intro n
    induction n with
    | zero =>
      intro i32171_2 i32171_3 i32171_4 i32171_5 hi32171_5 hx32171 hm
      exact absurd hm (Nat.not_lt_zero _)
    | succ n ih_32171 =>
      intro i32171_2 i32171_3 i32171_4 i32171_5 hi32171_5 hx32171 hm ls hl
      have ri32171_2 := ka_rng i32171_2
      have ri32171_3 := ka_rng i32171_3
      have ri32171_4 := ka_rng i32171_4
      have ri32171_5 := ka_rng i32171_5
      refine lv_iload hx hb dX7_path_27 (lv_at hl 5 rfl) ?_
      refine lv_iconst (v := (-1)) hx hb dX7_path_29 (by decide) ?_
      refine lv_icmp_eq (tgt := 93) hx hb dX7_path_30 (by decide) (fun c_32184 => ?_) (fun c_32184 => ?_)
      · have c_32184 : i32171_5.toInt = -1 := by rw [ka_eq', show ((-1 : Int32)).toInt = -1 from by decide] at c_32184; exact c_32184
        refine lv_iload hx hb dX7_path_93 (lv_at hl 4 rfl) ?_
        exact ka_rRi C hr hlk ⟨_, rfl⟩ dX7_path_95
      · have c_32184 : ¬ i32171_5.toInt = -1 := by rw [ka_eq', show ((-1 : Int32)).toInt = -1 from by decide] at c_32184; exact c_32184
        obtain ⟨v_32185, ev_32185⟩ : ∃ y : Int32, y = i32171_4 + 1 := ⟨_, rfl⟩
        refine lv_iinc (v := v_32185) (lv' := [(4, .int v_32185), (0, .ref a0), (1, .int x0), (2, .int i32171_2), (3, .int i32171_3), (5, .int i32171_5)]) hx hb dX7_path_33 hl (k := 4) rfl (by rw [ev_32185]; rfl) (by decide) rfl (fun ls hl => ?_)
        refine lv_iload_n hx hb dX7_path_36 rfl (lv_at hl 4 rfl) ?_
        refine lv_iconst (v := 1) hx hb dX7_path_37 (by decide) ?_
        refine lv_iload hx hb dX7_path_38 (lv_at hl 5 rfl) ?_
        refine lv_ishl hx hb dX7_path_40 ?_
        refine lv_topi (fun v_32186 ev_32186 => ?_)
        refine lv_ior hx hb dX7_path_41 ?_
        refine lv_topi (fun v_32187 ev_32187 => ?_)
        refine lv_istore_n (lv' := [(3, .int v_32187), (4, .int v_32185), (0, .ref a0), (1, .int x0), (2, .int i32171_2), (5, .int i32171_5)]) hx hb dX7_path_42 rfl hl (by decide) rfl (fun ls hl => ?_)
        refine lv_aload_n hx hb dX7_path_43 rfl (lv_at hl 2 rfl) ?_
        refine lv_iload_n hx hb dX7_path_44 rfl (lv_at hl 4 rfl) ?_
        refine lv_iload hx hb dX7_path_45 (lv_at hl 5 rfl) ?_
        refine ka_RV (n := 2) C (cg_X7_tellOne_264 l D F a0 i32171_2 i32171_5 a1 x1 a2 a3 a4 a5 a6 a7 a8 x2 x3 x4 x5 x6 x7 x8 a9 a10 a11 a12 a13 a14 x9 x10 x11 x12 x13 x14 k0 f0 k1 f1 ⟨by omega, by omega⟩ ⟨by omega, by omega⟩ ⟨by omega, by omega⟩ ⟨by omega, by omega⟩ ⟨by omega, by omega⟩ ⟨by omega, by omega⟩ ⟨by omega, by omega⟩ ⟨by omega, by omega⟩ ⟨by omega, by omega⟩ ⟨by omega, by omega⟩ ⟨by omega, by omega⟩ hf1) gX7_path_X7_tellOne rfl (by decide +kernel) ⟨Nat.le_of_ble_eq_true rfl, Nat.le_of_ble_eq_true rfl⟩ hK hP hS hE hN [0, 1, 2] rfl [0, 1] rfl (ci := 7) rfl rfl 0 rfl rfl hl.1 (rest := []) rfl (Nat.le_of_ble_eq_true rfl) dX7_path_47 ⟨Nat.le_of_ble_eq_true rfl, Nat.le_of_ble_eq_true rfl⟩ (fun v hv => ?_)
        obtain ⟨v_32188, rfl⟩ := hv
        have rv_32188 := ka_rng v_32188
        refine ka_stk (w := [.int v_32188]) rfl ?_
        refine lv_istore (lv' := [(6, .int v_32188), (3, .int v_32187), (4, .int v_32185), (0, .ref a0), (1, .int x0), (2, .int i32171_2), (5, .int i32171_5)]) hx hb dX7_path_50 hl (by decide) rfl (fun ls hl => ?_)
        refine lv_aload_n hx hb dX7_path_52 rfl (lv_at hl 3 rfl) ?_
        refine lv_aload_n hx hb dX7_path_53 rfl (lv_at hl 3 rfl) ?_
        refine ka_get C lq_403 rfl hK hP 0 rfl 9 (by decide) lq_405 rfl dX7_path_54 ?_
        refine lv_iload_n hx hb dX7_path_57 rfl (lv_at hl 4 rfl) ?_
        refine ka_RS (n := 2) C (cg_X7_pictureAt_257 l D F x2 x0 ⟨by omega, by omega⟩ ⟨by omega, by omega⟩) gX7_path_X7_pictureAt rfl (by decide +kernel) ⟨Nat.le_of_ble_eq_true rfl, Nat.le_of_ble_eq_true rfl⟩ hK hP hS hE hN [] rfl [] rfl rfl hl.1 (rest := [.ref a0]) rfl (Nat.le_of_ble_eq_true rfl) dX7_path_58 ⟨Nat.le_of_ble_eq_true rfl, Nat.le_of_ble_eq_true rfl⟩ (fun v hv => ?_)
        obtain ⟨v_32189, rfl, hv_32189⟩ := hv
        have rv_32189 := ka_rng v_32189
        refine ka_stk (w := [.int v_32189, .ref a0]) rfl ?_
        refine lv_iload hx hb dX7_path_61 (lv_at hl 6 rfl) ?_
        refine ka_RV (n := 2) C (cg_X7_tellsOf_263 l D F a0 v_32189 i32171_5 a1 x1 a2 a3 a4 a5 a6 a7 a8 x2 x3 x4 x5 x6 x7 x8 a9 a10 a11 a12 a13 a14 x9 x10 x11 x12 x13 x14 k0 f0 ⟨by omega, by omega⟩ ⟨by omega, by omega⟩ ⟨by omega, by omega⟩ ⟨by omega, by omega⟩ ⟨by omega, by omega⟩ ⟨by omega, by omega⟩ ⟨by omega, by omega⟩ ⟨by omega, by omega⟩ ⟨by omega, by omega⟩ ⟨by omega, by omega⟩ ⟨by omega, by omega⟩ ⟨by omega, by omega⟩) gX7_path_X7_tellsOf rfl (by decide +kernel) ⟨Nat.le_of_ble_eq_true rfl, Nat.le_of_ble_eq_true rfl⟩ hK hP hS hE hN [0, 1] rfl [0] rfl (ci := 7) rfl rfl 0 rfl rfl hl.1 (rest := []) rfl (Nat.le_of_ble_eq_true rfl) dX7_path_63 ⟨Nat.le_of_ble_eq_true rfl, Nat.le_of_ble_eq_true rfl⟩ (fun v hv => ?_)
        obtain ⟨v_32190, rfl⟩ := hv
        have rv_32190 := ka_rng v_32190
        refine ka_stk (w := [.int v_32190]) rfl ?_
        refine lv_iconst (v := 1) hx hb dX7_path_66 (by decide) ?_
        refine lv_icmp_ne (tgt := 75) hx hb dX7_path_67 (by decide) (fun c_32191 => ?_) (fun c_32191 => ?_)
        · have c_32191 : ¬ v_32190.toInt = 1 := by rw [ka_eq', show ((1 : Int32)).toInt = 1 from by decide] at c_32191; exact c_32191
          refine lv_iload_n hx hb dX7_path_75 rfl (lv_at hl 5 rfl) ?_
          refine lv_iload hx hb dX7_path_76 (lv_at hl 0 rfl) ?_
          refine lv_iconst (v := (-1)) hx hb dX7_path_78 (by decide) ?_
          refine lv_ixor hx hb dX7_path_79 ?_
          refine lv_topi (fun v_32192 ev_32192 => ?_)
          refine lv_iand hx hb dX7_path_80 ?_
          refine lv_topi (fun v_32193 ev_32193 => ?_)
          refine lv_istore_n (lv' := [(2, .int v_32193), (6, .int v_32188), (3, .int v_32187), (4, .int v_32185), (0, .ref a0), (1, .int x0), (5, .int i32171_5)]) hx hb dX7_path_81 rfl hl (by decide) rfl (fun ls hl => ?_)
          refine lv_aload_n hx hb dX7_path_82 rfl (lv_at hl 4 rfl) ?_
          refine lv_iload_n hx hb dX7_path_83 rfl (lv_at hl 0 rfl) ?_
          refine lv_iload_n hx hb dX7_path_84 rfl (lv_at hl 2 rfl) ?_
          refine ka_RV (n := 2) C (cg_X7_parts_402 l D F a0 v_32193 v_32187 a1 x1 a2 a3 a4 a5 a6 a7 a8 x2 x3 x4 x5 x6 x7 x8 a9 a10 a11 a12 a13 a14 x9 x10 x11 x12 x13 x14 k0 f0 k1 f1 ⟨by omega, by omega⟩ ⟨by omega, by omega⟩ ⟨by omega, by omega⟩ ⟨by omega, by omega⟩ ⟨by omega, by omega⟩ ⟨by omega, by omega⟩ ⟨by omega, by omega⟩ ⟨by omega, by omega⟩ ⟨by omega, by omega⟩ ⟨by omega, by omega⟩ hf1) gX7_path_X7_parts rfl (by decide +kernel) ⟨Nat.le_of_ble_eq_true rfl, Nat.le_of_ble_eq_true rfl⟩ hK hP hS hE hN [0, 1, 2] rfl [0, 1] rfl (ci := 7) rfl rfl 0 rfl rfl hl.1 (rest := []) rfl (Nat.le_of_ble_eq_true rfl) dX7_path_85 ⟨Nat.le_of_ble_eq_true rfl, Nat.le_of_ble_eq_true rfl⟩ (fun v hv => ?_)
          obtain ⟨v_32194, rfl, hv_32194, hxv_32194⟩ := hv
          have rv_32194 := ka_rng v_32194
          refine ka_stk (w := [.int v_32194]) rfl ?_
          refine lv_istore (lv' := [(5, .int v_32194), (2, .int v_32193), (6, .int v_32188), (3, .int v_32187), (4, .int v_32185), (0, .ref a0), (1, .int x0)]) hx hb dX7_path_88 hl (by decide) rfl (fun ls hl => ?_)
          refine lv_goto (tgt := 27) hx hb dX7_path_90 (by decide) ?_
          have hM : nf_M v_32187 < nf_M i32171_3 := kb_gm (c := i32171_5) (by assumption) (by assumption) (hx32171.resolve_left (by omega)) ⟨by omega, by omega⟩
          exact ih_32171 v_32193 v_32187 v_32185 v_32194 ⟨by omega, by omega⟩ (by assumption) (by omega) ls (lv_sub hl [5, 6, 1, 3, 4, 0] rfl)
        · have c_32191 : v_32190.toInt = 1 := by rw [ka_eq', show ((1 : Int32)).toInt = 1 from by decide] at c_32191; exact c_32191
          refine lv_iload hx hb dX7_path_70 (lv_at hl 0 rfl) ?_
          refine lv_goto (tgt := 81) hx hb dX7_path_72 (by decide) ?_
          refine lv_istore_n (lv' := [(2, .int v_32188), (6, .int v_32188), (3, .int v_32187), (4, .int v_32185), (0, .ref a0), (1, .int x0), (5, .int i32171_5)]) hx hb dX7_path_81 rfl hl (by decide) rfl (fun ls hl => ?_)
          refine lv_aload_n hx hb dX7_path_82 rfl (lv_at hl 4 rfl) ?_
          refine lv_iload_n hx hb dX7_path_83 rfl (lv_at hl 0 rfl) ?_
          refine lv_iload_n hx hb dX7_path_84 rfl (lv_at hl 2 rfl) ?_
          refine ka_RV (n := 2) C (cg_X7_parts_402 l D F a0 v_32188 v_32187 a1 x1 a2 a3 a4 a5 a6 a7 a8 x2 x3 x4 x5 x6 x7 x8 a9 a10 a11 a12 a13 a14 x9 x10 x11 x12 x13 x14 k0 f0 k1 f1 ⟨by omega, by omega⟩ ⟨by omega, by omega⟩ ⟨by omega, by omega⟩ ⟨by omega, by omega⟩ ⟨by omega, by omega⟩ ⟨by omega, by omega⟩ ⟨by omega, by omega⟩ ⟨by omega, by omega⟩ ⟨by omega, by omega⟩ ⟨by omega, by omega⟩ hf1) gX7_path_X7_parts rfl (by decide +kernel) ⟨Nat.le_of_ble_eq_true rfl, Nat.le_of_ble_eq_true rfl⟩ hK hP hS hE hN [0, 1, 2] rfl [0, 1] rfl (ci := 7) rfl rfl 0 rfl rfl hl.1 (rest := []) rfl (Nat.le_of_ble_eq_true rfl) dX7_path_85 ⟨Nat.le_of_ble_eq_true rfl, Nat.le_of_ble_eq_true rfl⟩ (fun v hv => ?_)
          obtain ⟨v_32195, rfl, hv_32195, hxv_32195⟩ := hv
          have rv_32195 := ka_rng v_32195
          refine ka_stk (w := [.int v_32195]) rfl ?_
          refine lv_istore (lv' := [(5, .int v_32195), (2, .int v_32188), (6, .int v_32188), (3, .int v_32187), (4, .int v_32185), (0, .ref a0), (1, .int x0)]) hx hb dX7_path_88 hl (by decide) rfl (fun ls hl => ?_)
          refine lv_goto (tgt := 27) hx hb dX7_path_90 (by decide) ?_
          have hM : nf_M v_32187 < nf_M i32171_3 := kb_gm (c := i32171_5) (by assumption) (by assumption) (hx32171.resolve_left (by omega)) ⟨by omega, by omega⟩
          exact ih_32171 v_32188 v_32187 v_32185 v_32195 ⟨by omega, by omega⟩ (by assumption) (by omega) ls (lv_sub hl [5, 6, 1, 3, 4, 0] rfl)
  exact lp_32171 _ v_32169 0 0 v_32170 ⟨by omega, by omega⟩ (by assumption) (Nat.lt_succ_self _) ls (lv_sub hl [4, 5, 3, 2, 1, 0] rfl)
set_option maxHeartbeats 4000000 in
set_option maxRecDepth 100000 in
theorem cg_X7_isIn_404 (l : Launch) (D : va_G) (F : Nat → Prop) (x0 : Int32) (x1 : Int32) (hx0 : 12 ≤ x0.toInt) (hx1 : -1 ≤ x1.toInt ∧ x1.toInt ≤ 11) : ka_R l D F yX7_isIn wsX7_isIn 0 0 [.int x0, .int 0, .int x1] [] [] (fun v => v = some (.int 0)) := by
  refine ka_R_of (cc := cX7_isIn) (maxL := 3) (ret := (some .boolean)) (by decide) rfl (Nat.le_of_ble_eq_true rfl) ?_
  intro p e s m below meth c ls C hr hlk hP hK hE hN hl
  have hS : va_S (fun _ => False) s.heap s.heap [] := va_S.rf
  have C : CallFix p m c cX7_isIn 3 s [.int x0, .int 0, .int x1].toArray wsX7_isIn RX7 := C
  obtain ⟨hx, hb, hml, hown, hts⟩ := id C
  have hl : lv_has ls 3 [(0, .int x0), (1, .int 0), (2, .int x1)] := hl
  have rx0 := ka_rng x0
  have rx1 := ka_rng x1
  refine lv_iload_n hx hb dX7_isIn_0 rfl (lv_at hl 0 rfl) ?_
  refine lv_iload_n hx hb dX7_isIn_1 rfl (lv_at hl 1 rfl) ?_
  refine lv_icmp_lt (tgt := 14) hx hb dX7_isIn_2 (by decide) (fun c_ => absurd c_ (by rw [ka_lt', show ((0 : Int32)).toInt = 0 from by decide]; omega)) (fun _ => ?_)
  refine lv_iload_n hx hb dX7_isIn_5 rfl (lv_at hl 0 rfl) ?_
  refine lv_iload_n hx hb dX7_isIn_6 rfl (lv_at hl 2 rfl) ?_
  refine lv_icmp_gt (tgt := 14) hx hb dX7_isIn_7 (by decide) (fun _ => ?_) (fun c_ => absurd (by rw [ka_lt']; omega) c_)
  refine lv_iconst (v := 0) hx hb dX7_isIn_14 (by decide) ?_
  exact ka_rRz C hr hlk rfl rfl dX7_isIn_15
theorem lq_406 : ∀ w ∈ wsX70, w ∈ wsX7_pictureOf := by decide +kernel
theorem lq_407 : Cond.fieldLink RX7 36 "AskedBackModel" "lesson" "I" ∈ wsX7_pictureOf := by decide +kernel
theorem lq_408 : Cond.fieldLink RX7 33 "AskedBackModel" "pictures" "[I" ∈ wsX7_pictureOf := by decide +kernel
theorem lq_409 : Cond.fieldLink RX7 178 "AskedBackModel" "slips" "I" ∈ wsX7_pictureOf := by decide +kernel
set_option maxHeartbeats 4000000 in
set_option maxRecDepth 100000 in
theorem cg_X7_pictureOf_405 (l : Launch) (D : va_G) (F : Nat → Prop) (a0 : Nat) (x0 : Int32) (x1 : Int32) (a1 : Nat) (x2 : Int32) (a2 : Nat) (a3 : Nat) (a4 : Nat) (a5 : Nat) (a6 : Nat) (a7 : Nat) (a8 : Nat) (x3 : Int32) (x4 : Int32) (x5 : Int32) (x6 : Int32) (x7 : Int32) (x8 : Int32) (x9 : Int32) (a9 : Nat) (a10 : Nat) (a11 : Nat) (a12 : Nat) (a13 : Nat) (a14 : Nat) (x10 : Int32) (x11 : Int32) (x12 : Int32) (x13 : Int32) (x14 : Int32) (x15 : Int32) (k0 : ClassId) (f0 : Nat → Int32) (k1 : ClassId) (f1 : Nat → Int32) (k2 : ClassId) (f2 : Nat → Int32) (k3 : ClassId) (f3 : Nat → Int32) (hx2 : 0 ≤ x2.toInt ∧ x2.toInt ≤ 80) (hx3 : -1 ≤ x3.toInt ∧ x3.toInt ≤ 5) (hx6 : 1 ≤ x6.toInt ∧ x6.toInt ≤ 8) (hx7 : 0 ≤ x7.toInt ∧ x7.toInt ≤ 40) (hx9 : 0 ≤ x9.toInt ∧ x9.toInt ≤ 10) (hx10 : 0 ≤ x10.toInt ∧ x10.toInt ≤ 60) (hx11 : 0 ≤ x11.toInt ∧ x11.toInt ≤ 60) (hx12 : 0 ≤ x12.toInt ∧ x12.toInt ≤ 60) (hx13 : 0 ≤ x13.toInt ∧ x13.toInt ≤ 8) (hx15 : 0 ≤ x15.toInt ∧ x15.toInt ≤ 1) (hf1 : ∀ j : Nat, 0 ≤ (f1 j).toInt ∧ (f1 j).toInt ≤ 12) : ka_R l D F yX7_pictureOf wsX7_pictureOf 4 99 [.ref a0, .int x0, .int x1] [(a0, .inr (7, [.ref a1, .int x2, .ref a2, .ref a3, .ref a4, .ref a5, .ref a6, .ref a7, .ref a8, .int x3, .int x4, .int x5, .int x6, .int x7, .int x8, .int x9, .ref a9, .ref a10, .ref a11, .ref a12, .ref a13, .ref a14, .int x10, .int x11, .int x12, .int x13, .int x14, .int x15])), (a2, .inl (k0, 89, .inl f0)), (a8, .inl (k1, 6, .inl f1)), (a9, .inl (k2, 40, .inl f2)), (a10, .inl (k3, 40, .inl f3))] [(k0, .int), (k1, .int), (k2, .int), (k3, .int)] (fun v => ∃ x : Int32, v = some (.int x)) := by
  refine ka_R_of (cc := cX7_pictureOf) (maxL := 3) (ret := (some .int)) (by decide) rfl (Nat.le_of_ble_eq_true rfl) ?_
  intro p e s m below meth c ls C hr hlk hP hK hE hN hl
  have hS : va_S (fun _ => False) s.heap s.heap [] := va_S.rf
  have C : CallFix p m c cX7_pictureOf 3 s [.ref a0, .int x0, .int x1].toArray wsX7_pictureOf RX7 := C
  obtain ⟨hx, hb, hml, hown, hts⟩ := id C
  have hl : lv_has ls 3 [(0, .ref a0), (1, .int x0), (2, .int x1)] := hl
  have rx0 := ka_rng x0
  have rx1 := ka_rng x1
  have rx2 := ka_rng x2
  have rx3 := ka_rng x3
  have rx4 := ka_rng x4
  have rx5 := ka_rng x5
  have rx6 := ka_rng x6
  have rx7 := ka_rng x7
  have rx8 := ka_rng x8
  have rx9 := ka_rng x9
  have rx10 := ka_rng x10
  have rx11 := ka_rng x11
  have rx12 := ka_rng x12
  have rx13 := ka_rng x13
  have rx14 := ka_rng x14
  have rx15 := ka_rng x15
  rcases (show x0.toInt ≤ -1 ∨ (0 ≤ x0.toInt ∧ x0.toInt ≤ 11) ∨ 12 ≤ x0.toInt by omega) with y_32249 | y_32249 | y_32249
  · skip
    refine lv_aload_n hx hb dX7_pictureOf_0 rfl (lv_at hl 0 rfl) ?_
    refine ka_get C lq_406 rfl hK hP 0 rfl 9 (by decide) lq_407 rfl dX7_pictureOf_1 ?_
    refine lv_iconst (v := (-1)) hx hb dX7_pictureOf_4 (by decide) ?_
    refine lv_icmp_eq (tgt := 27) hx hb dX7_pictureOf_5 (by decide) (fun c_32250 => ?_) (fun c_32250 => ?_)
    · have c_32250 : x3.toInt = -1 := by rw [ka_eq', show ((-1 : Int32)).toInt = -1 from by decide] at c_32250; exact c_32250
      refine lv_iconst (v := (-1)) hx hb dX7_pictureOf_27 (by decide) ?_
      exact ka_rRi C hr hlk ⟨_, rfl⟩ dX7_pictureOf_28
    · have c_32250 : ¬ x3.toInt = -1 := by rw [ka_eq', show ((-1 : Int32)).toInt = -1 from by decide] at c_32250; exact c_32250
      refine lv_iload_n hx hb dX7_pictureOf_8 rfl (lv_at hl 1 rfl) ?_
      refine lv_iconst (v := 0) hx hb dX7_pictureOf_9 (by decide) ?_
      refine lv_aload_n hx hb dX7_pictureOf_10 rfl (lv_at hl 0 rfl) ?_
      refine ka_get C lq_406 rfl hK hP 0 rfl 8 (by decide) lq_408 rfl dX7_pictureOf_11 ?_
      refine lv_aload_n hx hb dX7_pictureOf_14 rfl (lv_at hl 0 rfl) ?_
      refine ka_get C lq_406 rfl hK hP 0 rfl 9 (by decide) lq_407 rfl dX7_pictureOf_15 ?_
      refine va_iald hx hb hK hP 2 1 rfl rfl (ka_in (by omega) (by omega)) dX7_pictureOf_18 ?_
      refine lv_topi (fun v_32251 ev_32251 => ?_)
      have hv_32251 := hf1 (Int32.toNatClampNeg x3); rw [← ev_32251] at hv_32251
      refine lv_iconst (v := 1) hx hb dX7_pictureOf_19 (by decide) ?_
      refine lv_isub hx hb dX7_pictureOf_20 ?_
      refine lv_topi (fun v_32252 ev_32252 => ?_)
      have fv_32252 : v_32252.toInt = v_32251.toInt - 1 := by rw [ev_32252]; exact ka_sub (x := v_32251.toInt) (y := 1) rfl (by decide) (by omega) (by omega)
      refine ka_RS (n := 3) C (cg_X7_isIn_399 l D F x0 v_32252 (by omega) ⟨by omega, by omega⟩) gX7_pictureOf_X7_isIn rfl (by decide +kernel) ⟨Nat.le_of_ble_eq_true rfl, Nat.le_of_ble_eq_true rfl⟩ hK hP hS hE hN [] rfl [] rfl rfl hl.1 (rest := []) rfl (Nat.le_of_ble_eq_true rfl) dX7_pictureOf_21 ⟨Nat.le_of_ble_eq_true rfl, Nat.le_of_ble_eq_true rfl⟩ (fun v hv => ?_)
      subst hv
      refine ka_stk (w := [.int 0]) rfl ?_
      refine lv_if_ne (tgt := 29) hx hb dX7_pictureOf_24 (by decide) (fun c_ => absurd (by decide) c_) (fun _ => ?_)
      refine lv_iconst (v := (-1)) hx hb dX7_pictureOf_27 (by decide) ?_
      exact ka_rRi C hr hlk ⟨_, rfl⟩ dX7_pictureOf_28
  · skip
    refine lv_aload_n hx hb dX7_pictureOf_0 rfl (lv_at hl 0 rfl) ?_
    refine ka_get C lq_406 rfl hK hP 0 rfl 9 (by decide) lq_407 rfl dX7_pictureOf_1 ?_
    refine lv_iconst (v := (-1)) hx hb dX7_pictureOf_4 (by decide) ?_
    refine lv_icmp_eq (tgt := 27) hx hb dX7_pictureOf_5 (by decide) (fun c_32253 => ?_) (fun c_32253 => ?_)
    · have c_32253 : x3.toInt = -1 := by rw [ka_eq', show ((-1 : Int32)).toInt = -1 from by decide] at c_32253; exact c_32253
      refine lv_iconst (v := (-1)) hx hb dX7_pictureOf_27 (by decide) ?_
      exact ka_rRi C hr hlk ⟨_, rfl⟩ dX7_pictureOf_28
    · have c_32253 : ¬ x3.toInt = -1 := by rw [ka_eq', show ((-1 : Int32)).toInt = -1 from by decide] at c_32253; exact c_32253
      refine lv_iload_n hx hb dX7_pictureOf_8 rfl (lv_at hl 1 rfl) ?_
      refine lv_iconst (v := 0) hx hb dX7_pictureOf_9 (by decide) ?_
      refine lv_aload_n hx hb dX7_pictureOf_10 rfl (lv_at hl 0 rfl) ?_
      refine ka_get C lq_406 rfl hK hP 0 rfl 8 (by decide) lq_408 rfl dX7_pictureOf_11 ?_
      refine lv_aload_n hx hb dX7_pictureOf_14 rfl (lv_at hl 0 rfl) ?_
      refine ka_get C lq_406 rfl hK hP 0 rfl 9 (by decide) lq_407 rfl dX7_pictureOf_15 ?_
      refine va_iald hx hb hK hP 2 1 rfl rfl (ka_in (by omega) (by omega)) dX7_pictureOf_18 ?_
      refine lv_topi (fun v_32254 ev_32254 => ?_)
      have hv_32254 := hf1 (Int32.toNatClampNeg x3); rw [← ev_32254] at hv_32254
      refine lv_iconst (v := 1) hx hb dX7_pictureOf_19 (by decide) ?_
      refine lv_isub hx hb dX7_pictureOf_20 ?_
      refine lv_topi (fun v_32255 ev_32255 => ?_)
      have fv_32255 : v_32255.toInt = v_32254.toInt - 1 := by rw [ev_32255]; exact ka_sub (x := v_32254.toInt) (y := 1) rfl (by decide) (by omega) (by omega)
      refine ka_RS (n := 3) C (cg_X7_isIn_400 l D F x0 v_32255 ⟨by omega, by omega⟩ ⟨by omega, by omega⟩) gX7_pictureOf_X7_isIn rfl (by decide +kernel) ⟨Nat.le_of_ble_eq_true rfl, Nat.le_of_ble_eq_true rfl⟩ hK hP hS hE hN [] rfl [] rfl rfl hl.1 (rest := []) rfl (Nat.le_of_ble_eq_true rfl) dX7_pictureOf_21 ⟨Nat.le_of_ble_eq_true rfl, Nat.le_of_ble_eq_true rfl⟩ (fun v hv => ?_)
      obtain ⟨v_32256, rfl, hv_32256⟩ := hv
      have rv_32256 := ka_rng v_32256
      refine ka_stk (w := [.int v_32256]) rfl ?_
      refine lv_if_ne (tgt := 29) hx hb dX7_pictureOf_24 (by decide) (fun c_32257 => ?_) (fun c_32257 => ?_)
      · have c_32257 : ¬ v_32256.toInt = 0 := by rw [ka_eq', show ((0 : Int32)).toInt = 0 from by decide] at c_32257; exact c_32257
        refine lv_iload_n hx hb dX7_pictureOf_29 rfl (lv_at hl 2 rfl) ?_
        refine lv_if_ne (tgt := 41) hx hb dX7_pictureOf_30 (by decide) (fun c_32258 => ?_) (fun c_32258 => ?_)
        · have c_32258 : ¬ x1.toInt = 0 := by rw [ka_eq', show ((0 : Int32)).toInt = 0 from by decide] at c_32258; exact c_32258
          refine lv_iload_n hx hb dX7_pictureOf_41 rfl (lv_at hl 2 rfl) ?_
          refine lv_iconst (v := 1) hx hb dX7_pictureOf_42 (by decide) ?_
          refine lv_icmp_ne (tgt := 69) hx hb dX7_pictureOf_43 (by decide) (fun c_32259 => ?_) (fun c_32259 => ?_)
          · have c_32259 : ¬ x1.toInt = 1 := by rw [ka_eq', show ((1 : Int32)).toInt = 1 from by decide] at c_32259; exact c_32259
            refine lv_iload_n hx hb dX7_pictureOf_69 rfl (lv_at hl 2 rfl) ?_
            refine lv_iconst (v := 2) hx hb dX7_pictureOf_70 (by decide) ?_
            refine lv_icmp_ne (tgt := 82) hx hb dX7_pictureOf_71 (by decide) (fun c_32260 => ?_) (fun c_32260 => ?_)
            · have c_32260 : ¬ x1.toInt = 2 := by rw [ka_eq', show ((2 : Int32)).toInt = 2 from by decide] at c_32260; exact c_32260
              refine lv_iconst (v := (-1)) hx hb dX7_pictureOf_82 (by decide) ?_
              exact ka_rRi C hr hlk ⟨_, rfl⟩ dX7_pictureOf_83
            · have c_32260 : x1.toInt = 2 := by rw [ka_eq', show ((2 : Int32)).toInt = 2 from by decide] at c_32260; exact c_32260
              refine lv_aload_n hx hb dX7_pictureOf_74 rfl (lv_at hl 0 rfl) ?_
              refine lv_iload_n hx hb dX7_pictureOf_75 rfl (lv_at hl 1 rfl) ?_
              refine ka_RV (n := 1) C (cg_X7_path_403 l D F a0 x0 a1 x2 a2 a3 a4 a5 a6 a7 a8 x3 x4 x5 x6 x7 x8 x9 a9 a10 a11 a12 a13 a14 x10 x11 x12 x13 x14 x15 k0 f0 k1 f1 ⟨by omega, by omega⟩ ⟨by omega, by omega⟩ ⟨by omega, by omega⟩ ⟨by omega, by omega⟩ ⟨by omega, by omega⟩ ⟨by omega, by omega⟩ ⟨by omega, by omega⟩ ⟨by omega, by omega⟩ ⟨by omega, by omega⟩ ⟨by omega, by omega⟩ ⟨by omega, by omega⟩ hf1) gX7_pictureOf_X7_path rfl (by decide +kernel) ⟨Nat.le_of_ble_eq_true rfl, Nat.le_of_ble_eq_true rfl⟩ hK hP hS hE hN [0, 1, 2] rfl [0, 1] rfl (ci := 7) rfl rfl 0 rfl rfl hl.1 (rest := []) rfl (Nat.le_of_ble_eq_true rfl) dX7_pictureOf_76 ⟨Nat.le_of_ble_eq_true rfl, Nat.le_of_ble_eq_true rfl⟩ (fun v hv => ?_)
              obtain ⟨v_32261, rfl⟩ := hv
              have rv_32261 := ka_rng v_32261
              refine ka_stk (w := [.int v_32261]) rfl ?_
              refine lv_goto (tgt := 83) hx hb dX7_pictureOf_79 (by decide) ?_
              exact ka_rRi C hr hlk ⟨_, rfl⟩ dX7_pictureOf_83
          · have c_32259 : x1.toInt = 1 := by rw [ka_eq', show ((1 : Int32)).toInt = 1 from by decide] at c_32259; exact c_32259
            refine lv_aload_n hx hb dX7_pictureOf_46 rfl (lv_at hl 0 rfl) ?_
            refine lv_iload_n hx hb dX7_pictureOf_47 rfl (lv_at hl 1 rfl) ?_
            refine ka_RV (n := 1) C (cg_X7_slipsOf_259 l D F a0 x0 a1 x2 a2 a3 a4 a5 a6 a7 a8 x3 x4 x5 x6 x7 x8 x9 a9 a10 a11 a12 a13 a14 x10 x11 x12 x13 x14 x15 k0 f0 k2 f2 k3 f3 ⟨by omega, by omega⟩ ⟨by omega, by omega⟩ ⟨by omega, by omega⟩ ⟨by omega, by omega⟩ ⟨by omega, by omega⟩ ⟨by omega, by omega⟩ ⟨by omega, by omega⟩ ⟨by omega, by omega⟩ ⟨by omega, by omega⟩ ⟨by omega, by omega⟩ ⟨by omega, by omega⟩) gX7_pictureOf_X7_slipsOf rfl (by decide +kernel) ⟨Nat.le_of_ble_eq_true rfl, Nat.le_of_ble_eq_true rfl⟩ hK hP hS hE hN [0, 1, 3, 4] rfl [0, 2, 3] rfl (ci := 7) rfl rfl 0 rfl rfl hl.1 (rest := []) rfl (Nat.le_of_ble_eq_true rfl) dX7_pictureOf_48 ⟨Nat.le_of_ble_eq_true rfl, Nat.le_of_ble_eq_true rfl⟩ (fun v hv => ?_)
            obtain ⟨v_32262, rfl⟩ := hv
            have rv_32262 := ka_rng v_32262
            refine ka_stk (w := [.int v_32262]) rfl ?_
            refine lv_aload_n hx hb dX7_pictureOf_51 rfl (lv_at hl 0 rfl) ?_
            refine ka_get C lq_406 rfl hK hP 0 rfl 10 (by decide) lq_409 rfl dX7_pictureOf_52 ?_
            refine lv_icmp_gt (tgt := 62) hx hb dX7_pictureOf_55 (by decide) (fun c_32263 => ?_) (fun c_32263 => ?_)
            · have c_32263 : x4.toInt < v_32262.toInt := by rw [ka_lt'] at c_32263; exact c_32263
              refine lv_iconst (v := 0) hx hb dX7_pictureOf_62 (by decide) ?_
              refine ka_RS (n := 1) C (cg_X7_one_253 l D F ) gX7_pictureOf_X7_one rfl (by decide +kernel) ⟨Nat.le_of_ble_eq_true rfl, Nat.le_of_ble_eq_true rfl⟩ hK hP hS hE hN [] rfl [] rfl rfl hl.1 (rest := []) rfl (Nat.le_of_ble_eq_true rfl) dX7_pictureOf_63 ⟨Nat.le_of_ble_eq_true rfl, Nat.le_of_ble_eq_true rfl⟩ (fun v hv => ?_)
              subst hv
              refine ka_stk (w := [.int 0]) rfl ?_
              refine lv_goto (tgt := 83) hx hb dX7_pictureOf_66 (by decide) ?_
              exact ka_rRi C hr hlk ⟨_, rfl⟩ dX7_pictureOf_83
            · have c_32263 : ¬ x4.toInt < v_32262.toInt := by rw [ka_lt'] at c_32263; exact c_32263
              refine lv_iconst (v := 1) hx hb dX7_pictureOf_58 (by decide) ?_
              refine lv_goto (tgt := 63) hx hb dX7_pictureOf_59 (by decide) ?_
              refine ka_RS (n := 1) C (cg_X7_one_254 l D F ) gX7_pictureOf_X7_one rfl (by decide +kernel) ⟨Nat.le_of_ble_eq_true rfl, Nat.le_of_ble_eq_true rfl⟩ hK hP hS hE hN [] rfl [] rfl rfl hl.1 (rest := []) rfl (Nat.le_of_ble_eq_true rfl) dX7_pictureOf_63 ⟨Nat.le_of_ble_eq_true rfl, Nat.le_of_ble_eq_true rfl⟩ (fun v hv => ?_)
              subst hv
              refine ka_stk (w := [.int 1]) rfl ?_
              refine lv_goto (tgt := 83) hx hb dX7_pictureOf_66 (by decide) ?_
              exact ka_rRi C hr hlk ⟨_, rfl⟩ dX7_pictureOf_83
        · have c_32258 : x1.toInt = 0 := by rw [ka_eq', show ((0 : Int32)).toInt = 0 from by decide] at c_32258; exact c_32258
          refine lv_aload_n hx hb dX7_pictureOf_33 rfl (lv_at hl 0 rfl) ?_
          refine lv_iload_n hx hb dX7_pictureOf_34 rfl (lv_at hl 1 rfl) ?_
          refine ka_RV (n := 1) C (cg_X7_slipsOf_259 l D F a0 x0 a1 x2 a2 a3 a4 a5 a6 a7 a8 x3 x4 x5 x6 x7 x8 x9 a9 a10 a11 a12 a13 a14 x10 x11 x12 x13 x14 x15 k0 f0 k2 f2 k3 f3 ⟨by omega, by omega⟩ ⟨by omega, by omega⟩ ⟨by omega, by omega⟩ ⟨by omega, by omega⟩ ⟨by omega, by omega⟩ ⟨by omega, by omega⟩ ⟨by omega, by omega⟩ ⟨by omega, by omega⟩ ⟨by omega, by omega⟩ ⟨by omega, by omega⟩ ⟨by omega, by omega⟩) gX7_pictureOf_X7_slipsOf rfl (by decide +kernel) ⟨Nat.le_of_ble_eq_true rfl, Nat.le_of_ble_eq_true rfl⟩ hK hP hS hE hN [0, 1, 3, 4] rfl [0, 2, 3] rfl (ci := 7) rfl rfl 0 rfl rfl hl.1 (rest := []) rfl (Nat.le_of_ble_eq_true rfl) dX7_pictureOf_35 ⟨Nat.le_of_ble_eq_true rfl, Nat.le_of_ble_eq_true rfl⟩ (fun v hv => ?_)
          obtain ⟨v_32264, rfl⟩ := hv
          have rv_32264 := ka_rng v_32264
          refine ka_stk (w := [.int v_32264]) rfl ?_
          refine lv_goto (tgt := 83) hx hb dX7_pictureOf_38 (by decide) ?_
          exact ka_rRi C hr hlk ⟨_, rfl⟩ dX7_pictureOf_83
      · have c_32257 : v_32256.toInt = 0 := by rw [ka_eq', show ((0 : Int32)).toInt = 0 from by decide] at c_32257; exact c_32257
        refine lv_iconst (v := (-1)) hx hb dX7_pictureOf_27 (by decide) ?_
        exact ka_rRi C hr hlk ⟨_, rfl⟩ dX7_pictureOf_28
  · skip
    refine lv_aload_n hx hb dX7_pictureOf_0 rfl (lv_at hl 0 rfl) ?_
    refine ka_get C lq_406 rfl hK hP 0 rfl 9 (by decide) lq_407 rfl dX7_pictureOf_1 ?_
    refine lv_iconst (v := (-1)) hx hb dX7_pictureOf_4 (by decide) ?_
    refine lv_icmp_eq (tgt := 27) hx hb dX7_pictureOf_5 (by decide) (fun c_32265 => ?_) (fun c_32265 => ?_)
    · have c_32265 : x3.toInt = -1 := by rw [ka_eq', show ((-1 : Int32)).toInt = -1 from by decide] at c_32265; exact c_32265
      refine lv_iconst (v := (-1)) hx hb dX7_pictureOf_27 (by decide) ?_
      exact ka_rRi C hr hlk ⟨_, rfl⟩ dX7_pictureOf_28
    · have c_32265 : ¬ x3.toInt = -1 := by rw [ka_eq', show ((-1 : Int32)).toInt = -1 from by decide] at c_32265; exact c_32265
      refine lv_iload_n hx hb dX7_pictureOf_8 rfl (lv_at hl 1 rfl) ?_
      refine lv_iconst (v := 0) hx hb dX7_pictureOf_9 (by decide) ?_
      refine lv_aload_n hx hb dX7_pictureOf_10 rfl (lv_at hl 0 rfl) ?_
      refine ka_get C lq_406 rfl hK hP 0 rfl 8 (by decide) lq_408 rfl dX7_pictureOf_11 ?_
      refine lv_aload_n hx hb dX7_pictureOf_14 rfl (lv_at hl 0 rfl) ?_
      refine ka_get C lq_406 rfl hK hP 0 rfl 9 (by decide) lq_407 rfl dX7_pictureOf_15 ?_
      refine va_iald hx hb hK hP 2 1 rfl rfl (ka_in (by omega) (by omega)) dX7_pictureOf_18 ?_
      refine lv_topi (fun v_32266 ev_32266 => ?_)
      have hv_32266 := hf1 (Int32.toNatClampNeg x3); rw [← ev_32266] at hv_32266
      refine lv_iconst (v := 1) hx hb dX7_pictureOf_19 (by decide) ?_
      refine lv_isub hx hb dX7_pictureOf_20 ?_
      refine lv_topi (fun v_32267 ev_32267 => ?_)
      have fv_32267 : v_32267.toInt = v_32266.toInt - 1 := by rw [ev_32267]; exact ka_sub (x := v_32266.toInt) (y := 1) rfl (by decide) (by omega) (by omega)
      refine ka_RS (n := 3) C (cg_X7_isIn_404 l D F x0 v_32267 (by omega) ⟨by omega, by omega⟩) gX7_pictureOf_X7_isIn rfl (by decide +kernel) ⟨Nat.le_of_ble_eq_true rfl, Nat.le_of_ble_eq_true rfl⟩ hK hP hS hE hN [] rfl [] rfl rfl hl.1 (rest := []) rfl (Nat.le_of_ble_eq_true rfl) dX7_pictureOf_21 ⟨Nat.le_of_ble_eq_true rfl, Nat.le_of_ble_eq_true rfl⟩ (fun v hv => ?_)
      subst hv
      refine ka_stk (w := [.int 0]) rfl ?_
      refine lv_if_ne (tgt := 29) hx hb dX7_pictureOf_24 (by decide) (fun c_ => absurd (by decide) c_) (fun _ => ?_)
      refine lv_iconst (v := (-1)) hx hb dX7_pictureOf_27 (by decide) ?_
      exact ka_rRi C hr hlk ⟨_, rfl⟩ dX7_pictureOf_28
theorem lq_410 : ∀ w ∈ wsX70, w ∈ wsX7_longest := by decide +kernel
theorem lq_411 : Cond.fieldLink RX7 36 "AskedBackModel" "lesson" "I" ∈ wsX7_longest := by decide +kernel
theorem lq_412 : Cond.fieldLink RX7 33 "AskedBackModel" "pictures" "[I" ∈ wsX7_longest := by decide +kernel
theorem lq_413 : Cond.methodLink RX7 200 Lib.Math.max.name ∈ wsX7_longest := by decide +kernel
theorem lq_414 : Cond.static Lib.Math.max.name ∈ wsX7_longest := by decide +kernel
theorem lq_415 : Cond.initialized "java/lang/Math" ∈ wsX7_longest := by decide +kernel
theorem lq_416 : Cond.code Lib.Math.max.name Lib.Math.max.code 2 (some .int) ∈ wsX7_longest := by decide +kernel
set_option maxHeartbeats 4000000 in
set_option maxRecDepth 100000 in
theorem cg_X7_longest_406 (l : Launch) (D : va_G) (F : Nat → Prop) (a0 : Nat) (a1 : Nat) (x0 : Int32) (a2 : Nat) (a3 : Nat) (a4 : Nat) (a5 : Nat) (a6 : Nat) (a7 : Nat) (a8 : Nat) (x1 : Int32) (x2 : Int32) (x3 : Int32) (x4 : Int32) (x5 : Int32) (x6 : Int32) (x7 : Int32) (a9 : Nat) (a10 : Nat) (a11 : Nat) (a12 : Nat) (a13 : Nat) (a14 : Nat) (x8 : Int32) (x9 : Int32) (x10 : Int32) (x11 : Int32) (x12 : Int32) (x13 : Int32) (k0 : ClassId) (f0 : Nat → Int32) (k1 : ClassId) (f1 : Nat → Int32) (hx0 : 0 ≤ x0.toInt ∧ x0.toInt ≤ 80) (hx1 : -1 ≤ x1.toInt ∧ x1.toInt ≤ 5) (hx4 : 1 ≤ x4.toInt ∧ x4.toInt ≤ 8) (hx5 : 0 ≤ x5.toInt ∧ x5.toInt ≤ 40) (hx7 : 0 ≤ x7.toInt ∧ x7.toInt ≤ 10) (hx8 : 0 ≤ x8.toInt ∧ x8.toInt ≤ 60) (hx9 : 0 ≤ x9.toInt ∧ x9.toInt ≤ 60) (hx10 : 0 ≤ x10.toInt ∧ x10.toInt ≤ 60) (hx11 : 0 ≤ x11.toInt ∧ x11.toInt ≤ 8) (hx13 : 0 ≤ x13.toInt ∧ x13.toInt ≤ 1) (hf1 : ∀ j : Nat, 0 ≤ (f1 j).toInt ∧ (f1 j).toInt ≤ 12) : ka_R l D F yX7_longest wsX7_longest 4 99 [.ref a0] [(a0, .inr (7, [.ref a1, .int x0, .ref a2, .ref a3, .ref a4, .ref a5, .ref a6, .ref a7, .ref a8, .int x1, .int x2, .int x3, .int x4, .int x5, .int x6, .int x7, .ref a9, .ref a10, .ref a11, .ref a12, .ref a13, .ref a14, .int x8, .int x9, .int x10, .int x11, .int x12, .int x13])), (a2, .inl (k0, 89, .inl f0)), (a8, .inl (k1, 6, .inl f1))] [(k0, .int), (k1, .int)] (fun v => ∃ x : Int32, v = some (.int x)) := by
  refine ka_R_of (cc := cX7_longest) (maxL := 3) (ret := (some .int)) (by decide) rfl (Nat.le_of_ble_eq_true rfl) ?_
  intro p e s m below meth c ls C hr hlk hP hK hE hN hl
  have hS : va_S (fun _ => False) s.heap s.heap [] := va_S.rf
  have C : CallFix p m c cX7_longest 3 s [.ref a0].toArray wsX7_longest RX7 := C
  obtain ⟨hx, hb, hml, hown, hts⟩ := id C
  have hl : lv_has ls 3 [(0, .ref a0)] := hl
  have rx0 := ka_rng x0
  have rx1 := ka_rng x1
  have rx2 := ka_rng x2
  have rx3 := ka_rng x3
  have rx4 := ka_rng x4
  have rx5 := ka_rng x5
  have rx6 := ka_rng x6
  have rx7 := ka_rng x7
  have rx8 := ka_rng x8
  have rx9 := ka_rng x9
  have rx10 := ka_rng x10
  have rx11 := ka_rng x11
  have rx12 := ka_rng x12
  have rx13 := ka_rng x13
  refine lv_iconst (v := (-1)) hx hb dX7_longest_0 (by decide) ?_
  refine lv_istore_n (lv' := [(1, .int (-1)), (0, .ref a0)]) hx hb dX7_longest_1 rfl hl (by decide) rfl (fun ls hl => ?_)
  refine lv_iconst (v := 0) hx hb dX7_longest_2 (by decide) ?_
  refine lv_istore_n (lv' := [(2, .int 0), (1, .int (-1)), (0, .ref a0)]) hx hb dX7_longest_3 rfl hl (by decide) rfl (fun ls hl => ?_)
  have lp_32322 : ∀ (n : Nat) (i32322_1 : Int32) (i32322_2 : Int32), (0 ≤ i32322_2.toInt ∧ i32322_2.toInt ≤ 12) → (12 - i32322_2.toInt).toNat < n → ∀ (ls : Array Slot), lv_has ls 3 [(0, .ref a0), (1, .int i32322_1), (2, .int i32322_2)] → W p l e ({ frames := 4, cells := 0, slots := 0, locals := 99 }) s m [.ref a0].toArray below meth c s.heap [] 0 0 (MQ below (ka_QR (fun v => ∃ x : Int32, v = some (.int x))) [.ref a0].toArray s 0 0 (fun _ => False)) (F0 m 4 ls []) := by
    intro n
    induction n with
    | zero =>
      intro i32322_1 i32322_2 hi32322_2 hm
      exact absurd hm (Nat.not_lt_zero _)
    | succ n ih_32322 =>
      intro i32322_1 i32322_2 hi32322_2 hm ls hl
      have ri32322_1 := ka_rng i32322_1
      have ri32322_2 := ka_rng i32322_2
      refine lv_aload_n hx hb dX7_longest_4 rfl (lv_at hl 0 rfl) ?_
      refine ka_get C lq_410 rfl hK hP 0 rfl 9 (by decide) lq_411 rfl dX7_longest_5 ?_
      refine lv_iconst (v := (-1)) hx hb dX7_longest_8 (by decide) ?_
      refine lv_icmp_eq (tgt := 41) hx hb dX7_longest_9 (by decide) (fun c_32329 => ?_) (fun c_32329 => ?_)
      · have c_32329 : x1.toInt = -1 := by rw [ka_eq', show ((-1 : Int32)).toInt = -1 from by decide] at c_32329; exact c_32329
        refine lv_iload_n hx hb dX7_longest_41 rfl (lv_at hl 1 rfl) ?_
        exact ka_rRi C hr hlk ⟨_, rfl⟩ dX7_longest_42
      · have c_32329 : ¬ x1.toInt = -1 := by rw [ka_eq', show ((-1 : Int32)).toInt = -1 from by decide] at c_32329; exact c_32329
        refine lv_iload_n hx hb dX7_longest_12 rfl (lv_at hl 2 rfl) ?_
        refine lv_aload_n hx hb dX7_longest_13 rfl (lv_at hl 0 rfl) ?_
        refine ka_get C lq_410 rfl hK hP 0 rfl 8 (by decide) lq_412 rfl dX7_longest_14 ?_
        refine lv_aload_n hx hb dX7_longest_17 rfl (lv_at hl 0 rfl) ?_
        refine ka_get C lq_410 rfl hK hP 0 rfl 9 (by decide) lq_411 rfl dX7_longest_18 ?_
        refine va_iald hx hb hK hP 2 1 rfl rfl (ka_in (by omega) (by omega)) dX7_longest_21 ?_
        refine lv_topi (fun v_32330 ev_32330 => ?_)
        have hv_32330 := hf1 (Int32.toNatClampNeg x1); rw [← ev_32330] at hv_32330
        refine lv_icmp_ge (tgt := 41) hx hb dX7_longest_22 (by decide) (fun c_32331 => ?_) (fun c_32331 => ?_)
        · have c_32331 : v_32330.toInt ≤ i32322_2.toInt := by rw [ka_le'] at c_32331; exact c_32331
          refine lv_iload_n hx hb dX7_longest_41 rfl (lv_at hl 1 rfl) ?_
          exact ka_rRi C hr hlk ⟨_, rfl⟩ dX7_longest_42
        · have c_32331 : ¬ v_32330.toInt ≤ i32322_2.toInt := by rw [ka_le'] at c_32331; exact c_32331
          refine lv_iload_n hx hb dX7_longest_25 rfl (lv_at hl 1 rfl) ?_
          refine lv_aload_n hx hb dX7_longest_26 rfl (lv_at hl 0 rfl) ?_
          refine lv_iload_n hx hb dX7_longest_27 rfl (lv_at hl 2 rfl) ?_
          refine ka_RV (n := 1) C (cg_X7_path_403 l D F a0 i32322_2 a1 x0 a2 a3 a4 a5 a6 a7 a8 x1 x2 x3 x4 x5 x6 x7 a9 a10 a11 a12 a13 a14 x8 x9 x10 x11 x12 x13 k0 f0 k1 f1 ⟨by omega, by omega⟩ ⟨by omega, by omega⟩ ⟨by omega, by omega⟩ ⟨by omega, by omega⟩ ⟨by omega, by omega⟩ ⟨by omega, by omega⟩ ⟨by omega, by omega⟩ ⟨by omega, by omega⟩ ⟨by omega, by omega⟩ ⟨by omega, by omega⟩ ⟨by omega, by omega⟩ hf1) gX7_longest_X7_path rfl (by decide +kernel) ⟨Nat.le_of_ble_eq_true rfl, Nat.le_of_ble_eq_true rfl⟩ hK hP hS hE hN [0, 1, 2] rfl [0, 1] rfl (ci := 7) rfl rfl 0 rfl rfl hl.1 (rest := [.int i32322_1]) rfl (Nat.le_of_ble_eq_true rfl) dX7_longest_28 ⟨Nat.le_of_ble_eq_true rfl, Nat.le_of_ble_eq_true rfl⟩ (fun v hv => ?_)
          obtain ⟨v_32332, rfl⟩ := hv
          have rv_32332 := ka_rng v_32332
          refine ka_stk (w := [.int v_32332, .int i32322_1]) rfl ?_
          refine va_mmax hx hb (hml.trans hl.1.symm) hown (hts _ lq_413) (hts _ lq_414) (hts _ lq_415) (hts _ lq_416) (Nat.le_of_ble_eq_true rfl) (Nat.le_of_ble_eq_true rfl) (Nat.le_of_ble_eq_true rfl) (Nat.le_of_ble_eq_true rfl) dX7_longest_31 ?_
          refine lv_topi (fun v_32333 ev_32333 => ?_)
          have fv_32333 := kb_max i32322_1 v_32332; rw [← ev_32333] at fv_32333
          refine lv_istore_n (lv' := [(1, .int v_32333), (0, .ref a0), (2, .int i32322_2)]) hx hb dX7_longest_34 rfl hl (by decide) rfl (fun ls hl => ?_)
          obtain ⟨v_32334, ev_32334⟩ : ∃ y : Int32, y = i32322_2 + 1 := ⟨_, rfl⟩
          refine lv_iinc (v := v_32334) (lv' := [(2, .int v_32334), (1, .int v_32333), (0, .ref a0)]) hx hb dX7_longest_35 hl (k := 2) rfl (by rw [ev_32334]; rfl) (by decide) rfl (fun ls hl => ?_)
          have fv_32334 : v_32334.toInt = i32322_2.toInt + 1 := by rw [ev_32334]; exact ka_add (x := i32322_2.toInt) (y := 1) rfl (by decide) (by omega) (by omega)
          refine lv_goto (tgt := 4) hx hb dX7_longest_38 (by decide) ?_
          exact ih_32322 v_32333 v_32334 ⟨by omega, by omega⟩ (by omega) ls (lv_sub hl [2, 1, 0] rfl)
  exact lp_32322 _ (-1) 0 ⟨by decide, by decide⟩ (Nat.lt_succ_self _) ls (lv_sub hl [2, 1, 0] rfl)
