/-! the reference's parser: not(ahead) and row(close) at every depth -/
def kp_good (cl d : Int) (a0 : Int) (n a dd w ret : Int) (b l r : Nat → Int32) : Prop := w = 0 ∧ dd = d ∧ ∃ k wt : Nat, ret = (k : Int) ∧ (k : Int) < n ∧ kt_ok b l r k wt ∧ ((wt + kt_br b k cl : Nat) : Int) ≤ a - a0
def kp_post (cl d : Int) (n0 a0 e0 : Int) (b l r : Nat → Int32) (n a dd w ret : Int) (b' l' r' : Nat → Int32) : Prop := (a0 ≤ a ∧ a ≤ e0 ∧ n0 ≤ n ∧ n - n0 ≤ a - a0) ∧ kt_eq n0.toNat b l r b' l' r' ∧ ((w = 1 ∧ 0 ≤ dd ∧ dd ≤ 8) ∨ kp_good cl d a0 n a dd w ret b' l' r')
def kp_K (y : MethodName) (wsy : List Cond) (fr : Nat) (arg cl : Int) (d : Nat) : Prop := ∀ (l : Launch) (D : va_G) (F : Nat → Prop) (a0 : Nat) (m0 : Nat) (y1 : Int32) (m2 : Nat) (m3 : Nat) (m4 : Nat) (m5 : Nat) (m6 : Nat) (m7 : Nat) (m8 : Nat) (y9 : Int32) (y10 : Int32) (y11 : Int32) (y12 : Int32) (y13 : Int32) (y14 : Int32) (y15 : Int32) (m16 : Nat) (m17 : Nat) (m18 : Nat) (m19 : Nat) (m20 : Nat) (m21 : Nat) (y22 : Int32) (y23 : Int32) (y24 : Int32) (y25 : Int32) (y26 : Int32) (y27 : Int32) (k6 k0 k1 k2 k3 : ClassId) (ft fb fl fr_ fs : Nat → Int32) (x1 : Int32), (0 ≤ y1.toInt ∧ y1.toInt ≤ 80) → (-1 ≤ y9.toInt ∧ y9.toInt ≤ 5) → (1 ≤ y12.toInt ∧ y12.toInt ≤ 8) → (0 ≤ y13.toInt ∧ y13.toInt ≤ 40) → (0 ≤ y15.toInt ∧ y15.toInt ≤ 10) → (0 ≤ y22.toInt ∧ y22.toInt ≤ 60) → (0 ≤ y23.toInt ∧ y23.toInt ≤ 60) → (0 ≤ y24.toInt ∧ y24.toInt ≤ 60) → (0 ≤ y25.toInt ∧ y25.toInt ≤ 8) → (0 ≤ y27.toInt ∧ y27.toInt ≤ 1) → sb_Fit ft → y22.toInt ≤ y23.toInt ∧ y23.toInt ≤ y24.toInt → y25.toInt = (d : Int) → y27.toInt = 0 → x1.toInt = arg → ka_E l D F y wsy fr (25 * fr) 0 0 [.ref a0, .int x1] [(a0, .inr (7, [.ref m0, .int y1, .ref m2, .ref m3, .ref m4, .ref m5, .ref m6, .ref m7, .ref m8, .int y9, .int y10, .int y11, .int y12, .int y13, .int y14, .int y15, .ref m16, .ref m17, .ref m18, .ref m19, .ref m20, .ref m21, .int y22, .int y23, .int y24, .int y25, .int y26, .int y27])), (m0, .inl (k6, 80, .inl ft)), (m18, .inl (k0, 60, .inl fb)), (m19, .inl (k1, 60, .inl fl)), (m20, .inl (k2, 60, .inl fr_)), (m21, .inl (k3, 60, .inl fs))] [(k6, .byte), (k0, .int), (k1, .int), (k2, .int), (k3, .int)] (fun (u : Int32 × Int32 × Int32 × Int32 × (Nat → Int32) × (Nat → Int32) × (Nat → Int32) × (Nat → Int32) × Int32) => some (.int u.2.2.2.2.2.2.2.2)) (fun u => kp_post cl d y22.toInt y23.toInt y24.toInt fb fl fr_ u.1.toInt u.2.1.toInt u.2.2.1.toInt u.2.2.2.1.toInt u.2.2.2.2.2.2.2.2.toInt u.2.2.2.2.1 u.2.2.2.2.2.1 u.2.2.2.2.2.2.1) (fun u => [(a0, .inr (7, [.ref m0, .int y1, .ref m2, .ref m3, .ref m4, .ref m5, .ref m6, .ref m7, .ref m8, .int y9, .int y10, .int y11, .int y12, .int y13, .int y14, .int y15, .ref m16, .ref m17, .ref m18, .ref m19, .ref m20, .ref m21, .int u.1, .int u.2.1, .int y24, .int u.2.2.1, .int y26, .int u.2.2.2.1])), (m0, .inl (k6, 80, .inl ft)), (m18, .inl (k0, 60, .inl u.2.2.2.2.1)), (m19, .inl (k1, 60, .inl u.2.2.2.2.2.1)), (m20, .inl (k2, 60, .inl u.2.2.2.2.2.2.1)), (m21, .inl (k3, 60, .inl u.2.2.2.2.2.2.2.1))]) (fun _ => [])
def kp_fN (a d : Nat) : Nat := (8 - a) + 16 * (8 - d) + 3
def kp_fR (c d : Nat) : Nat := 16 * (8 - d) + 12 + (3 - c)
def kp_N (a d : Nat) : Prop := kp_K yX7_not wsX7_not (kp_fN a d) a 4 d
def kp_R (c d : Nat) : Prop := kp_K yX7_row wsX7_row (kp_fR c d) c c d
theorem kp_good_up {cl cl' d a0 n a dd w ret : Int} {b l r : Nat → Int32} (hc : cl' ≤ cl) (h : kp_good cl d a0 n a dd w ret b l r) : kp_good cl' d a0 n a dd w ret b l r := by
  obtain ⟨h1, h2, k, wt, h3, h4, h5, h6⟩ := h
  refine ⟨h1, h2, k, wt, h3, h4, h5, ?_⟩
  have := kt_br_le (b := b) (a := k) hc
  omega
theorem kp_cl {x : Int32} {n : Nat} (h : x.toInt = (n : Int)) : Int32.toNatClampNeg x = n := by
  unfold Int32.toNatClampNeg
  omega
theorem kp_br_own {b : Nat → Int32} {n : Nat} {c : Int} (h : c ≤ (b n).toInt) : kt_br b n c = 0 := by
  unfold kt_br
  rw [if_neg (by omega)]
theorem kp_br_2 (b : Nat → Int32) (n : Nat) (c : Int) : kt_br b n c ≤ 2 := by
  unfold kt_br
  split <;> omega
theorem lqp_423 : ∀ w ∈ wsX70, w ∈ wsX7_not := by decide +kernel
theorem lqp_424 : Cond.fieldLink RX7 81 "AskedBackModel" "at" "I" ∈ wsX7_not := by decide +kernel
theorem lqp_425 : Cond.fieldLink RX7 84 "AskedBackModel" "end" "I" ∈ wsX7_not := by decide +kernel
theorem lqp_426 : Cond.fieldLink RX7 7 "AskedBackModel" "tape" "[B" ∈ wsX7_not := by decide +kernel
set_option maxHeartbeats 4000000 in
set_option maxRecDepth 100000 in
theorem ck_X7_isIn_413 (l : Launch) (D : va_G) (F : Nat → Prop) (x0 : Int32) : ka_R l D F yX7_isIn wsX7_isIn 0 0 [.int x0, .int 97, .int 101] [] [] (fun v => ∃ x : Int32, v = some (.int x) ∧ 0 ≤ x.toInt ∧ x.toInt ≤ 1) := by
  refine ka_R_of (cc := cX7_isIn) (maxL := 3) (ret := (some .boolean)) (by decide) rfl (Nat.le_of_ble_eq_true rfl) ?_
  intro p e s m below meth c ls C hr hlk hP hK hE hN hl
  have hS : va_S (fun _ => False) s.heap s.heap [] := va_S.rf
  have C : CallFix p m c cX7_isIn 3 s [.int x0, .int 97, .int 101].toArray wsX7_isIn RX7 := C
  obtain ⟨hx, hb, hml, hown, hts⟩ := id C
  have hl : lv_has ls 3 [(0, .int x0), (1, .int 97), (2, .int 101)] := hl
  have rx0 := ka_rng x0
  refine lv_iload_n hx hb dX7_isIn_0 rfl (lv_at hl 0 rfl) ?_
  refine lv_iload_n hx hb dX7_isIn_1 rfl (lv_at hl 1 rfl) ?_
  refine lv_icmp_lt (tgt := 14) hx hb dX7_isIn_2 (by decide) (fun c_32653 => ?_) (fun c_32653 => ?_)
  · have c_32653 : x0.toInt < 97 := by rw [ka_lt', show ((97 : Int32)).toInt = 97 from by decide] at c_32653; exact c_32653
    refine lv_iconst (v := 0) hx hb dX7_isIn_14 (by decide) ?_
    exact ka_rRz C hr hlk rfl ⟨_, rfl, ⟨by decide, by decide⟩⟩ dX7_isIn_15
  · have c_32653 : ¬ x0.toInt < 97 := by rw [ka_lt', show ((97 : Int32)).toInt = 97 from by decide] at c_32653; exact c_32653
    refine lv_iload_n hx hb dX7_isIn_5 rfl (lv_at hl 0 rfl) ?_
    refine lv_iload_n hx hb dX7_isIn_6 rfl (lv_at hl 2 rfl) ?_
    refine lv_icmp_gt (tgt := 14) hx hb dX7_isIn_7 (by decide) (fun c_32654 => ?_) (fun c_32654 => ?_)
    · have c_32654 : 101 < x0.toInt := by rw [ka_lt', show ((101 : Int32)).toInt = 101 from by decide] at c_32654; exact c_32654
      refine lv_iconst (v := 0) hx hb dX7_isIn_14 (by decide) ?_
      exact ka_rRz C hr hlk rfl ⟨_, rfl, ⟨by decide, by decide⟩⟩ dX7_isIn_15
    · have c_32654 : ¬ 101 < x0.toInt := by rw [ka_lt', show ((101 : Int32)).toInt = 101 from by decide] at c_32654; exact c_32654
      refine lv_iconst (v := 1) hx hb dX7_isIn_10 (by decide) ?_
      refine lv_goto (tgt := 15) hx hb dX7_isIn_11 (by decide) ?_
      exact ka_rRz C hr hlk rfl ⟨_, rfl, ⟨by decide, by decide⟩⟩ dX7_isIn_15
theorem lqp_427 : Cond.fieldLink RX7 113 "AskedBackModel" "deep" "I" ∈ wsX7_not := by decide +kernel
theorem lqp_428 : Cond.fieldLink RX7 97 "AskedBackModel" "isWrong" "Z" ∈ wsX7_not := by decide +kernel
set_option maxHeartbeats 4000000 in
set_option maxRecDepth 100000 in
theorem kt_not_of (a d : Nat) (ha8 : a ≤ 8) (hcN : a < 8 → kp_N (a + 1) d) (hcR : d < 8 → kp_R 1 (d + 1)) : kp_N a d := by
  unfold kp_N kp_K
  intro l D F a0 m0 y1 m2 m3 m4 m5 m6 m7 m8 y9 y10 y11 y12 y13 y14 y15 m16 m17 m18 m19 m20 m21 y22 y23 y24 y25 y26 y27 k6 k0 k1 k2 k3 ft fb fl fr_ fs x1 hy1 hy9 hy12 hy13 hy15 hy22 hy23 hy24 hy25 hy27 hft hrel hdeep hnw hx1
  refine ka_E_of (cc := cX7_not) (maxL := 4) (ret := (some .int)) (by decide) rfl (Nat.le_of_ble_eq_true rfl) ?_
  intro p e s m below meth c ls A C hr hlk hin hP hK hD hS hA hE hN hl
  have C : CallFix p m c cX7_not 4 s [.ref a0, .int x1].toArray wsX7_not RX7 := C
  obtain ⟨hx, hb, hml, hown, hts⟩ := id C
  have hl : lv_has ls 4 [(0, .ref a0), (1, .int x1)] := hl
  have ry1 := ka_rng y1
  have ry9 := ka_rng y9
  have ry10 := ka_rng y10
  have ry11 := ka_rng y11
  have ry12 := ka_rng y12
  have ry13 := ka_rng y13
  have ry14 := ka_rng y14
  have ry15 := ka_rng y15
  have ry22 := ka_rng y22
  have ry23 := ka_rng y23
  have ry24 := ka_rng y24
  have ry25 := ka_rng y25
  have ry26 := ka_rng y26
  have ry27 := ka_rng y27
  have rx1 := ka_rng x1
  have hEq : kt_eq y22.toInt.toNat fb fl fr_ fb fl fr_ := kt_eq_rf
  refine lv_aload_n hx hb dX7_not_0 rfl (lv_at hl 0 rfl) ?_
  refine ka_EV (n := 0) (wr := [(m18, .inl (k0, 60, .inl fb)), (m19, .inl (k1, 60, .inl fl)), (m20, .inl (k2, 60, .inl fr_)), (m21, .inl (k3, 60, .inl fs))]) C (ck_X7_blanks_407 l D F a0 m0 y1 m2 m3 m4 m5 m6 m7 m8 y9 y10 y11 y12 y13 y14 y15 m16 m17 m18 m19 m20 m21 y22 y23 y24 y25 y26 y27 k6 ft ⟨by omega, by omega⟩ ⟨by omega, by omega⟩ ⟨by omega, by omega⟩ ⟨by omega, by omega⟩ ⟨by omega, by omega⟩ ⟨by omega, by omega⟩ ⟨by omega, by omega⟩ ⟨by omega, by omega⟩ ⟨by omega, by omega⟩ ⟨by omega, by omega⟩ hft (by omega)) gX7_not_X7_blanks rfl (by decide +kernel) ⟨show 0 + 1 ≤ kp_fN a d by simp only [kp_fN, kp_fR]; omega, show 8 + (1 + 11) + 0 ≤ 25 * kp_fN a d by simp only [kp_fN, kp_fR]; omega⟩ hK hP hD hS hA hE hN [0, 1] rfl (by decide) [2, 3, 4, 5] rfl (by decide) (by decide) [0] rfl (ci := 7) rfl rfl 0 rfl rfl hl.1 (rest := []) rfl (Nat.le_of_ble_eq_true rfl) dX7_not_1 ⟨Nat.le_of_ble_eq_true rfl, Nat.le_of_ble_eq_true rfl⟩ (fun u H locs hq hP hD hK hS => ?_)
  obtain ⟨v_32624, rfl⟩ : ∃ z, z = u := ⟨_, rfl⟩
  have hq : (0 ≤ v_32624.toInt ∧ v_32624.toInt ≤ 60) ∧ (y23.toInt ≤ v_32624.toInt ∧ v_32624.toInt ≤ y24.toInt) := hq
  obtain ⟨hv_32624, hzz_32625⟩ := hq
  have rv_32624 := ka_rng v_32624
  have hP : va_P D vwCl [(m18, .inl (k0, 60, .inl fb)), (m19, .inl (k1, 60, .inl fl)), (m20, .inl (k2, 60, .inl fr_)), (m21, .inl (k3, 60, .inl fs)), (a0, .inr (7, [.ref m0, .int y1, .ref m2, .ref m3, .ref m4, .ref m5, .ref m6, .ref m7, .ref m8, .int y9, .int y10, .int y11, .int y12, .int y13, .int y14, .int y15, .ref m16, .ref m17, .ref m18, .ref m19, .ref m20, .ref m21, .int y22, .int v_32624, .int y24, .int y25, .int y26, .int y27])), (m0, .inl (k6, 80, .inl ft))] H := hP
  have hD : va_D A [(m18, .inl (k0, 60, .inl fb)), (m19, .inl (k1, 60, .inl fl)), (m20, .inl (k2, 60, .inl fr_)), (m21, .inl (k3, 60, .inl fs)), (a0, .inr (7, [.ref m0, .int y1, .ref m2, .ref m3, .ref m4, .ref m5, .ref m6, .ref m7, .ref m8, .int y9, .int y10, .int y11, .int y12, .int y13, .int y14, .int y15, .ref m16, .ref m17, .ref m18, .ref m19, .ref m20, .ref m21, .int y22, .int v_32624, .int y24, .int y25, .int y26, .int y27])), (m0, .inl (k6, 80, .inl ft))] := hD
  have hK : va_K D vwCl [(k6, .byte), (k0, .int), (k1, .int), (k2, .int), (k3, .int)] s := by simpa using hK
  refine ka_stk (w := []) rfl ?_
  refine lv_aload_n hx hb dX7_not_4 rfl (lv_at hl 0 rfl) ?_
  refine ka_get C lqp_423 rfl hK hP 4 rfl 23 (by decide) lqp_424 rfl dX7_not_5 ?_
  refine lv_aload_n hx hb dX7_not_8 rfl (lv_at hl 0 rfl) ?_
  refine ka_get C lqp_423 rfl hK hP 4 rfl 24 (by decide) lqp_425 rfl dX7_not_9 ?_
  refine lv_icmp_ne (tgt := 20) hx hb dX7_not_12 (by decide) (fun c_32626 => ?_) (fun c_32626 => ?_)
  · have c_32626 : ¬ v_32624.toInt = y24.toInt := by rw [ka_eq'] at c_32626; exact c_32626
    refine lv_aload_n hx hb dX7_not_20 rfl (lv_at hl 0 rfl) ?_
    refine ka_get C lqp_423 rfl hK hP 4 rfl 0 (by decide) lqp_426 rfl dX7_not_21 ?_
    refine lv_aload_n hx hb dX7_not_24 rfl (lv_at hl 0 rfl) ?_
    refine ka_get C lqp_423 rfl hK hP 4 rfl 23 (by decide) lqp_424 rfl dX7_not_25 ?_
    refine va_bald hx hb hK hP 5 0 rfl rfl (ka_in (by omega) (by omega)) dX7_not_28 ?_
    refine lv_topi (fun v_32627 ev_32627 => ?_)
    refine lv_istore_n (lv' := [(2, .int v_32627), (0, .ref a0), (1, .int x1)]) hx hb dX7_not_29 rfl hl (by decide) rfl (fun ls hl => ?_)
    refine lv_iload_n hx hb dX7_not_30 rfl (lv_at hl 0 rfl) ?_
    refine lv_bipush (v := 33) hx hb dX7_not_31 (by decide) ?_
    refine lv_icmp_ne (tgt := 85) hx hb dX7_not_33 (by decide) (fun c_32628 => ?_) (fun c_32628 => ?_)
    · have c_32628 : ¬ v_32627.toInt = 33 := by rw [ka_eq', show ((33 : Int32)).toInt = 33 from by decide] at c_32628; exact c_32628
      refine lv_iload_n hx hb dX7_not_85 rfl (lv_at hl 0 rfl) ?_
      refine lv_bipush (v := 40) hx hb dX7_not_86 (by decide) ?_
      refine lv_icmp_ne (tgt := 174) hx hb dX7_not_88 (by decide) (fun c_32629 => ?_) (fun c_32629 => ?_)
      · have c_32629 : ¬ v_32627.toInt = 40 := by rw [ka_eq', show ((40 : Int32)).toInt = 40 from by decide] at c_32629; exact c_32629
        refine lv_iload_n hx hb dX7_not_174 rfl (lv_at hl 0 rfl) ?_
        refine lv_bipush (v := 97) hx hb dX7_not_175 (by decide) ?_
        refine lv_bipush (v := 101) hx hb dX7_not_177 (by decide) ?_
        refine ka_RS (n := 3) C (ck_X7_isIn_413 l D F v_32627) gX7_not_X7_isIn rfl (by decide +kernel) ⟨show 0 + 1 ≤ kp_fN a d by simp only [kp_fN, kp_fR]; omega, show 8 + (3 + 11) + 0 ≤ 25 * kp_fN a d by simp only [kp_fN, kp_fR]; omega⟩ hK hP hS hE hN [] rfl [] rfl rfl hl.1 (rest := []) rfl (Nat.le_of_ble_eq_true rfl) dX7_not_179 ⟨Nat.le_of_ble_eq_true rfl, Nat.le_of_ble_eq_true rfl⟩ (fun v hv => ?_)
        obtain ⟨v_32655, rfl, hv_32655⟩ := hv
        have rv_32655 := ka_rng v_32655
        refine ka_stk (w := [.int v_32655]) rfl ?_
        refine lv_if_ne (tgt := 202) hx hb dX7_not_182 (by decide) (fun c_32656 => ?_) (fun c_32656 => ?_)
        · have c_32656 : ¬ v_32655.toInt = 0 := by rw [ka_eq', show ((0 : Int32)).toInt = 0 from by decide] at c_32656; exact c_32656
          refine lv_aload_n hx hb dX7_not_202 rfl (lv_at hl 1 rfl) ?_
          refine lv_dup hx hb dX7_not_203 rfl ?_
          refine ka_get C lqp_423 rfl hK hP 4 rfl 23 (by decide) lqp_424 rfl dX7_not_204 ?_
          refine lv_iconst (v := 1) hx hb dX7_not_207 (by decide) ?_
          refine lv_iadd hx hb dX7_not_208 ?_
          refine lv_topi (fun v_32657 ev_32657 => ?_)
          have fv_32657 : v_32657.toInt = v_32624.toInt + 1 := by rw [ev_32657]; exact ka_add (x := v_32624.toInt) (y := 1) rfl (by decide) (by omega) (by omega)
          refine ka_put C lqp_423 tyX7 tyX7_ok nmX7 rfl hK hP hD hS 4 rfl 23 (by decide) lqp_424 rfl rfl rfl (Nat.le_of_ble_eq_true rfl) dX7_not_209 (fun H locs hP hD hS => ?_)
          have hP : va_P D vwCl [(m18, .inl (k0, 60, .inl fb)), (m19, .inl (k1, 60, .inl fl)), (m20, .inl (k2, 60, .inl fr_)), (m21, .inl (k3, 60, .inl fs)), (a0, .inr (7, [.ref m0, .int y1, .ref m2, .ref m3, .ref m4, .ref m5, .ref m6, .ref m7, .ref m8, .int y9, .int y10, .int y11, .int y12, .int y13, .int y14, .int y15, .ref m16, .ref m17, .ref m18, .ref m19, .ref m20, .ref m21, .int y22, .int v_32657, .int y24, .int y25, .int y26, .int y27])), (m0, .inl (k6, 80, .inl ft))] H := hP
          have hD : va_D A [(m18, .inl (k0, 60, .inl fb)), (m19, .inl (k1, 60, .inl fl)), (m20, .inl (k2, 60, .inl fr_)), (m21, .inl (k3, 60, .inl fs)), (a0, .inr (7, [.ref m0, .int y1, .ref m2, .ref m3, .ref m4, .ref m5, .ref m6, .ref m7, .ref m8, .int y9, .int y10, .int y11, .int y12, .int y13, .int y14, .int y15, .ref m16, .ref m17, .ref m18, .ref m19, .ref m20, .ref m21, .int y22, .int v_32657, .int y24, .int y25, .int y26, .int y27])), (m0, .inl (k6, 80, .inl ft))] := hD
          refine lv_aload_n hx hb dX7_not_212 rfl (lv_at hl 1 rfl) ?_
          refine lv_iconst (v := 5) hx hb dX7_not_213 (by decide) ?_
          refine lv_iload_n hx hb dX7_not_214 rfl (lv_at hl 0 rfl) ?_
          refine lv_iconst (v := 0) hx hb dX7_not_215 (by decide) ?_
          refine lv_iconst (v := 0) hx hb dX7_not_216 (by decide) ?_
          obtain ⟨N_32660, eN_32660⟩ : ∃ z : Nat, y22.toInt = (z : Int) := ⟨y22.toInt.toNat, by omega⟩
          refine ka_EV (n := 4) (wr := [(m0, .inl (k6, 80, .inl ft))]) C (kt_node l D F a0 m0 y1 m2 m3 m4 m5 m6 m7 m8 y9 y10 y11 y12 y13 y14 y15 m16 m17 m18 m19 m20 m21 y22 v_32657 y24 y25 y26 y27 k0 k1 k2 k3 fb fl fr_ fs 5 v_32627 0 0 ⟨by omega, by omega⟩) gX7_not_X7_node rfl (by decide +kernel) ⟨show 0 + 1 ≤ kp_fN a d by simp only [kp_fN, kp_fR]; omega, show 8 + (5 + 11) + 0 ≤ 25 * kp_fN a d by simp only [kp_fN, kp_fR]; omega⟩ hK hP hD hS hA hE hN [4, 0, 1, 2, 3] rfl (by decide) [5] rfl (by decide) (by decide) [1, 2, 3, 4] rfl (ci := 7) rfl rfl 4 rfl rfl hl.1 (rest := []) rfl (Nat.le_of_ble_eq_true rfl) dX7_not_217 ⟨Nat.le_of_ble_eq_true rfl, Nat.le_of_ble_eq_true rfl⟩ (fun u H locs hq hP hD hK hS => ?_)
          obtain ⟨v_32658, v_32659⟩ := u
          have hq : v_32658.toInt = y22.toInt + 1 ∧ v_32659.toInt = y22.toInt := hq
          obtain ⟨fv_32658, fv_32659⟩ := hq
          have hP : va_P D vwCl [(m0, .inl (k6, 80, .inl ft)), (a0, .inr (7, [.ref m0, .int y1, .ref m2, .ref m3, .ref m4, .ref m5, .ref m6, .ref m7, .ref m8, .int y9, .int y10, .int y11, .int y12, .int y13, .int y14, .int y15, .ref m16, .ref m17, .ref m18, .ref m19, .ref m20, .ref m21, .int v_32658, .int v_32657, .int y24, .int y25, .int y26, .int y27])), (m18, .inl (k0, 60, .inl (upd fb (Int32.toNatClampNeg y22) 5))), (m19, .inl (k1, 60, .inl (upd fl (Int32.toNatClampNeg y22) 0))), (m20, .inl (k2, 60, .inl (upd fr_ (Int32.toNatClampNeg y22) 0))), (m21, .inl (k3, 60, .inl (upd fs (Int32.toNatClampNeg y22) v_32627)))] H := hP
          have hD : va_D A [(m0, .inl (k6, 80, .inl ft)), (a0, .inr (7, [.ref m0, .int y1, .ref m2, .ref m3, .ref m4, .ref m5, .ref m6, .ref m7, .ref m8, .int y9, .int y10, .int y11, .int y12, .int y13, .int y14, .int y15, .ref m16, .ref m17, .ref m18, .ref m19, .ref m20, .ref m21, .int v_32658, .int v_32657, .int y24, .int y25, .int y26, .int y27])), (m18, .inl (k0, 60, .inl (upd fb (Int32.toNatClampNeg y22) 5))), (m19, .inl (k1, 60, .inl (upd fl (Int32.toNatClampNeg y22) 0))), (m20, .inl (k2, 60, .inl (upd fr_ (Int32.toNatClampNeg y22) 0))), (m21, .inl (k3, 60, .inl (upd fs (Int32.toNatClampNeg y22) v_32627)))] := hD
          have hK : va_K D vwCl [(k6, .byte), (k0, .int), (k1, .int), (k2, .int), (k3, .int)] s := by simpa using hK
          refine ka_stk (w := [.int v_32659]) rfl ?_
          rw [kp_cl eN_32660] at hP hD
          have hEq : kt_eq y22.toInt.toNat fb fl fr_ (upd fb N_32660 5) (upd fl N_32660 0) (upd fr_ N_32660 0) := kt_eq_tr hEq (by omega) (kt_eq_upd (N := N_32660))
          have hbN : ((upd fb N_32660 5) N_32660).toInt = 5 := by rw [pk_us]; decide
          have hok := kt_leaf (l := (upd fl N_32660 0)) (r := (upd fr_ N_32660 0)) hbN
          have hbr : kt_br (upd fb N_32660 5) N_32660 4 = 0 := kp_br_own (by omega)
          skip
          generalize (upd fb N_32660 5) = g_32661 at hP hD hEq hok hbr hbN
          generalize (upd fl N_32660 0) = g_32662 at hP hD hEq hok
          generalize (upd fr_ N_32660 0) = g_32663 at hP hD hEq hok
          generalize (upd fs N_32660 v_32627) = g_32664 at hP hD
          have hgood : kp_good 4 d y23.toInt ((v_32658 : Int32)).toInt ((v_32657 : Int32)).toInt ((y25 : Int32)).toInt ((y27 : Int32)).toInt ((v_32659 : Int32)).toInt g_32661 g_32662 g_32663 := ⟨by omega, by omega, N_32660, _, by omega, by omega, hok, by omega⟩
          exact ka_rEi C hr hlk (Nat.le_of_ble_eq_true rfl) (Nat.le_of_ble_eq_true rfl) hS (ka_qE (v_32658, v_32657, y25, y27, g_32661, g_32662, g_32663, g_32664, v_32659) rfl (show kp_post 4 d y22.toInt y23.toInt y24.toInt fb fl fr_ ((v_32658 : Int32)).toInt ((v_32657 : Int32)).toInt ((y25 : Int32)).toInt ((y27 : Int32)).toInt ((v_32659 : Int32)).toInt g_32661 g_32662 g_32663 from ⟨⟨by omega, by omega, by omega, by omega⟩, hEq, Or.inr hgood⟩) hK hP hD hS [1, 0, 2, 3, 4, 5] (by decide) rfl [] rfl) dX7_not_220
        · have c_32656 : v_32655.toInt = 0 := by rw [ka_eq', show ((0 : Int32)).toInt = 0 from by decide] at c_32656; exact c_32656
          refine lv_iload_n hx hb dX7_not_185 rfl (lv_at hl 0 rfl) ?_
          refine lv_bipush (v := 48) hx hb dX7_not_186 (by decide) ?_
          refine lv_icmp_eq (tgt := 202) hx hb dX7_not_188 (by decide) (fun c_32665 => ?_) (fun c_32665 => ?_)
          · have c_32665 : v_32627.toInt = 48 := by rw [ka_eq', show ((48 : Int32)).toInt = 48 from by decide] at c_32665; exact c_32665
            refine lv_aload_n hx hb dX7_not_202 rfl (lv_at hl 1 rfl) ?_
            refine lv_dup hx hb dX7_not_203 rfl ?_
            refine ka_get C lqp_423 rfl hK hP 4 rfl 23 (by decide) lqp_424 rfl dX7_not_204 ?_
            refine lv_iconst (v := 1) hx hb dX7_not_207 (by decide) ?_
            refine lv_iadd hx hb dX7_not_208 ?_
            refine lv_topi (fun v_32666 ev_32666 => ?_)
            have fv_32666 : v_32666.toInt = v_32624.toInt + 1 := by rw [ev_32666]; exact ka_add (x := v_32624.toInt) (y := 1) rfl (by decide) (by omega) (by omega)
            refine ka_put C lqp_423 tyX7 tyX7_ok nmX7 rfl hK hP hD hS 4 rfl 23 (by decide) lqp_424 rfl rfl rfl (Nat.le_of_ble_eq_true rfl) dX7_not_209 (fun H locs hP hD hS => ?_)
            have hP : va_P D vwCl [(m18, .inl (k0, 60, .inl fb)), (m19, .inl (k1, 60, .inl fl)), (m20, .inl (k2, 60, .inl fr_)), (m21, .inl (k3, 60, .inl fs)), (a0, .inr (7, [.ref m0, .int y1, .ref m2, .ref m3, .ref m4, .ref m5, .ref m6, .ref m7, .ref m8, .int y9, .int y10, .int y11, .int y12, .int y13, .int y14, .int y15, .ref m16, .ref m17, .ref m18, .ref m19, .ref m20, .ref m21, .int y22, .int v_32666, .int y24, .int y25, .int y26, .int y27])), (m0, .inl (k6, 80, .inl ft))] H := hP
            have hD : va_D A [(m18, .inl (k0, 60, .inl fb)), (m19, .inl (k1, 60, .inl fl)), (m20, .inl (k2, 60, .inl fr_)), (m21, .inl (k3, 60, .inl fs)), (a0, .inr (7, [.ref m0, .int y1, .ref m2, .ref m3, .ref m4, .ref m5, .ref m6, .ref m7, .ref m8, .int y9, .int y10, .int y11, .int y12, .int y13, .int y14, .int y15, .ref m16, .ref m17, .ref m18, .ref m19, .ref m20, .ref m21, .int y22, .int v_32666, .int y24, .int y25, .int y26, .int y27])), (m0, .inl (k6, 80, .inl ft))] := hD
            refine lv_aload_n hx hb dX7_not_212 rfl (lv_at hl 1 rfl) ?_
            refine lv_iconst (v := 5) hx hb dX7_not_213 (by decide) ?_
            refine lv_iload_n hx hb dX7_not_214 rfl (lv_at hl 0 rfl) ?_
            refine lv_iconst (v := 0) hx hb dX7_not_215 (by decide) ?_
            refine lv_iconst (v := 0) hx hb dX7_not_216 (by decide) ?_
            obtain ⟨N_32669, eN_32669⟩ : ∃ z : Nat, y22.toInt = (z : Int) := ⟨y22.toInt.toNat, by omega⟩
            refine ka_EV (n := 4) (wr := [(m0, .inl (k6, 80, .inl ft))]) C (kt_node l D F a0 m0 y1 m2 m3 m4 m5 m6 m7 m8 y9 y10 y11 y12 y13 y14 y15 m16 m17 m18 m19 m20 m21 y22 v_32666 y24 y25 y26 y27 k0 k1 k2 k3 fb fl fr_ fs 5 v_32627 0 0 ⟨by omega, by omega⟩) gX7_not_X7_node rfl (by decide +kernel) ⟨show 0 + 1 ≤ kp_fN a d by simp only [kp_fN, kp_fR]; omega, show 8 + (5 + 11) + 0 ≤ 25 * kp_fN a d by simp only [kp_fN, kp_fR]; omega⟩ hK hP hD hS hA hE hN [4, 0, 1, 2, 3] rfl (by decide) [5] rfl (by decide) (by decide) [1, 2, 3, 4] rfl (ci := 7) rfl rfl 4 rfl rfl hl.1 (rest := []) rfl (Nat.le_of_ble_eq_true rfl) dX7_not_217 ⟨Nat.le_of_ble_eq_true rfl, Nat.le_of_ble_eq_true rfl⟩ (fun u H locs hq hP hD hK hS => ?_)
            obtain ⟨v_32667, v_32668⟩ := u
            have hq : v_32667.toInt = y22.toInt + 1 ∧ v_32668.toInt = y22.toInt := hq
            obtain ⟨fv_32667, fv_32668⟩ := hq
            have hP : va_P D vwCl [(m0, .inl (k6, 80, .inl ft)), (a0, .inr (7, [.ref m0, .int y1, .ref m2, .ref m3, .ref m4, .ref m5, .ref m6, .ref m7, .ref m8, .int y9, .int y10, .int y11, .int y12, .int y13, .int y14, .int y15, .ref m16, .ref m17, .ref m18, .ref m19, .ref m20, .ref m21, .int v_32667, .int v_32666, .int y24, .int y25, .int y26, .int y27])), (m18, .inl (k0, 60, .inl (upd fb (Int32.toNatClampNeg y22) 5))), (m19, .inl (k1, 60, .inl (upd fl (Int32.toNatClampNeg y22) 0))), (m20, .inl (k2, 60, .inl (upd fr_ (Int32.toNatClampNeg y22) 0))), (m21, .inl (k3, 60, .inl (upd fs (Int32.toNatClampNeg y22) v_32627)))] H := hP
            have hD : va_D A [(m0, .inl (k6, 80, .inl ft)), (a0, .inr (7, [.ref m0, .int y1, .ref m2, .ref m3, .ref m4, .ref m5, .ref m6, .ref m7, .ref m8, .int y9, .int y10, .int y11, .int y12, .int y13, .int y14, .int y15, .ref m16, .ref m17, .ref m18, .ref m19, .ref m20, .ref m21, .int v_32667, .int v_32666, .int y24, .int y25, .int y26, .int y27])), (m18, .inl (k0, 60, .inl (upd fb (Int32.toNatClampNeg y22) 5))), (m19, .inl (k1, 60, .inl (upd fl (Int32.toNatClampNeg y22) 0))), (m20, .inl (k2, 60, .inl (upd fr_ (Int32.toNatClampNeg y22) 0))), (m21, .inl (k3, 60, .inl (upd fs (Int32.toNatClampNeg y22) v_32627)))] := hD
            have hK : va_K D vwCl [(k6, .byte), (k0, .int), (k1, .int), (k2, .int), (k3, .int)] s := by simpa using hK
            refine ka_stk (w := [.int v_32668]) rfl ?_
            rw [kp_cl eN_32669] at hP hD
            have hEq : kt_eq y22.toInt.toNat fb fl fr_ (upd fb N_32669 5) (upd fl N_32669 0) (upd fr_ N_32669 0) := kt_eq_tr hEq (by omega) (kt_eq_upd (N := N_32669))
            have hbN : ((upd fb N_32669 5) N_32669).toInt = 5 := by rw [pk_us]; decide
            have hok := kt_leaf (l := (upd fl N_32669 0)) (r := (upd fr_ N_32669 0)) hbN
            have hbr : kt_br (upd fb N_32669 5) N_32669 4 = 0 := kp_br_own (by omega)
            skip
            generalize (upd fb N_32669 5) = g_32670 at hP hD hEq hok hbr hbN
            generalize (upd fl N_32669 0) = g_32671 at hP hD hEq hok
            generalize (upd fr_ N_32669 0) = g_32672 at hP hD hEq hok
            generalize (upd fs N_32669 v_32627) = g_32673 at hP hD
            have hgood : kp_good 4 d y23.toInt ((v_32667 : Int32)).toInt ((v_32666 : Int32)).toInt ((y25 : Int32)).toInt ((y27 : Int32)).toInt ((v_32668 : Int32)).toInt g_32670 g_32671 g_32672 := ⟨by omega, by omega, N_32669, _, by omega, by omega, hok, by omega⟩
            exact ka_rEi C hr hlk (Nat.le_of_ble_eq_true rfl) (Nat.le_of_ble_eq_true rfl) hS (ka_qE (v_32667, v_32666, y25, y27, g_32670, g_32671, g_32672, g_32673, v_32668) rfl (show kp_post 4 d y22.toInt y23.toInt y24.toInt fb fl fr_ ((v_32667 : Int32)).toInt ((v_32666 : Int32)).toInt ((y25 : Int32)).toInt ((y27 : Int32)).toInt ((v_32668 : Int32)).toInt g_32670 g_32671 g_32672 from ⟨⟨by omega, by omega, by omega, by omega⟩, hEq, Or.inr hgood⟩) hK hP hD hS [1, 0, 2, 3, 4, 5] (by decide) rfl [] rfl) dX7_not_220
          · have c_32665 : ¬ v_32627.toInt = 48 := by rw [ka_eq', show ((48 : Int32)).toInt = 48 from by decide] at c_32665; exact c_32665
            refine lv_iload_n hx hb dX7_not_191 rfl (lv_at hl 0 rfl) ?_
            refine lv_bipush (v := 49) hx hb dX7_not_192 (by decide) ?_
            refine lv_icmp_eq (tgt := 202) hx hb dX7_not_194 (by decide) (fun c_32674 => ?_) (fun c_32674 => ?_)
            · have c_32674 : v_32627.toInt = 49 := by rw [ka_eq', show ((49 : Int32)).toInt = 49 from by decide] at c_32674; exact c_32674
              refine lv_aload_n hx hb dX7_not_202 rfl (lv_at hl 1 rfl) ?_
              refine lv_dup hx hb dX7_not_203 rfl ?_
              refine ka_get C lqp_423 rfl hK hP 4 rfl 23 (by decide) lqp_424 rfl dX7_not_204 ?_
              refine lv_iconst (v := 1) hx hb dX7_not_207 (by decide) ?_
              refine lv_iadd hx hb dX7_not_208 ?_
              refine lv_topi (fun v_32675 ev_32675 => ?_)
              have fv_32675 : v_32675.toInt = v_32624.toInt + 1 := by rw [ev_32675]; exact ka_add (x := v_32624.toInt) (y := 1) rfl (by decide) (by omega) (by omega)
              refine ka_put C lqp_423 tyX7 tyX7_ok nmX7 rfl hK hP hD hS 4 rfl 23 (by decide) lqp_424 rfl rfl rfl (Nat.le_of_ble_eq_true rfl) dX7_not_209 (fun H locs hP hD hS => ?_)
              have hP : va_P D vwCl [(m18, .inl (k0, 60, .inl fb)), (m19, .inl (k1, 60, .inl fl)), (m20, .inl (k2, 60, .inl fr_)), (m21, .inl (k3, 60, .inl fs)), (a0, .inr (7, [.ref m0, .int y1, .ref m2, .ref m3, .ref m4, .ref m5, .ref m6, .ref m7, .ref m8, .int y9, .int y10, .int y11, .int y12, .int y13, .int y14, .int y15, .ref m16, .ref m17, .ref m18, .ref m19, .ref m20, .ref m21, .int y22, .int v_32675, .int y24, .int y25, .int y26, .int y27])), (m0, .inl (k6, 80, .inl ft))] H := hP
              have hD : va_D A [(m18, .inl (k0, 60, .inl fb)), (m19, .inl (k1, 60, .inl fl)), (m20, .inl (k2, 60, .inl fr_)), (m21, .inl (k3, 60, .inl fs)), (a0, .inr (7, [.ref m0, .int y1, .ref m2, .ref m3, .ref m4, .ref m5, .ref m6, .ref m7, .ref m8, .int y9, .int y10, .int y11, .int y12, .int y13, .int y14, .int y15, .ref m16, .ref m17, .ref m18, .ref m19, .ref m20, .ref m21, .int y22, .int v_32675, .int y24, .int y25, .int y26, .int y27])), (m0, .inl (k6, 80, .inl ft))] := hD
              refine lv_aload_n hx hb dX7_not_212 rfl (lv_at hl 1 rfl) ?_
              refine lv_iconst (v := 5) hx hb dX7_not_213 (by decide) ?_
              refine lv_iload_n hx hb dX7_not_214 rfl (lv_at hl 0 rfl) ?_
              refine lv_iconst (v := 0) hx hb dX7_not_215 (by decide) ?_
              refine lv_iconst (v := 0) hx hb dX7_not_216 (by decide) ?_
              obtain ⟨N_32678, eN_32678⟩ : ∃ z : Nat, y22.toInt = (z : Int) := ⟨y22.toInt.toNat, by omega⟩
              refine ka_EV (n := 4) (wr := [(m0, .inl (k6, 80, .inl ft))]) C (kt_node l D F a0 m0 y1 m2 m3 m4 m5 m6 m7 m8 y9 y10 y11 y12 y13 y14 y15 m16 m17 m18 m19 m20 m21 y22 v_32675 y24 y25 y26 y27 k0 k1 k2 k3 fb fl fr_ fs 5 v_32627 0 0 ⟨by omega, by omega⟩) gX7_not_X7_node rfl (by decide +kernel) ⟨show 0 + 1 ≤ kp_fN a d by simp only [kp_fN, kp_fR]; omega, show 8 + (5 + 11) + 0 ≤ 25 * kp_fN a d by simp only [kp_fN, kp_fR]; omega⟩ hK hP hD hS hA hE hN [4, 0, 1, 2, 3] rfl (by decide) [5] rfl (by decide) (by decide) [1, 2, 3, 4] rfl (ci := 7) rfl rfl 4 rfl rfl hl.1 (rest := []) rfl (Nat.le_of_ble_eq_true rfl) dX7_not_217 ⟨Nat.le_of_ble_eq_true rfl, Nat.le_of_ble_eq_true rfl⟩ (fun u H locs hq hP hD hK hS => ?_)
              obtain ⟨v_32676, v_32677⟩ := u
              have hq : v_32676.toInt = y22.toInt + 1 ∧ v_32677.toInt = y22.toInt := hq
              obtain ⟨fv_32676, fv_32677⟩ := hq
              have hP : va_P D vwCl [(m0, .inl (k6, 80, .inl ft)), (a0, .inr (7, [.ref m0, .int y1, .ref m2, .ref m3, .ref m4, .ref m5, .ref m6, .ref m7, .ref m8, .int y9, .int y10, .int y11, .int y12, .int y13, .int y14, .int y15, .ref m16, .ref m17, .ref m18, .ref m19, .ref m20, .ref m21, .int v_32676, .int v_32675, .int y24, .int y25, .int y26, .int y27])), (m18, .inl (k0, 60, .inl (upd fb (Int32.toNatClampNeg y22) 5))), (m19, .inl (k1, 60, .inl (upd fl (Int32.toNatClampNeg y22) 0))), (m20, .inl (k2, 60, .inl (upd fr_ (Int32.toNatClampNeg y22) 0))), (m21, .inl (k3, 60, .inl (upd fs (Int32.toNatClampNeg y22) v_32627)))] H := hP
              have hD : va_D A [(m0, .inl (k6, 80, .inl ft)), (a0, .inr (7, [.ref m0, .int y1, .ref m2, .ref m3, .ref m4, .ref m5, .ref m6, .ref m7, .ref m8, .int y9, .int y10, .int y11, .int y12, .int y13, .int y14, .int y15, .ref m16, .ref m17, .ref m18, .ref m19, .ref m20, .ref m21, .int v_32676, .int v_32675, .int y24, .int y25, .int y26, .int y27])), (m18, .inl (k0, 60, .inl (upd fb (Int32.toNatClampNeg y22) 5))), (m19, .inl (k1, 60, .inl (upd fl (Int32.toNatClampNeg y22) 0))), (m20, .inl (k2, 60, .inl (upd fr_ (Int32.toNatClampNeg y22) 0))), (m21, .inl (k3, 60, .inl (upd fs (Int32.toNatClampNeg y22) v_32627)))] := hD
              have hK : va_K D vwCl [(k6, .byte), (k0, .int), (k1, .int), (k2, .int), (k3, .int)] s := by simpa using hK
              refine ka_stk (w := [.int v_32677]) rfl ?_
              rw [kp_cl eN_32678] at hP hD
              have hEq : kt_eq y22.toInt.toNat fb fl fr_ (upd fb N_32678 5) (upd fl N_32678 0) (upd fr_ N_32678 0) := kt_eq_tr hEq (by omega) (kt_eq_upd (N := N_32678))
              have hbN : ((upd fb N_32678 5) N_32678).toInt = 5 := by rw [pk_us]; decide
              have hok := kt_leaf (l := (upd fl N_32678 0)) (r := (upd fr_ N_32678 0)) hbN
              have hbr : kt_br (upd fb N_32678 5) N_32678 4 = 0 := kp_br_own (by omega)
              skip
              generalize (upd fb N_32678 5) = g_32679 at hP hD hEq hok hbr hbN
              generalize (upd fl N_32678 0) = g_32680 at hP hD hEq hok
              generalize (upd fr_ N_32678 0) = g_32681 at hP hD hEq hok
              generalize (upd fs N_32678 v_32627) = g_32682 at hP hD
              have hgood : kp_good 4 d y23.toInt ((v_32676 : Int32)).toInt ((v_32675 : Int32)).toInt ((y25 : Int32)).toInt ((y27 : Int32)).toInt ((v_32677 : Int32)).toInt g_32679 g_32680 g_32681 := ⟨by omega, by omega, N_32678, _, by omega, by omega, hok, by omega⟩
              exact ka_rEi C hr hlk (Nat.le_of_ble_eq_true rfl) (Nat.le_of_ble_eq_true rfl) hS (ka_qE (v_32676, v_32675, y25, y27, g_32679, g_32680, g_32681, g_32682, v_32677) rfl (show kp_post 4 d y22.toInt y23.toInt y24.toInt fb fl fr_ ((v_32676 : Int32)).toInt ((v_32675 : Int32)).toInt ((y25 : Int32)).toInt ((y27 : Int32)).toInt ((v_32677 : Int32)).toInt g_32679 g_32680 g_32681 from ⟨⟨by omega, by omega, by omega, by omega⟩, hEq, Or.inr hgood⟩) hK hP hD hS [1, 0, 2, 3, 4, 5] (by decide) rfl [] rfl) dX7_not_220
            · have c_32674 : ¬ v_32627.toInt = 49 := by rw [ka_eq', show ((49 : Int32)).toInt = 49 from by decide] at c_32674; exact c_32674
              refine lv_aload_n hx hb dX7_not_197 rfl (lv_at hl 1 rfl) ?_
              refine ka_EV (n := 0) (wr := [(m18, .inl (k0, 60, .inl fb)), (m19, .inl (k1, 60, .inl fl)), (m20, .inl (k2, 60, .inl fr_)), (m21, .inl (k3, 60, .inl fs)), (m0, .inl (k6, 80, .inl ft))]) C (ck_X7_wrong_412 l D F a0 m0 y1 m2 m3 m4 m5 m6 m7 m8 y9 y10 y11 y12 y13 y14 y15 m16 m17 m18 m19 m20 m21 y22 v_32624 y24 y25 y26 y27 ⟨by omega, by omega⟩ ⟨by omega, by omega⟩ ⟨by omega, by omega⟩ ⟨by omega, by omega⟩ ⟨by omega, by omega⟩ ⟨by omega, by omega⟩ ⟨by omega, by omega⟩ ⟨by omega, by omega⟩ ⟨by omega, by omega⟩ ⟨by omega, by omega⟩) gX7_not_X7_wrong rfl (by decide +kernel) ⟨show 0 + 1 ≤ kp_fN a d by simp only [kp_fN, kp_fR]; omega, show 8 + (1 + 11) + 0 ≤ 25 * kp_fN a d by simp only [kp_fN, kp_fR]; omega⟩ hK hP hD hS hA hE hN [4] rfl (by decide) [0, 1, 2, 3, 5] rfl (by decide) (by decide) [] rfl (ci := 7) rfl rfl 4 rfl rfl hl.1 (rest := []) rfl (Nat.le_of_ble_eq_true rfl) dX7_not_198 ⟨Nat.le_of_ble_eq_true rfl, Nat.le_of_ble_eq_true rfl⟩ (fun u H locs hq hP hD hK hS => ?_)
              have hP : va_P D vwCl [(m18, .inl (k0, 60, .inl fb)), (m19, .inl (k1, 60, .inl fl)), (m20, .inl (k2, 60, .inl fr_)), (m21, .inl (k3, 60, .inl fs)), (m0, .inl (k6, 80, .inl ft)), (a0, .inr (7, [.ref m0, .int y1, .ref m2, .ref m3, .ref m4, .ref m5, .ref m6, .ref m7, .ref m8, .int y9, .int y10, .int y11, .int y12, .int y13, .int y14, .int y15, .ref m16, .ref m17, .ref m18, .ref m19, .ref m20, .ref m21, .int y22, .int v_32624, .int y24, .int y25, .int y26, .int 1]))] H := hP
              have hD : va_D A [(m18, .inl (k0, 60, .inl fb)), (m19, .inl (k1, 60, .inl fl)), (m20, .inl (k2, 60, .inl fr_)), (m21, .inl (k3, 60, .inl fs)), (m0, .inl (k6, 80, .inl ft)), (a0, .inr (7, [.ref m0, .int y1, .ref m2, .ref m3, .ref m4, .ref m5, .ref m6, .ref m7, .ref m8, .int y9, .int y10, .int y11, .int y12, .int y13, .int y14, .int y15, .ref m16, .ref m17, .ref m18, .ref m19, .ref m20, .ref m21, .int y22, .int v_32624, .int y24, .int y25, .int y26, .int 1]))] := hD
              have hK : va_K D vwCl [(k6, .byte), (k0, .int), (k1, .int), (k2, .int), (k3, .int)] s := by simpa using hK
              refine ka_stk (w := [.int 0]) rfl ?_
              exact ka_rEi C hr hlk (Nat.le_of_ble_eq_true rfl) (Nat.le_of_ble_eq_true rfl) hS (ka_qE (y22, v_32624, y25, 1, fb, fl, fr_, fs, 0) rfl (show kp_post 4 d y22.toInt y23.toInt y24.toInt fb fl fr_ ((y22 : Int32)).toInt ((v_32624 : Int32)).toInt ((y25 : Int32)).toInt ((1 : Int32)).toInt ((0 : Int32)).toInt fb fl fr_ from ⟨⟨by omega, by omega, by omega, by omega⟩, hEq, Or.inl ⟨by decide, by omega, by omega⟩⟩) hK hP hD hS [5, 4, 0, 1, 2, 3] (by decide) rfl [] rfl) dX7_not_201
      · have c_32629 : v_32627.toInt = 40 := by rw [ka_eq', show ((40 : Int32)).toInt = 40 from by decide] at c_32629; exact c_32629
        refine lv_aload_n hx hb dX7_not_91 rfl (lv_at hl 1 rfl) ?_
        refine ka_get C lqp_423 rfl hK hP 4 rfl 25 (by decide) lqp_427 rfl dX7_not_92 ?_
        refine lv_bipush (v := 8) hx hb dX7_not_95 (by decide) ?_
        refine lv_icmp_ne (tgt := 105) hx hb dX7_not_97 (by decide) (fun c_32683 => ?_) (fun c_32683 => ?_)
        · have c_32683 : ¬ y25.toInt = 8 := by rw [ka_eq', show ((8 : Int32)).toInt = 8 from by decide] at c_32683; exact c_32683
          refine lv_aload_n hx hb dX7_not_105 rfl (lv_at hl 1 rfl) ?_
          refine lv_dup hx hb dX7_not_106 rfl ?_
          refine ka_get C lqp_423 rfl hK hP 4 rfl 23 (by decide) lqp_424 rfl dX7_not_107 ?_
          refine lv_iconst (v := 1) hx hb dX7_not_110 (by decide) ?_
          refine lv_iadd hx hb dX7_not_111 ?_
          refine lv_topi (fun v_32684 ev_32684 => ?_)
          have fv_32684 : v_32684.toInt = v_32624.toInt + 1 := by rw [ev_32684]; exact ka_add (x := v_32624.toInt) (y := 1) rfl (by decide) (by omega) (by omega)
          refine ka_put C lqp_423 tyX7 tyX7_ok nmX7 rfl hK hP hD hS 4 rfl 23 (by decide) lqp_424 rfl rfl rfl (Nat.le_of_ble_eq_true rfl) dX7_not_112 (fun H locs hP hD hS => ?_)
          have hP : va_P D vwCl [(m18, .inl (k0, 60, .inl fb)), (m19, .inl (k1, 60, .inl fl)), (m20, .inl (k2, 60, .inl fr_)), (m21, .inl (k3, 60, .inl fs)), (a0, .inr (7, [.ref m0, .int y1, .ref m2, .ref m3, .ref m4, .ref m5, .ref m6, .ref m7, .ref m8, .int y9, .int y10, .int y11, .int y12, .int y13, .int y14, .int y15, .ref m16, .ref m17, .ref m18, .ref m19, .ref m20, .ref m21, .int y22, .int v_32684, .int y24, .int y25, .int y26, .int y27])), (m0, .inl (k6, 80, .inl ft))] H := hP
          have hD : va_D A [(m18, .inl (k0, 60, .inl fb)), (m19, .inl (k1, 60, .inl fl)), (m20, .inl (k2, 60, .inl fr_)), (m21, .inl (k3, 60, .inl fs)), (a0, .inr (7, [.ref m0, .int y1, .ref m2, .ref m3, .ref m4, .ref m5, .ref m6, .ref m7, .ref m8, .int y9, .int y10, .int y11, .int y12, .int y13, .int y14, .int y15, .ref m16, .ref m17, .ref m18, .ref m19, .ref m20, .ref m21, .int y22, .int v_32684, .int y24, .int y25, .int y26, .int y27])), (m0, .inl (k6, 80, .inl ft))] := hD
          refine lv_aload_n hx hb dX7_not_115 rfl (lv_at hl 1 rfl) ?_
          refine lv_dup hx hb dX7_not_116 rfl ?_
          refine ka_get C lqp_423 rfl hK hP 4 rfl 25 (by decide) lqp_427 rfl dX7_not_117 ?_
          refine lv_iconst (v := 1) hx hb dX7_not_120 (by decide) ?_
          refine lv_iadd hx hb dX7_not_121 ?_
          refine lv_topi (fun v_32685 ev_32685 => ?_)
          have fv_32685 : v_32685.toInt = y25.toInt + 1 := by rw [ev_32685]; exact ka_add (x := y25.toInt) (y := 1) rfl (by decide) (by omega) (by omega)
          refine ka_put C lqp_423 tyX7 tyX7_ok nmX7 rfl hK hP hD hS 4 rfl 25 (by decide) lqp_427 rfl rfl rfl (Nat.le_of_ble_eq_true rfl) dX7_not_122 (fun H locs hP hD hS => ?_)
          have hP : va_P D vwCl [(m18, .inl (k0, 60, .inl fb)), (m19, .inl (k1, 60, .inl fl)), (m20, .inl (k2, 60, .inl fr_)), (m21, .inl (k3, 60, .inl fs)), (a0, .inr (7, [.ref m0, .int y1, .ref m2, .ref m3, .ref m4, .ref m5, .ref m6, .ref m7, .ref m8, .int y9, .int y10, .int y11, .int y12, .int y13, .int y14, .int y15, .ref m16, .ref m17, .ref m18, .ref m19, .ref m20, .ref m21, .int y22, .int v_32684, .int y24, .int v_32685, .int y26, .int y27])), (m0, .inl (k6, 80, .inl ft))] H := hP
          have hD : va_D A [(m18, .inl (k0, 60, .inl fb)), (m19, .inl (k1, 60, .inl fl)), (m20, .inl (k2, 60, .inl fr_)), (m21, .inl (k3, 60, .inl fs)), (a0, .inr (7, [.ref m0, .int y1, .ref m2, .ref m3, .ref m4, .ref m5, .ref m6, .ref m7, .ref m8, .int y9, .int y10, .int y11, .int y12, .int y13, .int y14, .int y15, .ref m16, .ref m17, .ref m18, .ref m19, .ref m20, .ref m21, .int y22, .int v_32684, .int y24, .int v_32685, .int y26, .int y27])), (m0, .inl (k6, 80, .inl ft))] := hD
          refine lv_aload_n hx hb dX7_not_125 rfl (lv_at hl 1 rfl) ?_
          refine lv_iconst (v := 1) hx hb dX7_not_126 (by decide) ?_
          refine ka_EV (n := 1) (wr := []) C ((hcR (by omega)) l D F a0 m0 y1 m2 m3 m4 m5 m6 m7 m8 y9 y10 y11 y12 y13 y14 y15 m16 m17 m18 m19 m20 m21 y22 v_32684 y24 v_32685 y26 y27 k6 k0 k1 k2 k3 ft fb fl fr_ fs 1 ⟨by omega, by omega⟩ ⟨by omega, by omega⟩ ⟨by omega, by omega⟩ ⟨by omega, by omega⟩ ⟨by omega, by omega⟩ ⟨by omega, by omega⟩ ⟨by omega, by omega⟩ ⟨by omega, by omega⟩ ⟨by omega, by omega⟩ ⟨by omega, by omega⟩ hft ⟨by omega, by omega⟩ (by omega) (by omega) (by decide)) gX7_not_X7_row rfl (by decide +kernel) ⟨show (kp_fR 1 (d + 1)) + 1 ≤ kp_fN a d by simp only [kp_fN, kp_fR]; omega, show 8 + (5 + 11) + 25 * (kp_fR 1 (d + 1)) ≤ 25 * kp_fN a d by simp only [kp_fN, kp_fR]; omega⟩ hK hP hD hS hA hE hN [4, 5, 0, 1, 2, 3] rfl (by decide) [] rfl (by decide) (by decide) [0, 1, 2, 3, 4] rfl (ci := 7) rfl rfl 4 rfl rfl hl.1 (rest := []) rfl (Nat.le_of_ble_eq_true rfl) dX7_not_127 ⟨Nat.le_of_ble_eq_true rfl, Nat.le_of_ble_eq_true rfl⟩ (fun u H locs hq hP hD hK hS => ?_)
          obtain ⟨v_32686, v_32687, v_32688, v_32689, g_32691, g_32692, g_32693, g_32694, v_32690⟩ := u
          have hq : kp_post ((1 : Nat) : Int) ((d + 1 : Nat) : Int) y22.toInt v_32684.toInt y24.toInt fb fl fr_ v_32686.toInt v_32687.toInt v_32688.toInt v_32689.toInt v_32690.toInt g_32691 g_32692 g_32693 := hq
          obtain ⟨h1q_32695, h2q_32695, h3q_32695⟩ := hq
          have rv_32686 := ka_rng v_32686
          have rv_32687 := ka_rng v_32687
          have rv_32688 := ka_rng v_32688
          have rv_32689 := ka_rng v_32689
          have rv_32690 := ka_rng v_32690
          have hP : va_P D vwCl [(a0, .inr (7, [.ref m0, .int y1, .ref m2, .ref m3, .ref m4, .ref m5, .ref m6, .ref m7, .ref m8, .int y9, .int y10, .int y11, .int y12, .int y13, .int y14, .int y15, .ref m16, .ref m17, .ref m18, .ref m19, .ref m20, .ref m21, .int v_32686, .int v_32687, .int y24, .int v_32688, .int y26, .int v_32689])), (m0, .inl (k6, 80, .inl ft)), (m18, .inl (k0, 60, .inl g_32691)), (m19, .inl (k1, 60, .inl g_32692)), (m20, .inl (k2, 60, .inl g_32693)), (m21, .inl (k3, 60, .inl g_32694))] H := hP
          have hD : va_D A [(a0, .inr (7, [.ref m0, .int y1, .ref m2, .ref m3, .ref m4, .ref m5, .ref m6, .ref m7, .ref m8, .int y9, .int y10, .int y11, .int y12, .int y13, .int y14, .int y15, .ref m16, .ref m17, .ref m18, .ref m19, .ref m20, .ref m21, .int v_32686, .int v_32687, .int y24, .int v_32688, .int y26, .int v_32689])), (m0, .inl (k6, 80, .inl ft)), (m18, .inl (k0, 60, .inl g_32691)), (m19, .inl (k1, 60, .inl g_32692)), (m20, .inl (k2, 60, .inl g_32693)), (m21, .inl (k3, 60, .inl g_32694))] := hD
          have hK : va_K D vwCl [(k6, .byte), (k0, .int), (k1, .int), (k2, .int), (k3, .int)] s := by simpa using hK
          refine ka_stk (w := [.int v_32690]) rfl ?_
          have hEq : kt_eq y22.toInt.toNat fb fl fr_ g_32691 g_32692 g_32693 := kt_eq_tr hEq (by omega) h2q_32695
          rcases h3q_32695 with ⟨hwq_32695, hd1q_32695, hd2q_32695⟩ | ⟨hwq_32695, hdq_32695, k_32696, wk_32696, ek_32696, lk_32696, okk_32696, sk_32696⟩
          · skip
            refine lv_istore_n (lv' := [(3, .int v_32690), (2, .int v_32627), (0, .ref a0), (1, .int x1)]) hx hb dX7_not_130 rfl hl (by decide) rfl (fun ls hl => ?_)
            refine lv_aload_n hx hb dX7_not_131 rfl (lv_at hl 2 rfl) ?_
            refine ka_get C lqp_423 rfl hK hP 0 rfl 27 (by decide) lqp_428 rfl dX7_not_132 ?_
            refine lv_if_ne (tgt := 147) hx hb dX7_not_135 (by decide) (fun _ => ?_) (fun c_ => absurd c_ (show ¬ v_32689 = 0 from by rw [ka_eq', show ((0 : Int32)).toInt = 0 from by decide]; omega))
            refine lv_aload_n hx hb dX7_not_147 rfl (lv_at hl 2 rfl) ?_
            refine ka_EV (n := 0) (wr := [(m0, .inl (k6, 80, .inl ft)), (m18, .inl (k0, 60, .inl g_32691)), (m19, .inl (k1, 60, .inl g_32692)), (m20, .inl (k2, 60, .inl g_32693)), (m21, .inl (k3, 60, .inl g_32694))]) C (ck_X7_wrong_412 l D F a0 m0 y1 m2 m3 m4 m5 m6 m7 m8 y9 y10 y11 y12 y13 y14 y15 m16 m17 m18 m19 m20 m21 v_32686 v_32687 y24 v_32688 y26 v_32689 ⟨by omega, by omega⟩ ⟨by omega, by omega⟩ ⟨by omega, by omega⟩ ⟨by omega, by omega⟩ ⟨by omega, by omega⟩ ⟨by omega, by omega⟩ ⟨by omega, by omega⟩ ⟨by omega, by omega⟩ ⟨by omega, by omega⟩ ⟨by omega, by omega⟩) gX7_not_X7_wrong rfl (by decide +kernel) ⟨show 0 + 1 ≤ kp_fN a d by simp only [kp_fN, kp_fR]; omega, show 8 + (1 + 11) + 0 ≤ 25 * kp_fN a d by simp only [kp_fN, kp_fR]; omega⟩ hK hP hD hS hA hE hN [0] rfl (by decide) [1, 2, 3, 4, 5] rfl (by decide) (by decide) [] rfl (ci := 7) rfl rfl 0 rfl rfl hl.1 (rest := []) rfl (Nat.le_of_ble_eq_true rfl) dX7_not_148 ⟨Nat.le_of_ble_eq_true rfl, Nat.le_of_ble_eq_true rfl⟩ (fun u H locs hq hP hD hK hS => ?_)
            have hP : va_P D vwCl [(m0, .inl (k6, 80, .inl ft)), (m18, .inl (k0, 60, .inl g_32691)), (m19, .inl (k1, 60, .inl g_32692)), (m20, .inl (k2, 60, .inl g_32693)), (m21, .inl (k3, 60, .inl g_32694)), (a0, .inr (7, [.ref m0, .int y1, .ref m2, .ref m3, .ref m4, .ref m5, .ref m6, .ref m7, .ref m8, .int y9, .int y10, .int y11, .int y12, .int y13, .int y14, .int y15, .ref m16, .ref m17, .ref m18, .ref m19, .ref m20, .ref m21, .int v_32686, .int v_32687, .int y24, .int v_32688, .int y26, .int 1]))] H := hP
            have hD : va_D A [(m0, .inl (k6, 80, .inl ft)), (m18, .inl (k0, 60, .inl g_32691)), (m19, .inl (k1, 60, .inl g_32692)), (m20, .inl (k2, 60, .inl g_32693)), (m21, .inl (k3, 60, .inl g_32694)), (a0, .inr (7, [.ref m0, .int y1, .ref m2, .ref m3, .ref m4, .ref m5, .ref m6, .ref m7, .ref m8, .int y9, .int y10, .int y11, .int y12, .int y13, .int y14, .int y15, .ref m16, .ref m17, .ref m18, .ref m19, .ref m20, .ref m21, .int v_32686, .int v_32687, .int y24, .int v_32688, .int y26, .int 1]))] := hD
            have hK : va_K D vwCl [(k6, .byte), (k0, .int), (k1, .int), (k2, .int), (k3, .int)] s := by simpa using hK
            refine ka_stk (w := [.int 0]) rfl ?_
            exact ka_rEi C hr hlk (Nat.le_of_ble_eq_true rfl) (Nat.le_of_ble_eq_true rfl) hS (ka_qE (v_32686, v_32687, v_32688, 1, g_32691, g_32692, g_32693, g_32694, 0) rfl (show kp_post 4 d y22.toInt y23.toInt y24.toInt fb fl fr_ ((v_32686 : Int32)).toInt ((v_32687 : Int32)).toInt ((v_32688 : Int32)).toInt ((1 : Int32)).toInt ((0 : Int32)).toInt g_32691 g_32692 g_32693 from ⟨⟨by omega, by omega, by omega, by omega⟩, hEq, Or.inl ⟨by decide, by omega, by omega⟩⟩) hK hP hD hS [5, 0, 1, 2, 3, 4] (by decide) rfl [] rfl) dX7_not_151
          · skip
            refine lv_istore_n (lv' := [(3, .int v_32690), (2, .int v_32627), (0, .ref a0), (1, .int x1)]) hx hb dX7_not_130 rfl hl (by decide) rfl (fun ls hl => ?_)
            refine lv_aload_n hx hb dX7_not_131 rfl (lv_at hl 2 rfl) ?_
            refine ka_get C lqp_423 rfl hK hP 0 rfl 27 (by decide) lqp_428 rfl dX7_not_132 ?_
            refine lv_if_ne (tgt := 147) hx hb dX7_not_135 (by decide) (fun c_ => absurd (show v_32689 = 0 from by rw [ka_eq', show ((0 : Int32)).toInt = 0 from by decide]; omega) c_) (fun _ => ?_)
            refine lv_aload_n hx hb dX7_not_138 rfl (lv_at hl 2 rfl) ?_
            refine lv_bipush (v := 41) hx hb dX7_not_139 (by decide) ?_
            refine ka_EV (n := 1) (wr := [(m18, .inl (k0, 60, .inl g_32691)), (m19, .inl (k1, 60, .inl g_32692)), (m20, .inl (k2, 60, .inl g_32693)), (m21, .inl (k3, 60, .inl g_32694))]) C (ck_X7_is_411 l D F a0 m0 y1 m2 m3 m4 m5 m6 m7 m8 y9 y10 y11 y12 y13 y14 y15 m16 m17 m18 m19 m20 m21 v_32686 v_32687 y24 v_32688 y26 v_32689 k6 ft ⟨by omega, by omega⟩ ⟨by omega, by omega⟩ ⟨by omega, by omega⟩ ⟨by omega, by omega⟩ ⟨by omega, by omega⟩ ⟨by omega, by omega⟩ ⟨by omega, by omega⟩ ⟨by omega, by omega⟩ ⟨by omega, by omega⟩ ⟨by omega, by omega⟩ hft (by omega)) gX7_not_X7_is rfl (by decide +kernel) ⟨show 1 + 1 ≤ kp_fN a d by simp only [kp_fN, kp_fR]; omega, show 8 + (2 + 11) + 20 ≤ 25 * kp_fN a d by simp only [kp_fN, kp_fR]; omega⟩ hK hP hD hS hA hE hN [0, 1] rfl (by decide) [2, 3, 4, 5] rfl (by decide) (by decide) [0] rfl (ci := 7) rfl rfl 0 rfl rfl hl.1 (rest := []) rfl (Nat.le_of_ble_eq_true rfl) dX7_not_141 ⟨Nat.le_of_ble_eq_true rfl, Nat.le_of_ble_eq_true rfl⟩ (fun u H locs hq hP hD hK hS => ?_)
            obtain ⟨v_32697, v_32698⟩ := u
            have hq : (0 ≤ v_32697.toInt ∧ v_32697.toInt ≤ 60) ∧ (0 ≤ v_32698.toInt ∧ v_32698.toInt ≤ 1) ∧ (v_32687.toInt ≤ v_32697.toInt ∧ v_32697.toInt ≤ y24.toInt ∧ (v_32698.toInt = 0 ∨ v_32697.toInt < y24.toInt)) := hq
            obtain ⟨hv_32697, hv_32698, hzz_32699⟩ := hq
            have rv_32697 := ka_rng v_32697
            have rv_32698 := ka_rng v_32698
            have hP : va_P D vwCl [(m18, .inl (k0, 60, .inl g_32691)), (m19, .inl (k1, 60, .inl g_32692)), (m20, .inl (k2, 60, .inl g_32693)), (m21, .inl (k3, 60, .inl g_32694)), (a0, .inr (7, [.ref m0, .int y1, .ref m2, .ref m3, .ref m4, .ref m5, .ref m6, .ref m7, .ref m8, .int y9, .int y10, .int y11, .int y12, .int y13, .int y14, .int y15, .ref m16, .ref m17, .ref m18, .ref m19, .ref m20, .ref m21, .int v_32686, .int v_32697, .int y24, .int v_32688, .int y26, .int v_32689])), (m0, .inl (k6, 80, .inl ft))] H := hP
            have hD : va_D A [(m18, .inl (k0, 60, .inl g_32691)), (m19, .inl (k1, 60, .inl g_32692)), (m20, .inl (k2, 60, .inl g_32693)), (m21, .inl (k3, 60, .inl g_32694)), (a0, .inr (7, [.ref m0, .int y1, .ref m2, .ref m3, .ref m4, .ref m5, .ref m6, .ref m7, .ref m8, .int y9, .int y10, .int y11, .int y12, .int y13, .int y14, .int y15, .ref m16, .ref m17, .ref m18, .ref m19, .ref m20, .ref m21, .int v_32686, .int v_32697, .int y24, .int v_32688, .int y26, .int v_32689])), (m0, .inl (k6, 80, .inl ft))] := hD
            have hK : va_K D vwCl [(k6, .byte), (k0, .int), (k1, .int), (k2, .int), (k3, .int)] s := by simpa using hK
            refine ka_stk (w := [.int v_32698]) rfl ?_
            refine lv_if_ne (tgt := 152) hx hb dX7_not_144 (by decide) (fun c_32700 => ?_) (fun c_32700 => ?_)
            · have c_32700 : ¬ v_32698.toInt = 0 := by rw [ka_eq', show ((0 : Int32)).toInt = 0 from by decide] at c_32700; exact c_32700
              refine lv_aload_n hx hb dX7_not_152 rfl (lv_at hl 2 rfl) ?_
              refine lv_dup hx hb dX7_not_153 rfl ?_
              refine ka_get C lqp_423 rfl hK hP 4 rfl 23 (by decide) lqp_424 rfl dX7_not_154 ?_
              refine lv_iconst (v := 1) hx hb dX7_not_157 (by decide) ?_
              refine lv_iadd hx hb dX7_not_158 ?_
              refine lv_topi (fun v_32701 ev_32701 => ?_)
              have fv_32701 : v_32701.toInt = v_32697.toInt + 1 := by rw [ev_32701]; exact ka_add (x := v_32697.toInt) (y := 1) rfl (by decide) (by omega) (by omega)
              refine ka_put C lqp_423 tyX7 tyX7_ok nmX7 rfl hK hP hD hS 4 rfl 23 (by decide) lqp_424 rfl rfl rfl (Nat.le_of_ble_eq_true rfl) dX7_not_159 (fun H locs hP hD hS => ?_)
              have hP : va_P D vwCl [(m18, .inl (k0, 60, .inl g_32691)), (m19, .inl (k1, 60, .inl g_32692)), (m20, .inl (k2, 60, .inl g_32693)), (m21, .inl (k3, 60, .inl g_32694)), (a0, .inr (7, [.ref m0, .int y1, .ref m2, .ref m3, .ref m4, .ref m5, .ref m6, .ref m7, .ref m8, .int y9, .int y10, .int y11, .int y12, .int y13, .int y14, .int y15, .ref m16, .ref m17, .ref m18, .ref m19, .ref m20, .ref m21, .int v_32686, .int v_32701, .int y24, .int v_32688, .int y26, .int v_32689])), (m0, .inl (k6, 80, .inl ft))] H := hP
              have hD : va_D A [(m18, .inl (k0, 60, .inl g_32691)), (m19, .inl (k1, 60, .inl g_32692)), (m20, .inl (k2, 60, .inl g_32693)), (m21, .inl (k3, 60, .inl g_32694)), (a0, .inr (7, [.ref m0, .int y1, .ref m2, .ref m3, .ref m4, .ref m5, .ref m6, .ref m7, .ref m8, .int y9, .int y10, .int y11, .int y12, .int y13, .int y14, .int y15, .ref m16, .ref m17, .ref m18, .ref m19, .ref m20, .ref m21, .int v_32686, .int v_32701, .int y24, .int v_32688, .int y26, .int v_32689])), (m0, .inl (k6, 80, .inl ft))] := hD
              refine lv_aload_n hx hb dX7_not_162 rfl (lv_at hl 2 rfl) ?_
              refine lv_dup hx hb dX7_not_163 rfl ?_
              refine ka_get C lqp_423 rfl hK hP 4 rfl 25 (by decide) lqp_427 rfl dX7_not_164 ?_
              refine lv_iconst (v := 1) hx hb dX7_not_167 (by decide) ?_
              refine lv_isub hx hb dX7_not_168 ?_
              refine lv_topi (fun v_32702 ev_32702 => ?_)
              have fv_32702 : v_32702.toInt = v_32688.toInt - 1 := by rw [ev_32702]; exact ka_sub (x := v_32688.toInt) (y := 1) rfl (by decide) (by omega) (by omega)
              refine ka_put C lqp_423 tyX7 tyX7_ok nmX7 rfl hK hP hD hS 4 rfl 25 (by decide) lqp_427 rfl rfl rfl (Nat.le_of_ble_eq_true rfl) dX7_not_169 (fun H locs hP hD hS => ?_)
              have hP : va_P D vwCl [(m18, .inl (k0, 60, .inl g_32691)), (m19, .inl (k1, 60, .inl g_32692)), (m20, .inl (k2, 60, .inl g_32693)), (m21, .inl (k3, 60, .inl g_32694)), (a0, .inr (7, [.ref m0, .int y1, .ref m2, .ref m3, .ref m4, .ref m5, .ref m6, .ref m7, .ref m8, .int y9, .int y10, .int y11, .int y12, .int y13, .int y14, .int y15, .ref m16, .ref m17, .ref m18, .ref m19, .ref m20, .ref m21, .int v_32686, .int v_32701, .int y24, .int v_32702, .int y26, .int v_32689])), (m0, .inl (k6, 80, .inl ft))] H := hP
              have hD : va_D A [(m18, .inl (k0, 60, .inl g_32691)), (m19, .inl (k1, 60, .inl g_32692)), (m20, .inl (k2, 60, .inl g_32693)), (m21, .inl (k3, 60, .inl g_32694)), (a0, .inr (7, [.ref m0, .int y1, .ref m2, .ref m3, .ref m4, .ref m5, .ref m6, .ref m7, .ref m8, .int y9, .int y10, .int y11, .int y12, .int y13, .int y14, .int y15, .ref m16, .ref m17, .ref m18, .ref m19, .ref m20, .ref m21, .int v_32686, .int v_32701, .int y24, .int v_32702, .int y26, .int v_32689])), (m0, .inl (k6, 80, .inl ft))] := hD
              refine lv_iload_n hx hb dX7_not_172 rfl (lv_at hl 0 rfl) ?_
              have hb2 := kp_br_2 g_32691 k_32696 4
              have hgood : kp_good 4 d y23.toInt ((v_32686 : Int32)).toInt ((v_32701 : Int32)).toInt ((v_32702 : Int32)).toInt ((v_32689 : Int32)).toInt ((v_32690 : Int32)).toInt g_32691 g_32692 g_32693 := ⟨by omega, by omega, k_32696, wk_32696, by omega, by omega, okk_32696, by omega⟩
              exact ka_rEi C hr hlk (Nat.le_of_ble_eq_true rfl) (Nat.le_of_ble_eq_true rfl) hS (ka_qE (v_32686, v_32701, v_32702, v_32689, g_32691, g_32692, g_32693, g_32694, v_32690) rfl (show kp_post 4 d y22.toInt y23.toInt y24.toInt fb fl fr_ ((v_32686 : Int32)).toInt ((v_32701 : Int32)).toInt ((v_32702 : Int32)).toInt ((v_32689 : Int32)).toInt ((v_32690 : Int32)).toInt g_32691 g_32692 g_32693 from ⟨⟨by omega, by omega, by omega, by omega⟩, hEq, Or.inr hgood⟩) hK hP hD hS [4, 5, 0, 1, 2, 3] (by decide) rfl [] rfl) dX7_not_173
            · have c_32700 : v_32698.toInt = 0 := by rw [ka_eq', show ((0 : Int32)).toInt = 0 from by decide] at c_32700; exact c_32700
              refine lv_aload_n hx hb dX7_not_147 rfl (lv_at hl 2 rfl) ?_
              refine ka_EV (n := 0) (wr := [(m18, .inl (k0, 60, .inl g_32691)), (m19, .inl (k1, 60, .inl g_32692)), (m20, .inl (k2, 60, .inl g_32693)), (m21, .inl (k3, 60, .inl g_32694)), (m0, .inl (k6, 80, .inl ft))]) C (ck_X7_wrong_412 l D F a0 m0 y1 m2 m3 m4 m5 m6 m7 m8 y9 y10 y11 y12 y13 y14 y15 m16 m17 m18 m19 m20 m21 v_32686 v_32697 y24 v_32688 y26 v_32689 ⟨by omega, by omega⟩ ⟨by omega, by omega⟩ ⟨by omega, by omega⟩ ⟨by omega, by omega⟩ ⟨by omega, by omega⟩ ⟨by omega, by omega⟩ ⟨by omega, by omega⟩ ⟨by omega, by omega⟩ ⟨by omega, by omega⟩ ⟨by omega, by omega⟩) gX7_not_X7_wrong rfl (by decide +kernel) ⟨show 0 + 1 ≤ kp_fN a d by simp only [kp_fN, kp_fR]; omega, show 8 + (1 + 11) + 0 ≤ 25 * kp_fN a d by simp only [kp_fN, kp_fR]; omega⟩ hK hP hD hS hA hE hN [4] rfl (by decide) [0, 1, 2, 3, 5] rfl (by decide) (by decide) [] rfl (ci := 7) rfl rfl 4 rfl rfl hl.1 (rest := []) rfl (Nat.le_of_ble_eq_true rfl) dX7_not_148 ⟨Nat.le_of_ble_eq_true rfl, Nat.le_of_ble_eq_true rfl⟩ (fun u H locs hq hP hD hK hS => ?_)
              have hP : va_P D vwCl [(m18, .inl (k0, 60, .inl g_32691)), (m19, .inl (k1, 60, .inl g_32692)), (m20, .inl (k2, 60, .inl g_32693)), (m21, .inl (k3, 60, .inl g_32694)), (m0, .inl (k6, 80, .inl ft)), (a0, .inr (7, [.ref m0, .int y1, .ref m2, .ref m3, .ref m4, .ref m5, .ref m6, .ref m7, .ref m8, .int y9, .int y10, .int y11, .int y12, .int y13, .int y14, .int y15, .ref m16, .ref m17, .ref m18, .ref m19, .ref m20, .ref m21, .int v_32686, .int v_32697, .int y24, .int v_32688, .int y26, .int 1]))] H := hP
              have hD : va_D A [(m18, .inl (k0, 60, .inl g_32691)), (m19, .inl (k1, 60, .inl g_32692)), (m20, .inl (k2, 60, .inl g_32693)), (m21, .inl (k3, 60, .inl g_32694)), (m0, .inl (k6, 80, .inl ft)), (a0, .inr (7, [.ref m0, .int y1, .ref m2, .ref m3, .ref m4, .ref m5, .ref m6, .ref m7, .ref m8, .int y9, .int y10, .int y11, .int y12, .int y13, .int y14, .int y15, .ref m16, .ref m17, .ref m18, .ref m19, .ref m20, .ref m21, .int v_32686, .int v_32697, .int y24, .int v_32688, .int y26, .int 1]))] := hD
              have hK : va_K D vwCl [(k6, .byte), (k0, .int), (k1, .int), (k2, .int), (k3, .int)] s := by simpa using hK
              refine ka_stk (w := [.int 0]) rfl ?_
              exact ka_rEi C hr hlk (Nat.le_of_ble_eq_true rfl) (Nat.le_of_ble_eq_true rfl) hS (ka_qE (v_32686, v_32697, v_32688, 1, g_32691, g_32692, g_32693, g_32694, 0) rfl (show kp_post 4 d y22.toInt y23.toInt y24.toInt fb fl fr_ ((v_32686 : Int32)).toInt ((v_32697 : Int32)).toInt ((v_32688 : Int32)).toInt ((1 : Int32)).toInt ((0 : Int32)).toInt g_32691 g_32692 g_32693 from ⟨⟨by omega, by omega, by omega, by omega⟩, hEq, Or.inl ⟨by decide, by omega, by omega⟩⟩) hK hP hD hS [5, 4, 0, 1, 2, 3] (by decide) rfl [] rfl) dX7_not_151
        · have c_32683 : y25.toInt = 8 := by rw [ka_eq', show ((8 : Int32)).toInt = 8 from by decide] at c_32683; exact c_32683
          refine lv_aload_n hx hb dX7_not_100 rfl (lv_at hl 1 rfl) ?_
          refine ka_EV (n := 0) (wr := [(m18, .inl (k0, 60, .inl fb)), (m19, .inl (k1, 60, .inl fl)), (m20, .inl (k2, 60, .inl fr_)), (m21, .inl (k3, 60, .inl fs)), (m0, .inl (k6, 80, .inl ft))]) C (ck_X7_wrong_412 l D F a0 m0 y1 m2 m3 m4 m5 m6 m7 m8 y9 y10 y11 y12 y13 y14 y15 m16 m17 m18 m19 m20 m21 y22 v_32624 y24 y25 y26 y27 ⟨by omega, by omega⟩ ⟨by omega, by omega⟩ ⟨by omega, by omega⟩ ⟨by omega, by omega⟩ ⟨by omega, by omega⟩ ⟨by omega, by omega⟩ ⟨by omega, by omega⟩ ⟨by omega, by omega⟩ ⟨by omega, by omega⟩ ⟨by omega, by omega⟩) gX7_not_X7_wrong rfl (by decide +kernel) ⟨show 0 + 1 ≤ kp_fN a d by simp only [kp_fN, kp_fR]; omega, show 8 + (1 + 11) + 0 ≤ 25 * kp_fN a d by simp only [kp_fN, kp_fR]; omega⟩ hK hP hD hS hA hE hN [4] rfl (by decide) [0, 1, 2, 3, 5] rfl (by decide) (by decide) [] rfl (ci := 7) rfl rfl 4 rfl rfl hl.1 (rest := []) rfl (Nat.le_of_ble_eq_true rfl) dX7_not_101 ⟨Nat.le_of_ble_eq_true rfl, Nat.le_of_ble_eq_true rfl⟩ (fun u H locs hq hP hD hK hS => ?_)
          have hP : va_P D vwCl [(m18, .inl (k0, 60, .inl fb)), (m19, .inl (k1, 60, .inl fl)), (m20, .inl (k2, 60, .inl fr_)), (m21, .inl (k3, 60, .inl fs)), (m0, .inl (k6, 80, .inl ft)), (a0, .inr (7, [.ref m0, .int y1, .ref m2, .ref m3, .ref m4, .ref m5, .ref m6, .ref m7, .ref m8, .int y9, .int y10, .int y11, .int y12, .int y13, .int y14, .int y15, .ref m16, .ref m17, .ref m18, .ref m19, .ref m20, .ref m21, .int y22, .int v_32624, .int y24, .int y25, .int y26, .int 1]))] H := hP
          have hD : va_D A [(m18, .inl (k0, 60, .inl fb)), (m19, .inl (k1, 60, .inl fl)), (m20, .inl (k2, 60, .inl fr_)), (m21, .inl (k3, 60, .inl fs)), (m0, .inl (k6, 80, .inl ft)), (a0, .inr (7, [.ref m0, .int y1, .ref m2, .ref m3, .ref m4, .ref m5, .ref m6, .ref m7, .ref m8, .int y9, .int y10, .int y11, .int y12, .int y13, .int y14, .int y15, .ref m16, .ref m17, .ref m18, .ref m19, .ref m20, .ref m21, .int y22, .int v_32624, .int y24, .int y25, .int y26, .int 1]))] := hD
          have hK : va_K D vwCl [(k6, .byte), (k0, .int), (k1, .int), (k2, .int), (k3, .int)] s := by simpa using hK
          refine ka_stk (w := [.int 0]) rfl ?_
          exact ka_rEi C hr hlk (Nat.le_of_ble_eq_true rfl) (Nat.le_of_ble_eq_true rfl) hS (ka_qE (y22, v_32624, y25, 1, fb, fl, fr_, fs, 0) rfl (show kp_post 4 d y22.toInt y23.toInt y24.toInt fb fl fr_ ((y22 : Int32)).toInt ((v_32624 : Int32)).toInt ((y25 : Int32)).toInt ((1 : Int32)).toInt ((0 : Int32)).toInt fb fl fr_ from ⟨⟨by omega, by omega, by omega, by omega⟩, hEq, Or.inl ⟨by decide, by omega, by omega⟩⟩) hK hP hD hS [5, 4, 0, 1, 2, 3] (by decide) rfl [] rfl) dX7_not_104
    · have c_32628 : v_32627.toInt = 33 := by rw [ka_eq', show ((33 : Int32)).toInt = 33 from by decide] at c_32628; exact c_32628
      refine lv_iload_n hx hb dX7_not_36 rfl (lv_at hl 2 rfl) ?_
      refine lv_bipush (v := 8) hx hb dX7_not_37 (by decide) ?_
      refine lv_icmp_ne (tgt := 47) hx hb dX7_not_39 (by decide) (fun c_32703 => ?_) (fun c_32703 => ?_)
      · have c_32703 : ¬ x1.toInt = 8 := by rw [ka_eq', show ((8 : Int32)).toInt = 8 from by decide] at c_32703; exact c_32703
        refine lv_aload_n hx hb dX7_not_47 rfl (lv_at hl 1 rfl) ?_
        refine lv_dup hx hb dX7_not_48 rfl ?_
        refine ka_get C lqp_423 rfl hK hP 4 rfl 23 (by decide) lqp_424 rfl dX7_not_49 ?_
        refine lv_iconst (v := 1) hx hb dX7_not_52 (by decide) ?_
        refine lv_iadd hx hb dX7_not_53 ?_
        refine lv_topi (fun v_32704 ev_32704 => ?_)
        have fv_32704 : v_32704.toInt = v_32624.toInt + 1 := by rw [ev_32704]; exact ka_add (x := v_32624.toInt) (y := 1) rfl (by decide) (by omega) (by omega)
        refine ka_put C lqp_423 tyX7 tyX7_ok nmX7 rfl hK hP hD hS 4 rfl 23 (by decide) lqp_424 rfl rfl rfl (Nat.le_of_ble_eq_true rfl) dX7_not_54 (fun H locs hP hD hS => ?_)
        have hP : va_P D vwCl [(m18, .inl (k0, 60, .inl fb)), (m19, .inl (k1, 60, .inl fl)), (m20, .inl (k2, 60, .inl fr_)), (m21, .inl (k3, 60, .inl fs)), (a0, .inr (7, [.ref m0, .int y1, .ref m2, .ref m3, .ref m4, .ref m5, .ref m6, .ref m7, .ref m8, .int y9, .int y10, .int y11, .int y12, .int y13, .int y14, .int y15, .ref m16, .ref m17, .ref m18, .ref m19, .ref m20, .ref m21, .int y22, .int v_32704, .int y24, .int y25, .int y26, .int y27])), (m0, .inl (k6, 80, .inl ft))] H := hP
        have hD : va_D A [(m18, .inl (k0, 60, .inl fb)), (m19, .inl (k1, 60, .inl fl)), (m20, .inl (k2, 60, .inl fr_)), (m21, .inl (k3, 60, .inl fs)), (a0, .inr (7, [.ref m0, .int y1, .ref m2, .ref m3, .ref m4, .ref m5, .ref m6, .ref m7, .ref m8, .int y9, .int y10, .int y11, .int y12, .int y13, .int y14, .int y15, .ref m16, .ref m17, .ref m18, .ref m19, .ref m20, .ref m21, .int y22, .int v_32704, .int y24, .int y25, .int y26, .int y27])), (m0, .inl (k6, 80, .inl ft))] := hD
        refine lv_aload_n hx hb dX7_not_57 rfl (lv_at hl 1 rfl) ?_
        refine lv_iload_n hx hb dX7_not_58 rfl (lv_at hl 2 rfl) ?_
        refine lv_iconst (v := 1) hx hb dX7_not_59 (by decide) ?_
        refine lv_iadd hx hb dX7_not_60 ?_
        refine lv_topi (fun v_32705 ev_32705 => ?_)
        have fv_32705 : v_32705.toInt = x1.toInt + 1 := by rw [ev_32705]; exact ka_add (x := x1.toInt) (y := 1) rfl (by decide) (by omega) (by omega)
        refine ka_EV (n := 1) (wr := []) C ((hcN (by omega)) l D F a0 m0 y1 m2 m3 m4 m5 m6 m7 m8 y9 y10 y11 y12 y13 y14 y15 m16 m17 m18 m19 m20 m21 y22 v_32704 y24 y25 y26 y27 k6 k0 k1 k2 k3 ft fb fl fr_ fs v_32705 ⟨by omega, by omega⟩ ⟨by omega, by omega⟩ ⟨by omega, by omega⟩ ⟨by omega, by omega⟩ ⟨by omega, by omega⟩ ⟨by omega, by omega⟩ ⟨by omega, by omega⟩ ⟨by omega, by omega⟩ ⟨by omega, by omega⟩ ⟨by omega, by omega⟩ hft ⟨by omega, by omega⟩ (by omega) (by omega) (by omega)) gX7_not_X7_not rfl (by decide +kernel) ⟨show (kp_fN (a + 1) d) + 1 ≤ kp_fN a d by simp only [kp_fN, kp_fR]; omega, show 8 + (4 + 11) + 25 * (kp_fN (a + 1) d) ≤ 25 * kp_fN a d by simp only [kp_fN, kp_fR]; omega⟩ hK hP hD hS hA hE hN [4, 5, 0, 1, 2, 3] rfl (by decide) [] rfl (by decide) (by decide) [0, 1, 2, 3, 4] rfl (ci := 7) rfl rfl 4 rfl rfl hl.1 (rest := []) rfl (Nat.le_of_ble_eq_true rfl) dX7_not_61 ⟨Nat.le_of_ble_eq_true rfl, Nat.le_of_ble_eq_true rfl⟩ (fun u H locs hq hP hD hK hS => ?_)
        obtain ⟨v_32706, v_32707, v_32708, v_32709, g_32711, g_32712, g_32713, g_32714, v_32710⟩ := u
        have hq : kp_post 4 d y22.toInt v_32704.toInt y24.toInt fb fl fr_ v_32706.toInt v_32707.toInt v_32708.toInt v_32709.toInt v_32710.toInt g_32711 g_32712 g_32713 := hq
        obtain ⟨h1q_32715, h2q_32715, h3q_32715⟩ := hq
        have rv_32706 := ka_rng v_32706
        have rv_32707 := ka_rng v_32707
        have rv_32708 := ka_rng v_32708
        have rv_32709 := ka_rng v_32709
        have rv_32710 := ka_rng v_32710
        have hP : va_P D vwCl [(a0, .inr (7, [.ref m0, .int y1, .ref m2, .ref m3, .ref m4, .ref m5, .ref m6, .ref m7, .ref m8, .int y9, .int y10, .int y11, .int y12, .int y13, .int y14, .int y15, .ref m16, .ref m17, .ref m18, .ref m19, .ref m20, .ref m21, .int v_32706, .int v_32707, .int y24, .int v_32708, .int y26, .int v_32709])), (m0, .inl (k6, 80, .inl ft)), (m18, .inl (k0, 60, .inl g_32711)), (m19, .inl (k1, 60, .inl g_32712)), (m20, .inl (k2, 60, .inl g_32713)), (m21, .inl (k3, 60, .inl g_32714))] H := hP
        have hD : va_D A [(a0, .inr (7, [.ref m0, .int y1, .ref m2, .ref m3, .ref m4, .ref m5, .ref m6, .ref m7, .ref m8, .int y9, .int y10, .int y11, .int y12, .int y13, .int y14, .int y15, .ref m16, .ref m17, .ref m18, .ref m19, .ref m20, .ref m21, .int v_32706, .int v_32707, .int y24, .int v_32708, .int y26, .int v_32709])), (m0, .inl (k6, 80, .inl ft)), (m18, .inl (k0, 60, .inl g_32711)), (m19, .inl (k1, 60, .inl g_32712)), (m20, .inl (k2, 60, .inl g_32713)), (m21, .inl (k3, 60, .inl g_32714))] := hD
        have hK : va_K D vwCl [(k6, .byte), (k0, .int), (k1, .int), (k2, .int), (k3, .int)] s := by simpa using hK
        refine ka_stk (w := [.int v_32710]) rfl ?_
        have hEq : kt_eq y22.toInt.toNat fb fl fr_ g_32711 g_32712 g_32713 := kt_eq_tr hEq (by omega) h2q_32715
        rcases h3q_32715 with ⟨hwq_32715, hd1q_32715, hd2q_32715⟩ | ⟨hwq_32715, hdq_32715, k_32716, wk_32716, ek_32716, lk_32716, okk_32716, sk_32716⟩
        · skip
          refine lv_istore_n (lv' := [(3, .int v_32710), (2, .int v_32627), (0, .ref a0), (1, .int x1)]) hx hb dX7_not_64 rfl hl (by decide) rfl (fun ls hl => ?_)
          refine lv_aload_n hx hb dX7_not_65 rfl (lv_at hl 2 rfl) ?_
          refine ka_get C lqp_423 rfl hK hP 0 rfl 27 (by decide) lqp_428 rfl dX7_not_66 ?_
          refine lv_if_eq (tgt := 76) hx hb dX7_not_69 (by decide) (fun c_ => absurd c_ (by rw [ka_eq', show ((0 : Int32)).toInt = 0 from by decide]; omega)) (fun _ => ?_)
          refine lv_iload_n hx hb dX7_not_72 rfl (lv_at hl 0 rfl) ?_
          refine lv_goto (tgt := 84) hx hb dX7_not_73 (by decide) ?_
          exact ka_rEi C hr hlk (Nat.le_of_ble_eq_true rfl) (Nat.le_of_ble_eq_true rfl) hS (ka_qE (v_32706, v_32707, v_32708, v_32709, g_32711, g_32712, g_32713, g_32714, v_32710) rfl (show kp_post 4 d y22.toInt y23.toInt y24.toInt fb fl fr_ ((v_32706 : Int32)).toInt ((v_32707 : Int32)).toInt ((v_32708 : Int32)).toInt ((v_32709 : Int32)).toInt ((v_32710 : Int32)).toInt g_32711 g_32712 g_32713 from ⟨⟨by omega, by omega, by omega, by omega⟩, hEq, Or.inl ⟨by omega, by omega, by omega⟩⟩) hK hP hD hS [0, 1, 2, 3, 4, 5] (by decide) rfl [] rfl) dX7_not_84
        · skip
          refine lv_istore_n (lv' := [(3, .int v_32710), (2, .int v_32627), (0, .ref a0), (1, .int x1)]) hx hb dX7_not_64 rfl hl (by decide) rfl (fun ls hl => ?_)
          refine lv_aload_n hx hb dX7_not_65 rfl (lv_at hl 2 rfl) ?_
          refine ka_get C lqp_423 rfl hK hP 0 rfl 27 (by decide) lqp_428 rfl dX7_not_66 ?_
          refine lv_if_eq (tgt := 76) hx hb dX7_not_69 (by decide) (fun _ => ?_) (fun c_ => absurd (by rw [ka_eq', show ((0 : Int32)).toInt = 0 from by decide]; omega) c_)
          refine lv_aload_n hx hb dX7_not_76 rfl (lv_at hl 2 rfl) ?_
          refine lv_iconst (v := 4) hx hb dX7_not_77 (by decide) ?_
          refine lv_iload_n hx hb dX7_not_78 rfl (lv_at hl 1 rfl) ?_
          refine lv_iload_n hx hb dX7_not_79 rfl (lv_at hl 0 rfl) ?_
          refine lv_iload_n hx hb dX7_not_80 rfl (lv_at hl 0 rfl) ?_
          obtain ⟨N_32719, eN_32719⟩ : ∃ z : Nat, v_32706.toInt = (z : Int) := ⟨v_32706.toInt.toNat, by omega⟩
          refine ka_EV (n := 4) (wr := [(m0, .inl (k6, 80, .inl ft))]) C (kt_node l D F a0 m0 y1 m2 m3 m4 m5 m6 m7 m8 y9 y10 y11 y12 y13 y14 y15 m16 m17 m18 m19 m20 m21 v_32706 v_32707 y24 v_32708 y26 v_32709 k0 k1 k2 k3 g_32711 g_32712 g_32713 g_32714 4 v_32627 v_32710 v_32710 ⟨by omega, by omega⟩) gX7_not_X7_node rfl (by decide +kernel) ⟨show 0 + 1 ≤ kp_fN a d by simp only [kp_fN, kp_fR]; omega, show 8 + (5 + 11) + 0 ≤ 25 * kp_fN a d by simp only [kp_fN, kp_fR]; omega⟩ hK hP hD hS hA hE hN [0, 2, 3, 4, 5] rfl (by decide) [1] rfl (by decide) (by decide) [1, 2, 3, 4] rfl (ci := 7) rfl rfl 0 rfl rfl hl.1 (rest := []) rfl (Nat.le_of_ble_eq_true rfl) dX7_not_81 ⟨Nat.le_of_ble_eq_true rfl, Nat.le_of_ble_eq_true rfl⟩ (fun u H locs hq hP hD hK hS => ?_)
          obtain ⟨v_32717, v_32718⟩ := u
          have hq : v_32717.toInt = v_32706.toInt + 1 ∧ v_32718.toInt = v_32706.toInt := hq
          obtain ⟨fv_32717, fv_32718⟩ := hq
          have hP : va_P D vwCl [(m0, .inl (k6, 80, .inl ft)), (a0, .inr (7, [.ref m0, .int y1, .ref m2, .ref m3, .ref m4, .ref m5, .ref m6, .ref m7, .ref m8, .int y9, .int y10, .int y11, .int y12, .int y13, .int y14, .int y15, .ref m16, .ref m17, .ref m18, .ref m19, .ref m20, .ref m21, .int v_32717, .int v_32707, .int y24, .int v_32708, .int y26, .int v_32709])), (m18, .inl (k0, 60, .inl (upd g_32711 (Int32.toNatClampNeg v_32706) 4))), (m19, .inl (k1, 60, .inl (upd g_32712 (Int32.toNatClampNeg v_32706) v_32710))), (m20, .inl (k2, 60, .inl (upd g_32713 (Int32.toNatClampNeg v_32706) v_32710))), (m21, .inl (k3, 60, .inl (upd g_32714 (Int32.toNatClampNeg v_32706) v_32627)))] H := hP
          have hD : va_D A [(m0, .inl (k6, 80, .inl ft)), (a0, .inr (7, [.ref m0, .int y1, .ref m2, .ref m3, .ref m4, .ref m5, .ref m6, .ref m7, .ref m8, .int y9, .int y10, .int y11, .int y12, .int y13, .int y14, .int y15, .ref m16, .ref m17, .ref m18, .ref m19, .ref m20, .ref m21, .int v_32717, .int v_32707, .int y24, .int v_32708, .int y26, .int v_32709])), (m18, .inl (k0, 60, .inl (upd g_32711 (Int32.toNatClampNeg v_32706) 4))), (m19, .inl (k1, 60, .inl (upd g_32712 (Int32.toNatClampNeg v_32706) v_32710))), (m20, .inl (k2, 60, .inl (upd g_32713 (Int32.toNatClampNeg v_32706) v_32710))), (m21, .inl (k3, 60, .inl (upd g_32714 (Int32.toNatClampNeg v_32706) v_32627)))] := hD
          have hK : va_K D vwCl [(k6, .byte), (k0, .int), (k1, .int), (k2, .int), (k3, .int)] s := by simpa using hK
          refine ka_stk (w := [.int v_32718]) rfl ?_
          rw [kp_cl eN_32719] at hP hD
          have hEq : kt_eq y22.toInt.toNat fb fl fr_ (upd g_32711 N_32719 4) (upd g_32712 N_32719 v_32710) (upd g_32713 N_32719 v_32710) := kt_eq_tr hEq (by omega) (kt_eq_upd (N := N_32719))
          have hbN : ((upd g_32711 N_32719 4) N_32719).toInt = 4 := by rw [pk_us]; decide
          have okk : kt_ok (upd g_32711 N_32719 4) (upd g_32712 N_32719 v_32710) (upd g_32713 N_32719 v_32710) k_32716 wk_32716 := kt_ok_eq (kt_eq_upd (N := N_32719)) (by omega) okk_32716
          have hok := kt_not hbN (by rw [pk_us]; exact ek_32716) (show k_32716 < N_32719 by omega) okk
          have hbk : kt_br (upd g_32711 N_32719 4) k_32716 4 = kt_br g_32711 k_32716 4 := kt_br_eq (kt_eq_upd (N := N_32719) (l := g_32712) (r := g_32713) (v := v_32710) (w := v_32710)) (by omega)
          rw [hbk] at hok
          have hbr : kt_br (upd g_32711 N_32719 4) N_32719 4 = 0 := kp_br_own (by omega)
          clear okk hbk
          generalize (upd g_32711 N_32719 4) = g_32720 at hP hD hEq hok hbr hbN
          generalize (upd g_32712 N_32719 v_32710) = g_32721 at hP hD hEq hok
          generalize (upd g_32713 N_32719 v_32710) = g_32722 at hP hD hEq hok
          generalize (upd g_32714 N_32719 v_32627) = g_32723 at hP hD
          have hgood : kp_good 4 d y23.toInt ((v_32717 : Int32)).toInt ((v_32707 : Int32)).toInt ((v_32708 : Int32)).toInt ((v_32709 : Int32)).toInt ((v_32718 : Int32)).toInt g_32720 g_32721 g_32722 := ⟨by omega, by omega, N_32719, _, by omega, by omega, hok, by omega⟩
          exact ka_rEi C hr hlk (Nat.le_of_ble_eq_true rfl) (Nat.le_of_ble_eq_true rfl) hS (ka_qE (v_32717, v_32707, v_32708, v_32709, g_32720, g_32721, g_32722, g_32723, v_32718) rfl (show kp_post 4 d y22.toInt y23.toInt y24.toInt fb fl fr_ ((v_32717 : Int32)).toInt ((v_32707 : Int32)).toInt ((v_32708 : Int32)).toInt ((v_32709 : Int32)).toInt ((v_32718 : Int32)).toInt g_32720 g_32721 g_32722 from ⟨⟨by omega, by omega, by omega, by omega⟩, hEq, Or.inr hgood⟩) hK hP hD hS [1, 0, 2, 3, 4, 5] (by decide) rfl [] rfl) dX7_not_84
      · have c_32703 : x1.toInt = 8 := by rw [ka_eq', show ((8 : Int32)).toInt = 8 from by decide] at c_32703; exact c_32703
        refine lv_aload_n hx hb dX7_not_42 rfl (lv_at hl 1 rfl) ?_
        refine ka_EV (n := 0) (wr := [(m18, .inl (k0, 60, .inl fb)), (m19, .inl (k1, 60, .inl fl)), (m20, .inl (k2, 60, .inl fr_)), (m21, .inl (k3, 60, .inl fs)), (m0, .inl (k6, 80, .inl ft))]) C (ck_X7_wrong_412 l D F a0 m0 y1 m2 m3 m4 m5 m6 m7 m8 y9 y10 y11 y12 y13 y14 y15 m16 m17 m18 m19 m20 m21 y22 v_32624 y24 y25 y26 y27 ⟨by omega, by omega⟩ ⟨by omega, by omega⟩ ⟨by omega, by omega⟩ ⟨by omega, by omega⟩ ⟨by omega, by omega⟩ ⟨by omega, by omega⟩ ⟨by omega, by omega⟩ ⟨by omega, by omega⟩ ⟨by omega, by omega⟩ ⟨by omega, by omega⟩) gX7_not_X7_wrong rfl (by decide +kernel) ⟨show 0 + 1 ≤ kp_fN a d by simp only [kp_fN, kp_fR]; omega, show 8 + (1 + 11) + 0 ≤ 25 * kp_fN a d by simp only [kp_fN, kp_fR]; omega⟩ hK hP hD hS hA hE hN [4] rfl (by decide) [0, 1, 2, 3, 5] rfl (by decide) (by decide) [] rfl (ci := 7) rfl rfl 4 rfl rfl hl.1 (rest := []) rfl (Nat.le_of_ble_eq_true rfl) dX7_not_43 ⟨Nat.le_of_ble_eq_true rfl, Nat.le_of_ble_eq_true rfl⟩ (fun u H locs hq hP hD hK hS => ?_)
        have hP : va_P D vwCl [(m18, .inl (k0, 60, .inl fb)), (m19, .inl (k1, 60, .inl fl)), (m20, .inl (k2, 60, .inl fr_)), (m21, .inl (k3, 60, .inl fs)), (m0, .inl (k6, 80, .inl ft)), (a0, .inr (7, [.ref m0, .int y1, .ref m2, .ref m3, .ref m4, .ref m5, .ref m6, .ref m7, .ref m8, .int y9, .int y10, .int y11, .int y12, .int y13, .int y14, .int y15, .ref m16, .ref m17, .ref m18, .ref m19, .ref m20, .ref m21, .int y22, .int v_32624, .int y24, .int y25, .int y26, .int 1]))] H := hP
        have hD : va_D A [(m18, .inl (k0, 60, .inl fb)), (m19, .inl (k1, 60, .inl fl)), (m20, .inl (k2, 60, .inl fr_)), (m21, .inl (k3, 60, .inl fs)), (m0, .inl (k6, 80, .inl ft)), (a0, .inr (7, [.ref m0, .int y1, .ref m2, .ref m3, .ref m4, .ref m5, .ref m6, .ref m7, .ref m8, .int y9, .int y10, .int y11, .int y12, .int y13, .int y14, .int y15, .ref m16, .ref m17, .ref m18, .ref m19, .ref m20, .ref m21, .int y22, .int v_32624, .int y24, .int y25, .int y26, .int 1]))] := hD
        have hK : va_K D vwCl [(k6, .byte), (k0, .int), (k1, .int), (k2, .int), (k3, .int)] s := by simpa using hK
        refine ka_stk (w := [.int 0]) rfl ?_
        exact ka_rEi C hr hlk (Nat.le_of_ble_eq_true rfl) (Nat.le_of_ble_eq_true rfl) hS (ka_qE (y22, v_32624, y25, 1, fb, fl, fr_, fs, 0) rfl (show kp_post 4 d y22.toInt y23.toInt y24.toInt fb fl fr_ ((y22 : Int32)).toInt ((v_32624 : Int32)).toInt ((y25 : Int32)).toInt ((1 : Int32)).toInt ((0 : Int32)).toInt fb fl fr_ from ⟨⟨by omega, by omega, by omega, by omega⟩, hEq, Or.inl ⟨by decide, by omega, by omega⟩⟩) hK hP hD hS [5, 4, 0, 1, 2, 3] (by decide) rfl [] rfl) dX7_not_46
  · have c_32626 : v_32624.toInt = y24.toInt := by rw [ka_eq'] at c_32626; exact c_32626
    refine lv_aload_n hx hb dX7_not_15 rfl (lv_at hl 0 rfl) ?_
    refine ka_EV (n := 0) (wr := [(m18, .inl (k0, 60, .inl fb)), (m19, .inl (k1, 60, .inl fl)), (m20, .inl (k2, 60, .inl fr_)), (m21, .inl (k3, 60, .inl fs)), (m0, .inl (k6, 80, .inl ft))]) C (ck_X7_wrong_412 l D F a0 m0 y1 m2 m3 m4 m5 m6 m7 m8 y9 y10 y11 y12 y13 y14 y15 m16 m17 m18 m19 m20 m21 y22 v_32624 y24 y25 y26 y27 ⟨by omega, by omega⟩ ⟨by omega, by omega⟩ ⟨by omega, by omega⟩ ⟨by omega, by omega⟩ ⟨by omega, by omega⟩ ⟨by omega, by omega⟩ ⟨by omega, by omega⟩ ⟨by omega, by omega⟩ ⟨by omega, by omega⟩ ⟨by omega, by omega⟩) gX7_not_X7_wrong rfl (by decide +kernel) ⟨show 0 + 1 ≤ kp_fN a d by simp only [kp_fN, kp_fR]; omega, show 8 + (1 + 11) + 0 ≤ 25 * kp_fN a d by simp only [kp_fN, kp_fR]; omega⟩ hK hP hD hS hA hE hN [4] rfl (by decide) [0, 1, 2, 3, 5] rfl (by decide) (by decide) [] rfl (ci := 7) rfl rfl 4 rfl rfl hl.1 (rest := []) rfl (Nat.le_of_ble_eq_true rfl) dX7_not_16 ⟨Nat.le_of_ble_eq_true rfl, Nat.le_of_ble_eq_true rfl⟩ (fun u H locs hq hP hD hK hS => ?_)
    have hP : va_P D vwCl [(m18, .inl (k0, 60, .inl fb)), (m19, .inl (k1, 60, .inl fl)), (m20, .inl (k2, 60, .inl fr_)), (m21, .inl (k3, 60, .inl fs)), (m0, .inl (k6, 80, .inl ft)), (a0, .inr (7, [.ref m0, .int y1, .ref m2, .ref m3, .ref m4, .ref m5, .ref m6, .ref m7, .ref m8, .int y9, .int y10, .int y11, .int y12, .int y13, .int y14, .int y15, .ref m16, .ref m17, .ref m18, .ref m19, .ref m20, .ref m21, .int y22, .int v_32624, .int y24, .int y25, .int y26, .int 1]))] H := hP
    have hD : va_D A [(m18, .inl (k0, 60, .inl fb)), (m19, .inl (k1, 60, .inl fl)), (m20, .inl (k2, 60, .inl fr_)), (m21, .inl (k3, 60, .inl fs)), (m0, .inl (k6, 80, .inl ft)), (a0, .inr (7, [.ref m0, .int y1, .ref m2, .ref m3, .ref m4, .ref m5, .ref m6, .ref m7, .ref m8, .int y9, .int y10, .int y11, .int y12, .int y13, .int y14, .int y15, .ref m16, .ref m17, .ref m18, .ref m19, .ref m20, .ref m21, .int y22, .int v_32624, .int y24, .int y25, .int y26, .int 1]))] := hD
    have hK : va_K D vwCl [(k6, .byte), (k0, .int), (k1, .int), (k2, .int), (k3, .int)] s := by simpa using hK
    refine ka_stk (w := [.int 0]) rfl ?_
    exact ka_rEi C hr hlk (Nat.le_of_ble_eq_true rfl) (Nat.le_of_ble_eq_true rfl) hS (ka_qE (y22, v_32624, y25, 1, fb, fl, fr_, fs, 0) rfl (show kp_post 4 d y22.toInt y23.toInt y24.toInt fb fl fr_ ((y22 : Int32)).toInt ((v_32624 : Int32)).toInt ((y25 : Int32)).toInt ((1 : Int32)).toInt ((0 : Int32)).toInt fb fl fr_ from ⟨⟨by omega, by omega, by omega, by omega⟩, hEq, Or.inl ⟨by decide, by omega, by omega⟩⟩) hK hP hD hS [5, 4, 0, 1, 2, 3] (by decide) rfl [] rfl) dX7_not_19
theorem lqp_429 : ∀ w ∈ wsX70, w ∈ wsX7_row := by decide +kernel
theorem lqp_430 : Cond.fieldLink RX7 97 "AskedBackModel" "isWrong" "Z" ∈ wsX7_row := by decide +kernel
theorem lqp_431 : Cond.fieldLink RX7 81 "AskedBackModel" "at" "I" ∈ wsX7_row := by decide +kernel
set_option maxHeartbeats 4000000 in
set_option maxRecDepth 100000 in
theorem kt_row_of3 (d : Nat) (hc : kp_N 0 d) : kp_R 3 d := by
  unfold kp_R kp_K
  intro l D F a0 m0 y1 m2 m3 m4 m5 m6 m7 m8 y9 y10 y11 y12 y13 y14 y15 m16 m17 m18 m19 m20 m21 y22 y23 y24 y25 y26 y27 k6 k0 k1 k2 k3 ft fb fl fr_ fs x1 hy1 hy9 hy12 hy13 hy15 hy22 hy23 hy24 hy25 hy27 hft hrel hdeep hnw hx1
  obtain rfl : x1 = 3 := (ka_eq' _ _).mpr (hx1.trans (by decide))
  refine ka_E_of (cc := cX7_row) (maxL := 5) (ret := (some .int)) (by decide) rfl (Nat.le_of_ble_eq_true rfl) ?_
  intro p e s m below meth c ls A C hr hlk hin hP hK hD hS hA hE hN hl
  have C : CallFix p m c cX7_row 5 s [.ref a0, .int 3].toArray wsX7_row RX7 := C
  obtain ⟨hx, hb, hml, hown, hts⟩ := id C
  have hl : lv_has ls 5 [(0, .ref a0), (1, .int 3)] := hl
  have ry1 := ka_rng y1
  have ry9 := ka_rng y9
  have ry10 := ka_rng y10
  have ry11 := ka_rng y11
  have ry12 := ka_rng y12
  have ry13 := ka_rng y13
  have ry14 := ka_rng y14
  have ry15 := ka_rng y15
  have ry22 := ka_rng y22
  have ry23 := ka_rng y23
  have ry24 := ka_rng y24
  have ry25 := ka_rng y25
  have ry26 := ka_rng y26
  have ry27 := ka_rng y27
  have hEq : kt_eq y22.toInt.toNat fb fl fr_ fb fl fr_ := kt_eq_rf
  refine lv_iload_n hx hb dX7_row_0 rfl (lv_at hl 1 rfl) ?_
  refine lv_iconst (v := 1) hx hb dX7_row_1 (by decide) ?_
  refine lv_icmp_ne (tgt := 10) hx hb dX7_row_2 (by decide) (fun _ => ?_) (fun c_ => absurd c_ (by decide))
  refine lv_iload_n hx hb dX7_row_10 rfl (lv_at hl 1 rfl) ?_
  refine lv_iconst (v := 2) hx hb dX7_row_11 (by decide) ?_
  refine lv_icmp_ne (tgt := 20) hx hb dX7_row_12 (by decide) (fun _ => ?_) (fun c_ => absurd c_ (by decide))
  refine lv_bipush (v := 38) hx hb dX7_row_20 (by decide) ?_
  refine lv_istore_n (lv' := [(2, .int 38), (0, .ref a0), (1, .int 3)]) hx hb dX7_row_22 rfl hl (by decide) rfl (fun ls hl => ?_)
  refine lv_iload_n hx hb dX7_row_23 rfl (lv_at hl 2 rfl) ?_
  refine lv_iconst (v := 3) hx hb dX7_row_24 (by decide) ?_
  refine lv_icmp_ne (tgt := 36) hx hb dX7_row_25 (by decide) (fun c_ => absurd (by decide) c_) (fun _ => ?_)
  refine lv_aload_n hx hb dX7_row_28 rfl (lv_at hl 1 rfl) ?_
  refine lv_iconst (v := 0) hx hb dX7_row_29 (by decide) ?_
  refine ka_EV (n := 1) (wr := []) C (hc l D F a0 m0 y1 m2 m3 m4 m5 m6 m7 m8 y9 y10 y11 y12 y13 y14 y15 m16 m17 m18 m19 m20 m21 y22 y23 y24 y25 y26 y27 k6 k0 k1 k2 k3 ft fb fl fr_ fs 0 ⟨by omega, by omega⟩ ⟨by omega, by omega⟩ ⟨by omega, by omega⟩ ⟨by omega, by omega⟩ ⟨by omega, by omega⟩ ⟨by omega, by omega⟩ ⟨by omega, by omega⟩ ⟨by omega, by omega⟩ ⟨by omega, by omega⟩ ⟨by omega, by omega⟩ hft ⟨by omega, by omega⟩ (by omega) (by omega) (by decide)) gX7_row_X7_not rfl (by decide +kernel) ⟨show (kp_fN 0 d) + 1 ≤ kp_fR 3 d by simp only [kp_fN, kp_fR]; omega, show 8 + (4 + 11) + 25 * (kp_fN 0 d) ≤ 25 * kp_fR 3 d by simp only [kp_fN, kp_fR]; omega⟩ hK hP hD hS hA hE hN [0, 1, 2, 3, 4, 5] rfl (by decide) [] rfl (by decide) (by decide) [0, 1, 2, 3, 4] rfl (ci := 7) rfl rfl 0 rfl rfl hl.1 (rest := []) rfl (Nat.le_of_ble_eq_true rfl) dX7_row_30 ⟨Nat.le_of_ble_eq_true rfl, Nat.le_of_ble_eq_true rfl⟩ (fun u H locs hq hP hD hK hS => ?_)
  obtain ⟨v_32724, v_32725, v_32726, v_32727, g_32729, g_32730, g_32731, g_32732, v_32728⟩ := u
  have hq : kp_post 4 d y22.toInt y23.toInt y24.toInt fb fl fr_ v_32724.toInt v_32725.toInt v_32726.toInt v_32727.toInt v_32728.toInt g_32729 g_32730 g_32731 := hq
  obtain ⟨h1q_32733, h2q_32733, h3q_32733⟩ := hq
  have rv_32724 := ka_rng v_32724
  have rv_32725 := ka_rng v_32725
  have rv_32726 := ka_rng v_32726
  have rv_32727 := ka_rng v_32727
  have rv_32728 := ka_rng v_32728
  have hP : va_P D vwCl [(a0, .inr (7, [.ref m0, .int y1, .ref m2, .ref m3, .ref m4, .ref m5, .ref m6, .ref m7, .ref m8, .int y9, .int y10, .int y11, .int y12, .int y13, .int y14, .int y15, .ref m16, .ref m17, .ref m18, .ref m19, .ref m20, .ref m21, .int v_32724, .int v_32725, .int y24, .int v_32726, .int y26, .int v_32727])), (m0, .inl (k6, 80, .inl ft)), (m18, .inl (k0, 60, .inl g_32729)), (m19, .inl (k1, 60, .inl g_32730)), (m20, .inl (k2, 60, .inl g_32731)), (m21, .inl (k3, 60, .inl g_32732))] H := hP
  have hD : va_D A [(a0, .inr (7, [.ref m0, .int y1, .ref m2, .ref m3, .ref m4, .ref m5, .ref m6, .ref m7, .ref m8, .int y9, .int y10, .int y11, .int y12, .int y13, .int y14, .int y15, .ref m16, .ref m17, .ref m18, .ref m19, .ref m20, .ref m21, .int v_32724, .int v_32725, .int y24, .int v_32726, .int y26, .int v_32727])), (m0, .inl (k6, 80, .inl ft)), (m18, .inl (k0, 60, .inl g_32729)), (m19, .inl (k1, 60, .inl g_32730)), (m20, .inl (k2, 60, .inl g_32731)), (m21, .inl (k3, 60, .inl g_32732))] := hD
  have hK : va_K D vwCl [(k6, .byte), (k0, .int), (k1, .int), (k2, .int), (k3, .int)] s := by simpa using hK
  refine ka_stk (w := [.int v_32728]) rfl ?_
  have hEq : kt_eq y22.toInt.toNat fb fl fr_ g_32729 g_32730 g_32731 := kt_eq_tr hEq (by omega) h2q_32733
  rcases h3q_32733 with ⟨hwq_32733, hd1q_32733, hd2q_32733⟩ | ⟨hwq_32733, hdq_32733, k_32734, wk_32734, ek_32734, lk_32734, okk_32734, sk_32734⟩
  · skip
    refine lv_goto (tgt := 43) hx hb dX7_row_33 (by decide) ?_
    refine lv_istore_n (lv' := [(3, .int v_32728), (2, .int 38), (0, .ref a0), (1, .int 3)]) hx hb dX7_row_43 rfl hl (by decide) rfl (fun ls hl => ?_)
    refine lv_aload_n hx hb dX7_row_44 rfl (lv_at hl 2 rfl) ?_
    refine ka_get C lqp_429 rfl hK hP 0 rfl 27 (by decide) lqp_430 rfl dX7_row_45 ?_
    refine lv_if_ne (tgt := 111) hx hb dX7_row_48 (by decide) (fun _ => ?_) (fun c_ => absurd c_ (show ¬ v_32727 = 0 from by rw [ka_eq', show ((0 : Int32)).toInt = 0 from by decide]; omega))
    refine lv_iload_n hx hb dX7_row_111 rfl (lv_at hl 0 rfl) ?_
    exact ka_rEi C hr hlk (Nat.le_of_ble_eq_true rfl) (Nat.le_of_ble_eq_true rfl) hS (ka_qE (v_32724, v_32725, v_32726, v_32727, g_32729, g_32730, g_32731, g_32732, v_32728) rfl (show kp_post ((3 : Nat) : Int) d y22.toInt y23.toInt y24.toInt fb fl fr_ ((v_32724 : Int32)).toInt ((v_32725 : Int32)).toInt ((v_32726 : Int32)).toInt ((v_32727 : Int32)).toInt ((v_32728 : Int32)).toInt g_32729 g_32730 g_32731 from ⟨⟨by omega, by omega, by omega, by omega⟩, hEq, Or.inl ⟨by omega, by omega, by omega⟩⟩) hK hP hD hS [0, 1, 2, 3, 4, 5] (by decide) rfl [] rfl) dX7_row_112
  · skip
    refine lv_goto (tgt := 43) hx hb dX7_row_33 (by decide) ?_
    refine lv_istore_n (lv' := [(3, .int v_32728), (2, .int 38), (0, .ref a0), (1, .int 3)]) hx hb dX7_row_43 rfl hl (by decide) rfl (fun ls hl => ?_)
    have lp : ∀ (n : Nat) (vn va vd vw : Int32) (gb gl gr gs : Nat → Int32) (vr : Int32), (y23.toInt ≤ va.toInt ∧ va.toInt ≤ y24.toInt ∧ y22.toInt ≤ vn.toInt ∧ vn.toInt - y22.toInt ≤ va.toInt - y23.toInt) → kt_eq y22.toInt.toNat fb fl fr_ gb gl gr → kp_good ((3 : Nat) : Int) d y23.toInt vn.toInt va.toInt vd.toInt vw.toInt vr.toInt gb gl gr → (y24.toInt - va.toInt).toNat < n → ∀ (H : Heap) (locs : List Loc), va_P D vwCl [(a0, .inr (7, [.ref m0, .int y1, .ref m2, .ref m3, .ref m4, .ref m5, .ref m6, .ref m7, .ref m8, .int y9, .int y10, .int y11, .int y12, .int y13, .int y14, .int y15, .ref m16, .ref m17, .ref m18, .ref m19, .ref m20, .ref m21, .int vn, .int va, .int y24, .int vd, .int y26, .int vw])), (m0, .inl (k6, 80, .inl ft)), (m18, .inl (k0, 60, .inl gb)), (m19, .inl (k1, 60, .inl gl)), (m20, .inl (k2, 60, .inl gr)), (m21, .inl (k3, 60, .inl gs))] H → va_D A [(a0, .inr (7, [.ref m0, .int y1, .ref m2, .ref m3, .ref m4, .ref m5, .ref m6, .ref m7, .ref m8, .int y9, .int y10, .int y11, .int y12, .int y13, .int y14, .int y15, .ref m16, .ref m17, .ref m18, .ref m19, .ref m20, .ref m21, .int vn, .int va, .int y24, .int vd, .int y26, .int vw])), (m0, .inl (k6, 80, .inl ft)), (m18, .inl (k0, 60, .inl gb)), (m19, .inl (k1, 60, .inl gl)), (m20, .inl (k2, 60, .inl gr)), (m21, .inl (k3, 60, .inl gs))] → va_S A s.heap H locs → ∀ (ls : Array Slot), lv_has ls 5 [(0, .ref a0), (1, .int 3), (2, .int 38), (3, .int vr)] → W p l e ({ frames := kp_fR 3 d, cells := 0, slots := 0, locals := 25 * kp_fR 3 d }) s m [.ref a0, .int 3].toArray below meth c H locs 0 0 (MQ below (ka_QE D A (fun (u : Int32 × Int32 × Int32 × Int32 × (Nat → Int32) × (Nat → Int32) × (Nat → Int32) × (Nat → Int32) × Int32) => some (.int u.2.2.2.2.2.2.2.2)) (fun u => kp_post ((3 : Nat) : Int) d y22.toInt y23.toInt y24.toInt fb fl fr_ u.1.toInt u.2.1.toInt u.2.2.1.toInt u.2.2.2.1.toInt u.2.2.2.2.2.2.2.2.toInt u.2.2.2.2.1 u.2.2.2.2.2.1 u.2.2.2.2.2.2.1) (fun u => [(a0, .inr (7, [.ref m0, .int y1, .ref m2, .ref m3, .ref m4, .ref m5, .ref m6, .ref m7, .ref m8, .int y9, .int y10, .int y11, .int y12, .int y13, .int y14, .int y15, .ref m16, .ref m17, .ref m18, .ref m19, .ref m20, .ref m21, .int u.1, .int u.2.1, .int y24, .int u.2.2.1, .int y26, .int u.2.2.2.1])), (m0, .inl (k6, 80, .inl ft)), (m18, .inl (k0, 60, .inl u.2.2.2.2.1)), (m19, .inl (k1, 60, .inl u.2.2.2.2.2.1)), (m20, .inl (k2, 60, .inl u.2.2.2.2.2.2.1)), (m21, .inl (k3, 60, .inl u.2.2.2.2.2.2.2.1))]) (fun _ => [])) [.ref a0, .int 3].toArray s 0 0 A) (F0 m 44 ls []) := by
      intro n
      induction n with
      | zero =>
        intro vn va vd vw gb gl gr gs vr h1 hEq hg hm
        exact absurd hm (Nat.not_lt_zero _)
      | succ n ih =>
        intro vn va vd vw gb gl gr gs vr h1 hEq hg hm H locs hP hD hS ls hl
        obtain ⟨hw0, hd0, k0_, w0_, e0_, l0_, ok0_, s0_⟩ := hg
        have rvn := ka_rng vn
        have rva := ka_rng va
        have rvd := ka_rng vd
        have rvw := ka_rng vw
        have rvr := ka_rng vr
        refine lv_aload_n hx hb dX7_row_44 rfl (lv_at hl 0 rfl) ?_
        refine ka_get C lqp_429 rfl hK hP 0 rfl 27 (by decide) lqp_430 rfl dX7_row_45 ?_
        refine lv_if_ne (tgt := 111) hx hb dX7_row_48 (by decide) (fun c_ => absurd (show vw = 0 from by rw [ka_eq', show ((0 : Int32)).toInt = 0 from by decide]; omega) c_) (fun _ => ?_)
        refine lv_aload_n hx hb dX7_row_51 rfl (lv_at hl 0 rfl) ?_
        refine lv_iload_n hx hb dX7_row_52 rfl (lv_at hl 2 rfl) ?_
        refine ka_EV (n := 1) (wr := [(m18, .inl (k0, 60, .inl gb)), (m19, .inl (k1, 60, .inl gl)), (m20, .inl (k2, 60, .inl gr)), (m21, .inl (k3, 60, .inl gs))]) C (ck_X7_is_410 l D F a0 m0 y1 m2 m3 m4 m5 m6 m7 m8 y9 y10 y11 y12 y13 y14 y15 m16 m17 m18 m19 m20 m21 vn va y24 vd y26 vw k6 ft ⟨by omega, by omega⟩ ⟨by omega, by omega⟩ ⟨by omega, by omega⟩ ⟨by omega, by omega⟩ ⟨by omega, by omega⟩ ⟨by omega, by omega⟩ ⟨by omega, by omega⟩ ⟨by omega, by omega⟩ ⟨by omega, by omega⟩ ⟨by omega, by omega⟩ hft (by omega)) gX7_row_X7_is rfl (by decide +kernel) ⟨show 1 + 1 ≤ kp_fR 3 d by simp only [kp_fN, kp_fR]; omega, show 8 + (2 + 11) + 20 ≤ 25 * kp_fR 3 d by simp only [kp_fN, kp_fR]; omega⟩ hK hP hD hS hA hE hN [0, 1] rfl (by decide) [2, 3, 4, 5] rfl (by decide) (by decide) [0] rfl (ci := 7) rfl rfl 0 rfl rfl hl.1 (rest := []) rfl (Nat.le_of_ble_eq_true rfl) dX7_row_53 ⟨Nat.le_of_ble_eq_true rfl, Nat.le_of_ble_eq_true rfl⟩ (fun u H locs hq hP hD hK hS => ?_)
        obtain ⟨v_32735, v_32736⟩ := u
        have hq : (0 ≤ v_32735.toInt ∧ v_32735.toInt ≤ 60) ∧ (0 ≤ v_32736.toInt ∧ v_32736.toInt ≤ 1) ∧ (va.toInt ≤ v_32735.toInt ∧ v_32735.toInt ≤ y24.toInt ∧ (v_32736.toInt = 0 ∨ v_32735.toInt < y24.toInt)) := hq
        obtain ⟨hv_32735, hv_32736, hzz_32737⟩ := hq
        have rv_32735 := ka_rng v_32735
        have rv_32736 := ka_rng v_32736
        have hP : va_P D vwCl [(m18, .inl (k0, 60, .inl gb)), (m19, .inl (k1, 60, .inl gl)), (m20, .inl (k2, 60, .inl gr)), (m21, .inl (k3, 60, .inl gs)), (a0, .inr (7, [.ref m0, .int y1, .ref m2, .ref m3, .ref m4, .ref m5, .ref m6, .ref m7, .ref m8, .int y9, .int y10, .int y11, .int y12, .int y13, .int y14, .int y15, .ref m16, .ref m17, .ref m18, .ref m19, .ref m20, .ref m21, .int vn, .int v_32735, .int y24, .int vd, .int y26, .int vw])), (m0, .inl (k6, 80, .inl ft))] H := hP
        have hD : va_D A [(m18, .inl (k0, 60, .inl gb)), (m19, .inl (k1, 60, .inl gl)), (m20, .inl (k2, 60, .inl gr)), (m21, .inl (k3, 60, .inl gs)), (a0, .inr (7, [.ref m0, .int y1, .ref m2, .ref m3, .ref m4, .ref m5, .ref m6, .ref m7, .ref m8, .int y9, .int y10, .int y11, .int y12, .int y13, .int y14, .int y15, .ref m16, .ref m17, .ref m18, .ref m19, .ref m20, .ref m21, .int vn, .int v_32735, .int y24, .int vd, .int y26, .int vw])), (m0, .inl (k6, 80, .inl ft))] := hD
        have hK : va_K D vwCl [(k6, .byte), (k0, .int), (k1, .int), (k2, .int), (k3, .int)] s := by simpa using hK
        refine ka_stk (w := [.int v_32736]) rfl ?_
        refine lv_if_eq (tgt := 111) hx hb dX7_row_56 (by decide) (fun c_32738 => ?_) (fun c_32738 => ?_)
        · have c_32738 : v_32736.toInt = 0 := by rw [ka_eq', show ((0 : Int32)).toInt = 0 from by decide] at c_32738; exact c_32738
          refine lv_iload_n hx hb dX7_row_111 rfl (lv_at hl 3 rfl) ?_
          have hgood : kp_good ((3 : Nat) : Int) d y23.toInt ((vn : Int32)).toInt ((v_32735 : Int32)).toInt ((vd : Int32)).toInt ((vw : Int32)).toInt ((vr : Int32)).toInt gb gl gr := ⟨by omega, by omega, k0_, w0_, by omega, by omega, ok0_, by omega⟩
          exact ka_rEi C hr hlk (Nat.le_of_ble_eq_true rfl) (Nat.le_of_ble_eq_true rfl) hS (ka_qE (vn, v_32735, vd, vw, gb, gl, gr, gs, vr) rfl (show kp_post ((3 : Nat) : Int) d y22.toInt y23.toInt y24.toInt fb fl fr_ ((vn : Int32)).toInt ((v_32735 : Int32)).toInt ((vd : Int32)).toInt ((vw : Int32)).toInt ((vr : Int32)).toInt gb gl gr from ⟨⟨by omega, by omega, by omega, by omega⟩, hEq, Or.inr hgood⟩) hK hP hD hS [4, 5, 0, 1, 2, 3] (by decide) rfl [] rfl) dX7_row_112
        · have c_32738 : ¬ v_32736.toInt = 0 := by rw [ka_eq', show ((0 : Int32)).toInt = 0 from by decide] at c_32738; exact c_32738
          refine lv_aload_n hx hb dX7_row_59 rfl (lv_at hl 0 rfl) ?_
          refine lv_dup hx hb dX7_row_60 rfl ?_
          refine ka_get C lqp_429 rfl hK hP 4 rfl 23 (by decide) lqp_431 rfl dX7_row_61 ?_
          refine lv_iconst (v := 1) hx hb dX7_row_64 (by decide) ?_
          refine lv_iadd hx hb dX7_row_65 ?_
          refine lv_topi (fun v_32739 ev_32739 => ?_)
          have fv_32739 : v_32739.toInt = v_32735.toInt + 1 := by rw [ev_32739]; exact ka_add (x := v_32735.toInt) (y := 1) rfl (by decide) (by omega) (by omega)
          refine ka_put C lqp_429 tyX7 tyX7_ok nmX7 rfl hK hP hD hS 4 rfl 23 (by decide) lqp_431 rfl rfl rfl (Nat.le_of_ble_eq_true rfl) dX7_row_66 (fun H locs hP hD hS => ?_)
          have hP : va_P D vwCl [(m18, .inl (k0, 60, .inl gb)), (m19, .inl (k1, 60, .inl gl)), (m20, .inl (k2, 60, .inl gr)), (m21, .inl (k3, 60, .inl gs)), (a0, .inr (7, [.ref m0, .int y1, .ref m2, .ref m3, .ref m4, .ref m5, .ref m6, .ref m7, .ref m8, .int y9, .int y10, .int y11, .int y12, .int y13, .int y14, .int y15, .ref m16, .ref m17, .ref m18, .ref m19, .ref m20, .ref m21, .int vn, .int v_32739, .int y24, .int vd, .int y26, .int vw])), (m0, .inl (k6, 80, .inl ft))] H := hP
          have hD : va_D A [(m18, .inl (k0, 60, .inl gb)), (m19, .inl (k1, 60, .inl gl)), (m20, .inl (k2, 60, .inl gr)), (m21, .inl (k3, 60, .inl gs)), (a0, .inr (7, [.ref m0, .int y1, .ref m2, .ref m3, .ref m4, .ref m5, .ref m6, .ref m7, .ref m8, .int y9, .int y10, .int y11, .int y12, .int y13, .int y14, .int y15, .ref m16, .ref m17, .ref m18, .ref m19, .ref m20, .ref m21, .int vn, .int v_32739, .int y24, .int vd, .int y26, .int vw])), (m0, .inl (k6, 80, .inl ft))] := hD
          refine lv_iload_n hx hb dX7_row_69 rfl (lv_at hl 1 rfl) ?_
          refine lv_iconst (v := 3) hx hb dX7_row_70 (by decide) ?_
          refine lv_icmp_ne (tgt := 82) hx hb dX7_row_71 (by decide) (fun c_ => absurd (by decide) c_) (fun _ => ?_)
          refine lv_aload_n hx hb dX7_row_74 rfl (lv_at hl 0 rfl) ?_
          refine lv_iconst (v := 0) hx hb dX7_row_75 (by decide) ?_
          refine ka_EV (n := 1) (wr := []) C (hc l D F a0 m0 y1 m2 m3 m4 m5 m6 m7 m8 y9 y10 y11 y12 y13 y14 y15 m16 m17 m18 m19 m20 m21 vn v_32739 y24 vd y26 vw k6 k0 k1 k2 k3 ft gb gl gr gs 0 ⟨by omega, by omega⟩ ⟨by omega, by omega⟩ ⟨by omega, by omega⟩ ⟨by omega, by omega⟩ ⟨by omega, by omega⟩ ⟨by omega, by omega⟩ ⟨by omega, by omega⟩ ⟨by omega, by omega⟩ ⟨by omega, by omega⟩ ⟨by omega, by omega⟩ hft ⟨by omega, by omega⟩ (by omega) (by omega) (by decide)) gX7_row_X7_not rfl (by decide +kernel) ⟨show (kp_fN 0 d) + 1 ≤ kp_fR 3 d by simp only [kp_fN, kp_fR]; omega, show 8 + (4 + 11) + 25 * (kp_fN 0 d) ≤ 25 * kp_fR 3 d by simp only [kp_fN, kp_fR]; omega⟩ hK hP hD hS hA hE hN [4, 5, 0, 1, 2, 3] rfl (by decide) [] rfl (by decide) (by decide) [0, 1, 2, 3, 4] rfl (ci := 7) rfl rfl 4 rfl rfl hl.1 (rest := []) rfl (Nat.le_of_ble_eq_true rfl) dX7_row_76 ⟨Nat.le_of_ble_eq_true rfl, Nat.le_of_ble_eq_true rfl⟩ (fun u H locs hq hP hD hK hS => ?_)
          obtain ⟨v_32740, v_32741, v_32742, v_32743, g_32745, g_32746, g_32747, g_32748, v_32744⟩ := u
          have hq : kp_post 4 d vn.toInt v_32739.toInt y24.toInt gb gl gr v_32740.toInt v_32741.toInt v_32742.toInt v_32743.toInt v_32744.toInt g_32745 g_32746 g_32747 := hq
          obtain ⟨h1q_32749, h2q_32749, h3q_32749⟩ := hq
          have rv_32740 := ka_rng v_32740
          have rv_32741 := ka_rng v_32741
          have rv_32742 := ka_rng v_32742
          have rv_32743 := ka_rng v_32743
          have rv_32744 := ka_rng v_32744
          have hP : va_P D vwCl [(a0, .inr (7, [.ref m0, .int y1, .ref m2, .ref m3, .ref m4, .ref m5, .ref m6, .ref m7, .ref m8, .int y9, .int y10, .int y11, .int y12, .int y13, .int y14, .int y15, .ref m16, .ref m17, .ref m18, .ref m19, .ref m20, .ref m21, .int v_32740, .int v_32741, .int y24, .int v_32742, .int y26, .int v_32743])), (m0, .inl (k6, 80, .inl ft)), (m18, .inl (k0, 60, .inl g_32745)), (m19, .inl (k1, 60, .inl g_32746)), (m20, .inl (k2, 60, .inl g_32747)), (m21, .inl (k3, 60, .inl g_32748))] H := hP
          have hD : va_D A [(a0, .inr (7, [.ref m0, .int y1, .ref m2, .ref m3, .ref m4, .ref m5, .ref m6, .ref m7, .ref m8, .int y9, .int y10, .int y11, .int y12, .int y13, .int y14, .int y15, .ref m16, .ref m17, .ref m18, .ref m19, .ref m20, .ref m21, .int v_32740, .int v_32741, .int y24, .int v_32742, .int y26, .int v_32743])), (m0, .inl (k6, 80, .inl ft)), (m18, .inl (k0, 60, .inl g_32745)), (m19, .inl (k1, 60, .inl g_32746)), (m20, .inl (k2, 60, .inl g_32747)), (m21, .inl (k3, 60, .inl g_32748))] := hD
          have hK : va_K D vwCl [(k6, .byte), (k0, .int), (k1, .int), (k2, .int), (k3, .int)] s := by simpa using hK
          refine ka_stk (w := [.int v_32744]) rfl ?_
          have hEq : kt_eq y22.toInt.toNat fb fl fr_ g_32745 g_32746 g_32747 := kt_eq_tr hEq (by omega) h2q_32749
          rcases h3q_32749 with ⟨hwq_32749, hd1q_32749, hd2q_32749⟩ | ⟨hwq_32749, hdq_32749, k_32750, wk_32750, ek_32750, lk_32750, okk_32750, sk_32750⟩
          · skip
            refine lv_goto (tgt := 89) hx hb dX7_row_79 (by decide) ?_
            refine lv_istore (lv' := [(4, .int v_32744), (0, .ref a0), (1, .int 3), (2, .int 38), (3, .int vr)]) hx hb dX7_row_89 hl (by decide) rfl (fun ls hl => ?_)
            refine lv_aload_n hx hb dX7_row_91 rfl (lv_at hl 1 rfl) ?_
            refine ka_get C lqp_429 rfl hK hP 0 rfl 27 (by decide) lqp_430 rfl dX7_row_92 ?_
            refine lv_if_ne (tgt := 108) hx hb dX7_row_95 (by decide) (fun _ => ?_) (fun c_ => absurd c_ (show ¬ v_32743 = 0 from by rw [ka_eq', show ((0 : Int32)).toInt = 0 from by decide]; omega))
            refine lv_goto (tgt := 44) hx hb dX7_row_108 (by decide) ?_
            refine lv_aload_n hx hb dX7_row_44 rfl (lv_at hl 1 rfl) ?_
            refine ka_get C lqp_429 rfl hK hP 0 rfl 27 (by decide) lqp_430 rfl dX7_row_45 ?_
            refine lv_if_ne (tgt := 111) hx hb dX7_row_48 (by decide) (fun _ => ?_) (fun c_ => absurd c_ (show ¬ v_32743 = 0 from by rw [ka_eq', show ((0 : Int32)).toInt = 0 from by decide]; omega))
            refine lv_iload_n hx hb dX7_row_111 rfl (lv_at hl 4 rfl) ?_
            exact ka_rEi C hr hlk (Nat.le_of_ble_eq_true rfl) (Nat.le_of_ble_eq_true rfl) hS (ka_qE (v_32740, v_32741, v_32742, v_32743, g_32745, g_32746, g_32747, g_32748, vr) rfl (show kp_post ((3 : Nat) : Int) d y22.toInt y23.toInt y24.toInt fb fl fr_ ((v_32740 : Int32)).toInt ((v_32741 : Int32)).toInt ((v_32742 : Int32)).toInt ((v_32743 : Int32)).toInt ((vr : Int32)).toInt g_32745 g_32746 g_32747 from ⟨⟨by omega, by omega, by omega, by omega⟩, hEq, Or.inl ⟨by omega, by omega, by omega⟩⟩) hK hP hD hS [0, 1, 2, 3, 4, 5] (by decide) rfl [] rfl) dX7_row_112
          · have okA : kt_ok g_32745 g_32746 g_32747 k0_ w0_ := kt_ok_eq h2q_32749 (by omega) ok0_
            have brA : kt_br g_32745 k0_ ((3 : Nat) : Int) = kt_br gb k0_ ((3 : Nat) : Int) := kt_br_eq h2q_32749 (by omega)
            refine lv_goto (tgt := 89) hx hb dX7_row_79 (by decide) ?_
            refine lv_istore (lv' := [(4, .int v_32744), (0, .ref a0), (1, .int 3), (2, .int 38), (3, .int vr)]) hx hb dX7_row_89 hl (by decide) rfl (fun ls hl => ?_)
            refine lv_aload_n hx hb dX7_row_91 rfl (lv_at hl 1 rfl) ?_
            refine ka_get C lqp_429 rfl hK hP 0 rfl 27 (by decide) lqp_430 rfl dX7_row_92 ?_
            refine lv_if_ne (tgt := 108) hx hb dX7_row_95 (by decide) (fun c_ => absurd (show v_32743 = 0 from by rw [ka_eq', show ((0 : Int32)).toInt = 0 from by decide]; omega) c_) (fun _ => ?_)
            refine lv_aload_n hx hb dX7_row_98 rfl (lv_at hl 1 rfl) ?_
            refine lv_iload_n hx hb dX7_row_99 rfl (lv_at hl 2 rfl) ?_
            refine lv_iload_n hx hb dX7_row_100 rfl (lv_at hl 3 rfl) ?_
            refine lv_iload_n hx hb dX7_row_101 rfl (lv_at hl 4 rfl) ?_
            refine lv_iload hx hb dX7_row_102 (lv_at hl 0 rfl) ?_
            obtain ⟨N_32753, eN_32753⟩ : ∃ z : Nat, v_32740.toInt = (z : Int) := ⟨v_32740.toInt.toNat, by omega⟩
            refine ka_EV (n := 4) (wr := [(m0, .inl (k6, 80, .inl ft))]) C (kt_node l D F a0 m0 y1 m2 m3 m4 m5 m6 m7 m8 y9 y10 y11 y12 y13 y14 y15 m16 m17 m18 m19 m20 m21 v_32740 v_32741 y24 v_32742 y26 v_32743 k0 k1 k2 k3 g_32745 g_32746 g_32747 g_32748 3 38 vr v_32744 ⟨by omega, by omega⟩) gX7_row_X7_node rfl (by decide +kernel) ⟨show 0 + 1 ≤ kp_fR 3 d by simp only [kp_fN, kp_fR]; omega, show 8 + (5 + 11) + 0 ≤ 25 * kp_fR 3 d by simp only [kp_fN, kp_fR]; omega⟩ hK hP hD hS hA hE hN [0, 2, 3, 4, 5] rfl (by decide) [1] rfl (by decide) (by decide) [1, 2, 3, 4] rfl (ci := 7) rfl rfl 0 rfl rfl hl.1 (rest := []) rfl (Nat.le_of_ble_eq_true rfl) dX7_row_104 ⟨Nat.le_of_ble_eq_true rfl, Nat.le_of_ble_eq_true rfl⟩ (fun u H locs hq hP hD hK hS => ?_)
            obtain ⟨v_32751, v_32752⟩ := u
            have hq : v_32751.toInt = v_32740.toInt + 1 ∧ v_32752.toInt = v_32740.toInt := hq
            obtain ⟨fv_32751, fv_32752⟩ := hq
            have hP : va_P D vwCl [(m0, .inl (k6, 80, .inl ft)), (a0, .inr (7, [.ref m0, .int y1, .ref m2, .ref m3, .ref m4, .ref m5, .ref m6, .ref m7, .ref m8, .int y9, .int y10, .int y11, .int y12, .int y13, .int y14, .int y15, .ref m16, .ref m17, .ref m18, .ref m19, .ref m20, .ref m21, .int v_32751, .int v_32741, .int y24, .int v_32742, .int y26, .int v_32743])), (m18, .inl (k0, 60, .inl (upd g_32745 (Int32.toNatClampNeg v_32740) 3))), (m19, .inl (k1, 60, .inl (upd g_32746 (Int32.toNatClampNeg v_32740) vr))), (m20, .inl (k2, 60, .inl (upd g_32747 (Int32.toNatClampNeg v_32740) v_32744))), (m21, .inl (k3, 60, .inl (upd g_32748 (Int32.toNatClampNeg v_32740) 38)))] H := hP
            have hD : va_D A [(m0, .inl (k6, 80, .inl ft)), (a0, .inr (7, [.ref m0, .int y1, .ref m2, .ref m3, .ref m4, .ref m5, .ref m6, .ref m7, .ref m8, .int y9, .int y10, .int y11, .int y12, .int y13, .int y14, .int y15, .ref m16, .ref m17, .ref m18, .ref m19, .ref m20, .ref m21, .int v_32751, .int v_32741, .int y24, .int v_32742, .int y26, .int v_32743])), (m18, .inl (k0, 60, .inl (upd g_32745 (Int32.toNatClampNeg v_32740) 3))), (m19, .inl (k1, 60, .inl (upd g_32746 (Int32.toNatClampNeg v_32740) vr))), (m20, .inl (k2, 60, .inl (upd g_32747 (Int32.toNatClampNeg v_32740) v_32744))), (m21, .inl (k3, 60, .inl (upd g_32748 (Int32.toNatClampNeg v_32740) 38)))] := hD
            have hK : va_K D vwCl [(k6, .byte), (k0, .int), (k1, .int), (k2, .int), (k3, .int)] s := by simpa using hK
            refine ka_stk (w := [.int v_32752]) rfl ?_
            rw [kp_cl eN_32753] at hP hD
            have hEq : kt_eq y22.toInt.toNat fb fl fr_ (upd g_32745 N_32753 3) (upd g_32746 N_32753 vr) (upd g_32747 N_32753 v_32744) := kt_eq_tr hEq (by omega) (kt_eq_upd (N := N_32753))
            have hbN : ((upd g_32745 N_32753 3) N_32753).toInt = ((3 : Nat) : Int) := by rw [pk_us]; decide
            have okA2 : kt_ok (upd g_32745 N_32753 3) (upd g_32746 N_32753 vr) (upd g_32747 N_32753 v_32744) k0_ w0_ := kt_ok_eq (kt_eq_upd (N := N_32753)) (by omega) okA
            have okB2 : kt_ok (upd g_32745 N_32753 3) (upd g_32746 N_32753 vr) (upd g_32747 N_32753 v_32744) k_32750 wk_32750 := kt_ok_eq (kt_eq_upd (N := N_32753)) (by omega) okk_32750
            have hok := kt_bin (by omega) (by omega) (by rw [pk_us]; exact e0_) (show k0_ < N_32753 by omega) okA2 (by rw [pk_us]; exact ek_32750) (show k_32750 < N_32753 by omega) okB2
            rw [hbN] at hok
            have brA2 : kt_br (upd g_32745 N_32753 3) k0_ ((3 : Nat) : Int) = kt_br g_32745 k0_ ((3 : Nat) : Int) := kt_br_eq (kt_eq_upd (N := N_32753) (l := g_32746) (r := g_32747) (v := vr) (w := v_32744)) (by omega)
            have brB2 : kt_br (upd g_32745 N_32753 3) k_32750 ((3 : Nat) : Int) = kt_br g_32745 k_32750 ((3 : Nat) : Int) := kt_br_eq (kt_eq_upd (N := N_32753) (l := g_32746) (r := g_32747) (v := vr) (w := v_32744)) (by omega)
            have hle := kt_br_le (b := g_32745) (a := k_32750) (show ((3 : Nat) : Int) ≤ 4 by omega)
            have hbr : kt_br (upd g_32745 N_32753 3) N_32753 ((3 : Nat) : Int) = 0 := kp_br_own (by omega)
            clear okA2 okB2
            generalize (upd g_32745 N_32753 3) = g_32754 at hP hD hEq hok hbr hbN brA2 brB2
            generalize (upd g_32746 N_32753 vr) = g_32755 at hP hD hEq hok
            generalize (upd g_32747 N_32753 v_32744) = g_32756 at hP hD hEq hok
            generalize (upd g_32748 N_32753 38) = g_32757 at hP hD
            refine lv_istore_n (lv' := [(3, .int v_32752), (4, .int v_32744), (0, .ref a0), (1, .int 3), (2, .int 38)]) hx hb dX7_row_107 rfl hl (by decide) rfl (fun ls hl => ?_)
            refine lv_goto (tgt := 44) hx hb dX7_row_108 (by decide) ?_
            have hgood : kp_good ((3 : Nat) : Int) d y23.toInt ((v_32751 : Int32)).toInt ((v_32741 : Int32)).toInt ((v_32742 : Int32)).toInt ((v_32743 : Int32)).toInt ((v_32752 : Int32)).toInt g_32754 g_32755 g_32756 := ⟨by omega, by omega, N_32753, _, by omega, by omega, hok, by omega⟩
            exact ih v_32751 v_32741 v_32742 v_32743 g_32754 g_32755 g_32756 g_32757 v_32752 ⟨by omega, by omega, by omega, by omega⟩ hEq hgood (by omega) H locs (hP.sub [1, 0, 2, 3, 4, 5] rfl) (hD.sub [1, 0, 2, 3, 4, 5] (by decide) rfl) hS ls (lv_sub hl [2, 3, 4, 0] rfl)
    have hle := kt_br_le (b := g_32729) (a := k_32734) (show ((3 : Nat) : Int) ≤ 4 by omega)
    have hgood : kp_good ((3 : Nat) : Int) d y23.toInt ((v_32724 : Int32)).toInt ((v_32725 : Int32)).toInt ((v_32726 : Int32)).toInt ((v_32727 : Int32)).toInt ((v_32728 : Int32)).toInt g_32729 g_32730 g_32731 := ⟨by omega, by omega, k_32734, wk_32734, by omega, by omega, okk_32734, by omega⟩
    exact lp _ v_32724 v_32725 v_32726 v_32727 g_32729 g_32730 g_32731 g_32732 v_32728 ⟨by omega, by omega, by omega, by omega⟩ hEq hgood (Nat.lt_succ_self _) H locs (hP.sub [0, 1, 2, 3, 4, 5] rfl) (hD.sub [0, 1, 2, 3, 4, 5] (by decide) rfl) hS ls (lv_sub hl [2, 3, 1, 0] rfl)
set_option maxHeartbeats 4000000 in
set_option maxRecDepth 100000 in
theorem kt_row_of2 (d : Nat) (hc : kp_R 3 d) : kp_R 2 d := by
  unfold kp_R kp_K
  intro l D F a0 m0 y1 m2 m3 m4 m5 m6 m7 m8 y9 y10 y11 y12 y13 y14 y15 m16 m17 m18 m19 m20 m21 y22 y23 y24 y25 y26 y27 k6 k0 k1 k2 k3 ft fb fl fr_ fs x1 hy1 hy9 hy12 hy13 hy15 hy22 hy23 hy24 hy25 hy27 hft hrel hdeep hnw hx1
  obtain rfl : x1 = 2 := (ka_eq' _ _).mpr (hx1.trans (by decide))
  refine ka_E_of (cc := cX7_row) (maxL := 5) (ret := (some .int)) (by decide) rfl (Nat.le_of_ble_eq_true rfl) ?_
  intro p e s m below meth c ls A C hr hlk hin hP hK hD hS hA hE hN hl
  have C : CallFix p m c cX7_row 5 s [.ref a0, .int 2].toArray wsX7_row RX7 := C
  obtain ⟨hx, hb, hml, hown, hts⟩ := id C
  have hl : lv_has ls 5 [(0, .ref a0), (1, .int 2)] := hl
  have ry1 := ka_rng y1
  have ry9 := ka_rng y9
  have ry10 := ka_rng y10
  have ry11 := ka_rng y11
  have ry12 := ka_rng y12
  have ry13 := ka_rng y13
  have ry14 := ka_rng y14
  have ry15 := ka_rng y15
  have ry22 := ka_rng y22
  have ry23 := ka_rng y23
  have ry24 := ka_rng y24
  have ry25 := ka_rng y25
  have ry26 := ka_rng y26
  have ry27 := ka_rng y27
  have hEq : kt_eq y22.toInt.toNat fb fl fr_ fb fl fr_ := kt_eq_rf
  refine lv_iload_n hx hb dX7_row_0 rfl (lv_at hl 1 rfl) ?_
  refine lv_iconst (v := 1) hx hb dX7_row_1 (by decide) ?_
  refine lv_icmp_ne (tgt := 10) hx hb dX7_row_2 (by decide) (fun _ => ?_) (fun c_ => absurd c_ (by decide))
  refine lv_iload_n hx hb dX7_row_10 rfl (lv_at hl 1 rfl) ?_
  refine lv_iconst (v := 2) hx hb dX7_row_11 (by decide) ?_
  refine lv_icmp_ne (tgt := 20) hx hb dX7_row_12 (by decide) (fun c_ => absurd (by decide) c_) (fun _ => ?_)
  refine lv_bipush (v := 94) hx hb dX7_row_15 (by decide) ?_
  refine lv_goto (tgt := 22) hx hb dX7_row_17 (by decide) ?_
  refine lv_istore_n (lv' := [(2, .int 94), (0, .ref a0), (1, .int 2)]) hx hb dX7_row_22 rfl hl (by decide) rfl (fun ls hl => ?_)
  refine lv_iload_n hx hb dX7_row_23 rfl (lv_at hl 2 rfl) ?_
  refine lv_iconst (v := 3) hx hb dX7_row_24 (by decide) ?_
  refine lv_icmp_ne (tgt := 36) hx hb dX7_row_25 (by decide) (fun _ => ?_) (fun c_ => absurd c_ (by decide))
  refine lv_aload_n hx hb dX7_row_36 rfl (lv_at hl 1 rfl) ?_
  refine lv_iload_n hx hb dX7_row_37 rfl (lv_at hl 2 rfl) ?_
  refine lv_iconst (v := 1) hx hb dX7_row_38 (by decide) ?_
  refine lv_iadd hx hb dX7_row_39 ?_
  refine ka_top (w := .int 3) (congrArg Value.int (by decide)) ?_
  refine ka_EV (n := 1) (wr := []) C (hc l D F a0 m0 y1 m2 m3 m4 m5 m6 m7 m8 y9 y10 y11 y12 y13 y14 y15 m16 m17 m18 m19 m20 m21 y22 y23 y24 y25 y26 y27 k6 k0 k1 k2 k3 ft fb fl fr_ fs 3 ⟨by omega, by omega⟩ ⟨by omega, by omega⟩ ⟨by omega, by omega⟩ ⟨by omega, by omega⟩ ⟨by omega, by omega⟩ ⟨by omega, by omega⟩ ⟨by omega, by omega⟩ ⟨by omega, by omega⟩ ⟨by omega, by omega⟩ ⟨by omega, by omega⟩ hft ⟨by omega, by omega⟩ (by omega) (by omega) (by decide)) gX7_row_X7_row rfl (by decide +kernel) ⟨show (kp_fR 3 d) + 1 ≤ kp_fR 2 d by simp only [kp_fN, kp_fR]; omega, show 8 + (5 + 11) + 25 * (kp_fR 3 d) ≤ 25 * kp_fR 2 d by simp only [kp_fN, kp_fR]; omega⟩ hK hP hD hS hA hE hN [0, 1, 2, 3, 4, 5] rfl (by decide) [] rfl (by decide) (by decide) [0, 1, 2, 3, 4] rfl (ci := 7) rfl rfl 0 rfl rfl hl.1 (rest := []) rfl (Nat.le_of_ble_eq_true rfl) dX7_row_40 ⟨Nat.le_of_ble_eq_true rfl, Nat.le_of_ble_eq_true rfl⟩ (fun u H locs hq hP hD hK hS => ?_)
  obtain ⟨v_32758, v_32759, v_32760, v_32761, g_32763, g_32764, g_32765, g_32766, v_32762⟩ := u
  have hq : kp_post ((3 : Nat) : Int) d y22.toInt y23.toInt y24.toInt fb fl fr_ v_32758.toInt v_32759.toInt v_32760.toInt v_32761.toInt v_32762.toInt g_32763 g_32764 g_32765 := hq
  obtain ⟨h1q_32767, h2q_32767, h3q_32767⟩ := hq
  have rv_32758 := ka_rng v_32758
  have rv_32759 := ka_rng v_32759
  have rv_32760 := ka_rng v_32760
  have rv_32761 := ka_rng v_32761
  have rv_32762 := ka_rng v_32762
  have hP : va_P D vwCl [(a0, .inr (7, [.ref m0, .int y1, .ref m2, .ref m3, .ref m4, .ref m5, .ref m6, .ref m7, .ref m8, .int y9, .int y10, .int y11, .int y12, .int y13, .int y14, .int y15, .ref m16, .ref m17, .ref m18, .ref m19, .ref m20, .ref m21, .int v_32758, .int v_32759, .int y24, .int v_32760, .int y26, .int v_32761])), (m0, .inl (k6, 80, .inl ft)), (m18, .inl (k0, 60, .inl g_32763)), (m19, .inl (k1, 60, .inl g_32764)), (m20, .inl (k2, 60, .inl g_32765)), (m21, .inl (k3, 60, .inl g_32766))] H := hP
  have hD : va_D A [(a0, .inr (7, [.ref m0, .int y1, .ref m2, .ref m3, .ref m4, .ref m5, .ref m6, .ref m7, .ref m8, .int y9, .int y10, .int y11, .int y12, .int y13, .int y14, .int y15, .ref m16, .ref m17, .ref m18, .ref m19, .ref m20, .ref m21, .int v_32758, .int v_32759, .int y24, .int v_32760, .int y26, .int v_32761])), (m0, .inl (k6, 80, .inl ft)), (m18, .inl (k0, 60, .inl g_32763)), (m19, .inl (k1, 60, .inl g_32764)), (m20, .inl (k2, 60, .inl g_32765)), (m21, .inl (k3, 60, .inl g_32766))] := hD
  have hK : va_K D vwCl [(k6, .byte), (k0, .int), (k1, .int), (k2, .int), (k3, .int)] s := by simpa using hK
  refine ka_stk (w := [.int v_32762]) rfl ?_
  have hEq : kt_eq y22.toInt.toNat fb fl fr_ g_32763 g_32764 g_32765 := kt_eq_tr hEq (by omega) h2q_32767
  rcases h3q_32767 with ⟨hwq_32767, hd1q_32767, hd2q_32767⟩ | ⟨hwq_32767, hdq_32767, k_32768, wk_32768, ek_32768, lk_32768, okk_32768, sk_32768⟩
  · skip
    refine lv_istore_n (lv' := [(3, .int v_32762), (2, .int 94), (0, .ref a0), (1, .int 2)]) hx hb dX7_row_43 rfl hl (by decide) rfl (fun ls hl => ?_)
    refine lv_aload_n hx hb dX7_row_44 rfl (lv_at hl 2 rfl) ?_
    refine ka_get C lqp_429 rfl hK hP 0 rfl 27 (by decide) lqp_430 rfl dX7_row_45 ?_
    refine lv_if_ne (tgt := 111) hx hb dX7_row_48 (by decide) (fun _ => ?_) (fun c_ => absurd c_ (show ¬ v_32761 = 0 from by rw [ka_eq', show ((0 : Int32)).toInt = 0 from by decide]; omega))
    refine lv_iload_n hx hb dX7_row_111 rfl (lv_at hl 0 rfl) ?_
    exact ka_rEi C hr hlk (Nat.le_of_ble_eq_true rfl) (Nat.le_of_ble_eq_true rfl) hS (ka_qE (v_32758, v_32759, v_32760, v_32761, g_32763, g_32764, g_32765, g_32766, v_32762) rfl (show kp_post ((2 : Nat) : Int) d y22.toInt y23.toInt y24.toInt fb fl fr_ ((v_32758 : Int32)).toInt ((v_32759 : Int32)).toInt ((v_32760 : Int32)).toInt ((v_32761 : Int32)).toInt ((v_32762 : Int32)).toInt g_32763 g_32764 g_32765 from ⟨⟨by omega, by omega, by omega, by omega⟩, hEq, Or.inl ⟨by omega, by omega, by omega⟩⟩) hK hP hD hS [0, 1, 2, 3, 4, 5] (by decide) rfl [] rfl) dX7_row_112
  · skip
    refine lv_istore_n (lv' := [(3, .int v_32762), (2, .int 94), (0, .ref a0), (1, .int 2)]) hx hb dX7_row_43 rfl hl (by decide) rfl (fun ls hl => ?_)
    have lp : ∀ (n : Nat) (vn va vd vw : Int32) (gb gl gr gs : Nat → Int32) (vr : Int32), (y23.toInt ≤ va.toInt ∧ va.toInt ≤ y24.toInt ∧ y22.toInt ≤ vn.toInt ∧ vn.toInt - y22.toInt ≤ va.toInt - y23.toInt) → kt_eq y22.toInt.toNat fb fl fr_ gb gl gr → kp_good ((2 : Nat) : Int) d y23.toInt vn.toInt va.toInt vd.toInt vw.toInt vr.toInt gb gl gr → (y24.toInt - va.toInt).toNat < n → ∀ (H : Heap) (locs : List Loc), va_P D vwCl [(a0, .inr (7, [.ref m0, .int y1, .ref m2, .ref m3, .ref m4, .ref m5, .ref m6, .ref m7, .ref m8, .int y9, .int y10, .int y11, .int y12, .int y13, .int y14, .int y15, .ref m16, .ref m17, .ref m18, .ref m19, .ref m20, .ref m21, .int vn, .int va, .int y24, .int vd, .int y26, .int vw])), (m0, .inl (k6, 80, .inl ft)), (m18, .inl (k0, 60, .inl gb)), (m19, .inl (k1, 60, .inl gl)), (m20, .inl (k2, 60, .inl gr)), (m21, .inl (k3, 60, .inl gs))] H → va_D A [(a0, .inr (7, [.ref m0, .int y1, .ref m2, .ref m3, .ref m4, .ref m5, .ref m6, .ref m7, .ref m8, .int y9, .int y10, .int y11, .int y12, .int y13, .int y14, .int y15, .ref m16, .ref m17, .ref m18, .ref m19, .ref m20, .ref m21, .int vn, .int va, .int y24, .int vd, .int y26, .int vw])), (m0, .inl (k6, 80, .inl ft)), (m18, .inl (k0, 60, .inl gb)), (m19, .inl (k1, 60, .inl gl)), (m20, .inl (k2, 60, .inl gr)), (m21, .inl (k3, 60, .inl gs))] → va_S A s.heap H locs → ∀ (ls : Array Slot), lv_has ls 5 [(0, .ref a0), (1, .int 2), (2, .int 94), (3, .int vr)] → W p l e ({ frames := kp_fR 2 d, cells := 0, slots := 0, locals := 25 * kp_fR 2 d }) s m [.ref a0, .int 2].toArray below meth c H locs 0 0 (MQ below (ka_QE D A (fun (u : Int32 × Int32 × Int32 × Int32 × (Nat → Int32) × (Nat → Int32) × (Nat → Int32) × (Nat → Int32) × Int32) => some (.int u.2.2.2.2.2.2.2.2)) (fun u => kp_post ((2 : Nat) : Int) d y22.toInt y23.toInt y24.toInt fb fl fr_ u.1.toInt u.2.1.toInt u.2.2.1.toInt u.2.2.2.1.toInt u.2.2.2.2.2.2.2.2.toInt u.2.2.2.2.1 u.2.2.2.2.2.1 u.2.2.2.2.2.2.1) (fun u => [(a0, .inr (7, [.ref m0, .int y1, .ref m2, .ref m3, .ref m4, .ref m5, .ref m6, .ref m7, .ref m8, .int y9, .int y10, .int y11, .int y12, .int y13, .int y14, .int y15, .ref m16, .ref m17, .ref m18, .ref m19, .ref m20, .ref m21, .int u.1, .int u.2.1, .int y24, .int u.2.2.1, .int y26, .int u.2.2.2.1])), (m0, .inl (k6, 80, .inl ft)), (m18, .inl (k0, 60, .inl u.2.2.2.2.1)), (m19, .inl (k1, 60, .inl u.2.2.2.2.2.1)), (m20, .inl (k2, 60, .inl u.2.2.2.2.2.2.1)), (m21, .inl (k3, 60, .inl u.2.2.2.2.2.2.2.1))]) (fun _ => [])) [.ref a0, .int 2].toArray s 0 0 A) (F0 m 44 ls []) := by
      intro n
      induction n with
      | zero =>
        intro vn va vd vw gb gl gr gs vr h1 hEq hg hm
        exact absurd hm (Nat.not_lt_zero _)
      | succ n ih =>
        intro vn va vd vw gb gl gr gs vr h1 hEq hg hm H locs hP hD hS ls hl
        obtain ⟨hw0, hd0, k0_, w0_, e0_, l0_, ok0_, s0_⟩ := hg
        have rvn := ka_rng vn
        have rva := ka_rng va
        have rvd := ka_rng vd
        have rvw := ka_rng vw
        have rvr := ka_rng vr
        refine lv_aload_n hx hb dX7_row_44 rfl (lv_at hl 0 rfl) ?_
        refine ka_get C lqp_429 rfl hK hP 0 rfl 27 (by decide) lqp_430 rfl dX7_row_45 ?_
        refine lv_if_ne (tgt := 111) hx hb dX7_row_48 (by decide) (fun c_ => absurd (show vw = 0 from by rw [ka_eq', show ((0 : Int32)).toInt = 0 from by decide]; omega) c_) (fun _ => ?_)
        refine lv_aload_n hx hb dX7_row_51 rfl (lv_at hl 0 rfl) ?_
        refine lv_iload_n hx hb dX7_row_52 rfl (lv_at hl 2 rfl) ?_
        refine ka_EV (n := 1) (wr := [(m18, .inl (k0, 60, .inl gb)), (m19, .inl (k1, 60, .inl gl)), (m20, .inl (k2, 60, .inl gr)), (m21, .inl (k3, 60, .inl gs))]) C (ck_X7_is_409 l D F a0 m0 y1 m2 m3 m4 m5 m6 m7 m8 y9 y10 y11 y12 y13 y14 y15 m16 m17 m18 m19 m20 m21 vn va y24 vd y26 vw k6 ft ⟨by omega, by omega⟩ ⟨by omega, by omega⟩ ⟨by omega, by omega⟩ ⟨by omega, by omega⟩ ⟨by omega, by omega⟩ ⟨by omega, by omega⟩ ⟨by omega, by omega⟩ ⟨by omega, by omega⟩ ⟨by omega, by omega⟩ ⟨by omega, by omega⟩ hft (by omega)) gX7_row_X7_is rfl (by decide +kernel) ⟨show 1 + 1 ≤ kp_fR 2 d by simp only [kp_fN, kp_fR]; omega, show 8 + (2 + 11) + 20 ≤ 25 * kp_fR 2 d by simp only [kp_fN, kp_fR]; omega⟩ hK hP hD hS hA hE hN [0, 1] rfl (by decide) [2, 3, 4, 5] rfl (by decide) (by decide) [0] rfl (ci := 7) rfl rfl 0 rfl rfl hl.1 (rest := []) rfl (Nat.le_of_ble_eq_true rfl) dX7_row_53 ⟨Nat.le_of_ble_eq_true rfl, Nat.le_of_ble_eq_true rfl⟩ (fun u H locs hq hP hD hK hS => ?_)
        obtain ⟨v_32769, v_32770⟩ := u
        have hq : (0 ≤ v_32769.toInt ∧ v_32769.toInt ≤ 60) ∧ (0 ≤ v_32770.toInt ∧ v_32770.toInt ≤ 1) ∧ (va.toInt ≤ v_32769.toInt ∧ v_32769.toInt ≤ y24.toInt ∧ (v_32770.toInt = 0 ∨ v_32769.toInt < y24.toInt)) := hq
        obtain ⟨hv_32769, hv_32770, hzz_32771⟩ := hq
        have rv_32769 := ka_rng v_32769
        have rv_32770 := ka_rng v_32770
        have hP : va_P D vwCl [(m18, .inl (k0, 60, .inl gb)), (m19, .inl (k1, 60, .inl gl)), (m20, .inl (k2, 60, .inl gr)), (m21, .inl (k3, 60, .inl gs)), (a0, .inr (7, [.ref m0, .int y1, .ref m2, .ref m3, .ref m4, .ref m5, .ref m6, .ref m7, .ref m8, .int y9, .int y10, .int y11, .int y12, .int y13, .int y14, .int y15, .ref m16, .ref m17, .ref m18, .ref m19, .ref m20, .ref m21, .int vn, .int v_32769, .int y24, .int vd, .int y26, .int vw])), (m0, .inl (k6, 80, .inl ft))] H := hP
        have hD : va_D A [(m18, .inl (k0, 60, .inl gb)), (m19, .inl (k1, 60, .inl gl)), (m20, .inl (k2, 60, .inl gr)), (m21, .inl (k3, 60, .inl gs)), (a0, .inr (7, [.ref m0, .int y1, .ref m2, .ref m3, .ref m4, .ref m5, .ref m6, .ref m7, .ref m8, .int y9, .int y10, .int y11, .int y12, .int y13, .int y14, .int y15, .ref m16, .ref m17, .ref m18, .ref m19, .ref m20, .ref m21, .int vn, .int v_32769, .int y24, .int vd, .int y26, .int vw])), (m0, .inl (k6, 80, .inl ft))] := hD
        have hK : va_K D vwCl [(k6, .byte), (k0, .int), (k1, .int), (k2, .int), (k3, .int)] s := by simpa using hK
        refine ka_stk (w := [.int v_32770]) rfl ?_
        refine lv_if_eq (tgt := 111) hx hb dX7_row_56 (by decide) (fun c_32772 => ?_) (fun c_32772 => ?_)
        · have c_32772 : v_32770.toInt = 0 := by rw [ka_eq', show ((0 : Int32)).toInt = 0 from by decide] at c_32772; exact c_32772
          refine lv_iload_n hx hb dX7_row_111 rfl (lv_at hl 3 rfl) ?_
          have hgood : kp_good ((2 : Nat) : Int) d y23.toInt ((vn : Int32)).toInt ((v_32769 : Int32)).toInt ((vd : Int32)).toInt ((vw : Int32)).toInt ((vr : Int32)).toInt gb gl gr := ⟨by omega, by omega, k0_, w0_, by omega, by omega, ok0_, by omega⟩
          exact ka_rEi C hr hlk (Nat.le_of_ble_eq_true rfl) (Nat.le_of_ble_eq_true rfl) hS (ka_qE (vn, v_32769, vd, vw, gb, gl, gr, gs, vr) rfl (show kp_post ((2 : Nat) : Int) d y22.toInt y23.toInt y24.toInt fb fl fr_ ((vn : Int32)).toInt ((v_32769 : Int32)).toInt ((vd : Int32)).toInt ((vw : Int32)).toInt ((vr : Int32)).toInt gb gl gr from ⟨⟨by omega, by omega, by omega, by omega⟩, hEq, Or.inr hgood⟩) hK hP hD hS [4, 5, 0, 1, 2, 3] (by decide) rfl [] rfl) dX7_row_112
        · have c_32772 : ¬ v_32770.toInt = 0 := by rw [ka_eq', show ((0 : Int32)).toInt = 0 from by decide] at c_32772; exact c_32772
          refine lv_aload_n hx hb dX7_row_59 rfl (lv_at hl 0 rfl) ?_
          refine lv_dup hx hb dX7_row_60 rfl ?_
          refine ka_get C lqp_429 rfl hK hP 4 rfl 23 (by decide) lqp_431 rfl dX7_row_61 ?_
          refine lv_iconst (v := 1) hx hb dX7_row_64 (by decide) ?_
          refine lv_iadd hx hb dX7_row_65 ?_
          refine lv_topi (fun v_32773 ev_32773 => ?_)
          have fv_32773 : v_32773.toInt = v_32769.toInt + 1 := by rw [ev_32773]; exact ka_add (x := v_32769.toInt) (y := 1) rfl (by decide) (by omega) (by omega)
          refine ka_put C lqp_429 tyX7 tyX7_ok nmX7 rfl hK hP hD hS 4 rfl 23 (by decide) lqp_431 rfl rfl rfl (Nat.le_of_ble_eq_true rfl) dX7_row_66 (fun H locs hP hD hS => ?_)
          have hP : va_P D vwCl [(m18, .inl (k0, 60, .inl gb)), (m19, .inl (k1, 60, .inl gl)), (m20, .inl (k2, 60, .inl gr)), (m21, .inl (k3, 60, .inl gs)), (a0, .inr (7, [.ref m0, .int y1, .ref m2, .ref m3, .ref m4, .ref m5, .ref m6, .ref m7, .ref m8, .int y9, .int y10, .int y11, .int y12, .int y13, .int y14, .int y15, .ref m16, .ref m17, .ref m18, .ref m19, .ref m20, .ref m21, .int vn, .int v_32773, .int y24, .int vd, .int y26, .int vw])), (m0, .inl (k6, 80, .inl ft))] H := hP
          have hD : va_D A [(m18, .inl (k0, 60, .inl gb)), (m19, .inl (k1, 60, .inl gl)), (m20, .inl (k2, 60, .inl gr)), (m21, .inl (k3, 60, .inl gs)), (a0, .inr (7, [.ref m0, .int y1, .ref m2, .ref m3, .ref m4, .ref m5, .ref m6, .ref m7, .ref m8, .int y9, .int y10, .int y11, .int y12, .int y13, .int y14, .int y15, .ref m16, .ref m17, .ref m18, .ref m19, .ref m20, .ref m21, .int vn, .int v_32773, .int y24, .int vd, .int y26, .int vw])), (m0, .inl (k6, 80, .inl ft))] := hD
          refine lv_iload_n hx hb dX7_row_69 rfl (lv_at hl 1 rfl) ?_
          refine lv_iconst (v := 3) hx hb dX7_row_70 (by decide) ?_
          refine lv_icmp_ne (tgt := 82) hx hb dX7_row_71 (by decide) (fun _ => ?_) (fun c_ => absurd c_ (by decide))
          refine lv_aload_n hx hb dX7_row_82 rfl (lv_at hl 0 rfl) ?_
          refine lv_iload_n hx hb dX7_row_83 rfl (lv_at hl 1 rfl) ?_
          refine lv_iconst (v := 1) hx hb dX7_row_84 (by decide) ?_
          refine lv_iadd hx hb dX7_row_85 ?_
          refine ka_top (w := .int 3) (congrArg Value.int (by decide)) ?_
          refine ka_EV (n := 1) (wr := []) C (hc l D F a0 m0 y1 m2 m3 m4 m5 m6 m7 m8 y9 y10 y11 y12 y13 y14 y15 m16 m17 m18 m19 m20 m21 vn v_32773 y24 vd y26 vw k6 k0 k1 k2 k3 ft gb gl gr gs 3 ⟨by omega, by omega⟩ ⟨by omega, by omega⟩ ⟨by omega, by omega⟩ ⟨by omega, by omega⟩ ⟨by omega, by omega⟩ ⟨by omega, by omega⟩ ⟨by omega, by omega⟩ ⟨by omega, by omega⟩ ⟨by omega, by omega⟩ ⟨by omega, by omega⟩ hft ⟨by omega, by omega⟩ (by omega) (by omega) (by decide)) gX7_row_X7_row rfl (by decide +kernel) ⟨show (kp_fR 3 d) + 1 ≤ kp_fR 2 d by simp only [kp_fN, kp_fR]; omega, show 8 + (5 + 11) + 25 * (kp_fR 3 d) ≤ 25 * kp_fR 2 d by simp only [kp_fN, kp_fR]; omega⟩ hK hP hD hS hA hE hN [4, 5, 0, 1, 2, 3] rfl (by decide) [] rfl (by decide) (by decide) [0, 1, 2, 3, 4] rfl (ci := 7) rfl rfl 4 rfl rfl hl.1 (rest := []) rfl (Nat.le_of_ble_eq_true rfl) dX7_row_86 ⟨Nat.le_of_ble_eq_true rfl, Nat.le_of_ble_eq_true rfl⟩ (fun u H locs hq hP hD hK hS => ?_)
          obtain ⟨v_32774, v_32775, v_32776, v_32777, g_32779, g_32780, g_32781, g_32782, v_32778⟩ := u
          have hq : kp_post ((3 : Nat) : Int) d vn.toInt v_32773.toInt y24.toInt gb gl gr v_32774.toInt v_32775.toInt v_32776.toInt v_32777.toInt v_32778.toInt g_32779 g_32780 g_32781 := hq
          obtain ⟨h1q_32783, h2q_32783, h3q_32783⟩ := hq
          have rv_32774 := ka_rng v_32774
          have rv_32775 := ka_rng v_32775
          have rv_32776 := ka_rng v_32776
          have rv_32777 := ka_rng v_32777
          have rv_32778 := ka_rng v_32778
          have hP : va_P D vwCl [(a0, .inr (7, [.ref m0, .int y1, .ref m2, .ref m3, .ref m4, .ref m5, .ref m6, .ref m7, .ref m8, .int y9, .int y10, .int y11, .int y12, .int y13, .int y14, .int y15, .ref m16, .ref m17, .ref m18, .ref m19, .ref m20, .ref m21, .int v_32774, .int v_32775, .int y24, .int v_32776, .int y26, .int v_32777])), (m0, .inl (k6, 80, .inl ft)), (m18, .inl (k0, 60, .inl g_32779)), (m19, .inl (k1, 60, .inl g_32780)), (m20, .inl (k2, 60, .inl g_32781)), (m21, .inl (k3, 60, .inl g_32782))] H := hP
          have hD : va_D A [(a0, .inr (7, [.ref m0, .int y1, .ref m2, .ref m3, .ref m4, .ref m5, .ref m6, .ref m7, .ref m8, .int y9, .int y10, .int y11, .int y12, .int y13, .int y14, .int y15, .ref m16, .ref m17, .ref m18, .ref m19, .ref m20, .ref m21, .int v_32774, .int v_32775, .int y24, .int v_32776, .int y26, .int v_32777])), (m0, .inl (k6, 80, .inl ft)), (m18, .inl (k0, 60, .inl g_32779)), (m19, .inl (k1, 60, .inl g_32780)), (m20, .inl (k2, 60, .inl g_32781)), (m21, .inl (k3, 60, .inl g_32782))] := hD
          have hK : va_K D vwCl [(k6, .byte), (k0, .int), (k1, .int), (k2, .int), (k3, .int)] s := by simpa using hK
          refine ka_stk (w := [.int v_32778]) rfl ?_
          have hEq : kt_eq y22.toInt.toNat fb fl fr_ g_32779 g_32780 g_32781 := kt_eq_tr hEq (by omega) h2q_32783
          rcases h3q_32783 with ⟨hwq_32783, hd1q_32783, hd2q_32783⟩ | ⟨hwq_32783, hdq_32783, k_32784, wk_32784, ek_32784, lk_32784, okk_32784, sk_32784⟩
          · skip
            refine lv_istore (lv' := [(4, .int v_32778), (0, .ref a0), (1, .int 2), (2, .int 94), (3, .int vr)]) hx hb dX7_row_89 hl (by decide) rfl (fun ls hl => ?_)
            refine lv_aload_n hx hb dX7_row_91 rfl (lv_at hl 1 rfl) ?_
            refine ka_get C lqp_429 rfl hK hP 0 rfl 27 (by decide) lqp_430 rfl dX7_row_92 ?_
            refine lv_if_ne (tgt := 108) hx hb dX7_row_95 (by decide) (fun _ => ?_) (fun c_ => absurd c_ (show ¬ v_32777 = 0 from by rw [ka_eq', show ((0 : Int32)).toInt = 0 from by decide]; omega))
            refine lv_goto (tgt := 44) hx hb dX7_row_108 (by decide) ?_
            refine lv_aload_n hx hb dX7_row_44 rfl (lv_at hl 1 rfl) ?_
            refine ka_get C lqp_429 rfl hK hP 0 rfl 27 (by decide) lqp_430 rfl dX7_row_45 ?_
            refine lv_if_ne (tgt := 111) hx hb dX7_row_48 (by decide) (fun _ => ?_) (fun c_ => absurd c_ (show ¬ v_32777 = 0 from by rw [ka_eq', show ((0 : Int32)).toInt = 0 from by decide]; omega))
            refine lv_iload_n hx hb dX7_row_111 rfl (lv_at hl 4 rfl) ?_
            exact ka_rEi C hr hlk (Nat.le_of_ble_eq_true rfl) (Nat.le_of_ble_eq_true rfl) hS (ka_qE (v_32774, v_32775, v_32776, v_32777, g_32779, g_32780, g_32781, g_32782, vr) rfl (show kp_post ((2 : Nat) : Int) d y22.toInt y23.toInt y24.toInt fb fl fr_ ((v_32774 : Int32)).toInt ((v_32775 : Int32)).toInt ((v_32776 : Int32)).toInt ((v_32777 : Int32)).toInt ((vr : Int32)).toInt g_32779 g_32780 g_32781 from ⟨⟨by omega, by omega, by omega, by omega⟩, hEq, Or.inl ⟨by omega, by omega, by omega⟩⟩) hK hP hD hS [0, 1, 2, 3, 4, 5] (by decide) rfl [] rfl) dX7_row_112
          · have okA : kt_ok g_32779 g_32780 g_32781 k0_ w0_ := kt_ok_eq h2q_32783 (by omega) ok0_
            have brA : kt_br g_32779 k0_ ((2 : Nat) : Int) = kt_br gb k0_ ((2 : Nat) : Int) := kt_br_eq h2q_32783 (by omega)
            refine lv_istore (lv' := [(4, .int v_32778), (0, .ref a0), (1, .int 2), (2, .int 94), (3, .int vr)]) hx hb dX7_row_89 hl (by decide) rfl (fun ls hl => ?_)
            refine lv_aload_n hx hb dX7_row_91 rfl (lv_at hl 1 rfl) ?_
            refine ka_get C lqp_429 rfl hK hP 0 rfl 27 (by decide) lqp_430 rfl dX7_row_92 ?_
            refine lv_if_ne (tgt := 108) hx hb dX7_row_95 (by decide) (fun c_ => absurd (show v_32777 = 0 from by rw [ka_eq', show ((0 : Int32)).toInt = 0 from by decide]; omega) c_) (fun _ => ?_)
            refine lv_aload_n hx hb dX7_row_98 rfl (lv_at hl 1 rfl) ?_
            refine lv_iload_n hx hb dX7_row_99 rfl (lv_at hl 2 rfl) ?_
            refine lv_iload_n hx hb dX7_row_100 rfl (lv_at hl 3 rfl) ?_
            refine lv_iload_n hx hb dX7_row_101 rfl (lv_at hl 4 rfl) ?_
            refine lv_iload hx hb dX7_row_102 (lv_at hl 0 rfl) ?_
            obtain ⟨N_32787, eN_32787⟩ : ∃ z : Nat, v_32774.toInt = (z : Int) := ⟨v_32774.toInt.toNat, by omega⟩
            refine ka_EV (n := 4) (wr := [(m0, .inl (k6, 80, .inl ft))]) C (kt_node l D F a0 m0 y1 m2 m3 m4 m5 m6 m7 m8 y9 y10 y11 y12 y13 y14 y15 m16 m17 m18 m19 m20 m21 v_32774 v_32775 y24 v_32776 y26 v_32777 k0 k1 k2 k3 g_32779 g_32780 g_32781 g_32782 2 94 vr v_32778 ⟨by omega, by omega⟩) gX7_row_X7_node rfl (by decide +kernel) ⟨show 0 + 1 ≤ kp_fR 2 d by simp only [kp_fN, kp_fR]; omega, show 8 + (5 + 11) + 0 ≤ 25 * kp_fR 2 d by simp only [kp_fN, kp_fR]; omega⟩ hK hP hD hS hA hE hN [0, 2, 3, 4, 5] rfl (by decide) [1] rfl (by decide) (by decide) [1, 2, 3, 4] rfl (ci := 7) rfl rfl 0 rfl rfl hl.1 (rest := []) rfl (Nat.le_of_ble_eq_true rfl) dX7_row_104 ⟨Nat.le_of_ble_eq_true rfl, Nat.le_of_ble_eq_true rfl⟩ (fun u H locs hq hP hD hK hS => ?_)
            obtain ⟨v_32785, v_32786⟩ := u
            have hq : v_32785.toInt = v_32774.toInt + 1 ∧ v_32786.toInt = v_32774.toInt := hq
            obtain ⟨fv_32785, fv_32786⟩ := hq
            have hP : va_P D vwCl [(m0, .inl (k6, 80, .inl ft)), (a0, .inr (7, [.ref m0, .int y1, .ref m2, .ref m3, .ref m4, .ref m5, .ref m6, .ref m7, .ref m8, .int y9, .int y10, .int y11, .int y12, .int y13, .int y14, .int y15, .ref m16, .ref m17, .ref m18, .ref m19, .ref m20, .ref m21, .int v_32785, .int v_32775, .int y24, .int v_32776, .int y26, .int v_32777])), (m18, .inl (k0, 60, .inl (upd g_32779 (Int32.toNatClampNeg v_32774) 2))), (m19, .inl (k1, 60, .inl (upd g_32780 (Int32.toNatClampNeg v_32774) vr))), (m20, .inl (k2, 60, .inl (upd g_32781 (Int32.toNatClampNeg v_32774) v_32778))), (m21, .inl (k3, 60, .inl (upd g_32782 (Int32.toNatClampNeg v_32774) 94)))] H := hP
            have hD : va_D A [(m0, .inl (k6, 80, .inl ft)), (a0, .inr (7, [.ref m0, .int y1, .ref m2, .ref m3, .ref m4, .ref m5, .ref m6, .ref m7, .ref m8, .int y9, .int y10, .int y11, .int y12, .int y13, .int y14, .int y15, .ref m16, .ref m17, .ref m18, .ref m19, .ref m20, .ref m21, .int v_32785, .int v_32775, .int y24, .int v_32776, .int y26, .int v_32777])), (m18, .inl (k0, 60, .inl (upd g_32779 (Int32.toNatClampNeg v_32774) 2))), (m19, .inl (k1, 60, .inl (upd g_32780 (Int32.toNatClampNeg v_32774) vr))), (m20, .inl (k2, 60, .inl (upd g_32781 (Int32.toNatClampNeg v_32774) v_32778))), (m21, .inl (k3, 60, .inl (upd g_32782 (Int32.toNatClampNeg v_32774) 94)))] := hD
            have hK : va_K D vwCl [(k6, .byte), (k0, .int), (k1, .int), (k2, .int), (k3, .int)] s := by simpa using hK
            refine ka_stk (w := [.int v_32786]) rfl ?_
            rw [kp_cl eN_32787] at hP hD
            have hEq : kt_eq y22.toInt.toNat fb fl fr_ (upd g_32779 N_32787 2) (upd g_32780 N_32787 vr) (upd g_32781 N_32787 v_32778) := kt_eq_tr hEq (by omega) (kt_eq_upd (N := N_32787))
            have hbN : ((upd g_32779 N_32787 2) N_32787).toInt = ((2 : Nat) : Int) := by rw [pk_us]; decide
            have okA2 : kt_ok (upd g_32779 N_32787 2) (upd g_32780 N_32787 vr) (upd g_32781 N_32787 v_32778) k0_ w0_ := kt_ok_eq (kt_eq_upd (N := N_32787)) (by omega) okA
            have okB2 : kt_ok (upd g_32779 N_32787 2) (upd g_32780 N_32787 vr) (upd g_32781 N_32787 v_32778) k_32784 wk_32784 := kt_ok_eq (kt_eq_upd (N := N_32787)) (by omega) okk_32784
            have hok := kt_bin (by omega) (by omega) (by rw [pk_us]; exact e0_) (show k0_ < N_32787 by omega) okA2 (by rw [pk_us]; exact ek_32784) (show k_32784 < N_32787 by omega) okB2
            rw [hbN] at hok
            have brA2 : kt_br (upd g_32779 N_32787 2) k0_ ((2 : Nat) : Int) = kt_br g_32779 k0_ ((2 : Nat) : Int) := kt_br_eq (kt_eq_upd (N := N_32787) (l := g_32780) (r := g_32781) (v := vr) (w := v_32778)) (by omega)
            have brB2 : kt_br (upd g_32779 N_32787 2) k_32784 ((2 : Nat) : Int) = kt_br g_32779 k_32784 ((2 : Nat) : Int) := kt_br_eq (kt_eq_upd (N := N_32787) (l := g_32780) (r := g_32781) (v := vr) (w := v_32778)) (by omega)
            have hle := kt_br_le (b := g_32779) (a := k_32784) (show ((2 : Nat) : Int) ≤ ((3 : Nat) : Int) by omega)
            have hbr : kt_br (upd g_32779 N_32787 2) N_32787 ((2 : Nat) : Int) = 0 := kp_br_own (by omega)
            clear okA2 okB2
            generalize (upd g_32779 N_32787 2) = g_32788 at hP hD hEq hok hbr hbN brA2 brB2
            generalize (upd g_32780 N_32787 vr) = g_32789 at hP hD hEq hok
            generalize (upd g_32781 N_32787 v_32778) = g_32790 at hP hD hEq hok
            generalize (upd g_32782 N_32787 94) = g_32791 at hP hD
            refine lv_istore_n (lv' := [(3, .int v_32786), (4, .int v_32778), (0, .ref a0), (1, .int 2), (2, .int 94)]) hx hb dX7_row_107 rfl hl (by decide) rfl (fun ls hl => ?_)
            refine lv_goto (tgt := 44) hx hb dX7_row_108 (by decide) ?_
            have hgood : kp_good ((2 : Nat) : Int) d y23.toInt ((v_32785 : Int32)).toInt ((v_32775 : Int32)).toInt ((v_32776 : Int32)).toInt ((v_32777 : Int32)).toInt ((v_32786 : Int32)).toInt g_32788 g_32789 g_32790 := ⟨by omega, by omega, N_32787, _, by omega, by omega, hok, by omega⟩
            exact ih v_32785 v_32775 v_32776 v_32777 g_32788 g_32789 g_32790 g_32791 v_32786 ⟨by omega, by omega, by omega, by omega⟩ hEq hgood (by omega) H locs (hP.sub [1, 0, 2, 3, 4, 5] rfl) (hD.sub [1, 0, 2, 3, 4, 5] (by decide) rfl) hS ls (lv_sub hl [2, 3, 4, 0] rfl)
    have hle := kt_br_le (b := g_32763) (a := k_32768) (show ((2 : Nat) : Int) ≤ ((3 : Nat) : Int) by omega)
    have hgood : kp_good ((2 : Nat) : Int) d y23.toInt ((v_32758 : Int32)).toInt ((v_32759 : Int32)).toInt ((v_32760 : Int32)).toInt ((v_32761 : Int32)).toInt ((v_32762 : Int32)).toInt g_32763 g_32764 g_32765 := ⟨by omega, by omega, k_32768, wk_32768, by omega, by omega, okk_32768, by omega⟩
    exact lp _ v_32758 v_32759 v_32760 v_32761 g_32763 g_32764 g_32765 g_32766 v_32762 ⟨by omega, by omega, by omega, by omega⟩ hEq hgood (Nat.lt_succ_self _) H locs (hP.sub [0, 1, 2, 3, 4, 5] rfl) (hD.sub [0, 1, 2, 3, 4, 5] (by decide) rfl) hS ls (lv_sub hl [2, 3, 1, 0] rfl)
set_option maxHeartbeats 4000000 in
set_option maxRecDepth 100000 in
theorem kt_row_of1 (d : Nat) (hc : kp_R 2 d) : kp_R 1 d := by
  unfold kp_R kp_K
  intro l D F a0 m0 y1 m2 m3 m4 m5 m6 m7 m8 y9 y10 y11 y12 y13 y14 y15 m16 m17 m18 m19 m20 m21 y22 y23 y24 y25 y26 y27 k6 k0 k1 k2 k3 ft fb fl fr_ fs x1 hy1 hy9 hy12 hy13 hy15 hy22 hy23 hy24 hy25 hy27 hft hrel hdeep hnw hx1
  obtain rfl : x1 = 1 := (ka_eq' _ _).mpr (hx1.trans (by decide))
  refine ka_E_of (cc := cX7_row) (maxL := 5) (ret := (some .int)) (by decide) rfl (Nat.le_of_ble_eq_true rfl) ?_
  intro p e s m below meth c ls A C hr hlk hin hP hK hD hS hA hE hN hl
  have C : CallFix p m c cX7_row 5 s [.ref a0, .int 1].toArray wsX7_row RX7 := C
  obtain ⟨hx, hb, hml, hown, hts⟩ := id C
  have hl : lv_has ls 5 [(0, .ref a0), (1, .int 1)] := hl
  have ry1 := ka_rng y1
  have ry9 := ka_rng y9
  have ry10 := ka_rng y10
  have ry11 := ka_rng y11
  have ry12 := ka_rng y12
  have ry13 := ka_rng y13
  have ry14 := ka_rng y14
  have ry15 := ka_rng y15
  have ry22 := ka_rng y22
  have ry23 := ka_rng y23
  have ry24 := ka_rng y24
  have ry25 := ka_rng y25
  have ry26 := ka_rng y26
  have ry27 := ka_rng y27
  have hEq : kt_eq y22.toInt.toNat fb fl fr_ fb fl fr_ := kt_eq_rf
  refine lv_iload_n hx hb dX7_row_0 rfl (lv_at hl 1 rfl) ?_
  refine lv_iconst (v := 1) hx hb dX7_row_1 (by decide) ?_
  refine lv_icmp_ne (tgt := 10) hx hb dX7_row_2 (by decide) (fun c_ => absurd (by decide) c_) (fun _ => ?_)
  refine lv_bipush (v := 124) hx hb dX7_row_5 (by decide) ?_
  refine lv_goto (tgt := 22) hx hb dX7_row_7 (by decide) ?_
  refine lv_istore_n (lv' := [(2, .int 124), (0, .ref a0), (1, .int 1)]) hx hb dX7_row_22 rfl hl (by decide) rfl (fun ls hl => ?_)
  refine lv_iload_n hx hb dX7_row_23 rfl (lv_at hl 2 rfl) ?_
  refine lv_iconst (v := 3) hx hb dX7_row_24 (by decide) ?_
  refine lv_icmp_ne (tgt := 36) hx hb dX7_row_25 (by decide) (fun _ => ?_) (fun c_ => absurd c_ (by decide))
  refine lv_aload_n hx hb dX7_row_36 rfl (lv_at hl 1 rfl) ?_
  refine lv_iload_n hx hb dX7_row_37 rfl (lv_at hl 2 rfl) ?_
  refine lv_iconst (v := 1) hx hb dX7_row_38 (by decide) ?_
  refine lv_iadd hx hb dX7_row_39 ?_
  refine ka_top (w := .int 2) (congrArg Value.int (by decide)) ?_
  refine ka_EV (n := 1) (wr := []) C (hc l D F a0 m0 y1 m2 m3 m4 m5 m6 m7 m8 y9 y10 y11 y12 y13 y14 y15 m16 m17 m18 m19 m20 m21 y22 y23 y24 y25 y26 y27 k6 k0 k1 k2 k3 ft fb fl fr_ fs 2 ⟨by omega, by omega⟩ ⟨by omega, by omega⟩ ⟨by omega, by omega⟩ ⟨by omega, by omega⟩ ⟨by omega, by omega⟩ ⟨by omega, by omega⟩ ⟨by omega, by omega⟩ ⟨by omega, by omega⟩ ⟨by omega, by omega⟩ ⟨by omega, by omega⟩ hft ⟨by omega, by omega⟩ (by omega) (by omega) (by decide)) gX7_row_X7_row rfl (by decide +kernel) ⟨show (kp_fR 2 d) + 1 ≤ kp_fR 1 d by simp only [kp_fN, kp_fR]; omega, show 8 + (5 + 11) + 25 * (kp_fR 2 d) ≤ 25 * kp_fR 1 d by simp only [kp_fN, kp_fR]; omega⟩ hK hP hD hS hA hE hN [0, 1, 2, 3, 4, 5] rfl (by decide) [] rfl (by decide) (by decide) [0, 1, 2, 3, 4] rfl (ci := 7) rfl rfl 0 rfl rfl hl.1 (rest := []) rfl (Nat.le_of_ble_eq_true rfl) dX7_row_40 ⟨Nat.le_of_ble_eq_true rfl, Nat.le_of_ble_eq_true rfl⟩ (fun u H locs hq hP hD hK hS => ?_)
  obtain ⟨v_32792, v_32793, v_32794, v_32795, g_32797, g_32798, g_32799, g_32800, v_32796⟩ := u
  have hq : kp_post ((2 : Nat) : Int) d y22.toInt y23.toInt y24.toInt fb fl fr_ v_32792.toInt v_32793.toInt v_32794.toInt v_32795.toInt v_32796.toInt g_32797 g_32798 g_32799 := hq
  obtain ⟨h1q_32801, h2q_32801, h3q_32801⟩ := hq
  have rv_32792 := ka_rng v_32792
  have rv_32793 := ka_rng v_32793
  have rv_32794 := ka_rng v_32794
  have rv_32795 := ka_rng v_32795
  have rv_32796 := ka_rng v_32796
  have hP : va_P D vwCl [(a0, .inr (7, [.ref m0, .int y1, .ref m2, .ref m3, .ref m4, .ref m5, .ref m6, .ref m7, .ref m8, .int y9, .int y10, .int y11, .int y12, .int y13, .int y14, .int y15, .ref m16, .ref m17, .ref m18, .ref m19, .ref m20, .ref m21, .int v_32792, .int v_32793, .int y24, .int v_32794, .int y26, .int v_32795])), (m0, .inl (k6, 80, .inl ft)), (m18, .inl (k0, 60, .inl g_32797)), (m19, .inl (k1, 60, .inl g_32798)), (m20, .inl (k2, 60, .inl g_32799)), (m21, .inl (k3, 60, .inl g_32800))] H := hP
  have hD : va_D A [(a0, .inr (7, [.ref m0, .int y1, .ref m2, .ref m3, .ref m4, .ref m5, .ref m6, .ref m7, .ref m8, .int y9, .int y10, .int y11, .int y12, .int y13, .int y14, .int y15, .ref m16, .ref m17, .ref m18, .ref m19, .ref m20, .ref m21, .int v_32792, .int v_32793, .int y24, .int v_32794, .int y26, .int v_32795])), (m0, .inl (k6, 80, .inl ft)), (m18, .inl (k0, 60, .inl g_32797)), (m19, .inl (k1, 60, .inl g_32798)), (m20, .inl (k2, 60, .inl g_32799)), (m21, .inl (k3, 60, .inl g_32800))] := hD
  have hK : va_K D vwCl [(k6, .byte), (k0, .int), (k1, .int), (k2, .int), (k3, .int)] s := by simpa using hK
  refine ka_stk (w := [.int v_32796]) rfl ?_
  have hEq : kt_eq y22.toInt.toNat fb fl fr_ g_32797 g_32798 g_32799 := kt_eq_tr hEq (by omega) h2q_32801
  rcases h3q_32801 with ⟨hwq_32801, hd1q_32801, hd2q_32801⟩ | ⟨hwq_32801, hdq_32801, k_32802, wk_32802, ek_32802, lk_32802, okk_32802, sk_32802⟩
  · skip
    refine lv_istore_n (lv' := [(3, .int v_32796), (2, .int 124), (0, .ref a0), (1, .int 1)]) hx hb dX7_row_43 rfl hl (by decide) rfl (fun ls hl => ?_)
    refine lv_aload_n hx hb dX7_row_44 rfl (lv_at hl 2 rfl) ?_
    refine ka_get C lqp_429 rfl hK hP 0 rfl 27 (by decide) lqp_430 rfl dX7_row_45 ?_
    refine lv_if_ne (tgt := 111) hx hb dX7_row_48 (by decide) (fun _ => ?_) (fun c_ => absurd c_ (show ¬ v_32795 = 0 from by rw [ka_eq', show ((0 : Int32)).toInt = 0 from by decide]; omega))
    refine lv_iload_n hx hb dX7_row_111 rfl (lv_at hl 0 rfl) ?_
    exact ka_rEi C hr hlk (Nat.le_of_ble_eq_true rfl) (Nat.le_of_ble_eq_true rfl) hS (ka_qE (v_32792, v_32793, v_32794, v_32795, g_32797, g_32798, g_32799, g_32800, v_32796) rfl (show kp_post ((1 : Nat) : Int) d y22.toInt y23.toInt y24.toInt fb fl fr_ ((v_32792 : Int32)).toInt ((v_32793 : Int32)).toInt ((v_32794 : Int32)).toInt ((v_32795 : Int32)).toInt ((v_32796 : Int32)).toInt g_32797 g_32798 g_32799 from ⟨⟨by omega, by omega, by omega, by omega⟩, hEq, Or.inl ⟨by omega, by omega, by omega⟩⟩) hK hP hD hS [0, 1, 2, 3, 4, 5] (by decide) rfl [] rfl) dX7_row_112
  · skip
    refine lv_istore_n (lv' := [(3, .int v_32796), (2, .int 124), (0, .ref a0), (1, .int 1)]) hx hb dX7_row_43 rfl hl (by decide) rfl (fun ls hl => ?_)
    have lp : ∀ (n : Nat) (vn va vd vw : Int32) (gb gl gr gs : Nat → Int32) (vr : Int32), (y23.toInt ≤ va.toInt ∧ va.toInt ≤ y24.toInt ∧ y22.toInt ≤ vn.toInt ∧ vn.toInt - y22.toInt ≤ va.toInt - y23.toInt) → kt_eq y22.toInt.toNat fb fl fr_ gb gl gr → kp_good ((1 : Nat) : Int) d y23.toInt vn.toInt va.toInt vd.toInt vw.toInt vr.toInt gb gl gr → (y24.toInt - va.toInt).toNat < n → ∀ (H : Heap) (locs : List Loc), va_P D vwCl [(a0, .inr (7, [.ref m0, .int y1, .ref m2, .ref m3, .ref m4, .ref m5, .ref m6, .ref m7, .ref m8, .int y9, .int y10, .int y11, .int y12, .int y13, .int y14, .int y15, .ref m16, .ref m17, .ref m18, .ref m19, .ref m20, .ref m21, .int vn, .int va, .int y24, .int vd, .int y26, .int vw])), (m0, .inl (k6, 80, .inl ft)), (m18, .inl (k0, 60, .inl gb)), (m19, .inl (k1, 60, .inl gl)), (m20, .inl (k2, 60, .inl gr)), (m21, .inl (k3, 60, .inl gs))] H → va_D A [(a0, .inr (7, [.ref m0, .int y1, .ref m2, .ref m3, .ref m4, .ref m5, .ref m6, .ref m7, .ref m8, .int y9, .int y10, .int y11, .int y12, .int y13, .int y14, .int y15, .ref m16, .ref m17, .ref m18, .ref m19, .ref m20, .ref m21, .int vn, .int va, .int y24, .int vd, .int y26, .int vw])), (m0, .inl (k6, 80, .inl ft)), (m18, .inl (k0, 60, .inl gb)), (m19, .inl (k1, 60, .inl gl)), (m20, .inl (k2, 60, .inl gr)), (m21, .inl (k3, 60, .inl gs))] → va_S A s.heap H locs → ∀ (ls : Array Slot), lv_has ls 5 [(0, .ref a0), (1, .int 1), (2, .int 124), (3, .int vr)] → W p l e ({ frames := kp_fR 1 d, cells := 0, slots := 0, locals := 25 * kp_fR 1 d }) s m [.ref a0, .int 1].toArray below meth c H locs 0 0 (MQ below (ka_QE D A (fun (u : Int32 × Int32 × Int32 × Int32 × (Nat → Int32) × (Nat → Int32) × (Nat → Int32) × (Nat → Int32) × Int32) => some (.int u.2.2.2.2.2.2.2.2)) (fun u => kp_post ((1 : Nat) : Int) d y22.toInt y23.toInt y24.toInt fb fl fr_ u.1.toInt u.2.1.toInt u.2.2.1.toInt u.2.2.2.1.toInt u.2.2.2.2.2.2.2.2.toInt u.2.2.2.2.1 u.2.2.2.2.2.1 u.2.2.2.2.2.2.1) (fun u => [(a0, .inr (7, [.ref m0, .int y1, .ref m2, .ref m3, .ref m4, .ref m5, .ref m6, .ref m7, .ref m8, .int y9, .int y10, .int y11, .int y12, .int y13, .int y14, .int y15, .ref m16, .ref m17, .ref m18, .ref m19, .ref m20, .ref m21, .int u.1, .int u.2.1, .int y24, .int u.2.2.1, .int y26, .int u.2.2.2.1])), (m0, .inl (k6, 80, .inl ft)), (m18, .inl (k0, 60, .inl u.2.2.2.2.1)), (m19, .inl (k1, 60, .inl u.2.2.2.2.2.1)), (m20, .inl (k2, 60, .inl u.2.2.2.2.2.2.1)), (m21, .inl (k3, 60, .inl u.2.2.2.2.2.2.2.1))]) (fun _ => [])) [.ref a0, .int 1].toArray s 0 0 A) (F0 m 44 ls []) := by
      intro n
      induction n with
      | zero =>
        intro vn va vd vw gb gl gr gs vr h1 hEq hg hm
        exact absurd hm (Nat.not_lt_zero _)
      | succ n ih =>
        intro vn va vd vw gb gl gr gs vr h1 hEq hg hm H locs hP hD hS ls hl
        obtain ⟨hw0, hd0, k0_, w0_, e0_, l0_, ok0_, s0_⟩ := hg
        have rvn := ka_rng vn
        have rva := ka_rng va
        have rvd := ka_rng vd
        have rvw := ka_rng vw
        have rvr := ka_rng vr
        refine lv_aload_n hx hb dX7_row_44 rfl (lv_at hl 0 rfl) ?_
        refine ka_get C lqp_429 rfl hK hP 0 rfl 27 (by decide) lqp_430 rfl dX7_row_45 ?_
        refine lv_if_ne (tgt := 111) hx hb dX7_row_48 (by decide) (fun c_ => absurd (show vw = 0 from by rw [ka_eq', show ((0 : Int32)).toInt = 0 from by decide]; omega) c_) (fun _ => ?_)
        refine lv_aload_n hx hb dX7_row_51 rfl (lv_at hl 0 rfl) ?_
        refine lv_iload_n hx hb dX7_row_52 rfl (lv_at hl 2 rfl) ?_
        refine ka_EV (n := 1) (wr := [(m18, .inl (k0, 60, .inl gb)), (m19, .inl (k1, 60, .inl gl)), (m20, .inl (k2, 60, .inl gr)), (m21, .inl (k3, 60, .inl gs))]) C (ck_X7_is_408 l D F a0 m0 y1 m2 m3 m4 m5 m6 m7 m8 y9 y10 y11 y12 y13 y14 y15 m16 m17 m18 m19 m20 m21 vn va y24 vd y26 vw k6 ft ⟨by omega, by omega⟩ ⟨by omega, by omega⟩ ⟨by omega, by omega⟩ ⟨by omega, by omega⟩ ⟨by omega, by omega⟩ ⟨by omega, by omega⟩ ⟨by omega, by omega⟩ ⟨by omega, by omega⟩ ⟨by omega, by omega⟩ ⟨by omega, by omega⟩ hft (by omega)) gX7_row_X7_is rfl (by decide +kernel) ⟨show 1 + 1 ≤ kp_fR 1 d by simp only [kp_fN, kp_fR]; omega, show 8 + (2 + 11) + 20 ≤ 25 * kp_fR 1 d by simp only [kp_fN, kp_fR]; omega⟩ hK hP hD hS hA hE hN [0, 1] rfl (by decide) [2, 3, 4, 5] rfl (by decide) (by decide) [0] rfl (ci := 7) rfl rfl 0 rfl rfl hl.1 (rest := []) rfl (Nat.le_of_ble_eq_true rfl) dX7_row_53 ⟨Nat.le_of_ble_eq_true rfl, Nat.le_of_ble_eq_true rfl⟩ (fun u H locs hq hP hD hK hS => ?_)
        obtain ⟨v_32803, v_32804⟩ := u
        have hq : (0 ≤ v_32803.toInt ∧ v_32803.toInt ≤ 60) ∧ (0 ≤ v_32804.toInt ∧ v_32804.toInt ≤ 1) ∧ (va.toInt ≤ v_32803.toInt ∧ v_32803.toInt ≤ y24.toInt ∧ (v_32804.toInt = 0 ∨ v_32803.toInt < y24.toInt)) := hq
        obtain ⟨hv_32803, hv_32804, hzz_32805⟩ := hq
        have rv_32803 := ka_rng v_32803
        have rv_32804 := ka_rng v_32804
        have hP : va_P D vwCl [(m18, .inl (k0, 60, .inl gb)), (m19, .inl (k1, 60, .inl gl)), (m20, .inl (k2, 60, .inl gr)), (m21, .inl (k3, 60, .inl gs)), (a0, .inr (7, [.ref m0, .int y1, .ref m2, .ref m3, .ref m4, .ref m5, .ref m6, .ref m7, .ref m8, .int y9, .int y10, .int y11, .int y12, .int y13, .int y14, .int y15, .ref m16, .ref m17, .ref m18, .ref m19, .ref m20, .ref m21, .int vn, .int v_32803, .int y24, .int vd, .int y26, .int vw])), (m0, .inl (k6, 80, .inl ft))] H := hP
        have hD : va_D A [(m18, .inl (k0, 60, .inl gb)), (m19, .inl (k1, 60, .inl gl)), (m20, .inl (k2, 60, .inl gr)), (m21, .inl (k3, 60, .inl gs)), (a0, .inr (7, [.ref m0, .int y1, .ref m2, .ref m3, .ref m4, .ref m5, .ref m6, .ref m7, .ref m8, .int y9, .int y10, .int y11, .int y12, .int y13, .int y14, .int y15, .ref m16, .ref m17, .ref m18, .ref m19, .ref m20, .ref m21, .int vn, .int v_32803, .int y24, .int vd, .int y26, .int vw])), (m0, .inl (k6, 80, .inl ft))] := hD
        have hK : va_K D vwCl [(k6, .byte), (k0, .int), (k1, .int), (k2, .int), (k3, .int)] s := by simpa using hK
        refine ka_stk (w := [.int v_32804]) rfl ?_
        refine lv_if_eq (tgt := 111) hx hb dX7_row_56 (by decide) (fun c_32806 => ?_) (fun c_32806 => ?_)
        · have c_32806 : v_32804.toInt = 0 := by rw [ka_eq', show ((0 : Int32)).toInt = 0 from by decide] at c_32806; exact c_32806
          refine lv_iload_n hx hb dX7_row_111 rfl (lv_at hl 3 rfl) ?_
          have hgood : kp_good ((1 : Nat) : Int) d y23.toInt ((vn : Int32)).toInt ((v_32803 : Int32)).toInt ((vd : Int32)).toInt ((vw : Int32)).toInt ((vr : Int32)).toInt gb gl gr := ⟨by omega, by omega, k0_, w0_, by omega, by omega, ok0_, by omega⟩
          exact ka_rEi C hr hlk (Nat.le_of_ble_eq_true rfl) (Nat.le_of_ble_eq_true rfl) hS (ka_qE (vn, v_32803, vd, vw, gb, gl, gr, gs, vr) rfl (show kp_post ((1 : Nat) : Int) d y22.toInt y23.toInt y24.toInt fb fl fr_ ((vn : Int32)).toInt ((v_32803 : Int32)).toInt ((vd : Int32)).toInt ((vw : Int32)).toInt ((vr : Int32)).toInt gb gl gr from ⟨⟨by omega, by omega, by omega, by omega⟩, hEq, Or.inr hgood⟩) hK hP hD hS [4, 5, 0, 1, 2, 3] (by decide) rfl [] rfl) dX7_row_112
        · have c_32806 : ¬ v_32804.toInt = 0 := by rw [ka_eq', show ((0 : Int32)).toInt = 0 from by decide] at c_32806; exact c_32806
          refine lv_aload_n hx hb dX7_row_59 rfl (lv_at hl 0 rfl) ?_
          refine lv_dup hx hb dX7_row_60 rfl ?_
          refine ka_get C lqp_429 rfl hK hP 4 rfl 23 (by decide) lqp_431 rfl dX7_row_61 ?_
          refine lv_iconst (v := 1) hx hb dX7_row_64 (by decide) ?_
          refine lv_iadd hx hb dX7_row_65 ?_
          refine lv_topi (fun v_32807 ev_32807 => ?_)
          have fv_32807 : v_32807.toInt = v_32803.toInt + 1 := by rw [ev_32807]; exact ka_add (x := v_32803.toInt) (y := 1) rfl (by decide) (by omega) (by omega)
          refine ka_put C lqp_429 tyX7 tyX7_ok nmX7 rfl hK hP hD hS 4 rfl 23 (by decide) lqp_431 rfl rfl rfl (Nat.le_of_ble_eq_true rfl) dX7_row_66 (fun H locs hP hD hS => ?_)
          have hP : va_P D vwCl [(m18, .inl (k0, 60, .inl gb)), (m19, .inl (k1, 60, .inl gl)), (m20, .inl (k2, 60, .inl gr)), (m21, .inl (k3, 60, .inl gs)), (a0, .inr (7, [.ref m0, .int y1, .ref m2, .ref m3, .ref m4, .ref m5, .ref m6, .ref m7, .ref m8, .int y9, .int y10, .int y11, .int y12, .int y13, .int y14, .int y15, .ref m16, .ref m17, .ref m18, .ref m19, .ref m20, .ref m21, .int vn, .int v_32807, .int y24, .int vd, .int y26, .int vw])), (m0, .inl (k6, 80, .inl ft))] H := hP
          have hD : va_D A [(m18, .inl (k0, 60, .inl gb)), (m19, .inl (k1, 60, .inl gl)), (m20, .inl (k2, 60, .inl gr)), (m21, .inl (k3, 60, .inl gs)), (a0, .inr (7, [.ref m0, .int y1, .ref m2, .ref m3, .ref m4, .ref m5, .ref m6, .ref m7, .ref m8, .int y9, .int y10, .int y11, .int y12, .int y13, .int y14, .int y15, .ref m16, .ref m17, .ref m18, .ref m19, .ref m20, .ref m21, .int vn, .int v_32807, .int y24, .int vd, .int y26, .int vw])), (m0, .inl (k6, 80, .inl ft))] := hD
          refine lv_iload_n hx hb dX7_row_69 rfl (lv_at hl 1 rfl) ?_
          refine lv_iconst (v := 3) hx hb dX7_row_70 (by decide) ?_
          refine lv_icmp_ne (tgt := 82) hx hb dX7_row_71 (by decide) (fun _ => ?_) (fun c_ => absurd c_ (by decide))
          refine lv_aload_n hx hb dX7_row_82 rfl (lv_at hl 0 rfl) ?_
          refine lv_iload_n hx hb dX7_row_83 rfl (lv_at hl 1 rfl) ?_
          refine lv_iconst (v := 1) hx hb dX7_row_84 (by decide) ?_
          refine lv_iadd hx hb dX7_row_85 ?_
          refine ka_top (w := .int 2) (congrArg Value.int (by decide)) ?_
          refine ka_EV (n := 1) (wr := []) C (hc l D F a0 m0 y1 m2 m3 m4 m5 m6 m7 m8 y9 y10 y11 y12 y13 y14 y15 m16 m17 m18 m19 m20 m21 vn v_32807 y24 vd y26 vw k6 k0 k1 k2 k3 ft gb gl gr gs 2 ⟨by omega, by omega⟩ ⟨by omega, by omega⟩ ⟨by omega, by omega⟩ ⟨by omega, by omega⟩ ⟨by omega, by omega⟩ ⟨by omega, by omega⟩ ⟨by omega, by omega⟩ ⟨by omega, by omega⟩ ⟨by omega, by omega⟩ ⟨by omega, by omega⟩ hft ⟨by omega, by omega⟩ (by omega) (by omega) (by decide)) gX7_row_X7_row rfl (by decide +kernel) ⟨show (kp_fR 2 d) + 1 ≤ kp_fR 1 d by simp only [kp_fN, kp_fR]; omega, show 8 + (5 + 11) + 25 * (kp_fR 2 d) ≤ 25 * kp_fR 1 d by simp only [kp_fN, kp_fR]; omega⟩ hK hP hD hS hA hE hN [4, 5, 0, 1, 2, 3] rfl (by decide) [] rfl (by decide) (by decide) [0, 1, 2, 3, 4] rfl (ci := 7) rfl rfl 4 rfl rfl hl.1 (rest := []) rfl (Nat.le_of_ble_eq_true rfl) dX7_row_86 ⟨Nat.le_of_ble_eq_true rfl, Nat.le_of_ble_eq_true rfl⟩ (fun u H locs hq hP hD hK hS => ?_)
          obtain ⟨v_32808, v_32809, v_32810, v_32811, g_32813, g_32814, g_32815, g_32816, v_32812⟩ := u
          have hq : kp_post ((2 : Nat) : Int) d vn.toInt v_32807.toInt y24.toInt gb gl gr v_32808.toInt v_32809.toInt v_32810.toInt v_32811.toInt v_32812.toInt g_32813 g_32814 g_32815 := hq
          obtain ⟨h1q_32817, h2q_32817, h3q_32817⟩ := hq
          have rv_32808 := ka_rng v_32808
          have rv_32809 := ka_rng v_32809
          have rv_32810 := ka_rng v_32810
          have rv_32811 := ka_rng v_32811
          have rv_32812 := ka_rng v_32812
          have hP : va_P D vwCl [(a0, .inr (7, [.ref m0, .int y1, .ref m2, .ref m3, .ref m4, .ref m5, .ref m6, .ref m7, .ref m8, .int y9, .int y10, .int y11, .int y12, .int y13, .int y14, .int y15, .ref m16, .ref m17, .ref m18, .ref m19, .ref m20, .ref m21, .int v_32808, .int v_32809, .int y24, .int v_32810, .int y26, .int v_32811])), (m0, .inl (k6, 80, .inl ft)), (m18, .inl (k0, 60, .inl g_32813)), (m19, .inl (k1, 60, .inl g_32814)), (m20, .inl (k2, 60, .inl g_32815)), (m21, .inl (k3, 60, .inl g_32816))] H := hP
          have hD : va_D A [(a0, .inr (7, [.ref m0, .int y1, .ref m2, .ref m3, .ref m4, .ref m5, .ref m6, .ref m7, .ref m8, .int y9, .int y10, .int y11, .int y12, .int y13, .int y14, .int y15, .ref m16, .ref m17, .ref m18, .ref m19, .ref m20, .ref m21, .int v_32808, .int v_32809, .int y24, .int v_32810, .int y26, .int v_32811])), (m0, .inl (k6, 80, .inl ft)), (m18, .inl (k0, 60, .inl g_32813)), (m19, .inl (k1, 60, .inl g_32814)), (m20, .inl (k2, 60, .inl g_32815)), (m21, .inl (k3, 60, .inl g_32816))] := hD
          have hK : va_K D vwCl [(k6, .byte), (k0, .int), (k1, .int), (k2, .int), (k3, .int)] s := by simpa using hK
          refine ka_stk (w := [.int v_32812]) rfl ?_
          have hEq : kt_eq y22.toInt.toNat fb fl fr_ g_32813 g_32814 g_32815 := kt_eq_tr hEq (by omega) h2q_32817
          rcases h3q_32817 with ⟨hwq_32817, hd1q_32817, hd2q_32817⟩ | ⟨hwq_32817, hdq_32817, k_32818, wk_32818, ek_32818, lk_32818, okk_32818, sk_32818⟩
          · skip
            refine lv_istore (lv' := [(4, .int v_32812), (0, .ref a0), (1, .int 1), (2, .int 124), (3, .int vr)]) hx hb dX7_row_89 hl (by decide) rfl (fun ls hl => ?_)
            refine lv_aload_n hx hb dX7_row_91 rfl (lv_at hl 1 rfl) ?_
            refine ka_get C lqp_429 rfl hK hP 0 rfl 27 (by decide) lqp_430 rfl dX7_row_92 ?_
            refine lv_if_ne (tgt := 108) hx hb dX7_row_95 (by decide) (fun _ => ?_) (fun c_ => absurd c_ (show ¬ v_32811 = 0 from by rw [ka_eq', show ((0 : Int32)).toInt = 0 from by decide]; omega))
            refine lv_goto (tgt := 44) hx hb dX7_row_108 (by decide) ?_
            refine lv_aload_n hx hb dX7_row_44 rfl (lv_at hl 1 rfl) ?_
            refine ka_get C lqp_429 rfl hK hP 0 rfl 27 (by decide) lqp_430 rfl dX7_row_45 ?_
            refine lv_if_ne (tgt := 111) hx hb dX7_row_48 (by decide) (fun _ => ?_) (fun c_ => absurd c_ (show ¬ v_32811 = 0 from by rw [ka_eq', show ((0 : Int32)).toInt = 0 from by decide]; omega))
            refine lv_iload_n hx hb dX7_row_111 rfl (lv_at hl 4 rfl) ?_
            exact ka_rEi C hr hlk (Nat.le_of_ble_eq_true rfl) (Nat.le_of_ble_eq_true rfl) hS (ka_qE (v_32808, v_32809, v_32810, v_32811, g_32813, g_32814, g_32815, g_32816, vr) rfl (show kp_post ((1 : Nat) : Int) d y22.toInt y23.toInt y24.toInt fb fl fr_ ((v_32808 : Int32)).toInt ((v_32809 : Int32)).toInt ((v_32810 : Int32)).toInt ((v_32811 : Int32)).toInt ((vr : Int32)).toInt g_32813 g_32814 g_32815 from ⟨⟨by omega, by omega, by omega, by omega⟩, hEq, Or.inl ⟨by omega, by omega, by omega⟩⟩) hK hP hD hS [0, 1, 2, 3, 4, 5] (by decide) rfl [] rfl) dX7_row_112
          · have okA : kt_ok g_32813 g_32814 g_32815 k0_ w0_ := kt_ok_eq h2q_32817 (by omega) ok0_
            have brA : kt_br g_32813 k0_ ((1 : Nat) : Int) = kt_br gb k0_ ((1 : Nat) : Int) := kt_br_eq h2q_32817 (by omega)
            refine lv_istore (lv' := [(4, .int v_32812), (0, .ref a0), (1, .int 1), (2, .int 124), (3, .int vr)]) hx hb dX7_row_89 hl (by decide) rfl (fun ls hl => ?_)
            refine lv_aload_n hx hb dX7_row_91 rfl (lv_at hl 1 rfl) ?_
            refine ka_get C lqp_429 rfl hK hP 0 rfl 27 (by decide) lqp_430 rfl dX7_row_92 ?_
            refine lv_if_ne (tgt := 108) hx hb dX7_row_95 (by decide) (fun c_ => absurd (show v_32811 = 0 from by rw [ka_eq', show ((0 : Int32)).toInt = 0 from by decide]; omega) c_) (fun _ => ?_)
            refine lv_aload_n hx hb dX7_row_98 rfl (lv_at hl 1 rfl) ?_
            refine lv_iload_n hx hb dX7_row_99 rfl (lv_at hl 2 rfl) ?_
            refine lv_iload_n hx hb dX7_row_100 rfl (lv_at hl 3 rfl) ?_
            refine lv_iload_n hx hb dX7_row_101 rfl (lv_at hl 4 rfl) ?_
            refine lv_iload hx hb dX7_row_102 (lv_at hl 0 rfl) ?_
            obtain ⟨N_32821, eN_32821⟩ : ∃ z : Nat, v_32808.toInt = (z : Int) := ⟨v_32808.toInt.toNat, by omega⟩
            refine ka_EV (n := 4) (wr := [(m0, .inl (k6, 80, .inl ft))]) C (kt_node l D F a0 m0 y1 m2 m3 m4 m5 m6 m7 m8 y9 y10 y11 y12 y13 y14 y15 m16 m17 m18 m19 m20 m21 v_32808 v_32809 y24 v_32810 y26 v_32811 k0 k1 k2 k3 g_32813 g_32814 g_32815 g_32816 1 124 vr v_32812 ⟨by omega, by omega⟩) gX7_row_X7_node rfl (by decide +kernel) ⟨show 0 + 1 ≤ kp_fR 1 d by simp only [kp_fN, kp_fR]; omega, show 8 + (5 + 11) + 0 ≤ 25 * kp_fR 1 d by simp only [kp_fN, kp_fR]; omega⟩ hK hP hD hS hA hE hN [0, 2, 3, 4, 5] rfl (by decide) [1] rfl (by decide) (by decide) [1, 2, 3, 4] rfl (ci := 7) rfl rfl 0 rfl rfl hl.1 (rest := []) rfl (Nat.le_of_ble_eq_true rfl) dX7_row_104 ⟨Nat.le_of_ble_eq_true rfl, Nat.le_of_ble_eq_true rfl⟩ (fun u H locs hq hP hD hK hS => ?_)
            obtain ⟨v_32819, v_32820⟩ := u
            have hq : v_32819.toInt = v_32808.toInt + 1 ∧ v_32820.toInt = v_32808.toInt := hq
            obtain ⟨fv_32819, fv_32820⟩ := hq
            have hP : va_P D vwCl [(m0, .inl (k6, 80, .inl ft)), (a0, .inr (7, [.ref m0, .int y1, .ref m2, .ref m3, .ref m4, .ref m5, .ref m6, .ref m7, .ref m8, .int y9, .int y10, .int y11, .int y12, .int y13, .int y14, .int y15, .ref m16, .ref m17, .ref m18, .ref m19, .ref m20, .ref m21, .int v_32819, .int v_32809, .int y24, .int v_32810, .int y26, .int v_32811])), (m18, .inl (k0, 60, .inl (upd g_32813 (Int32.toNatClampNeg v_32808) 1))), (m19, .inl (k1, 60, .inl (upd g_32814 (Int32.toNatClampNeg v_32808) vr))), (m20, .inl (k2, 60, .inl (upd g_32815 (Int32.toNatClampNeg v_32808) v_32812))), (m21, .inl (k3, 60, .inl (upd g_32816 (Int32.toNatClampNeg v_32808) 124)))] H := hP
            have hD : va_D A [(m0, .inl (k6, 80, .inl ft)), (a0, .inr (7, [.ref m0, .int y1, .ref m2, .ref m3, .ref m4, .ref m5, .ref m6, .ref m7, .ref m8, .int y9, .int y10, .int y11, .int y12, .int y13, .int y14, .int y15, .ref m16, .ref m17, .ref m18, .ref m19, .ref m20, .ref m21, .int v_32819, .int v_32809, .int y24, .int v_32810, .int y26, .int v_32811])), (m18, .inl (k0, 60, .inl (upd g_32813 (Int32.toNatClampNeg v_32808) 1))), (m19, .inl (k1, 60, .inl (upd g_32814 (Int32.toNatClampNeg v_32808) vr))), (m20, .inl (k2, 60, .inl (upd g_32815 (Int32.toNatClampNeg v_32808) v_32812))), (m21, .inl (k3, 60, .inl (upd g_32816 (Int32.toNatClampNeg v_32808) 124)))] := hD
            have hK : va_K D vwCl [(k6, .byte), (k0, .int), (k1, .int), (k2, .int), (k3, .int)] s := by simpa using hK
            refine ka_stk (w := [.int v_32820]) rfl ?_
            rw [kp_cl eN_32821] at hP hD
            have hEq : kt_eq y22.toInt.toNat fb fl fr_ (upd g_32813 N_32821 1) (upd g_32814 N_32821 vr) (upd g_32815 N_32821 v_32812) := kt_eq_tr hEq (by omega) (kt_eq_upd (N := N_32821))
            have hbN : ((upd g_32813 N_32821 1) N_32821).toInt = ((1 : Nat) : Int) := by rw [pk_us]; decide
            have okA2 : kt_ok (upd g_32813 N_32821 1) (upd g_32814 N_32821 vr) (upd g_32815 N_32821 v_32812) k0_ w0_ := kt_ok_eq (kt_eq_upd (N := N_32821)) (by omega) okA
            have okB2 : kt_ok (upd g_32813 N_32821 1) (upd g_32814 N_32821 vr) (upd g_32815 N_32821 v_32812) k_32818 wk_32818 := kt_ok_eq (kt_eq_upd (N := N_32821)) (by omega) okk_32818
            have hok := kt_bin (by omega) (by omega) (by rw [pk_us]; exact e0_) (show k0_ < N_32821 by omega) okA2 (by rw [pk_us]; exact ek_32818) (show k_32818 < N_32821 by omega) okB2
            rw [hbN] at hok
            have brA2 : kt_br (upd g_32813 N_32821 1) k0_ ((1 : Nat) : Int) = kt_br g_32813 k0_ ((1 : Nat) : Int) := kt_br_eq (kt_eq_upd (N := N_32821) (l := g_32814) (r := g_32815) (v := vr) (w := v_32812)) (by omega)
            have brB2 : kt_br (upd g_32813 N_32821 1) k_32818 ((1 : Nat) : Int) = kt_br g_32813 k_32818 ((1 : Nat) : Int) := kt_br_eq (kt_eq_upd (N := N_32821) (l := g_32814) (r := g_32815) (v := vr) (w := v_32812)) (by omega)
            have hle := kt_br_le (b := g_32813) (a := k_32818) (show ((1 : Nat) : Int) ≤ ((2 : Nat) : Int) by omega)
            have hbr : kt_br (upd g_32813 N_32821 1) N_32821 ((1 : Nat) : Int) = 0 := kp_br_own (by omega)
            clear okA2 okB2
            generalize (upd g_32813 N_32821 1) = g_32822 at hP hD hEq hok hbr hbN brA2 brB2
            generalize (upd g_32814 N_32821 vr) = g_32823 at hP hD hEq hok
            generalize (upd g_32815 N_32821 v_32812) = g_32824 at hP hD hEq hok
            generalize (upd g_32816 N_32821 124) = g_32825 at hP hD
            refine lv_istore_n (lv' := [(3, .int v_32820), (4, .int v_32812), (0, .ref a0), (1, .int 1), (2, .int 124)]) hx hb dX7_row_107 rfl hl (by decide) rfl (fun ls hl => ?_)
            refine lv_goto (tgt := 44) hx hb dX7_row_108 (by decide) ?_
            have hgood : kp_good ((1 : Nat) : Int) d y23.toInt ((v_32819 : Int32)).toInt ((v_32809 : Int32)).toInt ((v_32810 : Int32)).toInt ((v_32811 : Int32)).toInt ((v_32820 : Int32)).toInt g_32822 g_32823 g_32824 := ⟨by omega, by omega, N_32821, _, by omega, by omega, hok, by omega⟩
            exact ih v_32819 v_32809 v_32810 v_32811 g_32822 g_32823 g_32824 g_32825 v_32820 ⟨by omega, by omega, by omega, by omega⟩ hEq hgood (by omega) H locs (hP.sub [1, 0, 2, 3, 4, 5] rfl) (hD.sub [1, 0, 2, 3, 4, 5] (by decide) rfl) hS ls (lv_sub hl [2, 3, 4, 0] rfl)
    have hle := kt_br_le (b := g_32797) (a := k_32802) (show ((1 : Nat) : Int) ≤ ((2 : Nat) : Int) by omega)
    have hgood : kp_good ((1 : Nat) : Int) d y23.toInt ((v_32792 : Int32)).toInt ((v_32793 : Int32)).toInt ((v_32794 : Int32)).toInt ((v_32795 : Int32)).toInt ((v_32796 : Int32)).toInt g_32797 g_32798 g_32799 := ⟨by omega, by omega, k_32802, wk_32802, by omega, by omega, okk_32802, by omega⟩
    exact lp _ v_32792 v_32793 v_32794 v_32795 g_32797 g_32798 g_32799 g_32800 v_32796 ⟨by omega, by omega, by omega, by omega⟩ hEq hgood (Nat.lt_succ_self _) H locs (hP.sub [0, 1, 2, 3, 4, 5] rfl) (hD.sub [0, 1, 2, 3, 4, 5] (by decide) rfl) hS ls (lv_sub hl [2, 3, 1, 0] rfl)
theorem kt_nots (d : Nat) (hR : d < 8 → kp_R 1 (d + 1)) : ∀ j : Nat, j ≤ 8 → kp_N (8 - j) d := by
  intro j
  induction j with
  | zero => intro _; exact kt_not_of 8 d (by omega) (fun h => absurd h (by omega)) hR
  | succ j ih =>
    intro hj
    refine kt_not_of (8 - (j + 1)) d (by omega) (fun _ => ?_) hR
    have := ih (by omega)
    rw [show 8 - (j + 1) + 1 = 8 - j by omega]
    exact this
theorem kt_rows : ∀ j : Nat, j ≤ 8 → kp_R 1 (8 - j) := by
  intro j
  induction j with
  | zero => intro _; exact kt_row_of1 _ (kt_row_of2 _ (kt_row_of3 _ (kt_nots 8 (fun h => absurd h (by omega)) 8 (by omega))))
  | succ j ih =>
    intro hj
    refine kt_row_of1 _ (kt_row_of2 _ (kt_row_of3 _ (kt_nots _ (fun _ => ?_) 8 (by omega))))
    rw [show 8 - (j + 1) + 1 = 8 - j by omega]
    exact ih (by omega)
theorem kt_row1 : kp_R 1 0 := kt_rows 8 (by omega)
