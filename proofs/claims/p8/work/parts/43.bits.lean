theorem lqb_0 : ∀ w ∈ wsX70, w ∈ wsX7_bits := by decide +kernel
theorem lqb_1 : Cond.fieldLink RX7 52 "AskedBackModel" "binds" "[I" ∈ wsX7_bits := by decide +kernel
theorem lqb_2 : Cond.fieldLink RX7 61 "AskedBackModel" "sign" "[I" ∈ wsX7_bits := by decide +kernel
theorem lqb_3 : Cond.fieldLink RX7 55 "AskedBackModel" "left" "[I" ∈ wsX7_bits := by decide +kernel
theorem lqb_4 : Cond.fieldLink RX7 58 "AskedBackModel" "right" "[I" ∈ wsX7_bits := by decide +kernel
set_option maxHeartbeats 4000000 in
set_option maxRecDepth 100000 in
theorem kt_bits (l : Launch) (D : va_G) (F : Nat → Prop) (a0 : Nat) (m0 : Nat) (y1 : Int32) (m2 : Nat) (m3 : Nat) (m4 : Nat) (m5 : Nat) (m6 : Nat) (m7 : Nat) (m8 : Nat) (y9 : Int32) (y10 : Int32) (y11 : Int32) (y12 : Int32) (y13 : Int32) (y14 : Int32) (y15 : Int32) (m16 : Nat) (m17 : Nat) (m18 : Nat) (m19 : Nat) (m20 : Nat) (m21 : Nat) (y22 : Int32) (y23 : Int32) (y24 : Int32) (y25 : Int32) (y26 : Int32) (y27 : Int32) (k0 k1 k2 k3 : ClassId) (fb fl fr fs : Nat → Int32) : ∀ n : Nat, n < 60 → ∀ (x0 : Int32) (w : Nat), x0.toInt = (n : Int) → kt_ok fb fl fr n w → ka_R l D F yX7_bits wsX7_bits (n + 1) ((n + 1) * 30) [.ref a0, .int x0] [(a0, .inr (7, [.ref m0, .int y1, .ref m2, .ref m3, .ref m4, .ref m5, .ref m6, .ref m7, .ref m8, .int y9, .int y10, .int y11, .int y12, .int y13, .int y14, .int y15, .ref m16, .ref m17, .ref m18, .ref m19, .ref m20, .ref m21, .int y22, .int y23, .int y24, .int y25, .int y26, .int y27])), (m18, .inl (k0, 60, .inl fb)), (m19, .inl (k1, 60, .inl fl)), (m20, .inl (k2, 60, .inl fr)), (m21, .inl (k3, 60, .inl fs))] [(k0, .int), (k1, .int), (k2, .int), (k3, .int)] (fun v => ∃ x : Int32, v = some (.int x)) := by
  intro n
  induction n using Nat.strongRecOn with
  | ind n ih =>
    intro hn x0 w hx0 hok
    have hcl : Int32.toNatClampNeg x0 = n := by unfold Int32.toNatClampNeg; omega
    refine ka_R_of (cc := cX7_bits) (maxL := 4) (ret := (some .int)) (by decide) rfl (Nat.le_of_ble_eq_true rfl) ?_
    intro p e s m below meth c ls C hr hlk hP hK hE hN hl
    have hS : va_S (fun _ => False) s.heap s.heap [] := va_S.rf
    have C : CallFix p m c cX7_bits 4 s [.ref a0, .int x0].toArray wsX7_bits RX7 := C
    obtain ⟨hx, hb, hml, hown, hts⟩ := id C
    have hl : lv_has ls 4 [(0, .ref a0), (1, .int x0)] := hl
    rcases kt_inv hok with ⟨h1, -⟩ | ⟨h1, a, wa, hl1, ha, oka, -⟩ | ⟨h1, h2, a, wa, d, wd, hl1, ha, oka, hr1, hd, okd, -⟩
    · skip
      refine lv_aload_n hx hb dX7_bits_0 rfl (lv_at hl 0 rfl) ?_
      refine ka_get C lqb_0 rfl hK hP 0 rfl 18 (by decide) lqb_1 rfl dX7_bits_1 ?_
      refine lv_iload_n hx hb dX7_bits_4 rfl (lv_at hl 1 rfl) ?_
      refine va_iald hx hb hK hP 1 0 rfl rfl (ka_in (by omega) (by omega)) dX7_bits_5 ?_
      refine lv_topi (fun v_1 ev_1 => ?_)
      rw [hcl] at ev_1
      have fv_1 : v_1.toInt = 5 := by rw [ev_1]; exact h1
      refine lv_iconst (v := 5) hx hb dX7_bits_6 (by decide) ?_
      refine lv_icmp_ne (tgt := 20) hx hb dX7_bits_7 (by decide) (fun c_ => absurd (show v_1 = 5 from by rw [ka_eq', show ((5 : Int32)).toInt = 5 from by decide]; omega) c_) (fun _ => ?_)
      refine lv_aload_n hx hb dX7_bits_10 rfl (lv_at hl 0 rfl) ?_
      refine ka_get C lqb_0 rfl hK hP 0 rfl 21 (by decide) lqb_2 rfl dX7_bits_11 ?_
      refine lv_iload_n hx hb dX7_bits_14 rfl (lv_at hl 1 rfl) ?_
      refine va_iald hx hb hK hP 4 3 rfl rfl (ka_in (by omega) (by omega)) dX7_bits_15 ?_
      refine lv_topi (fun v_2 ev_2 => ?_)
      rw [hcl] at ev_2
      refine ka_RS (n := 1) C (cg_X7_letter_245 l D F v_2) gX7_bits_X7_letter rfl (by decide +kernel) ⟨show 0 + 1 ≤ n + 1 by omega, show 8 + (3 + 11) + 0 ≤ (n + 1) * 30 by omega⟩ hK hP hS hE hN [] rfl [] rfl rfl hl.1 (rest := []) rfl (Nat.le_of_ble_eq_true rfl) dX7_bits_16 ⟨Nat.le_of_ble_eq_true rfl, Nat.le_of_ble_eq_true rfl⟩ (fun v hv => ?_)
      obtain ⟨z_3, rfl⟩ := hv
      refine ka_stk (w := [.int z_3]) rfl ?_
      exact ka_rRi C hr hlk ⟨_, rfl⟩ dX7_bits_19
    · skip
      refine lv_aload_n hx hb dX7_bits_0 rfl (lv_at hl 0 rfl) ?_
      refine ka_get C lqb_0 rfl hK hP 0 rfl 18 (by decide) lqb_1 rfl dX7_bits_1 ?_
      refine lv_iload_n hx hb dX7_bits_4 rfl (lv_at hl 1 rfl) ?_
      refine va_iald hx hb hK hP 1 0 rfl rfl (ka_in (by omega) (by omega)) dX7_bits_5 ?_
      refine lv_topi (fun v_4 ev_4 => ?_)
      rw [hcl] at ev_4
      have fv_4 : v_4.toInt = 4 := by rw [ev_4]; exact h1
      refine lv_iconst (v := 5) hx hb dX7_bits_6 (by decide) ?_
      refine lv_icmp_ne (tgt := 20) hx hb dX7_bits_7 (by decide) (fun _ => ?_) (fun c_ => absurd c_ (show ¬ v_4 = 5 from by rw [ka_eq', show ((5 : Int32)).toInt = 5 from by decide]; omega))
      refine lv_aload_n hx hb dX7_bits_20 rfl (lv_at hl 0 rfl) ?_
      refine lv_aload_n hx hb dX7_bits_21 rfl (lv_at hl 0 rfl) ?_
      refine ka_get C lqb_0 rfl hK hP 0 rfl 19 (by decide) lqb_3 rfl dX7_bits_22 ?_
      refine lv_iload_n hx hb dX7_bits_25 rfl (lv_at hl 1 rfl) ?_
      refine va_iald hx hb hK hP 2 1 rfl rfl (ka_in (by omega) (by omega)) dX7_bits_26 ?_
      refine lv_topi (fun v_5 ev_5 => ?_)
      rw [hcl] at ev_5
      have fv_5 : v_5.toInt = (a : Int) := by rw [ev_5]; exact hl1
      refine ka_RV (n := 1) C (ih a ha (by omega) v_5 wa fv_5 oka) gX7_bits_X7_bits rfl (by decide +kernel) ⟨show (a + 1) + 1 ≤ n + 1 by omega, show 8 + (4 + 11) + (a + 1) * 30 ≤ (n + 1) * 30 by omega⟩ hK hP hS hE hN [0, 1, 2, 3, 4] rfl [0, 1, 2, 3] rfl (ci := 7) rfl rfl 0 rfl rfl hl.1 (rest := []) rfl (Nat.le_of_ble_eq_true rfl) dX7_bits_27 ⟨Nat.le_of_ble_eq_true rfl, Nat.le_of_ble_eq_true rfl⟩ (fun v hv => ?_)
      obtain ⟨z_6, rfl⟩ := hv
      refine ka_stk (w := [.int z_6]) rfl ?_
      refine lv_istore_n (lv' := [(2, .int z_6), (0, .ref a0), (1, .int x0)]) hx hb dX7_bits_30 rfl hl (by decide) rfl (fun ls hl => ?_)
      refine lv_aload_n hx hb dX7_bits_31 rfl (lv_at hl 1 rfl) ?_
      refine ka_get C lqb_0 rfl hK hP 0 rfl 18 (by decide) lqb_1 rfl dX7_bits_32 ?_
      refine lv_iload_n hx hb dX7_bits_35 rfl (lv_at hl 2 rfl) ?_
      refine va_iald hx hb hK hP 1 0 rfl rfl (ka_in (by omega) (by omega)) dX7_bits_36 ?_
      refine lv_topi (fun v_7 ev_7 => ?_)
      rw [hcl] at ev_7
      have fv_7 : v_7.toInt = 4 := by rw [ev_7]; exact h1
      refine lv_iconst (v := 4) hx hb dX7_bits_37 (by decide) ?_
      refine lv_icmp_ne (tgt := 45) hx hb dX7_bits_38 (by decide) (fun c_ => absurd (show v_7 = 4 from by rw [ka_eq', show ((4 : Int32)).toInt = 4 from by decide]; omega) c_) (fun _ => ?_)
      refine lv_iload_n hx hb dX7_bits_41 rfl (lv_at hl 0 rfl) ?_
      refine lv_iconst (v := (-1)) hx hb dX7_bits_42 (by decide) ?_
      refine lv_ixor hx hb dX7_bits_43 ?_
      refine lv_topi (fun v_8 ev_8 => ?_)
      exact ka_rRi C hr hlk ⟨_, rfl⟩ dX7_bits_44
    · skip
      refine lv_aload_n hx hb dX7_bits_0 rfl (lv_at hl 0 rfl) ?_
      refine ka_get C lqb_0 rfl hK hP 0 rfl 18 (by decide) lqb_1 rfl dX7_bits_1 ?_
      refine lv_iload_n hx hb dX7_bits_4 rfl (lv_at hl 1 rfl) ?_
      refine va_iald hx hb hK hP 1 0 rfl rfl (ka_in (by omega) (by omega)) dX7_bits_5 ?_
      refine lv_topi (fun v_9 ev_9 => ?_)
      rw [hcl] at ev_9
      have fv_9 : 1 ≤ v_9.toInt ∧ v_9.toInt ≤ 3 := by rw [ev_9]; exact ⟨h1, h2⟩
      refine lv_iconst (v := 5) hx hb dX7_bits_6 (by decide) ?_
      refine lv_icmp_ne (tgt := 20) hx hb dX7_bits_7 (by decide) (fun _ => ?_) (fun c_ => absurd c_ (show ¬ v_9 = 5 from by rw [ka_eq', show ((5 : Int32)).toInt = 5 from by decide]; omega))
      refine lv_aload_n hx hb dX7_bits_20 rfl (lv_at hl 0 rfl) ?_
      refine lv_aload_n hx hb dX7_bits_21 rfl (lv_at hl 0 rfl) ?_
      refine ka_get C lqb_0 rfl hK hP 0 rfl 19 (by decide) lqb_3 rfl dX7_bits_22 ?_
      refine lv_iload_n hx hb dX7_bits_25 rfl (lv_at hl 1 rfl) ?_
      refine va_iald hx hb hK hP 2 1 rfl rfl (ka_in (by omega) (by omega)) dX7_bits_26 ?_
      refine lv_topi (fun v_10 ev_10 => ?_)
      rw [hcl] at ev_10
      have fv_10 : v_10.toInt = (a : Int) := by rw [ev_10]; exact hl1
      refine ka_RV (n := 1) C (ih a ha (by omega) v_10 wa fv_10 oka) gX7_bits_X7_bits rfl (by decide +kernel) ⟨show (a + 1) + 1 ≤ n + 1 by omega, show 8 + (4 + 11) + (a + 1) * 30 ≤ (n + 1) * 30 by omega⟩ hK hP hS hE hN [0, 1, 2, 3, 4] rfl [0, 1, 2, 3] rfl (ci := 7) rfl rfl 0 rfl rfl hl.1 (rest := []) rfl (Nat.le_of_ble_eq_true rfl) dX7_bits_27 ⟨Nat.le_of_ble_eq_true rfl, Nat.le_of_ble_eq_true rfl⟩ (fun v hv => ?_)
      obtain ⟨z_11, rfl⟩ := hv
      refine ka_stk (w := [.int z_11]) rfl ?_
      refine lv_istore_n (lv' := [(2, .int z_11), (0, .ref a0), (1, .int x0)]) hx hb dX7_bits_30 rfl hl (by decide) rfl (fun ls hl => ?_)
      refine lv_aload_n hx hb dX7_bits_31 rfl (lv_at hl 1 rfl) ?_
      refine ka_get C lqb_0 rfl hK hP 0 rfl 18 (by decide) lqb_1 rfl dX7_bits_32 ?_
      refine lv_iload_n hx hb dX7_bits_35 rfl (lv_at hl 2 rfl) ?_
      refine va_iald hx hb hK hP 1 0 rfl rfl (ka_in (by omega) (by omega)) dX7_bits_36 ?_
      refine lv_topi (fun v_12 ev_12 => ?_)
      rw [hcl] at ev_12
      have fv_12 : 1 ≤ v_12.toInt ∧ v_12.toInt ≤ 3 := by rw [ev_12]; exact ⟨h1, h2⟩
      refine lv_iconst (v := 4) hx hb dX7_bits_37 (by decide) ?_
      refine lv_icmp_ne (tgt := 45) hx hb dX7_bits_38 (by decide) (fun _ => ?_) (fun c_ => absurd c_ (show ¬ v_12 = 4 from by rw [ka_eq', show ((4 : Int32)).toInt = 4 from by decide]; omega))
      refine lv_aload_n hx hb dX7_bits_45 rfl (lv_at hl 1 rfl) ?_
      refine lv_aload_n hx hb dX7_bits_46 rfl (lv_at hl 1 rfl) ?_
      refine ka_get C lqb_0 rfl hK hP 0 rfl 20 (by decide) lqb_4 rfl dX7_bits_47 ?_
      refine lv_iload_n hx hb dX7_bits_50 rfl (lv_at hl 2 rfl) ?_
      refine va_iald hx hb hK hP 3 2 rfl rfl (ka_in (by omega) (by omega)) dX7_bits_51 ?_
      refine lv_topi (fun v_13 ev_13 => ?_)
      rw [hcl] at ev_13
      have fv_13 : v_13.toInt = (d : Int) := by rw [ev_13]; exact hr1
      refine ka_RV (n := 1) C (ih d hd (by omega) v_13 wd fv_13 okd) gX7_bits_X7_bits rfl (by decide +kernel) ⟨show (d + 1) + 1 ≤ n + 1 by omega, show 8 + (4 + 11) + (d + 1) * 30 ≤ (n + 1) * 30 by omega⟩ hK hP hS hE hN [0, 1, 2, 3, 4] rfl [0, 1, 2, 3] rfl (ci := 7) rfl rfl 0 rfl rfl hl.1 (rest := []) rfl (Nat.le_of_ble_eq_true rfl) dX7_bits_52 ⟨Nat.le_of_ble_eq_true rfl, Nat.le_of_ble_eq_true rfl⟩ (fun v hv => ?_)
      obtain ⟨z_14, rfl⟩ := hv
      refine ka_stk (w := [.int z_14]) rfl ?_
      refine lv_istore_n (lv' := [(3, .int z_14), (2, .int z_11), (0, .ref a0), (1, .int x0)]) hx hb dX7_bits_55 rfl hl (by decide) rfl (fun ls hl => ?_)
      refine lv_aload_n hx hb dX7_bits_56 rfl (lv_at hl 2 rfl) ?_
      refine ka_get C lqb_0 rfl hK hP 0 rfl 18 (by decide) lqb_1 rfl dX7_bits_57 ?_
      refine lv_iload_n hx hb dX7_bits_60 rfl (lv_at hl 3 rfl) ?_
      refine va_iald hx hb hK hP 1 0 rfl rfl (ka_in (by omega) (by omega)) dX7_bits_61 ?_
      refine lv_topi (fun v_15 ev_15 => ?_)
      rw [hcl] at ev_15
      have fv_15 : 1 ≤ v_15.toInt ∧ v_15.toInt ≤ 3 := by rw [ev_15]; exact ⟨h1, h2⟩
      refine lv_iconst (v := 1) hx hb dX7_bits_62 (by decide) ?_
      refine lv_icmp_ne (tgt := 72) hx hb dX7_bits_63 (by decide) (fun c_16 => ?_) (fun c_16 => ?_)
      · have c_16 : ¬ v_15.toInt = 1 := by rw [ka_eq', show ((1 : Int32)).toInt = 1 from by decide] at c_16; exact c_16
        refine lv_aload_n hx hb dX7_bits_72 rfl (lv_at hl 2 rfl) ?_
        refine ka_get C lqb_0 rfl hK hP 0 rfl 18 (by decide) lqb_1 rfl dX7_bits_73 ?_
        refine lv_iload_n hx hb dX7_bits_76 rfl (lv_at hl 3 rfl) ?_
        refine va_iald hx hb hK hP 1 0 rfl rfl (ka_in (by omega) (by omega)) dX7_bits_77 ?_
        refine lv_topi (fun v_17 ev_17 => ?_)
        rw [hcl] at ev_17
        have fv_17 : 1 ≤ v_17.toInt ∧ v_17.toInt ≤ 3 := by rw [ev_17]; exact ⟨h1, h2⟩
        refine lv_iconst (v := 2) hx hb dX7_bits_78 (by decide) ?_
        refine lv_icmp_ne (tgt := 88) hx hb dX7_bits_79 (by decide) (fun c_18 => ?_) (fun c_18 => ?_)
        · have c_18 : ¬ v_17.toInt = 2 := by rw [ka_eq', show ((2 : Int32)).toInt = 2 from by decide] at c_18; exact c_18
          refine lv_iload_n hx hb dX7_bits_88 rfl (lv_at hl 1 rfl) ?_
          refine lv_iload_n hx hb dX7_bits_89 rfl (lv_at hl 0 rfl) ?_
          refine lv_iand hx hb dX7_bits_90 ?_
          refine lv_topi (fun v_19 ev_19 => ?_)
          exact ka_rRi C hr hlk ⟨_, rfl⟩ dX7_bits_91
        · have c_18 : v_17.toInt = 2 := by rw [ka_eq', show ((2 : Int32)).toInt = 2 from by decide] at c_18; exact c_18
          refine lv_iload_n hx hb dX7_bits_82 rfl (lv_at hl 1 rfl) ?_
          refine lv_iload_n hx hb dX7_bits_83 rfl (lv_at hl 0 rfl) ?_
          refine lv_ixor hx hb dX7_bits_84 ?_
          refine lv_topi (fun v_20 ev_20 => ?_)
          refine lv_goto (tgt := 91) hx hb dX7_bits_85 (by decide) ?_
          exact ka_rRi C hr hlk ⟨_, rfl⟩ dX7_bits_91
      · have c_16 : v_15.toInt = 1 := by rw [ka_eq', show ((1 : Int32)).toInt = 1 from by decide] at c_16; exact c_16
        refine lv_iload_n hx hb dX7_bits_66 rfl (lv_at hl 1 rfl) ?_
        refine lv_iload_n hx hb dX7_bits_67 rfl (lv_at hl 0 rfl) ?_
        refine lv_ior hx hb dX7_bits_68 ?_
        refine lv_topi (fun v_21 ev_21 => ?_)
        refine lv_goto (tgt := 91) hx hb dX7_bits_69 (by decide) ?_
        exact ka_rRi C hr hlk ⟨_, rfl⟩ dX7_bits_91
