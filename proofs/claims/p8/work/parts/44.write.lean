theorem lqw_0 : ∀ w ∈ wsX70, w ∈ wsX7_writes := by decide +kernel
theorem lqw_1 : Cond.fieldLink RX7 20 "AskedBackModel" "written" "[B" ∈ wsX7_writes := by decide +kernel
theorem lqw_2 : Cond.fieldLink RX7 17 "AskedBackModel" "size" "[I" ∈ wsX7_writes := by decide +kernel
set_option maxHeartbeats 4000000 in
set_option maxRecDepth 100000 in
theorem kt_writes (l : Launch) (D : va_G) (F : Nat → Prop) (a0 : Nat) (m0 : Nat) (y1 : Int32) (m2 : Nat) (m3 : Nat) (m4 : Nat) (m5 : Nat) (m6 : Nat) (m7 : Nat) (m8 : Nat) (y9 : Int32) (y10 : Int32) (y11 : Int32) (y12 : Int32) (y13 : Int32) (y14 : Int32) (y15 : Int32) (m16 : Nat) (m17 : Nat) (m18 : Nat) (m19 : Nat) (m20 : Nat) (m21 : Nat) (y22 : Int32) (y23 : Int32) (y24 : Int32) (y25 : Int32) (y26 : Int32) (y27 : Int32) (k4 k5 : ClassId) (fz fw : Nat → Int32) (x0 : Int32) (hfz : ∀ j : Nat, 0 ≤ (fz j).toInt ∧ (fz j).toInt ≤ 60) (hfw : sb_Fit fw) (h88 : (fz 88).toInt ≤ 59) : ka_E l D F yX7_writes wsX7_writes 0 0 0 0 [.ref a0, .int x0] [(a0, .inr (7, [.ref m0, .int y1, .ref m2, .ref m3, .ref m4, .ref m5, .ref m6, .ref m7, .ref m8, .int y9, .int y10, .int y11, .int y12, .int y13, .int y14, .int y15, .ref m16, .ref m17, .ref m18, .ref m19, .ref m20, .ref m21, .int y22, .int y23, .int y24, .int y25, .int y26, .int y27])), (m3, .inl (k4, 89, .inl fz)), (m4, .inl (k5, 5340, .inl fw))] [(k4, .int), (k5, .byte)] (fun (_ : (Nat → Int32) × (Nat → Int32)) => none) (fun u => (∀ j : Nat, 0 ≤ (u.1 j).toInt ∧ (u.1 j).toInt ≤ 60) ∧ sb_Fit u.2 ∧ (u.1 88).toInt = (fz 88).toInt + 1) (fun u => [(a0, .inr (7, [.ref m0, .int y1, .ref m2, .ref m3, .ref m4, .ref m5, .ref m6, .ref m7, .ref m8, .int y9, .int y10, .int y11, .int y12, .int y13, .int y14, .int y15, .ref m16, .ref m17, .ref m18, .ref m19, .ref m20, .ref m21, .int y22, .int y23, .int y24, .int y25, .int y26, .int y27])), (m3, .inl (k4, 89, .inl u.1)), (m4, .inl (k5, 5340, .inl u.2))]) (fun _ => []) := by
  refine ka_E_of (cc := cX7_writes) (maxL := 2) (ret := none) (by decide) rfl (Nat.le_of_ble_eq_true rfl) ?_
  intro p e s m below meth c ls A C hr hlk hin hP hK hD hS hA hE hN hl
  have C : CallFix p m c cX7_writes 2 s [.ref a0, .int x0].toArray wsX7_writes RX7 := C
  obtain ⟨hx, hb, hml, hown, hts⟩ := id C
  have hl : lv_has ls 2 [(0, .ref a0), (1, .int x0)] := hl
  have h0 := hfz 88
  refine lv_aload_n hx hb dX7_writes_0 rfl (lv_at hl 0 rfl) ?_
  refine ka_get C lqw_0 rfl hK hP 0 rfl 4 (by decide) lqw_1 rfl dX7_writes_1 ?_
  refine lv_sipush (v := 5280) hx hb dX7_writes_4 (by decide) ?_
  refine lv_aload_n hx hb dX7_writes_7 rfl (lv_at hl 0 rfl) ?_
  refine ka_get C lqw_0 rfl hK hP 0 rfl 3 (by decide) lqw_2 rfl dX7_writes_8 ?_
  refine lv_bipush (v := 88) hx hb dX7_writes_11 (by decide) ?_
  refine va_iald hx hb hK hP 1 0 rfl rfl (ka_in (by decide) (by decide)) dX7_writes_13 ?_
  refine lv_topi (fun v_1 ev_1 => ?_)
  have fv_1 : v_1.toInt = (fz 88).toInt := by rw [ev_1]; rfl
  refine lv_iadd hx hb dX7_writes_14 ?_
  refine lv_topi (fun v_2 ev_2 => ?_)
  have fv_2 : v_2.toInt = 5280 + v_1.toInt := by rw [ev_2]; exact ka_add (x := 5280) (y := v_1.toInt) (by decide) rfl (by omega) (by omega)
  refine lv_iload_n hx hb dX7_writes_15 rfl (lv_at hl 1 rfl) ?_
  refine lv_i2b hx hb dX7_writes_16 rfl ?_
  refine lv_topi (fun v_3 ev_3 => ?_)
  refine va_bast hx hb hK hP hD hS 2 1 rfl rfl (ka_in (by omega) (by omega)) dX7_writes_17 (fun H locs hP hD hS => ?_)
  have hP : va_P D vwCl [(a0, .inr (7, [.ref m0, .int y1, .ref m2, .ref m3, .ref m4, .ref m5, .ref m6, .ref m7, .ref m8, .int y9, .int y10, .int y11, .int y12, .int y13, .int y14, .int y15, .ref m16, .ref m17, .ref m18, .ref m19, .ref m20, .ref m21, .int y22, .int y23, .int y24, .int y25, .int y26, .int y27])), (m3, .inl (k4, 89, .inl fz)), (m4, .inl (k5, 5340, .inl (upd fw (Int32.toNatClampNeg v_2) (vp_nar .byte v_3))))] H := hP
  have hD : va_D A [(a0, .inr (7, [.ref m0, .int y1, .ref m2, .ref m3, .ref m4, .ref m5, .ref m6, .ref m7, .ref m8, .int y9, .int y10, .int y11, .int y12, .int y13, .int y14, .int y15, .ref m16, .ref m17, .ref m18, .ref m19, .ref m20, .ref m21, .int y22, .int y23, .int y24, .int y25, .int y26, .int y27])), (m3, .inl (k4, 89, .inl fz)), (m4, .inl (k5, 5340, .inl (upd fw (Int32.toNatClampNeg v_2) (vp_nar .byte v_3))))] := hD
  have hg_4 : sb_Fit (upd fw (Int32.toNatClampNeg v_2) (vp_nar .byte v_3)) := sb_fitU hfw (kb_nb _)
  generalize (upd fw (Int32.toNatClampNeg v_2) (vp_nar .byte v_3)) = g_4 at hP hD hg_4
  refine lv_aload_n hx hb dX7_writes_18 rfl (lv_at hl 0 rfl) ?_
  refine ka_get C lqw_0 rfl hK hP 0 rfl 3 (by decide) lqw_2 rfl dX7_writes_19 ?_
  refine lv_bipush (v := 88) hx hb dX7_writes_22 (by decide) ?_
  refine lv_dup2_11 hx hb dX7_writes_24 rfl rfl ?_
  refine va_iald hx hb hK hP 1 0 rfl rfl (ka_in (by decide) (by decide)) dX7_writes_25 ?_
  refine lv_topi (fun v_5 ev_5 => ?_)
  have fv_5 : v_5.toInt = (fz 88).toInt := by rw [ev_5]; rfl
  refine lv_iconst (v := 1) hx hb dX7_writes_26 (by decide) ?_
  refine lv_iadd hx hb dX7_writes_27 ?_
  refine lv_topi (fun v_6 ev_6 => ?_)
  have fv_6 : v_6.toInt = v_5.toInt + 1 := by rw [ev_6]; exact ka_add (x := v_5.toInt) (y := 1) rfl (by decide) (by omega) (by omega)
  refine va_iast hx hb hK hP hD hS 1 0 rfl rfl (ka_in (by decide) (by decide)) dX7_writes_28 (fun H locs hP hD hS => ?_)
  have hP : va_P D vwCl [(a0, .inr (7, [.ref m0, .int y1, .ref m2, .ref m3, .ref m4, .ref m5, .ref m6, .ref m7, .ref m8, .int y9, .int y10, .int y11, .int y12, .int y13, .int y14, .int y15, .ref m16, .ref m17, .ref m18, .ref m19, .ref m20, .ref m21, .int y22, .int y23, .int y24, .int y25, .int y26, .int y27])), (m3, .inl (k4, 89, .inl (upd fz (Int32.toNatClampNeg 88) v_6))), (m4, .inl (k5, 5340, .inl g_4))] H := hP
  have hD : va_D A [(a0, .inr (7, [.ref m0, .int y1, .ref m2, .ref m3, .ref m4, .ref m5, .ref m6, .ref m7, .ref m8, .int y9, .int y10, .int y11, .int y12, .int y13, .int y14, .int y15, .ref m16, .ref m17, .ref m18, .ref m19, .ref m20, .ref m21, .int y22, .int y23, .int y24, .int y25, .int y26, .int y27])), (m3, .inl (k4, 89, .inl (upd fz (Int32.toNatClampNeg 88) v_6))), (m4, .inl (k5, 5340, .inl g_4))] := hD
  have hgz : ∀ j : Nat, 0 ≤ ((upd fz (Int32.toNatClampNeg 88) v_6) j).toInt ∧ ((upd fz (Int32.toNatClampNeg 88) v_6) j).toInt ≤ 60 := kb_rngU hfz (by omega) (by omega)
  have hg88 : ((upd fz (Int32.toNatClampNeg 88) v_6) 88).toInt = (fz 88).toInt + 1 := by rw [show (upd fz (Int32.toNatClampNeg 88) v_6) 88 = v_6 from pk_us]; omega
  generalize (upd fz (Int32.toNatClampNeg 88) v_6) = gz at hP hD hgz hg88
  exact ka_rEv C hr hlk (Nat.le_of_ble_eq_true rfl) (Nat.le_of_ble_eq_true rfl) hS (ka_qE (gz, g_4) rfl ⟨hgz, hg_4, hg88⟩ hK hP hD hS [0, 1, 2] (by decide) rfl [] rfl) dX7_writes_29
theorem lqv_0 : ∀ w ∈ wsX70, w ∈ wsX7_write := by decide +kernel
theorem lqv_1 : Cond.fieldLink RX7 52 "AskedBackModel" "binds" "[I" ∈ wsX7_write := by decide +kernel
theorem lqv_2 : Cond.fieldLink RX7 61 "AskedBackModel" "sign" "[I" ∈ wsX7_write := by decide +kernel
theorem lqv_3 : Cond.fieldLink RX7 55 "AskedBackModel" "left" "[I" ∈ wsX7_write := by decide +kernel
theorem lqv_4 : Cond.fieldLink RX7 58 "AskedBackModel" "right" "[I" ∈ wsX7_write := by decide +kernel
set_option maxHeartbeats 4000000 in
set_option maxRecDepth 100000 in
theorem kt_write (l : Launch) (D : va_G) (F : Nat → Prop) (a0 : Nat) (m0 : Nat) (y1 : Int32) (m2 : Nat) (m3 : Nat) (m4 : Nat) (m5 : Nat) (m6 : Nat) (m7 : Nat) (m8 : Nat) (y9 : Int32) (y10 : Int32) (y11 : Int32) (y12 : Int32) (y13 : Int32) (y14 : Int32) (y15 : Int32) (m16 : Nat) (m17 : Nat) (m18 : Nat) (m19 : Nat) (m20 : Nat) (m21 : Nat) (y22 : Int32) (y23 : Int32) (y24 : Int32) (y25 : Int32) (y26 : Int32) (y27 : Int32) (k0 k1 k2 k3 k4 k5 : ClassId) (fb fl fr fs : Nat → Int32) : ∀ n : Nat, n < 60 → ∀ (x0 x1 : Int32) (w : Nat) (fz fw : Nat → Int32), x0.toInt = (n : Int) → kt_ok fb fl fr n w → (∀ j : Nat, 0 ≤ (fz j).toInt ∧ (fz j).toInt ≤ 60) → sb_Fit fw → (fz 88).toInt + (w + kt_br fb n x1.toInt : Nat) ≤ 60 → ka_E l D F yX7_write wsX7_write (n + 1) ((n + 1) * 30) 0 0 [.ref a0, .int x0, .int x1] [(a0, .inr (7, [.ref m0, .int y1, .ref m2, .ref m3, .ref m4, .ref m5, .ref m6, .ref m7, .ref m8, .int y9, .int y10, .int y11, .int y12, .int y13, .int y14, .int y15, .ref m16, .ref m17, .ref m18, .ref m19, .ref m20, .ref m21, .int y22, .int y23, .int y24, .int y25, .int y26, .int y27])), (m18, .inl (k0, 60, .inl fb)), (m19, .inl (k1, 60, .inl fl)), (m20, .inl (k2, 60, .inl fr)), (m21, .inl (k3, 60, .inl fs)), (m3, .inl (k4, 89, .inl fz)), (m4, .inl (k5, 5340, .inl fw))] [(k0, .int), (k1, .int), (k2, .int), (k3, .int), (k4, .int), (k5, .byte)] (fun (_ : (Nat → Int32) × (Nat → Int32)) => none) (fun u => (∀ j : Nat, 0 ≤ (u.1 j).toInt ∧ (u.1 j).toInt ≤ 60) ∧ sb_Fit u.2 ∧ (u.1 88).toInt = (fz 88).toInt + (w + kt_br fb n x1.toInt : Nat)) (fun u => [(a0, .inr (7, [.ref m0, .int y1, .ref m2, .ref m3, .ref m4, .ref m5, .ref m6, .ref m7, .ref m8, .int y9, .int y10, .int y11, .int y12, .int y13, .int y14, .int y15, .ref m16, .ref m17, .ref m18, .ref m19, .ref m20, .ref m21, .int y22, .int y23, .int y24, .int y25, .int y26, .int y27])), (m18, .inl (k0, 60, .inl fb)), (m19, .inl (k1, 60, .inl fl)), (m20, .inl (k2, 60, .inl fr)), (m21, .inl (k3, 60, .inl fs)), (m3, .inl (k4, 89, .inl u.1)), (m4, .inl (k5, 5340, .inl u.2))]) (fun _ => []) := by
  intro n
  induction n using Nat.strongRecOn with
  | ind n ih =>
    intro hn x0 x1 w fz fw hx0 hok hfz hfw hroom
    have hcl : Int32.toNatClampNeg x0 = n := by unfold Int32.toNatClampNeg; omega
    refine ka_E_of (cc := cX7_write) (maxL := 4) (ret := none) (by decide) rfl (Nat.le_of_ble_eq_true rfl) ?_
    intro p e s m below meth c ls A C hr hlk hin hP hK hD hS hA hE hN hl
    have C : CallFix p m c cX7_write 4 s [.ref a0, .int x0, .int x1].toArray wsX7_write RX7 := C
    obtain ⟨hx, hb, hml, hown, hts⟩ := id C
    have hl : lv_has ls 4 [(0, .ref a0), (1, .int x0), (2, .int x1)] := hl
    have h0 := hfz 88
    have rx1 := ka_rng x1
    rcases kt_inv hok with ⟨h1, hw⟩ | ⟨h1, a, wa, hl1, ha, oka, hw⟩ | ⟨h1, h2, a, wa, d, wd, hl1, ha, oka, hr1, hd, okd, hw⟩
    · skip
      refine lv_aload_n hx hb dX7_write_0 rfl (lv_at hl 0 rfl) ?_
      refine ka_get C lqv_0 rfl hK hP 0 rfl 18 (by decide) lqv_1 rfl dX7_write_1 ?_
      refine lv_iload_n hx hb dX7_write_4 rfl (lv_at hl 1 rfl) ?_
      refine va_iald hx hb hK hP 1 0 rfl rfl (ka_in (by omega) (by omega)) dX7_write_5 ?_
      refine lv_topi (fun v_1 ev_1 => ?_)
      rw [hcl] at ev_1
      have fv_1 : v_1.toInt = 5 := by rw [ev_1]; exact h1
      have bv_1 : v_1.toInt = (fb n).toInt := by rw [ev_1]
      refine lv_iload_n hx hb dX7_write_6 rfl (lv_at hl 2 rfl) ?_
      refine lv_icmp_ge (tgt := 14) hx hb dX7_write_7 (by decide) (fun c_2 => ?_) (fun c_2 => ?_)
      · have c_2 : x1.toInt ≤ v_1.toInt := by rw [ka_le'] at c_2; exact c_2
        have hbr : kt_br fb n x1.toInt = 0 := by unfold kt_br; rw [if_neg (by omega)]
        refine lv_iconst (v := 0) hx hb dX7_write_14 (by decide) ?_
        refine lv_istore_n (lv' := [(3, .int 0), (0, .ref a0), (1, .int x0), (2, .int x1)]) hx hb dX7_write_15 rfl hl (by decide) rfl (fun ls hl => ?_)
        refine lv_iload_n hx hb dX7_write_16 rfl (lv_at hl 0 rfl) ?_
        refine lv_if_eq (tgt := 26) hx hb dX7_write_17 (by decide) (fun _ => ?_) (fun c_ => absurd (by decide) c_)
        refine lv_aload_n hx hb dX7_write_26 rfl (lv_at hl 1 rfl) ?_
        refine ka_get C lqv_0 rfl hK hP 0 rfl 18 (by decide) lqv_1 rfl dX7_write_27 ?_
        refine lv_iload_n hx hb dX7_write_30 rfl (lv_at hl 2 rfl) ?_
        refine va_iald hx hb hK hP 1 0 rfl rfl (ka_in (by omega) (by omega)) dX7_write_31 ?_
        refine lv_topi (fun v_3 ev_3 => ?_)
        rw [hcl] at ev_3
        have fv_3 : v_3.toInt = 5 := by rw [ev_3]; exact h1
        have bv_3 : v_3.toInt = (fb n).toInt := by rw [ev_3]
        refine lv_iconst (v := 4) hx hb dX7_write_32 (by decide) ?_
        refine lv_icmp_ne (tgt := 56) hx hb dX7_write_33 (by decide) (fun _ => ?_) (fun c_ => absurd c_ (show ¬ v_3 = 4 from by rw [ka_eq', show ((4 : Int32)).toInt = 4 from by decide]; omega))
        refine lv_aload_n hx hb dX7_write_56 rfl (lv_at hl 1 rfl) ?_
        refine ka_get C lqv_0 rfl hK hP 0 rfl 18 (by decide) lqv_1 rfl dX7_write_57 ?_
        refine lv_iload_n hx hb dX7_write_60 rfl (lv_at hl 2 rfl) ?_
        refine va_iald hx hb hK hP 1 0 rfl rfl (ka_in (by omega) (by omega)) dX7_write_61 ?_
        refine lv_topi (fun v_4 ev_4 => ?_)
        rw [hcl] at ev_4
        have fv_4 : v_4.toInt = 5 := by rw [ev_4]; exact h1
        have bv_4 : v_4.toInt = (fb n).toInt := by rw [ev_4]
        refine lv_iconst (v := 5) hx hb dX7_write_62 (by decide) ?_
        refine lv_icmp_ne (tgt := 79) hx hb dX7_write_63 (by decide) (fun c_ => absurd (show v_4 = 5 from by rw [ka_eq', show ((5 : Int32)).toInt = 5 from by decide]; omega) c_) (fun _ => ?_)
        refine lv_aload_n hx hb dX7_write_66 rfl (lv_at hl 1 rfl) ?_
        refine lv_aload_n hx hb dX7_write_67 rfl (lv_at hl 1 rfl) ?_
        refine ka_get C lqv_0 rfl hK hP 0 rfl 21 (by decide) lqv_2 rfl dX7_write_68 ?_
        refine lv_iload_n hx hb dX7_write_71 rfl (lv_at hl 2 rfl) ?_
        refine va_iald hx hb hK hP 4 3 rfl rfl (ka_in (by omega) (by omega)) dX7_write_72 ?_
        refine lv_topi (fun v_5 ev_5 => ?_)
        rw [hcl] at ev_5
        have ug_6 : (fz 88).toInt ≤ 59 := by omega
        refine ka_EV (n := 1) (wr := [(m18, .inl (k0, 60, .inl fb)), (m19, .inl (k1, 60, .inl fl)), (m20, .inl (k2, 60, .inl fr)), (m21, .inl (k3, 60, .inl fs))]) C (kt_writes l D F a0 m0 y1 m2 m3 m4 m5 m6 m7 m8 y9 y10 y11 y12 y13 y14 y15 m16 m17 m18 m19 m20 m21 y22 y23 y24 y25 y26 y27 k4 k5 fz fw v_5 hfz hfw ug_6) gX7_write_X7_writes rfl (by decide +kernel) ⟨show 0 + 1 ≤ n + 1 by omega, show 8 + (2 + 11) + 0 ≤ (n + 1) * 30 by omega⟩ hK hP hD hS hA hE hN [0, 5, 6] rfl (by decide) [1, 2, 3, 4] rfl (by decide) (by decide) [4, 5] rfl (ci := 7) rfl rfl 0 rfl rfl hl.1 (rest := []) rfl (Nat.le_of_ble_eq_true rfl) dX7_write_73 ⟨Nat.le_of_ble_eq_true rfl, Nat.le_of_ble_eq_true rfl⟩ (fun u H locs hq hP hD hK hS => ?_)
        obtain ⟨g_6, g_7⟩ := u
        have hq : (∀ j : Nat, 0 ≤ (g_6 j).toInt ∧ (g_6 j).toInt ≤ 60) ∧ sb_Fit g_7 ∧ (g_6 88).toInt = (fz 88).toInt + 1 := hq
        obtain ⟨hg_6, hg_7, tg_6⟩ := hq
        have hP : va_P D vwCl [(m18, .inl (k0, 60, .inl fb)), (m19, .inl (k1, 60, .inl fl)), (m20, .inl (k2, 60, .inl fr)), (m21, .inl (k3, 60, .inl fs)), (a0, .inr (7, [.ref m0, .int y1, .ref m2, .ref m3, .ref m4, .ref m5, .ref m6, .ref m7, .ref m8, .int y9, .int y10, .int y11, .int y12, .int y13, .int y14, .int y15, .ref m16, .ref m17, .ref m18, .ref m19, .ref m20, .ref m21, .int y22, .int y23, .int y24, .int y25, .int y26, .int y27])), (m3, .inl (k4, 89, .inl g_6)), (m4, .inl (k5, 5340, .inl g_7))] H := hP
        have hD : va_D A [(m18, .inl (k0, 60, .inl fb)), (m19, .inl (k1, 60, .inl fl)), (m20, .inl (k2, 60, .inl fr)), (m21, .inl (k3, 60, .inl fs)), (a0, .inr (7, [.ref m0, .int y1, .ref m2, .ref m3, .ref m4, .ref m5, .ref m6, .ref m7, .ref m8, .int y9, .int y10, .int y11, .int y12, .int y13, .int y14, .int y15, .ref m16, .ref m17, .ref m18, .ref m19, .ref m20, .ref m21, .int y22, .int y23, .int y24, .int y25, .int y26, .int y27])), (m3, .inl (k4, 89, .inl g_6)), (m4, .inl (k5, 5340, .inl g_7))] := hD
        have hK : va_K D vwCl [(k0, .int), (k1, .int), (k2, .int), (k3, .int), (k4, .int), (k5, .byte)] s := by simpa using hK
        refine ka_stk (w := []) rfl ?_
        refine lv_goto (tgt := 121) hx hb dX7_write_76 (by decide) ?_
        refine lv_iload_n hx hb dX7_write_121 rfl (lv_at hl 0 rfl) ?_
        refine lv_if_eq (tgt := 131) hx hb dX7_write_122 (by decide) (fun _ => ?_) (fun c_ => absurd (by decide) c_)
        have hend : (g_6 88).toInt = (fz 88).toInt + (w + kt_br fb n x1.toInt : Nat) := by omega
        exact ka_rEv C hr hlk (Nat.le_of_ble_eq_true rfl) (Nat.le_of_ble_eq_true rfl) hS (ka_qE (g_6, g_7) rfl ⟨hg_6, hg_7, hend⟩ hK hP hD hS [4, 0, 1, 2, 3, 5, 6] (by decide) rfl [] rfl) dX7_write_131
      · have c_2 : ¬ x1.toInt ≤ v_1.toInt := by rw [ka_le'] at c_2; exact c_2
        have hbr : kt_br fb n x1.toInt = 2 := by unfold kt_br; rw [if_pos (by omega)]
        refine lv_iconst (v := 1) hx hb dX7_write_10 (by decide) ?_
        refine lv_goto (tgt := 15) hx hb dX7_write_11 (by decide) ?_
        refine lv_istore_n (lv' := [(3, .int 1), (0, .ref a0), (1, .int x0), (2, .int x1)]) hx hb dX7_write_15 rfl hl (by decide) rfl (fun ls hl => ?_)
        refine lv_iload_n hx hb dX7_write_16 rfl (lv_at hl 0 rfl) ?_
        refine lv_if_eq (tgt := 26) hx hb dX7_write_17 (by decide) (fun c_ => absurd c_ (by decide)) (fun _ => ?_)
        refine lv_aload_n hx hb dX7_write_20 rfl (lv_at hl 1 rfl) ?_
        refine lv_bipush (v := 40) hx hb dX7_write_21 (by decide) ?_
        have ug_8 : (fz 88).toInt ≤ 59 := by omega
        refine ka_EV (n := 1) (wr := [(m18, .inl (k0, 60, .inl fb)), (m19, .inl (k1, 60, .inl fl)), (m20, .inl (k2, 60, .inl fr)), (m21, .inl (k3, 60, .inl fs))]) C (kt_writes l D F a0 m0 y1 m2 m3 m4 m5 m6 m7 m8 y9 y10 y11 y12 y13 y14 y15 m16 m17 m18 m19 m20 m21 y22 y23 y24 y25 y26 y27 k4 k5 fz fw 40 hfz hfw ug_8) gX7_write_X7_writes rfl (by decide +kernel) ⟨show 0 + 1 ≤ n + 1 by omega, show 8 + (2 + 11) + 0 ≤ (n + 1) * 30 by omega⟩ hK hP hD hS hA hE hN [0, 5, 6] rfl (by decide) [1, 2, 3, 4] rfl (by decide) (by decide) [4, 5] rfl (ci := 7) rfl rfl 0 rfl rfl hl.1 (rest := []) rfl (Nat.le_of_ble_eq_true rfl) dX7_write_23 ⟨Nat.le_of_ble_eq_true rfl, Nat.le_of_ble_eq_true rfl⟩ (fun u H locs hq hP hD hK hS => ?_)
        obtain ⟨g_8, g_9⟩ := u
        have hq : (∀ j : Nat, 0 ≤ (g_8 j).toInt ∧ (g_8 j).toInt ≤ 60) ∧ sb_Fit g_9 ∧ (g_8 88).toInt = (fz 88).toInt + 1 := hq
        obtain ⟨hg_8, hg_9, tg_8⟩ := hq
        have hP : va_P D vwCl [(m18, .inl (k0, 60, .inl fb)), (m19, .inl (k1, 60, .inl fl)), (m20, .inl (k2, 60, .inl fr)), (m21, .inl (k3, 60, .inl fs)), (a0, .inr (7, [.ref m0, .int y1, .ref m2, .ref m3, .ref m4, .ref m5, .ref m6, .ref m7, .ref m8, .int y9, .int y10, .int y11, .int y12, .int y13, .int y14, .int y15, .ref m16, .ref m17, .ref m18, .ref m19, .ref m20, .ref m21, .int y22, .int y23, .int y24, .int y25, .int y26, .int y27])), (m3, .inl (k4, 89, .inl g_8)), (m4, .inl (k5, 5340, .inl g_9))] H := hP
        have hD : va_D A [(m18, .inl (k0, 60, .inl fb)), (m19, .inl (k1, 60, .inl fl)), (m20, .inl (k2, 60, .inl fr)), (m21, .inl (k3, 60, .inl fs)), (a0, .inr (7, [.ref m0, .int y1, .ref m2, .ref m3, .ref m4, .ref m5, .ref m6, .ref m7, .ref m8, .int y9, .int y10, .int y11, .int y12, .int y13, .int y14, .int y15, .ref m16, .ref m17, .ref m18, .ref m19, .ref m20, .ref m21, .int y22, .int y23, .int y24, .int y25, .int y26, .int y27])), (m3, .inl (k4, 89, .inl g_8)), (m4, .inl (k5, 5340, .inl g_9))] := hD
        have hK : va_K D vwCl [(k0, .int), (k1, .int), (k2, .int), (k3, .int), (k4, .int), (k5, .byte)] s := by simpa using hK
        refine ka_stk (w := []) rfl ?_
        refine lv_aload_n hx hb dX7_write_26 rfl (lv_at hl 1 rfl) ?_
        refine ka_get C lqv_0 rfl hK hP 4 rfl 18 (by decide) lqv_1 rfl dX7_write_27 ?_
        refine lv_iload_n hx hb dX7_write_30 rfl (lv_at hl 2 rfl) ?_
        refine va_iald hx hb hK hP 0 0 rfl rfl (ka_in (by omega) (by omega)) dX7_write_31 ?_
        refine lv_topi (fun v_10 ev_10 => ?_)
        rw [hcl] at ev_10
        have fv_10 : v_10.toInt = 5 := by rw [ev_10]; exact h1
        have bv_10 : v_10.toInt = (fb n).toInt := by rw [ev_10]
        refine lv_iconst (v := 4) hx hb dX7_write_32 (by decide) ?_
        refine lv_icmp_ne (tgt := 56) hx hb dX7_write_33 (by decide) (fun _ => ?_) (fun c_ => absurd c_ (show ¬ v_10 = 4 from by rw [ka_eq', show ((4 : Int32)).toInt = 4 from by decide]; omega))
        refine lv_aload_n hx hb dX7_write_56 rfl (lv_at hl 1 rfl) ?_
        refine ka_get C lqv_0 rfl hK hP 4 rfl 18 (by decide) lqv_1 rfl dX7_write_57 ?_
        refine lv_iload_n hx hb dX7_write_60 rfl (lv_at hl 2 rfl) ?_
        refine va_iald hx hb hK hP 0 0 rfl rfl (ka_in (by omega) (by omega)) dX7_write_61 ?_
        refine lv_topi (fun v_11 ev_11 => ?_)
        rw [hcl] at ev_11
        have fv_11 : v_11.toInt = 5 := by rw [ev_11]; exact h1
        have bv_11 : v_11.toInt = (fb n).toInt := by rw [ev_11]
        refine lv_iconst (v := 5) hx hb dX7_write_62 (by decide) ?_
        refine lv_icmp_ne (tgt := 79) hx hb dX7_write_63 (by decide) (fun c_ => absurd (show v_11 = 5 from by rw [ka_eq', show ((5 : Int32)).toInt = 5 from by decide]; omega) c_) (fun _ => ?_)
        refine lv_aload_n hx hb dX7_write_66 rfl (lv_at hl 1 rfl) ?_
        refine lv_aload_n hx hb dX7_write_67 rfl (lv_at hl 1 rfl) ?_
        refine ka_get C lqv_0 rfl hK hP 4 rfl 21 (by decide) lqv_2 rfl dX7_write_68 ?_
        refine lv_iload_n hx hb dX7_write_71 rfl (lv_at hl 2 rfl) ?_
        refine va_iald hx hb hK hP 3 3 rfl rfl (ka_in (by omega) (by omega)) dX7_write_72 ?_
        refine lv_topi (fun v_12 ev_12 => ?_)
        rw [hcl] at ev_12
        have ug_13 : (g_8 88).toInt ≤ 59 := by omega
        refine ka_EV (n := 1) (wr := [(m18, .inl (k0, 60, .inl fb)), (m19, .inl (k1, 60, .inl fl)), (m20, .inl (k2, 60, .inl fr)), (m21, .inl (k3, 60, .inl fs))]) C (kt_writes l D F a0 m0 y1 m2 m3 m4 m5 m6 m7 m8 y9 y10 y11 y12 y13 y14 y15 m16 m17 m18 m19 m20 m21 y22 y23 y24 y25 y26 y27 k4 k5 g_8 g_9 v_12 hg_8 hg_9 ug_13) gX7_write_X7_writes rfl (by decide +kernel) ⟨show 0 + 1 ≤ n + 1 by omega, show 8 + (2 + 11) + 0 ≤ (n + 1) * 30 by omega⟩ hK hP hD hS hA hE hN [4, 5, 6] rfl (by decide) [0, 1, 2, 3] rfl (by decide) (by decide) [4, 5] rfl (ci := 7) rfl rfl 4 rfl rfl hl.1 (rest := []) rfl (Nat.le_of_ble_eq_true rfl) dX7_write_73 ⟨Nat.le_of_ble_eq_true rfl, Nat.le_of_ble_eq_true rfl⟩ (fun u H locs hq hP hD hK hS => ?_)
        obtain ⟨g_13, g_14⟩ := u
        have hq : (∀ j : Nat, 0 ≤ (g_13 j).toInt ∧ (g_13 j).toInt ≤ 60) ∧ sb_Fit g_14 ∧ (g_13 88).toInt = (g_8 88).toInt + 1 := hq
        obtain ⟨hg_13, hg_14, tg_13⟩ := hq
        have hP : va_P D vwCl [(m18, .inl (k0, 60, .inl fb)), (m19, .inl (k1, 60, .inl fl)), (m20, .inl (k2, 60, .inl fr)), (m21, .inl (k3, 60, .inl fs)), (a0, .inr (7, [.ref m0, .int y1, .ref m2, .ref m3, .ref m4, .ref m5, .ref m6, .ref m7, .ref m8, .int y9, .int y10, .int y11, .int y12, .int y13, .int y14, .int y15, .ref m16, .ref m17, .ref m18, .ref m19, .ref m20, .ref m21, .int y22, .int y23, .int y24, .int y25, .int y26, .int y27])), (m3, .inl (k4, 89, .inl g_13)), (m4, .inl (k5, 5340, .inl g_14))] H := hP
        have hD : va_D A [(m18, .inl (k0, 60, .inl fb)), (m19, .inl (k1, 60, .inl fl)), (m20, .inl (k2, 60, .inl fr)), (m21, .inl (k3, 60, .inl fs)), (a0, .inr (7, [.ref m0, .int y1, .ref m2, .ref m3, .ref m4, .ref m5, .ref m6, .ref m7, .ref m8, .int y9, .int y10, .int y11, .int y12, .int y13, .int y14, .int y15, .ref m16, .ref m17, .ref m18, .ref m19, .ref m20, .ref m21, .int y22, .int y23, .int y24, .int y25, .int y26, .int y27])), (m3, .inl (k4, 89, .inl g_13)), (m4, .inl (k5, 5340, .inl g_14))] := hD
        have hK : va_K D vwCl [(k0, .int), (k1, .int), (k2, .int), (k3, .int), (k4, .int), (k5, .byte)] s := by simpa using hK
        refine ka_stk (w := []) rfl ?_
        refine lv_goto (tgt := 121) hx hb dX7_write_76 (by decide) ?_
        refine lv_iload_n hx hb dX7_write_121 rfl (lv_at hl 0 rfl) ?_
        refine lv_if_eq (tgt := 131) hx hb dX7_write_122 (by decide) (fun c_ => absurd c_ (by decide)) (fun _ => ?_)
        refine lv_aload_n hx hb dX7_write_125 rfl (lv_at hl 1 rfl) ?_
        refine lv_bipush (v := 41) hx hb dX7_write_126 (by decide) ?_
        have ug_15 : (g_13 88).toInt ≤ 59 := by omega
        refine ka_EV (n := 1) (wr := [(m18, .inl (k0, 60, .inl fb)), (m19, .inl (k1, 60, .inl fl)), (m20, .inl (k2, 60, .inl fr)), (m21, .inl (k3, 60, .inl fs))]) C (kt_writes l D F a0 m0 y1 m2 m3 m4 m5 m6 m7 m8 y9 y10 y11 y12 y13 y14 y15 m16 m17 m18 m19 m20 m21 y22 y23 y24 y25 y26 y27 k4 k5 g_13 g_14 41 hg_13 hg_14 ug_15) gX7_write_X7_writes rfl (by decide +kernel) ⟨show 0 + 1 ≤ n + 1 by omega, show 8 + (2 + 11) + 0 ≤ (n + 1) * 30 by omega⟩ hK hP hD hS hA hE hN [4, 5, 6] rfl (by decide) [0, 1, 2, 3] rfl (by decide) (by decide) [4, 5] rfl (ci := 7) rfl rfl 4 rfl rfl hl.1 (rest := []) rfl (Nat.le_of_ble_eq_true rfl) dX7_write_128 ⟨Nat.le_of_ble_eq_true rfl, Nat.le_of_ble_eq_true rfl⟩ (fun u H locs hq hP hD hK hS => ?_)
        obtain ⟨g_15, g_16⟩ := u
        have hq : (∀ j : Nat, 0 ≤ (g_15 j).toInt ∧ (g_15 j).toInt ≤ 60) ∧ sb_Fit g_16 ∧ (g_15 88).toInt = (g_13 88).toInt + 1 := hq
        obtain ⟨hg_15, hg_16, tg_15⟩ := hq
        have hP : va_P D vwCl [(m18, .inl (k0, 60, .inl fb)), (m19, .inl (k1, 60, .inl fl)), (m20, .inl (k2, 60, .inl fr)), (m21, .inl (k3, 60, .inl fs)), (a0, .inr (7, [.ref m0, .int y1, .ref m2, .ref m3, .ref m4, .ref m5, .ref m6, .ref m7, .ref m8, .int y9, .int y10, .int y11, .int y12, .int y13, .int y14, .int y15, .ref m16, .ref m17, .ref m18, .ref m19, .ref m20, .ref m21, .int y22, .int y23, .int y24, .int y25, .int y26, .int y27])), (m3, .inl (k4, 89, .inl g_15)), (m4, .inl (k5, 5340, .inl g_16))] H := hP
        have hD : va_D A [(m18, .inl (k0, 60, .inl fb)), (m19, .inl (k1, 60, .inl fl)), (m20, .inl (k2, 60, .inl fr)), (m21, .inl (k3, 60, .inl fs)), (a0, .inr (7, [.ref m0, .int y1, .ref m2, .ref m3, .ref m4, .ref m5, .ref m6, .ref m7, .ref m8, .int y9, .int y10, .int y11, .int y12, .int y13, .int y14, .int y15, .ref m16, .ref m17, .ref m18, .ref m19, .ref m20, .ref m21, .int y22, .int y23, .int y24, .int y25, .int y26, .int y27])), (m3, .inl (k4, 89, .inl g_15)), (m4, .inl (k5, 5340, .inl g_16))] := hD
        have hK : va_K D vwCl [(k0, .int), (k1, .int), (k2, .int), (k3, .int), (k4, .int), (k5, .byte)] s := by simpa using hK
        refine ka_stk (w := []) rfl ?_
        have hend : (g_15 88).toInt = (fz 88).toInt + (w + kt_br fb n x1.toInt : Nat) := by omega
        exact ka_rEv C hr hlk (Nat.le_of_ble_eq_true rfl) (Nat.le_of_ble_eq_true rfl) hS (ka_qE (g_15, g_16) rfl ⟨hg_15, hg_16, hend⟩ hK hP hD hS [4, 0, 1, 2, 3, 5, 6] (by decide) rfl [] rfl) dX7_write_131
    · skip
      refine lv_aload_n hx hb dX7_write_0 rfl (lv_at hl 0 rfl) ?_
      refine ka_get C lqv_0 rfl hK hP 0 rfl 18 (by decide) lqv_1 rfl dX7_write_1 ?_
      refine lv_iload_n hx hb dX7_write_4 rfl (lv_at hl 1 rfl) ?_
      refine va_iald hx hb hK hP 1 0 rfl rfl (ka_in (by omega) (by omega)) dX7_write_5 ?_
      refine lv_topi (fun v_17 ev_17 => ?_)
      rw [hcl] at ev_17
      have fv_17 : v_17.toInt = 4 := by rw [ev_17]; exact h1
      have bv_17 : v_17.toInt = (fb n).toInt := by rw [ev_17]
      refine lv_iload_n hx hb dX7_write_6 rfl (lv_at hl 2 rfl) ?_
      refine lv_icmp_ge (tgt := 14) hx hb dX7_write_7 (by decide) (fun c_18 => ?_) (fun c_18 => ?_)
      · have c_18 : x1.toInt ≤ v_17.toInt := by rw [ka_le'] at c_18; exact c_18
        have hbr : kt_br fb n x1.toInt = 0 := by unfold kt_br; rw [if_neg (by omega)]
        refine lv_iconst (v := 0) hx hb dX7_write_14 (by decide) ?_
        refine lv_istore_n (lv' := [(3, .int 0), (0, .ref a0), (1, .int x0), (2, .int x1)]) hx hb dX7_write_15 rfl hl (by decide) rfl (fun ls hl => ?_)
        refine lv_iload_n hx hb dX7_write_16 rfl (lv_at hl 0 rfl) ?_
        refine lv_if_eq (tgt := 26) hx hb dX7_write_17 (by decide) (fun _ => ?_) (fun c_ => absurd (by decide) c_)
        refine lv_aload_n hx hb dX7_write_26 rfl (lv_at hl 1 rfl) ?_
        refine ka_get C lqv_0 rfl hK hP 0 rfl 18 (by decide) lqv_1 rfl dX7_write_27 ?_
        refine lv_iload_n hx hb dX7_write_30 rfl (lv_at hl 2 rfl) ?_
        refine va_iald hx hb hK hP 1 0 rfl rfl (ka_in (by omega) (by omega)) dX7_write_31 ?_
        refine lv_topi (fun v_19 ev_19 => ?_)
        rw [hcl] at ev_19
        have fv_19 : v_19.toInt = 4 := by rw [ev_19]; exact h1
        have bv_19 : v_19.toInt = (fb n).toInt := by rw [ev_19]
        refine lv_iconst (v := 4) hx hb dX7_write_32 (by decide) ?_
        refine lv_icmp_ne (tgt := 56) hx hb dX7_write_33 (by decide) (fun c_ => absurd (show v_19 = 4 from by rw [ka_eq', show ((4 : Int32)).toInt = 4 from by decide]; omega) c_) (fun _ => ?_)
        refine lv_aload_n hx hb dX7_write_36 rfl (lv_at hl 1 rfl) ?_
        refine lv_bipush (v := 33) hx hb dX7_write_37 (by decide) ?_
        have ug_20 : (fz 88).toInt ≤ 59 := by omega
        refine ka_EV (n := 1) (wr := [(m18, .inl (k0, 60, .inl fb)), (m19, .inl (k1, 60, .inl fl)), (m20, .inl (k2, 60, .inl fr)), (m21, .inl (k3, 60, .inl fs))]) C (kt_writes l D F a0 m0 y1 m2 m3 m4 m5 m6 m7 m8 y9 y10 y11 y12 y13 y14 y15 m16 m17 m18 m19 m20 m21 y22 y23 y24 y25 y26 y27 k4 k5 fz fw 33 hfz hfw ug_20) gX7_write_X7_writes rfl (by decide +kernel) ⟨show 0 + 1 ≤ n + 1 by omega, show 8 + (2 + 11) + 0 ≤ (n + 1) * 30 by omega⟩ hK hP hD hS hA hE hN [0, 5, 6] rfl (by decide) [1, 2, 3, 4] rfl (by decide) (by decide) [4, 5] rfl (ci := 7) rfl rfl 0 rfl rfl hl.1 (rest := []) rfl (Nat.le_of_ble_eq_true rfl) dX7_write_39 ⟨Nat.le_of_ble_eq_true rfl, Nat.le_of_ble_eq_true rfl⟩ (fun u H locs hq hP hD hK hS => ?_)
        obtain ⟨g_20, g_21⟩ := u
        have hq : (∀ j : Nat, 0 ≤ (g_20 j).toInt ∧ (g_20 j).toInt ≤ 60) ∧ sb_Fit g_21 ∧ (g_20 88).toInt = (fz 88).toInt + 1 := hq
        obtain ⟨hg_20, hg_21, tg_20⟩ := hq
        have hP : va_P D vwCl [(m18, .inl (k0, 60, .inl fb)), (m19, .inl (k1, 60, .inl fl)), (m20, .inl (k2, 60, .inl fr)), (m21, .inl (k3, 60, .inl fs)), (a0, .inr (7, [.ref m0, .int y1, .ref m2, .ref m3, .ref m4, .ref m5, .ref m6, .ref m7, .ref m8, .int y9, .int y10, .int y11, .int y12, .int y13, .int y14, .int y15, .ref m16, .ref m17, .ref m18, .ref m19, .ref m20, .ref m21, .int y22, .int y23, .int y24, .int y25, .int y26, .int y27])), (m3, .inl (k4, 89, .inl g_20)), (m4, .inl (k5, 5340, .inl g_21))] H := hP
        have hD : va_D A [(m18, .inl (k0, 60, .inl fb)), (m19, .inl (k1, 60, .inl fl)), (m20, .inl (k2, 60, .inl fr)), (m21, .inl (k3, 60, .inl fs)), (a0, .inr (7, [.ref m0, .int y1, .ref m2, .ref m3, .ref m4, .ref m5, .ref m6, .ref m7, .ref m8, .int y9, .int y10, .int y11, .int y12, .int y13, .int y14, .int y15, .ref m16, .ref m17, .ref m18, .ref m19, .ref m20, .ref m21, .int y22, .int y23, .int y24, .int y25, .int y26, .int y27])), (m3, .inl (k4, 89, .inl g_20)), (m4, .inl (k5, 5340, .inl g_21))] := hD
        have hK : va_K D vwCl [(k0, .int), (k1, .int), (k2, .int), (k3, .int), (k4, .int), (k5, .byte)] s := by simpa using hK
        refine ka_stk (w := []) rfl ?_
        refine lv_aload_n hx hb dX7_write_42 rfl (lv_at hl 1 rfl) ?_
        refine lv_aload_n hx hb dX7_write_43 rfl (lv_at hl 1 rfl) ?_
        refine ka_get C lqv_0 rfl hK hP 4 rfl 19 (by decide) lqv_3 rfl dX7_write_44 ?_
        refine lv_iload_n hx hb dX7_write_47 rfl (lv_at hl 2 rfl) ?_
        refine va_iald hx hb hK hP 1 1 rfl rfl (ka_in (by omega) (by omega)) dX7_write_48 ?_
        refine lv_topi (fun v_22 ev_22 => ?_)
        rw [hcl] at ev_22
        have fv_22 : v_22.toInt = (a : Int) := by rw [ev_22]; exact hl1
        refine lv_iconst (v := 4) hx hb dX7_write_49 (by decide) ?_
        have ug_23 : (g_20 88).toInt + (wa + kt_br fb a (4 : Int32).toInt : Nat) ≤ 60 := by rw [(show ((4 : Int32)).toInt = 4 from by decide)]; omega
        refine ka_EV (n := 2) (wr := []) C (ih a ha (by omega) v_22 4 wa g_20 g_21 fv_22 oka hg_20 hg_21 ug_23) gX7_write_X7_write rfl (by decide +kernel) ⟨show (a + 1) + 1 ≤ n + 1 by omega, show 8 + (4 + 11) + (a + 1) * 30 ≤ (n + 1) * 30 by omega⟩ hK hP hD hS hA hE hN [4, 0, 1, 2, 3, 5, 6] rfl (by decide) [] rfl (by decide) (by decide) [0, 1, 2, 3, 4, 5] rfl (ci := 7) rfl rfl 4 rfl rfl hl.1 (rest := []) rfl (Nat.le_of_ble_eq_true rfl) dX7_write_50 ⟨Nat.le_of_ble_eq_true rfl, Nat.le_of_ble_eq_true rfl⟩ (fun u H locs hq hP hD hK hS => ?_)
        obtain ⟨g_23, g_24⟩ := u
        have hq : (∀ j : Nat, 0 ≤ (g_23 j).toInt ∧ (g_23 j).toInt ≤ 60) ∧ sb_Fit g_24 ∧ (g_23 88).toInt = (g_20 88).toInt + (wa + kt_br fb a (4 : Int32).toInt : Nat) := hq
        rw [(show ((4 : Int32)).toInt = 4 from by decide)] at hq
        obtain ⟨hg_23, hg_24, tg_23⟩ := hq
        have hP : va_P D vwCl [(a0, .inr (7, [.ref m0, .int y1, .ref m2, .ref m3, .ref m4, .ref m5, .ref m6, .ref m7, .ref m8, .int y9, .int y10, .int y11, .int y12, .int y13, .int y14, .int y15, .ref m16, .ref m17, .ref m18, .ref m19, .ref m20, .ref m21, .int y22, .int y23, .int y24, .int y25, .int y26, .int y27])), (m18, .inl (k0, 60, .inl fb)), (m19, .inl (k1, 60, .inl fl)), (m20, .inl (k2, 60, .inl fr)), (m21, .inl (k3, 60, .inl fs)), (m3, .inl (k4, 89, .inl g_23)), (m4, .inl (k5, 5340, .inl g_24))] H := hP
        have hD : va_D A [(a0, .inr (7, [.ref m0, .int y1, .ref m2, .ref m3, .ref m4, .ref m5, .ref m6, .ref m7, .ref m8, .int y9, .int y10, .int y11, .int y12, .int y13, .int y14, .int y15, .ref m16, .ref m17, .ref m18, .ref m19, .ref m20, .ref m21, .int y22, .int y23, .int y24, .int y25, .int y26, .int y27])), (m18, .inl (k0, 60, .inl fb)), (m19, .inl (k1, 60, .inl fl)), (m20, .inl (k2, 60, .inl fr)), (m21, .inl (k3, 60, .inl fs)), (m3, .inl (k4, 89, .inl g_23)), (m4, .inl (k5, 5340, .inl g_24))] := hD
        have hK : va_K D vwCl [(k0, .int), (k1, .int), (k2, .int), (k3, .int), (k4, .int), (k5, .byte)] s := by simpa using hK
        refine ka_stk (w := []) rfl ?_
        refine lv_goto (tgt := 121) hx hb dX7_write_53 (by decide) ?_
        refine lv_iload_n hx hb dX7_write_121 rfl (lv_at hl 0 rfl) ?_
        refine lv_if_eq (tgt := 131) hx hb dX7_write_122 (by decide) (fun _ => ?_) (fun c_ => absurd (by decide) c_)
        have hend : (g_23 88).toInt = (fz 88).toInt + (w + kt_br fb n x1.toInt : Nat) := by omega
        exact ka_rEv C hr hlk (Nat.le_of_ble_eq_true rfl) (Nat.le_of_ble_eq_true rfl) hS (ka_qE (g_23, g_24) rfl ⟨hg_23, hg_24, hend⟩ hK hP hD hS [0, 1, 2, 3, 4, 5, 6] (by decide) rfl [] rfl) dX7_write_131
      · have c_18 : ¬ x1.toInt ≤ v_17.toInt := by rw [ka_le'] at c_18; exact c_18
        have hbr : kt_br fb n x1.toInt = 2 := by unfold kt_br; rw [if_pos (by omega)]
        refine lv_iconst (v := 1) hx hb dX7_write_10 (by decide) ?_
        refine lv_goto (tgt := 15) hx hb dX7_write_11 (by decide) ?_
        refine lv_istore_n (lv' := [(3, .int 1), (0, .ref a0), (1, .int x0), (2, .int x1)]) hx hb dX7_write_15 rfl hl (by decide) rfl (fun ls hl => ?_)
        refine lv_iload_n hx hb dX7_write_16 rfl (lv_at hl 0 rfl) ?_
        refine lv_if_eq (tgt := 26) hx hb dX7_write_17 (by decide) (fun c_ => absurd c_ (by decide)) (fun _ => ?_)
        refine lv_aload_n hx hb dX7_write_20 rfl (lv_at hl 1 rfl) ?_
        refine lv_bipush (v := 40) hx hb dX7_write_21 (by decide) ?_
        have ug_25 : (fz 88).toInt ≤ 59 := by omega
        refine ka_EV (n := 1) (wr := [(m18, .inl (k0, 60, .inl fb)), (m19, .inl (k1, 60, .inl fl)), (m20, .inl (k2, 60, .inl fr)), (m21, .inl (k3, 60, .inl fs))]) C (kt_writes l D F a0 m0 y1 m2 m3 m4 m5 m6 m7 m8 y9 y10 y11 y12 y13 y14 y15 m16 m17 m18 m19 m20 m21 y22 y23 y24 y25 y26 y27 k4 k5 fz fw 40 hfz hfw ug_25) gX7_write_X7_writes rfl (by decide +kernel) ⟨show 0 + 1 ≤ n + 1 by omega, show 8 + (2 + 11) + 0 ≤ (n + 1) * 30 by omega⟩ hK hP hD hS hA hE hN [0, 5, 6] rfl (by decide) [1, 2, 3, 4] rfl (by decide) (by decide) [4, 5] rfl (ci := 7) rfl rfl 0 rfl rfl hl.1 (rest := []) rfl (Nat.le_of_ble_eq_true rfl) dX7_write_23 ⟨Nat.le_of_ble_eq_true rfl, Nat.le_of_ble_eq_true rfl⟩ (fun u H locs hq hP hD hK hS => ?_)
        obtain ⟨g_25, g_26⟩ := u
        have hq : (∀ j : Nat, 0 ≤ (g_25 j).toInt ∧ (g_25 j).toInt ≤ 60) ∧ sb_Fit g_26 ∧ (g_25 88).toInt = (fz 88).toInt + 1 := hq
        obtain ⟨hg_25, hg_26, tg_25⟩ := hq
        have hP : va_P D vwCl [(m18, .inl (k0, 60, .inl fb)), (m19, .inl (k1, 60, .inl fl)), (m20, .inl (k2, 60, .inl fr)), (m21, .inl (k3, 60, .inl fs)), (a0, .inr (7, [.ref m0, .int y1, .ref m2, .ref m3, .ref m4, .ref m5, .ref m6, .ref m7, .ref m8, .int y9, .int y10, .int y11, .int y12, .int y13, .int y14, .int y15, .ref m16, .ref m17, .ref m18, .ref m19, .ref m20, .ref m21, .int y22, .int y23, .int y24, .int y25, .int y26, .int y27])), (m3, .inl (k4, 89, .inl g_25)), (m4, .inl (k5, 5340, .inl g_26))] H := hP
        have hD : va_D A [(m18, .inl (k0, 60, .inl fb)), (m19, .inl (k1, 60, .inl fl)), (m20, .inl (k2, 60, .inl fr)), (m21, .inl (k3, 60, .inl fs)), (a0, .inr (7, [.ref m0, .int y1, .ref m2, .ref m3, .ref m4, .ref m5, .ref m6, .ref m7, .ref m8, .int y9, .int y10, .int y11, .int y12, .int y13, .int y14, .int y15, .ref m16, .ref m17, .ref m18, .ref m19, .ref m20, .ref m21, .int y22, .int y23, .int y24, .int y25, .int y26, .int y27])), (m3, .inl (k4, 89, .inl g_25)), (m4, .inl (k5, 5340, .inl g_26))] := hD
        have hK : va_K D vwCl [(k0, .int), (k1, .int), (k2, .int), (k3, .int), (k4, .int), (k5, .byte)] s := by simpa using hK
        refine ka_stk (w := []) rfl ?_
        refine lv_aload_n hx hb dX7_write_26 rfl (lv_at hl 1 rfl) ?_
        refine ka_get C lqv_0 rfl hK hP 4 rfl 18 (by decide) lqv_1 rfl dX7_write_27 ?_
        refine lv_iload_n hx hb dX7_write_30 rfl (lv_at hl 2 rfl) ?_
        refine va_iald hx hb hK hP 0 0 rfl rfl (ka_in (by omega) (by omega)) dX7_write_31 ?_
        refine lv_topi (fun v_27 ev_27 => ?_)
        rw [hcl] at ev_27
        have fv_27 : v_27.toInt = 4 := by rw [ev_27]; exact h1
        have bv_27 : v_27.toInt = (fb n).toInt := by rw [ev_27]
        refine lv_iconst (v := 4) hx hb dX7_write_32 (by decide) ?_
        refine lv_icmp_ne (tgt := 56) hx hb dX7_write_33 (by decide) (fun c_ => absurd (show v_27 = 4 from by rw [ka_eq', show ((4 : Int32)).toInt = 4 from by decide]; omega) c_) (fun _ => ?_)
        refine lv_aload_n hx hb dX7_write_36 rfl (lv_at hl 1 rfl) ?_
        refine lv_bipush (v := 33) hx hb dX7_write_37 (by decide) ?_
        have ug_28 : (g_25 88).toInt ≤ 59 := by omega
        refine ka_EV (n := 1) (wr := [(m18, .inl (k0, 60, .inl fb)), (m19, .inl (k1, 60, .inl fl)), (m20, .inl (k2, 60, .inl fr)), (m21, .inl (k3, 60, .inl fs))]) C (kt_writes l D F a0 m0 y1 m2 m3 m4 m5 m6 m7 m8 y9 y10 y11 y12 y13 y14 y15 m16 m17 m18 m19 m20 m21 y22 y23 y24 y25 y26 y27 k4 k5 g_25 g_26 33 hg_25 hg_26 ug_28) gX7_write_X7_writes rfl (by decide +kernel) ⟨show 0 + 1 ≤ n + 1 by omega, show 8 + (2 + 11) + 0 ≤ (n + 1) * 30 by omega⟩ hK hP hD hS hA hE hN [4, 5, 6] rfl (by decide) [0, 1, 2, 3] rfl (by decide) (by decide) [4, 5] rfl (ci := 7) rfl rfl 4 rfl rfl hl.1 (rest := []) rfl (Nat.le_of_ble_eq_true rfl) dX7_write_39 ⟨Nat.le_of_ble_eq_true rfl, Nat.le_of_ble_eq_true rfl⟩ (fun u H locs hq hP hD hK hS => ?_)
        obtain ⟨g_28, g_29⟩ := u
        have hq : (∀ j : Nat, 0 ≤ (g_28 j).toInt ∧ (g_28 j).toInt ≤ 60) ∧ sb_Fit g_29 ∧ (g_28 88).toInt = (g_25 88).toInt + 1 := hq
        obtain ⟨hg_28, hg_29, tg_28⟩ := hq
        have hP : va_P D vwCl [(m18, .inl (k0, 60, .inl fb)), (m19, .inl (k1, 60, .inl fl)), (m20, .inl (k2, 60, .inl fr)), (m21, .inl (k3, 60, .inl fs)), (a0, .inr (7, [.ref m0, .int y1, .ref m2, .ref m3, .ref m4, .ref m5, .ref m6, .ref m7, .ref m8, .int y9, .int y10, .int y11, .int y12, .int y13, .int y14, .int y15, .ref m16, .ref m17, .ref m18, .ref m19, .ref m20, .ref m21, .int y22, .int y23, .int y24, .int y25, .int y26, .int y27])), (m3, .inl (k4, 89, .inl g_28)), (m4, .inl (k5, 5340, .inl g_29))] H := hP
        have hD : va_D A [(m18, .inl (k0, 60, .inl fb)), (m19, .inl (k1, 60, .inl fl)), (m20, .inl (k2, 60, .inl fr)), (m21, .inl (k3, 60, .inl fs)), (a0, .inr (7, [.ref m0, .int y1, .ref m2, .ref m3, .ref m4, .ref m5, .ref m6, .ref m7, .ref m8, .int y9, .int y10, .int y11, .int y12, .int y13, .int y14, .int y15, .ref m16, .ref m17, .ref m18, .ref m19, .ref m20, .ref m21, .int y22, .int y23, .int y24, .int y25, .int y26, .int y27])), (m3, .inl (k4, 89, .inl g_28)), (m4, .inl (k5, 5340, .inl g_29))] := hD
        have hK : va_K D vwCl [(k0, .int), (k1, .int), (k2, .int), (k3, .int), (k4, .int), (k5, .byte)] s := by simpa using hK
        refine ka_stk (w := []) rfl ?_
        refine lv_aload_n hx hb dX7_write_42 rfl (lv_at hl 1 rfl) ?_
        refine lv_aload_n hx hb dX7_write_43 rfl (lv_at hl 1 rfl) ?_
        refine ka_get C lqv_0 rfl hK hP 4 rfl 19 (by decide) lqv_3 rfl dX7_write_44 ?_
        refine lv_iload_n hx hb dX7_write_47 rfl (lv_at hl 2 rfl) ?_
        refine va_iald hx hb hK hP 1 1 rfl rfl (ka_in (by omega) (by omega)) dX7_write_48 ?_
        refine lv_topi (fun v_30 ev_30 => ?_)
        rw [hcl] at ev_30
        have fv_30 : v_30.toInt = (a : Int) := by rw [ev_30]; exact hl1
        refine lv_iconst (v := 4) hx hb dX7_write_49 (by decide) ?_
        have ug_31 : (g_28 88).toInt + (wa + kt_br fb a (4 : Int32).toInt : Nat) ≤ 60 := by rw [(show ((4 : Int32)).toInt = 4 from by decide)]; omega
        refine ka_EV (n := 2) (wr := []) C (ih a ha (by omega) v_30 4 wa g_28 g_29 fv_30 oka hg_28 hg_29 ug_31) gX7_write_X7_write rfl (by decide +kernel) ⟨show (a + 1) + 1 ≤ n + 1 by omega, show 8 + (4 + 11) + (a + 1) * 30 ≤ (n + 1) * 30 by omega⟩ hK hP hD hS hA hE hN [4, 0, 1, 2, 3, 5, 6] rfl (by decide) [] rfl (by decide) (by decide) [0, 1, 2, 3, 4, 5] rfl (ci := 7) rfl rfl 4 rfl rfl hl.1 (rest := []) rfl (Nat.le_of_ble_eq_true rfl) dX7_write_50 ⟨Nat.le_of_ble_eq_true rfl, Nat.le_of_ble_eq_true rfl⟩ (fun u H locs hq hP hD hK hS => ?_)
        obtain ⟨g_31, g_32⟩ := u
        have hq : (∀ j : Nat, 0 ≤ (g_31 j).toInt ∧ (g_31 j).toInt ≤ 60) ∧ sb_Fit g_32 ∧ (g_31 88).toInt = (g_28 88).toInt + (wa + kt_br fb a (4 : Int32).toInt : Nat) := hq
        rw [(show ((4 : Int32)).toInt = 4 from by decide)] at hq
        obtain ⟨hg_31, hg_32, tg_31⟩ := hq
        have hP : va_P D vwCl [(a0, .inr (7, [.ref m0, .int y1, .ref m2, .ref m3, .ref m4, .ref m5, .ref m6, .ref m7, .ref m8, .int y9, .int y10, .int y11, .int y12, .int y13, .int y14, .int y15, .ref m16, .ref m17, .ref m18, .ref m19, .ref m20, .ref m21, .int y22, .int y23, .int y24, .int y25, .int y26, .int y27])), (m18, .inl (k0, 60, .inl fb)), (m19, .inl (k1, 60, .inl fl)), (m20, .inl (k2, 60, .inl fr)), (m21, .inl (k3, 60, .inl fs)), (m3, .inl (k4, 89, .inl g_31)), (m4, .inl (k5, 5340, .inl g_32))] H := hP
        have hD : va_D A [(a0, .inr (7, [.ref m0, .int y1, .ref m2, .ref m3, .ref m4, .ref m5, .ref m6, .ref m7, .ref m8, .int y9, .int y10, .int y11, .int y12, .int y13, .int y14, .int y15, .ref m16, .ref m17, .ref m18, .ref m19, .ref m20, .ref m21, .int y22, .int y23, .int y24, .int y25, .int y26, .int y27])), (m18, .inl (k0, 60, .inl fb)), (m19, .inl (k1, 60, .inl fl)), (m20, .inl (k2, 60, .inl fr)), (m21, .inl (k3, 60, .inl fs)), (m3, .inl (k4, 89, .inl g_31)), (m4, .inl (k5, 5340, .inl g_32))] := hD
        have hK : va_K D vwCl [(k0, .int), (k1, .int), (k2, .int), (k3, .int), (k4, .int), (k5, .byte)] s := by simpa using hK
        refine ka_stk (w := []) rfl ?_
        refine lv_goto (tgt := 121) hx hb dX7_write_53 (by decide) ?_
        refine lv_iload_n hx hb dX7_write_121 rfl (lv_at hl 0 rfl) ?_
        refine lv_if_eq (tgt := 131) hx hb dX7_write_122 (by decide) (fun c_ => absurd c_ (by decide)) (fun _ => ?_)
        refine lv_aload_n hx hb dX7_write_125 rfl (lv_at hl 1 rfl) ?_
        refine lv_bipush (v := 41) hx hb dX7_write_126 (by decide) ?_
        have ug_33 : (g_31 88).toInt ≤ 59 := by omega
        refine ka_EV (n := 1) (wr := [(m18, .inl (k0, 60, .inl fb)), (m19, .inl (k1, 60, .inl fl)), (m20, .inl (k2, 60, .inl fr)), (m21, .inl (k3, 60, .inl fs))]) C (kt_writes l D F a0 m0 y1 m2 m3 m4 m5 m6 m7 m8 y9 y10 y11 y12 y13 y14 y15 m16 m17 m18 m19 m20 m21 y22 y23 y24 y25 y26 y27 k4 k5 g_31 g_32 41 hg_31 hg_32 ug_33) gX7_write_X7_writes rfl (by decide +kernel) ⟨show 0 + 1 ≤ n + 1 by omega, show 8 + (2 + 11) + 0 ≤ (n + 1) * 30 by omega⟩ hK hP hD hS hA hE hN [0, 5, 6] rfl (by decide) [1, 2, 3, 4] rfl (by decide) (by decide) [4, 5] rfl (ci := 7) rfl rfl 0 rfl rfl hl.1 (rest := []) rfl (Nat.le_of_ble_eq_true rfl) dX7_write_128 ⟨Nat.le_of_ble_eq_true rfl, Nat.le_of_ble_eq_true rfl⟩ (fun u H locs hq hP hD hK hS => ?_)
        obtain ⟨g_33, g_34⟩ := u
        have hq : (∀ j : Nat, 0 ≤ (g_33 j).toInt ∧ (g_33 j).toInt ≤ 60) ∧ sb_Fit g_34 ∧ (g_33 88).toInt = (g_31 88).toInt + 1 := hq
        obtain ⟨hg_33, hg_34, tg_33⟩ := hq
        have hP : va_P D vwCl [(m18, .inl (k0, 60, .inl fb)), (m19, .inl (k1, 60, .inl fl)), (m20, .inl (k2, 60, .inl fr)), (m21, .inl (k3, 60, .inl fs)), (a0, .inr (7, [.ref m0, .int y1, .ref m2, .ref m3, .ref m4, .ref m5, .ref m6, .ref m7, .ref m8, .int y9, .int y10, .int y11, .int y12, .int y13, .int y14, .int y15, .ref m16, .ref m17, .ref m18, .ref m19, .ref m20, .ref m21, .int y22, .int y23, .int y24, .int y25, .int y26, .int y27])), (m3, .inl (k4, 89, .inl g_33)), (m4, .inl (k5, 5340, .inl g_34))] H := hP
        have hD : va_D A [(m18, .inl (k0, 60, .inl fb)), (m19, .inl (k1, 60, .inl fl)), (m20, .inl (k2, 60, .inl fr)), (m21, .inl (k3, 60, .inl fs)), (a0, .inr (7, [.ref m0, .int y1, .ref m2, .ref m3, .ref m4, .ref m5, .ref m6, .ref m7, .ref m8, .int y9, .int y10, .int y11, .int y12, .int y13, .int y14, .int y15, .ref m16, .ref m17, .ref m18, .ref m19, .ref m20, .ref m21, .int y22, .int y23, .int y24, .int y25, .int y26, .int y27])), (m3, .inl (k4, 89, .inl g_33)), (m4, .inl (k5, 5340, .inl g_34))] := hD
        have hK : va_K D vwCl [(k0, .int), (k1, .int), (k2, .int), (k3, .int), (k4, .int), (k5, .byte)] s := by simpa using hK
        refine ka_stk (w := []) rfl ?_
        have hend : (g_33 88).toInt = (fz 88).toInt + (w + kt_br fb n x1.toInt : Nat) := by omega
        exact ka_rEv C hr hlk (Nat.le_of_ble_eq_true rfl) (Nat.le_of_ble_eq_true rfl) hS (ka_qE (g_33, g_34) rfl ⟨hg_33, hg_34, hend⟩ hK hP hD hS [4, 0, 1, 2, 3, 5, 6] (by decide) rfl [] rfl) dX7_write_131
    · skip
      refine lv_aload_n hx hb dX7_write_0 rfl (lv_at hl 0 rfl) ?_
      refine ka_get C lqv_0 rfl hK hP 0 rfl 18 (by decide) lqv_1 rfl dX7_write_1 ?_
      refine lv_iload_n hx hb dX7_write_4 rfl (lv_at hl 1 rfl) ?_
      refine va_iald hx hb hK hP 1 0 rfl rfl (ka_in (by omega) (by omega)) dX7_write_5 ?_
      refine lv_topi (fun v_35 ev_35 => ?_)
      rw [hcl] at ev_35
      have fv_35 : 1 ≤ v_35.toInt ∧ v_35.toInt ≤ 3 := by rw [ev_35]; exact ⟨h1, h2⟩
      have bv_35 : v_35.toInt = (fb n).toInt := by rw [ev_35]
      refine lv_iload_n hx hb dX7_write_6 rfl (lv_at hl 2 rfl) ?_
      refine lv_icmp_ge (tgt := 14) hx hb dX7_write_7 (by decide) (fun c_36 => ?_) (fun c_36 => ?_)
      · have c_36 : x1.toInt ≤ v_35.toInt := by rw [ka_le'] at c_36; exact c_36
        have hbr : kt_br fb n x1.toInt = 0 := by unfold kt_br; rw [if_neg (by omega)]
        refine lv_iconst (v := 0) hx hb dX7_write_14 (by decide) ?_
        refine lv_istore_n (lv' := [(3, .int 0), (0, .ref a0), (1, .int x0), (2, .int x1)]) hx hb dX7_write_15 rfl hl (by decide) rfl (fun ls hl => ?_)
        refine lv_iload_n hx hb dX7_write_16 rfl (lv_at hl 0 rfl) ?_
        refine lv_if_eq (tgt := 26) hx hb dX7_write_17 (by decide) (fun _ => ?_) (fun c_ => absurd (by decide) c_)
        refine lv_aload_n hx hb dX7_write_26 rfl (lv_at hl 1 rfl) ?_
        refine ka_get C lqv_0 rfl hK hP 0 rfl 18 (by decide) lqv_1 rfl dX7_write_27 ?_
        refine lv_iload_n hx hb dX7_write_30 rfl (lv_at hl 2 rfl) ?_
        refine va_iald hx hb hK hP 1 0 rfl rfl (ka_in (by omega) (by omega)) dX7_write_31 ?_
        refine lv_topi (fun v_37 ev_37 => ?_)
        rw [hcl] at ev_37
        have fv_37 : 1 ≤ v_37.toInt ∧ v_37.toInt ≤ 3 := by rw [ev_37]; exact ⟨h1, h2⟩
        have bv_37 : v_37.toInt = (fb n).toInt := by rw [ev_37]
        refine lv_iconst (v := 4) hx hb dX7_write_32 (by decide) ?_
        refine lv_icmp_ne (tgt := 56) hx hb dX7_write_33 (by decide) (fun _ => ?_) (fun c_ => absurd c_ (show ¬ v_37 = 4 from by rw [ka_eq', show ((4 : Int32)).toInt = 4 from by decide]; omega))
        refine lv_aload_n hx hb dX7_write_56 rfl (lv_at hl 1 rfl) ?_
        refine ka_get C lqv_0 rfl hK hP 0 rfl 18 (by decide) lqv_1 rfl dX7_write_57 ?_
        refine lv_iload_n hx hb dX7_write_60 rfl (lv_at hl 2 rfl) ?_
        refine va_iald hx hb hK hP 1 0 rfl rfl (ka_in (by omega) (by omega)) dX7_write_61 ?_
        refine lv_topi (fun v_38 ev_38 => ?_)
        rw [hcl] at ev_38
        have fv_38 : 1 ≤ v_38.toInt ∧ v_38.toInt ≤ 3 := by rw [ev_38]; exact ⟨h1, h2⟩
        have bv_38 : v_38.toInt = (fb n).toInt := by rw [ev_38]
        refine lv_iconst (v := 5) hx hb dX7_write_62 (by decide) ?_
        refine lv_icmp_ne (tgt := 79) hx hb dX7_write_63 (by decide) (fun _ => ?_) (fun c_ => absurd c_ (show ¬ v_38 = 5 from by rw [ka_eq', show ((5 : Int32)).toInt = 5 from by decide]; omega))
        refine lv_aload_n hx hb dX7_write_79 rfl (lv_at hl 1 rfl) ?_
        refine lv_aload_n hx hb dX7_write_80 rfl (lv_at hl 1 rfl) ?_
        refine ka_get C lqv_0 rfl hK hP 0 rfl 19 (by decide) lqv_3 rfl dX7_write_81 ?_
        refine lv_iload_n hx hb dX7_write_84 rfl (lv_at hl 2 rfl) ?_
        refine va_iald hx hb hK hP 2 1 rfl rfl (ka_in (by omega) (by omega)) dX7_write_85 ?_
        refine lv_topi (fun v_39 ev_39 => ?_)
        rw [hcl] at ev_39
        have fv_39 : v_39.toInt = (a : Int) := by rw [ev_39]; exact hl1
        refine lv_aload_n hx hb dX7_write_86 rfl (lv_at hl 1 rfl) ?_
        refine ka_get C lqv_0 rfl hK hP 0 rfl 18 (by decide) lqv_1 rfl dX7_write_87 ?_
        refine lv_iload_n hx hb dX7_write_90 rfl (lv_at hl 2 rfl) ?_
        refine va_iald hx hb hK hP 1 0 rfl rfl (ka_in (by omega) (by omega)) dX7_write_91 ?_
        refine lv_topi (fun v_40 ev_40 => ?_)
        rw [hcl] at ev_40
        have fv_40 : 1 ≤ v_40.toInt ∧ v_40.toInt ≤ 3 := by rw [ev_40]; exact ⟨h1, h2⟩
        have bv_40 : v_40.toInt = (fb n).toInt := by rw [ev_40]
        have ug_41 : (fz 88).toInt + (wa + kt_br fb a (v_40 : Int32).toInt : Nat) ≤ 60 := by rw [bv_40]; omega
        refine ka_EV (n := 2) (wr := []) C (ih a ha (by omega) v_39 v_40 wa fz fw fv_39 oka hfz hfw ug_41) gX7_write_X7_write rfl (by decide +kernel) ⟨show (a + 1) + 1 ≤ n + 1 by omega, show 8 + (4 + 11) + (a + 1) * 30 ≤ (n + 1) * 30 by omega⟩ hK hP hD hS hA hE hN [0, 1, 2, 3, 4, 5, 6] rfl (by decide) [] rfl (by decide) (by decide) [0, 1, 2, 3, 4, 5] rfl (ci := 7) rfl rfl 0 rfl rfl hl.1 (rest := []) rfl (Nat.le_of_ble_eq_true rfl) dX7_write_92 ⟨Nat.le_of_ble_eq_true rfl, Nat.le_of_ble_eq_true rfl⟩ (fun u H locs hq hP hD hK hS => ?_)
        obtain ⟨g_41, g_42⟩ := u
        have hq : (∀ j : Nat, 0 ≤ (g_41 j).toInt ∧ (g_41 j).toInt ≤ 60) ∧ sb_Fit g_42 ∧ (g_41 88).toInt = (fz 88).toInt + (wa + kt_br fb a (v_40 : Int32).toInt : Nat) := hq
        rw [bv_40] at hq
        obtain ⟨hg_41, hg_42, tg_41⟩ := hq
        have hP : va_P D vwCl [(a0, .inr (7, [.ref m0, .int y1, .ref m2, .ref m3, .ref m4, .ref m5, .ref m6, .ref m7, .ref m8, .int y9, .int y10, .int y11, .int y12, .int y13, .int y14, .int y15, .ref m16, .ref m17, .ref m18, .ref m19, .ref m20, .ref m21, .int y22, .int y23, .int y24, .int y25, .int y26, .int y27])), (m18, .inl (k0, 60, .inl fb)), (m19, .inl (k1, 60, .inl fl)), (m20, .inl (k2, 60, .inl fr)), (m21, .inl (k3, 60, .inl fs)), (m3, .inl (k4, 89, .inl g_41)), (m4, .inl (k5, 5340, .inl g_42))] H := hP
        have hD : va_D A [(a0, .inr (7, [.ref m0, .int y1, .ref m2, .ref m3, .ref m4, .ref m5, .ref m6, .ref m7, .ref m8, .int y9, .int y10, .int y11, .int y12, .int y13, .int y14, .int y15, .ref m16, .ref m17, .ref m18, .ref m19, .ref m20, .ref m21, .int y22, .int y23, .int y24, .int y25, .int y26, .int y27])), (m18, .inl (k0, 60, .inl fb)), (m19, .inl (k1, 60, .inl fl)), (m20, .inl (k2, 60, .inl fr)), (m21, .inl (k3, 60, .inl fs)), (m3, .inl (k4, 89, .inl g_41)), (m4, .inl (k5, 5340, .inl g_42))] := hD
        have hK : va_K D vwCl [(k0, .int), (k1, .int), (k2, .int), (k3, .int), (k4, .int), (k5, .byte)] s := by simpa using hK
        refine ka_stk (w := []) rfl ?_
        refine lv_aload_n hx hb dX7_write_95 rfl (lv_at hl 1 rfl) ?_
        refine lv_aload_n hx hb dX7_write_96 rfl (lv_at hl 1 rfl) ?_
        refine ka_get C lqv_0 rfl hK hP 0 rfl 21 (by decide) lqv_2 rfl dX7_write_97 ?_
        refine lv_iload_n hx hb dX7_write_100 rfl (lv_at hl 2 rfl) ?_
        refine va_iald hx hb hK hP 4 3 rfl rfl (ka_in (by omega) (by omega)) dX7_write_101 ?_
        refine lv_topi (fun v_43 ev_43 => ?_)
        rw [hcl] at ev_43
        have ug_44 : (g_41 88).toInt ≤ 59 := by omega
        refine ka_EV (n := 1) (wr := [(m18, .inl (k0, 60, .inl fb)), (m19, .inl (k1, 60, .inl fl)), (m20, .inl (k2, 60, .inl fr)), (m21, .inl (k3, 60, .inl fs))]) C (kt_writes l D F a0 m0 y1 m2 m3 m4 m5 m6 m7 m8 y9 y10 y11 y12 y13 y14 y15 m16 m17 m18 m19 m20 m21 y22 y23 y24 y25 y26 y27 k4 k5 g_41 g_42 v_43 hg_41 hg_42 ug_44) gX7_write_X7_writes rfl (by decide +kernel) ⟨show 0 + 1 ≤ n + 1 by omega, show 8 + (2 + 11) + 0 ≤ (n + 1) * 30 by omega⟩ hK hP hD hS hA hE hN [0, 5, 6] rfl (by decide) [1, 2, 3, 4] rfl (by decide) (by decide) [4, 5] rfl (ci := 7) rfl rfl 0 rfl rfl hl.1 (rest := []) rfl (Nat.le_of_ble_eq_true rfl) dX7_write_102 ⟨Nat.le_of_ble_eq_true rfl, Nat.le_of_ble_eq_true rfl⟩ (fun u H locs hq hP hD hK hS => ?_)
        obtain ⟨g_44, g_45⟩ := u
        have hq : (∀ j : Nat, 0 ≤ (g_44 j).toInt ∧ (g_44 j).toInt ≤ 60) ∧ sb_Fit g_45 ∧ (g_44 88).toInt = (g_41 88).toInt + 1 := hq
        obtain ⟨hg_44, hg_45, tg_44⟩ := hq
        have hP : va_P D vwCl [(m18, .inl (k0, 60, .inl fb)), (m19, .inl (k1, 60, .inl fl)), (m20, .inl (k2, 60, .inl fr)), (m21, .inl (k3, 60, .inl fs)), (a0, .inr (7, [.ref m0, .int y1, .ref m2, .ref m3, .ref m4, .ref m5, .ref m6, .ref m7, .ref m8, .int y9, .int y10, .int y11, .int y12, .int y13, .int y14, .int y15, .ref m16, .ref m17, .ref m18, .ref m19, .ref m20, .ref m21, .int y22, .int y23, .int y24, .int y25, .int y26, .int y27])), (m3, .inl (k4, 89, .inl g_44)), (m4, .inl (k5, 5340, .inl g_45))] H := hP
        have hD : va_D A [(m18, .inl (k0, 60, .inl fb)), (m19, .inl (k1, 60, .inl fl)), (m20, .inl (k2, 60, .inl fr)), (m21, .inl (k3, 60, .inl fs)), (a0, .inr (7, [.ref m0, .int y1, .ref m2, .ref m3, .ref m4, .ref m5, .ref m6, .ref m7, .ref m8, .int y9, .int y10, .int y11, .int y12, .int y13, .int y14, .int y15, .ref m16, .ref m17, .ref m18, .ref m19, .ref m20, .ref m21, .int y22, .int y23, .int y24, .int y25, .int y26, .int y27])), (m3, .inl (k4, 89, .inl g_44)), (m4, .inl (k5, 5340, .inl g_45))] := hD
        have hK : va_K D vwCl [(k0, .int), (k1, .int), (k2, .int), (k3, .int), (k4, .int), (k5, .byte)] s := by simpa using hK
        refine ka_stk (w := []) rfl ?_
        refine lv_aload_n hx hb dX7_write_105 rfl (lv_at hl 1 rfl) ?_
        refine lv_aload_n hx hb dX7_write_106 rfl (lv_at hl 1 rfl) ?_
        refine ka_get C lqv_0 rfl hK hP 4 rfl 20 (by decide) lqv_4 rfl dX7_write_107 ?_
        refine lv_iload_n hx hb dX7_write_110 rfl (lv_at hl 2 rfl) ?_
        refine va_iald hx hb hK hP 2 2 rfl rfl (ka_in (by omega) (by omega)) dX7_write_111 ?_
        refine lv_topi (fun v_46 ev_46 => ?_)
        rw [hcl] at ev_46
        have fv_46 : v_46.toInt = (d : Int) := by rw [ev_46]; exact hr1
        refine lv_aload_n hx hb dX7_write_112 rfl (lv_at hl 1 rfl) ?_
        refine ka_get C lqv_0 rfl hK hP 4 rfl 18 (by decide) lqv_1 rfl dX7_write_113 ?_
        refine lv_iload_n hx hb dX7_write_116 rfl (lv_at hl 2 rfl) ?_
        refine va_iald hx hb hK hP 0 0 rfl rfl (ka_in (by omega) (by omega)) dX7_write_117 ?_
        refine lv_topi (fun v_47 ev_47 => ?_)
        rw [hcl] at ev_47
        have fv_47 : 1 ≤ v_47.toInt ∧ v_47.toInt ≤ 3 := by rw [ev_47]; exact ⟨h1, h2⟩
        have bv_47 : v_47.toInt = (fb n).toInt := by rw [ev_47]
        have ug_48 : (g_44 88).toInt + (wd + kt_br fb d (v_47 : Int32).toInt : Nat) ≤ 60 := by rw [bv_47]; omega
        refine ka_EV (n := 2) (wr := []) C (ih d hd (by omega) v_46 v_47 wd g_44 g_45 fv_46 okd hg_44 hg_45 ug_48) gX7_write_X7_write rfl (by decide +kernel) ⟨show (d + 1) + 1 ≤ n + 1 by omega, show 8 + (4 + 11) + (d + 1) * 30 ≤ (n + 1) * 30 by omega⟩ hK hP hD hS hA hE hN [4, 0, 1, 2, 3, 5, 6] rfl (by decide) [] rfl (by decide) (by decide) [0, 1, 2, 3, 4, 5] rfl (ci := 7) rfl rfl 4 rfl rfl hl.1 (rest := []) rfl (Nat.le_of_ble_eq_true rfl) dX7_write_118 ⟨Nat.le_of_ble_eq_true rfl, Nat.le_of_ble_eq_true rfl⟩ (fun u H locs hq hP hD hK hS => ?_)
        obtain ⟨g_48, g_49⟩ := u
        have hq : (∀ j : Nat, 0 ≤ (g_48 j).toInt ∧ (g_48 j).toInt ≤ 60) ∧ sb_Fit g_49 ∧ (g_48 88).toInt = (g_44 88).toInt + (wd + kt_br fb d (v_47 : Int32).toInt : Nat) := hq
        rw [bv_47] at hq
        obtain ⟨hg_48, hg_49, tg_48⟩ := hq
        have hP : va_P D vwCl [(a0, .inr (7, [.ref m0, .int y1, .ref m2, .ref m3, .ref m4, .ref m5, .ref m6, .ref m7, .ref m8, .int y9, .int y10, .int y11, .int y12, .int y13, .int y14, .int y15, .ref m16, .ref m17, .ref m18, .ref m19, .ref m20, .ref m21, .int y22, .int y23, .int y24, .int y25, .int y26, .int y27])), (m18, .inl (k0, 60, .inl fb)), (m19, .inl (k1, 60, .inl fl)), (m20, .inl (k2, 60, .inl fr)), (m21, .inl (k3, 60, .inl fs)), (m3, .inl (k4, 89, .inl g_48)), (m4, .inl (k5, 5340, .inl g_49))] H := hP
        have hD : va_D A [(a0, .inr (7, [.ref m0, .int y1, .ref m2, .ref m3, .ref m4, .ref m5, .ref m6, .ref m7, .ref m8, .int y9, .int y10, .int y11, .int y12, .int y13, .int y14, .int y15, .ref m16, .ref m17, .ref m18, .ref m19, .ref m20, .ref m21, .int y22, .int y23, .int y24, .int y25, .int y26, .int y27])), (m18, .inl (k0, 60, .inl fb)), (m19, .inl (k1, 60, .inl fl)), (m20, .inl (k2, 60, .inl fr)), (m21, .inl (k3, 60, .inl fs)), (m3, .inl (k4, 89, .inl g_48)), (m4, .inl (k5, 5340, .inl g_49))] := hD
        have hK : va_K D vwCl [(k0, .int), (k1, .int), (k2, .int), (k3, .int), (k4, .int), (k5, .byte)] s := by simpa using hK
        refine ka_stk (w := []) rfl ?_
        refine lv_iload_n hx hb dX7_write_121 rfl (lv_at hl 0 rfl) ?_
        refine lv_if_eq (tgt := 131) hx hb dX7_write_122 (by decide) (fun _ => ?_) (fun c_ => absurd (by decide) c_)
        have hend : (g_48 88).toInt = (fz 88).toInt + (w + kt_br fb n x1.toInt : Nat) := by omega
        exact ka_rEv C hr hlk (Nat.le_of_ble_eq_true rfl) (Nat.le_of_ble_eq_true rfl) hS (ka_qE (g_48, g_49) rfl ⟨hg_48, hg_49, hend⟩ hK hP hD hS [0, 1, 2, 3, 4, 5, 6] (by decide) rfl [] rfl) dX7_write_131
      · have c_36 : ¬ x1.toInt ≤ v_35.toInt := by rw [ka_le'] at c_36; exact c_36
        have hbr : kt_br fb n x1.toInt = 2 := by unfold kt_br; rw [if_pos (by omega)]
        refine lv_iconst (v := 1) hx hb dX7_write_10 (by decide) ?_
        refine lv_goto (tgt := 15) hx hb dX7_write_11 (by decide) ?_
        refine lv_istore_n (lv' := [(3, .int 1), (0, .ref a0), (1, .int x0), (2, .int x1)]) hx hb dX7_write_15 rfl hl (by decide) rfl (fun ls hl => ?_)
        refine lv_iload_n hx hb dX7_write_16 rfl (lv_at hl 0 rfl) ?_
        refine lv_if_eq (tgt := 26) hx hb dX7_write_17 (by decide) (fun c_ => absurd c_ (by decide)) (fun _ => ?_)
        refine lv_aload_n hx hb dX7_write_20 rfl (lv_at hl 1 rfl) ?_
        refine lv_bipush (v := 40) hx hb dX7_write_21 (by decide) ?_
        have ug_50 : (fz 88).toInt ≤ 59 := by omega
        refine ka_EV (n := 1) (wr := [(m18, .inl (k0, 60, .inl fb)), (m19, .inl (k1, 60, .inl fl)), (m20, .inl (k2, 60, .inl fr)), (m21, .inl (k3, 60, .inl fs))]) C (kt_writes l D F a0 m0 y1 m2 m3 m4 m5 m6 m7 m8 y9 y10 y11 y12 y13 y14 y15 m16 m17 m18 m19 m20 m21 y22 y23 y24 y25 y26 y27 k4 k5 fz fw 40 hfz hfw ug_50) gX7_write_X7_writes rfl (by decide +kernel) ⟨show 0 + 1 ≤ n + 1 by omega, show 8 + (2 + 11) + 0 ≤ (n + 1) * 30 by omega⟩ hK hP hD hS hA hE hN [0, 5, 6] rfl (by decide) [1, 2, 3, 4] rfl (by decide) (by decide) [4, 5] rfl (ci := 7) rfl rfl 0 rfl rfl hl.1 (rest := []) rfl (Nat.le_of_ble_eq_true rfl) dX7_write_23 ⟨Nat.le_of_ble_eq_true rfl, Nat.le_of_ble_eq_true rfl⟩ (fun u H locs hq hP hD hK hS => ?_)
        obtain ⟨g_50, g_51⟩ := u
        have hq : (∀ j : Nat, 0 ≤ (g_50 j).toInt ∧ (g_50 j).toInt ≤ 60) ∧ sb_Fit g_51 ∧ (g_50 88).toInt = (fz 88).toInt + 1 := hq
        obtain ⟨hg_50, hg_51, tg_50⟩ := hq
        have hP : va_P D vwCl [(m18, .inl (k0, 60, .inl fb)), (m19, .inl (k1, 60, .inl fl)), (m20, .inl (k2, 60, .inl fr)), (m21, .inl (k3, 60, .inl fs)), (a0, .inr (7, [.ref m0, .int y1, .ref m2, .ref m3, .ref m4, .ref m5, .ref m6, .ref m7, .ref m8, .int y9, .int y10, .int y11, .int y12, .int y13, .int y14, .int y15, .ref m16, .ref m17, .ref m18, .ref m19, .ref m20, .ref m21, .int y22, .int y23, .int y24, .int y25, .int y26, .int y27])), (m3, .inl (k4, 89, .inl g_50)), (m4, .inl (k5, 5340, .inl g_51))] H := hP
        have hD : va_D A [(m18, .inl (k0, 60, .inl fb)), (m19, .inl (k1, 60, .inl fl)), (m20, .inl (k2, 60, .inl fr)), (m21, .inl (k3, 60, .inl fs)), (a0, .inr (7, [.ref m0, .int y1, .ref m2, .ref m3, .ref m4, .ref m5, .ref m6, .ref m7, .ref m8, .int y9, .int y10, .int y11, .int y12, .int y13, .int y14, .int y15, .ref m16, .ref m17, .ref m18, .ref m19, .ref m20, .ref m21, .int y22, .int y23, .int y24, .int y25, .int y26, .int y27])), (m3, .inl (k4, 89, .inl g_50)), (m4, .inl (k5, 5340, .inl g_51))] := hD
        have hK : va_K D vwCl [(k0, .int), (k1, .int), (k2, .int), (k3, .int), (k4, .int), (k5, .byte)] s := by simpa using hK
        refine ka_stk (w := []) rfl ?_
        refine lv_aload_n hx hb dX7_write_26 rfl (lv_at hl 1 rfl) ?_
        refine ka_get C lqv_0 rfl hK hP 4 rfl 18 (by decide) lqv_1 rfl dX7_write_27 ?_
        refine lv_iload_n hx hb dX7_write_30 rfl (lv_at hl 2 rfl) ?_
        refine va_iald hx hb hK hP 0 0 rfl rfl (ka_in (by omega) (by omega)) dX7_write_31 ?_
        refine lv_topi (fun v_52 ev_52 => ?_)
        rw [hcl] at ev_52
        have fv_52 : 1 ≤ v_52.toInt ∧ v_52.toInt ≤ 3 := by rw [ev_52]; exact ⟨h1, h2⟩
        have bv_52 : v_52.toInt = (fb n).toInt := by rw [ev_52]
        refine lv_iconst (v := 4) hx hb dX7_write_32 (by decide) ?_
        refine lv_icmp_ne (tgt := 56) hx hb dX7_write_33 (by decide) (fun _ => ?_) (fun c_ => absurd c_ (show ¬ v_52 = 4 from by rw [ka_eq', show ((4 : Int32)).toInt = 4 from by decide]; omega))
        refine lv_aload_n hx hb dX7_write_56 rfl (lv_at hl 1 rfl) ?_
        refine ka_get C lqv_0 rfl hK hP 4 rfl 18 (by decide) lqv_1 rfl dX7_write_57 ?_
        refine lv_iload_n hx hb dX7_write_60 rfl (lv_at hl 2 rfl) ?_
        refine va_iald hx hb hK hP 0 0 rfl rfl (ka_in (by omega) (by omega)) dX7_write_61 ?_
        refine lv_topi (fun v_53 ev_53 => ?_)
        rw [hcl] at ev_53
        have fv_53 : 1 ≤ v_53.toInt ∧ v_53.toInt ≤ 3 := by rw [ev_53]; exact ⟨h1, h2⟩
        have bv_53 : v_53.toInt = (fb n).toInt := by rw [ev_53]
        refine lv_iconst (v := 5) hx hb dX7_write_62 (by decide) ?_
        refine lv_icmp_ne (tgt := 79) hx hb dX7_write_63 (by decide) (fun _ => ?_) (fun c_ => absurd c_ (show ¬ v_53 = 5 from by rw [ka_eq', show ((5 : Int32)).toInt = 5 from by decide]; omega))
        refine lv_aload_n hx hb dX7_write_79 rfl (lv_at hl 1 rfl) ?_
        refine lv_aload_n hx hb dX7_write_80 rfl (lv_at hl 1 rfl) ?_
        refine ka_get C lqv_0 rfl hK hP 4 rfl 19 (by decide) lqv_3 rfl dX7_write_81 ?_
        refine lv_iload_n hx hb dX7_write_84 rfl (lv_at hl 2 rfl) ?_
        refine va_iald hx hb hK hP 1 1 rfl rfl (ka_in (by omega) (by omega)) dX7_write_85 ?_
        refine lv_topi (fun v_54 ev_54 => ?_)
        rw [hcl] at ev_54
        have fv_54 : v_54.toInt = (a : Int) := by rw [ev_54]; exact hl1
        refine lv_aload_n hx hb dX7_write_86 rfl (lv_at hl 1 rfl) ?_
        refine ka_get C lqv_0 rfl hK hP 4 rfl 18 (by decide) lqv_1 rfl dX7_write_87 ?_
        refine lv_iload_n hx hb dX7_write_90 rfl (lv_at hl 2 rfl) ?_
        refine va_iald hx hb hK hP 0 0 rfl rfl (ka_in (by omega) (by omega)) dX7_write_91 ?_
        refine lv_topi (fun v_55 ev_55 => ?_)
        rw [hcl] at ev_55
        have fv_55 : 1 ≤ v_55.toInt ∧ v_55.toInt ≤ 3 := by rw [ev_55]; exact ⟨h1, h2⟩
        have bv_55 : v_55.toInt = (fb n).toInt := by rw [ev_55]
        have ug_56 : (g_50 88).toInt + (wa + kt_br fb a (v_55 : Int32).toInt : Nat) ≤ 60 := by rw [bv_55]; omega
        refine ka_EV (n := 2) (wr := []) C (ih a ha (by omega) v_54 v_55 wa g_50 g_51 fv_54 oka hg_50 hg_51 ug_56) gX7_write_X7_write rfl (by decide +kernel) ⟨show (a + 1) + 1 ≤ n + 1 by omega, show 8 + (4 + 11) + (a + 1) * 30 ≤ (n + 1) * 30 by omega⟩ hK hP hD hS hA hE hN [4, 0, 1, 2, 3, 5, 6] rfl (by decide) [] rfl (by decide) (by decide) [0, 1, 2, 3, 4, 5] rfl (ci := 7) rfl rfl 4 rfl rfl hl.1 (rest := []) rfl (Nat.le_of_ble_eq_true rfl) dX7_write_92 ⟨Nat.le_of_ble_eq_true rfl, Nat.le_of_ble_eq_true rfl⟩ (fun u H locs hq hP hD hK hS => ?_)
        obtain ⟨g_56, g_57⟩ := u
        have hq : (∀ j : Nat, 0 ≤ (g_56 j).toInt ∧ (g_56 j).toInt ≤ 60) ∧ sb_Fit g_57 ∧ (g_56 88).toInt = (g_50 88).toInt + (wa + kt_br fb a (v_55 : Int32).toInt : Nat) := hq
        rw [bv_55] at hq
        obtain ⟨hg_56, hg_57, tg_56⟩ := hq
        have hP : va_P D vwCl [(a0, .inr (7, [.ref m0, .int y1, .ref m2, .ref m3, .ref m4, .ref m5, .ref m6, .ref m7, .ref m8, .int y9, .int y10, .int y11, .int y12, .int y13, .int y14, .int y15, .ref m16, .ref m17, .ref m18, .ref m19, .ref m20, .ref m21, .int y22, .int y23, .int y24, .int y25, .int y26, .int y27])), (m18, .inl (k0, 60, .inl fb)), (m19, .inl (k1, 60, .inl fl)), (m20, .inl (k2, 60, .inl fr)), (m21, .inl (k3, 60, .inl fs)), (m3, .inl (k4, 89, .inl g_56)), (m4, .inl (k5, 5340, .inl g_57))] H := hP
        have hD : va_D A [(a0, .inr (7, [.ref m0, .int y1, .ref m2, .ref m3, .ref m4, .ref m5, .ref m6, .ref m7, .ref m8, .int y9, .int y10, .int y11, .int y12, .int y13, .int y14, .int y15, .ref m16, .ref m17, .ref m18, .ref m19, .ref m20, .ref m21, .int y22, .int y23, .int y24, .int y25, .int y26, .int y27])), (m18, .inl (k0, 60, .inl fb)), (m19, .inl (k1, 60, .inl fl)), (m20, .inl (k2, 60, .inl fr)), (m21, .inl (k3, 60, .inl fs)), (m3, .inl (k4, 89, .inl g_56)), (m4, .inl (k5, 5340, .inl g_57))] := hD
        have hK : va_K D vwCl [(k0, .int), (k1, .int), (k2, .int), (k3, .int), (k4, .int), (k5, .byte)] s := by simpa using hK
        refine ka_stk (w := []) rfl ?_
        refine lv_aload_n hx hb dX7_write_95 rfl (lv_at hl 1 rfl) ?_
        refine lv_aload_n hx hb dX7_write_96 rfl (lv_at hl 1 rfl) ?_
        refine ka_get C lqv_0 rfl hK hP 0 rfl 21 (by decide) lqv_2 rfl dX7_write_97 ?_
        refine lv_iload_n hx hb dX7_write_100 rfl (lv_at hl 2 rfl) ?_
        refine va_iald hx hb hK hP 4 3 rfl rfl (ka_in (by omega) (by omega)) dX7_write_101 ?_
        refine lv_topi (fun v_58 ev_58 => ?_)
        rw [hcl] at ev_58
        have ug_59 : (g_56 88).toInt ≤ 59 := by omega
        refine ka_EV (n := 1) (wr := [(m18, .inl (k0, 60, .inl fb)), (m19, .inl (k1, 60, .inl fl)), (m20, .inl (k2, 60, .inl fr)), (m21, .inl (k3, 60, .inl fs))]) C (kt_writes l D F a0 m0 y1 m2 m3 m4 m5 m6 m7 m8 y9 y10 y11 y12 y13 y14 y15 m16 m17 m18 m19 m20 m21 y22 y23 y24 y25 y26 y27 k4 k5 g_56 g_57 v_58 hg_56 hg_57 ug_59) gX7_write_X7_writes rfl (by decide +kernel) ⟨show 0 + 1 ≤ n + 1 by omega, show 8 + (2 + 11) + 0 ≤ (n + 1) * 30 by omega⟩ hK hP hD hS hA hE hN [0, 5, 6] rfl (by decide) [1, 2, 3, 4] rfl (by decide) (by decide) [4, 5] rfl (ci := 7) rfl rfl 0 rfl rfl hl.1 (rest := []) rfl (Nat.le_of_ble_eq_true rfl) dX7_write_102 ⟨Nat.le_of_ble_eq_true rfl, Nat.le_of_ble_eq_true rfl⟩ (fun u H locs hq hP hD hK hS => ?_)
        obtain ⟨g_59, g_60⟩ := u
        have hq : (∀ j : Nat, 0 ≤ (g_59 j).toInt ∧ (g_59 j).toInt ≤ 60) ∧ sb_Fit g_60 ∧ (g_59 88).toInt = (g_56 88).toInt + 1 := hq
        obtain ⟨hg_59, hg_60, tg_59⟩ := hq
        have hP : va_P D vwCl [(m18, .inl (k0, 60, .inl fb)), (m19, .inl (k1, 60, .inl fl)), (m20, .inl (k2, 60, .inl fr)), (m21, .inl (k3, 60, .inl fs)), (a0, .inr (7, [.ref m0, .int y1, .ref m2, .ref m3, .ref m4, .ref m5, .ref m6, .ref m7, .ref m8, .int y9, .int y10, .int y11, .int y12, .int y13, .int y14, .int y15, .ref m16, .ref m17, .ref m18, .ref m19, .ref m20, .ref m21, .int y22, .int y23, .int y24, .int y25, .int y26, .int y27])), (m3, .inl (k4, 89, .inl g_59)), (m4, .inl (k5, 5340, .inl g_60))] H := hP
        have hD : va_D A [(m18, .inl (k0, 60, .inl fb)), (m19, .inl (k1, 60, .inl fl)), (m20, .inl (k2, 60, .inl fr)), (m21, .inl (k3, 60, .inl fs)), (a0, .inr (7, [.ref m0, .int y1, .ref m2, .ref m3, .ref m4, .ref m5, .ref m6, .ref m7, .ref m8, .int y9, .int y10, .int y11, .int y12, .int y13, .int y14, .int y15, .ref m16, .ref m17, .ref m18, .ref m19, .ref m20, .ref m21, .int y22, .int y23, .int y24, .int y25, .int y26, .int y27])), (m3, .inl (k4, 89, .inl g_59)), (m4, .inl (k5, 5340, .inl g_60))] := hD
        have hK : va_K D vwCl [(k0, .int), (k1, .int), (k2, .int), (k3, .int), (k4, .int), (k5, .byte)] s := by simpa using hK
        refine ka_stk (w := []) rfl ?_
        refine lv_aload_n hx hb dX7_write_105 rfl (lv_at hl 1 rfl) ?_
        refine lv_aload_n hx hb dX7_write_106 rfl (lv_at hl 1 rfl) ?_
        refine ka_get C lqv_0 rfl hK hP 4 rfl 20 (by decide) lqv_4 rfl dX7_write_107 ?_
        refine lv_iload_n hx hb dX7_write_110 rfl (lv_at hl 2 rfl) ?_
        refine va_iald hx hb hK hP 2 2 rfl rfl (ka_in (by omega) (by omega)) dX7_write_111 ?_
        refine lv_topi (fun v_61 ev_61 => ?_)
        rw [hcl] at ev_61
        have fv_61 : v_61.toInt = (d : Int) := by rw [ev_61]; exact hr1
        refine lv_aload_n hx hb dX7_write_112 rfl (lv_at hl 1 rfl) ?_
        refine ka_get C lqv_0 rfl hK hP 4 rfl 18 (by decide) lqv_1 rfl dX7_write_113 ?_
        refine lv_iload_n hx hb dX7_write_116 rfl (lv_at hl 2 rfl) ?_
        refine va_iald hx hb hK hP 0 0 rfl rfl (ka_in (by omega) (by omega)) dX7_write_117 ?_
        refine lv_topi (fun v_62 ev_62 => ?_)
        rw [hcl] at ev_62
        have fv_62 : 1 ≤ v_62.toInt ∧ v_62.toInt ≤ 3 := by rw [ev_62]; exact ⟨h1, h2⟩
        have bv_62 : v_62.toInt = (fb n).toInt := by rw [ev_62]
        have ug_63 : (g_59 88).toInt + (wd + kt_br fb d (v_62 : Int32).toInt : Nat) ≤ 60 := by rw [bv_62]; omega
        refine ka_EV (n := 2) (wr := []) C (ih d hd (by omega) v_61 v_62 wd g_59 g_60 fv_61 okd hg_59 hg_60 ug_63) gX7_write_X7_write rfl (by decide +kernel) ⟨show (d + 1) + 1 ≤ n + 1 by omega, show 8 + (4 + 11) + (d + 1) * 30 ≤ (n + 1) * 30 by omega⟩ hK hP hD hS hA hE hN [4, 0, 1, 2, 3, 5, 6] rfl (by decide) [] rfl (by decide) (by decide) [0, 1, 2, 3, 4, 5] rfl (ci := 7) rfl rfl 4 rfl rfl hl.1 (rest := []) rfl (Nat.le_of_ble_eq_true rfl) dX7_write_118 ⟨Nat.le_of_ble_eq_true rfl, Nat.le_of_ble_eq_true rfl⟩ (fun u H locs hq hP hD hK hS => ?_)
        obtain ⟨g_63, g_64⟩ := u
        have hq : (∀ j : Nat, 0 ≤ (g_63 j).toInt ∧ (g_63 j).toInt ≤ 60) ∧ sb_Fit g_64 ∧ (g_63 88).toInt = (g_59 88).toInt + (wd + kt_br fb d (v_62 : Int32).toInt : Nat) := hq
        rw [bv_62] at hq
        obtain ⟨hg_63, hg_64, tg_63⟩ := hq
        have hP : va_P D vwCl [(a0, .inr (7, [.ref m0, .int y1, .ref m2, .ref m3, .ref m4, .ref m5, .ref m6, .ref m7, .ref m8, .int y9, .int y10, .int y11, .int y12, .int y13, .int y14, .int y15, .ref m16, .ref m17, .ref m18, .ref m19, .ref m20, .ref m21, .int y22, .int y23, .int y24, .int y25, .int y26, .int y27])), (m18, .inl (k0, 60, .inl fb)), (m19, .inl (k1, 60, .inl fl)), (m20, .inl (k2, 60, .inl fr)), (m21, .inl (k3, 60, .inl fs)), (m3, .inl (k4, 89, .inl g_63)), (m4, .inl (k5, 5340, .inl g_64))] H := hP
        have hD : va_D A [(a0, .inr (7, [.ref m0, .int y1, .ref m2, .ref m3, .ref m4, .ref m5, .ref m6, .ref m7, .ref m8, .int y9, .int y10, .int y11, .int y12, .int y13, .int y14, .int y15, .ref m16, .ref m17, .ref m18, .ref m19, .ref m20, .ref m21, .int y22, .int y23, .int y24, .int y25, .int y26, .int y27])), (m18, .inl (k0, 60, .inl fb)), (m19, .inl (k1, 60, .inl fl)), (m20, .inl (k2, 60, .inl fr)), (m21, .inl (k3, 60, .inl fs)), (m3, .inl (k4, 89, .inl g_63)), (m4, .inl (k5, 5340, .inl g_64))] := hD
        have hK : va_K D vwCl [(k0, .int), (k1, .int), (k2, .int), (k3, .int), (k4, .int), (k5, .byte)] s := by simpa using hK
        refine ka_stk (w := []) rfl ?_
        refine lv_iload_n hx hb dX7_write_121 rfl (lv_at hl 0 rfl) ?_
        refine lv_if_eq (tgt := 131) hx hb dX7_write_122 (by decide) (fun c_ => absurd c_ (by decide)) (fun _ => ?_)
        refine lv_aload_n hx hb dX7_write_125 rfl (lv_at hl 1 rfl) ?_
        refine lv_bipush (v := 41) hx hb dX7_write_126 (by decide) ?_
        have ug_65 : (g_63 88).toInt ≤ 59 := by omega
        refine ka_EV (n := 1) (wr := [(m18, .inl (k0, 60, .inl fb)), (m19, .inl (k1, 60, .inl fl)), (m20, .inl (k2, 60, .inl fr)), (m21, .inl (k3, 60, .inl fs))]) C (kt_writes l D F a0 m0 y1 m2 m3 m4 m5 m6 m7 m8 y9 y10 y11 y12 y13 y14 y15 m16 m17 m18 m19 m20 m21 y22 y23 y24 y25 y26 y27 k4 k5 g_63 g_64 41 hg_63 hg_64 ug_65) gX7_write_X7_writes rfl (by decide +kernel) ⟨show 0 + 1 ≤ n + 1 by omega, show 8 + (2 + 11) + 0 ≤ (n + 1) * 30 by omega⟩ hK hP hD hS hA hE hN [0, 5, 6] rfl (by decide) [1, 2, 3, 4] rfl (by decide) (by decide) [4, 5] rfl (ci := 7) rfl rfl 0 rfl rfl hl.1 (rest := []) rfl (Nat.le_of_ble_eq_true rfl) dX7_write_128 ⟨Nat.le_of_ble_eq_true rfl, Nat.le_of_ble_eq_true rfl⟩ (fun u H locs hq hP hD hK hS => ?_)
        obtain ⟨g_65, g_66⟩ := u
        have hq : (∀ j : Nat, 0 ≤ (g_65 j).toInt ∧ (g_65 j).toInt ≤ 60) ∧ sb_Fit g_66 ∧ (g_65 88).toInt = (g_63 88).toInt + 1 := hq
        obtain ⟨hg_65, hg_66, tg_65⟩ := hq
        have hP : va_P D vwCl [(m18, .inl (k0, 60, .inl fb)), (m19, .inl (k1, 60, .inl fl)), (m20, .inl (k2, 60, .inl fr)), (m21, .inl (k3, 60, .inl fs)), (a0, .inr (7, [.ref m0, .int y1, .ref m2, .ref m3, .ref m4, .ref m5, .ref m6, .ref m7, .ref m8, .int y9, .int y10, .int y11, .int y12, .int y13, .int y14, .int y15, .ref m16, .ref m17, .ref m18, .ref m19, .ref m20, .ref m21, .int y22, .int y23, .int y24, .int y25, .int y26, .int y27])), (m3, .inl (k4, 89, .inl g_65)), (m4, .inl (k5, 5340, .inl g_66))] H := hP
        have hD : va_D A [(m18, .inl (k0, 60, .inl fb)), (m19, .inl (k1, 60, .inl fl)), (m20, .inl (k2, 60, .inl fr)), (m21, .inl (k3, 60, .inl fs)), (a0, .inr (7, [.ref m0, .int y1, .ref m2, .ref m3, .ref m4, .ref m5, .ref m6, .ref m7, .ref m8, .int y9, .int y10, .int y11, .int y12, .int y13, .int y14, .int y15, .ref m16, .ref m17, .ref m18, .ref m19, .ref m20, .ref m21, .int y22, .int y23, .int y24, .int y25, .int y26, .int y27])), (m3, .inl (k4, 89, .inl g_65)), (m4, .inl (k5, 5340, .inl g_66))] := hD
        have hK : va_K D vwCl [(k0, .int), (k1, .int), (k2, .int), (k3, .int), (k4, .int), (k5, .byte)] s := by simpa using hK
        refine ka_stk (w := []) rfl ?_
        have hend : (g_65 88).toInt = (fz 88).toInt + (w + kt_br fb n x1.toInt : Nat) := by omega
        exact ka_rEv C hr hlk (Nat.le_of_ble_eq_true rfl) (Nat.le_of_ble_eq_true rfl) hS (ka_qE (g_65, g_66) rfl ⟨hg_65, hg_66, hend⟩ hK hP hD hS [4, 0, 1, 2, 3, 5, 6] (by decide) rfl [] rfl) dX7_write_131
