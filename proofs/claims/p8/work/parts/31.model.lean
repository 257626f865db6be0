theorem lq_369 : ∀ w ∈ wsX70, w ∈ wsX7_keeps := by decide +kernel
theorem lq_370 : Cond.fieldLink RX7 13 "AskedBackModel" "tells" "[I" ∈ wsX7_keeps := by decide +kernel
theorem lq_371 : Cond.fieldLink RX7 17 "AskedBackModel" "size" "[I" ∈ wsX7_keeps := by decide +kernel
theorem lq_372 : Cond.fieldLink RX7 20 "AskedBackModel" "written" "[B" ∈ wsX7_keeps := by decide +kernel
set_option maxHeartbeats 4000000 in
set_option maxRecDepth 100000 in
theorem cg_X7_keeps_380 (l : Launch) (D : va_G) (F : Nat → Prop) (a0 : Nat) (x0 : Int32) (a1 : Nat) (x1 : Int32) (a2 : Nat) (a3 : Nat) (a4 : Nat) (a5 : Nat) (a6 : Nat) (a7 : Nat) (a8 : Nat) (x2 : Int32) (x3 : Int32) (x4 : Int32) (x5 : Int32) (x6 : Int32) (x7 : Int32) (x8 : Int32) (a9 : Nat) (a10 : Nat) (a11 : Nat) (a12 : Nat) (a13 : Nat) (a14 : Nat) (x9 : Int32) (x10 : Int32) (x11 : Int32) (x12 : Int32) (x13 : Int32) (x14 : Int32) (k0 : ClassId) (f0 : Nat → Int32) (k1 : ClassId) (f1 : Nat → Int32) (k2 : ClassId) (f2 : Nat → Int32) (hx0 : 0 ≤ x0.toInt ∧ x0.toInt ≤ 5) (hx1 : 0 ≤ x1.toInt ∧ x1.toInt ≤ 80) (hx2 : -1 ≤ x2.toInt ∧ x2.toInt ≤ 5) (hx5 : 1 ≤ x5.toInt ∧ x5.toInt ≤ 8) (hx6 : 0 ≤ x6.toInt ∧ x6.toInt ≤ 40) (hx8 : 0 ≤ x8.toInt ∧ x8.toInt ≤ 10) (hx9 : 0 ≤ x9.toInt ∧ x9.toInt ≤ 60) (hx10 : 0 ≤ x10.toInt ∧ x10.toInt ≤ 60) (hx11 : 0 ≤ x11.toInt ∧ x11.toInt ≤ 60) (hx12 : 0 ≤ x12.toInt ∧ x12.toInt ≤ 8) (hx14 : 0 ≤ x14.toInt ∧ x14.toInt ≤ 1) (hf1 : ∀ j : Nat, 0 ≤ (f1 j).toInt ∧ (f1 j).toInt ≤ 60) (hf2 : sb_Fit f2) : ka_E l D F yX7_keeps wsX7_keeps 0 0 0 0 [.ref a0, .int x0] [(a0, .inr (7, [.ref a1, .int x1, .ref a2, .ref a3, .ref a4, .ref a5, .ref a6, .ref a7, .ref a8, .int x2, .int x3, .int x4, .int x5, .int x6, .int x7, .int x8, .ref a9, .ref a10, .ref a11, .ref a12, .ref a13, .ref a14, .int x9, .int x10, .int x11, .int x12, .int x13, .int x14])), (a2, .inl (k0, 89, .inl f0)), (a3, .inl (k1, 89, .inl f1)), (a4, .inl (k2, 5340, .inl f2))] [(k0, .int), (k1, .int), (k2, .byte)] (fun (u : (Nat → Int32) × (Nat → Int32) × (Nat → Int32)) => none) (fun (u : (Nat → Int32) × (Nat → Int32) × (Nat → Int32)) => (∀ j : Nat, 0 ≤ ((u.2.1) j).toInt ∧ ((u.2.1) j).toInt ≤ 60) ∧ (sb_Fit (u.2.2))) (fun (u : (Nat → Int32) × (Nat → Int32) × (Nat → Int32)) => [(a0, .inr (7, [.ref a1, .int x1, .ref a2, .ref a3, .ref a4, .ref a5, .ref a6, .ref a7, .ref a8, .int x2, .int x3, .int x4, .int x5, .int x6, .int x7, .int x8, .ref a9, .ref a10, .ref a11, .ref a12, .ref a13, .ref a14, .int x9, .int x10, .int x11, .int x12, .int x13, .int x14])), (a2, .inl (k0, 89, .inl (u.1))), (a3, .inl (k1, 89, .inl (u.2.1))), (a4, .inl (k2, 5340, .inl (u.2.2)))]) (fun (u : (Nat → Int32) × (Nat → Int32) × (Nat → Int32)) => []) := by
  refine ka_E_of (cc := cX7_keeps) (maxL := 3) (ret := none) (by decide) rfl (Nat.le_of_ble_eq_true rfl) ?_
  intro p e s m below meth c ls A C hr hlk hin hP hK hD hS hA hE hN hl
  have C : CallFix p m c cX7_keeps 3 s [.ref a0, .int x0].toArray wsX7_keeps RX7 := C
  obtain ⟨hx, hb, hml, hown, hts⟩ := id C
  have hl : lv_has ls 3 [(0, .ref a0), (1, .int x0)] := hl
  have rx0 := ka_rng x0
  have rx1 := ka_rng x1
  have rx2 := ka_rng x2
  have rx3 := ka_rng x3
  have rx4 := ka_rng x4
  have rx5 := ka_rng x5
  have rx6 := ka_rng x6
  have rx7 := ka_rng x7
  have rx8 := ka_rng x8
  have rx9 := ka_rng x9
  have rx10 := ka_rng x10
  have rx11 := ka_rng x11
  have rx12 := ka_rng x12
  have rx13 := ka_rng x13
  have rx14 := ka_rng x14
  refine lv_aload_n hx hb dX7_keeps_0 rfl (lv_at hl 0 rfl) ?_
  refine ka_get C lq_369 rfl hK hP 0 rfl 2 (by decide) lq_370 rfl dX7_keeps_1 ?_
  refine lv_iload_n hx hb dX7_keeps_4 rfl (lv_at hl 1 rfl) ?_
  refine lv_aload_n hx hb dX7_keeps_5 rfl (lv_at hl 0 rfl) ?_
  refine ka_get C lq_369 rfl hK hP 0 rfl 2 (by decide) lq_370 rfl dX7_keeps_6 ?_
  refine lv_bipush (v := 88) hx hb dX7_keeps_9 (by decide) ?_
  refine va_iald hx hb hK hP 1 0 rfl rfl (ka_in (by decide) (by decide)) dX7_keeps_11 ?_
  refine lv_topi (fun v_30017 ev_30017 => ?_)
  refine va_iast hx hb hK hP hD hS 1 0 rfl rfl (ka_in (by omega) (by omega)) dX7_keeps_12 (fun H locs hP hD hS => ?_)
  have hP : va_P D vwCl [(a0, .inr (7, [.ref a1, .int x1, .ref a2, .ref a3, .ref a4, .ref a5, .ref a6, .ref a7, .ref a8, .int x2, .int x3, .int x4, .int x5, .int x6, .int x7, .int x8, .ref a9, .ref a10, .ref a11, .ref a12, .ref a13, .ref a14, .int x9, .int x10, .int x11, .int x12, .int x13, .int x14])), (a2, .inl (k0, 89, .inl (upd f0 (Int32.toNatClampNeg x0) v_30017))), (a3, .inl (k1, 89, .inl f1)), (a4, .inl (k2, 5340, .inl f2))] H := hP
  have hD : va_D A [(a0, .inr (7, [.ref a1, .int x1, .ref a2, .ref a3, .ref a4, .ref a5, .ref a6, .ref a7, .ref a8, .int x2, .int x3, .int x4, .int x5, .int x6, .int x7, .int x8, .ref a9, .ref a10, .ref a11, .ref a12, .ref a13, .ref a14, .int x9, .int x10, .int x11, .int x12, .int x13, .int x14])), (a2, .inl (k0, 89, .inl (upd f0 (Int32.toNatClampNeg x0) v_30017))), (a3, .inl (k1, 89, .inl f1)), (a4, .inl (k2, 5340, .inl f2))] := hD
  generalize (upd f0 (Int32.toNatClampNeg x0) v_30017) = g_30018 at hP hD
  refine lv_aload_n hx hb dX7_keeps_13 rfl (lv_at hl 0 rfl) ?_
  refine ka_get C lq_369 rfl hK hP 0 rfl 3 (by decide) lq_371 rfl dX7_keeps_14 ?_
  refine lv_iload_n hx hb dX7_keeps_17 rfl (lv_at hl 1 rfl) ?_
  refine lv_aload_n hx hb dX7_keeps_18 rfl (lv_at hl 0 rfl) ?_
  refine ka_get C lq_369 rfl hK hP 0 rfl 3 (by decide) lq_371 rfl dX7_keeps_19 ?_
  refine lv_bipush (v := 88) hx hb dX7_keeps_22 (by decide) ?_
  refine va_iald hx hb hK hP 2 1 rfl rfl (ka_in (by decide) (by decide)) dX7_keeps_24 ?_
  refine lv_topi (fun v_30019 ev_30019 => ?_)
  have hv_30019 := hf1 (Int32.toNatClampNeg 88); rw [← ev_30019] at hv_30019
  refine va_iast hx hb hK hP hD hS 2 1 rfl rfl (ka_in (by omega) (by omega)) dX7_keeps_25 (fun H locs hP hD hS => ?_)
  have hP : va_P D vwCl [(a0, .inr (7, [.ref a1, .int x1, .ref a2, .ref a3, .ref a4, .ref a5, .ref a6, .ref a7, .ref a8, .int x2, .int x3, .int x4, .int x5, .int x6, .int x7, .int x8, .ref a9, .ref a10, .ref a11, .ref a12, .ref a13, .ref a14, .int x9, .int x10, .int x11, .int x12, .int x13, .int x14])), (a2, .inl (k0, 89, .inl g_30018)), (a3, .inl (k1, 89, .inl (upd f1 (Int32.toNatClampNeg x0) v_30019))), (a4, .inl (k2, 5340, .inl f2))] H := hP
  have hD : va_D A [(a0, .inr (7, [.ref a1, .int x1, .ref a2, .ref a3, .ref a4, .ref a5, .ref a6, .ref a7, .ref a8, .int x2, .int x3, .int x4, .int x5, .int x6, .int x7, .int x8, .ref a9, .ref a10, .ref a11, .ref a12, .ref a13, .ref a14, .int x9, .int x10, .int x11, .int x12, .int x13, .int x14])), (a2, .inl (k0, 89, .inl g_30018)), (a3, .inl (k1, 89, .inl (upd f1 (Int32.toNatClampNeg x0) v_30019))), (a4, .inl (k2, 5340, .inl f2))] := hD
  have hg_30020 : ∀ j : Nat, 0 ≤ ((upd f1 (Int32.toNatClampNeg x0) v_30019) j).toInt ∧ ((upd f1 (Int32.toNatClampNeg x0) v_30019) j).toInt ≤ 60 := kb_rngU hf1 (by omega) (by omega)
  generalize (upd f1 (Int32.toNatClampNeg x0) v_30019) = g_30020 at hP hD hg_30020
  refine lv_iconst (v := 0) hx hb dX7_keeps_26 (by decide) ?_
  refine lv_istore_n (lv' := [(2, .int 0), (0, .ref a0), (1, .int x0)]) hx hb dX7_keeps_27 rfl hl (by decide) rfl (fun ls hl => ?_)
  have lp_30030 : ∀ (n : Nat) (i30030_2 : Int32) (w30030_3 : Nat → Int32), (0 ≤ i30030_2.toInt ∧ i30030_2.toInt ≤ 60) → (sb_Fit w30030_3) → (60 - i30030_2.toInt).toNat < n → ∀ (H : Heap) (locs : List Loc), va_P D vwCl [(a0, .inr (7, [.ref a1, .int x1, .ref a2, .ref a3, .ref a4, .ref a5, .ref a6, .ref a7, .ref a8, .int x2, .int x3, .int x4, .int x5, .int x6, .int x7, .int x8, .ref a9, .ref a10, .ref a11, .ref a12, .ref a13, .ref a14, .int x9, .int x10, .int x11, .int x12, .int x13, .int x14])), (a2, .inl (k0, 89, .inl g_30018)), (a3, .inl (k1, 89, .inl g_30020)), (a4, .inl (k2, 5340, .inl w30030_3))] H → va_D A [(a0, .inr (7, [.ref a1, .int x1, .ref a2, .ref a3, .ref a4, .ref a5, .ref a6, .ref a7, .ref a8, .int x2, .int x3, .int x4, .int x5, .int x6, .int x7, .int x8, .ref a9, .ref a10, .ref a11, .ref a12, .ref a13, .ref a14, .int x9, .int x10, .int x11, .int x12, .int x13, .int x14])), (a2, .inl (k0, 89, .inl g_30018)), (a3, .inl (k1, 89, .inl g_30020)), (a4, .inl (k2, 5340, .inl w30030_3))] → va_S A s.heap H locs → ∀ (ls : Array Slot), lv_has ls 3 [(0, .ref a0), (1, .int x0), (2, .int i30030_2)] → W p l e ({ frames := 0, cells := 0, slots := 0, locals := 0 }) s m [.ref a0, .int x0].toArray below meth c H locs 0 0 (MQ below (ka_QE D A (fun (u : (Nat → Int32) × (Nat → Int32) × (Nat → Int32)) => none) (fun (u : (Nat → Int32) × (Nat → Int32) × (Nat → Int32)) => (∀ j : Nat, 0 ≤ ((u.2.1) j).toInt ∧ ((u.2.1) j).toInt ≤ 60) ∧ (sb_Fit (u.2.2))) (fun (u : (Nat → Int32) × (Nat → Int32) × (Nat → Int32)) => [(a0, .inr (7, [.ref a1, .int x1, .ref a2, .ref a3, .ref a4, .ref a5, .ref a6, .ref a7, .ref a8, .int x2, .int x3, .int x4, .int x5, .int x6, .int x7, .int x8, .ref a9, .ref a10, .ref a11, .ref a12, .ref a13, .ref a14, .int x9, .int x10, .int x11, .int x12, .int x13, .int x14])), (a2, .inl (k0, 89, .inl (u.1))), (a3, .inl (k1, 89, .inl (u.2.1))), (a4, .inl (k2, 5340, .inl (u.2.2)))]) (fun (u : (Nat → Int32) × (Nat → Int32) × (Nat → Int32)) => [])) [.ref a0, .int x0].toArray s 0 0 A) (F0 m 28 ls []) := by
    intro n
    induction n with
    | zero =>
      intro i30030_2 w30030_3 hi30030_2 hw30030_3 hm
      exact absurd hm (Nat.not_lt_zero _)
    | succ n ih_30030 =>
      intro i30030_2 w30030_3 hi30030_2 hw30030_3 hm H locs hP hD hS ls hl
      have ri30030_2 := ka_rng i30030_2
      refine lv_iload_n hx hb dX7_keeps_28 rfl (lv_at hl 2 rfl) ?_
      refine lv_aload_n hx hb dX7_keeps_29 rfl (lv_at hl 0 rfl) ?_
      refine ka_get C lq_369 rfl hK hP 0 rfl 3 (by decide) lq_371 rfl dX7_keeps_30 ?_
      refine lv_bipush (v := 88) hx hb dX7_keeps_33 (by decide) ?_
      refine va_iald hx hb hK hP 2 1 rfl rfl (ka_in (by decide) (by decide)) dX7_keeps_35 ?_
      refine lv_topi (fun v_30039 ev_30039 => ?_)
      have hv_30039 := hg_30020 (Int32.toNatClampNeg 88); rw [← ev_30039] at hv_30039
      refine lv_icmp_ge (tgt := 66) hx hb dX7_keeps_36 (by decide) (fun c_30040 => ?_) (fun c_30040 => ?_)
      · have c_30040 : v_30039.toInt ≤ i30030_2.toInt := by rw [ka_le'] at c_30040; exact c_30040
        exact ka_rEv C hr hlk (Nat.le_of_ble_eq_true rfl) (Nat.le_of_ble_eq_true rfl) hS (ka_qE (g_30018, g_30020, w30030_3) rfl ⟨hg_30020, hw30030_3⟩ hK hP hD hS [0, 1, 2, 3] (by decide) rfl [] rfl) dX7_keeps_66
      · have c_30040 : ¬ v_30039.toInt ≤ i30030_2.toInt := by rw [ka_le'] at c_30040; exact c_30040
        refine lv_aload_n hx hb dX7_keeps_39 rfl (lv_at hl 0 rfl) ?_
        refine ka_get C lq_369 rfl hK hP 0 rfl 4 (by decide) lq_372 rfl dX7_keeps_40 ?_
        refine lv_bipush (v := 60) hx hb dX7_keeps_43 (by decide) ?_
        refine lv_iload_n hx hb dX7_keeps_45 rfl (lv_at hl 1 rfl) ?_
        refine lv_imul hx hb dX7_keeps_46 ?_
        refine lv_topi (fun v_30041 ev_30041 => ?_)
        have fv_30041 : v_30041.toInt = 60 * x0.toInt := by rw [ev_30041]; exact ka_mul (x := 60) (y := x0.toInt) (by decide) rfl (by omega) (by omega)
        refine lv_iload_n hx hb dX7_keeps_47 rfl (lv_at hl 2 rfl) ?_
        refine lv_iadd hx hb dX7_keeps_48 ?_
        refine lv_topi (fun v_30042 ev_30042 => ?_)
        have fv_30042 : v_30042.toInt = v_30041.toInt + i30030_2.toInt := by rw [ev_30042]; exact ka_add (x := v_30041.toInt) (y := i30030_2.toInt) rfl rfl (by omega) (by omega)
        refine lv_aload_n hx hb dX7_keeps_49 rfl (lv_at hl 0 rfl) ?_
        refine ka_get C lq_369 rfl hK hP 0 rfl 4 (by decide) lq_372 rfl dX7_keeps_50 ?_
        refine lv_sipush (v := 5280) hx hb dX7_keeps_53 (by decide) ?_
        refine lv_iload_n hx hb dX7_keeps_56 rfl (lv_at hl 2 rfl) ?_
        refine lv_iadd hx hb dX7_keeps_57 ?_
        refine lv_topi (fun v_30043 ev_30043 => ?_)
        have fv_30043 : v_30043.toInt = 5280 + i30030_2.toInt := by rw [ev_30043]; exact ka_add (x := 5280) (y := i30030_2.toInt) (by decide) rfl (by omega) (by omega)
        refine va_bald hx hb hK hP 3 2 rfl rfl (ka_in (by omega) (by omega)) dX7_keeps_58 ?_
        refine lv_topi (fun v_30044 ev_30044 => ?_)
        refine va_bast hx hb hK hP hD hS 3 2 rfl rfl (ka_in (by omega) (by omega)) dX7_keeps_59 (fun H locs hP hD hS => ?_)
        have hP : va_P D vwCl [(a0, .inr (7, [.ref a1, .int x1, .ref a2, .ref a3, .ref a4, .ref a5, .ref a6, .ref a7, .ref a8, .int x2, .int x3, .int x4, .int x5, .int x6, .int x7, .int x8, .ref a9, .ref a10, .ref a11, .ref a12, .ref a13, .ref a14, .int x9, .int x10, .int x11, .int x12, .int x13, .int x14])), (a2, .inl (k0, 89, .inl g_30018)), (a3, .inl (k1, 89, .inl g_30020)), (a4, .inl (k2, 5340, .inl (upd w30030_3 (Int32.toNatClampNeg v_30042) (vp_nar .byte v_30044))))] H := hP
        have hD : va_D A [(a0, .inr (7, [.ref a1, .int x1, .ref a2, .ref a3, .ref a4, .ref a5, .ref a6, .ref a7, .ref a8, .int x2, .int x3, .int x4, .int x5, .int x6, .int x7, .int x8, .ref a9, .ref a10, .ref a11, .ref a12, .ref a13, .ref a14, .int x9, .int x10, .int x11, .int x12, .int x13, .int x14])), (a2, .inl (k0, 89, .inl g_30018)), (a3, .inl (k1, 89, .inl g_30020)), (a4, .inl (k2, 5340, .inl (upd w30030_3 (Int32.toNatClampNeg v_30042) (vp_nar .byte v_30044))))] := hD
        have hg_30045 : sb_Fit (upd w30030_3 (Int32.toNatClampNeg v_30042) (vp_nar .byte v_30044)) := sb_fitU hw30030_3 (kb_nb _)
        generalize (upd w30030_3 (Int32.toNatClampNeg v_30042) (vp_nar .byte v_30044)) = g_30045 at hP hD hg_30045
        obtain ⟨v_30046, ev_30046⟩ : ∃ y : Int32, y = i30030_2 + 1 := ⟨_, rfl⟩
        refine lv_iinc (v := v_30046) (lv' := [(2, .int v_30046), (0, .ref a0), (1, .int x0)]) hx hb dX7_keeps_60 hl (k := 2) rfl (by rw [ev_30046]; rfl) (by decide) rfl (fun ls hl => ?_)
        have fv_30046 : v_30046.toInt = i30030_2.toInt + 1 := by rw [ev_30046]; exact ka_add (x := i30030_2.toInt) (y := 1) rfl (by decide) (by omega) (by omega)
        refine lv_goto (tgt := 28) hx hb dX7_keeps_63 (by decide) ?_
        exact ih_30030 v_30046 g_30045 ⟨by omega, by omega⟩ hg_30045 (by omega) H locs (hP.sub [0, 1, 2, 3] rfl) (hD.sub [0, 1, 2, 3] (by decide) rfl) hS ls (lv_sub hl [1, 2, 0] rfl)
  exact lp_30030 _ 0 f2 ⟨by decide, by decide⟩ hf2 (Nat.lt_succ_self _) _ _ hP hD hS ls (lv_sub hl [1, 2, 0] rfl)
set_option maxHeartbeats 4000000 in
set_option maxRecDepth 100000 in
theorem cg_X7_keeps_381 (l : Launch) (D : va_G) (F : Nat → Prop) (a0 : Nat) (x0 : Int32) (a1 : Nat) (x1 : Int32) (a2 : Nat) (a3 : Nat) (a4 : Nat) (a5 : Nat) (a6 : Nat) (a7 : Nat) (a8 : Nat) (x2 : Int32) (x3 : Int32) (x4 : Int32) (x5 : Int32) (x6 : Int32) (x7 : Int32) (x8 : Int32) (a9 : Nat) (a10 : Nat) (a11 : Nat) (a12 : Nat) (a13 : Nat) (a14 : Nat) (x9 : Int32) (x10 : Int32) (x11 : Int32) (x12 : Int32) (x13 : Int32) (x14 : Int32) (k0 : ClassId) (f0 : Nat → Int32) (k1 : ClassId) (f1 : Nat → Int32) (k2 : ClassId) (f2 : Nat → Int32) (hx0 : 6 ≤ x0.toInt ∧ x0.toInt ≤ 77) (hx1 : 0 ≤ x1.toInt ∧ x1.toInt ≤ 80) (hx2 : -1 ≤ x2.toInt ∧ x2.toInt ≤ 5) (hx5 : 1 ≤ x5.toInt ∧ x5.toInt ≤ 8) (hx6 : 0 ≤ x6.toInt ∧ x6.toInt ≤ 40) (hx8 : 0 ≤ x8.toInt ∧ x8.toInt ≤ 10) (hx9 : 0 ≤ x9.toInt ∧ x9.toInt ≤ 60) (hx10 : 0 ≤ x10.toInt ∧ x10.toInt ≤ 60) (hx11 : 0 ≤ x11.toInt ∧ x11.toInt ≤ 60) (hx12 : 0 ≤ x12.toInt ∧ x12.toInt ≤ 8) (hx14 : 0 ≤ x14.toInt ∧ x14.toInt ≤ 1) (hf1 : ∀ j : Nat, 0 ≤ (f1 j).toInt ∧ (f1 j).toInt ≤ 60) (hf2 : sb_Fit f2) : ka_E l D F yX7_keeps wsX7_keeps 0 0 0 0 [.ref a0, .int x0] [(a0, .inr (7, [.ref a1, .int x1, .ref a2, .ref a3, .ref a4, .ref a5, .ref a6, .ref a7, .ref a8, .int x2, .int x3, .int x4, .int x5, .int x6, .int x7, .int x8, .ref a9, .ref a10, .ref a11, .ref a12, .ref a13, .ref a14, .int x9, .int x10, .int x11, .int x12, .int x13, .int x14])), (a2, .inl (k0, 89, .inl f0)), (a3, .inl (k1, 89, .inl f1)), (a4, .inl (k2, 5340, .inl f2))] [(k0, .int), (k1, .int), (k2, .byte)] (fun (u : (Nat → Int32) × (Nat → Int32) × (Nat → Int32)) => none) (fun (u : (Nat → Int32) × (Nat → Int32) × (Nat → Int32)) => (∀ j : Nat, 0 ≤ ((u.2.1) j).toInt ∧ ((u.2.1) j).toInt ≤ 60) ∧ (sb_Fit (u.2.2))) (fun (u : (Nat → Int32) × (Nat → Int32) × (Nat → Int32)) => [(a0, .inr (7, [.ref a1, .int x1, .ref a2, .ref a3, .ref a4, .ref a5, .ref a6, .ref a7, .ref a8, .int x2, .int x3, .int x4, .int x5, .int x6, .int x7, .int x8, .ref a9, .ref a10, .ref a11, .ref a12, .ref a13, .ref a14, .int x9, .int x10, .int x11, .int x12, .int x13, .int x14])), (a2, .inl (k0, 89, .inl (u.1))), (a3, .inl (k1, 89, .inl (u.2.1))), (a4, .inl (k2, 5340, .inl (u.2.2)))]) (fun (u : (Nat → Int32) × (Nat → Int32) × (Nat → Int32)) => []) := by
  refine ka_E_of (cc := cX7_keeps) (maxL := 3) (ret := none) (by decide) rfl (Nat.le_of_ble_eq_true rfl) ?_
  intro p e s m below meth c ls A C hr hlk hin hP hK hD hS hA hE hN hl
  have C : CallFix p m c cX7_keeps 3 s [.ref a0, .int x0].toArray wsX7_keeps RX7 := C
  obtain ⟨hx, hb, hml, hown, hts⟩ := id C
  have hl : lv_has ls 3 [(0, .ref a0), (1, .int x0)] := hl
  have rx0 := ka_rng x0
  have rx1 := ka_rng x1
  have rx2 := ka_rng x2
  have rx3 := ka_rng x3
  have rx4 := ka_rng x4
  have rx5 := ka_rng x5
  have rx6 := ka_rng x6
  have rx7 := ka_rng x7
  have rx8 := ka_rng x8
  have rx9 := ka_rng x9
  have rx10 := ka_rng x10
  have rx11 := ka_rng x11
  have rx12 := ka_rng x12
  have rx13 := ka_rng x13
  have rx14 := ka_rng x14
  refine lv_aload_n hx hb dX7_keeps_0 rfl (lv_at hl 0 rfl) ?_
  refine ka_get C lq_369 rfl hK hP 0 rfl 2 (by decide) lq_370 rfl dX7_keeps_1 ?_
  refine lv_iload_n hx hb dX7_keeps_4 rfl (lv_at hl 1 rfl) ?_
  refine lv_aload_n hx hb dX7_keeps_5 rfl (lv_at hl 0 rfl) ?_
  refine ka_get C lq_369 rfl hK hP 0 rfl 2 (by decide) lq_370 rfl dX7_keeps_6 ?_
  refine lv_bipush (v := 88) hx hb dX7_keeps_9 (by decide) ?_
  refine va_iald hx hb hK hP 1 0 rfl rfl (ka_in (by decide) (by decide)) dX7_keeps_11 ?_
  refine lv_topi (fun v_30135 ev_30135 => ?_)
  refine va_iast hx hb hK hP hD hS 1 0 rfl rfl (ka_in (by omega) (by omega)) dX7_keeps_12 (fun H locs hP hD hS => ?_)
  have hP : va_P D vwCl [(a0, .inr (7, [.ref a1, .int x1, .ref a2, .ref a3, .ref a4, .ref a5, .ref a6, .ref a7, .ref a8, .int x2, .int x3, .int x4, .int x5, .int x6, .int x7, .int x8, .ref a9, .ref a10, .ref a11, .ref a12, .ref a13, .ref a14, .int x9, .int x10, .int x11, .int x12, .int x13, .int x14])), (a2, .inl (k0, 89, .inl (upd f0 (Int32.toNatClampNeg x0) v_30135))), (a3, .inl (k1, 89, .inl f1)), (a4, .inl (k2, 5340, .inl f2))] H := hP
  have hD : va_D A [(a0, .inr (7, [.ref a1, .int x1, .ref a2, .ref a3, .ref a4, .ref a5, .ref a6, .ref a7, .ref a8, .int x2, .int x3, .int x4, .int x5, .int x6, .int x7, .int x8, .ref a9, .ref a10, .ref a11, .ref a12, .ref a13, .ref a14, .int x9, .int x10, .int x11, .int x12, .int x13, .int x14])), (a2, .inl (k0, 89, .inl (upd f0 (Int32.toNatClampNeg x0) v_30135))), (a3, .inl (k1, 89, .inl f1)), (a4, .inl (k2, 5340, .inl f2))] := hD
  generalize (upd f0 (Int32.toNatClampNeg x0) v_30135) = g_30136 at hP hD
  refine lv_aload_n hx hb dX7_keeps_13 rfl (lv_at hl 0 rfl) ?_
  refine ka_get C lq_369 rfl hK hP 0 rfl 3 (by decide) lq_371 rfl dX7_keeps_14 ?_
  refine lv_iload_n hx hb dX7_keeps_17 rfl (lv_at hl 1 rfl) ?_
  refine lv_aload_n hx hb dX7_keeps_18 rfl (lv_at hl 0 rfl) ?_
  refine ka_get C lq_369 rfl hK hP 0 rfl 3 (by decide) lq_371 rfl dX7_keeps_19 ?_
  refine lv_bipush (v := 88) hx hb dX7_keeps_22 (by decide) ?_
  refine va_iald hx hb hK hP 2 1 rfl rfl (ka_in (by decide) (by decide)) dX7_keeps_24 ?_
  refine lv_topi (fun v_30137 ev_30137 => ?_)
  have hv_30137 := hf1 (Int32.toNatClampNeg 88); rw [← ev_30137] at hv_30137
  refine va_iast hx hb hK hP hD hS 2 1 rfl rfl (ka_in (by omega) (by omega)) dX7_keeps_25 (fun H locs hP hD hS => ?_)
  have hP : va_P D vwCl [(a0, .inr (7, [.ref a1, .int x1, .ref a2, .ref a3, .ref a4, .ref a5, .ref a6, .ref a7, .ref a8, .int x2, .int x3, .int x4, .int x5, .int x6, .int x7, .int x8, .ref a9, .ref a10, .ref a11, .ref a12, .ref a13, .ref a14, .int x9, .int x10, .int x11, .int x12, .int x13, .int x14])), (a2, .inl (k0, 89, .inl g_30136)), (a3, .inl (k1, 89, .inl (upd f1 (Int32.toNatClampNeg x0) v_30137))), (a4, .inl (k2, 5340, .inl f2))] H := hP
  have hD : va_D A [(a0, .inr (7, [.ref a1, .int x1, .ref a2, .ref a3, .ref a4, .ref a5, .ref a6, .ref a7, .ref a8, .int x2, .int x3, .int x4, .int x5, .int x6, .int x7, .int x8, .ref a9, .ref a10, .ref a11, .ref a12, .ref a13, .ref a14, .int x9, .int x10, .int x11, .int x12, .int x13, .int x14])), (a2, .inl (k0, 89, .inl g_30136)), (a3, .inl (k1, 89, .inl (upd f1 (Int32.toNatClampNeg x0) v_30137))), (a4, .inl (k2, 5340, .inl f2))] := hD
  have hg_30138 : ∀ j : Nat, 0 ≤ ((upd f1 (Int32.toNatClampNeg x0) v_30137) j).toInt ∧ ((upd f1 (Int32.toNatClampNeg x0) v_30137) j).toInt ≤ 60 := kb_rngU hf1 (by omega) (by omega)
  generalize (upd f1 (Int32.toNatClampNeg x0) v_30137) = g_30138 at hP hD hg_30138
  refine lv_iconst (v := 0) hx hb dX7_keeps_26 (by decide) ?_
  refine lv_istore_n (lv' := [(2, .int 0), (0, .ref a0), (1, .int x0)]) hx hb dX7_keeps_27 rfl hl (by decide) rfl (fun ls hl => ?_)
  have lp_30148 : ∀ (n : Nat) (i30148_2 : Int32) (w30148_3 : Nat → Int32), (0 ≤ i30148_2.toInt ∧ i30148_2.toInt ≤ 60) → (sb_Fit w30148_3) → (60 - i30148_2.toInt).toNat < n → ∀ (H : Heap) (locs : List Loc), va_P D vwCl [(a0, .inr (7, [.ref a1, .int x1, .ref a2, .ref a3, .ref a4, .ref a5, .ref a6, .ref a7, .ref a8, .int x2, .int x3, .int x4, .int x5, .int x6, .int x7, .int x8, .ref a9, .ref a10, .ref a11, .ref a12, .ref a13, .ref a14, .int x9, .int x10, .int x11, .int x12, .int x13, .int x14])), (a2, .inl (k0, 89, .inl g_30136)), (a3, .inl (k1, 89, .inl g_30138)), (a4, .inl (k2, 5340, .inl w30148_3))] H → va_D A [(a0, .inr (7, [.ref a1, .int x1, .ref a2, .ref a3, .ref a4, .ref a5, .ref a6, .ref a7, .ref a8, .int x2, .int x3, .int x4, .int x5, .int x6, .int x7, .int x8, .ref a9, .ref a10, .ref a11, .ref a12, .ref a13, .ref a14, .int x9, .int x10, .int x11, .int x12, .int x13, .int x14])), (a2, .inl (k0, 89, .inl g_30136)), (a3, .inl (k1, 89, .inl g_30138)), (a4, .inl (k2, 5340, .inl w30148_3))] → va_S A s.heap H locs → ∀ (ls : Array Slot), lv_has ls 3 [(0, .ref a0), (1, .int x0), (2, .int i30148_2)] → W p l e ({ frames := 0, cells := 0, slots := 0, locals := 0 }) s m [.ref a0, .int x0].toArray below meth c H locs 0 0 (MQ below (ka_QE D A (fun (u : (Nat → Int32) × (Nat → Int32) × (Nat → Int32)) => none) (fun (u : (Nat → Int32) × (Nat → Int32) × (Nat → Int32)) => (∀ j : Nat, 0 ≤ ((u.2.1) j).toInt ∧ ((u.2.1) j).toInt ≤ 60) ∧ (sb_Fit (u.2.2))) (fun (u : (Nat → Int32) × (Nat → Int32) × (Nat → Int32)) => [(a0, .inr (7, [.ref a1, .int x1, .ref a2, .ref a3, .ref a4, .ref a5, .ref a6, .ref a7, .ref a8, .int x2, .int x3, .int x4, .int x5, .int x6, .int x7, .int x8, .ref a9, .ref a10, .ref a11, .ref a12, .ref a13, .ref a14, .int x9, .int x10, .int x11, .int x12, .int x13, .int x14])), (a2, .inl (k0, 89, .inl (u.1))), (a3, .inl (k1, 89, .inl (u.2.1))), (a4, .inl (k2, 5340, .inl (u.2.2)))]) (fun (u : (Nat → Int32) × (Nat → Int32) × (Nat → Int32)) => [])) [.ref a0, .int x0].toArray s 0 0 A) (F0 m 28 ls []) := by
    intro n
    induction n with
    | zero =>
      intro i30148_2 w30148_3 hi30148_2 hw30148_3 hm
      exact absurd hm (Nat.not_lt_zero _)
    | succ n ih_30148 =>
      intro i30148_2 w30148_3 hi30148_2 hw30148_3 hm H locs hP hD hS ls hl
      have ri30148_2 := ka_rng i30148_2
      refine lv_iload_n hx hb dX7_keeps_28 rfl (lv_at hl 2 rfl) ?_
      refine lv_aload_n hx hb dX7_keeps_29 rfl (lv_at hl 0 rfl) ?_
      refine ka_get C lq_369 rfl hK hP 0 rfl 3 (by decide) lq_371 rfl dX7_keeps_30 ?_
      refine lv_bipush (v := 88) hx hb dX7_keeps_33 (by decide) ?_
      refine va_iald hx hb hK hP 2 1 rfl rfl (ka_in (by decide) (by decide)) dX7_keeps_35 ?_
      refine lv_topi (fun v_30157 ev_30157 => ?_)
      have hv_30157 := hg_30138 (Int32.toNatClampNeg 88); rw [← ev_30157] at hv_30157
      refine lv_icmp_ge (tgt := 66) hx hb dX7_keeps_36 (by decide) (fun c_30158 => ?_) (fun c_30158 => ?_)
      · have c_30158 : v_30157.toInt ≤ i30148_2.toInt := by rw [ka_le'] at c_30158; exact c_30158
        exact ka_rEv C hr hlk (Nat.le_of_ble_eq_true rfl) (Nat.le_of_ble_eq_true rfl) hS (ka_qE (g_30136, g_30138, w30148_3) rfl ⟨hg_30138, hw30148_3⟩ hK hP hD hS [0, 1, 2, 3] (by decide) rfl [] rfl) dX7_keeps_66
      · have c_30158 : ¬ v_30157.toInt ≤ i30148_2.toInt := by rw [ka_le'] at c_30158; exact c_30158
        refine lv_aload_n hx hb dX7_keeps_39 rfl (lv_at hl 0 rfl) ?_
        refine ka_get C lq_369 rfl hK hP 0 rfl 4 (by decide) lq_372 rfl dX7_keeps_40 ?_
        refine lv_bipush (v := 60) hx hb dX7_keeps_43 (by decide) ?_
        refine lv_iload_n hx hb dX7_keeps_45 rfl (lv_at hl 1 rfl) ?_
        refine lv_imul hx hb dX7_keeps_46 ?_
        refine lv_topi (fun v_30159 ev_30159 => ?_)
        have fv_30159 : v_30159.toInt = 60 * x0.toInt := by rw [ev_30159]; exact ka_mul (x := 60) (y := x0.toInt) (by decide) rfl (by omega) (by omega)
        refine lv_iload_n hx hb dX7_keeps_47 rfl (lv_at hl 2 rfl) ?_
        refine lv_iadd hx hb dX7_keeps_48 ?_
        refine lv_topi (fun v_30160 ev_30160 => ?_)
        have fv_30160 : v_30160.toInt = v_30159.toInt + i30148_2.toInt := by rw [ev_30160]; exact ka_add (x := v_30159.toInt) (y := i30148_2.toInt) rfl rfl (by omega) (by omega)
        refine lv_aload_n hx hb dX7_keeps_49 rfl (lv_at hl 0 rfl) ?_
        refine ka_get C lq_369 rfl hK hP 0 rfl 4 (by decide) lq_372 rfl dX7_keeps_50 ?_
        refine lv_sipush (v := 5280) hx hb dX7_keeps_53 (by decide) ?_
        refine lv_iload_n hx hb dX7_keeps_56 rfl (lv_at hl 2 rfl) ?_
        refine lv_iadd hx hb dX7_keeps_57 ?_
        refine lv_topi (fun v_30161 ev_30161 => ?_)
        have fv_30161 : v_30161.toInt = 5280 + i30148_2.toInt := by rw [ev_30161]; exact ka_add (x := 5280) (y := i30148_2.toInt) (by decide) rfl (by omega) (by omega)
        refine va_bald hx hb hK hP 3 2 rfl rfl (ka_in (by omega) (by omega)) dX7_keeps_58 ?_
        refine lv_topi (fun v_30162 ev_30162 => ?_)
        refine va_bast hx hb hK hP hD hS 3 2 rfl rfl (ka_in (by omega) (by omega)) dX7_keeps_59 (fun H locs hP hD hS => ?_)
        have hP : va_P D vwCl [(a0, .inr (7, [.ref a1, .int x1, .ref a2, .ref a3, .ref a4, .ref a5, .ref a6, .ref a7, .ref a8, .int x2, .int x3, .int x4, .int x5, .int x6, .int x7, .int x8, .ref a9, .ref a10, .ref a11, .ref a12, .ref a13, .ref a14, .int x9, .int x10, .int x11, .int x12, .int x13, .int x14])), (a2, .inl (k0, 89, .inl g_30136)), (a3, .inl (k1, 89, .inl g_30138)), (a4, .inl (k2, 5340, .inl (upd w30148_3 (Int32.toNatClampNeg v_30160) (vp_nar .byte v_30162))))] H := hP
        have hD : va_D A [(a0, .inr (7, [.ref a1, .int x1, .ref a2, .ref a3, .ref a4, .ref a5, .ref a6, .ref a7, .ref a8, .int x2, .int x3, .int x4, .int x5, .int x6, .int x7, .int x8, .ref a9, .ref a10, .ref a11, .ref a12, .ref a13, .ref a14, .int x9, .int x10, .int x11, .int x12, .int x13, .int x14])), (a2, .inl (k0, 89, .inl g_30136)), (a3, .inl (k1, 89, .inl g_30138)), (a4, .inl (k2, 5340, .inl (upd w30148_3 (Int32.toNatClampNeg v_30160) (vp_nar .byte v_30162))))] := hD
        have hg_30163 : sb_Fit (upd w30148_3 (Int32.toNatClampNeg v_30160) (vp_nar .byte v_30162)) := sb_fitU hw30148_3 (kb_nb _)
        generalize (upd w30148_3 (Int32.toNatClampNeg v_30160) (vp_nar .byte v_30162)) = g_30163 at hP hD hg_30163
        obtain ⟨v_30164, ev_30164⟩ : ∃ y : Int32, y = i30148_2 + 1 := ⟨_, rfl⟩
        refine lv_iinc (v := v_30164) (lv' := [(2, .int v_30164), (0, .ref a0), (1, .int x0)]) hx hb dX7_keeps_60 hl (k := 2) rfl (by rw [ev_30164]; rfl) (by decide) rfl (fun ls hl => ?_)
        have fv_30164 : v_30164.toInt = i30148_2.toInt + 1 := by rw [ev_30164]; exact ka_add (x := i30148_2.toInt) (y := 1) rfl (by decide) (by omega) (by omega)
        refine lv_goto (tgt := 28) hx hb dX7_keeps_63 (by decide) ?_
        exact ih_30148 v_30164 g_30163 ⟨by omega, by omega⟩ hg_30163 (by omega) H locs (hP.sub [0, 1, 2, 3] rfl) (hD.sub [0, 1, 2, 3] (by decide) rfl) hS ls (lv_sub hl [1, 2, 0] rfl)
  exact lp_30148 _ 0 f2 ⟨by decide, by decide⟩ hf2 (Nat.lt_succ_self _) _ _ hP hD hS ls (lv_sub hl [1, 2, 0] rfl)
set_option maxHeartbeats 4000000 in
set_option maxRecDepth 100000 in
theorem cg_X7_keeps_382 (l : Launch) (D : va_G) (F : Nat → Prop) (a0 : Nat) (x0 : Int32) (a1 : Nat) (x1 : Int32) (a2 : Nat) (a3 : Nat) (a4 : Nat) (a5 : Nat) (a6 : Nat) (a7 : Nat) (a8 : Nat) (x2 : Int32) (x3 : Int32) (x4 : Int32) (x5 : Int32) (x6 : Int32) (x7 : Int32) (x8 : Int32) (a9 : Nat) (a10 : Nat) (a11 : Nat) (a12 : Nat) (a13 : Nat) (a14 : Nat) (x9 : Int32) (x10 : Int32) (x11 : Int32) (x12 : Int32) (x13 : Int32) (x14 : Int32) (k0 : ClassId) (f0 : Nat → Int32) (k1 : ClassId) (f1 : Nat → Int32) (k2 : ClassId) (f2 : Nat → Int32) (hx0 : 78 ≤ x0.toInt ∧ x0.toInt ≤ 87) (hx1 : 0 ≤ x1.toInt ∧ x1.toInt ≤ 80) (hx2 : -1 ≤ x2.toInt ∧ x2.toInt ≤ 5) (hx5 : 1 ≤ x5.toInt ∧ x5.toInt ≤ 8) (hx6 : 0 ≤ x6.toInt ∧ x6.toInt ≤ 40) (hx8 : 0 ≤ x8.toInt ∧ x8.toInt ≤ 10) (hx9 : 0 ≤ x9.toInt ∧ x9.toInt ≤ 60) (hx10 : 0 ≤ x10.toInt ∧ x10.toInt ≤ 60) (hx11 : 0 ≤ x11.toInt ∧ x11.toInt ≤ 60) (hx12 : 0 ≤ x12.toInt ∧ x12.toInt ≤ 8) (hx14 : 0 ≤ x14.toInt ∧ x14.toInt ≤ 1) (hf1 : ∀ j : Nat, 0 ≤ (f1 j).toInt ∧ (f1 j).toInt ≤ 60) (hf2 : sb_Fit f2) : ka_E l D F yX7_keeps wsX7_keeps 0 0 0 0 [.ref a0, .int x0] [(a0, .inr (7, [.ref a1, .int x1, .ref a2, .ref a3, .ref a4, .ref a5, .ref a6, .ref a7, .ref a8, .int x2, .int x3, .int x4, .int x5, .int x6, .int x7, .int x8, .ref a9, .ref a10, .ref a11, .ref a12, .ref a13, .ref a14, .int x9, .int x10, .int x11, .int x12, .int x13, .int x14])), (a2, .inl (k0, 89, .inl f0)), (a3, .inl (k1, 89, .inl f1)), (a4, .inl (k2, 5340, .inl f2))] [(k0, .int), (k1, .int), (k2, .byte)] (fun (u : (Nat → Int32) × (Nat → Int32) × (Nat → Int32)) => none) (fun (u : (Nat → Int32) × (Nat → Int32) × (Nat → Int32)) => (∀ j : Nat, 0 ≤ ((u.2.1) j).toInt ∧ ((u.2.1) j).toInt ≤ 60) ∧ (sb_Fit (u.2.2))) (fun (u : (Nat → Int32) × (Nat → Int32) × (Nat → Int32)) => [(a0, .inr (7, [.ref a1, .int x1, .ref a2, .ref a3, .ref a4, .ref a5, .ref a6, .ref a7, .ref a8, .int x2, .int x3, .int x4, .int x5, .int x6, .int x7, .int x8, .ref a9, .ref a10, .ref a11, .ref a12, .ref a13, .ref a14, .int x9, .int x10, .int x11, .int x12, .int x13, .int x14])), (a2, .inl (k0, 89, .inl (u.1))), (a3, .inl (k1, 89, .inl (u.2.1))), (a4, .inl (k2, 5340, .inl (u.2.2)))]) (fun (u : (Nat → Int32) × (Nat → Int32) × (Nat → Int32)) => []) := by
  refine ka_E_of (cc := cX7_keeps) (maxL := 3) (ret := none) (by decide) rfl (Nat.le_of_ble_eq_true rfl) ?_
  intro p e s m below meth c ls A C hr hlk hin hP hK hD hS hA hE hN hl
  have C : CallFix p m c cX7_keeps 3 s [.ref a0, .int x0].toArray wsX7_keeps RX7 := C
  obtain ⟨hx, hb, hml, hown, hts⟩ := id C
  have hl : lv_has ls 3 [(0, .ref a0), (1, .int x0)] := hl
  have rx0 := ka_rng x0
  have rx1 := ka_rng x1
  have rx2 := ka_rng x2
  have rx3 := ka_rng x3
  have rx4 := ka_rng x4
  have rx5 := ka_rng x5
  have rx6 := ka_rng x6
  have rx7 := ka_rng x7
  have rx8 := ka_rng x8
  have rx9 := ka_rng x9
  have rx10 := ka_rng x10
  have rx11 := ka_rng x11
  have rx12 := ka_rng x12
  have rx13 := ka_rng x13
  have rx14 := ka_rng x14
  refine lv_aload_n hx hb dX7_keeps_0 rfl (lv_at hl 0 rfl) ?_
  refine ka_get C lq_369 rfl hK hP 0 rfl 2 (by decide) lq_370 rfl dX7_keeps_1 ?_
  refine lv_iload_n hx hb dX7_keeps_4 rfl (lv_at hl 1 rfl) ?_
  refine lv_aload_n hx hb dX7_keeps_5 rfl (lv_at hl 0 rfl) ?_
  refine ka_get C lq_369 rfl hK hP 0 rfl 2 (by decide) lq_370 rfl dX7_keeps_6 ?_
  refine lv_bipush (v := 88) hx hb dX7_keeps_9 (by decide) ?_
  refine va_iald hx hb hK hP 1 0 rfl rfl (ka_in (by decide) (by decide)) dX7_keeps_11 ?_
  refine lv_topi (fun v_30253 ev_30253 => ?_)
  refine va_iast hx hb hK hP hD hS 1 0 rfl rfl (ka_in (by omega) (by omega)) dX7_keeps_12 (fun H locs hP hD hS => ?_)
  have hP : va_P D vwCl [(a0, .inr (7, [.ref a1, .int x1, .ref a2, .ref a3, .ref a4, .ref a5, .ref a6, .ref a7, .ref a8, .int x2, .int x3, .int x4, .int x5, .int x6, .int x7, .int x8, .ref a9, .ref a10, .ref a11, .ref a12, .ref a13, .ref a14, .int x9, .int x10, .int x11, .int x12, .int x13, .int x14])), (a2, .inl (k0, 89, .inl (upd f0 (Int32.toNatClampNeg x0) v_30253))), (a3, .inl (k1, 89, .inl f1)), (a4, .inl (k2, 5340, .inl f2))] H := hP
  have hD : va_D A [(a0, .inr (7, [.ref a1, .int x1, .ref a2, .ref a3, .ref a4, .ref a5, .ref a6, .ref a7, .ref a8, .int x2, .int x3, .int x4, .int x5, .int x6, .int x7, .int x8, .ref a9, .ref a10, .ref a11, .ref a12, .ref a13, .ref a14, .int x9, .int x10, .int x11, .int x12, .int x13, .int x14])), (a2, .inl (k0, 89, .inl (upd f0 (Int32.toNatClampNeg x0) v_30253))), (a3, .inl (k1, 89, .inl f1)), (a4, .inl (k2, 5340, .inl f2))] := hD
  generalize (upd f0 (Int32.toNatClampNeg x0) v_30253) = g_30254 at hP hD
  refine lv_aload_n hx hb dX7_keeps_13 rfl (lv_at hl 0 rfl) ?_
  refine ka_get C lq_369 rfl hK hP 0 rfl 3 (by decide) lq_371 rfl dX7_keeps_14 ?_
  refine lv_iload_n hx hb dX7_keeps_17 rfl (lv_at hl 1 rfl) ?_
  refine lv_aload_n hx hb dX7_keeps_18 rfl (lv_at hl 0 rfl) ?_
  refine ka_get C lq_369 rfl hK hP 0 rfl 3 (by decide) lq_371 rfl dX7_keeps_19 ?_
  refine lv_bipush (v := 88) hx hb dX7_keeps_22 (by decide) ?_
  refine va_iald hx hb hK hP 2 1 rfl rfl (ka_in (by decide) (by decide)) dX7_keeps_24 ?_
  refine lv_topi (fun v_30255 ev_30255 => ?_)
  have hv_30255 := hf1 (Int32.toNatClampNeg 88); rw [← ev_30255] at hv_30255
  refine va_iast hx hb hK hP hD hS 2 1 rfl rfl (ka_in (by omega) (by omega)) dX7_keeps_25 (fun H locs hP hD hS => ?_)
  have hP : va_P D vwCl [(a0, .inr (7, [.ref a1, .int x1, .ref a2, .ref a3, .ref a4, .ref a5, .ref a6, .ref a7, .ref a8, .int x2, .int x3, .int x4, .int x5, .int x6, .int x7, .int x8, .ref a9, .ref a10, .ref a11, .ref a12, .ref a13, .ref a14, .int x9, .int x10, .int x11, .int x12, .int x13, .int x14])), (a2, .inl (k0, 89, .inl g_30254)), (a3, .inl (k1, 89, .inl (upd f1 (Int32.toNatClampNeg x0) v_30255))), (a4, .inl (k2, 5340, .inl f2))] H := hP
  have hD : va_D A [(a0, .inr (7, [.ref a1, .int x1, .ref a2, .ref a3, .ref a4, .ref a5, .ref a6, .ref a7, .ref a8, .int x2, .int x3, .int x4, .int x5, .int x6, .int x7, .int x8, .ref a9, .ref a10, .ref a11, .ref a12, .ref a13, .ref a14, .int x9, .int x10, .int x11, .int x12, .int x13, .int x14])), (a2, .inl (k0, 89, .inl g_30254)), (a3, .inl (k1, 89, .inl (upd f1 (Int32.toNatClampNeg x0) v_30255))), (a4, .inl (k2, 5340, .inl f2))] := hD
  have hg_30256 : ∀ j : Nat, 0 ≤ ((upd f1 (Int32.toNatClampNeg x0) v_30255) j).toInt ∧ ((upd f1 (Int32.toNatClampNeg x0) v_30255) j).toInt ≤ 60 := kb_rngU hf1 (by omega) (by omega)
  generalize (upd f1 (Int32.toNatClampNeg x0) v_30255) = g_30256 at hP hD hg_30256
  refine lv_iconst (v := 0) hx hb dX7_keeps_26 (by decide) ?_
  refine lv_istore_n (lv' := [(2, .int 0), (0, .ref a0), (1, .int x0)]) hx hb dX7_keeps_27 rfl hl (by decide) rfl (fun ls hl => ?_)
  have lp_30266 : ∀ (n : Nat) (i30266_2 : Int32) (w30266_3 : Nat → Int32), (0 ≤ i30266_2.toInt ∧ i30266_2.toInt ≤ 60) → (sb_Fit w30266_3) → (60 - i30266_2.toInt).toNat < n → ∀ (H : Heap) (locs : List Loc), va_P D vwCl [(a0, .inr (7, [.ref a1, .int x1, .ref a2, .ref a3, .ref a4, .ref a5, .ref a6, .ref a7, .ref a8, .int x2, .int x3, .int x4, .int x5, .int x6, .int x7, .int x8, .ref a9, .ref a10, .ref a11, .ref a12, .ref a13, .ref a14, .int x9, .int x10, .int x11, .int x12, .int x13, .int x14])), (a2, .inl (k0, 89, .inl g_30254)), (a3, .inl (k1, 89, .inl g_30256)), (a4, .inl (k2, 5340, .inl w30266_3))] H → va_D A [(a0, .inr (7, [.ref a1, .int x1, .ref a2, .ref a3, .ref a4, .ref a5, .ref a6, .ref a7, .ref a8, .int x2, .int x3, .int x4, .int x5, .int x6, .int x7, .int x8, .ref a9, .ref a10, .ref a11, .ref a12, .ref a13, .ref a14, .int x9, .int x10, .int x11, .int x12, .int x13, .int x14])), (a2, .inl (k0, 89, .inl g_30254)), (a3, .inl (k1, 89, .inl g_30256)), (a4, .inl (k2, 5340, .inl w30266_3))] → va_S A s.heap H locs → ∀ (ls : Array Slot), lv_has ls 3 [(0, .ref a0), (1, .int x0), (2, .int i30266_2)] → W p l e ({ frames := 0, cells := 0, slots := 0, locals := 0 }) s m [.ref a0, .int x0].toArray below meth c H locs 0 0 (MQ below (ka_QE D A (fun (u : (Nat → Int32) × (Nat → Int32) × (Nat → Int32)) => none) (fun (u : (Nat → Int32) × (Nat → Int32) × (Nat → Int32)) => (∀ j : Nat, 0 ≤ ((u.2.1) j).toInt ∧ ((u.2.1) j).toInt ≤ 60) ∧ (sb_Fit (u.2.2))) (fun (u : (Nat → Int32) × (Nat → Int32) × (Nat → Int32)) => [(a0, .inr (7, [.ref a1, .int x1, .ref a2, .ref a3, .ref a4, .ref a5, .ref a6, .ref a7, .ref a8, .int x2, .int x3, .int x4, .int x5, .int x6, .int x7, .int x8, .ref a9, .ref a10, .ref a11, .ref a12, .ref a13, .ref a14, .int x9, .int x10, .int x11, .int x12, .int x13, .int x14])), (a2, .inl (k0, 89, .inl (u.1))), (a3, .inl (k1, 89, .inl (u.2.1))), (a4, .inl (k2, 5340, .inl (u.2.2)))]) (fun (u : (Nat → Int32) × (Nat → Int32) × (Nat → Int32)) => [])) [.ref a0, .int x0].toArray s 0 0 A) (F0 m 28 ls []) := by
    intro n
    induction n with
    | zero =>
      intro i30266_2 w30266_3 hi30266_2 hw30266_3 hm
      exact absurd hm (Nat.not_lt_zero _)
    | succ n ih_30266 =>
      intro i30266_2 w30266_3 hi30266_2 hw30266_3 hm H locs hP hD hS ls hl
      have ri30266_2 := ka_rng i30266_2
      refine lv_iload_n hx hb dX7_keeps_28 rfl (lv_at hl 2 rfl) ?_
      refine lv_aload_n hx hb dX7_keeps_29 rfl (lv_at hl 0 rfl) ?_
      refine ka_get C lq_369 rfl hK hP 0 rfl 3 (by decide) lq_371 rfl dX7_keeps_30 ?_
      refine lv_bipush (v := 88) hx hb dX7_keeps_33 (by decide) ?_
      refine va_iald hx hb hK hP 2 1 rfl rfl (ka_in (by decide) (by decide)) dX7_keeps_35 ?_
      refine lv_topi (fun v_30275 ev_30275 => ?_)
      have hv_30275 := hg_30256 (Int32.toNatClampNeg 88); rw [← ev_30275] at hv_30275
      refine lv_icmp_ge (tgt := 66) hx hb dX7_keeps_36 (by decide) (fun c_30276 => ?_) (fun c_30276 => ?_)
      · have c_30276 : v_30275.toInt ≤ i30266_2.toInt := by rw [ka_le'] at c_30276; exact c_30276
        exact ka_rEv C hr hlk (Nat.le_of_ble_eq_true rfl) (Nat.le_of_ble_eq_true rfl) hS (ka_qE (g_30254, g_30256, w30266_3) rfl ⟨hg_30256, hw30266_3⟩ hK hP hD hS [0, 1, 2, 3] (by decide) rfl [] rfl) dX7_keeps_66
      · have c_30276 : ¬ v_30275.toInt ≤ i30266_2.toInt := by rw [ka_le'] at c_30276; exact c_30276
        refine lv_aload_n hx hb dX7_keeps_39 rfl (lv_at hl 0 rfl) ?_
        refine ka_get C lq_369 rfl hK hP 0 rfl 4 (by decide) lq_372 rfl dX7_keeps_40 ?_
        refine lv_bipush (v := 60) hx hb dX7_keeps_43 (by decide) ?_
        refine lv_iload_n hx hb dX7_keeps_45 rfl (lv_at hl 1 rfl) ?_
        refine lv_imul hx hb dX7_keeps_46 ?_
        refine lv_topi (fun v_30277 ev_30277 => ?_)
        have fv_30277 : v_30277.toInt = 60 * x0.toInt := by rw [ev_30277]; exact ka_mul (x := 60) (y := x0.toInt) (by decide) rfl (by omega) (by omega)
        refine lv_iload_n hx hb dX7_keeps_47 rfl (lv_at hl 2 rfl) ?_
        refine lv_iadd hx hb dX7_keeps_48 ?_
        refine lv_topi (fun v_30278 ev_30278 => ?_)
        have fv_30278 : v_30278.toInt = v_30277.toInt + i30266_2.toInt := by rw [ev_30278]; exact ka_add (x := v_30277.toInt) (y := i30266_2.toInt) rfl rfl (by omega) (by omega)
        refine lv_aload_n hx hb dX7_keeps_49 rfl (lv_at hl 0 rfl) ?_
        refine ka_get C lq_369 rfl hK hP 0 rfl 4 (by decide) lq_372 rfl dX7_keeps_50 ?_
        refine lv_sipush (v := 5280) hx hb dX7_keeps_53 (by decide) ?_
        refine lv_iload_n hx hb dX7_keeps_56 rfl (lv_at hl 2 rfl) ?_
        refine lv_iadd hx hb dX7_keeps_57 ?_
        refine lv_topi (fun v_30279 ev_30279 => ?_)
        have fv_30279 : v_30279.toInt = 5280 + i30266_2.toInt := by rw [ev_30279]; exact ka_add (x := 5280) (y := i30266_2.toInt) (by decide) rfl (by omega) (by omega)
        refine va_bald hx hb hK hP 3 2 rfl rfl (ka_in (by omega) (by omega)) dX7_keeps_58 ?_
        refine lv_topi (fun v_30280 ev_30280 => ?_)
        refine va_bast hx hb hK hP hD hS 3 2 rfl rfl (ka_in (by omega) (by omega)) dX7_keeps_59 (fun H locs hP hD hS => ?_)
        have hP : va_P D vwCl [(a0, .inr (7, [.ref a1, .int x1, .ref a2, .ref a3, .ref a4, .ref a5, .ref a6, .ref a7, .ref a8, .int x2, .int x3, .int x4, .int x5, .int x6, .int x7, .int x8, .ref a9, .ref a10, .ref a11, .ref a12, .ref a13, .ref a14, .int x9, .int x10, .int x11, .int x12, .int x13, .int x14])), (a2, .inl (k0, 89, .inl g_30254)), (a3, .inl (k1, 89, .inl g_30256)), (a4, .inl (k2, 5340, .inl (upd w30266_3 (Int32.toNatClampNeg v_30278) (vp_nar .byte v_30280))))] H := hP
        have hD : va_D A [(a0, .inr (7, [.ref a1, .int x1, .ref a2, .ref a3, .ref a4, .ref a5, .ref a6, .ref a7, .ref a8, .int x2, .int x3, .int x4, .int x5, .int x6, .int x7, .int x8, .ref a9, .ref a10, .ref a11, .ref a12, .ref a13, .ref a14, .int x9, .int x10, .int x11, .int x12, .int x13, .int x14])), (a2, .inl (k0, 89, .inl g_30254)), (a3, .inl (k1, 89, .inl g_30256)), (a4, .inl (k2, 5340, .inl (upd w30266_3 (Int32.toNatClampNeg v_30278) (vp_nar .byte v_30280))))] := hD
        have hg_30281 : sb_Fit (upd w30266_3 (Int32.toNatClampNeg v_30278) (vp_nar .byte v_30280)) := sb_fitU hw30266_3 (kb_nb _)
        generalize (upd w30266_3 (Int32.toNatClampNeg v_30278) (vp_nar .byte v_30280)) = g_30281 at hP hD hg_30281
        obtain ⟨v_30282, ev_30282⟩ : ∃ y : Int32, y = i30266_2 + 1 := ⟨_, rfl⟩
        refine lv_iinc (v := v_30282) (lv' := [(2, .int v_30282), (0, .ref a0), (1, .int x0)]) hx hb dX7_keeps_60 hl (k := 2) rfl (by rw [ev_30282]; rfl) (by decide) rfl (fun ls hl => ?_)
        have fv_30282 : v_30282.toInt = i30266_2.toInt + 1 := by rw [ev_30282]; exact ka_add (x := i30266_2.toInt) (y := 1) rfl (by decide) (by omega) (by omega)
        refine lv_goto (tgt := 28) hx hb dX7_keeps_63 (by decide) ?_
        exact ih_30266 v_30282 g_30281 ⟨by omega, by omega⟩ hg_30281 (by omega) H locs (hP.sub [0, 1, 2, 3] rfl) (hD.sub [0, 1, 2, 3] (by decide) rfl) hS ls (lv_sub hl [1, 2, 0] rfl)
  exact lp_30266 _ 0 f2 ⟨by decide, by decide⟩ hf2 (Nat.lt_succ_self _) _ _ hP hD hS ls (lv_sub hl [1, 2, 0] rfl)
set_option maxHeartbeats 4000000 in
set_option maxRecDepth 100000 in
theorem cg_X7_isIn_383 (l : Launch) (D : va_G) (F : Nat → Prop) (x0 : Int32) (x1 : Int32) (hx1 : 0 ≤ x1.toInt ∧ x1.toInt ≤ 60) : ka_R l D F yX7_isIn wsX7_isIn 0 0 [.int x0, .int 0, .int x1] [] [] (fun v => ∃ x : Int32, v = some (.int x) ∧ 0 ≤ x.toInt ∧ x.toInt ≤ 1) := by
  refine ka_R_of (cc := cX7_isIn) (maxL := 3) (ret := (some .boolean)) (by decide) rfl (Nat.le_of_ble_eq_true rfl) ?_
  intro p e s m below meth c ls C hr hlk hP hK hE hN hl
  have hS : va_S (fun _ => False) s.heap s.heap [] := va_S.rf
  have C : CallFix p m c cX7_isIn 3 s [.int x0, .int 0, .int x1].toArray wsX7_isIn RX7 := C
  obtain ⟨hx, hb, hml, hown, hts⟩ := id C
  have hl : lv_has ls 3 [(0, .int x0), (1, .int 0), (2, .int x1)] := hl
  have rx0 := ka_rng x0
  have rx1 := ka_rng x1
  refine lv_iload_n hx hb dX7_isIn_0 rfl (lv_at hl 0 rfl) ?_
  refine lv_iload_n hx hb dX7_isIn_1 rfl (lv_at hl 1 rfl) ?_
  refine lv_icmp_lt (tgt := 14) hx hb dX7_isIn_2 (by decide) (fun c_30344 => ?_) (fun c_30344 => ?_)
  · have c_30344 : x0.toInt < 0 := by rw [ka_lt', show ((0 : Int32)).toInt = 0 from by decide] at c_30344; exact c_30344
    refine lv_iconst (v := 0) hx hb dX7_isIn_14 (by decide) ?_
    exact ka_rRz C hr hlk rfl ⟨_, rfl, ⟨by decide, by decide⟩⟩ dX7_isIn_15
  · have c_30344 : ¬ x0.toInt < 0 := by rw [ka_lt', show ((0 : Int32)).toInt = 0 from by decide] at c_30344; exact c_30344
    refine lv_iload_n hx hb dX7_isIn_5 rfl (lv_at hl 0 rfl) ?_
    refine lv_iload_n hx hb dX7_isIn_6 rfl (lv_at hl 2 rfl) ?_
    refine lv_icmp_gt (tgt := 14) hx hb dX7_isIn_7 (by decide) (fun c_30345 => ?_) (fun c_30345 => ?_)
    · have c_30345 : x1.toInt < x0.toInt := by rw [ka_lt'] at c_30345; exact c_30345
      refine lv_iconst (v := 0) hx hb dX7_isIn_14 (by decide) ?_
      exact ka_rRz C hr hlk rfl ⟨_, rfl, ⟨by decide, by decide⟩⟩ dX7_isIn_15
    · have c_30345 : ¬ x1.toInt < x0.toInt := by rw [ka_lt'] at c_30345; exact c_30345
      refine lv_iconst (v := 1) hx hb dX7_isIn_10 (by decide) ?_
      refine lv_goto (tgt := 15) hx hb dX7_isIn_11 (by decide) ?_
      exact ka_rRz C hr hlk rfl ⟨_, rfl, ⟨by decide, by decide⟩⟩ dX7_isIn_15
theorem lq_373 : ∀ w ∈ wsX70, w ∈ wsX7_isText := by decide +kernel
theorem lq_374 : Cond.fieldLink RX7 71 "AskedBackModel" "taped" "I" ∈ wsX7_isText := by decide +kernel
theorem lq_375 : Cond.methodLink RX7 129 Lib.Math.min.name ∈ wsX7_isText := by decide +kernel
theorem lq_376 : Cond.static Lib.Math.min.name ∈ wsX7_isText := by decide +kernel
theorem lq_377 : Cond.initialized "java/lang/Math" ∈ wsX7_isText := by decide +kernel
theorem lq_378 : Cond.code Lib.Math.min.name Lib.Math.min.code 2 (some .int) ∈ wsX7_isText := by decide +kernel
set_option maxHeartbeats 4000000 in
set_option maxRecDepth 100000 in
theorem cg_X7_isText_384 (l : Launch) (D : va_G) (F : Nat → Prop) (a0 : Nat) (x0 : Int32) (a1 : Nat) (x1 : Int32) (a2 : Nat) (a3 : Nat) (a4 : Nat) (a5 : Nat) (a6 : Nat) (a7 : Nat) (a8 : Nat) (x2 : Int32) (x3 : Int32) (x4 : Int32) (x5 : Int32) (x6 : Int32) (x7 : Int32) (x8 : Int32) (a9 : Nat) (a10 : Nat) (a11 : Nat) (a12 : Nat) (a13 : Nat) (a14 : Nat) (x9 : Int32) (x10 : Int32) (x11 : Int32) (x12 : Int32) (x13 : Int32) (x14 : Int32) (hx1 : 0 ≤ x1.toInt ∧ x1.toInt ≤ 80) (hx2 : -1 ≤ x2.toInt ∧ x2.toInt ≤ 5) (hx5 : 1 ≤ x5.toInt ∧ x5.toInt ≤ 8) (hx6 : 0 ≤ x6.toInt ∧ x6.toInt ≤ 40) (hx8 : 0 ≤ x8.toInt ∧ x8.toInt ≤ 10) (hx9 : 0 ≤ x9.toInt ∧ x9.toInt ≤ 60) (hx10 : 0 ≤ x10.toInt ∧ x10.toInt ≤ 60) (hx11 : 0 ≤ x11.toInt ∧ x11.toInt ≤ 60) (hx12 : 0 ≤ x12.toInt ∧ x12.toInt ≤ 8) (hx14 : 0 ≤ x14.toInt ∧ x14.toInt ≤ 1) : ka_R l D F yX7_isText wsX7_isText 1 22 [.ref a0, .int x0] [(a0, .inr (7, [.ref a1, .int x1, .ref a2, .ref a3, .ref a4, .ref a5, .ref a6, .ref a7, .ref a8, .int x2, .int x3, .int x4, .int x5, .int x6, .int x7, .int x8, .ref a9, .ref a10, .ref a11, .ref a12, .ref a13, .ref a14, .int x9, .int x10, .int x11, .int x12, .int x13, .int x14]))] [] (fun v => ∃ x : Int32, v = some (.int x) ∧ 0 ≤ x.toInt ∧ x.toInt ≤ 1) := by
  refine ka_R_of (cc := cX7_isText) (maxL := 2) (ret := (some .boolean)) (by decide) rfl (Nat.le_of_ble_eq_true rfl) ?_
  intro p e s m below meth c ls C hr hlk hP hK hE hN hl
  have hS : va_S (fun _ => False) s.heap s.heap [] := va_S.rf
  have C : CallFix p m c cX7_isText 2 s [.ref a0, .int x0].toArray wsX7_isText RX7 := C
  obtain ⟨hx, hb, hml, hown, hts⟩ := id C
  have hl : lv_has ls 2 [(0, .ref a0), (1, .int x0)] := hl
  have rx0 := ka_rng x0
  have rx1 := ka_rng x1
  have rx2 := ka_rng x2
  have rx3 := ka_rng x3
  have rx4 := ka_rng x4
  have rx5 := ka_rng x5
  have rx6 := ka_rng x6
  have rx7 := ka_rng x7
  have rx8 := ka_rng x8
  have rx9 := ka_rng x9
  have rx10 := ka_rng x10
  have rx11 := ka_rng x11
  have rx12 := ka_rng x12
  have rx13 := ka_rng x13
  have rx14 := ka_rng x14
  refine lv_iload_n hx hb dX7_isText_0 rfl (lv_at hl 1 rfl) ?_
  refine lv_iconst (v := 0) hx hb dX7_isText_1 (by decide) ?_
  refine lv_bipush (v := 60) hx hb dX7_isText_2 (by decide) ?_
  refine lv_aload_n hx hb dX7_isText_4 rfl (lv_at hl 0 rfl) ?_
  refine ka_get C lq_373 rfl hK hP 0 rfl 1 (by decide) lq_374 rfl dX7_isText_5 ?_
  refine va_mmin hx hb (hml.trans hl.1.symm) hown (hts _ lq_375) (hts _ lq_376) (hts _ lq_377) (hts _ lq_378) (Nat.le_of_ble_eq_true rfl) (Nat.le_of_ble_eq_true rfl) (Nat.le_of_ble_eq_true rfl) (Nat.le_of_ble_eq_true rfl) dX7_isText_8 ?_
  refine lv_topi (fun v_30349 ev_30349 => ?_)
  have fv_30349 := kb_min 60 x1; rw [← ev_30349] at fv_30349
  rw [show ((60 : Int32)).toInt = 60 from by decide] at fv_30349
  refine ka_RS (n := 3) C (cg_X7_isIn_383 l D F x0 v_30349 ⟨by omega, by omega⟩) gX7_isText_X7_isIn rfl (by decide +kernel) ⟨Nat.le_of_ble_eq_true rfl, Nat.le_of_ble_eq_true rfl⟩ hK hP hS hE hN [] rfl [] rfl rfl hl.1 (rest := []) rfl (Nat.le_of_ble_eq_true rfl) dX7_isText_11 ⟨Nat.le_of_ble_eq_true rfl, Nat.le_of_ble_eq_true rfl⟩ (fun v hv => ?_)
  obtain ⟨v_30350, rfl, hv_30350⟩ := hv
  have rv_30350 := ka_rng v_30350
  refine ka_stk (w := [.int v_30350]) rfl ?_
  exact ka_rRz C hr hlk (kb_nz ⟨by omega, by omega⟩) ⟨_, rfl, ⟨by omega, by omega⟩⟩ dX7_isText_14
theorem lq_379 : ∀ w ∈ wsX70, w ∈ wsX7_isOpenFor := by decide +kernel
theorem lq_380 : Cond.fieldLink RX7 36 "AskedBackModel" "lesson" "I" ∈ wsX7_isOpenFor := by decide +kernel
theorem lq_381 : Cond.fieldLink RX7 27 "AskedBackModel" "isDone" "[Z" ∈ wsX7_isOpenFor := by decide +kernel
set_option maxHeartbeats 4000000 in
set_option maxRecDepth 100000 in
theorem cg_X7_isOpenFor_385 (l : Launch) (D : va_G) (F : Nat → Prop) (a0 : Nat) (x0 : Int32) (x1 : Int32) (a1 : Nat) (x2 : Int32) (a2 : Nat) (a3 : Nat) (a4 : Nat) (a5 : Nat) (a6 : Nat) (a7 : Nat) (a8 : Nat) (x3 : Int32) (x4 : Int32) (x5 : Int32) (x6 : Int32) (x7 : Int32) (x8 : Int32) (x9 : Int32) (a9 : Nat) (a10 : Nat) (a11 : Nat) (a12 : Nat) (a13 : Nat) (a14 : Nat) (x10 : Int32) (x11 : Int32) (x12 : Int32) (x13 : Int32) (x14 : Int32) (x15 : Int32) (k0 : ClassId) (f0 : Nat → Int32) (hx2 : 0 ≤ x2.toInt ∧ x2.toInt ≤ 80) (hx3 : -1 ≤ x3.toInt ∧ x3.toInt ≤ 5) (hx6 : 1 ≤ x6.toInt ∧ x6.toInt ≤ 8) (hx7 : 0 ≤ x7.toInt ∧ x7.toInt ≤ 40) (hx9 : 0 ≤ x9.toInt ∧ x9.toInt ≤ 10) (hx10 : 0 ≤ x10.toInt ∧ x10.toInt ≤ 60) (hx11 : 0 ≤ x11.toInt ∧ x11.toInt ≤ 60) (hx12 : 0 ≤ x12.toInt ∧ x12.toInt ≤ 60) (hx13 : 0 ≤ x13.toInt ∧ x13.toInt ≤ 8) (hx15 : 0 ≤ x15.toInt ∧ x15.toInt ≤ 1) : ka_R l D F yX7_isOpenFor wsX7_isOpenFor 2 43 [.ref a0, .int x0, .int x1] [(a0, .inr (7, [.ref a1, .int x2, .ref a2, .ref a3, .ref a4, .ref a5, .ref a6, .ref a7, .ref a8, .int x3, .int x4, .int x5, .int x6, .int x7, .int x8, .int x9, .ref a9, .ref a10, .ref a11, .ref a12, .ref a13, .ref a14, .int x10, .int x11, .int x12, .int x13, .int x14, .int x15])), (a6, .inl (k0, 6, .inl f0))] [(k0, .boolean)] (fun v => ∃ x : Int32, v = some (.int x) ∧ 0 ≤ x.toInt ∧ x.toInt ≤ 1) := by
  refine ka_R_of (cc := cX7_isOpenFor) (maxL := 3) (ret := (some .boolean)) (by decide) rfl (Nat.le_of_ble_eq_true rfl) ?_
  intro p e s m below meth c ls C hr hlk hP hK hE hN hl
  have hS : va_S (fun _ => False) s.heap s.heap [] := va_S.rf
  have C : CallFix p m c cX7_isOpenFor 3 s [.ref a0, .int x0, .int x1].toArray wsX7_isOpenFor RX7 := C
  obtain ⟨hx, hb, hml, hown, hts⟩ := id C
  have hl : lv_has ls 3 [(0, .ref a0), (1, .int x0), (2, .int x1)] := hl
  have rx0 := ka_rng x0
  have rx1 := ka_rng x1
  have rx2 := ka_rng x2
  have rx3 := ka_rng x3
  have rx4 := ka_rng x4
  have rx5 := ka_rng x5
  have rx6 := ka_rng x6
  have rx7 := ka_rng x7
  have rx8 := ka_rng x8
  have rx9 := ka_rng x9
  have rx10 := ka_rng x10
  have rx11 := ka_rng x11
  have rx12 := ka_rng x12
  have rx13 := ka_rng x13
  have rx14 := ka_rng x14
  have rx15 := ka_rng x15
  rcases (show x0.toInt ≤ -1 ∨ (0 ≤ x0.toInt ∧ x0.toInt ≤ 5) ∨ 6 ≤ x0.toInt by omega) with y_30389 | y_30389 | y_30389
  · skip
    refine lv_iload_n hx hb dX7_isOpenFor_0 rfl (lv_at hl 1 rfl) ?_
    refine ka_RS (n := 1) C (cg_X7_isLesson_217 l D F x0 (by omega)) gX7_isOpenFor_X7_isLesson rfl (by decide +kernel) ⟨Nat.le_of_ble_eq_true rfl, Nat.le_of_ble_eq_true rfl⟩ hK hP hS hE hN [] rfl [] rfl rfl hl.1 (rest := []) rfl (Nat.le_of_ble_eq_true rfl) dX7_isOpenFor_1 ⟨Nat.le_of_ble_eq_true rfl, Nat.le_of_ble_eq_true rfl⟩ (fun v hv => ?_)
    subst hv
    refine ka_stk (w := [.int 0]) rfl ?_
    refine lv_if_eq (tgt := 36) hx hb dX7_isOpenFor_4 (by decide) (fun _ => ?_) (fun c_ => absurd (by decide) c_)
    refine lv_iconst (v := 0) hx hb dX7_isOpenFor_36 (by decide) ?_
    exact ka_rRz C hr hlk rfl ⟨_, rfl, ⟨by decide, by decide⟩⟩ dX7_isOpenFor_37
  · skip
    refine lv_iload_n hx hb dX7_isOpenFor_0 rfl (lv_at hl 1 rfl) ?_
    refine ka_RS (n := 1) C (cg_X7_isLesson_220 l D F x0 ⟨by omega, by omega⟩) gX7_isOpenFor_X7_isLesson rfl (by decide +kernel) ⟨Nat.le_of_ble_eq_true rfl, Nat.le_of_ble_eq_true rfl⟩ hK hP hS hE hN [] rfl [] rfl rfl hl.1 (rest := []) rfl (Nat.le_of_ble_eq_true rfl) dX7_isOpenFor_1 ⟨Nat.le_of_ble_eq_true rfl, Nat.le_of_ble_eq_true rfl⟩ (fun v hv => ?_)
    subst hv
    refine ka_stk (w := [.int 1]) rfl ?_
    refine lv_if_eq (tgt := 36) hx hb dX7_isOpenFor_4 (by decide) (fun c_ => absurd c_ (by decide)) (fun _ => ?_)
    refine lv_iload_n hx hb dX7_isOpenFor_7 rfl (lv_at hl 1 rfl) ?_
    refine lv_aload_n hx hb dX7_isOpenFor_8 rfl (lv_at hl 0 rfl) ?_
    refine ka_get C lq_379 rfl hK hP 0 rfl 9 (by decide) lq_380 rfl dX7_isOpenFor_9 ?_
    refine lv_icmp_eq (tgt := 36) hx hb dX7_isOpenFor_12 (by decide) (fun c_30390 => ?_) (fun c_30390 => ?_)
    · have c_30390 : x0.toInt = x3.toInt := by rw [ka_eq'] at c_30390; exact c_30390
      refine lv_iconst (v := 0) hx hb dX7_isOpenFor_36 (by decide) ?_
      exact ka_rRz C hr hlk rfl ⟨_, rfl, ⟨by decide, by decide⟩⟩ dX7_isOpenFor_37
    · have c_30390 : ¬ x0.toInt = x3.toInt := by rw [ka_eq'] at c_30390; exact c_30390
      refine lv_aload_n hx hb dX7_isOpenFor_15 rfl (lv_at hl 0 rfl) ?_
      refine ka_get C lq_379 rfl hK hP 0 rfl 6 (by decide) lq_381 rfl dX7_isOpenFor_16 ?_
      refine lv_iload_n hx hb dX7_isOpenFor_19 rfl (lv_at hl 1 rfl) ?_
      refine va_zald hx hb hK hP 1 0 rfl rfl (ka_in (by omega) (by omega)) dX7_isOpenFor_20 ?_
      refine lv_topi (fun v_30391 ev_30391 => ?_)
      refine lv_if_ne (tgt := 36) hx hb dX7_isOpenFor_21 (by decide) (fun c_30392 => ?_) (fun c_30392 => ?_)
      · have c_30392 : ¬ v_30391.toInt = 0 := by rw [ka_eq', show ((0 : Int32)).toInt = 0 from by decide] at c_30392; exact c_30392
        refine lv_iconst (v := 0) hx hb dX7_isOpenFor_36 (by decide) ?_
        exact ka_rRz C hr hlk rfl ⟨_, rfl, ⟨by decide, by decide⟩⟩ dX7_isOpenFor_37
      · have c_30392 : v_30391.toInt = 0 := by rw [ka_eq', show ((0 : Int32)).toInt = 0 from by decide] at c_30392; exact c_30392
        refine lv_aload_n hx hb dX7_isOpenFor_24 rfl (lv_at hl 0 rfl) ?_
        refine lv_iload_n hx hb dX7_isOpenFor_25 rfl (lv_at hl 2 rfl) ?_
        refine ka_RV (n := 1) C (cg_X7_isText_384 l D F a0 x1 a1 x2 a2 a3 a4 a5 a6 a7 a8 x3 x4 x5 x6 x7 x8 x9 a9 a10 a11 a12 a13 a14 x10 x11 x12 x13 x14 x15 ⟨by omega, by omega⟩ ⟨by omega, by omega⟩ ⟨by omega, by omega⟩ ⟨by omega, by omega⟩ ⟨by omega, by omega⟩ ⟨by omega, by omega⟩ ⟨by omega, by omega⟩ ⟨by omega, by omega⟩ ⟨by omega, by omega⟩ ⟨by omega, by omega⟩) gX7_isOpenFor_X7_isText rfl (by decide +kernel) ⟨Nat.le_of_ble_eq_true rfl, Nat.le_of_ble_eq_true rfl⟩ hK hP hS hE hN [0] rfl [] rfl (ci := 7) rfl rfl 0 rfl rfl hl.1 (rest := []) rfl (Nat.le_of_ble_eq_true rfl) dX7_isOpenFor_26 ⟨Nat.le_of_ble_eq_true rfl, Nat.le_of_ble_eq_true rfl⟩ (fun v hv => ?_)
        obtain ⟨v_30393, rfl, hv_30393⟩ := hv
        have rv_30393 := ka_rng v_30393
        refine ka_stk (w := [.int v_30393]) rfl ?_
        refine lv_if_eq (tgt := 36) hx hb dX7_isOpenFor_29 (by decide) (fun c_30394 => ?_) (fun c_30394 => ?_)
        · have c_30394 : v_30393.toInt = 0 := by rw [ka_eq', show ((0 : Int32)).toInt = 0 from by decide] at c_30394; exact c_30394
          refine lv_iconst (v := 0) hx hb dX7_isOpenFor_36 (by decide) ?_
          exact ka_rRz C hr hlk rfl ⟨_, rfl, ⟨by decide, by decide⟩⟩ dX7_isOpenFor_37
        · have c_30394 : ¬ v_30393.toInt = 0 := by rw [ka_eq', show ((0 : Int32)).toInt = 0 from by decide] at c_30394; exact c_30394
          refine lv_iconst (v := 1) hx hb dX7_isOpenFor_32 (by decide) ?_
          refine lv_goto (tgt := 37) hx hb dX7_isOpenFor_33 (by decide) ?_
          exact ka_rRz C hr hlk rfl ⟨_, rfl, ⟨by decide, by decide⟩⟩ dX7_isOpenFor_37
  · skip
    refine lv_iload_n hx hb dX7_isOpenFor_0 rfl (lv_at hl 1 rfl) ?_
    refine ka_RS (n := 1) C (cg_X7_isLesson_227 l D F x0 (by omega)) gX7_isOpenFor_X7_isLesson rfl (by decide +kernel) ⟨Nat.le_of_ble_eq_true rfl, Nat.le_of_ble_eq_true rfl⟩ hK hP hS hE hN [] rfl [] rfl rfl hl.1 (rest := []) rfl (Nat.le_of_ble_eq_true rfl) dX7_isOpenFor_1 ⟨Nat.le_of_ble_eq_true rfl, Nat.le_of_ble_eq_true rfl⟩ (fun v hv => ?_)
    subst hv
    refine ka_stk (w := [.int 0]) rfl ?_
    refine lv_if_eq (tgt := 36) hx hb dX7_isOpenFor_4 (by decide) (fun _ => ?_) (fun c_ => absurd (by decide) c_)
    refine lv_iconst (v := 0) hx hb dX7_isOpenFor_36 (by decide) ?_
    exact ka_rRz C hr hlk rfl ⟨_, rfl, ⟨by decide, by decide⟩⟩ dX7_isOpenFor_37
