/-! Formula's constructor and Reader.formula -/
theorem kc_in1 : ∀ w ∈ wsX10, w ∈ wsX1_init := by decide +kernel
theorem kc_in2 : ∀ w ∈ wsX10, w ∈ wsX3_formula := by decide +kernel
theorem kc_in3 : ∀ w ∈ wsX30, w ∈ wsX3_formula := by decide +kernel
set_option maxHeartbeats 4000000 in
set_option maxRecDepth 100000 in
theorem kc_Formula (l : Launch) (D : va_G) (F : Nat → Prop) (a0 t0 : Nat) (x0 : Int32) : ka_E l D F yX1_init wsX1_init 1 20 0 0 [.ref a0, .int x0, .ref t0] [(a0, .inr (1, [.int 0, .null]))] [] (fun (_ : Unit) => none) (fun _ => True) (fun _ => [(a0, .inr (1, [.int x0, .ref t0]))]) (fun _ => []) := by
  refine ka_E_of (cc := cX1_init) (maxL := 3) (ret := none) (by decide) rfl (Nat.le_of_ble_eq_true rfl) ?_
  intro p e s m below meth c ls A C hr hlk hin hP hK hD hS hA hE hN hl
  have C : CallFix p m c cX1_init 3 s [.ref a0, .int x0, .ref t0].toArray wsX1_init RX1 := C
  obtain ⟨hx, hb, hml, hown, hts⟩ := id C
  have hl : lv_has ls 3 [(0, .ref a0), (1, .int x0), (2, .ref t0)] := hl
  refine lv_aload_n hx hb dX1_init_0 rfl (lv_at hl 0 rfl) ?_
  refine W.objInit hx hb hown (hts (.methodLink RX1 3 objectInit) (by decide +kernel)) (hts (.instanceMethod objectInit) (by decide +kernel)) (hts (.code objectInit ⟨#[0xb1]⟩ 1 none) (by decide +kernel)) rfl (by rw [hml]; exact hl.1) rfl dX1_init_1 (Nat.le_of_ble_eq_true rfl) (Nat.le_of_ble_eq_true rfl) ?_
  refine W.eq (g2 := F0 m 4 ls []) rfl ?_
  refine lv_aload_n hx hb dX1_init_4 rfl (lv_at hl 0 rfl) ?_
  refine lv_iload_n hx hb dX1_init_5 rfl (lv_at hl 1 rfl) ?_
  refine ka_putF C kc_in1 tyX1 tyX1_ok nmX1 rfl hK hP hD hS 0 rfl 0 (by decide) (show Cond.fieldLink RX1 9 "AskedBack$Formula" "truth" "I" ∈ wsX1_init by decide +kernel) rfl hin rfl rfl rfl (Nat.le_of_ble_eq_true rfl) dX1_init_6 (fun H locs hP hD hS => ?_)
  have hP : va_P D vwCl [(a0, .inr (1, [.int x0, .null]))] H := hP
  have hD : va_D A [(a0, .inr (1, [.int x0, .null]))] := hD
  refine lv_aload_n hx hb dX1_init_9 rfl (lv_at hl 0 rfl) ?_
  refine lv_aload_n hx hb dX1_init_10 rfl (lv_at hl 2 rfl) ?_
  refine ka_putF C kc_in1 tyX1 tyX1_ok nmX1 rfl hK hP hD hS 0 rfl 1 (by decide) (show Cond.fieldLink RX1 15 "AskedBack$Formula" "text" "[B" ∈ wsX1_init by decide +kernel) rfl hin rfl rfl rfl (Nat.le_of_ble_eq_true rfl) dX1_init_11 (fun H locs hP hD hS => ?_)
  have hP : va_P D vwCl [(a0, .inr (1, [.int x0, .ref t0]))] H := hP
  have hD : va_D A [(a0, .inr (1, [.int x0, .ref t0]))] := hD
  exact ka_rEv C hr hlk (Nat.le_of_ble_eq_true rfl) (Nat.le_of_ble_eq_true rfl) hS (ka_qE () rfl trivial hK hP hD hS [0] (by decide) rfl [] rfl) dX1_init_14
set_option maxHeartbeats 4000000 in
set_option maxRecDepth 100000 in
theorem kc_formula (l : Launch) (D : va_G) (F : Nat → Prop) (a0 a1 a2 : Nat) (x0 x1 x2 x3 x4 x5 : Int32) (k0 : ClassId) (f0 : Nat → Int32) (hx0 : 0 ≤ x0.toInt ∧ x0.toInt ≤ 120) (hf0 : sb_Fit f0) : ka_E l D F yX3_formula wsX3_formula 2 90 2 122 [.ref a0] [(a0, .inr (3, [.ref a1, .ref a2, .int x0, .int x1, .int x2, .int x3, .int x4, .int x5])), (a2, .inl (k0, 120, .inl f0))] [(k0, .byte)] (fun (u : Nat × Nat × ClassId × Nat × (Nat → Int32)) => some (.ref u.1)) (fun u => u.2.2.2.1 ≤ 120) (fun u => [(a0, .inr (3, [.ref a1, .ref a2, .int x0, .int x1, .int x2, .int x3, .int x4, .int x5])), (a2, .inl (k0, 120, .inl f0)), (u.1, .inr (1, [.int x5, .ref u.2.1])), (u.2.1, .inl (u.2.2.1, u.2.2.2.1, .inl u.2.2.2.2))]) (fun u => [(u.2.2.1, .byte)]) := by
  refine ka_E_of (cc := cX3_formula) (maxL := 1) (ret := some (.object "AskedBack$Formula")) (by decide) rfl (Nat.le_of_ble_eq_true rfl) ?_
  intro p e s m below meth c ls A C hr hlk hin hP hK hD hS hA hE hN hl
  have C : CallFix p m c cX3_formula 1 s [.ref a0].toArray wsX3_formula RX3 := C
  obtain ⟨hx, hb, hml, hown, hts⟩ := id C
  have hl : lv_has ls 1 [(0, .ref a0)] := hl
  have rx0 := ka_rng x0
  refine va_new (ci := 1) (fs := [.int 0, .null]) (C := RX1) (T := TX1) (N := 2) hx hb hts kc_in2 tyX1 tyX1_ok hown (hts (.classLink RX3 51 RX1) (by decide +kernel)) (hts (.instantiable RX1 2) (by decide +kernel)) (hts (.initialized RX1) (by decide +kernel)) hK hP hD hS hA rfl (fun j hj => by rcases (show j = 0 ∨ j = 1 by omega) with rfl | rfl <;> rfl) (Nat.le_of_ble_eq_true rfl) (Nat.le_of_ble_eq_true rfl) dX3_formula_0 (fun q H hP hD hS => ?_)
  have hP : va_P D vwCl [(a0, .inr (3, [.ref a1, .ref a2, .int x0, .int x1, .int x2, .int x3, .int x4, .int x5])), (a2, .inl (k0, 120, .inl f0)), (q, .inr (1, [.int 0, .null]))] H := hP
  have hD : va_D A [(a0, .inr (3, [.ref a1, .ref a2, .int x0, .int x1, .int x2, .int x3, .int x4, .int x5])), (a2, .inl (k0, 120, .inl f0)), (q, .inr (1, [.int 0, .null]))] := hD
  refine lv_dup hx hb dX3_formula_3 rfl ?_
  refine lv_aload_n hx hb dX3_formula_4 rfl (lv_at hl 0 rfl) ?_
  refine ka_get C kc_in3 rfl hK hP 0 rfl 7 (by decide) (show Cond.fieldLink RX3 31 "AskedBack$Reader" "truth" "I" ∈ wsX3_formula by decide +kernel) rfl dX3_formula_5 ?_
  refine lv_aload_n hx hb dX3_formula_8 rfl (lv_at hl 0 rfl) ?_
  refine ka_get C kc_in3 rfl hK hP 0 rfl 1 (by decide) (show Cond.fieldLink RX3 9 "AskedBack$Reader" "out" "[B" ∈ wsX3_formula by decide +kernel) rfl dX3_formula_9 ?_
  refine lv_iconst (v := 0) hx hb dX3_formula_12 (by decide) ?_
  refine lv_aload_n hx hb dX3_formula_13 rfl (lv_at hl 0 rfl) ?_
  refine ka_get C kc_in3 rfl hK hP 0 rfl 2 (by decide) (show Cond.fieldLink RX3 15 "AskedBack$Reader" "outLength" "I" ∈ wsX3_formula by decide +kernel) rfl dX3_formula_14 ?_
  refine va_mmax hx hb (hml.trans hl.1.symm) hown (hts (.methodLink RX3 53 Lib.Math.max.name) (by decide +kernel)) (hts (.static Lib.Math.max.name) (by decide +kernel)) (hts (.initialized "java/lang/Math") (by decide +kernel)) (hts (.code Lib.Math.max.name Lib.Math.max.code 2 (some .int)) (by decide +kernel)) (Nat.le_of_ble_eq_true rfl) (Nat.le_of_ble_eq_true rfl) (Nat.le_of_ble_eq_true rfl) (Nat.le_of_ble_eq_true rfl) dX3_formula_17 ?_
  refine lv_topi (fun v1 ev1 => ?_)
  have fv1 := kb_max 0 x0
  rw [← ev1, kc_z] at fv1
  refine kb_ES (n := 2) (wr := [(a0, .inr (3, [.ref a1, .ref a2, .int x0, .int x1, .int x2, .int x3, .int x4, .int x5])), (q, .inr (1, [.int 0, .null]))]) C (kc_copyOf l D F a2 k0 f0 v1 ⟨by omega, by omega⟩ hf0) gX3_formula_J7_copyOf_9075b rfl (by decide +kernel) ⟨Nat.le_of_ble_eq_true rfl, Nat.le_of_ble_eq_true rfl⟩ hK hP hD hS hA hE hN [1] rfl (by decide) [0, 2] rfl (by decide) (by decide) [0] rfl rfl hl.1 (rest := [.int x5, .ref q, .ref q]) rfl (Nat.le_of_ble_eq_true rfl) dX3_formula_20 ⟨Nat.le_of_ble_eq_true rfl, Nat.le_of_ble_eq_true rfl⟩ (fun u H locs hq hP hD hK hS => ?_)
  obtain ⟨t, k1, n1, f1⟩ := u
  have hq : n1 ≤ 120 := hq
  have hP : va_P D vwCl [(a0, .inr (3, [.ref a1, .ref a2, .int x0, .int x1, .int x2, .int x3, .int x4, .int x5])), (q, .inr (1, [.int 0, .null])), (a2, .inl (k0, 120, .inl f0)), (t, .inl (k1, n1, .inl f1))] H := hP
  have hD : va_D A [(a0, .inr (3, [.ref a1, .ref a2, .int x0, .int x1, .int x2, .int x3, .int x4, .int x5])), (q, .inr (1, [.int 0, .null])), (a2, .inl (k0, 120, .inl f0)), (t, .inl (k1, n1, .inl f1))] := hD
  have hK : va_K D vwCl [(k0, .byte), (k1, .byte)] s := hK
  refine ka_stk (w := [.ref t, .int x5, .ref q, .ref q]) rfl ?_
  refine ka_EI (n := 2) (wr := [(a0, .inr (3, [.ref a1, .ref a2, .int x0, .int x1, .int x2, .int x3, .int x4, .int x5])), (a2, .inl (k0, 120, .inl f0)), (t, .inl (k1, n1, .inl f1))]) C (kc_Formula l D F q t x5) gX3_formula_X1_init rfl (show Cond.initialized RX1 ∈ wsX3_formula by decide +kernel) (show Cond.methodLink RX3 64 yX1_init ∈ wsX3_formula by decide +kernel) (show Cond.instanceMethod yX1_init ∈ wsX3_formula by decide +kernel) rfl (by decide +kernel) ⟨Nat.le_of_ble_eq_true rfl, Nat.le_of_ble_eq_true rfl⟩ hK hP hD hS hA hE hN [1] rfl (by decide) [0, 2, 3] rfl (by decide) (by decide) [] rfl rfl hl.1 (rest := [.ref q]) rfl (Nat.le_of_ble_eq_true rfl) dX3_formula_23 ⟨Nat.le_of_ble_eq_true rfl, Nat.le_of_ble_eq_true rfl⟩ (fun u H locs _ hP hD hK hS => ?_)
  have hP : va_P D vwCl [(a0, .inr (3, [.ref a1, .ref a2, .int x0, .int x1, .int x2, .int x3, .int x4, .int x5])), (a2, .inl (k0, 120, .inl f0)), (t, .inl (k1, n1, .inl f1)), (q, .inr (1, [.int x5, .ref t]))] H := hP
  have hD : va_D A [(a0, .inr (3, [.ref a1, .ref a2, .int x0, .int x1, .int x2, .int x3, .int x4, .int x5])), (a2, .inl (k0, 120, .inl f0)), (t, .inl (k1, n1, .inl f1)), (q, .inr (1, [.int x5, .ref t]))] := hD
  have hK : va_K D vwCl [(k0, .byte), (k1, .byte)] s := hK
  refine ka_stk (w := [.ref q]) rfl ?_
  exact ka_rEa C hr hlk (Or.inl ⟨_, rfl⟩) (Or.inr ⟨_, rfl⟩) (Nat.le_of_ble_eq_true rfl) (Nat.le_of_ble_eq_true rfl) hS (ka_qE (q, t, k1, n1, f1) rfl hq hK hP hD hS [0, 1, 3, 2] (by decide) rfl [1] rfl) dX3_formula_26
