/-! Arrays.copyOf (bytes, at most 120) and Reader.formula, by hand -/
theorem kc_z : ((0 : Int32)).toInt = 0 := by decide
set_option maxHeartbeats 4000000 in
set_option maxRecDepth 100000 in
theorem kc_copyOf (l : Launch) (D : va_G) (F : Nat → Prop) (a0 : Nat) (k0 : ClassId) (f0 : Nat → Int32) (x0 : Int32) (hx0 : 0 ≤ x0.toInt ∧ x0.toInt ≤ 120) (hf0 : sb_Fit f0) : ka_E l D F yJ7_copyOf_9075b wsJ7_copyOf_9075b 1 60 1 120 [.ref a0, .int x0] [(a0, .inl (k0, 120, .inl f0))] [(k0, .byte)] (fun (u : Nat × ClassId × Nat × (Nat → Int32)) => some (.ref u.1)) (fun u => u.2.2.1 ≤ 120) (fun u => [(a0, .inl (k0, 120, .inl f0)), (u.1, .inl (u.2.1, u.2.2.1, .inl u.2.2.2))]) (fun u => [(u.2.1, .byte)]) := by
  refine ka_E_of (cc := cJ7_copyOf_9075b) (maxL := 3) (ret := some (.array .byte)) (by decide) rfl (Nat.le_of_ble_eq_true rfl) ?_
  intro p e s m below meth c ls A C hr hlk hin hP hK hD hS hA hE hN hl
  have C : CallFix p m c cJ7_copyOf_9075b 3 s [.ref a0, .int x0].toArray wsJ7_copyOf_9075b RJ7 := C
  obtain ⟨hx, hb, hml, hown, hts⟩ := id C
  have hl : lv_has ls 3 [(0, .ref a0), (1, .int x0)] := hl
  refine lv_iload_n hx hb dJ7_copyOf_9075b_0 rfl (lv_at hl 1 rfl) ?_
  refine lv_aload_n hx hb dJ7_copyOf_9075b_1 rfl (lv_at hl 0 rfl) ?_
  refine va_alen hx hb hK hP 0 0 rfl (ty := .byte) rfl (v := 120) rfl dJ7_copyOf_9075b_2 ?_
  refine lv_icmp_ne (tgt := 14) hx hb dJ7_copyOf_9075b_3 (by decide) (fun c1 => ?_) (fun c1 => ?_)
  · refine lv_iload_n hx hb dJ7_copyOf_9075b_14 rfl (lv_at hl 1 rfl) ?_
    obtain ⟨nn, hnn⟩ : ∃ nn : Nat, x0.toNatClampNeg = nn := ⟨_, rfl⟩
    have hn1 : (nn : Int) = x0.toInt := by rw [← hnn]; unfold Int32.toNatClampNeg; omega
    refine va_newa (atype := .byte) hx hb (hts (.arrayClass .byte) (by decide +kernel)) (ty := .byte) rfl hK hP hD hS hA (N' := nn) (a0 := (nn, .inl (fun _ => 0))) (fun _ => rfl) (by rw [ka_lt', kc_z]; omega) hnn (show nn * 1 ≤ 536870912 by omega) (Nat.le_of_ble_eq_true rfl) (show 0 + nn ≤ 120 by omega) dJ7_copyOf_9075b_15 (fun q1 k1 H hK hP hD hS => ?_)
    have hK : va_K D vwCl [(k0, .byte), (k1, .byte)] s := hK
    have hP : va_P D vwCl [(a0, .inl (k0, 120, .inl f0)), (q1, .inl (k1, nn, .inl (fun _ => 0)))] H := hP
    have hD : va_D A [(a0, .inl (k0, 120, .inl f0)), (q1, .inl (k1, nn, .inl (fun _ => 0)))] := hD
    refine lv_astore_n (lv' := [(2, .ref q1), (0, .ref a0), (1, .int x0)]) hx hb dJ7_copyOf_9075b_17 rfl hl (by decide) rfl (fun ls hl => ?_)
    refine lv_aload_n hx hb dJ7_copyOf_9075b_18 rfl (lv_at hl 1 rfl) ?_
    refine lv_iconst (v := 0) hx hb dJ7_copyOf_9075b_19 (by decide) ?_
    refine lv_aload_n hx hb dJ7_copyOf_9075b_20 rfl (lv_at hl 0 rfl) ?_
    refine lv_iconst (v := 0) hx hb dJ7_copyOf_9075b_21 (by decide) ?_
    refine lv_aload_n hx hb dJ7_copyOf_9075b_22 rfl (lv_at hl 1 rfl) ?_
    refine va_alen hx hb hK hP 0 0 rfl (ty := .byte) rfl (v := 120) rfl dJ7_copyOf_9075b_23 ?_
    refine lv_iload_n hx hb dJ7_copyOf_9075b_24 rfl (lv_at hl 2 rfl) ?_
    refine va_mmin hx hb (hml.trans hl.1.symm) hown (hts (.methodLink RJ7 304 Lib.Math.min.name) (by decide +kernel)) (hts (.static Lib.Math.min.name) (by decide +kernel)) (hts (.initialized "java/lang/Math") (by decide +kernel)) (hts (.code Lib.Math.min.name Lib.Math.min.code 2 (some .int)) (by decide +kernel)) (Nat.le_of_ble_eq_true rfl) (Nat.le_of_ble_eq_true rfl) (Nat.le_of_ble_eq_true rfl) (show 0 + nn ≤ 120 by omega) dJ7_copyOf_9075b_25 ?_
    refine lv_topi (fun v3 ev3 => ?_)
    have fv3 := kb_min 120 x0
    rw [← ev3, show ((120 : Int32)).toInt = 120 from by decide] at fv3
    refine va_copyi hx hb (hml.trans hl.1.symm) hown (hts (.methodLink RJ7 150 arraycopyName) (by decide +kernel)) (hts (.native arraycopyName) (by decide +kernel)) (hts (.static arraycopyName) (by decide +kernel)) (hts (.initialized "java/lang/System") (by decide +kernel)) hK hP hD hS 0 1 0 1 rfl rfl rfl rfl rfl (by decide) (by decide) (by rw [ka_lt', kc_z]; omega) (kb_cpb (by rw [kc_z]; omega) (by rw [kc_z]; omega)) (kb_cpb (by rw [kc_z]; omega) (by rw [kc_z]; omega)) (fun i _ => hf0 _) (Nat.le_of_ble_eq_true rfl) (Nat.le_of_ble_eq_true (by decide +kernel)) dJ7_copyOf_9075b_28 (fun H locs hP hD hS => ?_)
    have hP : va_P D vwCl [(a0, .inl (k0, 120, .inl f0)), (q1, .inl (k1, nn, .inl (va_cpy f0 (fun _ => 0) (Int32.toNatClampNeg 0) (Int32.toNatClampNeg 0) (Int32.toNatClampNeg v3))))] H := hP
    have hD : va_D A [(a0, .inl (k0, 120, .inl f0)), (q1, .inl (k1, nn, .inl (va_cpy f0 (fun _ => 0) (Int32.toNatClampNeg 0) (Int32.toNatClampNeg 0) (Int32.toNatClampNeg v3))))] := hD
    generalize (va_cpy f0 (fun _ => 0) (Int32.toNatClampNeg 0) (Int32.toNatClampNeg 0) (Int32.toNatClampNeg v3)) = g at hP hD
    refine lv_aload_n hx hb dJ7_copyOf_9075b_31 rfl (lv_at hl 0 rfl) ?_
    exact ka_rEa C hr hlk (Or.inr ⟨_, rfl⟩) (Or.inr ⟨_, rfl⟩) (Nat.le_of_ble_eq_true rfl) (show 0 + nn ≤ 120 by omega) hS (ka_qE (q1, k1, nn, g) rfl (show nn ≤ 120 by omega) hK hP hD hS [0, 1] (by decide) rfl [1] rfl) dJ7_copyOf_9075b_32
  · refine lv_aload_n hx hb dJ7_copyOf_9075b_6 rfl (lv_at hl 0 rfl) ?_
    have hnm : s.vm.findClass "[B" = some k0 := va_nm_byte (hK.2 0 (k0, .byte) rfl).2
    have hfit : ∀ (i : Nat) (v : Value), (vp_cell k0 (120, .inl f0)).slots[i]? = some v → fits .byte v = true := fun i v hv => va_fit (cA := k0) (n := 120) (F := fun j => .int (f0 j)) (ty := .byte) (fun i _ => hf0 i) i v hv
    refine va_clone (x := (120, .inl f0)) (cA := k0) (ty := .byte) hx hb (hml.trans hl.1.symm) hown (hts (.methodLink RJ7 310 ⟨"[B", "clone", "()Ljava/lang/Object;"⟩) (by decide +kernel)) (hts (.sameMethod "[B" "java/lang/Object" "clone" "()Ljava/lang/Object;") (by decide +kernel)) (hts (.native ⟨"java/lang/Object", "clone", "()Ljava/lang/Object;"⟩) (by decide +kernel)) (hts (.instanceMethod ⟨"java/lang/Object", "clone", "()Ljava/lang/Object;"⟩) (by decide +kernel)) (hts (.selects "[B" ⟨"[B", "clone", "()Ljava/lang/Object;"⟩ ⟨"java/lang/Object", "clone", "()Ljava/lang/Object;"⟩) (by decide +kernel)) hN.2.2.2.2.2.2.2.2.2 hK hP hD hS hA 0 0 rfl rfl hnm hfit (Nat.le_of_ble_eq_true rfl) (Nat.le_of_ble_eq_true rfl) (Nat.le_of_ble_eq_true rfl) (Nat.le_of_ble_eq_true rfl) dJ7_copyOf_9075b_7 (fun q1 H hK hP hD hS => ?_)
    have hK : va_K D vwCl [(k0, .byte), (k0, .byte)] s := hK
    have hP : va_P D vwCl [(a0, .inl (k0, 120, .inl f0)), (q1, .inl (k0, 120, .inl f0))] H := hP
    have hD : va_D A [(a0, .inl (k0, 120, .inl f0)), (q1, .inl (k0, 120, .inl f0))] := hD
    refine va_castA hx hb hown (hts (.classLink RJ7 311 "[B") (by decide +kernel)) hP 1 rfl hnm dJ7_copyOf_9075b_10 ?_
    exact ka_rEa C hr hlk (Or.inr ⟨_, rfl⟩) (Or.inr ⟨_, rfl⟩) (Nat.le_of_ble_eq_true rfl) (Nat.le_of_ble_eq_true rfl) hS (ka_qE (q1, k0, 120, f0) rfl (Nat.le_refl 120) hK hP hD hS [0, 1] (by decide) rfl [1] rfl) dJ7_copyOf_9075b_13
