/-! what the law's entry gives, and bitAt -/
theorem ka_and31 (x : Int32) : 0 ≤ (x &&& 31).toInt ∧ (x &&& 31).toInt ≤ 31 := by
  obtain ⟨j, hj, e⟩ := pk_andE x (m := 31) 5 (by decide)
  rw [e, nI_toInt (by omega)]
  omega
def ka_bit (x y : Int32) : Int32 := (x.toUInt32 >>> (y.toUInt32 &&& Int32.toUInt32 31)).toInt32 &&& 1
theorem ka_bit_in (x y : Int32) : 0 ≤ (ka_bit x y).toInt ∧ (ka_bit x y).toInt ≤ 1 := by
  obtain ⟨j, hj, e⟩ := pk_andE ((x.toUInt32 >>> (y.toUInt32 &&& Int32.toUInt32 31)).toInt32) (m := 1) 1 (by decide)
  unfold ka_bit
  rw [e, nI_toInt (by omega)]
  omega
theorem ka_bit_0 (y : Int32) : ka_bit 0 y = 0 := by
  unfold ka_bit
  have h : ((0 : Int32).toUInt32 >>> (y.toUInt32 &&& Int32.toUInt32 31)) = 0 := by
    show (0 : UInt32) >>> _ = 0
    exact UInt32.zero_shiftRight
  rw [h]
  decide
set_option maxHeartbeats 4000000 in
set_option maxRecDepth 100000 in
theorem ka_c_bitAt (l : Launch) (D : va_G) (F : Nat → Prop) (x y : Int32) : ka_R l D F yX6_bitAt wsX6_bitAt 0 0 [.int x, .int y] [] [] (fun v => v = some (.int (ka_bit x y))) := by
  refine ka_R_of (cc := cX6_bitAt) (maxL := 2) (ret := (some .int)) (by decide) rfl (Nat.le_of_ble_eq_true rfl) ?_
  intro p e s m below meth c ls C hr hlk hP hK hE hN hl
  have C : CallFix p m c cX6_bitAt 2 s [.int x, .int y].toArray wsX6_bitAt RX6 := C
  obtain ⟨hx, hb, hml, hown, hts⟩ := id C
  have hl : lv_has ls 2 [(0, .int x), (1, .int y)] := hl
  refine lv_iload_n hx hb dX6_bitAt_0 rfl (lv_at hl 0 rfl) ?_
  refine lv_iload_n hx hb dX6_bitAt_1 rfl (lv_at hl 1 rfl) ?_
  refine lv_iushr hx hb dX6_bitAt_2 rfl ?_
  refine lv_iconst (v := 1) hx hb dX6_bitAt_3 (by decide) ?_
  refine lv_iand hx hb dX6_bitAt_4 ?_
  exact ka_rRi C hr hlk rfl dX6_bitAt_5
theorem ka_SE_start {args : Array Value} {s : State} {D : va_G} {A : Nat → Prop} (hts : ∀ w ∈ lw_tbl, w.before args s = true) (hgv : (Jvm.Cond.and given_1 narrow_1).before args s = true) (hA : ∀ a : Nat, a < s.heap.size → ¬ A a) : ka_SE D (fun _ => False) A s s.heap := by
  have hs := flat_of_before _ hgv
  obtain ⟨t1, e1, T1⟩ := va_Tof (tm := .static "AskedBack$Reader" "SIGNS" "[C") (ty := .char) (N := 3) (f := ka_sg) (by decide) (hs (.arrayOf (.static "AskedBack$Reader" "SIGNS" "[C") .char) (by decide +kernel)) (va_eqt (z := 3) (hs (.eq (.length (.static "AskedBack$Reader" "SIGNS" "[C")) (.int 3)) (by decide +kernel))) (fun j hj => by
    rcases (show j = 0 ∨ j = 1 ∨ j = 2 by omega) with rfl | rfl | rfl
    · exact va_eqt (z := 124) (hs (.eq (.elem (.static "AskedBack$Reader" "SIGNS" "[C") (.int 0)) (.int 124)) (by decide +kernel))
    · exact va_eqt (z := 94) (hs (.eq (.elem (.static "AskedBack$Reader" "SIGNS" "[C") (.int 1)) (.int 94)) (by decide +kernel))
    · exact va_eqt (z := 38) (hs (.eq (.elem (.static "AskedBack$Reader" "SIGNS" "[C") (.int 2)) (.int 38)) (by decide +kernel))) hA
  obtain ⟨t2, e2, T2⟩ := va_Tof (tm := .static "AskedBack$Reader" "LETTER_TRUTHS" "[I") (ty := .int) (N := 5) (f := ka_lt) (by decide) (hs (.arrayOf (.static "AskedBack$Reader" "LETTER_TRUTHS" "[I") .int) (by decide +kernel)) (va_eqt (z := 5) (hs (.eq (.length (.static "AskedBack$Reader" "LETTER_TRUTHS" "[I")) (.int 5)) (by decide +kernel))) (fun j hj => by
    rcases (show j = 0 ∨ j = 1 ∨ j = 2 ∨ j = 3 ∨ j = 4 by omega) with rfl | rfl | rfl | rfl | rfl
    · exact va_eqt (z := (-1431655766)) (hs (.eq (.elem (.static "AskedBack$Reader" "LETTER_TRUTHS" "[I") (.int 0)) (.int (-1431655766))) (by decide +kernel))
    · exact va_eqt (z := (-858993460)) (hs (.eq (.elem (.static "AskedBack$Reader" "LETTER_TRUTHS" "[I") (.int 1)) (.int (-858993460))) (by decide +kernel))
    · exact va_eqt (z := (-252645136)) (hs (.eq (.elem (.static "AskedBack$Reader" "LETTER_TRUTHS" "[I") (.int 2)) (.int (-252645136))) (by decide +kernel))
    · exact va_eqt (z := (-16711936)) (hs (.eq (.elem (.static "AskedBack$Reader" "LETTER_TRUTHS" "[I") (.int 3)) (.int (-16711936))) (by decide +kernel))
    · exact va_eqt (z := (-65536)) (hs (.eq (.elem (.static "AskedBack$Reader" "LETTER_TRUTHS" "[I") (.int 4)) (.int (-65536))) (by decide +kernel))) hA
  refine ⟨⟨t1, t2, va_Zof (hts (.laysStatic RX3 "SIGNS" "[C") (by decide +kernel)) (hts (.initialized RX3) (by decide +kernel)) e1 hA, T1, va_Zof (hts (.laysStatic RX3 "LETTER_TRUTHS" "[I") (by decide +kernel)) (hts (.initialized RX3) (by decide +kernel)) e2 hA, T2⟩, fun _ h => h.elim⟩
theorem ka_NW_start {args : Array Value} {s : State} (hts : ∀ w ∈ lw_tbl, w.before args s = true) : ka_NW s :=
  ⟨va_Nw.of rfl (hts (.methodLinkNest RX6 9 yX5_init RX6) (by decide +kernel)), va_Nw.of rfl (hts (.methodLinkNest RX0 25 yX2_init RX6) (by decide +kernel)), va_Nw.of rfl (hts (.methodLinkNest RX6 34 yX4_init RX6) (by decide +kernel)), va_Nw.of rfl (hts (.methodLinkNest RX0 30 yX6_bitAt RX6) (by decide +kernel)), va_Nw.of rfl (hts (.methodLinkNest RX2 32 yX6_bitAt RX6) (by decide +kernel)), va_Nw.of rfl (hts (.methodLinkNest RX4 46 yX6_isCase RX6) (by decide +kernel)), va_Nw.of rfl (hts (.methodLinkNest RX4 50 yX6_bitAt RX6) (by decide +kernel)), va_AO.of (A := args) (hts (.arrayOver (.object RX1)) (by decide +kernel)), va_AO.of (A := args) (hts (.arrayOver (.object RX2)) (by decide +kernel)), va_Nw.of rfl (hts (.castable "[B" "java/lang/Cloneable") (by decide +kernel))⟩
