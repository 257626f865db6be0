theorem lqn_0 : ∀ w ∈ wsX70, w ∈ wsX7_node := by decide +kernel
theorem lqn_1 : Cond.fieldLink RX7 52 "AskedBackModel" "binds" "[I" ∈ wsX7_node := by decide +kernel
theorem lqn_2 : Cond.fieldLink RX7 78 "AskedBackModel" "nodes" "I" ∈ wsX7_node := by decide +kernel
theorem lqn_3 : Cond.fieldLink RX7 61 "AskedBackModel" "sign" "[I" ∈ wsX7_node := by decide +kernel
theorem lqn_4 : Cond.fieldLink RX7 55 "AskedBackModel" "left" "[I" ∈ wsX7_node := by decide +kernel
theorem lqn_5 : Cond.fieldLink RX7 58 "AskedBackModel" "right" "[I" ∈ wsX7_node := by decide +kernel
set_option maxHeartbeats 4000000 in
set_option maxRecDepth 100000 in
theorem kt_node (l : Launch) (D : va_G) (F : Nat → Prop) (a0 : Nat) (m0 : Nat) (y1 : Int32) (m2 : Nat) (m3 : Nat) (m4 : Nat) (m5 : Nat) (m6 : Nat) (m7 : Nat) (m8 : Nat) (y9 : Int32) (y10 : Int32) (y11 : Int32) (y12 : Int32) (y13 : Int32) (y14 : Int32) (y15 : Int32) (m16 : Nat) (m17 : Nat) (m18 : Nat) (m19 : Nat) (m20 : Nat) (m21 : Nat) (xn : Int32) (y23 : Int32) (y24 : Int32) (y25 : Int32) (y26 : Int32) (y27 : Int32) (k0 k1 k2 k3 : ClassId) (fb fl fr fs : Nat → Int32) (x1 x2 x3 x4 : Int32) (hxn : 0 ≤ xn.toInt ∧ xn.toInt ≤ 59) : ka_E l D F yX7_node wsX7_node 0 0 0 0 [.ref a0, .int x1, .int x2, .int x3, .int x4] [(a0, .inr (7, [.ref m0, .int y1, .ref m2, .ref m3, .ref m4, .ref m5, .ref m6, .ref m7, .ref m8, .int y9, .int y10, .int y11, .int y12, .int y13, .int y14, .int y15, .ref m16, .ref m17, .ref m18, .ref m19, .ref m20, .ref m21, .int xn, .int y23, .int y24, .int y25, .int y26, .int y27])), (m18, .inl (k0, 60, .inl fb)), (m19, .inl (k1, 60, .inl fl)), (m20, .inl (k2, 60, .inl fr)), (m21, .inl (k3, 60, .inl fs))] [(k0, .int), (k1, .int), (k2, .int), (k3, .int)] (fun (u : Int32 × Int32) => some (.int u.2)) (fun u => u.1.toInt = xn.toInt + 1 ∧ u.2.toInt = xn.toInt) (fun u => [(a0, .inr (7, [.ref m0, .int y1, .ref m2, .ref m3, .ref m4, .ref m5, .ref m6, .ref m7, .ref m8, .int y9, .int y10, .int y11, .int y12, .int y13, .int y14, .int y15, .ref m16, .ref m17, .ref m18, .ref m19, .ref m20, .ref m21, .int u.1, .int y23, .int y24, .int y25, .int y26, .int y27])), (m18, .inl (k0, 60, .inl (upd fb (Int32.toNatClampNeg xn) x1))), (m19, .inl (k1, 60, .inl (upd fl (Int32.toNatClampNeg xn) x3))), (m20, .inl (k2, 60, .inl (upd fr (Int32.toNatClampNeg xn) x4))), (m21, .inl (k3, 60, .inl (upd fs (Int32.toNatClampNeg xn) x2)))]) (fun _ => []) := by
  refine ka_E_of (cc := cX7_node) (maxL := 5) (ret := (some .int)) (by decide) rfl (Nat.le_of_ble_eq_true rfl) ?_
  intro p e s m below meth c ls A C hr hlk hin hP hK hD hS hA hE hN hl
  have C : CallFix p m c cX7_node 5 s [.ref a0, .int x1, .int x2, .int x3, .int x4].toArray wsX7_node RX7 := C
  obtain ⟨hx, hb, hml, hown, hts⟩ := id C
  have hl : lv_has ls 5 [(0, .ref a0), (1, .int x1), (2, .int x2), (3, .int x3), (4, .int x4)] := hl
  refine lv_aload_n hx hb dX7_node_0 rfl (lv_at hl 0 rfl) ?_
  refine ka_get C lqn_0 rfl hK hP 0 rfl 18 (by decide) lqn_1 rfl dX7_node_1 ?_
  refine lv_aload_n hx hb dX7_node_4 rfl (lv_at hl 0 rfl) ?_
  refine ka_get C lqn_0 rfl hK hP 0 rfl 22 (by decide) lqn_2 rfl dX7_node_5 ?_
  refine lv_iload_n hx hb dX7_node_8 rfl (lv_at hl 1 rfl) ?_
  refine va_iast hx hb hK hP hD hS 1 0 rfl rfl (ka_in (by omega) (by omega)) dX7_node_9 (fun H locs hP hD hS => ?_)
  have hP : va_P D vwCl [(a0, .inr (7, [.ref m0, .int y1, .ref m2, .ref m3, .ref m4, .ref m5, .ref m6, .ref m7, .ref m8, .int y9, .int y10, .int y11, .int y12, .int y13, .int y14, .int y15, .ref m16, .ref m17, .ref m18, .ref m19, .ref m20, .ref m21, .int xn, .int y23, .int y24, .int y25, .int y26, .int y27])), (m18, .inl (k0, 60, .inl (upd fb (Int32.toNatClampNeg xn) x1))), (m19, .inl (k1, 60, .inl fl)), (m20, .inl (k2, 60, .inl fr)), (m21, .inl (k3, 60, .inl fs))] H := hP
  have hD : va_D A [(a0, .inr (7, [.ref m0, .int y1, .ref m2, .ref m3, .ref m4, .ref m5, .ref m6, .ref m7, .ref m8, .int y9, .int y10, .int y11, .int y12, .int y13, .int y14, .int y15, .ref m16, .ref m17, .ref m18, .ref m19, .ref m20, .ref m21, .int xn, .int y23, .int y24, .int y25, .int y26, .int y27])), (m18, .inl (k0, 60, .inl (upd fb (Int32.toNatClampNeg xn) x1))), (m19, .inl (k1, 60, .inl fl)), (m20, .inl (k2, 60, .inl fr)), (m21, .inl (k3, 60, .inl fs))] := hD
  refine lv_aload_n hx hb dX7_node_10 rfl (lv_at hl 0 rfl) ?_
  refine ka_get C lqn_0 rfl hK hP 0 rfl 21 (by decide) lqn_3 rfl dX7_node_11 ?_
  refine lv_aload_n hx hb dX7_node_14 rfl (lv_at hl 0 rfl) ?_
  refine ka_get C lqn_0 rfl hK hP 0 rfl 22 (by decide) lqn_2 rfl dX7_node_15 ?_
  refine lv_iload_n hx hb dX7_node_18 rfl (lv_at hl 2 rfl) ?_
  refine va_iast hx hb hK hP hD hS 4 3 rfl rfl (ka_in (by omega) (by omega)) dX7_node_19 (fun H locs hP hD hS => ?_)
  have hP : va_P D vwCl [(a0, .inr (7, [.ref m0, .int y1, .ref m2, .ref m3, .ref m4, .ref m5, .ref m6, .ref m7, .ref m8, .int y9, .int y10, .int y11, .int y12, .int y13, .int y14, .int y15, .ref m16, .ref m17, .ref m18, .ref m19, .ref m20, .ref m21, .int xn, .int y23, .int y24, .int y25, .int y26, .int y27])), (m18, .inl (k0, 60, .inl (upd fb (Int32.toNatClampNeg xn) x1))), (m19, .inl (k1, 60, .inl fl)), (m20, .inl (k2, 60, .inl fr)), (m21, .inl (k3, 60, .inl (upd fs (Int32.toNatClampNeg xn) x2)))] H := hP
  have hD : va_D A [(a0, .inr (7, [.ref m0, .int y1, .ref m2, .ref m3, .ref m4, .ref m5, .ref m6, .ref m7, .ref m8, .int y9, .int y10, .int y11, .int y12, .int y13, .int y14, .int y15, .ref m16, .ref m17, .ref m18, .ref m19, .ref m20, .ref m21, .int xn, .int y23, .int y24, .int y25, .int y26, .int y27])), (m18, .inl (k0, 60, .inl (upd fb (Int32.toNatClampNeg xn) x1))), (m19, .inl (k1, 60, .inl fl)), (m20, .inl (k2, 60, .inl fr)), (m21, .inl (k3, 60, .inl (upd fs (Int32.toNatClampNeg xn) x2)))] := hD
  refine lv_aload_n hx hb dX7_node_20 rfl (lv_at hl 0 rfl) ?_
  refine ka_get C lqn_0 rfl hK hP 0 rfl 19 (by decide) lqn_4 rfl dX7_node_21 ?_
  refine lv_aload_n hx hb dX7_node_24 rfl (lv_at hl 0 rfl) ?_
  refine ka_get C lqn_0 rfl hK hP 0 rfl 22 (by decide) lqn_2 rfl dX7_node_25 ?_
  refine lv_iload_n hx hb dX7_node_28 rfl (lv_at hl 3 rfl) ?_
  refine va_iast hx hb hK hP hD hS 2 1 rfl rfl (ka_in (by omega) (by omega)) dX7_node_29 (fun H locs hP hD hS => ?_)
  have hP : va_P D vwCl [(a0, .inr (7, [.ref m0, .int y1, .ref m2, .ref m3, .ref m4, .ref m5, .ref m6, .ref m7, .ref m8, .int y9, .int y10, .int y11, .int y12, .int y13, .int y14, .int y15, .ref m16, .ref m17, .ref m18, .ref m19, .ref m20, .ref m21, .int xn, .int y23, .int y24, .int y25, .int y26, .int y27])), (m18, .inl (k0, 60, .inl (upd fb (Int32.toNatClampNeg xn) x1))), (m19, .inl (k1, 60, .inl (upd fl (Int32.toNatClampNeg xn) x3))), (m20, .inl (k2, 60, .inl fr)), (m21, .inl (k3, 60, .inl (upd fs (Int32.toNatClampNeg xn) x2)))] H := hP
  have hD : va_D A [(a0, .inr (7, [.ref m0, .int y1, .ref m2, .ref m3, .ref m4, .ref m5, .ref m6, .ref m7, .ref m8, .int y9, .int y10, .int y11, .int y12, .int y13, .int y14, .int y15, .ref m16, .ref m17, .ref m18, .ref m19, .ref m20, .ref m21, .int xn, .int y23, .int y24, .int y25, .int y26, .int y27])), (m18, .inl (k0, 60, .inl (upd fb (Int32.toNatClampNeg xn) x1))), (m19, .inl (k1, 60, .inl (upd fl (Int32.toNatClampNeg xn) x3))), (m20, .inl (k2, 60, .inl fr)), (m21, .inl (k3, 60, .inl (upd fs (Int32.toNatClampNeg xn) x2)))] := hD
  refine lv_aload_n hx hb dX7_node_30 rfl (lv_at hl 0 rfl) ?_
  refine ka_get C lqn_0 rfl hK hP 0 rfl 20 (by decide) lqn_5 rfl dX7_node_31 ?_
  refine lv_aload_n hx hb dX7_node_34 rfl (lv_at hl 0 rfl) ?_
  refine ka_get C lqn_0 rfl hK hP 0 rfl 22 (by decide) lqn_2 rfl dX7_node_35 ?_
  refine lv_iload hx hb dX7_node_38 (lv_at hl 4 rfl) ?_
  refine va_iast hx hb hK hP hD hS 3 2 rfl rfl (ka_in (by omega) (by omega)) dX7_node_40 (fun H locs hP hD hS => ?_)
  have hP : va_P D vwCl [(a0, .inr (7, [.ref m0, .int y1, .ref m2, .ref m3, .ref m4, .ref m5, .ref m6, .ref m7, .ref m8, .int y9, .int y10, .int y11, .int y12, .int y13, .int y14, .int y15, .ref m16, .ref m17, .ref m18, .ref m19, .ref m20, .ref m21, .int xn, .int y23, .int y24, .int y25, .int y26, .int y27])), (m18, .inl (k0, 60, .inl (upd fb (Int32.toNatClampNeg xn) x1))), (m19, .inl (k1, 60, .inl (upd fl (Int32.toNatClampNeg xn) x3))), (m20, .inl (k2, 60, .inl (upd fr (Int32.toNatClampNeg xn) x4))), (m21, .inl (k3, 60, .inl (upd fs (Int32.toNatClampNeg xn) x2)))] H := hP
  have hD : va_D A [(a0, .inr (7, [.ref m0, .int y1, .ref m2, .ref m3, .ref m4, .ref m5, .ref m6, .ref m7, .ref m8, .int y9, .int y10, .int y11, .int y12, .int y13, .int y14, .int y15, .ref m16, .ref m17, .ref m18, .ref m19, .ref m20, .ref m21, .int xn, .int y23, .int y24, .int y25, .int y26, .int y27])), (m18, .inl (k0, 60, .inl (upd fb (Int32.toNatClampNeg xn) x1))), (m19, .inl (k1, 60, .inl (upd fl (Int32.toNatClampNeg xn) x3))), (m20, .inl (k2, 60, .inl (upd fr (Int32.toNatClampNeg xn) x4))), (m21, .inl (k3, 60, .inl (upd fs (Int32.toNatClampNeg xn) x2)))] := hD
  refine lv_aload_n hx hb dX7_node_41 rfl (lv_at hl 0 rfl) ?_
  refine lv_dup hx hb dX7_node_42 rfl ?_
  refine ka_get C lqn_0 rfl hK hP 0 rfl 22 (by decide) lqn_2 rfl dX7_node_43 ?_
  refine lv_iconst (v := 1) hx hb dX7_node_46 (by decide) ?_
  refine lv_iadd hx hb dX7_node_47 ?_
  refine lv_topi (fun v_1 ev_1 => ?_)
  have fv_1 : v_1.toInt = xn.toInt + 1 := by rw [ev_1]; exact ka_add (x := xn.toInt) (y := 1) rfl (by decide) (by omega) (by omega)
  refine ka_put C lqn_0 tyX7 tyX7_ok nmX7 rfl hK hP hD hS 0 rfl 22 (by decide) lqn_2 rfl rfl rfl (Nat.le_of_ble_eq_true rfl) dX7_node_48 (fun H locs hP hD hS => ?_)
  have hP : va_P D vwCl [(a0, .inr (7, [.ref m0, .int y1, .ref m2, .ref m3, .ref m4, .ref m5, .ref m6, .ref m7, .ref m8, .int y9, .int y10, .int y11, .int y12, .int y13, .int y14, .int y15, .ref m16, .ref m17, .ref m18, .ref m19, .ref m20, .ref m21, .int v_1, .int y23, .int y24, .int y25, .int y26, .int y27])), (m18, .inl (k0, 60, .inl (upd fb (Int32.toNatClampNeg xn) x1))), (m19, .inl (k1, 60, .inl (upd fl (Int32.toNatClampNeg xn) x3))), (m20, .inl (k2, 60, .inl (upd fr (Int32.toNatClampNeg xn) x4))), (m21, .inl (k3, 60, .inl (upd fs (Int32.toNatClampNeg xn) x2)))] H := hP
  have hD : va_D A [(a0, .inr (7, [.ref m0, .int y1, .ref m2, .ref m3, .ref m4, .ref m5, .ref m6, .ref m7, .ref m8, .int y9, .int y10, .int y11, .int y12, .int y13, .int y14, .int y15, .ref m16, .ref m17, .ref m18, .ref m19, .ref m20, .ref m21, .int v_1, .int y23, .int y24, .int y25, .int y26, .int y27])), (m18, .inl (k0, 60, .inl (upd fb (Int32.toNatClampNeg xn) x1))), (m19, .inl (k1, 60, .inl (upd fl (Int32.toNatClampNeg xn) x3))), (m20, .inl (k2, 60, .inl (upd fr (Int32.toNatClampNeg xn) x4))), (m21, .inl (k3, 60, .inl (upd fs (Int32.toNatClampNeg xn) x2)))] := hD
  refine lv_aload_n hx hb dX7_node_51 rfl (lv_at hl 0 rfl) ?_
  refine ka_get C lqn_0 rfl hK hP 0 rfl 22 (by decide) lqn_2 rfl dX7_node_52 ?_
  refine lv_iconst (v := 1) hx hb dX7_node_55 (by decide) ?_
  refine lv_isub hx hb dX7_node_56 ?_
  refine lv_topi (fun v_2 ev_2 => ?_)
  have fv_2 : v_2.toInt = v_1.toInt - 1 := by rw [ev_2]; exact ka_sub (x := v_1.toInt) (y := 1) rfl (by decide) (by omega) (by omega)
  exact ka_rEi C hr hlk (Nat.le_of_ble_eq_true rfl) (Nat.le_of_ble_eq_true rfl) hS (ka_qE (v_1, v_2) rfl (show v_1.toInt = xn.toInt + 1 ∧ v_2.toInt = xn.toInt from ⟨by omega, by omega⟩) hK hP hD hS [0, 1, 2, 3, 4] (by decide) rfl [] rfl) dX7_node_57
