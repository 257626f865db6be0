set_option maxHeartbeats 4000000 in
set_option maxRecDepth 100000 in
theorem cg_X6_set_281 (l : Launch) (D : va_G) (F : Nat → Prop) (a0 : Nat) (x0 : Int32) (x1 : Int32) (hx0 : x0.toInt ≤ -1) (hx1 : x1.toInt ≤ -1) : ka_R l D F yX6_set wsX6_set 0 0 [.ref a0, .int x0, .int x1] [] [] (fun v => v = some (.int 0)) := by
  refine ka_R_of (cc := cX6_set) (maxL := 3) (ret := (some .boolean)) (by decide) rfl (Nat.le_of_ble_eq_true rfl) ?_
  intro p e s m below meth c ls C hr hlk hP hK hE hN hl
  have hS : va_S (fun _ => False) s.heap s.heap [] := va_S.rf
  have C : CallFix p m c cX6_set 3 s [.ref a0, .int x0, .int x1].toArray wsX6_set RX6 := C
  obtain ⟨hx, hb, hml, hown, hts⟩ := id C
  have hl : lv_has ls 3 [(0, .ref a0), (1, .int x0), (2, .int x1)] := hl
  have rx0 := ka_rng x0
  have rx1 := ka_rng x1
  refine lv_iload_n hx hb dX6_set_0 rfl (lv_at hl 1 rfl) ?_
  refine lv_tableOut (tgt := 89) hx hb dX6_set_1 (by omega) (by decide) ?_
  refine lv_iconst (v := 0) hx hb dX6_set_89 (by decide) ?_
  exact ka_rRz C hr hlk rfl rfl dX6_set_90
set_option maxHeartbeats 4000000 in
set_option maxRecDepth 100000 in
theorem cg_X7_isIn_282 (l : Launch) (D : va_G) (F : Nat → Prop) (x0 : Int32) (hx0 : x0.toInt ≤ -1) : ka_R l D F yX7_isIn wsX7_isIn 0 0 [.int x0, .int 0, .int 2] [] [] (fun v => v = some (.int 0)) := by
  refine ka_R_of (cc := cX7_isIn) (maxL := 3) (ret := (some .boolean)) (by decide) rfl (Nat.le_of_ble_eq_true rfl) ?_
  intro p e s m below meth c ls C hr hlk hP hK hE hN hl
  have hS : va_S (fun _ => False) s.heap s.heap [] := va_S.rf
  have C : CallFix p m c cX7_isIn 3 s [.int x0, .int 0, .int 2].toArray wsX7_isIn RX7 := C
  obtain ⟨hx, hb, hml, hown, hts⟩ := id C
  have hl : lv_has ls 3 [(0, .int x0), (1, .int 0), (2, .int 2)] := hl
  have rx0 := ka_rng x0
  refine lv_iload_n hx hb dX7_isIn_0 rfl (lv_at hl 0 rfl) ?_
  refine lv_iload_n hx hb dX7_isIn_1 rfl (lv_at hl 1 rfl) ?_
  refine lv_icmp_lt (tgt := 14) hx hb dX7_isIn_2 (by decide) (fun _ => ?_) (fun c_ => absurd (by rw [ka_lt', show ((0 : Int32)).toInt = 0 from by decide]; omega) c_)
  refine lv_iconst (v := 0) hx hb dX7_isIn_14 (by decide) ?_
  exact ka_rRz C hr hlk rfl rfl dX7_isIn_15
set_option maxHeartbeats 4000000 in
set_option maxRecDepth 100000 in
theorem cg_X7_isIn_284 (l : Launch) (D : va_G) (F : Nat → Prop) (x0 : Int32) (hx0 : x0.toInt ≤ -1) : ka_R l D F yX7_isIn wsX7_isIn 0 0 [.int x0, .int 0, .int 2] [] [] (fun v => v = some (.int 0)) := by
  refine ka_R_of (cc := cX7_isIn) (maxL := 3) (ret := (some .boolean)) (by decide) rfl (Nat.le_of_ble_eq_true rfl) ?_
  intro p e s m below meth c ls C hr hlk hP hK hE hN hl
  have hS : va_S (fun _ => False) s.heap s.heap [] := va_S.rf
  have C : CallFix p m c cX7_isIn 3 s [.int x0, .int 0, .int 2].toArray wsX7_isIn RX7 := C
  obtain ⟨hx, hb, hml, hown, hts⟩ := id C
  have hl : lv_has ls 3 [(0, .int x0), (1, .int 0), (2, .int 2)] := hl
  have rx0 := ka_rng x0
  refine lv_iload_n hx hb dX7_isIn_0 rfl (lv_at hl 0 rfl) ?_
  refine lv_iload_n hx hb dX7_isIn_1 rfl (lv_at hl 1 rfl) ?_
  refine lv_icmp_lt (tgt := 14) hx hb dX7_isIn_2 (by decide) (fun _ => ?_) (fun c_ => absurd (by rw [ka_lt', show ((0 : Int32)).toInt = 0 from by decide]; omega) c_)
  refine lv_iconst (v := 0) hx hb dX7_isIn_14 (by decide) ?_
  exact ka_rRz C hr hlk rfl rfl dX7_isIn_15
set_option maxHeartbeats 4000000 in
set_option maxRecDepth 100000 in
theorem cg_X7_set_283 (l : Launch) (D : va_G) (F : Nat → Prop) (a0 : Nat) (x0 : Int32) (x1 : Int32) (hx0 : x0.toInt ≤ -1) (hx1 : x1.toInt ≤ -1) : ka_R l D F yX7_set wsX7_set 1 22 [.ref a0, .int x0, .int x1] [] [] (fun v => v = some (.int 0)) := by
  refine ka_R_of (cc := cX7_set) (maxL := 3) (ret := (some .boolean)) (by decide) rfl (Nat.le_of_ble_eq_true rfl) ?_
  intro p e s m below meth c ls C hr hlk hP hK hE hN hl
  have hS : va_S (fun _ => False) s.heap s.heap [] := va_S.rf
  have C : CallFix p m c cX7_set 3 s [.ref a0, .int x0, .int x1].toArray wsX7_set RX7 := C
  obtain ⟨hx, hb, hml, hown, hts⟩ := id C
  have hl : lv_has ls 3 [(0, .ref a0), (1, .int x0), (2, .int x1)] := hl
  have rx0 := ka_rng x0
  have rx1 := ka_rng x1
  refine lv_iload_n hx hb dX7_set_0 rfl (lv_at hl 1 rfl) ?_
  refine lv_iconst (v := 0) hx hb dX7_set_1 (by decide) ?_
  refine lv_iconst (v := 2) hx hb dX7_set_2 (by decide) ?_
  refine ka_RS (n := 3) C (cg_X7_isIn_284 l D F x0 (by omega)) gX7_set_X7_isIn rfl (by decide +kernel) ⟨Nat.le_of_ble_eq_true rfl, Nat.le_of_ble_eq_true rfl⟩ hK hP hS hE hN [] rfl [] rfl rfl hl.1 (rest := []) rfl (Nat.le_of_ble_eq_true rfl) dX7_set_3 ⟨Nat.le_of_ble_eq_true rfl, Nat.le_of_ble_eq_true rfl⟩ (fun v hv => ?_)
  subst hv
  refine ka_stk (w := [.int 0]) rfl ?_
  refine lv_if_eq (tgt := 44) hx hb dX7_set_6 (by decide) (fun _ => ?_) (fun c_ => absurd (by decide) c_)
  refine lv_iconst (v := 0) hx hb dX7_set_44 (by decide) ?_
  exact ka_rRz C hr hlk rfl rfl dX7_set_45
set_option maxHeartbeats 4000000 in
set_option maxRecDepth 100000 in
theorem cg_X6_set_285 (l : Launch) (D : va_G) (F : Nat → Prop) (a0 : Nat) (x0 : Int32) (hx0 : x0.toInt ≤ -1) : ka_R l D F yX6_set wsX6_set 0 0 [.ref a0, .int x0, .int 0] [] [] (fun v => v = some (.int 0)) := by
  refine ka_R_of (cc := cX6_set) (maxL := 3) (ret := (some .boolean)) (by decide) rfl (Nat.le_of_ble_eq_true rfl) ?_
  intro p e s m below meth c ls C hr hlk hP hK hE hN hl
  have hS : va_S (fun _ => False) s.heap s.heap [] := va_S.rf
  have C : CallFix p m c cX6_set 3 s [.ref a0, .int x0, .int 0].toArray wsX6_set RX6 := C
  obtain ⟨hx, hb, hml, hown, hts⟩ := id C
  have hl : lv_has ls 3 [(0, .ref a0), (1, .int x0), (2, .int 0)] := hl
  have rx0 := ka_rng x0
  refine lv_iload_n hx hb dX6_set_0 rfl (lv_at hl 1 rfl) ?_
  refine lv_tableOut (tgt := 89) hx hb dX6_set_1 (by omega) (by decide) ?_
  refine lv_iconst (v := 0) hx hb dX6_set_89 (by decide) ?_
  exact ka_rRz C hr hlk rfl rfl dX6_set_90
set_option maxHeartbeats 4000000 in
set_option maxRecDepth 100000 in
theorem cg_X7_set_286 (l : Launch) (D : va_G) (F : Nat → Prop) (a0 : Nat) (x0 : Int32) (hx0 : x0.toInt ≤ -1) : ka_R l D F yX7_set wsX7_set 1 22 [.ref a0, .int x0, .int 0] [] [] (fun v => v = some (.int 0)) := by
  refine ka_R_of (cc := cX7_set) (maxL := 3) (ret := (some .boolean)) (by decide) rfl (Nat.le_of_ble_eq_true rfl) ?_
  intro p e s m below meth c ls C hr hlk hP hK hE hN hl
  have hS : va_S (fun _ => False) s.heap s.heap [] := va_S.rf
  have C : CallFix p m c cX7_set 3 s [.ref a0, .int x0, .int 0].toArray wsX7_set RX7 := C
  obtain ⟨hx, hb, hml, hown, hts⟩ := id C
  have hl : lv_has ls 3 [(0, .ref a0), (1, .int x0), (2, .int 0)] := hl
  have rx0 := ka_rng x0
  refine lv_iload_n hx hb dX7_set_0 rfl (lv_at hl 1 rfl) ?_
  refine lv_iconst (v := 0) hx hb dX7_set_1 (by decide) ?_
  refine lv_iconst (v := 2) hx hb dX7_set_2 (by decide) ?_
  refine ka_RS (n := 3) C (cg_X7_isIn_284 l D F x0 (by omega)) gX7_set_X7_isIn rfl (by decide +kernel) ⟨Nat.le_of_ble_eq_true rfl, Nat.le_of_ble_eq_true rfl⟩ hK hP hS hE hN [] rfl [] rfl rfl hl.1 (rest := []) rfl (Nat.le_of_ble_eq_true rfl) dX7_set_3 ⟨Nat.le_of_ble_eq_true rfl, Nat.le_of_ble_eq_true rfl⟩ (fun v hv => ?_)
  subst hv
  refine ka_stk (w := [.int 0]) rfl ?_
  refine lv_if_eq (tgt := 44) hx hb dX7_set_6 (by decide) (fun _ => ?_) (fun c_ => absurd (by decide) c_)
  refine lv_iconst (v := 0) hx hb dX7_set_44 (by decide) ?_
  exact ka_rRz C hr hlk rfl rfl dX7_set_45
set_option maxHeartbeats 4000000 in
set_option maxRecDepth 100000 in
theorem cg_X6_set_287 (l : Launch) (D : va_G) (F : Nat → Prop) (a0 : Nat) (x0 : Int32) (x1 : Int32) (hx0 : x0.toInt ≤ -1) (hx1 : 1 ≤ x1.toInt ∧ x1.toInt ≤ 3) : ka_R l D F yX6_set wsX6_set 0 0 [.ref a0, .int x0, .int x1] [] [] (fun v => v = some (.int 0)) := by
  refine ka_R_of (cc := cX6_set) (maxL := 3) (ret := (some .boolean)) (by decide) rfl (Nat.le_of_ble_eq_true rfl) ?_
  intro p e s m below meth c ls C hr hlk hP hK hE hN hl
  have hS : va_S (fun _ => False) s.heap s.heap [] := va_S.rf
  have C : CallFix p m c cX6_set 3 s [.ref a0, .int x0, .int x1].toArray wsX6_set RX6 := C
  obtain ⟨hx, hb, hml, hown, hts⟩ := id C
  have hl : lv_has ls 3 [(0, .ref a0), (1, .int x0), (2, .int x1)] := hl
  have rx0 := ka_rng x0
  have rx1 := ka_rng x1
  refine lv_iload_n hx hb dX6_set_0 rfl (lv_at hl 1 rfl) ?_
  refine lv_tableOut (tgt := 89) hx hb dX6_set_1 (by omega) (by decide) ?_
  refine lv_iconst (v := 0) hx hb dX6_set_89 (by decide) ?_
  exact ka_rRz C hr hlk rfl rfl dX6_set_90
set_option maxHeartbeats 4000000 in
set_option maxRecDepth 100000 in
theorem cg_X7_set_288 (l : Launch) (D : va_G) (F : Nat → Prop) (a0 : Nat) (x0 : Int32) (x1 : Int32) (hx0 : x0.toInt ≤ -1) (hx1 : 1 ≤ x1.toInt ∧ x1.toInt ≤ 3) : ka_R l D F yX7_set wsX7_set 1 22 [.ref a0, .int x0, .int x1] [] [] (fun v => v = some (.int 0)) := by
  refine ka_R_of (cc := cX7_set) (maxL := 3) (ret := (some .boolean)) (by decide) rfl (Nat.le_of_ble_eq_true rfl) ?_
  intro p e s m below meth c ls C hr hlk hP hK hE hN hl
  have hS : va_S (fun _ => False) s.heap s.heap [] := va_S.rf
  have C : CallFix p m c cX7_set 3 s [.ref a0, .int x0, .int x1].toArray wsX7_set RX7 := C
  obtain ⟨hx, hb, hml, hown, hts⟩ := id C
  have hl : lv_has ls 3 [(0, .ref a0), (1, .int x0), (2, .int x1)] := hl
  have rx0 := ka_rng x0
  have rx1 := ka_rng x1
  refine lv_iload_n hx hb dX7_set_0 rfl (lv_at hl 1 rfl) ?_
  refine lv_iconst (v := 0) hx hb dX7_set_1 (by decide) ?_
  refine lv_iconst (v := 2) hx hb dX7_set_2 (by decide) ?_
  refine ka_RS (n := 3) C (cg_X7_isIn_284 l D F x0 (by omega)) gX7_set_X7_isIn rfl (by decide +kernel) ⟨Nat.le_of_ble_eq_true rfl, Nat.le_of_ble_eq_true rfl⟩ hK hP hS hE hN [] rfl [] rfl rfl hl.1 (rest := []) rfl (Nat.le_of_ble_eq_true rfl) dX7_set_3 ⟨Nat.le_of_ble_eq_true rfl, Nat.le_of_ble_eq_true rfl⟩ (fun v hv => ?_)
  subst hv
  refine ka_stk (w := [.int 0]) rfl ?_
  refine lv_if_eq (tgt := 44) hx hb dX7_set_6 (by decide) (fun _ => ?_) (fun c_ => absurd (by decide) c_)
  refine lv_iconst (v := 0) hx hb dX7_set_44 (by decide) ?_
  exact ka_rRz C hr hlk rfl rfl dX7_set_45
set_option maxHeartbeats 4000000 in
set_option maxRecDepth 100000 in
theorem cg_X6_set_289 (l : Launch) (D : va_G) (F : Nat → Prop) (a0 : Nat) (x0 : Int32) (x1 : Int32) (hx0 : x0.toInt ≤ -1) (hx1 : 4 ≤ x1.toInt ∧ x1.toInt ≤ 5) : ka_R l D F yX6_set wsX6_set 0 0 [.ref a0, .int x0, .int x1] [] [] (fun v => v = some (.int 0)) := by
  refine ka_R_of (cc := cX6_set) (maxL := 3) (ret := (some .boolean)) (by decide) rfl (Nat.le_of_ble_eq_true rfl) ?_
  intro p e s m below meth c ls C hr hlk hP hK hE hN hl
  have hS : va_S (fun _ => False) s.heap s.heap [] := va_S.rf
  have C : CallFix p m c cX6_set 3 s [.ref a0, .int x0, .int x1].toArray wsX6_set RX6 := C
  obtain ⟨hx, hb, hml, hown, hts⟩ := id C
  have hl : lv_has ls 3 [(0, .ref a0), (1, .int x0), (2, .int x1)] := hl
  have rx0 := ka_rng x0
  have rx1 := ka_rng x1
  refine lv_iload_n hx hb dX6_set_0 rfl (lv_at hl 1 rfl) ?_
  refine lv_tableOut (tgt := 89) hx hb dX6_set_1 (by omega) (by decide) ?_
  refine lv_iconst (v := 0) hx hb dX6_set_89 (by decide) ?_
  exact ka_rRz C hr hlk rfl rfl dX6_set_90
set_option maxHeartbeats 4000000 in
set_option maxRecDepth 100000 in
theorem cg_X7_set_290 (l : Launch) (D : va_G) (F : Nat → Prop) (a0 : Nat) (x0 : Int32) (x1 : Int32) (hx0 : x0.toInt ≤ -1) (hx1 : 4 ≤ x1.toInt ∧ x1.toInt ≤ 5) : ka_R l D F yX7_set wsX7_set 1 22 [.ref a0, .int x0, .int x1] [] [] (fun v => v = some (.int 0)) := by
  refine ka_R_of (cc := cX7_set) (maxL := 3) (ret := (some .boolean)) (by decide) rfl (Nat.le_of_ble_eq_true rfl) ?_
  intro p e s m below meth c ls C hr hlk hP hK hE hN hl
  have hS : va_S (fun _ => False) s.heap s.heap [] := va_S.rf
  have C : CallFix p m c cX7_set 3 s [.ref a0, .int x0, .int x1].toArray wsX7_set RX7 := C
  obtain ⟨hx, hb, hml, hown, hts⟩ := id C
  have hl : lv_has ls 3 [(0, .ref a0), (1, .int x0), (2, .int x1)] := hl
  have rx0 := ka_rng x0
  have rx1 := ka_rng x1
  refine lv_iload_n hx hb dX7_set_0 rfl (lv_at hl 1 rfl) ?_
  refine lv_iconst (v := 0) hx hb dX7_set_1 (by decide) ?_
  refine lv_iconst (v := 2) hx hb dX7_set_2 (by decide) ?_
  refine ka_RS (n := 3) C (cg_X7_isIn_284 l D F x0 (by omega)) gX7_set_X7_isIn rfl (by decide +kernel) ⟨Nat.le_of_ble_eq_true rfl, Nat.le_of_ble_eq_true rfl⟩ hK hP hS hE hN [] rfl [] rfl rfl hl.1 (rest := []) rfl (Nat.le_of_ble_eq_true rfl) dX7_set_3 ⟨Nat.le_of_ble_eq_true rfl, Nat.le_of_ble_eq_true rfl⟩ (fun v hv => ?_)
  subst hv
  refine ka_stk (w := [.int 0]) rfl ?_
  refine lv_if_eq (tgt := 44) hx hb dX7_set_6 (by decide) (fun _ => ?_) (fun c_ => absurd (by decide) c_)
  refine lv_iconst (v := 0) hx hb dX7_set_44 (by decide) ?_
  exact ka_rRz C hr hlk rfl rfl dX7_set_45
set_option maxHeartbeats 4000000 in
set_option maxRecDepth 100000 in
theorem cg_X6_set_291 (l : Launch) (D : va_G) (F : Nat → Prop) (a0 : Nat) (x0 : Int32) (x1 : Int32) (hx0 : x0.toInt ≤ -1) (hx1 : 6 ≤ x1.toInt ∧ x1.toInt ≤ 8) : ka_R l D F yX6_set wsX6_set 0 0 [.ref a0, .int x0, .int x1] [] [] (fun v => v = some (.int 0)) := by
  refine ka_R_of (cc := cX6_set) (maxL := 3) (ret := (some .boolean)) (by decide) rfl (Nat.le_of_ble_eq_true rfl) ?_
  intro p e s m below meth c ls C hr hlk hP hK hE hN hl
  have hS : va_S (fun _ => False) s.heap s.heap [] := va_S.rf
  have C : CallFix p m c cX6_set 3 s [.ref a0, .int x0, .int x1].toArray wsX6_set RX6 := C
  obtain ⟨hx, hb, hml, hown, hts⟩ := id C
  have hl : lv_has ls 3 [(0, .ref a0), (1, .int x0), (2, .int x1)] := hl
  have rx0 := ka_rng x0
  have rx1 := ka_rng x1
  refine lv_iload_n hx hb dX6_set_0 rfl (lv_at hl 1 rfl) ?_
  refine lv_tableOut (tgt := 89) hx hb dX6_set_1 (by omega) (by decide) ?_
  refine lv_iconst (v := 0) hx hb dX6_set_89 (by decide) ?_
  exact ka_rRz C hr hlk rfl rfl dX6_set_90
set_option maxHeartbeats 4000000 in
set_option maxRecDepth 100000 in
theorem cg_X7_set_292 (l : Launch) (D : va_G) (F : Nat → Prop) (a0 : Nat) (x0 : Int32) (x1 : Int32) (hx0 : x0.toInt ≤ -1) (hx1 : 6 ≤ x1.toInt ∧ x1.toInt ≤ 8) : ka_R l D F yX7_set wsX7_set 1 22 [.ref a0, .int x0, .int x1] [] [] (fun v => v = some (.int 0)) := by
  refine ka_R_of (cc := cX7_set) (maxL := 3) (ret := (some .boolean)) (by decide) rfl (Nat.le_of_ble_eq_true rfl) ?_
  intro p e s m below meth c ls C hr hlk hP hK hE hN hl
  have hS : va_S (fun _ => False) s.heap s.heap [] := va_S.rf
  have C : CallFix p m c cX7_set 3 s [.ref a0, .int x0, .int x1].toArray wsX7_set RX7 := C
  obtain ⟨hx, hb, hml, hown, hts⟩ := id C
  have hl : lv_has ls 3 [(0, .ref a0), (1, .int x0), (2, .int x1)] := hl
  have rx0 := ka_rng x0
  have rx1 := ka_rng x1
  refine lv_iload_n hx hb dX7_set_0 rfl (lv_at hl 1 rfl) ?_
  refine lv_iconst (v := 0) hx hb dX7_set_1 (by decide) ?_
  refine lv_iconst (v := 2) hx hb dX7_set_2 (by decide) ?_
  refine ka_RS (n := 3) C (cg_X7_isIn_284 l D F x0 (by omega)) gX7_set_X7_isIn rfl (by decide +kernel) ⟨Nat.le_of_ble_eq_true rfl, Nat.le_of_ble_eq_true rfl⟩ hK hP hS hE hN [] rfl [] rfl rfl hl.1 (rest := []) rfl (Nat.le_of_ble_eq_true rfl) dX7_set_3 ⟨Nat.le_of_ble_eq_true rfl, Nat.le_of_ble_eq_true rfl⟩ (fun v hv => ?_)
  subst hv
  refine ka_stk (w := [.int 0]) rfl ?_
  refine lv_if_eq (tgt := 44) hx hb dX7_set_6 (by decide) (fun _ => ?_) (fun c_ => absurd (by decide) c_)
  refine lv_iconst (v := 0) hx hb dX7_set_44 (by decide) ?_
  exact ka_rRz C hr hlk rfl rfl dX7_set_45
set_option maxHeartbeats 4000000 in
set_option maxRecDepth 100000 in
theorem cg_X6_set_293 (l : Launch) (D : va_G) (F : Nat → Prop) (a0 : Nat) (x0 : Int32) (x1 : Int32) (hx0 : x0.toInt ≤ -1) (hx1 : 9 ≤ x1.toInt) : ka_R l D F yX6_set wsX6_set 0 0 [.ref a0, .int x0, .int x1] [] [] (fun v => v = some (.int 0)) := by
  refine ka_R_of (cc := cX6_set) (maxL := 3) (ret := (some .boolean)) (by decide) rfl (Nat.le_of_ble_eq_true rfl) ?_
  intro p e s m below meth c ls C hr hlk hP hK hE hN hl
  have hS : va_S (fun _ => False) s.heap s.heap [] := va_S.rf
  have C : CallFix p m c cX6_set 3 s [.ref a0, .int x0, .int x1].toArray wsX6_set RX6 := C
  obtain ⟨hx, hb, hml, hown, hts⟩ := id C
  have hl : lv_has ls 3 [(0, .ref a0), (1, .int x0), (2, .int x1)] := hl
  have rx0 := ka_rng x0
  have rx1 := ka_rng x1
  refine lv_iload_n hx hb dX6_set_0 rfl (lv_at hl 1 rfl) ?_
  refine lv_tableOut (tgt := 89) hx hb dX6_set_1 (by omega) (by decide) ?_
  refine lv_iconst (v := 0) hx hb dX6_set_89 (by decide) ?_
  exact ka_rRz C hr hlk rfl rfl dX6_set_90
set_option maxHeartbeats 4000000 in
set_option maxRecDepth 100000 in
theorem cg_X7_set_294 (l : Launch) (D : va_G) (F : Nat → Prop) (a0 : Nat) (x0 : Int32) (x1 : Int32) (hx0 : x0.toInt ≤ -1) (hx1 : 9 ≤ x1.toInt) : ka_R l D F yX7_set wsX7_set 1 22 [.ref a0, .int x0, .int x1] [] [] (fun v => v = some (.int 0)) := by
  refine ka_R_of (cc := cX7_set) (maxL := 3) (ret := (some .boolean)) (by decide) rfl (Nat.le_of_ble_eq_true rfl) ?_
  intro p e s m below meth c ls C hr hlk hP hK hE hN hl
  have hS : va_S (fun _ => False) s.heap s.heap [] := va_S.rf
  have C : CallFix p m c cX7_set 3 s [.ref a0, .int x0, .int x1].toArray wsX7_set RX7 := C
  obtain ⟨hx, hb, hml, hown, hts⟩ := id C
  have hl : lv_has ls 3 [(0, .ref a0), (1, .int x0), (2, .int x1)] := hl
  have rx0 := ka_rng x0
  have rx1 := ka_rng x1
  refine lv_iload_n hx hb dX7_set_0 rfl (lv_at hl 1 rfl) ?_
  refine lv_iconst (v := 0) hx hb dX7_set_1 (by decide) ?_
  refine lv_iconst (v := 2) hx hb dX7_set_2 (by decide) ?_
  refine ka_RS (n := 3) C (cg_X7_isIn_284 l D F x0 (by omega)) gX7_set_X7_isIn rfl (by decide +kernel) ⟨Nat.le_of_ble_eq_true rfl, Nat.le_of_ble_eq_true rfl⟩ hK hP hS hE hN [] rfl [] rfl rfl hl.1 (rest := []) rfl (Nat.le_of_ble_eq_true rfl) dX7_set_3 ⟨Nat.le_of_ble_eq_true rfl, Nat.le_of_ble_eq_true rfl⟩ (fun v hv => ?_)
  subst hv
  refine ka_stk (w := [.int 0]) rfl ?_
  refine lv_if_eq (tgt := 44) hx hb dX7_set_6 (by decide) (fun _ => ?_) (fun c_ => absurd (by decide) c_)
  refine lv_iconst (v := 0) hx hb dX7_set_44 (by decide) ?_
  exact ka_rRz C hr hlk rfl rfl dX7_set_45
set_option maxHeartbeats 4000000 in
set_option maxRecDepth 100000 in
theorem cg_X6_set_295 (l : Launch) (D : va_G) (F : Nat → Prop) (a0 : Nat) (x0 : Int32) (hx0 : x0.toInt ≤ -1) : ka_R l D F yX6_set wsX6_set 0 0 [.ref a0, .int 0, .int x0] [] [] (fun v => v = some (.int 0)) := by
  refine ka_R_of (cc := cX6_set) (maxL := 3) (ret := (some .boolean)) (by decide) rfl (Nat.le_of_ble_eq_true rfl) ?_
  intro p e s m below meth c ls C hr hlk hP hK hE hN hl
  have hS : va_S (fun _ => False) s.heap s.heap [] := va_S.rf
  have C : CallFix p m c cX6_set 3 s [.ref a0, .int 0, .int x0].toArray wsX6_set RX6 := C
  obtain ⟨hx, hb, hml, hown, hts⟩ := id C
  have hl : lv_has ls 3 [(0, .ref a0), (1, .int 0), (2, .int x0)] := hl
  have rx0 := ka_rng x0
  refine lv_iload_n hx hb dX6_set_0 rfl (lv_at hl 1 rfl) ?_
  refine lv_tableIn (off := 27) (tgt := 28) hx hb dX6_set_1 (by decide) (by decide) (by decide) (by decide) ?_
  refine lv_iload_n hx hb dX6_set_28 rfl (lv_at hl 2 rfl) ?_
  refine lv_if_lt (tgt := 37) hx hb dX6_set_29 (by decide) (fun _ => ?_) (fun c_ => absurd (by rw [ka_lt', show ((0 : Int32)).toInt = 0 from by decide]; omega) c_)
  refine lv_iconst (v := 0) hx hb dX6_set_37 (by decide) ?_
  exact ka_rRz C hr hlk rfl rfl dX6_set_38
set_option maxHeartbeats 4000000 in
set_option maxRecDepth 100000 in
theorem cg_X7_isIn_296 (l : Launch) (D : va_G) (F : Nat → Prop) : ka_R l D F yX7_isIn wsX7_isIn 0 0 [.int 0, .int 0, .int 2] [] [] (fun v => v = some (.int 1)) := by
  refine ka_R_of (cc := cX7_isIn) (maxL := 3) (ret := (some .boolean)) (by decide) rfl (Nat.le_of_ble_eq_true rfl) ?_
  intro p e s m below meth c ls C hr hlk hP hK hE hN hl
  have hS : va_S (fun _ => False) s.heap s.heap [] := va_S.rf
  have C : CallFix p m c cX7_isIn 3 s [.int 0, .int 0, .int 2].toArray wsX7_isIn RX7 := C
  obtain ⟨hx, hb, hml, hown, hts⟩ := id C
  have hl : lv_has ls 3 [(0, .int 0), (1, .int 0), (2, .int 2)] := hl
  refine lv_iload_n hx hb dX7_isIn_0 rfl (lv_at hl 0 rfl) ?_
  refine lv_iload_n hx hb dX7_isIn_1 rfl (lv_at hl 1 rfl) ?_
  refine lv_icmp_lt (tgt := 14) hx hb dX7_isIn_2 (by decide) (fun c_ => absurd c_ (by decide)) (fun _ => ?_)
  refine lv_iload_n hx hb dX7_isIn_5 rfl (lv_at hl 0 rfl) ?_
  refine lv_iload_n hx hb dX7_isIn_6 rfl (lv_at hl 2 rfl) ?_
  refine lv_icmp_gt (tgt := 14) hx hb dX7_isIn_7 (by decide) (fun c_ => absurd c_ (by decide)) (fun _ => ?_)
  refine lv_iconst (v := 1) hx hb dX7_isIn_10 (by decide) ?_
  refine lv_goto (tgt := 15) hx hb dX7_isIn_11 (by decide) ?_
  exact ka_rRz C hr hlk rfl rfl dX7_isIn_15
set_option maxHeartbeats 4000000 in
set_option maxRecDepth 100000 in
theorem cg_X7_isIn_297 (l : Launch) (D : va_G) (F : Nat → Prop) (x0 : Int32) (hx0 : x0.toInt ≤ -1) : ka_R l D F yX7_isIn wsX7_isIn 0 0 [.int x0, .int 0, .int 3] [] [] (fun v => v = some (.int 0)) := by
  refine ka_R_of (cc := cX7_isIn) (maxL := 3) (ret := (some .boolean)) (by decide) rfl (Nat.le_of_ble_eq_true rfl) ?_
  intro p e s m below meth c ls C hr hlk hP hK hE hN hl
  have hS : va_S (fun _ => False) s.heap s.heap [] := va_S.rf
  have C : CallFix p m c cX7_isIn 3 s [.int x0, .int 0, .int 3].toArray wsX7_isIn RX7 := C
  obtain ⟨hx, hb, hml, hown, hts⟩ := id C
  have hl : lv_has ls 3 [(0, .int x0), (1, .int 0), (2, .int 3)] := hl
  have rx0 := ka_rng x0
  refine lv_iload_n hx hb dX7_isIn_0 rfl (lv_at hl 0 rfl) ?_
  refine lv_iload_n hx hb dX7_isIn_1 rfl (lv_at hl 1 rfl) ?_
  refine lv_icmp_lt (tgt := 14) hx hb dX7_isIn_2 (by decide) (fun _ => ?_) (fun c_ => absurd (by rw [ka_lt', show ((0 : Int32)).toInt = 0 from by decide]; omega) c_)
  refine lv_iconst (v := 0) hx hb dX7_isIn_14 (by decide) ?_
  exact ka_rRz C hr hlk rfl rfl dX7_isIn_15
set_option maxHeartbeats 4000000 in
set_option maxRecDepth 100000 in
theorem cg_X7_isIn_299 (l : Launch) (D : va_G) (F : Nat → Prop) : ka_R l D F yX7_isIn wsX7_isIn 0 0 [.int 0, .int 0, .int 2] [] [] (fun v => v = some (.int 1)) := by
  refine ka_R_of (cc := cX7_isIn) (maxL := 3) (ret := (some .boolean)) (by decide) rfl (Nat.le_of_ble_eq_true rfl) ?_
  intro p e s m below meth c ls C hr hlk hP hK hE hN hl
  have hS : va_S (fun _ => False) s.heap s.heap [] := va_S.rf
  have C : CallFix p m c cX7_isIn 3 s [.int 0, .int 0, .int 2].toArray wsX7_isIn RX7 := C
  obtain ⟨hx, hb, hml, hown, hts⟩ := id C
  have hl : lv_has ls 3 [(0, .int 0), (1, .int 0), (2, .int 2)] := hl
  refine lv_iload_n hx hb dX7_isIn_0 rfl (lv_at hl 0 rfl) ?_
  refine lv_iload_n hx hb dX7_isIn_1 rfl (lv_at hl 1 rfl) ?_
  refine lv_icmp_lt (tgt := 14) hx hb dX7_isIn_2 (by decide) (fun c_ => absurd c_ (by decide)) (fun _ => ?_)
  refine lv_iload_n hx hb dX7_isIn_5 rfl (lv_at hl 0 rfl) ?_
  refine lv_iload_n hx hb dX7_isIn_6 rfl (lv_at hl 2 rfl) ?_
  refine lv_icmp_gt (tgt := 14) hx hb dX7_isIn_7 (by decide) (fun c_ => absurd c_ (by decide)) (fun _ => ?_)
  refine lv_iconst (v := 1) hx hb dX7_isIn_10 (by decide) ?_
  refine lv_goto (tgt := 15) hx hb dX7_isIn_11 (by decide) ?_
  exact ka_rRz C hr hlk rfl rfl dX7_isIn_15
set_option maxHeartbeats 4000000 in
set_option maxRecDepth 100000 in
theorem cg_X7_isIn_300 (l : Launch) (D : va_G) (F : Nat → Prop) (x0 : Int32) (hx0 : x0.toInt ≤ -1) : ka_R l D F yX7_isIn wsX7_isIn 0 0 [.int x0, .int 0, .int 3] [] [] (fun v => v = some (.int 0)) := by
  refine ka_R_of (cc := cX7_isIn) (maxL := 3) (ret := (some .boolean)) (by decide) rfl (Nat.le_of_ble_eq_true rfl) ?_
  intro p e s m below meth c ls C hr hlk hP hK hE hN hl
  have hS : va_S (fun _ => False) s.heap s.heap [] := va_S.rf
  have C : CallFix p m c cX7_isIn 3 s [.int x0, .int 0, .int 3].toArray wsX7_isIn RX7 := C
  obtain ⟨hx, hb, hml, hown, hts⟩ := id C
  have hl : lv_has ls 3 [(0, .int x0), (1, .int 0), (2, .int 3)] := hl
  have rx0 := ka_rng x0
  refine lv_iload_n hx hb dX7_isIn_0 rfl (lv_at hl 0 rfl) ?_
  refine lv_iload_n hx hb dX7_isIn_1 rfl (lv_at hl 1 rfl) ?_
  refine lv_icmp_lt (tgt := 14) hx hb dX7_isIn_2 (by decide) (fun _ => ?_) (fun c_ => absurd (by rw [ka_lt', show ((0 : Int32)).toInt = 0 from by decide]; omega) c_)
  refine lv_iconst (v := 0) hx hb dX7_isIn_14 (by decide) ?_
  exact ka_rRz C hr hlk rfl rfl dX7_isIn_15
set_option maxHeartbeats 4000000 in
set_option maxRecDepth 100000 in
theorem cg_X7_set_298 (l : Launch) (D : va_G) (F : Nat → Prop) (a0 : Nat) (x0 : Int32) (hx0 : x0.toInt ≤ -1) : ka_R l D F yX7_set wsX7_set 1 22 [.ref a0, .int 0, .int x0] [] [] (fun v => v = some (.int 0)) := by
  refine ka_R_of (cc := cX7_set) (maxL := 3) (ret := (some .boolean)) (by decide) rfl (Nat.le_of_ble_eq_true rfl) ?_
  intro p e s m below meth c ls C hr hlk hP hK hE hN hl
  have hS : va_S (fun _ => False) s.heap s.heap [] := va_S.rf
  have C : CallFix p m c cX7_set 3 s [.ref a0, .int 0, .int x0].toArray wsX7_set RX7 := C
  obtain ⟨hx, hb, hml, hown, hts⟩ := id C
  have hl : lv_has ls 3 [(0, .ref a0), (1, .int 0), (2, .int x0)] := hl
  have rx0 := ka_rng x0
  refine lv_iload_n hx hb dX7_set_0 rfl (lv_at hl 1 rfl) ?_
  refine lv_iconst (v := 0) hx hb dX7_set_1 (by decide) ?_
  refine lv_iconst (v := 2) hx hb dX7_set_2 (by decide) ?_
  refine ka_RS (n := 3) C (cg_X7_isIn_299 l D F ) gX7_set_X7_isIn rfl (by decide +kernel) ⟨Nat.le_of_ble_eq_true rfl, Nat.le_of_ble_eq_true rfl⟩ hK hP hS hE hN [] rfl [] rfl rfl hl.1 (rest := []) rfl (Nat.le_of_ble_eq_true rfl) dX7_set_3 ⟨Nat.le_of_ble_eq_true rfl, Nat.le_of_ble_eq_true rfl⟩ (fun v hv => ?_)
  subst hv
  refine ka_stk (w := [.int 1]) rfl ?_
  refine lv_if_eq (tgt := 44) hx hb dX7_set_6 (by decide) (fun c_ => absurd c_ (by decide)) (fun _ => ?_)
  refine lv_iload_n hx hb dX7_set_9 rfl (lv_at hl 2 rfl) ?_
  refine lv_iload_n hx hb dX7_set_10 rfl (lv_at hl 1 rfl) ?_
  refine lv_if_ne (tgt := 18) hx hb dX7_set_11 (by decide) (fun c_ => absurd (by decide) c_) (fun _ => ?_)
  refine lv_iconst (v := 0) hx hb dX7_set_14 (by decide) ?_
  refine lv_goto (tgt := 19) hx hb dX7_set_15 (by decide) ?_
  refine lv_iload_n hx hb dX7_set_19 rfl (lv_at hl 1 rfl) ?_
  refine lv_if_ne (tgt := 27) hx hb dX7_set_20 (by decide) (fun c_ => absurd (by decide) c_) (fun _ => ?_)
  refine lv_iconst (v := 3) hx hb dX7_set_23 (by decide) ?_
  refine lv_goto (tgt := 38) hx hb dX7_set_24 (by decide) ?_
  refine ka_RS (n := 3) C (cg_X7_isIn_300 l D F x0 (by omega)) gX7_set_X7_isIn rfl (by decide +kernel) ⟨Nat.le_of_ble_eq_true rfl, Nat.le_of_ble_eq_true rfl⟩ hK hP hS hE hN [] rfl [] rfl rfl hl.1 (rest := []) rfl (Nat.le_of_ble_eq_true rfl) dX7_set_38 ⟨Nat.le_of_ble_eq_true rfl, Nat.le_of_ble_eq_true rfl⟩ (fun v hv => ?_)
  subst hv
  refine ka_stk (w := [.int 0]) rfl ?_
  refine lv_if_ne (tgt := 46) hx hb dX7_set_41 (by decide) (fun c_ => absurd (by decide) c_) (fun _ => ?_)
  refine lv_iconst (v := 0) hx hb dX7_set_44 (by decide) ?_
  exact ka_rRz C hr hlk rfl rfl dX7_set_45
theorem lq_361 : ∀ w ∈ wsX60, w ∈ wsX6_set := by decide +kernel
theorem lq_362 : Cond.fieldLink RX6 46 "AskedBack" "slipsLet" "I" ∈ wsX6_set := by decide +kernel
set_option maxHeartbeats 4000000 in
set_option maxRecDepth 100000 in
theorem cg_X6_set_301 (l : Launch) (D : va_G) (F : Nat → Prop) (a0 : Nat) (a1 : Nat) (a2 : Nat) (a3 : Nat) (a4 : Nat) (x0 : Int32) (x1 : Int32) (x2 : Int32) (x3 : Int32) (x4 : Int32) (hx0 : -1 ≤ x0.toInt ∧ x0.toInt ≤ 5) : ka_E l D F yX6_set wsX6_set 0 0 0 0 [.ref a0, .int 0, .int 0] [(a0, .inr (6, [.ref a1, .ref a2, .ref a3, .ref a4, .int x0, .int x1, .int x2, .int x3, .int x4]))] [] (fun (u : Unit) => some (.int 1)) (fun (u : Unit) => True) (fun (u : Unit) => [(a0, .inr (6, [.ref a1, .ref a2, .ref a3, .ref a4, .int x0, .int x1, .int 0, .int x3, .int x4]))]) (fun (u : Unit) => []) := by
  refine ka_E_of (cc := cX6_set) (maxL := 3) (ret := (some .boolean)) (by decide) rfl (Nat.le_of_ble_eq_true rfl) ?_
  intro p e s m below meth c ls A C hr hlk hin hP hK hD hS hA hE hN hl
  have C : CallFix p m c cX6_set 3 s [.ref a0, .int 0, .int 0].toArray wsX6_set RX6 := C
  obtain ⟨hx, hb, hml, hown, hts⟩ := id C
  have hl : lv_has ls 3 [(0, .ref a0), (1, .int 0), (2, .int 0)] := hl
  have rx0 := ka_rng x0
  have rx1 := ka_rng x1
  have rx2 := ka_rng x2
  have rx3 := ka_rng x3
  have rx4 := ka_rng x4
  refine lv_iload_n hx hb dX6_set_0 rfl (lv_at hl 1 rfl) ?_
  refine lv_tableIn (off := 27) (tgt := 28) hx hb dX6_set_1 (by decide) (by decide) (by decide) (by decide) ?_
  refine lv_iload_n hx hb dX6_set_28 rfl (lv_at hl 2 rfl) ?_
  refine lv_if_lt (tgt := 37) hx hb dX6_set_29 (by decide) (fun c_ => absurd c_ (by decide)) (fun _ => ?_)
  refine lv_iload_n hx hb dX6_set_32 rfl (lv_at hl 2 rfl) ?_
  refine lv_iconst (v := 3) hx hb dX6_set_33 (by decide) ?_
  refine lv_icmp_le (tgt := 39) hx hb dX6_set_34 (by decide) (fun _ => ?_) (fun c_ => absurd (by decide) c_)
  refine lv_aload_n hx hb dX6_set_39 rfl (lv_at hl 0 rfl) ?_
  refine lv_iload_n hx hb dX6_set_40 rfl (lv_at hl 2 rfl) ?_
  refine ka_put C lq_361 tyX6 tyX6_ok nmX6 rfl hK hP hD hS 0 rfl 6 (by decide) lq_362 rfl rfl rfl (Nat.le_of_ble_eq_true rfl) dX6_set_41 (fun H locs hP hD hS => ?_)
  have hP : va_P D vwCl [(a0, .inr (6, [.ref a1, .ref a2, .ref a3, .ref a4, .int x0, .int x1, .int 0, .int x3, .int x4]))] H := hP
  have hD : va_D A [(a0, .inr (6, [.ref a1, .ref a2, .ref a3, .ref a4, .int x0, .int x1, .int 0, .int x3, .int x4]))] := hD
  refine lv_iconst (v := 1) hx hb dX6_set_44 (by decide) ?_
  exact ka_rEz C hr hlk rfl (Nat.le_of_ble_eq_true rfl) (Nat.le_of_ble_eq_true rfl) hS (ka_qE () rfl trivial hK hP hD hS [0] (by decide) rfl [] rfl) dX6_set_45
set_option maxHeartbeats 4000000 in
set_option maxRecDepth 100000 in
theorem cg_X7_isIn_302 (l : Launch) (D : va_G) (F : Nat → Prop) : ka_R l D F yX7_isIn wsX7_isIn 0 0 [.int 0, .int 0, .int 3] [] [] (fun v => v = some (.int 1)) := by
  refine ka_R_of (cc := cX7_isIn) (maxL := 3) (ret := (some .boolean)) (by decide) rfl (Nat.le_of_ble_eq_true rfl) ?_
  intro p e s m below meth c ls C hr hlk hP hK hE hN hl
  have hS : va_S (fun _ => False) s.heap s.heap [] := va_S.rf
  have C : CallFix p m c cX7_isIn 3 s [.int 0, .int 0, .int 3].toArray wsX7_isIn RX7 := C
  obtain ⟨hx, hb, hml, hown, hts⟩ := id C
  have hl : lv_has ls 3 [(0, .int 0), (1, .int 0), (2, .int 3)] := hl
  refine lv_iload_n hx hb dX7_isIn_0 rfl (lv_at hl 0 rfl) ?_
  refine lv_iload_n hx hb dX7_isIn_1 rfl (lv_at hl 1 rfl) ?_
  refine lv_icmp_lt (tgt := 14) hx hb dX7_isIn_2 (by decide) (fun c_ => absurd c_ (by decide)) (fun _ => ?_)
  refine lv_iload_n hx hb dX7_isIn_5 rfl (lv_at hl 0 rfl) ?_
  refine lv_iload_n hx hb dX7_isIn_6 rfl (lv_at hl 2 rfl) ?_
  refine lv_icmp_gt (tgt := 14) hx hb dX7_isIn_7 (by decide) (fun c_ => absurd c_ (by decide)) (fun _ => ?_)
  refine lv_iconst (v := 1) hx hb dX7_isIn_10 (by decide) ?_
  refine lv_goto (tgt := 15) hx hb dX7_isIn_11 (by decide) ?_
  exact ka_rRz C hr hlk rfl rfl dX7_isIn_15
theorem lq_363 : ∀ w ∈ wsX70, w ∈ wsX7_set := by decide +kernel
theorem lq_364 : Cond.fieldLink RX7 178 "AskedBackModel" "slips" "I" ∈ wsX7_set := by decide +kernel
set_option maxHeartbeats 4000000 in
set_option maxRecDepth 100000 in
theorem cg_X7_set_303 (l : Launch) (D : va_G) (F : Nat → Prop) (a0 : Nat) (a1 : Nat) (x0 : Int32) (a2 : Nat) (a3 : Nat) (a4 : Nat) (a5 : Nat) (a6 : Nat) (a7 : Nat) (a8 : Nat) (x1 : Int32) (x2 : Int32) (x3 : Int32) (x4 : Int32) (x5 : Int32) (x6 : Int32) (x7 : Int32) (a9 : Nat) (a10 : Nat) (a11 : Nat) (a12 : Nat) (a13 : Nat) (a14 : Nat) (x8 : Int32) (x9 : Int32) (x10 : Int32) (x11 : Int32) (x12 : Int32) (x13 : Int32) (hx0 : 0 ≤ x0.toInt ∧ x0.toInt ≤ 80) (hx1 : -1 ≤ x1.toInt ∧ x1.toInt ≤ 5) (hx4 : 1 ≤ x4.toInt ∧ x4.toInt ≤ 8) (hx5 : 0 ≤ x5.toInt ∧ x5.toInt ≤ 40) (hx7 : 0 ≤ x7.toInt ∧ x7.toInt ≤ 10) (hx8 : 0 ≤ x8.toInt ∧ x8.toInt ≤ 60) (hx9 : 0 ≤ x9.toInt ∧ x9.toInt ≤ 60) (hx10 : 0 ≤ x10.toInt ∧ x10.toInt ≤ 60) (hx11 : 0 ≤ x11.toInt ∧ x11.toInt ≤ 8) (hx13 : 0 ≤ x13.toInt ∧ x13.toInt ≤ 1) : ka_E l D F yX7_set wsX7_set 1 22 0 0 [.ref a0, .int 0, .int 0] [(a0, .inr (7, [.ref a1, .int x0, .ref a2, .ref a3, .ref a4, .ref a5, .ref a6, .ref a7, .ref a8, .int x1, .int x2, .int x3, .int x4, .int x5, .int x6, .int x7, .ref a9, .ref a10, .ref a11, .ref a12, .ref a13, .ref a14, .int x8, .int x9, .int x10, .int x11, .int x12, .int x13]))] [] (fun (u : Unit) => some (.int 1)) (fun (u : Unit) => True) (fun (u : Unit) => [(a0, .inr (7, [.ref a1, .int x0, .ref a2, .ref a3, .ref a4, .ref a5, .ref a6, .ref a7, .ref a8, .int x1, .int 0, .int x3, .int x4, .int x5, .int x6, .int x7, .ref a9, .ref a10, .ref a11, .ref a12, .ref a13, .ref a14, .int x8, .int x9, .int x10, .int x11, .int x12, .int x13]))]) (fun (u : Unit) => []) := by
  refine ka_E_of (cc := cX7_set) (maxL := 3) (ret := (some .boolean)) (by decide) rfl (Nat.le_of_ble_eq_true rfl) ?_
  intro p e s m below meth c ls A C hr hlk hin hP hK hD hS hA hE hN hl
  have C : CallFix p m c cX7_set 3 s [.ref a0, .int 0, .int 0].toArray wsX7_set RX7 := C
  obtain ⟨hx, hb, hml, hown, hts⟩ := id C
  have hl : lv_has ls 3 [(0, .ref a0), (1, .int 0), (2, .int 0)] := hl
  have rx0 := ka_rng x0
  have rx1 := ka_rng x1
  have rx2 := ka_rng x2
  have rx3 := ka_rng x3
  have rx4 := ka_rng x4
  have rx5 := ka_rng x5
  have rx6 := ka_rng x6
  have rx7 := ka_rng x7
  have rx8 := ka_rng x8
  have rx9 := ka_rng x9
  have rx10 := ka_rng x10
  have rx11 := ka_rng x11
  have rx12 := ka_rng x12
  have rx13 := ka_rng x13
  refine lv_iload_n hx hb dX7_set_0 rfl (lv_at hl 1 rfl) ?_
  refine lv_iconst (v := 0) hx hb dX7_set_1 (by decide) ?_
  refine lv_iconst (v := 2) hx hb dX7_set_2 (by decide) ?_
  refine ka_RS (n := 3) C (cg_X7_isIn_296 l D F ) gX7_set_X7_isIn rfl (by decide +kernel) ⟨Nat.le_of_ble_eq_true rfl, Nat.le_of_ble_eq_true rfl⟩ hK hP hS hE hN [] rfl [] rfl rfl hl.1 (rest := []) rfl (Nat.le_of_ble_eq_true rfl) dX7_set_3 ⟨Nat.le_of_ble_eq_true rfl, Nat.le_of_ble_eq_true rfl⟩ (fun v hv => ?_)
  subst hv
  refine ka_stk (w := [.int 1]) rfl ?_
  refine lv_if_eq (tgt := 44) hx hb dX7_set_6 (by decide) (fun c_ => absurd c_ (by decide)) (fun _ => ?_)
  refine lv_iload_n hx hb dX7_set_9 rfl (lv_at hl 2 rfl) ?_
  refine lv_iload_n hx hb dX7_set_10 rfl (lv_at hl 1 rfl) ?_
  refine lv_if_ne (tgt := 18) hx hb dX7_set_11 (by decide) (fun c_ => absurd (by decide) c_) (fun _ => ?_)
  refine lv_iconst (v := 0) hx hb dX7_set_14 (by decide) ?_
  refine lv_goto (tgt := 19) hx hb dX7_set_15 (by decide) ?_
  refine lv_iload_n hx hb dX7_set_19 rfl (lv_at hl 1 rfl) ?_
  refine lv_if_ne (tgt := 27) hx hb dX7_set_20 (by decide) (fun c_ => absurd (by decide) c_) (fun _ => ?_)
  refine lv_iconst (v := 3) hx hb dX7_set_23 (by decide) ?_
  refine lv_goto (tgt := 38) hx hb dX7_set_24 (by decide) ?_
  refine ka_RS (n := 3) C (cg_X7_isIn_302 l D F ) gX7_set_X7_isIn rfl (by decide +kernel) ⟨Nat.le_of_ble_eq_true rfl, Nat.le_of_ble_eq_true rfl⟩ hK hP hS hE hN [] rfl [] rfl rfl hl.1 (rest := []) rfl (Nat.le_of_ble_eq_true rfl) dX7_set_38 ⟨Nat.le_of_ble_eq_true rfl, Nat.le_of_ble_eq_true rfl⟩ (fun v hv => ?_)
  subst hv
  refine ka_stk (w := [.int 1]) rfl ?_
  refine lv_if_ne (tgt := 46) hx hb dX7_set_41 (by decide) (fun _ => ?_) (fun c_ => absurd c_ (by decide))
  refine lv_iload_n hx hb dX7_set_46 rfl (lv_at hl 1 rfl) ?_
  refine lv_if_ne (tgt := 58) hx hb dX7_set_47 (by decide) (fun c_ => absurd (by decide) c_) (fun _ => ?_)
  refine lv_aload_n hx hb dX7_set_50 rfl (lv_at hl 0 rfl) ?_
  refine lv_iload_n hx hb dX7_set_51 rfl (lv_at hl 2 rfl) ?_
  refine ka_put C lq_363 tyX7 tyX7_ok nmX7 rfl hK hP hD hS 0 rfl 10 (by decide) lq_364 rfl rfl rfl (Nat.le_of_ble_eq_true rfl) dX7_set_52 (fun H locs hP hD hS => ?_)
  have hP : va_P D vwCl [(a0, .inr (7, [.ref a1, .int x0, .ref a2, .ref a3, .ref a4, .ref a5, .ref a6, .ref a7, .ref a8, .int x1, .int 0, .int x3, .int x4, .int x5, .int x6, .int x7, .ref a9, .ref a10, .ref a11, .ref a12, .ref a13, .ref a14, .int x8, .int x9, .int x10, .int x11, .int x12, .int x13]))] H := hP
  have hD : va_D A [(a0, .inr (7, [.ref a1, .int x0, .ref a2, .ref a3, .ref a4, .ref a5, .ref a6, .ref a7, .ref a8, .int x1, .int 0, .int x3, .int x4, .int x5, .int x6, .int x7, .ref a9, .ref a10, .ref a11, .ref a12, .ref a13, .ref a14, .int x8, .int x9, .int x10, .int x11, .int x12, .int x13]))] := hD
  refine lv_goto (tgt := 76) hx hb dX7_set_55 (by decide) ?_
  refine lv_iconst (v := 1) hx hb dX7_set_76 (by decide) ?_
  exact ka_rEz C hr hlk rfl (Nat.le_of_ble_eq_true rfl) (Nat.le_of_ble_eq_true rfl) hS (ka_qE () rfl trivial hK hP hD hS [0] (by decide) rfl [] rfl) dX7_set_77
set_option maxHeartbeats 4000000 in
set_option maxRecDepth 100000 in
theorem cg_X6_set_304 (l : Launch) (D : va_G) (F : Nat → Prop) (a0 : Nat) (x0 : Int32) (a1 : Nat) (a2 : Nat) (a3 : Nat) (a4 : Nat) (x1 : Int32) (x2 : Int32) (x3 : Int32) (x4 : Int32) (x5 : Int32) (hx0 : 1 ≤ x0.toInt ∧ x0.toInt ≤ 3) (hx1 : -1 ≤ x1.toInt ∧ x1.toInt ≤ 5) : ka_E l D F yX6_set wsX6_set 0 0 0 0 [.ref a0, .int 0, .int x0] [(a0, .inr (6, [.ref a1, .ref a2, .ref a3, .ref a4, .int x1, .int x2, .int x3, .int x4, .int x5]))] [] (fun (u : Unit) => some (.int 1)) (fun (u : Unit) => True) (fun (u : Unit) => [(a0, .inr (6, [.ref a1, .ref a2, .ref a3, .ref a4, .int x1, .int x2, .int x0, .int x4, .int x5]))]) (fun (u : Unit) => []) := by
  refine ka_E_of (cc := cX6_set) (maxL := 3) (ret := (some .boolean)) (by decide) rfl (Nat.le_of_ble_eq_true rfl) ?_
  intro p e s m below meth c ls A C hr hlk hin hP hK hD hS hA hE hN hl
  have C : CallFix p m c cX6_set 3 s [.ref a0, .int 0, .int x0].toArray wsX6_set RX6 := C
  obtain ⟨hx, hb, hml, hown, hts⟩ := id C
  have hl : lv_has ls 3 [(0, .ref a0), (1, .int 0), (2, .int x0)] := hl
  have rx0 := ka_rng x0
  have rx1 := ka_rng x1
  have rx2 := ka_rng x2
  have rx3 := ka_rng x3
  have rx4 := ka_rng x4
  have rx5 := ka_rng x5
  refine lv_iload_n hx hb dX6_set_0 rfl (lv_at hl 1 rfl) ?_
  refine lv_tableIn (off := 27) (tgt := 28) hx hb dX6_set_1 (by decide) (by decide) (by decide) (by decide) ?_
  refine lv_iload_n hx hb dX6_set_28 rfl (lv_at hl 2 rfl) ?_
  refine lv_if_lt (tgt := 37) hx hb dX6_set_29 (by decide) (fun c_ => absurd c_ (by rw [ka_lt', show ((0 : Int32)).toInt = 0 from by decide]; omega)) (fun _ => ?_)
  refine lv_iload_n hx hb dX6_set_32 rfl (lv_at hl 2 rfl) ?_
  refine lv_iconst (v := 3) hx hb dX6_set_33 (by decide) ?_
  refine lv_icmp_le (tgt := 39) hx hb dX6_set_34 (by decide) (fun _ => ?_) (fun c_ => absurd (by rw [ka_le', show ((3 : Int32)).toInt = 3 from by decide]; omega) c_)
  refine lv_aload_n hx hb dX6_set_39 rfl (lv_at hl 0 rfl) ?_
  refine lv_iload_n hx hb dX6_set_40 rfl (lv_at hl 2 rfl) ?_
  refine ka_put C lq_361 tyX6 tyX6_ok nmX6 rfl hK hP hD hS 0 rfl 6 (by decide) lq_362 rfl rfl rfl (Nat.le_of_ble_eq_true rfl) dX6_set_41 (fun H locs hP hD hS => ?_)
  have hP : va_P D vwCl [(a0, .inr (6, [.ref a1, .ref a2, .ref a3, .ref a4, .int x1, .int x2, .int x0, .int x4, .int x5]))] H := hP
  have hD : va_D A [(a0, .inr (6, [.ref a1, .ref a2, .ref a3, .ref a4, .int x1, .int x2, .int x0, .int x4, .int x5]))] := hD
  refine lv_iconst (v := 1) hx hb dX6_set_44 (by decide) ?_
  exact ka_rEz C hr hlk rfl (Nat.le_of_ble_eq_true rfl) (Nat.le_of_ble_eq_true rfl) hS (ka_qE () rfl trivial hK hP hD hS [0] (by decide) rfl [] rfl) dX6_set_45
set_option maxHeartbeats 4000000 in
set_option maxRecDepth 100000 in
theorem cg_X7_isIn_305 (l : Launch) (D : va_G) (F : Nat → Prop) (x0 : Int32) (hx0 : 1 ≤ x0.toInt ∧ x0.toInt ≤ 3) : ka_R l D F yX7_isIn wsX7_isIn 0 0 [.int x0, .int 0, .int 3] [] [] (fun v => v = some (.int 1)) := by
  refine ka_R_of (cc := cX7_isIn) (maxL := 3) (ret := (some .boolean)) (by decide) rfl (Nat.le_of_ble_eq_true rfl) ?_
  intro p e s m below meth c ls C hr hlk hP hK hE hN hl
  have hS : va_S (fun _ => False) s.heap s.heap [] := va_S.rf
  have C : CallFix p m c cX7_isIn 3 s [.int x0, .int 0, .int 3].toArray wsX7_isIn RX7 := C
  obtain ⟨hx, hb, hml, hown, hts⟩ := id C
  have hl : lv_has ls 3 [(0, .int x0), (1, .int 0), (2, .int 3)] := hl
  have rx0 := ka_rng x0
  refine lv_iload_n hx hb dX7_isIn_0 rfl (lv_at hl 0 rfl) ?_
  refine lv_iload_n hx hb dX7_isIn_1 rfl (lv_at hl 1 rfl) ?_
  refine lv_icmp_lt (tgt := 14) hx hb dX7_isIn_2 (by decide) (fun c_ => absurd c_ (by rw [ka_lt', show ((0 : Int32)).toInt = 0 from by decide]; omega)) (fun _ => ?_)
  refine lv_iload_n hx hb dX7_isIn_5 rfl (lv_at hl 0 rfl) ?_
  refine lv_iload_n hx hb dX7_isIn_6 rfl (lv_at hl 2 rfl) ?_
  refine lv_icmp_gt (tgt := 14) hx hb dX7_isIn_7 (by decide) (fun c_ => absurd c_ (by rw [ka_lt', show ((3 : Int32)).toInt = 3 from by decide]; omega)) (fun _ => ?_)
  refine lv_iconst (v := 1) hx hb dX7_isIn_10 (by decide) ?_
  refine lv_goto (tgt := 15) hx hb dX7_isIn_11 (by decide) ?_
  exact ka_rRz C hr hlk rfl rfl dX7_isIn_15
set_option maxHeartbeats 4000000 in
set_option maxRecDepth 100000 in
theorem cg_X7_set_306 (l : Launch) (D : va_G) (F : Nat → Prop) (a0 : Nat) (x0 : Int32) (a1 : Nat) (x1 : Int32) (a2 : Nat) (a3 : Nat) (a4 : Nat) (a5 : Nat) (a6 : Nat) (a7 : Nat) (a8 : Nat) (x2 : Int32) (x3 : Int32) (x4 : Int32) (x5 : Int32) (x6 : Int32) (x7 : Int32) (x8 : Int32) (a9 : Nat) (a10 : Nat) (a11 : Nat) (a12 : Nat) (a13 : Nat) (a14 : Nat) (x9 : Int32) (x10 : Int32) (x11 : Int32) (x12 : Int32) (x13 : Int32) (x14 : Int32) (hx0 : 1 ≤ x0.toInt ∧ x0.toInt ≤ 3) (hx1 : 0 ≤ x1.toInt ∧ x1.toInt ≤ 80) (hx2 : -1 ≤ x2.toInt ∧ x2.toInt ≤ 5) (hx5 : 1 ≤ x5.toInt ∧ x5.toInt ≤ 8) (hx6 : 0 ≤ x6.toInt ∧ x6.toInt ≤ 40) (hx8 : 0 ≤ x8.toInt ∧ x8.toInt ≤ 10) (hx9 : 0 ≤ x9.toInt ∧ x9.toInt ≤ 60) (hx10 : 0 ≤ x10.toInt ∧ x10.toInt ≤ 60) (hx11 : 0 ≤ x11.toInt ∧ x11.toInt ≤ 60) (hx12 : 0 ≤ x12.toInt ∧ x12.toInt ≤ 8) (hx14 : 0 ≤ x14.toInt ∧ x14.toInt ≤ 1) : ka_E l D F yX7_set wsX7_set 1 22 0 0 [.ref a0, .int 0, .int x0] [(a0, .inr (7, [.ref a1, .int x1, .ref a2, .ref a3, .ref a4, .ref a5, .ref a6, .ref a7, .ref a8, .int x2, .int x3, .int x4, .int x5, .int x6, .int x7, .int x8, .ref a9, .ref a10, .ref a11, .ref a12, .ref a13, .ref a14, .int x9, .int x10, .int x11, .int x12, .int x13, .int x14]))] [] (fun (u : Unit) => some (.int 1)) (fun (u : Unit) => True) (fun (u : Unit) => [(a0, .inr (7, [.ref a1, .int x1, .ref a2, .ref a3, .ref a4, .ref a5, .ref a6, .ref a7, .ref a8, .int x2, .int x0, .int x4, .int x5, .int x6, .int x7, .int x8, .ref a9, .ref a10, .ref a11, .ref a12, .ref a13, .ref a14, .int x9, .int x10, .int x11, .int x12, .int x13, .int x14]))]) (fun (u : Unit) => []) := by
  refine ka_E_of (cc := cX7_set) (maxL := 3) (ret := (some .boolean)) (by decide) rfl (Nat.le_of_ble_eq_true rfl) ?_
  intro p e s m below meth c ls A C hr hlk hin hP hK hD hS hA hE hN hl
  have C : CallFix p m c cX7_set 3 s [.ref a0, .int 0, .int x0].toArray wsX7_set RX7 := C
  obtain ⟨hx, hb, hml, hown, hts⟩ := id C
  have hl : lv_has ls 3 [(0, .ref a0), (1, .int 0), (2, .int x0)] := hl
  have rx0 := ka_rng x0
  have rx1 := ka_rng x1
  have rx2 := ka_rng x2
  have rx3 := ka_rng x3
  have rx4 := ka_rng x4
  have rx5 := ka_rng x5
  have rx6 := ka_rng x6
  have rx7 := ka_rng x7
  have rx8 := ka_rng x8
  have rx9 := ka_rng x9
  have rx10 := ka_rng x10
  have rx11 := ka_rng x11
  have rx12 := ka_rng x12
  have rx13 := ka_rng x13
  have rx14 := ka_rng x14
  refine lv_iload_n hx hb dX7_set_0 rfl (lv_at hl 1 rfl) ?_
  refine lv_iconst (v := 0) hx hb dX7_set_1 (by decide) ?_
  refine lv_iconst (v := 2) hx hb dX7_set_2 (by decide) ?_
  refine ka_RS (n := 3) C (cg_X7_isIn_296 l D F ) gX7_set_X7_isIn rfl (by decide +kernel) ⟨Nat.le_of_ble_eq_true rfl, Nat.le_of_ble_eq_true rfl⟩ hK hP hS hE hN [] rfl [] rfl rfl hl.1 (rest := []) rfl (Nat.le_of_ble_eq_true rfl) dX7_set_3 ⟨Nat.le_of_ble_eq_true rfl, Nat.le_of_ble_eq_true rfl⟩ (fun v hv => ?_)
  subst hv
  refine ka_stk (w := [.int 1]) rfl ?_
  refine lv_if_eq (tgt := 44) hx hb dX7_set_6 (by decide) (fun c_ => absurd c_ (by decide)) (fun _ => ?_)
  refine lv_iload_n hx hb dX7_set_9 rfl (lv_at hl 2 rfl) ?_
  refine lv_iload_n hx hb dX7_set_10 rfl (lv_at hl 1 rfl) ?_
  refine lv_if_ne (tgt := 18) hx hb dX7_set_11 (by decide) (fun c_ => absurd (by decide) c_) (fun _ => ?_)
  refine lv_iconst (v := 0) hx hb dX7_set_14 (by decide) ?_
  refine lv_goto (tgt := 19) hx hb dX7_set_15 (by decide) ?_
  refine lv_iload_n hx hb dX7_set_19 rfl (lv_at hl 1 rfl) ?_
  refine lv_if_ne (tgt := 27) hx hb dX7_set_20 (by decide) (fun c_ => absurd (by decide) c_) (fun _ => ?_)
  refine lv_iconst (v := 3) hx hb dX7_set_23 (by decide) ?_
  refine lv_goto (tgt := 38) hx hb dX7_set_24 (by decide) ?_
  refine ka_RS (n := 3) C (cg_X7_isIn_305 l D F x0 ⟨by omega, by omega⟩) gX7_set_X7_isIn rfl (by decide +kernel) ⟨Nat.le_of_ble_eq_true rfl, Nat.le_of_ble_eq_true rfl⟩ hK hP hS hE hN [] rfl [] rfl rfl hl.1 (rest := []) rfl (Nat.le_of_ble_eq_true rfl) dX7_set_38 ⟨Nat.le_of_ble_eq_true rfl, Nat.le_of_ble_eq_true rfl⟩ (fun v hv => ?_)
  subst hv
  refine ka_stk (w := [.int 1]) rfl ?_
  refine lv_if_ne (tgt := 46) hx hb dX7_set_41 (by decide) (fun _ => ?_) (fun c_ => absurd c_ (by decide))
  refine lv_iload_n hx hb dX7_set_46 rfl (lv_at hl 1 rfl) ?_
  refine lv_if_ne (tgt := 58) hx hb dX7_set_47 (by decide) (fun c_ => absurd (by decide) c_) (fun _ => ?_)
  refine lv_aload_n hx hb dX7_set_50 rfl (lv_at hl 0 rfl) ?_
  refine lv_iload_n hx hb dX7_set_51 rfl (lv_at hl 2 rfl) ?_
  refine ka_put C lq_363 tyX7 tyX7_ok nmX7 rfl hK hP hD hS 0 rfl 10 (by decide) lq_364 rfl rfl rfl (Nat.le_of_ble_eq_true rfl) dX7_set_52 (fun H locs hP hD hS => ?_)
  have hP : va_P D vwCl [(a0, .inr (7, [.ref a1, .int x1, .ref a2, .ref a3, .ref a4, .ref a5, .ref a6, .ref a7, .ref a8, .int x2, .int x0, .int x4, .int x5, .int x6, .int x7, .int x8, .ref a9, .ref a10, .ref a11, .ref a12, .ref a13, .ref a14, .int x9, .int x10, .int x11, .int x12, .int x13, .int x14]))] H := hP
  have hD : va_D A [(a0, .inr (7, [.ref a1, .int x1, .ref a2, .ref a3, .ref a4, .ref a5, .ref a6, .ref a7, .ref a8, .int x2, .int x0, .int x4, .int x5, .int x6, .int x7, .int x8, .ref a9, .ref a10, .ref a11, .ref a12, .ref a13, .ref a14, .int x9, .int x10, .int x11, .int x12, .int x13, .int x14]))] := hD
  refine lv_goto (tgt := 76) hx hb dX7_set_55 (by decide) ?_
  refine lv_iconst (v := 1) hx hb dX7_set_76 (by decide) ?_
  exact ka_rEz C hr hlk rfl (Nat.le_of_ble_eq_true rfl) (Nat.le_of_ble_eq_true rfl) hS (ka_qE () rfl trivial hK hP hD hS [0] (by decide) rfl [] rfl) dX7_set_77
set_option maxHeartbeats 4000000 in
set_option maxRecDepth 100000 in
theorem cg_X6_set_307 (l : Launch) (D : va_G) (F : Nat → Prop) (a0 : Nat) (x0 : Int32) (hx0 : 4 ≤ x0.toInt ∧ x0.toInt ≤ 5) : ka_R l D F yX6_set wsX6_set 0 0 [.ref a0, .int 0, .int x0] [] [] (fun v => v = some (.int 0)) := by
  refine ka_R_of (cc := cX6_set) (maxL := 3) (ret := (some .boolean)) (by decide) rfl (Nat.le_of_ble_eq_true rfl) ?_
  intro p e s m below meth c ls C hr hlk hP hK hE hN hl
  have hS : va_S (fun _ => False) s.heap s.heap [] := va_S.rf
  have C : CallFix p m c cX6_set 3 s [.ref a0, .int 0, .int x0].toArray wsX6_set RX6 := C
  obtain ⟨hx, hb, hml, hown, hts⟩ := id C
  have hl : lv_has ls 3 [(0, .ref a0), (1, .int 0), (2, .int x0)] := hl
  have rx0 := ka_rng x0
  refine lv_iload_n hx hb dX6_set_0 rfl (lv_at hl 1 rfl) ?_
  refine lv_tableIn (off := 27) (tgt := 28) hx hb dX6_set_1 (by decide) (by decide) (by decide) (by decide) ?_
  refine lv_iload_n hx hb dX6_set_28 rfl (lv_at hl 2 rfl) ?_
  refine lv_if_lt (tgt := 37) hx hb dX6_set_29 (by decide) (fun c_ => absurd c_ (by rw [ka_lt', show ((0 : Int32)).toInt = 0 from by decide]; omega)) (fun _ => ?_)
  refine lv_iload_n hx hb dX6_set_32 rfl (lv_at hl 2 rfl) ?_
  refine lv_iconst (v := 3) hx hb dX6_set_33 (by decide) ?_
  refine lv_icmp_le (tgt := 39) hx hb dX6_set_34 (by decide) (fun c_ => absurd c_ (by rw [ka_le', show ((3 : Int32)).toInt = 3 from by decide]; omega)) (fun _ => ?_)
  refine lv_iconst (v := 0) hx hb dX6_set_37 (by decide) ?_
  exact ka_rRz C hr hlk rfl rfl dX6_set_38
set_option maxHeartbeats 4000000 in
set_option maxRecDepth 100000 in
theorem cg_X7_isIn_308 (l : Launch) (D : va_G) (F : Nat → Prop) (x0 : Int32) (hx0 : 4 ≤ x0.toInt ∧ x0.toInt ≤ 5) : ka_R l D F yX7_isIn wsX7_isIn 0 0 [.int x0, .int 0, .int 3] [] [] (fun v => v = some (.int 0)) := by
  refine ka_R_of (cc := cX7_isIn) (maxL := 3) (ret := (some .boolean)) (by decide) rfl (Nat.le_of_ble_eq_true rfl) ?_
  intro p e s m below meth c ls C hr hlk hP hK hE hN hl
  have hS : va_S (fun _ => False) s.heap s.heap [] := va_S.rf
  have C : CallFix p m c cX7_isIn 3 s [.int x0, .int 0, .int 3].toArray wsX7_isIn RX7 := C
  obtain ⟨hx, hb, hml, hown, hts⟩ := id C
  have hl : lv_has ls 3 [(0, .int x0), (1, .int 0), (2, .int 3)] := hl
  have rx0 := ka_rng x0
  refine lv_iload_n hx hb dX7_isIn_0 rfl (lv_at hl 0 rfl) ?_
  refine lv_iload_n hx hb dX7_isIn_1 rfl (lv_at hl 1 rfl) ?_
  refine lv_icmp_lt (tgt := 14) hx hb dX7_isIn_2 (by decide) (fun c_ => absurd c_ (by rw [ka_lt', show ((0 : Int32)).toInt = 0 from by decide]; omega)) (fun _ => ?_)
  refine lv_iload_n hx hb dX7_isIn_5 rfl (lv_at hl 0 rfl) ?_
  refine lv_iload_n hx hb dX7_isIn_6 rfl (lv_at hl 2 rfl) ?_
  refine lv_icmp_gt (tgt := 14) hx hb dX7_isIn_7 (by decide) (fun _ => ?_) (fun c_ => absurd (by rw [ka_lt', show ((3 : Int32)).toInt = 3 from by decide]; omega) c_)
  refine lv_iconst (v := 0) hx hb dX7_isIn_14 (by decide) ?_
  exact ka_rRz C hr hlk rfl rfl dX7_isIn_15
set_option maxHeartbeats 4000000 in
set_option maxRecDepth 100000 in
theorem cg_X7_isIn_310 (l : Launch) (D : va_G) (F : Nat → Prop) (x0 : Int32) (hx0 : 4 ≤ x0.toInt ∧ x0.toInt ≤ 5) : ka_R l D F yX7_isIn wsX7_isIn 0 0 [.int x0, .int 0, .int 3] [] [] (fun v => v = some (.int 0)) := by
  refine ka_R_of (cc := cX7_isIn) (maxL := 3) (ret := (some .boolean)) (by decide) rfl (Nat.le_of_ble_eq_true rfl) ?_
  intro p e s m below meth c ls C hr hlk hP hK hE hN hl
  have hS : va_S (fun _ => False) s.heap s.heap [] := va_S.rf
  have C : CallFix p m c cX7_isIn 3 s [.int x0, .int 0, .int 3].toArray wsX7_isIn RX7 := C
  obtain ⟨hx, hb, hml, hown, hts⟩ := id C
  have hl : lv_has ls 3 [(0, .int x0), (1, .int 0), (2, .int 3)] := hl
  have rx0 := ka_rng x0
  refine lv_iload_n hx hb dX7_isIn_0 rfl (lv_at hl 0 rfl) ?_
  refine lv_iload_n hx hb dX7_isIn_1 rfl (lv_at hl 1 rfl) ?_
  refine lv_icmp_lt (tgt := 14) hx hb dX7_isIn_2 (by decide) (fun c_ => absurd c_ (by rw [ka_lt', show ((0 : Int32)).toInt = 0 from by decide]; omega)) (fun _ => ?_)
  refine lv_iload_n hx hb dX7_isIn_5 rfl (lv_at hl 0 rfl) ?_
  refine lv_iload_n hx hb dX7_isIn_6 rfl (lv_at hl 2 rfl) ?_
  refine lv_icmp_gt (tgt := 14) hx hb dX7_isIn_7 (by decide) (fun _ => ?_) (fun c_ => absurd (by rw [ka_lt', show ((3 : Int32)).toInt = 3 from by decide]; omega) c_)
  refine lv_iconst (v := 0) hx hb dX7_isIn_14 (by decide) ?_
  exact ka_rRz C hr hlk rfl rfl dX7_isIn_15
set_option maxHeartbeats 4000000 in
set_option maxRecDepth 100000 in
theorem cg_X7_set_309 (l : Launch) (D : va_G) (F : Nat → Prop) (a0 : Nat) (x0 : Int32) (hx0 : 4 ≤ x0.toInt ∧ x0.toInt ≤ 5) : ka_R l D F yX7_set wsX7_set 1 22 [.ref a0, .int 0, .int x0] [] [] (fun v => v = some (.int 0)) := by
  refine ka_R_of (cc := cX7_set) (maxL := 3) (ret := (some .boolean)) (by decide) rfl (Nat.le_of_ble_eq_true rfl) ?_
  intro p e s m below meth c ls C hr hlk hP hK hE hN hl
  have hS : va_S (fun _ => False) s.heap s.heap [] := va_S.rf
  have C : CallFix p m c cX7_set 3 s [.ref a0, .int 0, .int x0].toArray wsX7_set RX7 := C
  obtain ⟨hx, hb, hml, hown, hts⟩ := id C
  have hl : lv_has ls 3 [(0, .ref a0), (1, .int 0), (2, .int x0)] := hl
  have rx0 := ka_rng x0
  refine lv_iload_n hx hb dX7_set_0 rfl (lv_at hl 1 rfl) ?_
  refine lv_iconst (v := 0) hx hb dX7_set_1 (by decide) ?_
  refine lv_iconst (v := 2) hx hb dX7_set_2 (by decide) ?_
  refine ka_RS (n := 3) C (cg_X7_isIn_299 l D F ) gX7_set_X7_isIn rfl (by decide +kernel) ⟨Nat.le_of_ble_eq_true rfl, Nat.le_of_ble_eq_true rfl⟩ hK hP hS hE hN [] rfl [] rfl rfl hl.1 (rest := []) rfl (Nat.le_of_ble_eq_true rfl) dX7_set_3 ⟨Nat.le_of_ble_eq_true rfl, Nat.le_of_ble_eq_true rfl⟩ (fun v hv => ?_)
  subst hv
  refine ka_stk (w := [.int 1]) rfl ?_
  refine lv_if_eq (tgt := 44) hx hb dX7_set_6 (by decide) (fun c_ => absurd c_ (by decide)) (fun _ => ?_)
  refine lv_iload_n hx hb dX7_set_9 rfl (lv_at hl 2 rfl) ?_
  refine lv_iload_n hx hb dX7_set_10 rfl (lv_at hl 1 rfl) ?_
  refine lv_if_ne (tgt := 18) hx hb dX7_set_11 (by decide) (fun c_ => absurd (by decide) c_) (fun _ => ?_)
  refine lv_iconst (v := 0) hx hb dX7_set_14 (by decide) ?_
  refine lv_goto (tgt := 19) hx hb dX7_set_15 (by decide) ?_
  refine lv_iload_n hx hb dX7_set_19 rfl (lv_at hl 1 rfl) ?_
  refine lv_if_ne (tgt := 27) hx hb dX7_set_20 (by decide) (fun c_ => absurd (by decide) c_) (fun _ => ?_)
  refine lv_iconst (v := 3) hx hb dX7_set_23 (by decide) ?_
  refine lv_goto (tgt := 38) hx hb dX7_set_24 (by decide) ?_
  refine ka_RS (n := 3) C (cg_X7_isIn_310 l D F x0 ⟨by omega, by omega⟩) gX7_set_X7_isIn rfl (by decide +kernel) ⟨Nat.le_of_ble_eq_true rfl, Nat.le_of_ble_eq_true rfl⟩ hK hP hS hE hN [] rfl [] rfl rfl hl.1 (rest := []) rfl (Nat.le_of_ble_eq_true rfl) dX7_set_38 ⟨Nat.le_of_ble_eq_true rfl, Nat.le_of_ble_eq_true rfl⟩ (fun v hv => ?_)
  subst hv
  refine ka_stk (w := [.int 0]) rfl ?_
  refine lv_if_ne (tgt := 46) hx hb dX7_set_41 (by decide) (fun c_ => absurd (by decide) c_) (fun _ => ?_)
  refine lv_iconst (v := 0) hx hb dX7_set_44 (by decide) ?_
  exact ka_rRz C hr hlk rfl rfl dX7_set_45
set_option maxHeartbeats 4000000 in
set_option maxRecDepth 100000 in
theorem cg_X6_set_311 (l : Launch) (D : va_G) (F : Nat → Prop) (a0 : Nat) (x0 : Int32) (hx0 : 6 ≤ x0.toInt ∧ x0.toInt ≤ 8) : ka_R l D F yX6_set wsX6_set 0 0 [.ref a0, .int 0, .int x0] [] [] (fun v => v = some (.int 0)) := by
  refine ka_R_of (cc := cX6_set) (maxL := 3) (ret := (some .boolean)) (by decide) rfl (Nat.le_of_ble_eq_true rfl) ?_
  intro p e s m below meth c ls C hr hlk hP hK hE hN hl
  have hS : va_S (fun _ => False) s.heap s.heap [] := va_S.rf
  have C : CallFix p m c cX6_set 3 s [.ref a0, .int 0, .int x0].toArray wsX6_set RX6 := C
  obtain ⟨hx, hb, hml, hown, hts⟩ := id C
  have hl : lv_has ls 3 [(0, .ref a0), (1, .int 0), (2, .int x0)] := hl
  have rx0 := ka_rng x0
  refine lv_iload_n hx hb dX6_set_0 rfl (lv_at hl 1 rfl) ?_
  refine lv_tableIn (off := 27) (tgt := 28) hx hb dX6_set_1 (by decide) (by decide) (by decide) (by decide) ?_
  refine lv_iload_n hx hb dX6_set_28 rfl (lv_at hl 2 rfl) ?_
  refine lv_if_lt (tgt := 37) hx hb dX6_set_29 (by decide) (fun c_ => absurd c_ (by rw [ka_lt', show ((0 : Int32)).toInt = 0 from by decide]; omega)) (fun _ => ?_)
  refine lv_iload_n hx hb dX6_set_32 rfl (lv_at hl 2 rfl) ?_
  refine lv_iconst (v := 3) hx hb dX6_set_33 (by decide) ?_
  refine lv_icmp_le (tgt := 39) hx hb dX6_set_34 (by decide) (fun c_ => absurd c_ (by rw [ka_le', show ((3 : Int32)).toInt = 3 from by decide]; omega)) (fun _ => ?_)
  refine lv_iconst (v := 0) hx hb dX6_set_37 (by decide) ?_
  exact ka_rRz C hr hlk rfl rfl dX6_set_38
set_option maxHeartbeats 4000000 in
set_option maxRecDepth 100000 in
theorem cg_X7_isIn_312 (l : Launch) (D : va_G) (F : Nat → Prop) (x0 : Int32) (hx0 : 6 ≤ x0.toInt ∧ x0.toInt ≤ 8) : ka_R l D F yX7_isIn wsX7_isIn 0 0 [.int x0, .int 0, .int 3] [] [] (fun v => v = some (.int 0)) := by
  refine ka_R_of (cc := cX7_isIn) (maxL := 3) (ret := (some .boolean)) (by decide) rfl (Nat.le_of_ble_eq_true rfl) ?_
  intro p e s m below meth c ls C hr hlk hP hK hE hN hl
  have hS : va_S (fun _ => False) s.heap s.heap [] := va_S.rf
  have C : CallFix p m c cX7_isIn 3 s [.int x0, .int 0, .int 3].toArray wsX7_isIn RX7 := C
  obtain ⟨hx, hb, hml, hown, hts⟩ := id C
  have hl : lv_has ls 3 [(0, .int x0), (1, .int 0), (2, .int 3)] := hl
  have rx0 := ka_rng x0
  refine lv_iload_n hx hb dX7_isIn_0 rfl (lv_at hl 0 rfl) ?_
  refine lv_iload_n hx hb dX7_isIn_1 rfl (lv_at hl 1 rfl) ?_
  refine lv_icmp_lt (tgt := 14) hx hb dX7_isIn_2 (by decide) (fun c_ => absurd c_ (by rw [ka_lt', show ((0 : Int32)).toInt = 0 from by decide]; omega)) (fun _ => ?_)
  refine lv_iload_n hx hb dX7_isIn_5 rfl (lv_at hl 0 rfl) ?_
  refine lv_iload_n hx hb dX7_isIn_6 rfl (lv_at hl 2 rfl) ?_
  refine lv_icmp_gt (tgt := 14) hx hb dX7_isIn_7 (by decide) (fun _ => ?_) (fun c_ => absurd (by rw [ka_lt', show ((3 : Int32)).toInt = 3 from by decide]; omega) c_)
  refine lv_iconst (v := 0) hx hb dX7_isIn_14 (by decide) ?_
  exact ka_rRz C hr hlk rfl rfl dX7_isIn_15
set_option maxHeartbeats 4000000 in
set_option maxRecDepth 100000 in
theorem cg_X7_isIn_314 (l : Launch) (D : va_G) (F : Nat → Prop) (x0 : Int32) (hx0 : 6 ≤ x0.toInt ∧ x0.toInt ≤ 8) : ka_R l D F yX7_isIn wsX7_isIn 0 0 [.int x0, .int 0, .int 3] [] [] (fun v => v = some (.int 0)) := by
  refine ka_R_of (cc := cX7_isIn) (maxL := 3) (ret := (some .boolean)) (by decide) rfl (Nat.le_of_ble_eq_true rfl) ?_
  intro p e s m below meth c ls C hr hlk hP hK hE hN hl
  have hS : va_S (fun _ => False) s.heap s.heap [] := va_S.rf
  have C : CallFix p m c cX7_isIn 3 s [.int x0, .int 0, .int 3].toArray wsX7_isIn RX7 := C
  obtain ⟨hx, hb, hml, hown, hts⟩ := id C
  have hl : lv_has ls 3 [(0, .int x0), (1, .int 0), (2, .int 3)] := hl
  have rx0 := ka_rng x0
  refine lv_iload_n hx hb dX7_isIn_0 rfl (lv_at hl 0 rfl) ?_
  refine lv_iload_n hx hb dX7_isIn_1 rfl (lv_at hl 1 rfl) ?_
  refine lv_icmp_lt (tgt := 14) hx hb dX7_isIn_2 (by decide) (fun c_ => absurd c_ (by rw [ka_lt', show ((0 : Int32)).toInt = 0 from by decide]; omega)) (fun _ => ?_)
  refine lv_iload_n hx hb dX7_isIn_5 rfl (lv_at hl 0 rfl) ?_
  refine lv_iload_n hx hb dX7_isIn_6 rfl (lv_at hl 2 rfl) ?_
  refine lv_icmp_gt (tgt := 14) hx hb dX7_isIn_7 (by decide) (fun _ => ?_) (fun c_ => absurd (by rw [ka_lt', show ((3 : Int32)).toInt = 3 from by decide]; omega) c_)
  refine lv_iconst (v := 0) hx hb dX7_isIn_14 (by decide) ?_
  exact ka_rRz C hr hlk rfl rfl dX7_isIn_15
set_option maxHeartbeats 4000000 in
set_option maxRecDepth 100000 in
theorem cg_X7_set_313 (l : Launch) (D : va_G) (F : Nat → Prop) (a0 : Nat) (x0 : Int32) (hx0 : 6 ≤ x0.toInt ∧ x0.toInt ≤ 8) : ka_R l D F yX7_set wsX7_set 1 22 [.ref a0, .int 0, .int x0] [] [] (fun v => v = some (.int 0)) := by
  refine ka_R_of (cc := cX7_set) (maxL := 3) (ret := (some .boolean)) (by decide) rfl (Nat.le_of_ble_eq_true rfl) ?_
  intro p e s m below meth c ls C hr hlk hP hK hE hN hl
  have hS : va_S (fun _ => False) s.heap s.heap [] := va_S.rf
  have C : CallFix p m c cX7_set 3 s [.ref a0, .int 0, .int x0].toArray wsX7_set RX7 := C
  obtain ⟨hx, hb, hml, hown, hts⟩ := id C
  have hl : lv_has ls 3 [(0, .ref a0), (1, .int 0), (2, .int x0)] := hl
  have rx0 := ka_rng x0
  refine lv_iload_n hx hb dX7_set_0 rfl (lv_at hl 1 rfl) ?_
  refine lv_iconst (v := 0) hx hb dX7_set_1 (by decide) ?_
  refine lv_iconst (v := 2) hx hb dX7_set_2 (by decide) ?_
  refine ka_RS (n := 3) C (cg_X7_isIn_299 l D F ) gX7_set_X7_isIn rfl (by decide +kernel) ⟨Nat.le_of_ble_eq_true rfl, Nat.le_of_ble_eq_true rfl⟩ hK hP hS hE hN [] rfl [] rfl rfl hl.1 (rest := []) rfl (Nat.le_of_ble_eq_true rfl) dX7_set_3 ⟨Nat.le_of_ble_eq_true rfl, Nat.le_of_ble_eq_true rfl⟩ (fun v hv => ?_)
  subst hv
  refine ka_stk (w := [.int 1]) rfl ?_
  refine lv_if_eq (tgt := 44) hx hb dX7_set_6 (by decide) (fun c_ => absurd c_ (by decide)) (fun _ => ?_)
  refine lv_iload_n hx hb dX7_set_9 rfl (lv_at hl 2 rfl) ?_
  refine lv_iload_n hx hb dX7_set_10 rfl (lv_at hl 1 rfl) ?_
  refine lv_if_ne (tgt := 18) hx hb dX7_set_11 (by decide) (fun c_ => absurd (by decide) c_) (fun _ => ?_)
  refine lv_iconst (v := 0) hx hb dX7_set_14 (by decide) ?_
  refine lv_goto (tgt := 19) hx hb dX7_set_15 (by decide) ?_
  refine lv_iload_n hx hb dX7_set_19 rfl (lv_at hl 1 rfl) ?_
  refine lv_if_ne (tgt := 27) hx hb dX7_set_20 (by decide) (fun c_ => absurd (by decide) c_) (fun _ => ?_)
  refine lv_iconst (v := 3) hx hb dX7_set_23 (by decide) ?_
  refine lv_goto (tgt := 38) hx hb dX7_set_24 (by decide) ?_
  refine ka_RS (n := 3) C (cg_X7_isIn_314 l D F x0 ⟨by omega, by omega⟩) gX7_set_X7_isIn rfl (by decide +kernel) ⟨Nat.le_of_ble_eq_true rfl, Nat.le_of_ble_eq_true rfl⟩ hK hP hS hE hN [] rfl [] rfl rfl hl.1 (rest := []) rfl (Nat.le_of_ble_eq_true rfl) dX7_set_38 ⟨Nat.le_of_ble_eq_true rfl, Nat.le_of_ble_eq_true rfl⟩ (fun v hv => ?_)
  subst hv
  refine ka_stk (w := [.int 0]) rfl ?_
  refine lv_if_ne (tgt := 46) hx hb dX7_set_41 (by decide) (fun c_ => absurd (by decide) c_) (fun _ => ?_)
  refine lv_iconst (v := 0) hx hb dX7_set_44 (by decide) ?_
  exact ka_rRz C hr hlk rfl rfl dX7_set_45
set_option maxHeartbeats 4000000 in
set_option maxRecDepth 100000 in
theorem cg_X6_set_315 (l : Launch) (D : va_G) (F : Nat → Prop) (a0 : Nat) (x0 : Int32) (hx0 : 9 ≤ x0.toInt) : ka_R l D F yX6_set wsX6_set 0 0 [.ref a0, .int 0, .int x0] [] [] (fun v => v = some (.int 0)) := by
  refine ka_R_of (cc := cX6_set) (maxL := 3) (ret := (some .boolean)) (by decide) rfl (Nat.le_of_ble_eq_true rfl) ?_
  intro p e s m below meth c ls C hr hlk hP hK hE hN hl
  have hS : va_S (fun _ => False) s.heap s.heap [] := va_S.rf
  have C : CallFix p m c cX6_set 3 s [.ref a0, .int 0, .int x0].toArray wsX6_set RX6 := C
  obtain ⟨hx, hb, hml, hown, hts⟩ := id C
  have hl : lv_has ls 3 [(0, .ref a0), (1, .int 0), (2, .int x0)] := hl
  have rx0 := ka_rng x0
  refine lv_iload_n hx hb dX6_set_0 rfl (lv_at hl 1 rfl) ?_
  refine lv_tableIn (off := 27) (tgt := 28) hx hb dX6_set_1 (by decide) (by decide) (by decide) (by decide) ?_
  refine lv_iload_n hx hb dX6_set_28 rfl (lv_at hl 2 rfl) ?_
  refine lv_if_lt (tgt := 37) hx hb dX6_set_29 (by decide) (fun c_ => absurd c_ (by rw [ka_lt', show ((0 : Int32)).toInt = 0 from by decide]; omega)) (fun _ => ?_)
  refine lv_iload_n hx hb dX6_set_32 rfl (lv_at hl 2 rfl) ?_
  refine lv_iconst (v := 3) hx hb dX6_set_33 (by decide) ?_
  refine lv_icmp_le (tgt := 39) hx hb dX6_set_34 (by decide) (fun c_ => absurd c_ (by rw [ka_le', show ((3 : Int32)).toInt = 3 from by decide]; omega)) (fun _ => ?_)
  refine lv_iconst (v := 0) hx hb dX6_set_37 (by decide) ?_
  exact ka_rRz C hr hlk rfl rfl dX6_set_38
set_option maxHeartbeats 4000000 in
set_option maxRecDepth 100000 in
theorem cg_X7_isIn_316 (l : Launch) (D : va_G) (F : Nat → Prop) (x0 : Int32) (hx0 : 9 ≤ x0.toInt) : ka_R l D F yX7_isIn wsX7_isIn 0 0 [.int x0, .int 0, .int 3] [] [] (fun v => v = some (.int 0)) := by
  refine ka_R_of (cc := cX7_isIn) (maxL := 3) (ret := (some .boolean)) (by decide) rfl (Nat.le_of_ble_eq_true rfl) ?_
  intro p e s m below meth c ls C hr hlk hP hK hE hN hl
  have hS : va_S (fun _ => False) s.heap s.heap [] := va_S.rf
  have C : CallFix p m c cX7_isIn 3 s [.int x0, .int 0, .int 3].toArray wsX7_isIn RX7 := C
  obtain ⟨hx, hb, hml, hown, hts⟩ := id C
  have hl : lv_has ls 3 [(0, .int x0), (1, .int 0), (2, .int 3)] := hl
  have rx0 := ka_rng x0
  refine lv_iload_n hx hb dX7_isIn_0 rfl (lv_at hl 0 rfl) ?_
  refine lv_iload_n hx hb dX7_isIn_1 rfl (lv_at hl 1 rfl) ?_
  refine lv_icmp_lt (tgt := 14) hx hb dX7_isIn_2 (by decide) (fun c_ => absurd c_ (by rw [ka_lt', show ((0 : Int32)).toInt = 0 from by decide]; omega)) (fun _ => ?_)
  refine lv_iload_n hx hb dX7_isIn_5 rfl (lv_at hl 0 rfl) ?_
  refine lv_iload_n hx hb dX7_isIn_6 rfl (lv_at hl 2 rfl) ?_
  refine lv_icmp_gt (tgt := 14) hx hb dX7_isIn_7 (by decide) (fun _ => ?_) (fun c_ => absurd (by rw [ka_lt', show ((3 : Int32)).toInt = 3 from by decide]; omega) c_)
  refine lv_iconst (v := 0) hx hb dX7_isIn_14 (by decide) ?_
  exact ka_rRz C hr hlk rfl rfl dX7_isIn_15
set_option maxHeartbeats 4000000 in
set_option maxRecDepth 100000 in
theorem cg_X7_isIn_318 (l : Launch) (D : va_G) (F : Nat → Prop) (x0 : Int32) (hx0 : 9 ≤ x0.toInt) : ka_R l D F yX7_isIn wsX7_isIn 0 0 [.int x0, .int 0, .int 3] [] [] (fun v => v = some (.int 0)) := by
  refine ka_R_of (cc := cX7_isIn) (maxL := 3) (ret := (some .boolean)) (by decide) rfl (Nat.le_of_ble_eq_true rfl) ?_
  intro p e s m below meth c ls C hr hlk hP hK hE hN hl
  have hS : va_S (fun _ => False) s.heap s.heap [] := va_S.rf
  have C : CallFix p m c cX7_isIn 3 s [.int x0, .int 0, .int 3].toArray wsX7_isIn RX7 := C
  obtain ⟨hx, hb, hml, hown, hts⟩ := id C
  have hl : lv_has ls 3 [(0, .int x0), (1, .int 0), (2, .int 3)] := hl
  have rx0 := ka_rng x0
  refine lv_iload_n hx hb dX7_isIn_0 rfl (lv_at hl 0 rfl) ?_
  refine lv_iload_n hx hb dX7_isIn_1 rfl (lv_at hl 1 rfl) ?_
  refine lv_icmp_lt (tgt := 14) hx hb dX7_isIn_2 (by decide) (fun c_ => absurd c_ (by rw [ka_lt', show ((0 : Int32)).toInt = 0 from by decide]; omega)) (fun _ => ?_)
  refine lv_iload_n hx hb dX7_isIn_5 rfl (lv_at hl 0 rfl) ?_
  refine lv_iload_n hx hb dX7_isIn_6 rfl (lv_at hl 2 rfl) ?_
  refine lv_icmp_gt (tgt := 14) hx hb dX7_isIn_7 (by decide) (fun _ => ?_) (fun c_ => absurd (by rw [ka_lt', show ((3 : Int32)).toInt = 3 from by decide]; omega) c_)
  refine lv_iconst (v := 0) hx hb dX7_isIn_14 (by decide) ?_
  exact ka_rRz C hr hlk rfl rfl dX7_isIn_15
set_option maxHeartbeats 4000000 in
set_option maxRecDepth 100000 in
theorem cg_X7_set_317 (l : Launch) (D : va_G) (F : Nat → Prop) (a0 : Nat) (x0 : Int32) (hx0 : 9 ≤ x0.toInt) : ka_R l D F yX7_set wsX7_set 1 22 [.ref a0, .int 0, .int x0] [] [] (fun v => v = some (.int 0)) := by
  refine ka_R_of (cc := cX7_set) (maxL := 3) (ret := (some .boolean)) (by decide) rfl (Nat.le_of_ble_eq_true rfl) ?_
  intro p e s m below meth c ls C hr hlk hP hK hE hN hl
  have hS : va_S (fun _ => False) s.heap s.heap [] := va_S.rf
  have C : CallFix p m c cX7_set 3 s [.ref a0, .int 0, .int x0].toArray wsX7_set RX7 := C
  obtain ⟨hx, hb, hml, hown, hts⟩ := id C
  have hl : lv_has ls 3 [(0, .ref a0), (1, .int 0), (2, .int x0)] := hl
  have rx0 := ka_rng x0
  refine lv_iload_n hx hb dX7_set_0 rfl (lv_at hl 1 rfl) ?_
  refine lv_iconst (v := 0) hx hb dX7_set_1 (by decide) ?_
  refine lv_iconst (v := 2) hx hb dX7_set_2 (by decide) ?_
  refine ka_RS (n := 3) C (cg_X7_isIn_299 l D F ) gX7_set_X7_isIn rfl (by decide +kernel) ⟨Nat.le_of_ble_eq_true rfl, Nat.le_of_ble_eq_true rfl⟩ hK hP hS hE hN [] rfl [] rfl rfl hl.1 (rest := []) rfl (Nat.le_of_ble_eq_true rfl) dX7_set_3 ⟨Nat.le_of_ble_eq_true rfl, Nat.le_of_ble_eq_true rfl⟩ (fun v hv => ?_)
  subst hv
  refine ka_stk (w := [.int 1]) rfl ?_
  refine lv_if_eq (tgt := 44) hx hb dX7_set_6 (by decide) (fun c_ => absurd c_ (by decide)) (fun _ => ?_)
  refine lv_iload_n hx hb dX7_set_9 rfl (lv_at hl 2 rfl) ?_
  refine lv_iload_n hx hb dX7_set_10 rfl (lv_at hl 1 rfl) ?_
  refine lv_if_ne (tgt := 18) hx hb dX7_set_11 (by decide) (fun c_ => absurd (by decide) c_) (fun _ => ?_)
  refine lv_iconst (v := 0) hx hb dX7_set_14 (by decide) ?_
  refine lv_goto (tgt := 19) hx hb dX7_set_15 (by decide) ?_
  refine lv_iload_n hx hb dX7_set_19 rfl (lv_at hl 1 rfl) ?_
  refine lv_if_ne (tgt := 27) hx hb dX7_set_20 (by decide) (fun c_ => absurd (by decide) c_) (fun _ => ?_)
  refine lv_iconst (v := 3) hx hb dX7_set_23 (by decide) ?_
  refine lv_goto (tgt := 38) hx hb dX7_set_24 (by decide) ?_
  refine ka_RS (n := 3) C (cg_X7_isIn_318 l D F x0 (by omega)) gX7_set_X7_isIn rfl (by decide +kernel) ⟨Nat.le_of_ble_eq_true rfl, Nat.le_of_ble_eq_true rfl⟩ hK hP hS hE hN [] rfl [] rfl rfl hl.1 (rest := []) rfl (Nat.le_of_ble_eq_true rfl) dX7_set_38 ⟨Nat.le_of_ble_eq_true rfl, Nat.le_of_ble_eq_true rfl⟩ (fun v hv => ?_)
  subst hv
  refine ka_stk (w := [.int 0]) rfl ?_
  refine lv_if_ne (tgt := 46) hx hb dX7_set_41 (by decide) (fun c_ => absurd (by decide) c_) (fun _ => ?_)
  refine lv_iconst (v := 0) hx hb dX7_set_44 (by decide) ?_
  exact ka_rRz C hr hlk rfl rfl dX7_set_45
set_option maxHeartbeats 4000000 in
set_option maxRecDepth 100000 in
theorem cg_X6_set_319 (l : Launch) (D : va_G) (F : Nat → Prop) (a0 : Nat) (x0 : Int32) (hx0 : x0.toInt ≤ -1) : ka_R l D F yX6_set wsX6_set 0 0 [.ref a0, .int 1, .int x0] [] [] (fun v => v = some (.int 0)) := by
  refine ka_R_of (cc := cX6_set) (maxL := 3) (ret := (some .boolean)) (by decide) rfl (Nat.le_of_ble_eq_true rfl) ?_
  intro p e s m below meth c ls C hr hlk hP hK hE hN hl
  have hS : va_S (fun _ => False) s.heap s.heap [] := va_S.rf
  have C : CallFix p m c cX6_set 3 s [.ref a0, .int 1, .int x0].toArray wsX6_set RX6 := C
  obtain ⟨hx, hb, hml, hown, hts⟩ := id C
  have hl : lv_has ls 3 [(0, .ref a0), (1, .int 1), (2, .int x0)] := hl
  have rx0 := ka_rng x0
  refine lv_iload_n hx hb dX6_set_0 rfl (lv_at hl 1 rfl) ?_
  refine lv_tableIn (off := 45) (tgt := 46) hx hb dX6_set_1 (by decide) (by decide) (by decide) (by decide) ?_
  refine lv_iload_n hx hb dX6_set_46 rfl (lv_at hl 2 rfl) ?_
  refine lv_iconst (v := 1) hx hb dX6_set_47 (by decide) ?_
  refine lv_icmp_lt (tgt := 56) hx hb dX6_set_48 (by decide) (fun _ => ?_) (fun c_ => absurd (by rw [ka_lt', show ((1 : Int32)).toInt = 1 from by decide]; omega) c_)
  refine lv_iconst (v := 0) hx hb dX6_set_56 (by decide) ?_
  exact ka_rRz C hr hlk rfl rfl dX6_set_57
set_option maxHeartbeats 4000000 in
set_option maxRecDepth 100000 in
theorem cg_X7_isIn_320 (l : Launch) (D : va_G) (F : Nat → Prop) : ka_R l D F yX7_isIn wsX7_isIn 0 0 [.int 1, .int 0, .int 2] [] [] (fun v => v = some (.int 1)) := by
  refine ka_R_of (cc := cX7_isIn) (maxL := 3) (ret := (some .boolean)) (by decide) rfl (Nat.le_of_ble_eq_true rfl) ?_
  intro p e s m below meth c ls C hr hlk hP hK hE hN hl
  have hS : va_S (fun _ => False) s.heap s.heap [] := va_S.rf
  have C : CallFix p m c cX7_isIn 3 s [.int 1, .int 0, .int 2].toArray wsX7_isIn RX7 := C
  obtain ⟨hx, hb, hml, hown, hts⟩ := id C
  have hl : lv_has ls 3 [(0, .int 1), (1, .int 0), (2, .int 2)] := hl
  refine lv_iload_n hx hb dX7_isIn_0 rfl (lv_at hl 0 rfl) ?_
  refine lv_iload_n hx hb dX7_isIn_1 rfl (lv_at hl 1 rfl) ?_
  refine lv_icmp_lt (tgt := 14) hx hb dX7_isIn_2 (by decide) (fun c_ => absurd c_ (by decide)) (fun _ => ?_)
  refine lv_iload_n hx hb dX7_isIn_5 rfl (lv_at hl 0 rfl) ?_
  refine lv_iload_n hx hb dX7_isIn_6 rfl (lv_at hl 2 rfl) ?_
  refine lv_icmp_gt (tgt := 14) hx hb dX7_isIn_7 (by decide) (fun c_ => absurd c_ (by decide)) (fun _ => ?_)
  refine lv_iconst (v := 1) hx hb dX7_isIn_10 (by decide) ?_
  refine lv_goto (tgt := 15) hx hb dX7_isIn_11 (by decide) ?_
  exact ka_rRz C hr hlk rfl rfl dX7_isIn_15
set_option maxHeartbeats 4000000 in
set_option maxRecDepth 100000 in
theorem cg_X7_isIn_321 (l : Launch) (D : va_G) (F : Nat → Prop) (x0 : Int32) (hx0 : x0.toInt ≤ -1) : ka_R l D F yX7_isIn wsX7_isIn 0 0 [.int x0, .int 1, .int 5] [] [] (fun v => v = some (.int 0)) := by
  refine ka_R_of (cc := cX7_isIn) (maxL := 3) (ret := (some .boolean)) (by decide) rfl (Nat.le_of_ble_eq_true rfl) ?_
  intro p e s m below meth c ls C hr hlk hP hK hE hN hl
  have hS : va_S (fun _ => False) s.heap s.heap [] := va_S.rf
  have C : CallFix p m c cX7_isIn 3 s [.int x0, .int 1, .int 5].toArray wsX7_isIn RX7 := C
  obtain ⟨hx, hb, hml, hown, hts⟩ := id C
  have hl : lv_has ls 3 [(0, .int x0), (1, .int 1), (2, .int 5)] := hl
  have rx0 := ka_rng x0
  refine lv_iload_n hx hb dX7_isIn_0 rfl (lv_at hl 0 rfl) ?_
  refine lv_iload_n hx hb dX7_isIn_1 rfl (lv_at hl 1 rfl) ?_
  refine lv_icmp_lt (tgt := 14) hx hb dX7_isIn_2 (by decide) (fun _ => ?_) (fun c_ => absurd (by rw [ka_lt', show ((1 : Int32)).toInt = 1 from by decide]; omega) c_)
  refine lv_iconst (v := 0) hx hb dX7_isIn_14 (by decide) ?_
  exact ka_rRz C hr hlk rfl rfl dX7_isIn_15
set_option maxHeartbeats 4000000 in
set_option maxRecDepth 100000 in
theorem cg_X7_isIn_323 (l : Launch) (D : va_G) (F : Nat → Prop) : ka_R l D F yX7_isIn wsX7_isIn 0 0 [.int 1, .int 0, .int 2] [] [] (fun v => v = some (.int 1)) := by
  refine ka_R_of (cc := cX7_isIn) (maxL := 3) (ret := (some .boolean)) (by decide) rfl (Nat.le_of_ble_eq_true rfl) ?_
  intro p e s m below meth c ls C hr hlk hP hK hE hN hl
  have hS : va_S (fun _ => False) s.heap s.heap [] := va_S.rf
  have C : CallFix p m c cX7_isIn 3 s [.int 1, .int 0, .int 2].toArray wsX7_isIn RX7 := C
  obtain ⟨hx, hb, hml, hown, hts⟩ := id C
  have hl : lv_has ls 3 [(0, .int 1), (1, .int 0), (2, .int 2)] := hl
  refine lv_iload_n hx hb dX7_isIn_0 rfl (lv_at hl 0 rfl) ?_
  refine lv_iload_n hx hb dX7_isIn_1 rfl (lv_at hl 1 rfl) ?_
  refine lv_icmp_lt (tgt := 14) hx hb dX7_isIn_2 (by decide) (fun c_ => absurd c_ (by decide)) (fun _ => ?_)
  refine lv_iload_n hx hb dX7_isIn_5 rfl (lv_at hl 0 rfl) ?_
  refine lv_iload_n hx hb dX7_isIn_6 rfl (lv_at hl 2 rfl) ?_
  refine lv_icmp_gt (tgt := 14) hx hb dX7_isIn_7 (by decide) (fun c_ => absurd c_ (by decide)) (fun _ => ?_)
  refine lv_iconst (v := 1) hx hb dX7_isIn_10 (by decide) ?_
  refine lv_goto (tgt := 15) hx hb dX7_isIn_11 (by decide) ?_
  exact ka_rRz C hr hlk rfl rfl dX7_isIn_15
set_option maxHeartbeats 4000000 in
set_option maxRecDepth 100000 in
theorem cg_X7_isIn_324 (l : Launch) (D : va_G) (F : Nat → Prop) (x0 : Int32) (hx0 : x0.toInt ≤ -1) : ka_R l D F yX7_isIn wsX7_isIn 0 0 [.int x0, .int 1, .int 5] [] [] (fun v => v = some (.int 0)) := by
  refine ka_R_of (cc := cX7_isIn) (maxL := 3) (ret := (some .boolean)) (by decide) rfl (Nat.le_of_ble_eq_true rfl) ?_
  intro p e s m below meth c ls C hr hlk hP hK hE hN hl
  have hS : va_S (fun _ => False) s.heap s.heap [] := va_S.rf
  have C : CallFix p m c cX7_isIn 3 s [.int x0, .int 1, .int 5].toArray wsX7_isIn RX7 := C
  obtain ⟨hx, hb, hml, hown, hts⟩ := id C
  have hl : lv_has ls 3 [(0, .int x0), (1, .int 1), (2, .int 5)] := hl
  have rx0 := ka_rng x0
  refine lv_iload_n hx hb dX7_isIn_0 rfl (lv_at hl 0 rfl) ?_
  refine lv_iload_n hx hb dX7_isIn_1 rfl (lv_at hl 1 rfl) ?_
  refine lv_icmp_lt (tgt := 14) hx hb dX7_isIn_2 (by decide) (fun _ => ?_) (fun c_ => absurd (by rw [ka_lt', show ((1 : Int32)).toInt = 1 from by decide]; omega) c_)
  refine lv_iconst (v := 0) hx hb dX7_isIn_14 (by decide) ?_
  exact ka_rRz C hr hlk rfl rfl dX7_isIn_15
set_option maxHeartbeats 4000000 in
set_option maxRecDepth 100000 in
theorem cg_X7_set_322 (l : Launch) (D : va_G) (F : Nat → Prop) (a0 : Nat) (x0 : Int32) (hx0 : x0.toInt ≤ -1) : ka_R l D F yX7_set wsX7_set 1 22 [.ref a0, .int 1, .int x0] [] [] (fun v => v = some (.int 0)) := by
  refine ka_R_of (cc := cX7_set) (maxL := 3) (ret := (some .boolean)) (by decide) rfl (Nat.le_of_ble_eq_true rfl) ?_
  intro p e s m below meth c ls C hr hlk hP hK hE hN hl
  have hS : va_S (fun _ => False) s.heap s.heap [] := va_S.rf
  have C : CallFix p m c cX7_set 3 s [.ref a0, .int 1, .int x0].toArray wsX7_set RX7 := C
  obtain ⟨hx, hb, hml, hown, hts⟩ := id C
  have hl : lv_has ls 3 [(0, .ref a0), (1, .int 1), (2, .int x0)] := hl
  have rx0 := ka_rng x0
  refine lv_iload_n hx hb dX7_set_0 rfl (lv_at hl 1 rfl) ?_
  refine lv_iconst (v := 0) hx hb dX7_set_1 (by decide) ?_
  refine lv_iconst (v := 2) hx hb dX7_set_2 (by decide) ?_
  refine ka_RS (n := 3) C (cg_X7_isIn_323 l D F ) gX7_set_X7_isIn rfl (by decide +kernel) ⟨Nat.le_of_ble_eq_true rfl, Nat.le_of_ble_eq_true rfl⟩ hK hP hS hE hN [] rfl [] rfl rfl hl.1 (rest := []) rfl (Nat.le_of_ble_eq_true rfl) dX7_set_3 ⟨Nat.le_of_ble_eq_true rfl, Nat.le_of_ble_eq_true rfl⟩ (fun v hv => ?_)
  subst hv
  refine ka_stk (w := [.int 1]) rfl ?_
  refine lv_if_eq (tgt := 44) hx hb dX7_set_6 (by decide) (fun c_ => absurd c_ (by decide)) (fun _ => ?_)
  refine lv_iload_n hx hb dX7_set_9 rfl (lv_at hl 2 rfl) ?_
  refine lv_iload_n hx hb dX7_set_10 rfl (lv_at hl 1 rfl) ?_
  refine lv_if_ne (tgt := 18) hx hb dX7_set_11 (by decide) (fun _ => ?_) (fun c_ => absurd c_ (by decide))
  refine lv_iconst (v := 1) hx hb dX7_set_18 (by decide) ?_
  refine lv_iload_n hx hb dX7_set_19 rfl (lv_at hl 1 rfl) ?_
  refine lv_if_ne (tgt := 27) hx hb dX7_set_20 (by decide) (fun _ => ?_) (fun c_ => absurd c_ (by decide))
  refine lv_iload_n hx hb dX7_set_27 rfl (lv_at hl 1 rfl) ?_
  refine lv_iconst (v := 1) hx hb dX7_set_28 (by decide) ?_
  refine lv_icmp_ne (tgt := 36) hx hb dX7_set_29 (by decide) (fun c_ => absurd (by decide) c_) (fun _ => ?_)
  refine lv_iconst (v := 5) hx hb dX7_set_32 (by decide) ?_
  refine lv_goto (tgt := 38) hx hb dX7_set_33 (by decide) ?_
  refine ka_RS (n := 3) C (cg_X7_isIn_324 l D F x0 (by omega)) gX7_set_X7_isIn rfl (by decide +kernel) ⟨Nat.le_of_ble_eq_true rfl, Nat.le_of_ble_eq_true rfl⟩ hK hP hS hE hN [] rfl [] rfl rfl hl.1 (rest := []) rfl (Nat.le_of_ble_eq_true rfl) dX7_set_38 ⟨Nat.le_of_ble_eq_true rfl, Nat.le_of_ble_eq_true rfl⟩ (fun v hv => ?_)
  subst hv
  refine ka_stk (w := [.int 0]) rfl ?_
  refine lv_if_ne (tgt := 46) hx hb dX7_set_41 (by decide) (fun c_ => absurd (by decide) c_) (fun _ => ?_)
  refine lv_iconst (v := 0) hx hb dX7_set_44 (by decide) ?_
  exact ka_rRz C hr hlk rfl rfl dX7_set_45
set_option maxHeartbeats 4000000 in
set_option maxRecDepth 100000 in
theorem cg_X6_set_325 (l : Launch) (D : va_G) (F : Nat → Prop) (a0 : Nat) : ka_R l D F yX6_set wsX6_set 0 0 [.ref a0, .int 1, .int 0] [] [] (fun v => v = some (.int 0)) := by
  refine ka_R_of (cc := cX6_set) (maxL := 3) (ret := (some .boolean)) (by decide) rfl (Nat.le_of_ble_eq_true rfl) ?_
  intro p e s m below meth c ls C hr hlk hP hK hE hN hl
  have hS : va_S (fun _ => False) s.heap s.heap [] := va_S.rf
  have C : CallFix p m c cX6_set 3 s [.ref a0, .int 1, .int 0].toArray wsX6_set RX6 := C
  obtain ⟨hx, hb, hml, hown, hts⟩ := id C
  have hl : lv_has ls 3 [(0, .ref a0), (1, .int 1), (2, .int 0)] := hl
  refine lv_iload_n hx hb dX6_set_0 rfl (lv_at hl 1 rfl) ?_
  refine lv_tableIn (off := 45) (tgt := 46) hx hb dX6_set_1 (by decide) (by decide) (by decide) (by decide) ?_
  refine lv_iload_n hx hb dX6_set_46 rfl (lv_at hl 2 rfl) ?_
  refine lv_iconst (v := 1) hx hb dX6_set_47 (by decide) ?_
  refine lv_icmp_lt (tgt := 56) hx hb dX6_set_48 (by decide) (fun _ => ?_) (fun c_ => absurd (by decide) c_)
  refine lv_iconst (v := 0) hx hb dX6_set_56 (by decide) ?_
  exact ka_rRz C hr hlk rfl rfl dX6_set_57
set_option maxHeartbeats 4000000 in
set_option maxRecDepth 100000 in
theorem cg_X7_isIn_326 (l : Launch) (D : va_G) (F : Nat → Prop) : ka_R l D F yX7_isIn wsX7_isIn 0 0 [.int 0, .int 1, .int 5] [] [] (fun v => v = some (.int 0)) := by
  refine ka_R_of (cc := cX7_isIn) (maxL := 3) (ret := (some .boolean)) (by decide) rfl (Nat.le_of_ble_eq_true rfl) ?_
  intro p e s m below meth c ls C hr hlk hP hK hE hN hl
  have hS : va_S (fun _ => False) s.heap s.heap [] := va_S.rf
  have C : CallFix p m c cX7_isIn 3 s [.int 0, .int 1, .int 5].toArray wsX7_isIn RX7 := C
  obtain ⟨hx, hb, hml, hown, hts⟩ := id C
  have hl : lv_has ls 3 [(0, .int 0), (1, .int 1), (2, .int 5)] := hl
  refine lv_iload_n hx hb dX7_isIn_0 rfl (lv_at hl 0 rfl) ?_
  refine lv_iload_n hx hb dX7_isIn_1 rfl (lv_at hl 1 rfl) ?_
  refine lv_icmp_lt (tgt := 14) hx hb dX7_isIn_2 (by decide) (fun _ => ?_) (fun c_ => absurd (by decide) c_)
  refine lv_iconst (v := 0) hx hb dX7_isIn_14 (by decide) ?_
  exact ka_rRz C hr hlk rfl rfl dX7_isIn_15
set_option maxHeartbeats 4000000 in
set_option maxRecDepth 100000 in
theorem cg_X7_isIn_328 (l : Launch) (D : va_G) (F : Nat → Prop) : ka_R l D F yX7_isIn wsX7_isIn 0 0 [.int 0, .int 1, .int 5] [] [] (fun v => v = some (.int 0)) := by
  refine ka_R_of (cc := cX7_isIn) (maxL := 3) (ret := (some .boolean)) (by decide) rfl (Nat.le_of_ble_eq_true rfl) ?_
  intro p e s m below meth c ls C hr hlk hP hK hE hN hl
  have hS : va_S (fun _ => False) s.heap s.heap [] := va_S.rf
  have C : CallFix p m c cX7_isIn 3 s [.int 0, .int 1, .int 5].toArray wsX7_isIn RX7 := C
  obtain ⟨hx, hb, hml, hown, hts⟩ := id C
  have hl : lv_has ls 3 [(0, .int 0), (1, .int 1), (2, .int 5)] := hl
  refine lv_iload_n hx hb dX7_isIn_0 rfl (lv_at hl 0 rfl) ?_
  refine lv_iload_n hx hb dX7_isIn_1 rfl (lv_at hl 1 rfl) ?_
  refine lv_icmp_lt (tgt := 14) hx hb dX7_isIn_2 (by decide) (fun _ => ?_) (fun c_ => absurd (by decide) c_)
  refine lv_iconst (v := 0) hx hb dX7_isIn_14 (by decide) ?_
  exact ka_rRz C hr hlk rfl rfl dX7_isIn_15
set_option maxHeartbeats 4000000 in
set_option maxRecDepth 100000 in
theorem cg_X7_set_327 (l : Launch) (D : va_G) (F : Nat → Prop) (a0 : Nat) : ka_R l D F yX7_set wsX7_set 1 22 [.ref a0, .int 1, .int 0] [] [] (fun v => v = some (.int 0)) := by
  refine ka_R_of (cc := cX7_set) (maxL := 3) (ret := (some .boolean)) (by decide) rfl (Nat.le_of_ble_eq_true rfl) ?_
  intro p e s m below meth c ls C hr hlk hP hK hE hN hl
  have hS : va_S (fun _ => False) s.heap s.heap [] := va_S.rf
  have C : CallFix p m c cX7_set 3 s [.ref a0, .int 1, .int 0].toArray wsX7_set RX7 := C
  obtain ⟨hx, hb, hml, hown, hts⟩ := id C
  have hl : lv_has ls 3 [(0, .ref a0), (1, .int 1), (2, .int 0)] := hl
  refine lv_iload_n hx hb dX7_set_0 rfl (lv_at hl 1 rfl) ?_
  refine lv_iconst (v := 0) hx hb dX7_set_1 (by decide) ?_
  refine lv_iconst (v := 2) hx hb dX7_set_2 (by decide) ?_
  refine ka_RS (n := 3) C (cg_X7_isIn_323 l D F ) gX7_set_X7_isIn rfl (by decide +kernel) ⟨Nat.le_of_ble_eq_true rfl, Nat.le_of_ble_eq_true rfl⟩ hK hP hS hE hN [] rfl [] rfl rfl hl.1 (rest := []) rfl (Nat.le_of_ble_eq_true rfl) dX7_set_3 ⟨Nat.le_of_ble_eq_true rfl, Nat.le_of_ble_eq_true rfl⟩ (fun v hv => ?_)
  subst hv
  refine ka_stk (w := [.int 1]) rfl ?_
  refine lv_if_eq (tgt := 44) hx hb dX7_set_6 (by decide) (fun c_ => absurd c_ (by decide)) (fun _ => ?_)
  refine lv_iload_n hx hb dX7_set_9 rfl (lv_at hl 2 rfl) ?_
  refine lv_iload_n hx hb dX7_set_10 rfl (lv_at hl 1 rfl) ?_
  refine lv_if_ne (tgt := 18) hx hb dX7_set_11 (by decide) (fun _ => ?_) (fun c_ => absurd c_ (by decide))
  refine lv_iconst (v := 1) hx hb dX7_set_18 (by decide) ?_
  refine lv_iload_n hx hb dX7_set_19 rfl (lv_at hl 1 rfl) ?_
  refine lv_if_ne (tgt := 27) hx hb dX7_set_20 (by decide) (fun _ => ?_) (fun c_ => absurd c_ (by decide))
  refine lv_iload_n hx hb dX7_set_27 rfl (lv_at hl 1 rfl) ?_
  refine lv_iconst (v := 1) hx hb dX7_set_28 (by decide) ?_
  refine lv_icmp_ne (tgt := 36) hx hb dX7_set_29 (by decide) (fun c_ => absurd (by decide) c_) (fun _ => ?_)
  refine lv_iconst (v := 5) hx hb dX7_set_32 (by decide) ?_
  refine lv_goto (tgt := 38) hx hb dX7_set_33 (by decide) ?_
  refine ka_RS (n := 3) C (cg_X7_isIn_328 l D F ) gX7_set_X7_isIn rfl (by decide +kernel) ⟨Nat.le_of_ble_eq_true rfl, Nat.le_of_ble_eq_true rfl⟩ hK hP hS hE hN [] rfl [] rfl rfl hl.1 (rest := []) rfl (Nat.le_of_ble_eq_true rfl) dX7_set_38 ⟨Nat.le_of_ble_eq_true rfl, Nat.le_of_ble_eq_true rfl⟩ (fun v hv => ?_)
  subst hv
  refine ka_stk (w := [.int 0]) rfl ?_
  refine lv_if_ne (tgt := 46) hx hb dX7_set_41 (by decide) (fun c_ => absurd (by decide) c_) (fun _ => ?_)
  refine lv_iconst (v := 0) hx hb dX7_set_44 (by decide) ?_
  exact ka_rRz C hr hlk rfl rfl dX7_set_45
theorem lq_365 : Cond.fieldLink RX6 49 "AskedBack" "wrongAhead" "I" ∈ wsX6_set := by decide +kernel
set_option maxHeartbeats 4000000 in
set_option maxRecDepth 100000 in
theorem cg_X6_set_329 (l : Launch) (D : va_G) (F : Nat → Prop) (a0 : Nat) (x0 : Int32) (a1 : Nat) (a2 : Nat) (a3 : Nat) (a4 : Nat) (x1 : Int32) (x2 : Int32) (x3 : Int32) (x4 : Int32) (x5 : Int32) (hx0 : 1 ≤ x0.toInt ∧ x0.toInt ≤ 3) (hx1 : -1 ≤ x1.toInt ∧ x1.toInt ≤ 5) : ka_E l D F yX6_set wsX6_set 0 0 0 0 [.ref a0, .int 1, .int x0] [(a0, .inr (6, [.ref a1, .ref a2, .ref a3, .ref a4, .int x1, .int x2, .int x3, .int x4, .int x5]))] [] (fun (u : Unit) => some (.int 1)) (fun (u : Unit) => True) (fun (u : Unit) => [(a0, .inr (6, [.ref a1, .ref a2, .ref a3, .ref a4, .int x1, .int x2, .int x3, .int x0, .int x5]))]) (fun (u : Unit) => []) := by
  refine ka_E_of (cc := cX6_set) (maxL := 3) (ret := (some .boolean)) (by decide) rfl (Nat.le_of_ble_eq_true rfl) ?_
  intro p e s m below meth c ls A C hr hlk hin hP hK hD hS hA hE hN hl
  have C : CallFix p m c cX6_set 3 s [.ref a0, .int 1, .int x0].toArray wsX6_set RX6 := C
  obtain ⟨hx, hb, hml, hown, hts⟩ := id C
  have hl : lv_has ls 3 [(0, .ref a0), (1, .int 1), (2, .int x0)] := hl
  have rx0 := ka_rng x0
  have rx1 := ka_rng x1
  have rx2 := ka_rng x2
  have rx3 := ka_rng x3
  have rx4 := ka_rng x4
  have rx5 := ka_rng x5
  refine lv_iload_n hx hb dX6_set_0 rfl (lv_at hl 1 rfl) ?_
  refine lv_tableIn (off := 45) (tgt := 46) hx hb dX6_set_1 (by decide) (by decide) (by decide) (by decide) ?_
  refine lv_iload_n hx hb dX6_set_46 rfl (lv_at hl 2 rfl) ?_
  refine lv_iconst (v := 1) hx hb dX6_set_47 (by decide) ?_
  refine lv_icmp_lt (tgt := 56) hx hb dX6_set_48 (by decide) (fun c_ => absurd c_ (by rw [ka_lt', show ((1 : Int32)).toInt = 1 from by decide]; omega)) (fun _ => ?_)
  refine lv_iload_n hx hb dX6_set_51 rfl (lv_at hl 2 rfl) ?_
  refine lv_iconst (v := 5) hx hb dX6_set_52 (by decide) ?_
  refine lv_icmp_le (tgt := 58) hx hb dX6_set_53 (by decide) (fun _ => ?_) (fun c_ => absurd (by rw [ka_le', show ((5 : Int32)).toInt = 5 from by decide]; omega) c_)
  refine lv_aload_n hx hb dX6_set_58 rfl (lv_at hl 0 rfl) ?_
  refine lv_iload_n hx hb dX6_set_59 rfl (lv_at hl 2 rfl) ?_
  refine ka_put C lq_361 tyX6 tyX6_ok nmX6 rfl hK hP hD hS 0 rfl 7 (by decide) lq_365 rfl rfl rfl (Nat.le_of_ble_eq_true rfl) dX6_set_60 (fun H locs hP hD hS => ?_)
  have hP : va_P D vwCl [(a0, .inr (6, [.ref a1, .ref a2, .ref a3, .ref a4, .int x1, .int x2, .int x3, .int x0, .int x5]))] H := hP
  have hD : va_D A [(a0, .inr (6, [.ref a1, .ref a2, .ref a3, .ref a4, .int x1, .int x2, .int x3, .int x0, .int x5]))] := hD
  refine lv_iconst (v := 1) hx hb dX6_set_63 (by decide) ?_
  exact ka_rEz C hr hlk rfl (Nat.le_of_ble_eq_true rfl) (Nat.le_of_ble_eq_true rfl) hS (ka_qE () rfl trivial hK hP hD hS [0] (by decide) rfl [] rfl) dX6_set_64
set_option maxHeartbeats 4000000 in
set_option maxRecDepth 100000 in
theorem cg_X7_isIn_330 (l : Launch) (D : va_G) (F : Nat → Prop) (x0 : Int32) (hx0 : 1 ≤ x0.toInt ∧ x0.toInt ≤ 3) : ka_R l D F yX7_isIn wsX7_isIn 0 0 [.int x0, .int 1, .int 5] [] [] (fun v => v = some (.int 1)) := by
  refine ka_R_of (cc := cX7_isIn) (maxL := 3) (ret := (some .boolean)) (by decide) rfl (Nat.le_of_ble_eq_true rfl) ?_
  intro p e s m below meth c ls C hr hlk hP hK hE hN hl
  have hS : va_S (fun _ => False) s.heap s.heap [] := va_S.rf
  have C : CallFix p m c cX7_isIn 3 s [.int x0, .int 1, .int 5].toArray wsX7_isIn RX7 := C
  obtain ⟨hx, hb, hml, hown, hts⟩ := id C
  have hl : lv_has ls 3 [(0, .int x0), (1, .int 1), (2, .int 5)] := hl
  have rx0 := ka_rng x0
  refine lv_iload_n hx hb dX7_isIn_0 rfl (lv_at hl 0 rfl) ?_
  refine lv_iload_n hx hb dX7_isIn_1 rfl (lv_at hl 1 rfl) ?_
  refine lv_icmp_lt (tgt := 14) hx hb dX7_isIn_2 (by decide) (fun c_ => absurd c_ (by rw [ka_lt', show ((1 : Int32)).toInt = 1 from by decide]; omega)) (fun _ => ?_)
  refine lv_iload_n hx hb dX7_isIn_5 rfl (lv_at hl 0 rfl) ?_
  refine lv_iload_n hx hb dX7_isIn_6 rfl (lv_at hl 2 rfl) ?_
  refine lv_icmp_gt (tgt := 14) hx hb dX7_isIn_7 (by decide) (fun c_ => absurd c_ (by rw [ka_lt', show ((5 : Int32)).toInt = 5 from by decide]; omega)) (fun _ => ?_)
  refine lv_iconst (v := 1) hx hb dX7_isIn_10 (by decide) ?_
  refine lv_goto (tgt := 15) hx hb dX7_isIn_11 (by decide) ?_
  exact ka_rRz C hr hlk rfl rfl dX7_isIn_15
theorem lq_366 : Cond.fieldLink RX7 40 "AskedBackModel" "tries" "I" ∈ wsX7_set := by decide +kernel
set_option maxHeartbeats 4000000 in
set_option maxRecDepth 100000 in
theorem cg_X7_set_331 (l : Launch) (D : va_G) (F : Nat → Prop) (a0 : Nat) (x0 : Int32) (a1 : Nat) (x1 : Int32) (a2 : Nat) (a3 : Nat) (a4 : Nat) (a5 : Nat) (a6 : Nat) (a7 : Nat) (a8 : Nat) (x2 : Int32) (x3 : Int32) (x4 : Int32) (x5 : Int32) (x6 : Int32) (x7 : Int32) (x8 : Int32) (a9 : Nat) (a10 : Nat) (a11 : Nat) (a12 : Nat) (a13 : Nat) (a14 : Nat) (x9 : Int32) (x10 : Int32) (x11 : Int32) (x12 : Int32) (x13 : Int32) (x14 : Int32) (hx0 : 1 ≤ x0.toInt ∧ x0.toInt ≤ 3) (hx1 : 0 ≤ x1.toInt ∧ x1.toInt ≤ 80) (hx2 : -1 ≤ x2.toInt ∧ x2.toInt ≤ 5) (hx5 : 1 ≤ x5.toInt ∧ x5.toInt ≤ 8) (hx6 : 0 ≤ x6.toInt ∧ x6.toInt ≤ 40) (hx8 : 0 ≤ x8.toInt ∧ x8.toInt ≤ 10) (hx9 : 0 ≤ x9.toInt ∧ x9.toInt ≤ 60) (hx10 : 0 ≤ x10.toInt ∧ x10.toInt ≤ 60) (hx11 : 0 ≤ x11.toInt ∧ x11.toInt ≤ 60) (hx12 : 0 ≤ x12.toInt ∧ x12.toInt ≤ 8) (hx14 : 0 ≤ x14.toInt ∧ x14.toInt ≤ 1) : ka_E l D F yX7_set wsX7_set 1 22 0 0 [.ref a0, .int 1, .int x0] [(a0, .inr (7, [.ref a1, .int x1, .ref a2, .ref a3, .ref a4, .ref a5, .ref a6, .ref a7, .ref a8, .int x2, .int x3, .int x4, .int x5, .int x6, .int x7, .int x8, .ref a9, .ref a10, .ref a11, .ref a12, .ref a13, .ref a14, .int x9, .int x10, .int x11, .int x12, .int x13, .int x14]))] [] (fun (u : Unit) => some (.int 1)) (fun (u : Unit) => True) (fun (u : Unit) => [(a0, .inr (7, [.ref a1, .int x1, .ref a2, .ref a3, .ref a4, .ref a5, .ref a6, .ref a7, .ref a8, .int x2, .int x3, .int x0, .int x5, .int x6, .int x7, .int x8, .ref a9, .ref a10, .ref a11, .ref a12, .ref a13, .ref a14, .int x9, .int x10, .int x11, .int x12, .int x13, .int x14]))]) (fun (u : Unit) => []) := by
  refine ka_E_of (cc := cX7_set) (maxL := 3) (ret := (some .boolean)) (by decide) rfl (Nat.le_of_ble_eq_true rfl) ?_
  intro p e s m below meth c ls A C hr hlk hin hP hK hD hS hA hE hN hl
  have C : CallFix p m c cX7_set 3 s [.ref a0, .int 1, .int x0].toArray wsX7_set RX7 := C
  obtain ⟨hx, hb, hml, hown, hts⟩ := id C
  have hl : lv_has ls 3 [(0, .ref a0), (1, .int 1), (2, .int x0)] := hl
  have rx0 := ka_rng x0
  have rx1 := ka_rng x1
  have rx2 := ka_rng x2
  have rx3 := ka_rng x3
  have rx4 := ka_rng x4
  have rx5 := ka_rng x5
  have rx6 := ka_rng x6
  have rx7 := ka_rng x7
  have rx8 := ka_rng x8
  have rx9 := ka_rng x9
  have rx10 := ka_rng x10
  have rx11 := ka_rng x11
  have rx12 := ka_rng x12
  have rx13 := ka_rng x13
  have rx14 := ka_rng x14
  refine lv_iload_n hx hb dX7_set_0 rfl (lv_at hl 1 rfl) ?_
  refine lv_iconst (v := 0) hx hb dX7_set_1 (by decide) ?_
  refine lv_iconst (v := 2) hx hb dX7_set_2 (by decide) ?_
  refine ka_RS (n := 3) C (cg_X7_isIn_320 l D F ) gX7_set_X7_isIn rfl (by decide +kernel) ⟨Nat.le_of_ble_eq_true rfl, Nat.le_of_ble_eq_true rfl⟩ hK hP hS hE hN [] rfl [] rfl rfl hl.1 (rest := []) rfl (Nat.le_of_ble_eq_true rfl) dX7_set_3 ⟨Nat.le_of_ble_eq_true rfl, Nat.le_of_ble_eq_true rfl⟩ (fun v hv => ?_)
  subst hv
  refine ka_stk (w := [.int 1]) rfl ?_
  refine lv_if_eq (tgt := 44) hx hb dX7_set_6 (by decide) (fun c_ => absurd c_ (by decide)) (fun _ => ?_)
  refine lv_iload_n hx hb dX7_set_9 rfl (lv_at hl 2 rfl) ?_
  refine lv_iload_n hx hb dX7_set_10 rfl (lv_at hl 1 rfl) ?_
  refine lv_if_ne (tgt := 18) hx hb dX7_set_11 (by decide) (fun _ => ?_) (fun c_ => absurd c_ (by decide))
  refine lv_iconst (v := 1) hx hb dX7_set_18 (by decide) ?_
  refine lv_iload_n hx hb dX7_set_19 rfl (lv_at hl 1 rfl) ?_
  refine lv_if_ne (tgt := 27) hx hb dX7_set_20 (by decide) (fun _ => ?_) (fun c_ => absurd c_ (by decide))
  refine lv_iload_n hx hb dX7_set_27 rfl (lv_at hl 1 rfl) ?_
  refine lv_iconst (v := 1) hx hb dX7_set_28 (by decide) ?_
  refine lv_icmp_ne (tgt := 36) hx hb dX7_set_29 (by decide) (fun c_ => absurd (by decide) c_) (fun _ => ?_)
  refine lv_iconst (v := 5) hx hb dX7_set_32 (by decide) ?_
  refine lv_goto (tgt := 38) hx hb dX7_set_33 (by decide) ?_
  refine ka_RS (n := 3) C (cg_X7_isIn_330 l D F x0 ⟨by omega, by omega⟩) gX7_set_X7_isIn rfl (by decide +kernel) ⟨Nat.le_of_ble_eq_true rfl, Nat.le_of_ble_eq_true rfl⟩ hK hP hS hE hN [] rfl [] rfl rfl hl.1 (rest := []) rfl (Nat.le_of_ble_eq_true rfl) dX7_set_38 ⟨Nat.le_of_ble_eq_true rfl, Nat.le_of_ble_eq_true rfl⟩ (fun v hv => ?_)
  subst hv
  refine ka_stk (w := [.int 1]) rfl ?_
  refine lv_if_ne (tgt := 46) hx hb dX7_set_41 (by decide) (fun _ => ?_) (fun c_ => absurd c_ (by decide))
  refine lv_iload_n hx hb dX7_set_46 rfl (lv_at hl 1 rfl) ?_
  refine lv_if_ne (tgt := 58) hx hb dX7_set_47 (by decide) (fun _ => ?_) (fun c_ => absurd c_ (by decide))
  refine lv_iload_n hx hb dX7_set_58 rfl (lv_at hl 1 rfl) ?_
  refine lv_iconst (v := 1) hx hb dX7_set_59 (by decide) ?_
  refine lv_icmp_ne (tgt := 71) hx hb dX7_set_60 (by decide) (fun c_ => absurd (by decide) c_) (fun _ => ?_)
  refine lv_aload_n hx hb dX7_set_63 rfl (lv_at hl 0 rfl) ?_
  refine lv_iload_n hx hb dX7_set_64 rfl (lv_at hl 2 rfl) ?_
  refine ka_put C lq_363 tyX7 tyX7_ok nmX7 rfl hK hP hD hS 0 rfl 11 (by decide) lq_366 rfl rfl rfl (Nat.le_of_ble_eq_true rfl) dX7_set_65 (fun H locs hP hD hS => ?_)
  have hP : va_P D vwCl [(a0, .inr (7, [.ref a1, .int x1, .ref a2, .ref a3, .ref a4, .ref a5, .ref a6, .ref a7, .ref a8, .int x2, .int x3, .int x0, .int x5, .int x6, .int x7, .int x8, .ref a9, .ref a10, .ref a11, .ref a12, .ref a13, .ref a14, .int x9, .int x10, .int x11, .int x12, .int x13, .int x14]))] H := hP
  have hD : va_D A [(a0, .inr (7, [.ref a1, .int x1, .ref a2, .ref a3, .ref a4, .ref a5, .ref a6, .ref a7, .ref a8, .int x2, .int x3, .int x0, .int x5, .int x6, .int x7, .int x8, .ref a9, .ref a10, .ref a11, .ref a12, .ref a13, .ref a14, .int x9, .int x10, .int x11, .int x12, .int x13, .int x14]))] := hD
  refine lv_goto (tgt := 76) hx hb dX7_set_68 (by decide) ?_
  refine lv_iconst (v := 1) hx hb dX7_set_76 (by decide) ?_
  exact ka_rEz C hr hlk rfl (Nat.le_of_ble_eq_true rfl) (Nat.le_of_ble_eq_true rfl) hS (ka_qE () rfl trivial hK hP hD hS [0] (by decide) rfl [] rfl) dX7_set_77
set_option maxHeartbeats 4000000 in
set_option maxRecDepth 100000 in
theorem cg_X6_set_332 (l : Launch) (D : va_G) (F : Nat → Prop) (a0 : Nat) (x0 : Int32) (a1 : Nat) (a2 : Nat) (a3 : Nat) (a4 : Nat) (x1 : Int32) (x2 : Int32) (x3 : Int32) (x4 : Int32) (x5 : Int32) (hx0 : 4 ≤ x0.toInt ∧ x0.toInt ≤ 5) (hx1 : -1 ≤ x1.toInt ∧ x1.toInt ≤ 5) : ka_E l D F yX6_set wsX6_set 0 0 0 0 [.ref a0, .int 1, .int x0] [(a0, .inr (6, [.ref a1, .ref a2, .ref a3, .ref a4, .int x1, .int x2, .int x3, .int x4, .int x5]))] [] (fun (u : Unit) => some (.int 1)) (fun (u : Unit) => True) (fun (u : Unit) => [(a0, .inr (6, [.ref a1, .ref a2, .ref a3, .ref a4, .int x1, .int x2, .int x3, .int x0, .int x5]))]) (fun (u : Unit) => []) := by
  refine ka_E_of (cc := cX6_set) (maxL := 3) (ret := (some .boolean)) (by decide) rfl (Nat.le_of_ble_eq_true rfl) ?_
  intro p e s m below meth c ls A C hr hlk hin hP hK hD hS hA hE hN hl
  have C : CallFix p m c cX6_set 3 s [.ref a0, .int 1, .int x0].toArray wsX6_set RX6 := C
  obtain ⟨hx, hb, hml, hown, hts⟩ := id C
  have hl : lv_has ls 3 [(0, .ref a0), (1, .int 1), (2, .int x0)] := hl
  have rx0 := ka_rng x0
  have rx1 := ka_rng x1
  have rx2 := ka_rng x2
  have rx3 := ka_rng x3
  have rx4 := ka_rng x4
  have rx5 := ka_rng x5
  refine lv_iload_n hx hb dX6_set_0 rfl (lv_at hl 1 rfl) ?_
  refine lv_tableIn (off := 45) (tgt := 46) hx hb dX6_set_1 (by decide) (by decide) (by decide) (by decide) ?_
  refine lv_iload_n hx hb dX6_set_46 rfl (lv_at hl 2 rfl) ?_
  refine lv_iconst (v := 1) hx hb dX6_set_47 (by decide) ?_
  refine lv_icmp_lt (tgt := 56) hx hb dX6_set_48 (by decide) (fun c_ => absurd c_ (by rw [ka_lt', show ((1 : Int32)).toInt = 1 from by decide]; omega)) (fun _ => ?_)
  refine lv_iload_n hx hb dX6_set_51 rfl (lv_at hl 2 rfl) ?_
  refine lv_iconst (v := 5) hx hb dX6_set_52 (by decide) ?_
  refine lv_icmp_le (tgt := 58) hx hb dX6_set_53 (by decide) (fun _ => ?_) (fun c_ => absurd (by rw [ka_le', show ((5 : Int32)).toInt = 5 from by decide]; omega) c_)
  refine lv_aload_n hx hb dX6_set_58 rfl (lv_at hl 0 rfl) ?_
  refine lv_iload_n hx hb dX6_set_59 rfl (lv_at hl 2 rfl) ?_
  refine ka_put C lq_361 tyX6 tyX6_ok nmX6 rfl hK hP hD hS 0 rfl 7 (by decide) lq_365 rfl rfl rfl (Nat.le_of_ble_eq_true rfl) dX6_set_60 (fun H locs hP hD hS => ?_)
  have hP : va_P D vwCl [(a0, .inr (6, [.ref a1, .ref a2, .ref a3, .ref a4, .int x1, .int x2, .int x3, .int x0, .int x5]))] H := hP
  have hD : va_D A [(a0, .inr (6, [.ref a1, .ref a2, .ref a3, .ref a4, .int x1, .int x2, .int x3, .int x0, .int x5]))] := hD
  refine lv_iconst (v := 1) hx hb dX6_set_63 (by decide) ?_
  exact ka_rEz C hr hlk rfl (Nat.le_of_ble_eq_true rfl) (Nat.le_of_ble_eq_true rfl) hS (ka_qE () rfl trivial hK hP hD hS [0] (by decide) rfl [] rfl) dX6_set_64
set_option maxHeartbeats 4000000 in
set_option maxRecDepth 100000 in
theorem cg_X7_isIn_333 (l : Launch) (D : va_G) (F : Nat → Prop) (x0 : Int32) (hx0 : 4 ≤ x0.toInt ∧ x0.toInt ≤ 5) : ka_R l D F yX7_isIn wsX7_isIn 0 0 [.int x0, .int 1, .int 5] [] [] (fun v => v = some (.int 1)) := by
  refine ka_R_of (cc := cX7_isIn) (maxL := 3) (ret := (some .boolean)) (by decide) rfl (Nat.le_of_ble_eq_true rfl) ?_
  intro p e s m below meth c ls C hr hlk hP hK hE hN hl
  have hS : va_S (fun _ => False) s.heap s.heap [] := va_S.rf
  have C : CallFix p m c cX7_isIn 3 s [.int x0, .int 1, .int 5].toArray wsX7_isIn RX7 := C
  obtain ⟨hx, hb, hml, hown, hts⟩ := id C
  have hl : lv_has ls 3 [(0, .int x0), (1, .int 1), (2, .int 5)] := hl
  have rx0 := ka_rng x0
  refine lv_iload_n hx hb dX7_isIn_0 rfl (lv_at hl 0 rfl) ?_
  refine lv_iload_n hx hb dX7_isIn_1 rfl (lv_at hl 1 rfl) ?_
  refine lv_icmp_lt (tgt := 14) hx hb dX7_isIn_2 (by decide) (fun c_ => absurd c_ (by rw [ka_lt', show ((1 : Int32)).toInt = 1 from by decide]; omega)) (fun _ => ?_)
  refine lv_iload_n hx hb dX7_isIn_5 rfl (lv_at hl 0 rfl) ?_
  refine lv_iload_n hx hb dX7_isIn_6 rfl (lv_at hl 2 rfl) ?_
  refine lv_icmp_gt (tgt := 14) hx hb dX7_isIn_7 (by decide) (fun c_ => absurd c_ (by rw [ka_lt', show ((5 : Int32)).toInt = 5 from by decide]; omega)) (fun _ => ?_)
  refine lv_iconst (v := 1) hx hb dX7_isIn_10 (by decide) ?_
  refine lv_goto (tgt := 15) hx hb dX7_isIn_11 (by decide) ?_
  exact ka_rRz C hr hlk rfl rfl dX7_isIn_15
set_option maxHeartbeats 4000000 in
set_option maxRecDepth 100000 in
theorem cg_X7_set_334 (l : Launch) (D : va_G) (F : Nat → Prop) (a0 : Nat) (x0 : Int32) (a1 : Nat) (x1 : Int32) (a2 : Nat) (a3 : Nat) (a4 : Nat) (a5 : Nat) (a6 : Nat) (a7 : Nat) (a8 : Nat) (x2 : Int32) (x3 : Int32) (x4 : Int32) (x5 : Int32) (x6 : Int32) (x7 : Int32) (x8 : Int32) (a9 : Nat) (a10 : Nat) (a11 : Nat) (a12 : Nat) (a13 : Nat) (a14 : Nat) (x9 : Int32) (x10 : Int32) (x11 : Int32) (x12 : Int32) (x13 : Int32) (x14 : Int32) (hx0 : 4 ≤ x0.toInt ∧ x0.toInt ≤ 5) (hx1 : 0 ≤ x1.toInt ∧ x1.toInt ≤ 80) (hx2 : -1 ≤ x2.toInt ∧ x2.toInt ≤ 5) (hx5 : 1 ≤ x5.toInt ∧ x5.toInt ≤ 8) (hx6 : 0 ≤ x6.toInt ∧ x6.toInt ≤ 40) (hx8 : 0 ≤ x8.toInt ∧ x8.toInt ≤ 10) (hx9 : 0 ≤ x9.toInt ∧ x9.toInt ≤ 60) (hx10 : 0 ≤ x10.toInt ∧ x10.toInt ≤ 60) (hx11 : 0 ≤ x11.toInt ∧ x11.toInt ≤ 60) (hx12 : 0 ≤ x12.toInt ∧ x12.toInt ≤ 8) (hx14 : 0 ≤ x14.toInt ∧ x14.toInt ≤ 1) : ka_E l D F yX7_set wsX7_set 1 22 0 0 [.ref a0, .int 1, .int x0] [(a0, .inr (7, [.ref a1, .int x1, .ref a2, .ref a3, .ref a4, .ref a5, .ref a6, .ref a7, .ref a8, .int x2, .int x3, .int x4, .int x5, .int x6, .int x7, .int x8, .ref a9, .ref a10, .ref a11, .ref a12, .ref a13, .ref a14, .int x9, .int x10, .int x11, .int x12, .int x13, .int x14]))] [] (fun (u : Unit) => some (.int 1)) (fun (u : Unit) => True) (fun (u : Unit) => [(a0, .inr (7, [.ref a1, .int x1, .ref a2, .ref a3, .ref a4, .ref a5, .ref a6, .ref a7, .ref a8, .int x2, .int x3, .int x0, .int x5, .int x6, .int x7, .int x8, .ref a9, .ref a10, .ref a11, .ref a12, .ref a13, .ref a14, .int x9, .int x10, .int x11, .int x12, .int x13, .int x14]))]) (fun (u : Unit) => []) := by
  refine ka_E_of (cc := cX7_set) (maxL := 3) (ret := (some .boolean)) (by decide) rfl (Nat.le_of_ble_eq_true rfl) ?_
  intro p e s m below meth c ls A C hr hlk hin hP hK hD hS hA hE hN hl
  have C : CallFix p m c cX7_set 3 s [.ref a0, .int 1, .int x0].toArray wsX7_set RX7 := C
  obtain ⟨hx, hb, hml, hown, hts⟩ := id C
  have hl : lv_has ls 3 [(0, .ref a0), (1, .int 1), (2, .int x0)] := hl
  have rx0 := ka_rng x0
  have rx1 := ka_rng x1
  have rx2 := ka_rng x2
  have rx3 := ka_rng x3
  have rx4 := ka_rng x4
  have rx5 := ka_rng x5
  have rx6 := ka_rng x6
  have rx7 := ka_rng x7
  have rx8 := ka_rng x8
  have rx9 := ka_rng x9
  have rx10 := ka_rng x10
  have rx11 := ka_rng x11
  have rx12 := ka_rng x12
  have rx13 := ka_rng x13
  have rx14 := ka_rng x14
  refine lv_iload_n hx hb dX7_set_0 rfl (lv_at hl 1 rfl) ?_
  refine lv_iconst (v := 0) hx hb dX7_set_1 (by decide) ?_
  refine lv_iconst (v := 2) hx hb dX7_set_2 (by decide) ?_
  refine ka_RS (n := 3) C (cg_X7_isIn_320 l D F ) gX7_set_X7_isIn rfl (by decide +kernel) ⟨Nat.le_of_ble_eq_true rfl, Nat.le_of_ble_eq_true rfl⟩ hK hP hS hE hN [] rfl [] rfl rfl hl.1 (rest := []) rfl (Nat.le_of_ble_eq_true rfl) dX7_set_3 ⟨Nat.le_of_ble_eq_true rfl, Nat.le_of_ble_eq_true rfl⟩ (fun v hv => ?_)
  subst hv
  refine ka_stk (w := [.int 1]) rfl ?_
  refine lv_if_eq (tgt := 44) hx hb dX7_set_6 (by decide) (fun c_ => absurd c_ (by decide)) (fun _ => ?_)
  refine lv_iload_n hx hb dX7_set_9 rfl (lv_at hl 2 rfl) ?_
  refine lv_iload_n hx hb dX7_set_10 rfl (lv_at hl 1 rfl) ?_
  refine lv_if_ne (tgt := 18) hx hb dX7_set_11 (by decide) (fun _ => ?_) (fun c_ => absurd c_ (by decide))
  refine lv_iconst (v := 1) hx hb dX7_set_18 (by decide) ?_
  refine lv_iload_n hx hb dX7_set_19 rfl (lv_at hl 1 rfl) ?_
  refine lv_if_ne (tgt := 27) hx hb dX7_set_20 (by decide) (fun _ => ?_) (fun c_ => absurd c_ (by decide))
  refine lv_iload_n hx hb dX7_set_27 rfl (lv_at hl 1 rfl) ?_
  refine lv_iconst (v := 1) hx hb dX7_set_28 (by decide) ?_
  refine lv_icmp_ne (tgt := 36) hx hb dX7_set_29 (by decide) (fun c_ => absurd (by decide) c_) (fun _ => ?_)
  refine lv_iconst (v := 5) hx hb dX7_set_32 (by decide) ?_
  refine lv_goto (tgt := 38) hx hb dX7_set_33 (by decide) ?_
  refine ka_RS (n := 3) C (cg_X7_isIn_333 l D F x0 ⟨by omega, by omega⟩) gX7_set_X7_isIn rfl (by decide +kernel) ⟨Nat.le_of_ble_eq_true rfl, Nat.le_of_ble_eq_true rfl⟩ hK hP hS hE hN [] rfl [] rfl rfl hl.1 (rest := []) rfl (Nat.le_of_ble_eq_true rfl) dX7_set_38 ⟨Nat.le_of_ble_eq_true rfl, Nat.le_of_ble_eq_true rfl⟩ (fun v hv => ?_)
  subst hv
  refine ka_stk (w := [.int 1]) rfl ?_
  refine lv_if_ne (tgt := 46) hx hb dX7_set_41 (by decide) (fun _ => ?_) (fun c_ => absurd c_ (by decide))
  refine lv_iload_n hx hb dX7_set_46 rfl (lv_at hl 1 rfl) ?_
  refine lv_if_ne (tgt := 58) hx hb dX7_set_47 (by decide) (fun _ => ?_) (fun c_ => absurd c_ (by decide))
  refine lv_iload_n hx hb dX7_set_58 rfl (lv_at hl 1 rfl) ?_
  refine lv_iconst (v := 1) hx hb dX7_set_59 (by decide) ?_
  refine lv_icmp_ne (tgt := 71) hx hb dX7_set_60 (by decide) (fun c_ => absurd (by decide) c_) (fun _ => ?_)
  refine lv_aload_n hx hb dX7_set_63 rfl (lv_at hl 0 rfl) ?_
  refine lv_iload_n hx hb dX7_set_64 rfl (lv_at hl 2 rfl) ?_
  refine ka_put C lq_363 tyX7 tyX7_ok nmX7 rfl hK hP hD hS 0 rfl 11 (by decide) lq_366 rfl rfl rfl (Nat.le_of_ble_eq_true rfl) dX7_set_65 (fun H locs hP hD hS => ?_)
  have hP : va_P D vwCl [(a0, .inr (7, [.ref a1, .int x1, .ref a2, .ref a3, .ref a4, .ref a5, .ref a6, .ref a7, .ref a8, .int x2, .int x3, .int x0, .int x5, .int x6, .int x7, .int x8, .ref a9, .ref a10, .ref a11, .ref a12, .ref a13, .ref a14, .int x9, .int x10, .int x11, .int x12, .int x13, .int x14]))] H := hP
  have hD : va_D A [(a0, .inr (7, [.ref a1, .int x1, .ref a2, .ref a3, .ref a4, .ref a5, .ref a6, .ref a7, .ref a8, .int x2, .int x3, .int x0, .int x5, .int x6, .int x7, .int x8, .ref a9, .ref a10, .ref a11, .ref a12, .ref a13, .ref a14, .int x9, .int x10, .int x11, .int x12, .int x13, .int x14]))] := hD
  refine lv_goto (tgt := 76) hx hb dX7_set_68 (by decide) ?_
  refine lv_iconst (v := 1) hx hb dX7_set_76 (by decide) ?_
  exact ka_rEz C hr hlk rfl (Nat.le_of_ble_eq_true rfl) (Nat.le_of_ble_eq_true rfl) hS (ka_qE () rfl trivial hK hP hD hS [0] (by decide) rfl [] rfl) dX7_set_77
set_option maxHeartbeats 4000000 in
set_option maxRecDepth 100000 in
theorem cg_X6_set_335 (l : Launch) (D : va_G) (F : Nat → Prop) (a0 : Nat) (x0 : Int32) (hx0 : 6 ≤ x0.toInt ∧ x0.toInt ≤ 8) : ka_R l D F yX6_set wsX6_set 0 0 [.ref a0, .int 1, .int x0] [] [] (fun v => v = some (.int 0)) := by
  refine ka_R_of (cc := cX6_set) (maxL := 3) (ret := (some .boolean)) (by decide) rfl (Nat.le_of_ble_eq_true rfl) ?_
  intro p e s m below meth c ls C hr hlk hP hK hE hN hl
  have hS : va_S (fun _ => False) s.heap s.heap [] := va_S.rf
  have C : CallFix p m c cX6_set 3 s [.ref a0, .int 1, .int x0].toArray wsX6_set RX6 := C
  obtain ⟨hx, hb, hml, hown, hts⟩ := id C
  have hl : lv_has ls 3 [(0, .ref a0), (1, .int 1), (2, .int x0)] := hl
  have rx0 := ka_rng x0
  refine lv_iload_n hx hb dX6_set_0 rfl (lv_at hl 1 rfl) ?_
  refine lv_tableIn (off := 45) (tgt := 46) hx hb dX6_set_1 (by decide) (by decide) (by decide) (by decide) ?_
  refine lv_iload_n hx hb dX6_set_46 rfl (lv_at hl 2 rfl) ?_
  refine lv_iconst (v := 1) hx hb dX6_set_47 (by decide) ?_
  refine lv_icmp_lt (tgt := 56) hx hb dX6_set_48 (by decide) (fun c_ => absurd c_ (by rw [ka_lt', show ((1 : Int32)).toInt = 1 from by decide]; omega)) (fun _ => ?_)
  refine lv_iload_n hx hb dX6_set_51 rfl (lv_at hl 2 rfl) ?_
  refine lv_iconst (v := 5) hx hb dX6_set_52 (by decide) ?_
  refine lv_icmp_le (tgt := 58) hx hb dX6_set_53 (by decide) (fun c_ => absurd c_ (by rw [ka_le', show ((5 : Int32)).toInt = 5 from by decide]; omega)) (fun _ => ?_)
  refine lv_iconst (v := 0) hx hb dX6_set_56 (by decide) ?_
  exact ka_rRz C hr hlk rfl rfl dX6_set_57
set_option maxHeartbeats 4000000 in
set_option maxRecDepth 100000 in
theorem cg_X7_isIn_336 (l : Launch) (D : va_G) (F : Nat → Prop) (x0 : Int32) (hx0 : 6 ≤ x0.toInt ∧ x0.toInt ≤ 8) : ka_R l D F yX7_isIn wsX7_isIn 0 0 [.int x0, .int 1, .int 5] [] [] (fun v => v = some (.int 0)) := by
  refine ka_R_of (cc := cX7_isIn) (maxL := 3) (ret := (some .boolean)) (by decide) rfl (Nat.le_of_ble_eq_true rfl) ?_
  intro p e s m below meth c ls C hr hlk hP hK hE hN hl
  have hS : va_S (fun _ => False) s.heap s.heap [] := va_S.rf
  have C : CallFix p m c cX7_isIn 3 s [.int x0, .int 1, .int 5].toArray wsX7_isIn RX7 := C
  obtain ⟨hx, hb, hml, hown, hts⟩ := id C
  have hl : lv_has ls 3 [(0, .int x0), (1, .int 1), (2, .int 5)] := hl
  have rx0 := ka_rng x0
  refine lv_iload_n hx hb dX7_isIn_0 rfl (lv_at hl 0 rfl) ?_
  refine lv_iload_n hx hb dX7_isIn_1 rfl (lv_at hl 1 rfl) ?_
  refine lv_icmp_lt (tgt := 14) hx hb dX7_isIn_2 (by decide) (fun c_ => absurd c_ (by rw [ka_lt', show ((1 : Int32)).toInt = 1 from by decide]; omega)) (fun _ => ?_)
  refine lv_iload_n hx hb dX7_isIn_5 rfl (lv_at hl 0 rfl) ?_
  refine lv_iload_n hx hb dX7_isIn_6 rfl (lv_at hl 2 rfl) ?_
  refine lv_icmp_gt (tgt := 14) hx hb dX7_isIn_7 (by decide) (fun _ => ?_) (fun c_ => absurd (by rw [ka_lt', show ((5 : Int32)).toInt = 5 from by decide]; omega) c_)
  refine lv_iconst (v := 0) hx hb dX7_isIn_14 (by decide) ?_
  exact ka_rRz C hr hlk rfl rfl dX7_isIn_15
set_option maxHeartbeats 4000000 in
set_option maxRecDepth 100000 in
theorem cg_X7_isIn_338 (l : Launch) (D : va_G) (F : Nat → Prop) (x0 : Int32) (hx0 : 6 ≤ x0.toInt ∧ x0.toInt ≤ 8) : ka_R l D F yX7_isIn wsX7_isIn 0 0 [.int x0, .int 1, .int 5] [] [] (fun v => v = some (.int 0)) := by
  refine ka_R_of (cc := cX7_isIn) (maxL := 3) (ret := (some .boolean)) (by decide) rfl (Nat.le_of_ble_eq_true rfl) ?_
  intro p e s m below meth c ls C hr hlk hP hK hE hN hl
  have hS : va_S (fun _ => False) s.heap s.heap [] := va_S.rf
  have C : CallFix p m c cX7_isIn 3 s [.int x0, .int 1, .int 5].toArray wsX7_isIn RX7 := C
  obtain ⟨hx, hb, hml, hown, hts⟩ := id C
  have hl : lv_has ls 3 [(0, .int x0), (1, .int 1), (2, .int 5)] := hl
  have rx0 := ka_rng x0
  refine lv_iload_n hx hb dX7_isIn_0 rfl (lv_at hl 0 rfl) ?_
  refine lv_iload_n hx hb dX7_isIn_1 rfl (lv_at hl 1 rfl) ?_
  refine lv_icmp_lt (tgt := 14) hx hb dX7_isIn_2 (by decide) (fun c_ => absurd c_ (by rw [ka_lt', show ((1 : Int32)).toInt = 1 from by decide]; omega)) (fun _ => ?_)
  refine lv_iload_n hx hb dX7_isIn_5 rfl (lv_at hl 0 rfl) ?_
  refine lv_iload_n hx hb dX7_isIn_6 rfl (lv_at hl 2 rfl) ?_
  refine lv_icmp_gt (tgt := 14) hx hb dX7_isIn_7 (by decide) (fun _ => ?_) (fun c_ => absurd (by rw [ka_lt', show ((5 : Int32)).toInt = 5 from by decide]; omega) c_)
  refine lv_iconst (v := 0) hx hb dX7_isIn_14 (by decide) ?_
  exact ka_rRz C hr hlk rfl rfl dX7_isIn_15
set_option maxHeartbeats 4000000 in
set_option maxRecDepth 100000 in
theorem cg_X7_set_337 (l : Launch) (D : va_G) (F : Nat → Prop) (a0 : Nat) (x0 : Int32) (hx0 : 6 ≤ x0.toInt ∧ x0.toInt ≤ 8) : ka_R l D F yX7_set wsX7_set 1 22 [.ref a0, .int 1, .int x0] [] [] (fun v => v = some (.int 0)) := by
  refine ka_R_of (cc := cX7_set) (maxL := 3) (ret := (some .boolean)) (by decide) rfl (Nat.le_of_ble_eq_true rfl) ?_
  intro p e s m below meth c ls C hr hlk hP hK hE hN hl
  have hS : va_S (fun _ => False) s.heap s.heap [] := va_S.rf
  have C : CallFix p m c cX7_set 3 s [.ref a0, .int 1, .int x0].toArray wsX7_set RX7 := C
  obtain ⟨hx, hb, hml, hown, hts⟩ := id C
  have hl : lv_has ls 3 [(0, .ref a0), (1, .int 1), (2, .int x0)] := hl
  have rx0 := ka_rng x0
  refine lv_iload_n hx hb dX7_set_0 rfl (lv_at hl 1 rfl) ?_
  refine lv_iconst (v := 0) hx hb dX7_set_1 (by decide) ?_
  refine lv_iconst (v := 2) hx hb dX7_set_2 (by decide) ?_
  refine ka_RS (n := 3) C (cg_X7_isIn_323 l D F ) gX7_set_X7_isIn rfl (by decide +kernel) ⟨Nat.le_of_ble_eq_true rfl, Nat.le_of_ble_eq_true rfl⟩ hK hP hS hE hN [] rfl [] rfl rfl hl.1 (rest := []) rfl (Nat.le_of_ble_eq_true rfl) dX7_set_3 ⟨Nat.le_of_ble_eq_true rfl, Nat.le_of_ble_eq_true rfl⟩ (fun v hv => ?_)
  subst hv
  refine ka_stk (w := [.int 1]) rfl ?_
  refine lv_if_eq (tgt := 44) hx hb dX7_set_6 (by decide) (fun c_ => absurd c_ (by decide)) (fun _ => ?_)
  refine lv_iload_n hx hb dX7_set_9 rfl (lv_at hl 2 rfl) ?_
  refine lv_iload_n hx hb dX7_set_10 rfl (lv_at hl 1 rfl) ?_
  refine lv_if_ne (tgt := 18) hx hb dX7_set_11 (by decide) (fun _ => ?_) (fun c_ => absurd c_ (by decide))
  refine lv_iconst (v := 1) hx hb dX7_set_18 (by decide) ?_
  refine lv_iload_n hx hb dX7_set_19 rfl (lv_at hl 1 rfl) ?_
  refine lv_if_ne (tgt := 27) hx hb dX7_set_20 (by decide) (fun _ => ?_) (fun c_ => absurd c_ (by decide))
  refine lv_iload_n hx hb dX7_set_27 rfl (lv_at hl 1 rfl) ?_
  refine lv_iconst (v := 1) hx hb dX7_set_28 (by decide) ?_
  refine lv_icmp_ne (tgt := 36) hx hb dX7_set_29 (by decide) (fun c_ => absurd (by decide) c_) (fun _ => ?_)
  refine lv_iconst (v := 5) hx hb dX7_set_32 (by decide) ?_
  refine lv_goto (tgt := 38) hx hb dX7_set_33 (by decide) ?_
  refine ka_RS (n := 3) C (cg_X7_isIn_338 l D F x0 ⟨by omega, by omega⟩) gX7_set_X7_isIn rfl (by decide +kernel) ⟨Nat.le_of_ble_eq_true rfl, Nat.le_of_ble_eq_true rfl⟩ hK hP hS hE hN [] rfl [] rfl rfl hl.1 (rest := []) rfl (Nat.le_of_ble_eq_true rfl) dX7_set_38 ⟨Nat.le_of_ble_eq_true rfl, Nat.le_of_ble_eq_true rfl⟩ (fun v hv => ?_)
  subst hv
  refine ka_stk (w := [.int 0]) rfl ?_
  refine lv_if_ne (tgt := 46) hx hb dX7_set_41 (by decide) (fun c_ => absurd (by decide) c_) (fun _ => ?_)
  refine lv_iconst (v := 0) hx hb dX7_set_44 (by decide) ?_
  exact ka_rRz C hr hlk rfl rfl dX7_set_45
set_option maxHeartbeats 4000000 in
set_option maxRecDepth 100000 in
theorem cg_X6_set_339 (l : Launch) (D : va_G) (F : Nat → Prop) (a0 : Nat) (x0 : Int32) (hx0 : 9 ≤ x0.toInt) : ka_R l D F yX6_set wsX6_set 0 0 [.ref a0, .int 1, .int x0] [] [] (fun v => v = some (.int 0)) := by
  refine ka_R_of (cc := cX6_set) (maxL := 3) (ret := (some .boolean)) (by decide) rfl (Nat.le_of_ble_eq_true rfl) ?_
  intro p e s m below meth c ls C hr hlk hP hK hE hN hl
  have hS : va_S (fun _ => False) s.heap s.heap [] := va_S.rf
  have C : CallFix p m c cX6_set 3 s [.ref a0, .int 1, .int x0].toArray wsX6_set RX6 := C
  obtain ⟨hx, hb, hml, hown, hts⟩ := id C
  have hl : lv_has ls 3 [(0, .ref a0), (1, .int 1), (2, .int x0)] := hl
  have rx0 := ka_rng x0
  refine lv_iload_n hx hb dX6_set_0 rfl (lv_at hl 1 rfl) ?_
  refine lv_tableIn (off := 45) (tgt := 46) hx hb dX6_set_1 (by decide) (by decide) (by decide) (by decide) ?_
  refine lv_iload_n hx hb dX6_set_46 rfl (lv_at hl 2 rfl) ?_
  refine lv_iconst (v := 1) hx hb dX6_set_47 (by decide) ?_
  refine lv_icmp_lt (tgt := 56) hx hb dX6_set_48 (by decide) (fun c_ => absurd c_ (by rw [ka_lt', show ((1 : Int32)).toInt = 1 from by decide]; omega)) (fun _ => ?_)
  refine lv_iload_n hx hb dX6_set_51 rfl (lv_at hl 2 rfl) ?_
  refine lv_iconst (v := 5) hx hb dX6_set_52 (by decide) ?_
  refine lv_icmp_le (tgt := 58) hx hb dX6_set_53 (by decide) (fun c_ => absurd c_ (by rw [ka_le', show ((5 : Int32)).toInt = 5 from by decide]; omega)) (fun _ => ?_)
  refine lv_iconst (v := 0) hx hb dX6_set_56 (by decide) ?_
  exact ka_rRz C hr hlk rfl rfl dX6_set_57
set_option maxHeartbeats 4000000 in
set_option maxRecDepth 100000 in
theorem cg_X7_isIn_340 (l : Launch) (D : va_G) (F : Nat → Prop) (x0 : Int32) (hx0 : 9 ≤ x0.toInt) : ka_R l D F yX7_isIn wsX7_isIn 0 0 [.int x0, .int 1, .int 5] [] [] (fun v => v = some (.int 0)) := by
  refine ka_R_of (cc := cX7_isIn) (maxL := 3) (ret := (some .boolean)) (by decide) rfl (Nat.le_of_ble_eq_true rfl) ?_
  intro p e s m below meth c ls C hr hlk hP hK hE hN hl
  have hS : va_S (fun _ => False) s.heap s.heap [] := va_S.rf
  have C : CallFix p m c cX7_isIn 3 s [.int x0, .int 1, .int 5].toArray wsX7_isIn RX7 := C
  obtain ⟨hx, hb, hml, hown, hts⟩ := id C
  have hl : lv_has ls 3 [(0, .int x0), (1, .int 1), (2, .int 5)] := hl
  have rx0 := ka_rng x0
  refine lv_iload_n hx hb dX7_isIn_0 rfl (lv_at hl 0 rfl) ?_
  refine lv_iload_n hx hb dX7_isIn_1 rfl (lv_at hl 1 rfl) ?_
  refine lv_icmp_lt (tgt := 14) hx hb dX7_isIn_2 (by decide) (fun c_ => absurd c_ (by rw [ka_lt', show ((1 : Int32)).toInt = 1 from by decide]; omega)) (fun _ => ?_)
  refine lv_iload_n hx hb dX7_isIn_5 rfl (lv_at hl 0 rfl) ?_
  refine lv_iload_n hx hb dX7_isIn_6 rfl (lv_at hl 2 rfl) ?_
  refine lv_icmp_gt (tgt := 14) hx hb dX7_isIn_7 (by decide) (fun _ => ?_) (fun c_ => absurd (by rw [ka_lt', show ((5 : Int32)).toInt = 5 from by decide]; omega) c_)
  refine lv_iconst (v := 0) hx hb dX7_isIn_14 (by decide) ?_
  exact ka_rRz C hr hlk rfl rfl dX7_isIn_15
set_option maxHeartbeats 4000000 in
set_option maxRecDepth 100000 in
theorem cg_X7_isIn_342 (l : Launch) (D : va_G) (F : Nat → Prop) (x0 : Int32) (hx0 : 9 ≤ x0.toInt) : ka_R l D F yX7_isIn wsX7_isIn 0 0 [.int x0, .int 1, .int 5] [] [] (fun v => v = some (.int 0)) := by
  refine ka_R_of (cc := cX7_isIn) (maxL := 3) (ret := (some .boolean)) (by decide) rfl (Nat.le_of_ble_eq_true rfl) ?_
  intro p e s m below meth c ls C hr hlk hP hK hE hN hl
  have hS : va_S (fun _ => False) s.heap s.heap [] := va_S.rf
  have C : CallFix p m c cX7_isIn 3 s [.int x0, .int 1, .int 5].toArray wsX7_isIn RX7 := C
  obtain ⟨hx, hb, hml, hown, hts⟩ := id C
  have hl : lv_has ls 3 [(0, .int x0), (1, .int 1), (2, .int 5)] := hl
  have rx0 := ka_rng x0
  refine lv_iload_n hx hb dX7_isIn_0 rfl (lv_at hl 0 rfl) ?_
  refine lv_iload_n hx hb dX7_isIn_1 rfl (lv_at hl 1 rfl) ?_
  refine lv_icmp_lt (tgt := 14) hx hb dX7_isIn_2 (by decide) (fun c_ => absurd c_ (by rw [ka_lt', show ((1 : Int32)).toInt = 1 from by decide]; omega)) (fun _ => ?_)
  refine lv_iload_n hx hb dX7_isIn_5 rfl (lv_at hl 0 rfl) ?_
  refine lv_iload_n hx hb dX7_isIn_6 rfl (lv_at hl 2 rfl) ?_
  refine lv_icmp_gt (tgt := 14) hx hb dX7_isIn_7 (by decide) (fun _ => ?_) (fun c_ => absurd (by rw [ka_lt', show ((5 : Int32)).toInt = 5 from by decide]; omega) c_)
  refine lv_iconst (v := 0) hx hb dX7_isIn_14 (by decide) ?_
  exact ka_rRz C hr hlk rfl rfl dX7_isIn_15
set_option maxHeartbeats 4000000 in
set_option maxRecDepth 100000 in
theorem cg_X7_set_341 (l : Launch) (D : va_G) (F : Nat → Prop) (a0 : Nat) (x0 : Int32) (hx0 : 9 ≤ x0.toInt) : ka_R l D F yX7_set wsX7_set 1 22 [.ref a0, .int 1, .int x0] [] [] (fun v => v = some (.int 0)) := by
  refine ka_R_of (cc := cX7_set) (maxL := 3) (ret := (some .boolean)) (by decide) rfl (Nat.le_of_ble_eq_true rfl) ?_
  intro p e s m below meth c ls C hr hlk hP hK hE hN hl
  have hS : va_S (fun _ => False) s.heap s.heap [] := va_S.rf
  have C : CallFix p m c cX7_set 3 s [.ref a0, .int 1, .int x0].toArray wsX7_set RX7 := C
  obtain ⟨hx, hb, hml, hown, hts⟩ := id C
  have hl : lv_has ls 3 [(0, .ref a0), (1, .int 1), (2, .int x0)] := hl
  have rx0 := ka_rng x0
  refine lv_iload_n hx hb dX7_set_0 rfl (lv_at hl 1 rfl) ?_
  refine lv_iconst (v := 0) hx hb dX7_set_1 (by decide) ?_
  refine lv_iconst (v := 2) hx hb dX7_set_2 (by decide) ?_
  refine ka_RS (n := 3) C (cg_X7_isIn_323 l D F ) gX7_set_X7_isIn rfl (by decide +kernel) ⟨Nat.le_of_ble_eq_true rfl, Nat.le_of_ble_eq_true rfl⟩ hK hP hS hE hN [] rfl [] rfl rfl hl.1 (rest := []) rfl (Nat.le_of_ble_eq_true rfl) dX7_set_3 ⟨Nat.le_of_ble_eq_true rfl, Nat.le_of_ble_eq_true rfl⟩ (fun v hv => ?_)
  subst hv
  refine ka_stk (w := [.int 1]) rfl ?_
  refine lv_if_eq (tgt := 44) hx hb dX7_set_6 (by decide) (fun c_ => absurd c_ (by decide)) (fun _ => ?_)
  refine lv_iload_n hx hb dX7_set_9 rfl (lv_at hl 2 rfl) ?_
  refine lv_iload_n hx hb dX7_set_10 rfl (lv_at hl 1 rfl) ?_
  refine lv_if_ne (tgt := 18) hx hb dX7_set_11 (by decide) (fun _ => ?_) (fun c_ => absurd c_ (by decide))
  refine lv_iconst (v := 1) hx hb dX7_set_18 (by decide) ?_
  refine lv_iload_n hx hb dX7_set_19 rfl (lv_at hl 1 rfl) ?_
  refine lv_if_ne (tgt := 27) hx hb dX7_set_20 (by decide) (fun _ => ?_) (fun c_ => absurd c_ (by decide))
  refine lv_iload_n hx hb dX7_set_27 rfl (lv_at hl 1 rfl) ?_
  refine lv_iconst (v := 1) hx hb dX7_set_28 (by decide) ?_
  refine lv_icmp_ne (tgt := 36) hx hb dX7_set_29 (by decide) (fun c_ => absurd (by decide) c_) (fun _ => ?_)
  refine lv_iconst (v := 5) hx hb dX7_set_32 (by decide) ?_
  refine lv_goto (tgt := 38) hx hb dX7_set_33 (by decide) ?_
  refine ka_RS (n := 3) C (cg_X7_isIn_342 l D F x0 (by omega)) gX7_set_X7_isIn rfl (by decide +kernel) ⟨Nat.le_of_ble_eq_true rfl, Nat.le_of_ble_eq_true rfl⟩ hK hP hS hE hN [] rfl [] rfl rfl hl.1 (rest := []) rfl (Nat.le_of_ble_eq_true rfl) dX7_set_38 ⟨Nat.le_of_ble_eq_true rfl, Nat.le_of_ble_eq_true rfl⟩ (fun v hv => ?_)
  subst hv
  refine ka_stk (w := [.int 0]) rfl ?_
  refine lv_if_ne (tgt := 46) hx hb dX7_set_41 (by decide) (fun c_ => absurd (by decide) c_) (fun _ => ?_)
  refine lv_iconst (v := 0) hx hb dX7_set_44 (by decide) ?_
  exact ka_rRz C hr hlk rfl rfl dX7_set_45
set_option maxHeartbeats 4000000 in
set_option maxRecDepth 100000 in
theorem cg_X6_set_343 (l : Launch) (D : va_G) (F : Nat → Prop) (a0 : Nat) (x0 : Int32) (hx0 : x0.toInt ≤ -1) : ka_R l D F yX6_set wsX6_set 0 0 [.ref a0, .int 2, .int x0] [] [] (fun v => v = some (.int 0)) := by
  refine ka_R_of (cc := cX6_set) (maxL := 3) (ret := (some .boolean)) (by decide) rfl (Nat.le_of_ble_eq_true rfl) ?_
  intro p e s m below meth c ls C hr hlk hP hK hE hN hl
  have hS : va_S (fun _ => False) s.heap s.heap [] := va_S.rf
  have C : CallFix p m c cX6_set 3 s [.ref a0, .int 2, .int x0].toArray wsX6_set RX6 := C
  obtain ⟨hx, hb, hml, hown, hts⟩ := id C
  have hl : lv_has ls 3 [(0, .ref a0), (1, .int 2), (2, .int x0)] := hl
  have rx0 := ka_rng x0
  refine lv_iload_n hx hb dX6_set_0 rfl (lv_at hl 1 rfl) ?_
  refine lv_tableIn (off := 64) (tgt := 65) hx hb dX6_set_1 (by decide) (by decide) (by decide) (by decide) ?_
  refine lv_iload_n hx hb dX6_set_65 rfl (lv_at hl 2 rfl) ?_
  refine lv_iconst (v := 1) hx hb dX6_set_66 (by decide) ?_
  refine lv_icmp_lt (tgt := 76) hx hb dX6_set_67 (by decide) (fun _ => ?_) (fun c_ => absurd (by rw [ka_lt', show ((1 : Int32)).toInt = 1 from by decide]; omega) c_)
  refine lv_iconst (v := 0) hx hb dX6_set_76 (by decide) ?_
  exact ka_rRz C hr hlk rfl rfl dX6_set_77
set_option maxHeartbeats 4000000 in
set_option maxRecDepth 100000 in
theorem cg_X7_isIn_344 (l : Launch) (D : va_G) (F : Nat → Prop) : ka_R l D F yX7_isIn wsX7_isIn 0 0 [.int 2, .int 0, .int 2] [] [] (fun v => v = some (.int 1)) := by
  refine ka_R_of (cc := cX7_isIn) (maxL := 3) (ret := (some .boolean)) (by decide) rfl (Nat.le_of_ble_eq_true rfl) ?_
  intro p e s m below meth c ls C hr hlk hP hK hE hN hl
  have hS : va_S (fun _ => False) s.heap s.heap [] := va_S.rf
  have C : CallFix p m c cX7_isIn 3 s [.int 2, .int 0, .int 2].toArray wsX7_isIn RX7 := C
  obtain ⟨hx, hb, hml, hown, hts⟩ := id C
  have hl : lv_has ls 3 [(0, .int 2), (1, .int 0), (2, .int 2)] := hl
  refine lv_iload_n hx hb dX7_isIn_0 rfl (lv_at hl 0 rfl) ?_
  refine lv_iload_n hx hb dX7_isIn_1 rfl (lv_at hl 1 rfl) ?_
  refine lv_icmp_lt (tgt := 14) hx hb dX7_isIn_2 (by decide) (fun c_ => absurd c_ (by decide)) (fun _ => ?_)
  refine lv_iload_n hx hb dX7_isIn_5 rfl (lv_at hl 0 rfl) ?_
  refine lv_iload_n hx hb dX7_isIn_6 rfl (lv_at hl 2 rfl) ?_
  refine lv_icmp_gt (tgt := 14) hx hb dX7_isIn_7 (by decide) (fun c_ => absurd c_ (by decide)) (fun _ => ?_)
  refine lv_iconst (v := 1) hx hb dX7_isIn_10 (by decide) ?_
  refine lv_goto (tgt := 15) hx hb dX7_isIn_11 (by decide) ?_
  exact ka_rRz C hr hlk rfl rfl dX7_isIn_15
set_option maxHeartbeats 4000000 in
set_option maxRecDepth 100000 in
theorem cg_X7_isIn_345 (l : Launch) (D : va_G) (F : Nat → Prop) (x0 : Int32) (hx0 : x0.toInt ≤ -1) : ka_R l D F yX7_isIn wsX7_isIn 0 0 [.int x0, .int 1, .int 8] [] [] (fun v => v = some (.int 0)) := by
  refine ka_R_of (cc := cX7_isIn) (maxL := 3) (ret := (some .boolean)) (by decide) rfl (Nat.le_of_ble_eq_true rfl) ?_
  intro p e s m below meth c ls C hr hlk hP hK hE hN hl
  have hS : va_S (fun _ => False) s.heap s.heap [] := va_S.rf
  have C : CallFix p m c cX7_isIn 3 s [.int x0, .int 1, .int 8].toArray wsX7_isIn RX7 := C
  obtain ⟨hx, hb, hml, hown, hts⟩ := id C
  have hl : lv_has ls 3 [(0, .int x0), (1, .int 1), (2, .int 8)] := hl
  have rx0 := ka_rng x0
  refine lv_iload_n hx hb dX7_isIn_0 rfl (lv_at hl 0 rfl) ?_
  refine lv_iload_n hx hb dX7_isIn_1 rfl (lv_at hl 1 rfl) ?_
  refine lv_icmp_lt (tgt := 14) hx hb dX7_isIn_2 (by decide) (fun _ => ?_) (fun c_ => absurd (by rw [ka_lt', show ((1 : Int32)).toInt = 1 from by decide]; omega) c_)
  refine lv_iconst (v := 0) hx hb dX7_isIn_14 (by decide) ?_
  exact ka_rRz C hr hlk rfl rfl dX7_isIn_15
set_option maxHeartbeats 4000000 in
set_option maxRecDepth 100000 in
theorem cg_X7_isIn_347 (l : Launch) (D : va_G) (F : Nat → Prop) : ka_R l D F yX7_isIn wsX7_isIn 0 0 [.int 2, .int 0, .int 2] [] [] (fun v => v = some (.int 1)) := by
  refine ka_R_of (cc := cX7_isIn) (maxL := 3) (ret := (some .boolean)) (by decide) rfl (Nat.le_of_ble_eq_true rfl) ?_
  intro p e s m below meth c ls C hr hlk hP hK hE hN hl
  have hS : va_S (fun _ => False) s.heap s.heap [] := va_S.rf
  have C : CallFix p m c cX7_isIn 3 s [.int 2, .int 0, .int 2].toArray wsX7_isIn RX7 := C
  obtain ⟨hx, hb, hml, hown, hts⟩ := id C
  have hl : lv_has ls 3 [(0, .int 2), (1, .int 0), (2, .int 2)] := hl
  refine lv_iload_n hx hb dX7_isIn_0 rfl (lv_at hl 0 rfl) ?_
  refine lv_iload_n hx hb dX7_isIn_1 rfl (lv_at hl 1 rfl) ?_
  refine lv_icmp_lt (tgt := 14) hx hb dX7_isIn_2 (by decide) (fun c_ => absurd c_ (by decide)) (fun _ => ?_)
  refine lv_iload_n hx hb dX7_isIn_5 rfl (lv_at hl 0 rfl) ?_
  refine lv_iload_n hx hb dX7_isIn_6 rfl (lv_at hl 2 rfl) ?_
  refine lv_icmp_gt (tgt := 14) hx hb dX7_isIn_7 (by decide) (fun c_ => absurd c_ (by decide)) (fun _ => ?_)
  refine lv_iconst (v := 1) hx hb dX7_isIn_10 (by decide) ?_
  refine lv_goto (tgt := 15) hx hb dX7_isIn_11 (by decide) ?_
  exact ka_rRz C hr hlk rfl rfl dX7_isIn_15
set_option maxHeartbeats 4000000 in
set_option maxRecDepth 100000 in
theorem cg_X7_isIn_348 (l : Launch) (D : va_G) (F : Nat → Prop) (x0 : Int32) (hx0 : x0.toInt ≤ -1) : ka_R l D F yX7_isIn wsX7_isIn 0 0 [.int x0, .int 1, .int 8] [] [] (fun v => v = some (.int 0)) := by
  refine ka_R_of (cc := cX7_isIn) (maxL := 3) (ret := (some .boolean)) (by decide) rfl (Nat.le_of_ble_eq_true rfl) ?_
  intro p e s m below meth c ls C hr hlk hP hK hE hN hl
  have hS : va_S (fun _ => False) s.heap s.heap [] := va_S.rf
  have C : CallFix p m c cX7_isIn 3 s [.int x0, .int 1, .int 8].toArray wsX7_isIn RX7 := C
  obtain ⟨hx, hb, hml, hown, hts⟩ := id C
  have hl : lv_has ls 3 [(0, .int x0), (1, .int 1), (2, .int 8)] := hl
  have rx0 := ka_rng x0
  refine lv_iload_n hx hb dX7_isIn_0 rfl (lv_at hl 0 rfl) ?_
  refine lv_iload_n hx hb dX7_isIn_1 rfl (lv_at hl 1 rfl) ?_
  refine lv_icmp_lt (tgt := 14) hx hb dX7_isIn_2 (by decide) (fun _ => ?_) (fun c_ => absurd (by rw [ka_lt', show ((1 : Int32)).toInt = 1 from by decide]; omega) c_)
  refine lv_iconst (v := 0) hx hb dX7_isIn_14 (by decide) ?_
  exact ka_rRz C hr hlk rfl rfl dX7_isIn_15
set_option maxHeartbeats 4000000 in
set_option maxRecDepth 100000 in
theorem cg_X7_set_346 (l : Launch) (D : va_G) (F : Nat → Prop) (a0 : Nat) (x0 : Int32) (hx0 : x0.toInt ≤ -1) : ka_R l D F yX7_set wsX7_set 1 22 [.ref a0, .int 2, .int x0] [] [] (fun v => v = some (.int 0)) := by
  refine ka_R_of (cc := cX7_set) (maxL := 3) (ret := (some .boolean)) (by decide) rfl (Nat.le_of_ble_eq_true rfl) ?_
  intro p e s m below meth c ls C hr hlk hP hK hE hN hl
  have hS : va_S (fun _ => False) s.heap s.heap [] := va_S.rf
  have C : CallFix p m c cX7_set 3 s [.ref a0, .int 2, .int x0].toArray wsX7_set RX7 := C
  obtain ⟨hx, hb, hml, hown, hts⟩ := id C
  have hl : lv_has ls 3 [(0, .ref a0), (1, .int 2), (2, .int x0)] := hl
  have rx0 := ka_rng x0
  refine lv_iload_n hx hb dX7_set_0 rfl (lv_at hl 1 rfl) ?_
  refine lv_iconst (v := 0) hx hb dX7_set_1 (by decide) ?_
  refine lv_iconst (v := 2) hx hb dX7_set_2 (by decide) ?_
  refine ka_RS (n := 3) C (cg_X7_isIn_347 l D F ) gX7_set_X7_isIn rfl (by decide +kernel) ⟨Nat.le_of_ble_eq_true rfl, Nat.le_of_ble_eq_true rfl⟩ hK hP hS hE hN [] rfl [] rfl rfl hl.1 (rest := []) rfl (Nat.le_of_ble_eq_true rfl) dX7_set_3 ⟨Nat.le_of_ble_eq_true rfl, Nat.le_of_ble_eq_true rfl⟩ (fun v hv => ?_)
  subst hv
  refine ka_stk (w := [.int 1]) rfl ?_
  refine lv_if_eq (tgt := 44) hx hb dX7_set_6 (by decide) (fun c_ => absurd c_ (by decide)) (fun _ => ?_)
  refine lv_iload_n hx hb dX7_set_9 rfl (lv_at hl 2 rfl) ?_
  refine lv_iload_n hx hb dX7_set_10 rfl (lv_at hl 1 rfl) ?_
  refine lv_if_ne (tgt := 18) hx hb dX7_set_11 (by decide) (fun _ => ?_) (fun c_ => absurd c_ (by decide))
  refine lv_iconst (v := 1) hx hb dX7_set_18 (by decide) ?_
  refine lv_iload_n hx hb dX7_set_19 rfl (lv_at hl 1 rfl) ?_
  refine lv_if_ne (tgt := 27) hx hb dX7_set_20 (by decide) (fun _ => ?_) (fun c_ => absurd c_ (by decide))
  refine lv_iload_n hx hb dX7_set_27 rfl (lv_at hl 1 rfl) ?_
  refine lv_iconst (v := 1) hx hb dX7_set_28 (by decide) ?_
  refine lv_icmp_ne (tgt := 36) hx hb dX7_set_29 (by decide) (fun _ => ?_) (fun c_ => absurd c_ (by decide))
  refine lv_bipush (v := 8) hx hb dX7_set_36 (by decide) ?_
  refine ka_RS (n := 3) C (cg_X7_isIn_348 l D F x0 (by omega)) gX7_set_X7_isIn rfl (by decide +kernel) ⟨Nat.le_of_ble_eq_true rfl, Nat.le_of_ble_eq_true rfl⟩ hK hP hS hE hN [] rfl [] rfl rfl hl.1 (rest := []) rfl (Nat.le_of_ble_eq_true rfl) dX7_set_38 ⟨Nat.le_of_ble_eq_true rfl, Nat.le_of_ble_eq_true rfl⟩ (fun v hv => ?_)
  subst hv
  refine ka_stk (w := [.int 0]) rfl ?_
  refine lv_if_ne (tgt := 46) hx hb dX7_set_41 (by decide) (fun c_ => absurd (by decide) c_) (fun _ => ?_)
  refine lv_iconst (v := 0) hx hb dX7_set_44 (by decide) ?_
  exact ka_rRz C hr hlk rfl rfl dX7_set_45
set_option maxHeartbeats 4000000 in
set_option maxRecDepth 100000 in
theorem cg_X6_set_349 (l : Launch) (D : va_G) (F : Nat → Prop) (a0 : Nat) : ka_R l D F yX6_set wsX6_set 0 0 [.ref a0, .int 2, .int 0] [] [] (fun v => v = some (.int 0)) := by
  refine ka_R_of (cc := cX6_set) (maxL := 3) (ret := (some .boolean)) (by decide) rfl (Nat.le_of_ble_eq_true rfl) ?_
  intro p e s m below meth c ls C hr hlk hP hK hE hN hl
  have hS : va_S (fun _ => False) s.heap s.heap [] := va_S.rf
  have C : CallFix p m c cX6_set 3 s [.ref a0, .int 2, .int 0].toArray wsX6_set RX6 := C
  obtain ⟨hx, hb, hml, hown, hts⟩ := id C
  have hl : lv_has ls 3 [(0, .ref a0), (1, .int 2), (2, .int 0)] := hl
  refine lv_iload_n hx hb dX6_set_0 rfl (lv_at hl 1 rfl) ?_
  refine lv_tableIn (off := 64) (tgt := 65) hx hb dX6_set_1 (by decide) (by decide) (by decide) (by decide) ?_
  refine lv_iload_n hx hb dX6_set_65 rfl (lv_at hl 2 rfl) ?_
  refine lv_iconst (v := 1) hx hb dX6_set_66 (by decide) ?_
  refine lv_icmp_lt (tgt := 76) hx hb dX6_set_67 (by decide) (fun _ => ?_) (fun c_ => absurd (by decide) c_)
  refine lv_iconst (v := 0) hx hb dX6_set_76 (by decide) ?_
  exact ka_rRz C hr hlk rfl rfl dX6_set_77
set_option maxHeartbeats 4000000 in
set_option maxRecDepth 100000 in
theorem cg_X7_isIn_350 (l : Launch) (D : va_G) (F : Nat → Prop) : ka_R l D F yX7_isIn wsX7_isIn 0 0 [.int 0, .int 1, .int 8] [] [] (fun v => v = some (.int 0)) := by
  refine ka_R_of (cc := cX7_isIn) (maxL := 3) (ret := (some .boolean)) (by decide) rfl (Nat.le_of_ble_eq_true rfl) ?_
  intro p e s m below meth c ls C hr hlk hP hK hE hN hl
  have hS : va_S (fun _ => False) s.heap s.heap [] := va_S.rf
  have C : CallFix p m c cX7_isIn 3 s [.int 0, .int 1, .int 8].toArray wsX7_isIn RX7 := C
  obtain ⟨hx, hb, hml, hown, hts⟩ := id C
  have hl : lv_has ls 3 [(0, .int 0), (1, .int 1), (2, .int 8)] := hl
  refine lv_iload_n hx hb dX7_isIn_0 rfl (lv_at hl 0 rfl) ?_
  refine lv_iload_n hx hb dX7_isIn_1 rfl (lv_at hl 1 rfl) ?_
  refine lv_icmp_lt (tgt := 14) hx hb dX7_isIn_2 (by decide) (fun _ => ?_) (fun c_ => absurd (by decide) c_)
  refine lv_iconst (v := 0) hx hb dX7_isIn_14 (by decide) ?_
  exact ka_rRz C hr hlk rfl rfl dX7_isIn_15
set_option maxHeartbeats 4000000 in
set_option maxRecDepth 100000 in
theorem cg_X7_isIn_352 (l : Launch) (D : va_G) (F : Nat → Prop) : ka_R l D F yX7_isIn wsX7_isIn 0 0 [.int 0, .int 1, .int 8] [] [] (fun v => v = some (.int 0)) := by
  refine ka_R_of (cc := cX7_isIn) (maxL := 3) (ret := (some .boolean)) (by decide) rfl (Nat.le_of_ble_eq_true rfl) ?_
  intro p e s m below meth c ls C hr hlk hP hK hE hN hl
  have hS : va_S (fun _ => False) s.heap s.heap [] := va_S.rf
  have C : CallFix p m c cX7_isIn 3 s [.int 0, .int 1, .int 8].toArray wsX7_isIn RX7 := C
  obtain ⟨hx, hb, hml, hown, hts⟩ := id C
  have hl : lv_has ls 3 [(0, .int 0), (1, .int 1), (2, .int 8)] := hl
  refine lv_iload_n hx hb dX7_isIn_0 rfl (lv_at hl 0 rfl) ?_
  refine lv_iload_n hx hb dX7_isIn_1 rfl (lv_at hl 1 rfl) ?_
  refine lv_icmp_lt (tgt := 14) hx hb dX7_isIn_2 (by decide) (fun _ => ?_) (fun c_ => absurd (by decide) c_)
  refine lv_iconst (v := 0) hx hb dX7_isIn_14 (by decide) ?_
  exact ka_rRz C hr hlk rfl rfl dX7_isIn_15
set_option maxHeartbeats 4000000 in
set_option maxRecDepth 100000 in
theorem cg_X7_set_351 (l : Launch) (D : va_G) (F : Nat → Prop) (a0 : Nat) : ka_R l D F yX7_set wsX7_set 1 22 [.ref a0, .int 2, .int 0] [] [] (fun v => v = some (.int 0)) := by
  refine ka_R_of (cc := cX7_set) (maxL := 3) (ret := (some .boolean)) (by decide) rfl (Nat.le_of_ble_eq_true rfl) ?_
  intro p e s m below meth c ls C hr hlk hP hK hE hN hl
  have hS : va_S (fun _ => False) s.heap s.heap [] := va_S.rf
  have C : CallFix p m c cX7_set 3 s [.ref a0, .int 2, .int 0].toArray wsX7_set RX7 := C
  obtain ⟨hx, hb, hml, hown, hts⟩ := id C
  have hl : lv_has ls 3 [(0, .ref a0), (1, .int 2), (2, .int 0)] := hl
  refine lv_iload_n hx hb dX7_set_0 rfl (lv_at hl 1 rfl) ?_
  refine lv_iconst (v := 0) hx hb dX7_set_1 (by decide) ?_
  refine lv_iconst (v := 2) hx hb dX7_set_2 (by decide) ?_
  refine ka_RS (n := 3) C (cg_X7_isIn_347 l D F ) gX7_set_X7_isIn rfl (by decide +kernel) ⟨Nat.le_of_ble_eq_true rfl, Nat.le_of_ble_eq_true rfl⟩ hK hP hS hE hN [] rfl [] rfl rfl hl.1 (rest := []) rfl (Nat.le_of_ble_eq_true rfl) dX7_set_3 ⟨Nat.le_of_ble_eq_true rfl, Nat.le_of_ble_eq_true rfl⟩ (fun v hv => ?_)
  subst hv
  refine ka_stk (w := [.int 1]) rfl ?_
  refine lv_if_eq (tgt := 44) hx hb dX7_set_6 (by decide) (fun c_ => absurd c_ (by decide)) (fun _ => ?_)
  refine lv_iload_n hx hb dX7_set_9 rfl (lv_at hl 2 rfl) ?_
  refine lv_iload_n hx hb dX7_set_10 rfl (lv_at hl 1 rfl) ?_
  refine lv_if_ne (tgt := 18) hx hb dX7_set_11 (by decide) (fun _ => ?_) (fun c_ => absurd c_ (by decide))
  refine lv_iconst (v := 1) hx hb dX7_set_18 (by decide) ?_
  refine lv_iload_n hx hb dX7_set_19 rfl (lv_at hl 1 rfl) ?_
  refine lv_if_ne (tgt := 27) hx hb dX7_set_20 (by decide) (fun _ => ?_) (fun c_ => absurd c_ (by decide))
  refine lv_iload_n hx hb dX7_set_27 rfl (lv_at hl 1 rfl) ?_
  refine lv_iconst (v := 1) hx hb dX7_set_28 (by decide) ?_
  refine lv_icmp_ne (tgt := 36) hx hb dX7_set_29 (by decide) (fun _ => ?_) (fun c_ => absurd c_ (by decide))
  refine lv_bipush (v := 8) hx hb dX7_set_36 (by decide) ?_
  refine ka_RS (n := 3) C (cg_X7_isIn_352 l D F ) gX7_set_X7_isIn rfl (by decide +kernel) ⟨Nat.le_of_ble_eq_true rfl, Nat.le_of_ble_eq_true rfl⟩ hK hP hS hE hN [] rfl [] rfl rfl hl.1 (rest := []) rfl (Nat.le_of_ble_eq_true rfl) dX7_set_38 ⟨Nat.le_of_ble_eq_true rfl, Nat.le_of_ble_eq_true rfl⟩ (fun v hv => ?_)
  subst hv
  refine ka_stk (w := [.int 0]) rfl ?_
  refine lv_if_ne (tgt := 46) hx hb dX7_set_41 (by decide) (fun c_ => absurd (by decide) c_) (fun _ => ?_)
  refine lv_iconst (v := 0) hx hb dX7_set_44 (by decide) ?_
  exact ka_rRz C hr hlk rfl rfl dX7_set_45
theorem lq_367 : Cond.fieldLink RX6 52 "AskedBack" "freshForDone" "I" ∈ wsX6_set := by decide +kernel
set_option maxHeartbeats 4000000 in
set_option maxRecDepth 100000 in
theorem cg_X6_set_353 (l : Launch) (D : va_G) (F : Nat → Prop) (a0 : Nat) (x0 : Int32) (a1 : Nat) (a2 : Nat) (a3 : Nat) (a4 : Nat) (x1 : Int32) (x2 : Int32) (x3 : Int32) (x4 : Int32) (x5 : Int32) (a5 : Nat) (a6 : Nat) (x6 : Int32) (a7 : Nat) (a8 : Nat) (a9 : Nat) (x7 : Int32) (x8 : Int32) (x9 : Int32) (x10 : Int32) (x11 : Int32) (x12 : Int32) (hx0 : 1 ≤ x0.toInt ∧ x0.toInt ≤ 3) (hx1 : -1 ≤ x1.toInt ∧ x1.toInt ≤ 5) (hx7 : 0 ≤ x7.toInt ∧ x7.toInt ≤ 10) : ka_E l D F yX6_set wsX6_set 3 61 0 0 [.ref a0, .int 2, .int x0] [(a0, .inr (6, [.ref a1, .ref a2, .ref a3, .ref a4, .int x1, .int x2, .int x3, .int x4, .int x5])), (a3, .inr (0, [.ref a5, .ref a6, .int x6])), (a4, .inr (4, [.ref a7, .ref a8, .ref a9, .int x7, .int x8, .int x9, .int x10, .int x11, .int x12]))] [] (fun (u : (Int32)) => some (.int 1)) (fun (u : (Int32)) => True) (fun (u : (Int32)) => [(a0, .inr (6, [.ref a1, .ref a2, .ref a3, .ref a4, .int x1, .int x2, .int x3, .int x4, .int x0])), (a3, .inr (0, [.ref a5, .ref a6, .int u])), (a4, .inr (4, [.ref a7, .ref a8, .ref a9, .int x7, .int x8, .int x9, .int x10, .int x11, .int x12]))]) (fun (u : (Int32)) => []) := by
  refine ka_E_of (cc := cX6_set) (maxL := 3) (ret := (some .boolean)) (by decide) rfl (Nat.le_of_ble_eq_true rfl) ?_
  intro p e s m below meth c ls A C hr hlk hin hP hK hD hS hA hE hN hl
  have C : CallFix p m c cX6_set 3 s [.ref a0, .int 2, .int x0].toArray wsX6_set RX6 := C
  obtain ⟨hx, hb, hml, hown, hts⟩ := id C
  have hl : lv_has ls 3 [(0, .ref a0), (1, .int 2), (2, .int x0)] := hl
  have rx0 := ka_rng x0
  have rx1 := ka_rng x1
  have rx2 := ka_rng x2
  have rx3 := ka_rng x3
  have rx4 := ka_rng x4
  have rx5 := ka_rng x5
  have rx6 := ka_rng x6
  have rx7 := ka_rng x7
  have rx8 := ka_rng x8
  have rx9 := ka_rng x9
  have rx10 := ka_rng x10
  have rx11 := ka_rng x11
  have rx12 := ka_rng x12
  refine lv_iload_n hx hb dX6_set_0 rfl (lv_at hl 1 rfl) ?_
  refine lv_tableIn (off := 64) (tgt := 65) hx hb dX6_set_1 (by decide) (by decide) (by decide) (by decide) ?_
  refine lv_iload_n hx hb dX6_set_65 rfl (lv_at hl 2 rfl) ?_
  refine lv_iconst (v := 1) hx hb dX6_set_66 (by decide) ?_
  refine lv_icmp_lt (tgt := 76) hx hb dX6_set_67 (by decide) (fun c_ => absurd c_ (by rw [ka_lt', show ((1 : Int32)).toInt = 1 from by decide]; omega)) (fun _ => ?_)
  refine lv_iload_n hx hb dX6_set_70 rfl (lv_at hl 2 rfl) ?_
  refine lv_bipush (v := 8) hx hb dX6_set_71 (by decide) ?_
  refine lv_icmp_le (tgt := 78) hx hb dX6_set_73 (by decide) (fun _ => ?_) (fun c_ => absurd (by rw [ka_le', show ((8 : Int32)).toInt = 8 from by decide]; omega) c_)
  refine lv_aload_n hx hb dX6_set_78 rfl (lv_at hl 0 rfl) ?_
  refine lv_iload_n hx hb dX6_set_79 rfl (lv_at hl 2 rfl) ?_
  refine ka_put C lq_361 tyX6 tyX6_ok nmX6 rfl hK hP hD hS 0 rfl 8 (by decide) lq_367 rfl rfl rfl (Nat.le_of_ble_eq_true rfl) dX6_set_80 (fun H locs hP hD hS => ?_)
  have hP : va_P D vwCl [(a0, .inr (6, [.ref a1, .ref a2, .ref a3, .ref a4, .int x1, .int x2, .int x3, .int x4, .int x0])), (a3, .inr (0, [.ref a5, .ref a6, .int x6])), (a4, .inr (4, [.ref a7, .ref a8, .ref a9, .int x7, .int x8, .int x9, .int x10, .int x11, .int x12]))] H := hP
  have hD : va_D A [(a0, .inr (6, [.ref a1, .ref a2, .ref a3, .ref a4, .int x1, .int x2, .int x3, .int x4, .int x0])), (a3, .inr (0, [.ref a5, .ref a6, .int x6])), (a4, .inr (4, [.ref a7, .ref a8, .ref a9, .int x7, .int x8, .int x9, .int x10, .int x11, .int x12]))] := hD
  refine lv_aload_n hx hb dX6_set_83 rfl (lv_at hl 0 rfl) ?_
  refine ka_EV (n := 0) (wr := []) C (cg_X6_endIfDone_184 l D F a0 a1 a2 a3 a4 x1 x2 x3 x4 x0 a5 a6 x6 a7 a8 a9 x7 x8 x9 x10 x11 x12 ⟨by omega, by omega⟩ ⟨by omega, by omega⟩) gX6_set_X6_endIfDone rfl (by decide +kernel) ⟨Nat.le_of_ble_eq_true rfl, Nat.le_of_ble_eq_true rfl⟩ hK hP hD hS hA hE hN [0, 1, 2] rfl (by decide) [] rfl (by decide) (by decide) [] rfl (ci := 6) rfl rfl 0 rfl rfl hl.1 (rest := []) rfl (Nat.le_of_ble_eq_true rfl) dX6_set_84 ⟨Nat.le_of_ble_eq_true rfl, Nat.le_of_ble_eq_true rfl⟩ (fun u H locs hq hP hD hK hS => ?_)
  obtain ⟨v_29169, rfl⟩ : ∃ z, z = u := ⟨_, rfl⟩
  have rv_29169 := ka_rng v_29169
  have hP : va_P D vwCl [(a0, .inr (6, [.ref a1, .ref a2, .ref a3, .ref a4, .int x1, .int x2, .int x3, .int x4, .int x0])), (a3, .inr (0, [.ref a5, .ref a6, .int v_29169])), (a4, .inr (4, [.ref a7, .ref a8, .ref a9, .int x7, .int x8, .int x9, .int x10, .int x11, .int x12]))] H := hP
  have hD : va_D A [(a0, .inr (6, [.ref a1, .ref a2, .ref a3, .ref a4, .int x1, .int x2, .int x3, .int x4, .int x0])), (a3, .inr (0, [.ref a5, .ref a6, .int v_29169])), (a4, .inr (4, [.ref a7, .ref a8, .ref a9, .int x7, .int x8, .int x9, .int x10, .int x11, .int x12]))] := hD
  have hK : va_K D vwCl [] s := by simpa using hK
  refine ka_stk (w := []) rfl ?_
  refine lv_iconst (v := 1) hx hb dX6_set_87 (by decide) ?_
  exact ka_rEz C hr hlk rfl (Nat.le_of_ble_eq_true rfl) (Nat.le_of_ble_eq_true rfl) hS (ka_qE v_29169 rfl trivial hK hP hD hS [0, 1, 2] (by decide) rfl [] rfl) dX6_set_88
set_option maxHeartbeats 4000000 in
set_option maxRecDepth 100000 in
theorem cg_X7_isIn_354 (l : Launch) (D : va_G) (F : Nat → Prop) (x0 : Int32) (hx0 : 1 ≤ x0.toInt ∧ x0.toInt ≤ 3) : ka_R l D F yX7_isIn wsX7_isIn 0 0 [.int x0, .int 1, .int 8] [] [] (fun v => v = some (.int 1)) := by
  refine ka_R_of (cc := cX7_isIn) (maxL := 3) (ret := (some .boolean)) (by decide) rfl (Nat.le_of_ble_eq_true rfl) ?_
  intro p e s m below meth c ls C hr hlk hP hK hE hN hl
  have hS : va_S (fun _ => False) s.heap s.heap [] := va_S.rf
  have C : CallFix p m c cX7_isIn 3 s [.int x0, .int 1, .int 8].toArray wsX7_isIn RX7 := C
  obtain ⟨hx, hb, hml, hown, hts⟩ := id C
  have hl : lv_has ls 3 [(0, .int x0), (1, .int 1), (2, .int 8)] := hl
  have rx0 := ka_rng x0
  refine lv_iload_n hx hb dX7_isIn_0 rfl (lv_at hl 0 rfl) ?_
  refine lv_iload_n hx hb dX7_isIn_1 rfl (lv_at hl 1 rfl) ?_
  refine lv_icmp_lt (tgt := 14) hx hb dX7_isIn_2 (by decide) (fun c_ => absurd c_ (by rw [ka_lt', show ((1 : Int32)).toInt = 1 from by decide]; omega)) (fun _ => ?_)
  refine lv_iload_n hx hb dX7_isIn_5 rfl (lv_at hl 0 rfl) ?_
  refine lv_iload_n hx hb dX7_isIn_6 rfl (lv_at hl 2 rfl) ?_
  refine lv_icmp_gt (tgt := 14) hx hb dX7_isIn_7 (by decide) (fun c_ => absurd c_ (by rw [ka_lt', show ((8 : Int32)).toInt = 8 from by decide]; omega)) (fun _ => ?_)
  refine lv_iconst (v := 1) hx hb dX7_isIn_10 (by decide) ?_
  refine lv_goto (tgt := 15) hx hb dX7_isIn_11 (by decide) ?_
  exact ka_rRz C hr hlk rfl rfl dX7_isIn_15
theorem lq_368 : Cond.fieldLink RX7 43 "AskedBackModel" "fresh" "I" ∈ wsX7_set := by decide +kernel
set_option maxHeartbeats 4000000 in
set_option maxRecDepth 100000 in
theorem cg_X7_set_355 (l : Launch) (D : va_G) (F : Nat → Prop) (a0 : Nat) (x0 : Int32) (a1 : Nat) (x1 : Int32) (a2 : Nat) (a3 : Nat) (a4 : Nat) (a5 : Nat) (a6 : Nat) (a7 : Nat) (a8 : Nat) (x2 : Int32) (x3 : Int32) (x4 : Int32) (x5 : Int32) (x6 : Int32) (x7 : Int32) (x8 : Int32) (a9 : Nat) (a10 : Nat) (a11 : Nat) (a12 : Nat) (a13 : Nat) (a14 : Nat) (x9 : Int32) (x10 : Int32) (x11 : Int32) (x12 : Int32) (x13 : Int32) (x14 : Int32) (hx0 : 1 ≤ x0.toInt ∧ x0.toInt ≤ 3) (hx1 : 0 ≤ x1.toInt ∧ x1.toInt ≤ 80) (hx2 : -1 ≤ x2.toInt ∧ x2.toInt ≤ 5) (hx5 : 1 ≤ x5.toInt ∧ x5.toInt ≤ 8) (hx6 : 0 ≤ x6.toInt ∧ x6.toInt ≤ 40) (hx8 : 0 ≤ x8.toInt ∧ x8.toInt ≤ 10) (hx9 : 0 ≤ x9.toInt ∧ x9.toInt ≤ 60) (hx10 : 0 ≤ x10.toInt ∧ x10.toInt ≤ 60) (hx11 : 0 ≤ x11.toInt ∧ x11.toInt ≤ 60) (hx12 : 0 ≤ x12.toInt ∧ x12.toInt ≤ 8) (hx14 : 0 ≤ x14.toInt ∧ x14.toInt ≤ 1) : ka_E l D F yX7_set wsX7_set 1 22 0 0 [.ref a0, .int 2, .int x0] [(a0, .inr (7, [.ref a1, .int x1, .ref a2, .ref a3, .ref a4, .ref a5, .ref a6, .ref a7, .ref a8, .int x2, .int x3, .int x4, .int x5, .int x6, .int x7, .int x8, .ref a9, .ref a10, .ref a11, .ref a12, .ref a13, .ref a14, .int x9, .int x10, .int x11, .int x12, .int x13, .int x14]))] [] (fun (u : Unit) => some (.int 1)) (fun (u : Unit) => True) (fun (u : Unit) => [(a0, .inr (7, [.ref a1, .int x1, .ref a2, .ref a3, .ref a4, .ref a5, .ref a6, .ref a7, .ref a8, .int x2, .int x3, .int x4, .int x0, .int x6, .int x7, .int x8, .ref a9, .ref a10, .ref a11, .ref a12, .ref a13, .ref a14, .int x9, .int x10, .int x11, .int x12, .int x13, .int x14]))]) (fun (u : Unit) => []) := by
  refine ka_E_of (cc := cX7_set) (maxL := 3) (ret := (some .boolean)) (by decide) rfl (Nat.le_of_ble_eq_true rfl) ?_
  intro p e s m below meth c ls A C hr hlk hin hP hK hD hS hA hE hN hl
  have C : CallFix p m c cX7_set 3 s [.ref a0, .int 2, .int x0].toArray wsX7_set RX7 := C
  obtain ⟨hx, hb, hml, hown, hts⟩ := id C
  have hl : lv_has ls 3 [(0, .ref a0), (1, .int 2), (2, .int x0)] := hl
  have rx0 := ka_rng x0
  have rx1 := ka_rng x1
  have rx2 := ka_rng x2
  have rx3 := ka_rng x3
  have rx4 := ka_rng x4
  have rx5 := ka_rng x5
  have rx6 := ka_rng x6
  have rx7 := ka_rng x7
  have rx8 := ka_rng x8
  have rx9 := ka_rng x9
  have rx10 := ka_rng x10
  have rx11 := ka_rng x11
  have rx12 := ka_rng x12
  have rx13 := ka_rng x13
  have rx14 := ka_rng x14
  refine lv_iload_n hx hb dX7_set_0 rfl (lv_at hl 1 rfl) ?_
  refine lv_iconst (v := 0) hx hb dX7_set_1 (by decide) ?_
  refine lv_iconst (v := 2) hx hb dX7_set_2 (by decide) ?_
  refine ka_RS (n := 3) C (cg_X7_isIn_344 l D F ) gX7_set_X7_isIn rfl (by decide +kernel) ⟨Nat.le_of_ble_eq_true rfl, Nat.le_of_ble_eq_true rfl⟩ hK hP hS hE hN [] rfl [] rfl rfl hl.1 (rest := []) rfl (Nat.le_of_ble_eq_true rfl) dX7_set_3 ⟨Nat.le_of_ble_eq_true rfl, Nat.le_of_ble_eq_true rfl⟩ (fun v hv => ?_)
  subst hv
  refine ka_stk (w := [.int 1]) rfl ?_
  refine lv_if_eq (tgt := 44) hx hb dX7_set_6 (by decide) (fun c_ => absurd c_ (by decide)) (fun _ => ?_)
  refine lv_iload_n hx hb dX7_set_9 rfl (lv_at hl 2 rfl) ?_
  refine lv_iload_n hx hb dX7_set_10 rfl (lv_at hl 1 rfl) ?_
  refine lv_if_ne (tgt := 18) hx hb dX7_set_11 (by decide) (fun _ => ?_) (fun c_ => absurd c_ (by decide))
  refine lv_iconst (v := 1) hx hb dX7_set_18 (by decide) ?_
  refine lv_iload_n hx hb dX7_set_19 rfl (lv_at hl 1 rfl) ?_
  refine lv_if_ne (tgt := 27) hx hb dX7_set_20 (by decide) (fun _ => ?_) (fun c_ => absurd c_ (by decide))
  refine lv_iload_n hx hb dX7_set_27 rfl (lv_at hl 1 rfl) ?_
  refine lv_iconst (v := 1) hx hb dX7_set_28 (by decide) ?_
  refine lv_icmp_ne (tgt := 36) hx hb dX7_set_29 (by decide) (fun _ => ?_) (fun c_ => absurd c_ (by decide))
  refine lv_bipush (v := 8) hx hb dX7_set_36 (by decide) ?_
  refine ka_RS (n := 3) C (cg_X7_isIn_354 l D F x0 ⟨by omega, by omega⟩) gX7_set_X7_isIn rfl (by decide +kernel) ⟨Nat.le_of_ble_eq_true rfl, Nat.le_of_ble_eq_true rfl⟩ hK hP hS hE hN [] rfl [] rfl rfl hl.1 (rest := []) rfl (Nat.le_of_ble_eq_true rfl) dX7_set_38 ⟨Nat.le_of_ble_eq_true rfl, Nat.le_of_ble_eq_true rfl⟩ (fun v hv => ?_)
  subst hv
  refine ka_stk (w := [.int 1]) rfl ?_
  refine lv_if_ne (tgt := 46) hx hb dX7_set_41 (by decide) (fun _ => ?_) (fun c_ => absurd c_ (by decide))
  refine lv_iload_n hx hb dX7_set_46 rfl (lv_at hl 1 rfl) ?_
  refine lv_if_ne (tgt := 58) hx hb dX7_set_47 (by decide) (fun _ => ?_) (fun c_ => absurd c_ (by decide))
  refine lv_iload_n hx hb dX7_set_58 rfl (lv_at hl 1 rfl) ?_
  refine lv_iconst (v := 1) hx hb dX7_set_59 (by decide) ?_
  refine lv_icmp_ne (tgt := 71) hx hb dX7_set_60 (by decide) (fun _ => ?_) (fun c_ => absurd c_ (by decide))
  refine lv_aload_n hx hb dX7_set_71 rfl (lv_at hl 0 rfl) ?_
  refine lv_iload_n hx hb dX7_set_72 rfl (lv_at hl 2 rfl) ?_
  refine ka_put C lq_363 tyX7 tyX7_ok nmX7 rfl hK hP hD hS 0 rfl 12 (by decide) lq_368 rfl rfl rfl (Nat.le_of_ble_eq_true rfl) dX7_set_73 (fun H locs hP hD hS => ?_)
  have hP : va_P D vwCl [(a0, .inr (7, [.ref a1, .int x1, .ref a2, .ref a3, .ref a4, .ref a5, .ref a6, .ref a7, .ref a8, .int x2, .int x3, .int x4, .int x0, .int x6, .int x7, .int x8, .ref a9, .ref a10, .ref a11, .ref a12, .ref a13, .ref a14, .int x9, .int x10, .int x11, .int x12, .int x13, .int x14]))] H := hP
  have hD : va_D A [(a0, .inr (7, [.ref a1, .int x1, .ref a2, .ref a3, .ref a4, .ref a5, .ref a6, .ref a7, .ref a8, .int x2, .int x3, .int x4, .int x0, .int x6, .int x7, .int x8, .ref a9, .ref a10, .ref a11, .ref a12, .ref a13, .ref a14, .int x9, .int x10, .int x11, .int x12, .int x13, .int x14]))] := hD
  refine lv_iconst (v := 1) hx hb dX7_set_76 (by decide) ?_
  exact ka_rEz C hr hlk rfl (Nat.le_of_ble_eq_true rfl) (Nat.le_of_ble_eq_true rfl) hS (ka_qE () rfl trivial hK hP hD hS [0] (by decide) rfl [] rfl) dX7_set_77
set_option maxHeartbeats 4000000 in
set_option maxRecDepth 100000 in
theorem cg_X6_set_356 (l : Launch) (D : va_G) (F : Nat → Prop) (a0 : Nat) (x0 : Int32) (a1 : Nat) (a2 : Nat) (a3 : Nat) (a4 : Nat) (x1 : Int32) (x2 : Int32) (x3 : Int32) (x4 : Int32) (x5 : Int32) (a5 : Nat) (a6 : Nat) (x6 : Int32) (a7 : Nat) (a8 : Nat) (a9 : Nat) (x7 : Int32) (x8 : Int32) (x9 : Int32) (x10 : Int32) (x11 : Int32) (x12 : Int32) (hx0 : 4 ≤ x0.toInt ∧ x0.toInt ≤ 5) (hx1 : -1 ≤ x1.toInt ∧ x1.toInt ≤ 5) (hx7 : 0 ≤ x7.toInt ∧ x7.toInt ≤ 10) : ka_E l D F yX6_set wsX6_set 3 61 0 0 [.ref a0, .int 2, .int x0] [(a0, .inr (6, [.ref a1, .ref a2, .ref a3, .ref a4, .int x1, .int x2, .int x3, .int x4, .int x5])), (a3, .inr (0, [.ref a5, .ref a6, .int x6])), (a4, .inr (4, [.ref a7, .ref a8, .ref a9, .int x7, .int x8, .int x9, .int x10, .int x11, .int x12]))] [] (fun (u : (Int32)) => some (.int 1)) (fun (u : (Int32)) => True) (fun (u : (Int32)) => [(a0, .inr (6, [.ref a1, .ref a2, .ref a3, .ref a4, .int x1, .int x2, .int x3, .int x4, .int x0])), (a3, .inr (0, [.ref a5, .ref a6, .int u])), (a4, .inr (4, [.ref a7, .ref a8, .ref a9, .int x7, .int x8, .int x9, .int x10, .int x11, .int x12]))]) (fun (u : (Int32)) => []) := by
  refine ka_E_of (cc := cX6_set) (maxL := 3) (ret := (some .boolean)) (by decide) rfl (Nat.le_of_ble_eq_true rfl) ?_
  intro p e s m below meth c ls A C hr hlk hin hP hK hD hS hA hE hN hl
  have C : CallFix p m c cX6_set 3 s [.ref a0, .int 2, .int x0].toArray wsX6_set RX6 := C
  obtain ⟨hx, hb, hml, hown, hts⟩ := id C
  have hl : lv_has ls 3 [(0, .ref a0), (1, .int 2), (2, .int x0)] := hl
  have rx0 := ka_rng x0
  have rx1 := ka_rng x1
  have rx2 := ka_rng x2
  have rx3 := ka_rng x3
  have rx4 := ka_rng x4
  have rx5 := ka_rng x5
  have rx6 := ka_rng x6
  have rx7 := ka_rng x7
  have rx8 := ka_rng x8
  have rx9 := ka_rng x9
  have rx10 := ka_rng x10
  have rx11 := ka_rng x11
  have rx12 := ka_rng x12
  refine lv_iload_n hx hb dX6_set_0 rfl (lv_at hl 1 rfl) ?_
  refine lv_tableIn (off := 64) (tgt := 65) hx hb dX6_set_1 (by decide) (by decide) (by decide) (by decide) ?_
  refine lv_iload_n hx hb dX6_set_65 rfl (lv_at hl 2 rfl) ?_
  refine lv_iconst (v := 1) hx hb dX6_set_66 (by decide) ?_
  refine lv_icmp_lt (tgt := 76) hx hb dX6_set_67 (by decide) (fun c_ => absurd c_ (by rw [ka_lt', show ((1 : Int32)).toInt = 1 from by decide]; omega)) (fun _ => ?_)
  refine lv_iload_n hx hb dX6_set_70 rfl (lv_at hl 2 rfl) ?_
  refine lv_bipush (v := 8) hx hb dX6_set_71 (by decide) ?_
  refine lv_icmp_le (tgt := 78) hx hb dX6_set_73 (by decide) (fun _ => ?_) (fun c_ => absurd (by rw [ka_le', show ((8 : Int32)).toInt = 8 from by decide]; omega) c_)
  refine lv_aload_n hx hb dX6_set_78 rfl (lv_at hl 0 rfl) ?_
  refine lv_iload_n hx hb dX6_set_79 rfl (lv_at hl 2 rfl) ?_
  refine ka_put C lq_361 tyX6 tyX6_ok nmX6 rfl hK hP hD hS 0 rfl 8 (by decide) lq_367 rfl rfl rfl (Nat.le_of_ble_eq_true rfl) dX6_set_80 (fun H locs hP hD hS => ?_)
  have hP : va_P D vwCl [(a0, .inr (6, [.ref a1, .ref a2, .ref a3, .ref a4, .int x1, .int x2, .int x3, .int x4, .int x0])), (a3, .inr (0, [.ref a5, .ref a6, .int x6])), (a4, .inr (4, [.ref a7, .ref a8, .ref a9, .int x7, .int x8, .int x9, .int x10, .int x11, .int x12]))] H := hP
  have hD : va_D A [(a0, .inr (6, [.ref a1, .ref a2, .ref a3, .ref a4, .int x1, .int x2, .int x3, .int x4, .int x0])), (a3, .inr (0, [.ref a5, .ref a6, .int x6])), (a4, .inr (4, [.ref a7, .ref a8, .ref a9, .int x7, .int x8, .int x9, .int x10, .int x11, .int x12]))] := hD
  refine lv_aload_n hx hb dX6_set_83 rfl (lv_at hl 0 rfl) ?_
  refine ka_EV (n := 0) (wr := []) C (cg_X6_endIfDone_184 l D F a0 a1 a2 a3 a4 x1 x2 x3 x4 x0 a5 a6 x6 a7 a8 a9 x7 x8 x9 x10 x11 x12 ⟨by omega, by omega⟩ ⟨by omega, by omega⟩) gX6_set_X6_endIfDone rfl (by decide +kernel) ⟨Nat.le_of_ble_eq_true rfl, Nat.le_of_ble_eq_true rfl⟩ hK hP hD hS hA hE hN [0, 1, 2] rfl (by decide) [] rfl (by decide) (by decide) [] rfl (ci := 6) rfl rfl 0 rfl rfl hl.1 (rest := []) rfl (Nat.le_of_ble_eq_true rfl) dX6_set_84 ⟨Nat.le_of_ble_eq_true rfl, Nat.le_of_ble_eq_true rfl⟩ (fun u H locs hq hP hD hK hS => ?_)
  obtain ⟨v_29265, rfl⟩ : ∃ z, z = u := ⟨_, rfl⟩
  have rv_29265 := ka_rng v_29265
  have hP : va_P D vwCl [(a0, .inr (6, [.ref a1, .ref a2, .ref a3, .ref a4, .int x1, .int x2, .int x3, .int x4, .int x0])), (a3, .inr (0, [.ref a5, .ref a6, .int v_29265])), (a4, .inr (4, [.ref a7, .ref a8, .ref a9, .int x7, .int x8, .int x9, .int x10, .int x11, .int x12]))] H := hP
  have hD : va_D A [(a0, .inr (6, [.ref a1, .ref a2, .ref a3, .ref a4, .int x1, .int x2, .int x3, .int x4, .int x0])), (a3, .inr (0, [.ref a5, .ref a6, .int v_29265])), (a4, .inr (4, [.ref a7, .ref a8, .ref a9, .int x7, .int x8, .int x9, .int x10, .int x11, .int x12]))] := hD
  have hK : va_K D vwCl [] s := by simpa using hK
  refine ka_stk (w := []) rfl ?_
  refine lv_iconst (v := 1) hx hb dX6_set_87 (by decide) ?_
  exact ka_rEz C hr hlk rfl (Nat.le_of_ble_eq_true rfl) (Nat.le_of_ble_eq_true rfl) hS (ka_qE v_29265 rfl trivial hK hP hD hS [0, 1, 2] (by decide) rfl [] rfl) dX6_set_88
set_option maxHeartbeats 4000000 in
set_option maxRecDepth 100000 in
theorem cg_X7_isIn_357 (l : Launch) (D : va_G) (F : Nat → Prop) (x0 : Int32) (hx0 : 4 ≤ x0.toInt ∧ x0.toInt ≤ 5) : ka_R l D F yX7_isIn wsX7_isIn 0 0 [.int x0, .int 1, .int 8] [] [] (fun v => v = some (.int 1)) := by
  refine ka_R_of (cc := cX7_isIn) (maxL := 3) (ret := (some .boolean)) (by decide) rfl (Nat.le_of_ble_eq_true rfl) ?_
  intro p e s m below meth c ls C hr hlk hP hK hE hN hl
  have hS : va_S (fun _ => False) s.heap s.heap [] := va_S.rf
  have C : CallFix p m c cX7_isIn 3 s [.int x0, .int 1, .int 8].toArray wsX7_isIn RX7 := C
  obtain ⟨hx, hb, hml, hown, hts⟩ := id C
  have hl : lv_has ls 3 [(0, .int x0), (1, .int 1), (2, .int 8)] := hl
  have rx0 := ka_rng x0
  refine lv_iload_n hx hb dX7_isIn_0 rfl (lv_at hl 0 rfl) ?_
  refine lv_iload_n hx hb dX7_isIn_1 rfl (lv_at hl 1 rfl) ?_
  refine lv_icmp_lt (tgt := 14) hx hb dX7_isIn_2 (by decide) (fun c_ => absurd c_ (by rw [ka_lt', show ((1 : Int32)).toInt = 1 from by decide]; omega)) (fun _ => ?_)
  refine lv_iload_n hx hb dX7_isIn_5 rfl (lv_at hl 0 rfl) ?_
  refine lv_iload_n hx hb dX7_isIn_6 rfl (lv_at hl 2 rfl) ?_
  refine lv_icmp_gt (tgt := 14) hx hb dX7_isIn_7 (by decide) (fun c_ => absurd c_ (by rw [ka_lt', show ((8 : Int32)).toInt = 8 from by decide]; omega)) (fun _ => ?_)
  refine lv_iconst (v := 1) hx hb dX7_isIn_10 (by decide) ?_
  refine lv_goto (tgt := 15) hx hb dX7_isIn_11 (by decide) ?_
  exact ka_rRz C hr hlk rfl rfl dX7_isIn_15
set_option maxHeartbeats 4000000 in
set_option maxRecDepth 100000 in
theorem cg_X7_set_358 (l : Launch) (D : va_G) (F : Nat → Prop) (a0 : Nat) (x0 : Int32) (a1 : Nat) (x1 : Int32) (a2 : Nat) (a3 : Nat) (a4 : Nat) (a5 : Nat) (a6 : Nat) (a7 : Nat) (a8 : Nat) (x2 : Int32) (x3 : Int32) (x4 : Int32) (x5 : Int32) (x6 : Int32) (x7 : Int32) (x8 : Int32) (a9 : Nat) (a10 : Nat) (a11 : Nat) (a12 : Nat) (a13 : Nat) (a14 : Nat) (x9 : Int32) (x10 : Int32) (x11 : Int32) (x12 : Int32) (x13 : Int32) (x14 : Int32) (hx0 : 4 ≤ x0.toInt ∧ x0.toInt ≤ 5) (hx1 : 0 ≤ x1.toInt ∧ x1.toInt ≤ 80) (hx2 : -1 ≤ x2.toInt ∧ x2.toInt ≤ 5) (hx5 : 1 ≤ x5.toInt ∧ x5.toInt ≤ 8) (hx6 : 0 ≤ x6.toInt ∧ x6.toInt ≤ 40) (hx8 : 0 ≤ x8.toInt ∧ x8.toInt ≤ 10) (hx9 : 0 ≤ x9.toInt ∧ x9.toInt ≤ 60) (hx10 : 0 ≤ x10.toInt ∧ x10.toInt ≤ 60) (hx11 : 0 ≤ x11.toInt ∧ x11.toInt ≤ 60) (hx12 : 0 ≤ x12.toInt ∧ x12.toInt ≤ 8) (hx14 : 0 ≤ x14.toInt ∧ x14.toInt ≤ 1) : ka_E l D F yX7_set wsX7_set 1 22 0 0 [.ref a0, .int 2, .int x0] [(a0, .inr (7, [.ref a1, .int x1, .ref a2, .ref a3, .ref a4, .ref a5, .ref a6, .ref a7, .ref a8, .int x2, .int x3, .int x4, .int x5, .int x6, .int x7, .int x8, .ref a9, .ref a10, .ref a11, .ref a12, .ref a13, .ref a14, .int x9, .int x10, .int x11, .int x12, .int x13, .int x14]))] [] (fun (u : Unit) => some (.int 1)) (fun (u : Unit) => True) (fun (u : Unit) => [(a0, .inr (7, [.ref a1, .int x1, .ref a2, .ref a3, .ref a4, .ref a5, .ref a6, .ref a7, .ref a8, .int x2, .int x3, .int x4, .int x0, .int x6, .int x7, .int x8, .ref a9, .ref a10, .ref a11, .ref a12, .ref a13, .ref a14, .int x9, .int x10, .int x11, .int x12, .int x13, .int x14]))]) (fun (u : Unit) => []) := by
  refine ka_E_of (cc := cX7_set) (maxL := 3) (ret := (some .boolean)) (by decide) rfl (Nat.le_of_ble_eq_true rfl) ?_
  intro p e s m below meth c ls A C hr hlk hin hP hK hD hS hA hE hN hl
  have C : CallFix p m c cX7_set 3 s [.ref a0, .int 2, .int x0].toArray wsX7_set RX7 := C
  obtain ⟨hx, hb, hml, hown, hts⟩ := id C
  have hl : lv_has ls 3 [(0, .ref a0), (1, .int 2), (2, .int x0)] := hl
  have rx0 := ka_rng x0
  have rx1 := ka_rng x1
  have rx2 := ka_rng x2
  have rx3 := ka_rng x3
  have rx4 := ka_rng x4
  have rx5 := ka_rng x5
  have rx6 := ka_rng x6
  have rx7 := ka_rng x7
  have rx8 := ka_rng x8
  have rx9 := ka_rng x9
  have rx10 := ka_rng x10
  have rx11 := ka_rng x11
  have rx12 := ka_rng x12
  have rx13 := ka_rng x13
  have rx14 := ka_rng x14
  refine lv_iload_n hx hb dX7_set_0 rfl (lv_at hl 1 rfl) ?_
  refine lv_iconst (v := 0) hx hb dX7_set_1 (by decide) ?_
  refine lv_iconst (v := 2) hx hb dX7_set_2 (by decide) ?_
  refine ka_RS (n := 3) C (cg_X7_isIn_344 l D F ) gX7_set_X7_isIn rfl (by decide +kernel) ⟨Nat.le_of_ble_eq_true rfl, Nat.le_of_ble_eq_true rfl⟩ hK hP hS hE hN [] rfl [] rfl rfl hl.1 (rest := []) rfl (Nat.le_of_ble_eq_true rfl) dX7_set_3 ⟨Nat.le_of_ble_eq_true rfl, Nat.le_of_ble_eq_true rfl⟩ (fun v hv => ?_)
  subst hv
  refine ka_stk (w := [.int 1]) rfl ?_
  refine lv_if_eq (tgt := 44) hx hb dX7_set_6 (by decide) (fun c_ => absurd c_ (by decide)) (fun _ => ?_)
  refine lv_iload_n hx hb dX7_set_9 rfl (lv_at hl 2 rfl) ?_
  refine lv_iload_n hx hb dX7_set_10 rfl (lv_at hl 1 rfl) ?_
  refine lv_if_ne (tgt := 18) hx hb dX7_set_11 (by decide) (fun _ => ?_) (fun c_ => absurd c_ (by decide))
  refine lv_iconst (v := 1) hx hb dX7_set_18 (by decide) ?_
  refine lv_iload_n hx hb dX7_set_19 rfl (lv_at hl 1 rfl) ?_
  refine lv_if_ne (tgt := 27) hx hb dX7_set_20 (by decide) (fun _ => ?_) (fun c_ => absurd c_ (by decide))
  refine lv_iload_n hx hb dX7_set_27 rfl (lv_at hl 1 rfl) ?_
  refine lv_iconst (v := 1) hx hb dX7_set_28 (by decide) ?_
  refine lv_icmp_ne (tgt := 36) hx hb dX7_set_29 (by decide) (fun _ => ?_) (fun c_ => absurd c_ (by decide))
  refine lv_bipush (v := 8) hx hb dX7_set_36 (by decide) ?_
  refine ka_RS (n := 3) C (cg_X7_isIn_357 l D F x0 ⟨by omega, by omega⟩) gX7_set_X7_isIn rfl (by decide +kernel) ⟨Nat.le_of_ble_eq_true rfl, Nat.le_of_ble_eq_true rfl⟩ hK hP hS hE hN [] rfl [] rfl rfl hl.1 (rest := []) rfl (Nat.le_of_ble_eq_true rfl) dX7_set_38 ⟨Nat.le_of_ble_eq_true rfl, Nat.le_of_ble_eq_true rfl⟩ (fun v hv => ?_)
  subst hv
  refine ka_stk (w := [.int 1]) rfl ?_
  refine lv_if_ne (tgt := 46) hx hb dX7_set_41 (by decide) (fun _ => ?_) (fun c_ => absurd c_ (by decide))
  refine lv_iload_n hx hb dX7_set_46 rfl (lv_at hl 1 rfl) ?_
  refine lv_if_ne (tgt := 58) hx hb dX7_set_47 (by decide) (fun _ => ?_) (fun c_ => absurd c_ (by decide))
  refine lv_iload_n hx hb dX7_set_58 rfl (lv_at hl 1 rfl) ?_
  refine lv_iconst (v := 1) hx hb dX7_set_59 (by decide) ?_
  refine lv_icmp_ne (tgt := 71) hx hb dX7_set_60 (by decide) (fun _ => ?_) (fun c_ => absurd c_ (by decide))
  refine lv_aload_n hx hb dX7_set_71 rfl (lv_at hl 0 rfl) ?_
  refine lv_iload_n hx hb dX7_set_72 rfl (lv_at hl 2 rfl) ?_
  refine ka_put C lq_363 tyX7 tyX7_ok nmX7 rfl hK hP hD hS 0 rfl 12 (by decide) lq_368 rfl rfl rfl (Nat.le_of_ble_eq_true rfl) dX7_set_73 (fun H locs hP hD hS => ?_)
  have hP : va_P D vwCl [(a0, .inr (7, [.ref a1, .int x1, .ref a2, .ref a3, .ref a4, .ref a5, .ref a6, .ref a7, .ref a8, .int x2, .int x3, .int x4, .int x0, .int x6, .int x7, .int x8, .ref a9, .ref a10, .ref a11, .ref a12, .ref a13, .ref a14, .int x9, .int x10, .int x11, .int x12, .int x13, .int x14]))] H := hP
  have hD : va_D A [(a0, .inr (7, [.ref a1, .int x1, .ref a2, .ref a3, .ref a4, .ref a5, .ref a6, .ref a7, .ref a8, .int x2, .int x3, .int x4, .int x0, .int x6, .int x7, .int x8, .ref a9, .ref a10, .ref a11, .ref a12, .ref a13, .ref a14, .int x9, .int x10, .int x11, .int x12, .int x13, .int x14]))] := hD
  refine lv_iconst (v := 1) hx hb dX7_set_76 (by decide) ?_
  exact ka_rEz C hr hlk rfl (Nat.le_of_ble_eq_true rfl) (Nat.le_of_ble_eq_true rfl) hS (ka_qE () rfl trivial hK hP hD hS [0] (by decide) rfl [] rfl) dX7_set_77
set_option maxHeartbeats 4000000 in
set_option maxRecDepth 100000 in
theorem cg_X6_set_359 (l : Launch) (D : va_G) (F : Nat → Prop) (a0 : Nat) (x0 : Int32) (a1 : Nat) (a2 : Nat) (a3 : Nat) (a4 : Nat) (x1 : Int32) (x2 : Int32) (x3 : Int32) (x4 : Int32) (x5 : Int32) (a5 : Nat) (a6 : Nat) (x6 : Int32) (a7 : Nat) (a8 : Nat) (a9 : Nat) (x7 : Int32) (x8 : Int32) (x9 : Int32) (x10 : Int32) (x11 : Int32) (x12 : Int32) (hx0 : 6 ≤ x0.toInt ∧ x0.toInt ≤ 8) (hx1 : -1 ≤ x1.toInt ∧ x1.toInt ≤ 5) (hx7 : 0 ≤ x7.toInt ∧ x7.toInt ≤ 10) : ka_E l D F yX6_set wsX6_set 3 61 0 0 [.ref a0, .int 2, .int x0] [(a0, .inr (6, [.ref a1, .ref a2, .ref a3, .ref a4, .int x1, .int x2, .int x3, .int x4, .int x5])), (a3, .inr (0, [.ref a5, .ref a6, .int x6])), (a4, .inr (4, [.ref a7, .ref a8, .ref a9, .int x7, .int x8, .int x9, .int x10, .int x11, .int x12]))] [] (fun (u : (Int32)) => some (.int 1)) (fun (u : (Int32)) => True) (fun (u : (Int32)) => [(a0, .inr (6, [.ref a1, .ref a2, .ref a3, .ref a4, .int x1, .int x2, .int x3, .int x4, .int x0])), (a3, .inr (0, [.ref a5, .ref a6, .int u])), (a4, .inr (4, [.ref a7, .ref a8, .ref a9, .int x7, .int x8, .int x9, .int x10, .int x11, .int x12]))]) (fun (u : (Int32)) => []) := by
  refine ka_E_of (cc := cX6_set) (maxL := 3) (ret := (some .boolean)) (by decide) rfl (Nat.le_of_ble_eq_true rfl) ?_
  intro p e s m below meth c ls A C hr hlk hin hP hK hD hS hA hE hN hl
  have C : CallFix p m c cX6_set 3 s [.ref a0, .int 2, .int x0].toArray wsX6_set RX6 := C
  obtain ⟨hx, hb, hml, hown, hts⟩ := id C
  have hl : lv_has ls 3 [(0, .ref a0), (1, .int 2), (2, .int x0)] := hl
  have rx0 := ka_rng x0
  have rx1 := ka_rng x1
  have rx2 := ka_rng x2
  have rx3 := ka_rng x3
  have rx4 := ka_rng x4
  have rx5 := ka_rng x5
  have rx6 := ka_rng x6
  have rx7 := ka_rng x7
  have rx8 := ka_rng x8
  have rx9 := ka_rng x9
  have rx10 := ka_rng x10
  have rx11 := ka_rng x11
  have rx12 := ka_rng x12
  refine lv_iload_n hx hb dX6_set_0 rfl (lv_at hl 1 rfl) ?_
  refine lv_tableIn (off := 64) (tgt := 65) hx hb dX6_set_1 (by decide) (by decide) (by decide) (by decide) ?_
  refine lv_iload_n hx hb dX6_set_65 rfl (lv_at hl 2 rfl) ?_
  refine lv_iconst (v := 1) hx hb dX6_set_66 (by decide) ?_
  refine lv_icmp_lt (tgt := 76) hx hb dX6_set_67 (by decide) (fun c_ => absurd c_ (by rw [ka_lt', show ((1 : Int32)).toInt = 1 from by decide]; omega)) (fun _ => ?_)
  refine lv_iload_n hx hb dX6_set_70 rfl (lv_at hl 2 rfl) ?_
  refine lv_bipush (v := 8) hx hb dX6_set_71 (by decide) ?_
  refine lv_icmp_le (tgt := 78) hx hb dX6_set_73 (by decide) (fun _ => ?_) (fun c_ => absurd (by rw [ka_le', show ((8 : Int32)).toInt = 8 from by decide]; omega) c_)
  refine lv_aload_n hx hb dX6_set_78 rfl (lv_at hl 0 rfl) ?_
  refine lv_iload_n hx hb dX6_set_79 rfl (lv_at hl 2 rfl) ?_
  refine ka_put C lq_361 tyX6 tyX6_ok nmX6 rfl hK hP hD hS 0 rfl 8 (by decide) lq_367 rfl rfl rfl (Nat.le_of_ble_eq_true rfl) dX6_set_80 (fun H locs hP hD hS => ?_)
  have hP : va_P D vwCl [(a0, .inr (6, [.ref a1, .ref a2, .ref a3, .ref a4, .int x1, .int x2, .int x3, .int x4, .int x0])), (a3, .inr (0, [.ref a5, .ref a6, .int x6])), (a4, .inr (4, [.ref a7, .ref a8, .ref a9, .int x7, .int x8, .int x9, .int x10, .int x11, .int x12]))] H := hP
  have hD : va_D A [(a0, .inr (6, [.ref a1, .ref a2, .ref a3, .ref a4, .int x1, .int x2, .int x3, .int x4, .int x0])), (a3, .inr (0, [.ref a5, .ref a6, .int x6])), (a4, .inr (4, [.ref a7, .ref a8, .ref a9, .int x7, .int x8, .int x9, .int x10, .int x11, .int x12]))] := hD
  refine lv_aload_n hx hb dX6_set_83 rfl (lv_at hl 0 rfl) ?_
  refine ka_EV (n := 0) (wr := []) C (cg_X6_endIfDone_184 l D F a0 a1 a2 a3 a4 x1 x2 x3 x4 x0 a5 a6 x6 a7 a8 a9 x7 x8 x9 x10 x11 x12 ⟨by omega, by omega⟩ ⟨by omega, by omega⟩) gX6_set_X6_endIfDone rfl (by decide +kernel) ⟨Nat.le_of_ble_eq_true rfl, Nat.le_of_ble_eq_true rfl⟩ hK hP hD hS hA hE hN [0, 1, 2] rfl (by decide) [] rfl (by decide) (by decide) [] rfl (ci := 6) rfl rfl 0 rfl rfl hl.1 (rest := []) rfl (Nat.le_of_ble_eq_true rfl) dX6_set_84 ⟨Nat.le_of_ble_eq_true rfl, Nat.le_of_ble_eq_true rfl⟩ (fun u H locs hq hP hD hK hS => ?_)
  obtain ⟨v_29361, rfl⟩ : ∃ z, z = u := ⟨_, rfl⟩
  have rv_29361 := ka_rng v_29361
  have hP : va_P D vwCl [(a0, .inr (6, [.ref a1, .ref a2, .ref a3, .ref a4, .int x1, .int x2, .int x3, .int x4, .int x0])), (a3, .inr (0, [.ref a5, .ref a6, .int v_29361])), (a4, .inr (4, [.ref a7, .ref a8, .ref a9, .int x7, .int x8, .int x9, .int x10, .int x11, .int x12]))] H := hP
  have hD : va_D A [(a0, .inr (6, [.ref a1, .ref a2, .ref a3, .ref a4, .int x1, .int x2, .int x3, .int x4, .int x0])), (a3, .inr (0, [.ref a5, .ref a6, .int v_29361])), (a4, .inr (4, [.ref a7, .ref a8, .ref a9, .int x7, .int x8, .int x9, .int x10, .int x11, .int x12]))] := hD
  have hK : va_K D vwCl [] s := by simpa using hK
  refine ka_stk (w := []) rfl ?_
  refine lv_iconst (v := 1) hx hb dX6_set_87 (by decide) ?_
  exact ka_rEz C hr hlk rfl (Nat.le_of_ble_eq_true rfl) (Nat.le_of_ble_eq_true rfl) hS (ka_qE v_29361 rfl trivial hK hP hD hS [0, 1, 2] (by decide) rfl [] rfl) dX6_set_88
set_option maxHeartbeats 4000000 in
set_option maxRecDepth 100000 in
theorem cg_X7_isIn_360 (l : Launch) (D : va_G) (F : Nat → Prop) (x0 : Int32) (hx0 : 6 ≤ x0.toInt ∧ x0.toInt ≤ 8) : ka_R l D F yX7_isIn wsX7_isIn 0 0 [.int x0, .int 1, .int 8] [] [] (fun v => v = some (.int 1)) := by
  refine ka_R_of (cc := cX7_isIn) (maxL := 3) (ret := (some .boolean)) (by decide) rfl (Nat.le_of_ble_eq_true rfl) ?_
  intro p e s m below meth c ls C hr hlk hP hK hE hN hl
  have hS : va_S (fun _ => False) s.heap s.heap [] := va_S.rf
  have C : CallFix p m c cX7_isIn 3 s [.int x0, .int 1, .int 8].toArray wsX7_isIn RX7 := C
  obtain ⟨hx, hb, hml, hown, hts⟩ := id C
  have hl : lv_has ls 3 [(0, .int x0), (1, .int 1), (2, .int 8)] := hl
  have rx0 := ka_rng x0
  refine lv_iload_n hx hb dX7_isIn_0 rfl (lv_at hl 0 rfl) ?_
  refine lv_iload_n hx hb dX7_isIn_1 rfl (lv_at hl 1 rfl) ?_
  refine lv_icmp_lt (tgt := 14) hx hb dX7_isIn_2 (by decide) (fun c_ => absurd c_ (by rw [ka_lt', show ((1 : Int32)).toInt = 1 from by decide]; omega)) (fun _ => ?_)
  refine lv_iload_n hx hb dX7_isIn_5 rfl (lv_at hl 0 rfl) ?_
  refine lv_iload_n hx hb dX7_isIn_6 rfl (lv_at hl 2 rfl) ?_
  refine lv_icmp_gt (tgt := 14) hx hb dX7_isIn_7 (by decide) (fun c_ => absurd c_ (by rw [ka_lt', show ((8 : Int32)).toInt = 8 from by decide]; omega)) (fun _ => ?_)
  refine lv_iconst (v := 1) hx hb dX7_isIn_10 (by decide) ?_
  refine lv_goto (tgt := 15) hx hb dX7_isIn_11 (by decide) ?_
  exact ka_rRz C hr hlk rfl rfl dX7_isIn_15
set_option maxHeartbeats 4000000 in
set_option maxRecDepth 100000 in
theorem cg_X7_set_361 (l : Launch) (D : va_G) (F : Nat → Prop) (a0 : Nat) (x0 : Int32) (a1 : Nat) (x1 : Int32) (a2 : Nat) (a3 : Nat) (a4 : Nat) (a5 : Nat) (a6 : Nat) (a7 : Nat) (a8 : Nat) (x2 : Int32) (x3 : Int32) (x4 : Int32) (x5 : Int32) (x6 : Int32) (x7 : Int32) (x8 : Int32) (a9 : Nat) (a10 : Nat) (a11 : Nat) (a12 : Nat) (a13 : Nat) (a14 : Nat) (x9 : Int32) (x10 : Int32) (x11 : Int32) (x12 : Int32) (x13 : Int32) (x14 : Int32) (hx0 : 6 ≤ x0.toInt ∧ x0.toInt ≤ 8) (hx1 : 0 ≤ x1.toInt ∧ x1.toInt ≤ 80) (hx2 : -1 ≤ x2.toInt ∧ x2.toInt ≤ 5) (hx5 : 1 ≤ x5.toInt ∧ x5.toInt ≤ 8) (hx6 : 0 ≤ x6.toInt ∧ x6.toInt ≤ 40) (hx8 : 0 ≤ x8.toInt ∧ x8.toInt ≤ 10) (hx9 : 0 ≤ x9.toInt ∧ x9.toInt ≤ 60) (hx10 : 0 ≤ x10.toInt ∧ x10.toInt ≤ 60) (hx11 : 0 ≤ x11.toInt ∧ x11.toInt ≤ 60) (hx12 : 0 ≤ x12.toInt ∧ x12.toInt ≤ 8) (hx14 : 0 ≤ x14.toInt ∧ x14.toInt ≤ 1) : ka_E l D F yX7_set wsX7_set 1 22 0 0 [.ref a0, .int 2, .int x0] [(a0, .inr (7, [.ref a1, .int x1, .ref a2, .ref a3, .ref a4, .ref a5, .ref a6, .ref a7, .ref a8, .int x2, .int x3, .int x4, .int x5, .int x6, .int x7, .int x8, .ref a9, .ref a10, .ref a11, .ref a12, .ref a13, .ref a14, .int x9, .int x10, .int x11, .int x12, .int x13, .int x14]))] [] (fun (u : Unit) => some (.int 1)) (fun (u : Unit) => True) (fun (u : Unit) => [(a0, .inr (7, [.ref a1, .int x1, .ref a2, .ref a3, .ref a4, .ref a5, .ref a6, .ref a7, .ref a8, .int x2, .int x3, .int x4, .int x0, .int x6, .int x7, .int x8, .ref a9, .ref a10, .ref a11, .ref a12, .ref a13, .ref a14, .int x9, .int x10, .int x11, .int x12, .int x13, .int x14]))]) (fun (u : Unit) => []) := by
  refine ka_E_of (cc := cX7_set) (maxL := 3) (ret := (some .boolean)) (by decide) rfl (Nat.le_of_ble_eq_true rfl) ?_
  intro p e s m below meth c ls A C hr hlk hin hP hK hD hS hA hE hN hl
  have C : CallFix p m c cX7_set 3 s [.ref a0, .int 2, .int x0].toArray wsX7_set RX7 := C
  obtain ⟨hx, hb, hml, hown, hts⟩ := id C
  have hl : lv_has ls 3 [(0, .ref a0), (1, .int 2), (2, .int x0)] := hl
  have rx0 := ka_rng x0
  have rx1 := ka_rng x1
  have rx2 := ka_rng x2
  have rx3 := ka_rng x3
  have rx4 := ka_rng x4
  have rx5 := ka_rng x5
  have rx6 := ka_rng x6
  have rx7 := ka_rng x7
  have rx8 := ka_rng x8
  have rx9 := ka_rng x9
  have rx10 := ka_rng x10
  have rx11 := ka_rng x11
  have rx12 := ka_rng x12
  have rx13 := ka_rng x13
  have rx14 := ka_rng x14
  refine lv_iload_n hx hb dX7_set_0 rfl (lv_at hl 1 rfl) ?_
  refine lv_iconst (v := 0) hx hb dX7_set_1 (by decide) ?_
  refine lv_iconst (v := 2) hx hb dX7_set_2 (by decide) ?_
  refine ka_RS (n := 3) C (cg_X7_isIn_344 l D F ) gX7_set_X7_isIn rfl (by decide +kernel) ⟨Nat.le_of_ble_eq_true rfl, Nat.le_of_ble_eq_true rfl⟩ hK hP hS hE hN [] rfl [] rfl rfl hl.1 (rest := []) rfl (Nat.le_of_ble_eq_true rfl) dX7_set_3 ⟨Nat.le_of_ble_eq_true rfl, Nat.le_of_ble_eq_true rfl⟩ (fun v hv => ?_)
  subst hv
  refine ka_stk (w := [.int 1]) rfl ?_
  refine lv_if_eq (tgt := 44) hx hb dX7_set_6 (by decide) (fun c_ => absurd c_ (by decide)) (fun _ => ?_)
  refine lv_iload_n hx hb dX7_set_9 rfl (lv_at hl 2 rfl) ?_
  refine lv_iload_n hx hb dX7_set_10 rfl (lv_at hl 1 rfl) ?_
  refine lv_if_ne (tgt := 18) hx hb dX7_set_11 (by decide) (fun _ => ?_) (fun c_ => absurd c_ (by decide))
  refine lv_iconst (v := 1) hx hb dX7_set_18 (by decide) ?_
  refine lv_iload_n hx hb dX7_set_19 rfl (lv_at hl 1 rfl) ?_
  refine lv_if_ne (tgt := 27) hx hb dX7_set_20 (by decide) (fun _ => ?_) (fun c_ => absurd c_ (by decide))
  refine lv_iload_n hx hb dX7_set_27 rfl (lv_at hl 1 rfl) ?_
  refine lv_iconst (v := 1) hx hb dX7_set_28 (by decide) ?_
  refine lv_icmp_ne (tgt := 36) hx hb dX7_set_29 (by decide) (fun _ => ?_) (fun c_ => absurd c_ (by decide))
  refine lv_bipush (v := 8) hx hb dX7_set_36 (by decide) ?_
  refine ka_RS (n := 3) C (cg_X7_isIn_360 l D F x0 ⟨by omega, by omega⟩) gX7_set_X7_isIn rfl (by decide +kernel) ⟨Nat.le_of_ble_eq_true rfl, Nat.le_of_ble_eq_true rfl⟩ hK hP hS hE hN [] rfl [] rfl rfl hl.1 (rest := []) rfl (Nat.le_of_ble_eq_true rfl) dX7_set_38 ⟨Nat.le_of_ble_eq_true rfl, Nat.le_of_ble_eq_true rfl⟩ (fun v hv => ?_)
  subst hv
  refine ka_stk (w := [.int 1]) rfl ?_
  refine lv_if_ne (tgt := 46) hx hb dX7_set_41 (by decide) (fun _ => ?_) (fun c_ => absurd c_ (by decide))
  refine lv_iload_n hx hb dX7_set_46 rfl (lv_at hl 1 rfl) ?_
  refine lv_if_ne (tgt := 58) hx hb dX7_set_47 (by decide) (fun _ => ?_) (fun c_ => absurd c_ (by decide))
  refine lv_iload_n hx hb dX7_set_58 rfl (lv_at hl 1 rfl) ?_
  refine lv_iconst (v := 1) hx hb dX7_set_59 (by decide) ?_
  refine lv_icmp_ne (tgt := 71) hx hb dX7_set_60 (by decide) (fun _ => ?_) (fun c_ => absurd c_ (by decide))
  refine lv_aload_n hx hb dX7_set_71 rfl (lv_at hl 0 rfl) ?_
  refine lv_iload_n hx hb dX7_set_72 rfl (lv_at hl 2 rfl) ?_
  refine ka_put C lq_363 tyX7 tyX7_ok nmX7 rfl hK hP hD hS 0 rfl 12 (by decide) lq_368 rfl rfl rfl (Nat.le_of_ble_eq_true rfl) dX7_set_73 (fun H locs hP hD hS => ?_)
  have hP : va_P D vwCl [(a0, .inr (7, [.ref a1, .int x1, .ref a2, .ref a3, .ref a4, .ref a5, .ref a6, .ref a7, .ref a8, .int x2, .int x3, .int x4, .int x0, .int x6, .int x7, .int x8, .ref a9, .ref a10, .ref a11, .ref a12, .ref a13, .ref a14, .int x9, .int x10, .int x11, .int x12, .int x13, .int x14]))] H := hP
  have hD : va_D A [(a0, .inr (7, [.ref a1, .int x1, .ref a2, .ref a3, .ref a4, .ref a5, .ref a6, .ref a7, .ref a8, .int x2, .int x3, .int x4, .int x0, .int x6, .int x7, .int x8, .ref a9, .ref a10, .ref a11, .ref a12, .ref a13, .ref a14, .int x9, .int x10, .int x11, .int x12, .int x13, .int x14]))] := hD
  refine lv_iconst (v := 1) hx hb dX7_set_76 (by decide) ?_
  exact ka_rEz C hr hlk rfl (Nat.le_of_ble_eq_true rfl) (Nat.le_of_ble_eq_true rfl) hS (ka_qE () rfl trivial hK hP hD hS [0] (by decide) rfl [] rfl) dX7_set_77
set_option maxHeartbeats 4000000 in
set_option maxRecDepth 100000 in
theorem cg_X6_set_362 (l : Launch) (D : va_G) (F : Nat → Prop) (a0 : Nat) (x0 : Int32) (hx0 : 9 ≤ x0.toInt) : ka_R l D F yX6_set wsX6_set 0 0 [.ref a0, .int 2, .int x0] [] [] (fun v => v = some (.int 0)) := by
  refine ka_R_of (cc := cX6_set) (maxL := 3) (ret := (some .boolean)) (by decide) rfl (Nat.le_of_ble_eq_true rfl) ?_
  intro p e s m below meth c ls C hr hlk hP hK hE hN hl
  have hS : va_S (fun _ => False) s.heap s.heap [] := va_S.rf
  have C : CallFix p m c cX6_set 3 s [.ref a0, .int 2, .int x0].toArray wsX6_set RX6 := C
  obtain ⟨hx, hb, hml, hown, hts⟩ := id C
  have hl : lv_has ls 3 [(0, .ref a0), (1, .int 2), (2, .int x0)] := hl
  have rx0 := ka_rng x0
  refine lv_iload_n hx hb dX6_set_0 rfl (lv_at hl 1 rfl) ?_
  refine lv_tableIn (off := 64) (tgt := 65) hx hb dX6_set_1 (by decide) (by decide) (by decide) (by decide) ?_
  refine lv_iload_n hx hb dX6_set_65 rfl (lv_at hl 2 rfl) ?_
  refine lv_iconst (v := 1) hx hb dX6_set_66 (by decide) ?_
  refine lv_icmp_lt (tgt := 76) hx hb dX6_set_67 (by decide) (fun c_ => absurd c_ (by rw [ka_lt', show ((1 : Int32)).toInt = 1 from by decide]; omega)) (fun _ => ?_)
  refine lv_iload_n hx hb dX6_set_70 rfl (lv_at hl 2 rfl) ?_
  refine lv_bipush (v := 8) hx hb dX6_set_71 (by decide) ?_
  refine lv_icmp_le (tgt := 78) hx hb dX6_set_73 (by decide) (fun c_ => absurd c_ (by rw [ka_le', show ((8 : Int32)).toInt = 8 from by decide]; omega)) (fun _ => ?_)
  refine lv_iconst (v := 0) hx hb dX6_set_76 (by decide) ?_
  exact ka_rRz C hr hlk rfl rfl dX6_set_77
set_option maxHeartbeats 4000000 in
set_option maxRecDepth 100000 in
theorem cg_X7_isIn_363 (l : Launch) (D : va_G) (F : Nat → Prop) (x0 : Int32) (hx0 : 9 ≤ x0.toInt) : ka_R l D F yX7_isIn wsX7_isIn 0 0 [.int x0, .int 1, .int 8] [] [] (fun v => v = some (.int 0)) := by
  refine ka_R_of (cc := cX7_isIn) (maxL := 3) (ret := (some .boolean)) (by decide) rfl (Nat.le_of_ble_eq_true rfl) ?_
  intro p e s m below meth c ls C hr hlk hP hK hE hN hl
  have hS : va_S (fun _ => False) s.heap s.heap [] := va_S.rf
  have C : CallFix p m c cX7_isIn 3 s [.int x0, .int 1, .int 8].toArray wsX7_isIn RX7 := C
  obtain ⟨hx, hb, hml, hown, hts⟩ := id C
  have hl : lv_has ls 3 [(0, .int x0), (1, .int 1), (2, .int 8)] := hl
  have rx0 := ka_rng x0
  refine lv_iload_n hx hb dX7_isIn_0 rfl (lv_at hl 0 rfl) ?_
  refine lv_iload_n hx hb dX7_isIn_1 rfl (lv_at hl 1 rfl) ?_
  refine lv_icmp_lt (tgt := 14) hx hb dX7_isIn_2 (by decide) (fun c_ => absurd c_ (by rw [ka_lt', show ((1 : Int32)).toInt = 1 from by decide]; omega)) (fun _ => ?_)
  refine lv_iload_n hx hb dX7_isIn_5 rfl (lv_at hl 0 rfl) ?_
  refine lv_iload_n hx hb dX7_isIn_6 rfl (lv_at hl 2 rfl) ?_
  refine lv_icmp_gt (tgt := 14) hx hb dX7_isIn_7 (by decide) (fun _ => ?_) (fun c_ => absurd (by rw [ka_lt', show ((8 : Int32)).toInt = 8 from by decide]; omega) c_)
  refine lv_iconst (v := 0) hx hb dX7_isIn_14 (by decide) ?_
  exact ka_rRz C hr hlk rfl rfl dX7_isIn_15
set_option maxHeartbeats 4000000 in
set_option maxRecDepth 100000 in
theorem cg_X7_isIn_365 (l : Launch) (D : va_G) (F : Nat → Prop) (x0 : Int32) (hx0 : 9 ≤ x0.toInt) : ka_R l D F yX7_isIn wsX7_isIn 0 0 [.int x0, .int 1, .int 8] [] [] (fun v => v = some (.int 0)) := by
  refine ka_R_of (cc := cX7_isIn) (maxL := 3) (ret := (some .boolean)) (by decide) rfl (Nat.le_of_ble_eq_true rfl) ?_
  intro p e s m below meth c ls C hr hlk hP hK hE hN hl
  have hS : va_S (fun _ => False) s.heap s.heap [] := va_S.rf
  have C : CallFix p m c cX7_isIn 3 s [.int x0, .int 1, .int 8].toArray wsX7_isIn RX7 := C
  obtain ⟨hx, hb, hml, hown, hts⟩ := id C
  have hl : lv_has ls 3 [(0, .int x0), (1, .int 1), (2, .int 8)] := hl
  have rx0 := ka_rng x0
  refine lv_iload_n hx hb dX7_isIn_0 rfl (lv_at hl 0 rfl) ?_
  refine lv_iload_n hx hb dX7_isIn_1 rfl (lv_at hl 1 rfl) ?_
  refine lv_icmp_lt (tgt := 14) hx hb dX7_isIn_2 (by decide) (fun c_ => absurd c_ (by rw [ka_lt', show ((1 : Int32)).toInt = 1 from by decide]; omega)) (fun _ => ?_)
  refine lv_iload_n hx hb dX7_isIn_5 rfl (lv_at hl 0 rfl) ?_
  refine lv_iload_n hx hb dX7_isIn_6 rfl (lv_at hl 2 rfl) ?_
  refine lv_icmp_gt (tgt := 14) hx hb dX7_isIn_7 (by decide) (fun _ => ?_) (fun c_ => absurd (by rw [ka_lt', show ((8 : Int32)).toInt = 8 from by decide]; omega) c_)
  refine lv_iconst (v := 0) hx hb dX7_isIn_14 (by decide) ?_
  exact ka_rRz C hr hlk rfl rfl dX7_isIn_15
set_option maxHeartbeats 4000000 in
set_option maxRecDepth 100000 in
theorem cg_X7_set_364 (l : Launch) (D : va_G) (F : Nat → Prop) (a0 : Nat) (x0 : Int32) (hx0 : 9 ≤ x0.toInt) : ka_R l D F yX7_set wsX7_set 1 22 [.ref a0, .int 2, .int x0] [] [] (fun v => v = some (.int 0)) := by
  refine ka_R_of (cc := cX7_set) (maxL := 3) (ret := (some .boolean)) (by decide) rfl (Nat.le_of_ble_eq_true rfl) ?_
  intro p e s m below meth c ls C hr hlk hP hK hE hN hl
  have hS : va_S (fun _ => False) s.heap s.heap [] := va_S.rf
  have C : CallFix p m c cX7_set 3 s [.ref a0, .int 2, .int x0].toArray wsX7_set RX7 := C
  obtain ⟨hx, hb, hml, hown, hts⟩ := id C
  have hl : lv_has ls 3 [(0, .ref a0), (1, .int 2), (2, .int x0)] := hl
  have rx0 := ka_rng x0
  refine lv_iload_n hx hb dX7_set_0 rfl (lv_at hl 1 rfl) ?_
  refine lv_iconst (v := 0) hx hb dX7_set_1 (by decide) ?_
  refine lv_iconst (v := 2) hx hb dX7_set_2 (by decide) ?_
  refine ka_RS (n := 3) C (cg_X7_isIn_347 l D F ) gX7_set_X7_isIn rfl (by decide +kernel) ⟨Nat.le_of_ble_eq_true rfl, Nat.le_of_ble_eq_true rfl⟩ hK hP hS hE hN [] rfl [] rfl rfl hl.1 (rest := []) rfl (Nat.le_of_ble_eq_true rfl) dX7_set_3 ⟨Nat.le_of_ble_eq_true rfl, Nat.le_of_ble_eq_true rfl⟩ (fun v hv => ?_)
  subst hv
  refine ka_stk (w := [.int 1]) rfl ?_
  refine lv_if_eq (tgt := 44) hx hb dX7_set_6 (by decide) (fun c_ => absurd c_ (by decide)) (fun _ => ?_)
  refine lv_iload_n hx hb dX7_set_9 rfl (lv_at hl 2 rfl) ?_
  refine lv_iload_n hx hb dX7_set_10 rfl (lv_at hl 1 rfl) ?_
  refine lv_if_ne (tgt := 18) hx hb dX7_set_11 (by decide) (fun _ => ?_) (fun c_ => absurd c_ (by decide))
  refine lv_iconst (v := 1) hx hb dX7_set_18 (by decide) ?_
  refine lv_iload_n hx hb dX7_set_19 rfl (lv_at hl 1 rfl) ?_
  refine lv_if_ne (tgt := 27) hx hb dX7_set_20 (by decide) (fun _ => ?_) (fun c_ => absurd c_ (by decide))
  refine lv_iload_n hx hb dX7_set_27 rfl (lv_at hl 1 rfl) ?_
  refine lv_iconst (v := 1) hx hb dX7_set_28 (by decide) ?_
  refine lv_icmp_ne (tgt := 36) hx hb dX7_set_29 (by decide) (fun _ => ?_) (fun c_ => absurd c_ (by decide))
  refine lv_bipush (v := 8) hx hb dX7_set_36 (by decide) ?_
  refine ka_RS (n := 3) C (cg_X7_isIn_365 l D F x0 (by omega)) gX7_set_X7_isIn rfl (by decide +kernel) ⟨Nat.le_of_ble_eq_true rfl, Nat.le_of_ble_eq_true rfl⟩ hK hP hS hE hN [] rfl [] rfl rfl hl.1 (rest := []) rfl (Nat.le_of_ble_eq_true rfl) dX7_set_38 ⟨Nat.le_of_ble_eq_true rfl, Nat.le_of_ble_eq_true rfl⟩ (fun v hv => ?_)
  subst hv
  refine ka_stk (w := [.int 0]) rfl ?_
  refine lv_if_ne (tgt := 46) hx hb dX7_set_41 (by decide) (fun c_ => absurd (by decide) c_) (fun _ => ?_)
  refine lv_iconst (v := 0) hx hb dX7_set_44 (by decide) ?_
  exact ka_rRz C hr hlk rfl rfl dX7_set_45
set_option maxHeartbeats 4000000 in
set_option maxRecDepth 100000 in
theorem cg_X6_set_366 (l : Launch) (D : va_G) (F : Nat → Prop) (a0 : Nat) (x0 : Int32) (x1 : Int32) (hx0 : 3 ≤ x0.toInt) (hx1 : x1.toInt ≤ -1) : ka_R l D F yX6_set wsX6_set 0 0 [.ref a0, .int x0, .int x1] [] [] (fun v => v = some (.int 0)) := by
  refine ka_R_of (cc := cX6_set) (maxL := 3) (ret := (some .boolean)) (by decide) rfl (Nat.le_of_ble_eq_true rfl) ?_
  intro p e s m below meth c ls C hr hlk hP hK hE hN hl
  have hS : va_S (fun _ => False) s.heap s.heap [] := va_S.rf
  have C : CallFix p m c cX6_set 3 s [.ref a0, .int x0, .int x1].toArray wsX6_set RX6 := C
  obtain ⟨hx, hb, hml, hown, hts⟩ := id C
  have hl : lv_has ls 3 [(0, .ref a0), (1, .int x0), (2, .int x1)] := hl
  have rx0 := ka_rng x0
  have rx1 := ka_rng x1
  refine lv_iload_n hx hb dX6_set_0 rfl (lv_at hl 1 rfl) ?_
  refine lv_tableOut (tgt := 89) hx hb dX6_set_1 (by omega) (by decide) ?_
  refine lv_iconst (v := 0) hx hb dX6_set_89 (by decide) ?_
  exact ka_rRz C hr hlk rfl rfl dX6_set_90
set_option maxHeartbeats 4000000 in
set_option maxRecDepth 100000 in
theorem cg_X7_isIn_367 (l : Launch) (D : va_G) (F : Nat → Prop) (x0 : Int32) (hx0 : 3 ≤ x0.toInt) : ka_R l D F yX7_isIn wsX7_isIn 0 0 [.int x0, .int 0, .int 2] [] [] (fun v => v = some (.int 0)) := by
  refine ka_R_of (cc := cX7_isIn) (maxL := 3) (ret := (some .boolean)) (by decide) rfl (Nat.le_of_ble_eq_true rfl) ?_
  intro p e s m below meth c ls C hr hlk hP hK hE hN hl
  have hS : va_S (fun _ => False) s.heap s.heap [] := va_S.rf
  have C : CallFix p m c cX7_isIn 3 s [.int x0, .int 0, .int 2].toArray wsX7_isIn RX7 := C
  obtain ⟨hx, hb, hml, hown, hts⟩ := id C
  have hl : lv_has ls 3 [(0, .int x0), (1, .int 0), (2, .int 2)] := hl
  have rx0 := ka_rng x0
  refine lv_iload_n hx hb dX7_isIn_0 rfl (lv_at hl 0 rfl) ?_
  refine lv_iload_n hx hb dX7_isIn_1 rfl (lv_at hl 1 rfl) ?_
  refine lv_icmp_lt (tgt := 14) hx hb dX7_isIn_2 (by decide) (fun c_ => absurd c_ (by rw [ka_lt', show ((0 : Int32)).toInt = 0 from by decide]; omega)) (fun _ => ?_)
  refine lv_iload_n hx hb dX7_isIn_5 rfl (lv_at hl 0 rfl) ?_
  refine lv_iload_n hx hb dX7_isIn_6 rfl (lv_at hl 2 rfl) ?_
  refine lv_icmp_gt (tgt := 14) hx hb dX7_isIn_7 (by decide) (fun _ => ?_) (fun c_ => absurd (by rw [ka_lt', show ((2 : Int32)).toInt = 2 from by decide]; omega) c_)
  refine lv_iconst (v := 0) hx hb dX7_isIn_14 (by decide) ?_
  exact ka_rRz C hr hlk rfl rfl dX7_isIn_15
set_option maxHeartbeats 4000000 in
set_option maxRecDepth 100000 in
theorem cg_X7_isIn_369 (l : Launch) (D : va_G) (F : Nat → Prop) (x0 : Int32) (hx0 : 3 ≤ x0.toInt) : ka_R l D F yX7_isIn wsX7_isIn 0 0 [.int x0, .int 0, .int 2] [] [] (fun v => v = some (.int 0)) := by
  refine ka_R_of (cc := cX7_isIn) (maxL := 3) (ret := (some .boolean)) (by decide) rfl (Nat.le_of_ble_eq_true rfl) ?_
  intro p e s m below meth c ls C hr hlk hP hK hE hN hl
  have hS : va_S (fun _ => False) s.heap s.heap [] := va_S.rf
  have C : CallFix p m c cX7_isIn 3 s [.int x0, .int 0, .int 2].toArray wsX7_isIn RX7 := C
  obtain ⟨hx, hb, hml, hown, hts⟩ := id C
  have hl : lv_has ls 3 [(0, .int x0), (1, .int 0), (2, .int 2)] := hl
  have rx0 := ka_rng x0
  refine lv_iload_n hx hb dX7_isIn_0 rfl (lv_at hl 0 rfl) ?_
  refine lv_iload_n hx hb dX7_isIn_1 rfl (lv_at hl 1 rfl) ?_
  refine lv_icmp_lt (tgt := 14) hx hb dX7_isIn_2 (by decide) (fun c_ => absurd c_ (by rw [ka_lt', show ((0 : Int32)).toInt = 0 from by decide]; omega)) (fun _ => ?_)
  refine lv_iload_n hx hb dX7_isIn_5 rfl (lv_at hl 0 rfl) ?_
  refine lv_iload_n hx hb dX7_isIn_6 rfl (lv_at hl 2 rfl) ?_
  refine lv_icmp_gt (tgt := 14) hx hb dX7_isIn_7 (by decide) (fun _ => ?_) (fun c_ => absurd (by rw [ka_lt', show ((2 : Int32)).toInt = 2 from by decide]; omega) c_)
  refine lv_iconst (v := 0) hx hb dX7_isIn_14 (by decide) ?_
  exact ka_rRz C hr hlk rfl rfl dX7_isIn_15
set_option maxHeartbeats 4000000 in
set_option maxRecDepth 100000 in
theorem cg_X7_set_368 (l : Launch) (D : va_G) (F : Nat → Prop) (a0 : Nat) (x0 : Int32) (x1 : Int32) (hx0 : 3 ≤ x0.toInt) (hx1 : x1.toInt ≤ -1) : ka_R l D F yX7_set wsX7_set 1 22 [.ref a0, .int x0, .int x1] [] [] (fun v => v = some (.int 0)) := by
  refine ka_R_of (cc := cX7_set) (maxL := 3) (ret := (some .boolean)) (by decide) rfl (Nat.le_of_ble_eq_true rfl) ?_
  intro p e s m below meth c ls C hr hlk hP hK hE hN hl
  have hS : va_S (fun _ => False) s.heap s.heap [] := va_S.rf
  have C : CallFix p m c cX7_set 3 s [.ref a0, .int x0, .int x1].toArray wsX7_set RX7 := C
  obtain ⟨hx, hb, hml, hown, hts⟩ := id C
  have hl : lv_has ls 3 [(0, .ref a0), (1, .int x0), (2, .int x1)] := hl
  have rx0 := ka_rng x0
  have rx1 := ka_rng x1
  refine lv_iload_n hx hb dX7_set_0 rfl (lv_at hl 1 rfl) ?_
  refine lv_iconst (v := 0) hx hb dX7_set_1 (by decide) ?_
  refine lv_iconst (v := 2) hx hb dX7_set_2 (by decide) ?_
  refine ka_RS (n := 3) C (cg_X7_isIn_369 l D F x0 (by omega)) gX7_set_X7_isIn rfl (by decide +kernel) ⟨Nat.le_of_ble_eq_true rfl, Nat.le_of_ble_eq_true rfl⟩ hK hP hS hE hN [] rfl [] rfl rfl hl.1 (rest := []) rfl (Nat.le_of_ble_eq_true rfl) dX7_set_3 ⟨Nat.le_of_ble_eq_true rfl, Nat.le_of_ble_eq_true rfl⟩ (fun v hv => ?_)
  subst hv
  refine ka_stk (w := [.int 0]) rfl ?_
  refine lv_if_eq (tgt := 44) hx hb dX7_set_6 (by decide) (fun _ => ?_) (fun c_ => absurd (by decide) c_)
  refine lv_iconst (v := 0) hx hb dX7_set_44 (by decide) ?_
  exact ka_rRz C hr hlk rfl rfl dX7_set_45
set_option maxHeartbeats 4000000 in
set_option maxRecDepth 100000 in
theorem cg_X6_set_370 (l : Launch) (D : va_G) (F : Nat → Prop) (a0 : Nat) (x0 : Int32) (hx0 : 3 ≤ x0.toInt) : ka_R l D F yX6_set wsX6_set 0 0 [.ref a0, .int x0, .int 0] [] [] (fun v => v = some (.int 0)) := by
  refine ka_R_of (cc := cX6_set) (maxL := 3) (ret := (some .boolean)) (by decide) rfl (Nat.le_of_ble_eq_true rfl) ?_
  intro p e s m below meth c ls C hr hlk hP hK hE hN hl
  have hS : va_S (fun _ => False) s.heap s.heap [] := va_S.rf
  have C : CallFix p m c cX6_set 3 s [.ref a0, .int x0, .int 0].toArray wsX6_set RX6 := C
  obtain ⟨hx, hb, hml, hown, hts⟩ := id C
  have hl : lv_has ls 3 [(0, .ref a0), (1, .int x0), (2, .int 0)] := hl
  have rx0 := ka_rng x0
  refine lv_iload_n hx hb dX6_set_0 rfl (lv_at hl 1 rfl) ?_
  refine lv_tableOut (tgt := 89) hx hb dX6_set_1 (by omega) (by decide) ?_
  refine lv_iconst (v := 0) hx hb dX6_set_89 (by decide) ?_
  exact ka_rRz C hr hlk rfl rfl dX6_set_90
set_option maxHeartbeats 4000000 in
set_option maxRecDepth 100000 in
theorem cg_X7_set_371 (l : Launch) (D : va_G) (F : Nat → Prop) (a0 : Nat) (x0 : Int32) (hx0 : 3 ≤ x0.toInt) : ka_R l D F yX7_set wsX7_set 1 22 [.ref a0, .int x0, .int 0] [] [] (fun v => v = some (.int 0)) := by
  refine ka_R_of (cc := cX7_set) (maxL := 3) (ret := (some .boolean)) (by decide) rfl (Nat.le_of_ble_eq_true rfl) ?_
  intro p e s m below meth c ls C hr hlk hP hK hE hN hl
  have hS : va_S (fun _ => False) s.heap s.heap [] := va_S.rf
  have C : CallFix p m c cX7_set 3 s [.ref a0, .int x0, .int 0].toArray wsX7_set RX7 := C
  obtain ⟨hx, hb, hml, hown, hts⟩ := id C
  have hl : lv_has ls 3 [(0, .ref a0), (1, .int x0), (2, .int 0)] := hl
  have rx0 := ka_rng x0
  refine lv_iload_n hx hb dX7_set_0 rfl (lv_at hl 1 rfl) ?_
  refine lv_iconst (v := 0) hx hb dX7_set_1 (by decide) ?_
  refine lv_iconst (v := 2) hx hb dX7_set_2 (by decide) ?_
  refine ka_RS (n := 3) C (cg_X7_isIn_369 l D F x0 (by omega)) gX7_set_X7_isIn rfl (by decide +kernel) ⟨Nat.le_of_ble_eq_true rfl, Nat.le_of_ble_eq_true rfl⟩ hK hP hS hE hN [] rfl [] rfl rfl hl.1 (rest := []) rfl (Nat.le_of_ble_eq_true rfl) dX7_set_3 ⟨Nat.le_of_ble_eq_true rfl, Nat.le_of_ble_eq_true rfl⟩ (fun v hv => ?_)
  subst hv
  refine ka_stk (w := [.int 0]) rfl ?_
  refine lv_if_eq (tgt := 44) hx hb dX7_set_6 (by decide) (fun _ => ?_) (fun c_ => absurd (by decide) c_)
  refine lv_iconst (v := 0) hx hb dX7_set_44 (by decide) ?_
  exact ka_rRz C hr hlk rfl rfl dX7_set_45
set_option maxHeartbeats 4000000 in
set_option maxRecDepth 100000 in
theorem cg_X6_set_372 (l : Launch) (D : va_G) (F : Nat → Prop) (a0 : Nat) (x0 : Int32) (x1 : Int32) (hx0 : 3 ≤ x0.toInt) (hx1 : 1 ≤ x1.toInt ∧ x1.toInt ≤ 3) : ka_R l D F yX6_set wsX6_set 0 0 [.ref a0, .int x0, .int x1] [] [] (fun v => v = some (.int 0)) := by
  refine ka_R_of (cc := cX6_set) (maxL := 3) (ret := (some .boolean)) (by decide) rfl (Nat.le_of_ble_eq_true rfl) ?_
  intro p e s m below meth c ls C hr hlk hP hK hE hN hl
  have hS : va_S (fun _ => False) s.heap s.heap [] := va_S.rf
  have C : CallFix p m c cX6_set 3 s [.ref a0, .int x0, .int x1].toArray wsX6_set RX6 := C
  obtain ⟨hx, hb, hml, hown, hts⟩ := id C
  have hl : lv_has ls 3 [(0, .ref a0), (1, .int x0), (2, .int x1)] := hl
  have rx0 := ka_rng x0
  have rx1 := ka_rng x1
  refine lv_iload_n hx hb dX6_set_0 rfl (lv_at hl 1 rfl) ?_
  refine lv_tableOut (tgt := 89) hx hb dX6_set_1 (by omega) (by decide) ?_
  refine lv_iconst (v := 0) hx hb dX6_set_89 (by decide) ?_
  exact ka_rRz C hr hlk rfl rfl dX6_set_90
set_option maxHeartbeats 4000000 in
set_option maxRecDepth 100000 in
theorem cg_X7_set_373 (l : Launch) (D : va_G) (F : Nat → Prop) (a0 : Nat) (x0 : Int32) (x1 : Int32) (hx0 : 3 ≤ x0.toInt) (hx1 : 1 ≤ x1.toInt ∧ x1.toInt ≤ 3) : ka_R l D F yX7_set wsX7_set 1 22 [.ref a0, .int x0, .int x1] [] [] (fun v => v = some (.int 0)) := by
  refine ka_R_of (cc := cX7_set) (maxL := 3) (ret := (some .boolean)) (by decide) rfl (Nat.le_of_ble_eq_true rfl) ?_
  intro p e s m below meth c ls C hr hlk hP hK hE hN hl
  have hS : va_S (fun _ => False) s.heap s.heap [] := va_S.rf
  have C : CallFix p m c cX7_set 3 s [.ref a0, .int x0, .int x1].toArray wsX7_set RX7 := C
  obtain ⟨hx, hb, hml, hown, hts⟩ := id C
  have hl : lv_has ls 3 [(0, .ref a0), (1, .int x0), (2, .int x1)] := hl
  have rx0 := ka_rng x0
  have rx1 := ka_rng x1
  refine lv_iload_n hx hb dX7_set_0 rfl (lv_at hl 1 rfl) ?_
  refine lv_iconst (v := 0) hx hb dX7_set_1 (by decide) ?_
  refine lv_iconst (v := 2) hx hb dX7_set_2 (by decide) ?_
  refine ka_RS (n := 3) C (cg_X7_isIn_369 l D F x0 (by omega)) gX7_set_X7_isIn rfl (by decide +kernel) ⟨Nat.le_of_ble_eq_true rfl, Nat.le_of_ble_eq_true rfl⟩ hK hP hS hE hN [] rfl [] rfl rfl hl.1 (rest := []) rfl (Nat.le_of_ble_eq_true rfl) dX7_set_3 ⟨Nat.le_of_ble_eq_true rfl, Nat.le_of_ble_eq_true rfl⟩ (fun v hv => ?_)
  subst hv
  refine ka_stk (w := [.int 0]) rfl ?_
  refine lv_if_eq (tgt := 44) hx hb dX7_set_6 (by decide) (fun _ => ?_) (fun c_ => absurd (by decide) c_)
  refine lv_iconst (v := 0) hx hb dX7_set_44 (by decide) ?_
  exact ka_rRz C hr hlk rfl rfl dX7_set_45
set_option maxHeartbeats 4000000 in
set_option maxRecDepth 100000 in
theorem cg_X6_set_374 (l : Launch) (D : va_G) (F : Nat → Prop) (a0 : Nat) (x0 : Int32) (x1 : Int32) (hx0 : 3 ≤ x0.toInt) (hx1 : 4 ≤ x1.toInt ∧ x1.toInt ≤ 5) : ka_R l D F yX6_set wsX6_set 0 0 [.ref a0, .int x0, .int x1] [] [] (fun v => v = some (.int 0)) := by
  refine ka_R_of (cc := cX6_set) (maxL := 3) (ret := (some .boolean)) (by decide) rfl (Nat.le_of_ble_eq_true rfl) ?_
  intro p e s m below meth c ls C hr hlk hP hK hE hN hl
  have hS : va_S (fun _ => False) s.heap s.heap [] := va_S.rf
  have C : CallFix p m c cX6_set 3 s [.ref a0, .int x0, .int x1].toArray wsX6_set RX6 := C
  obtain ⟨hx, hb, hml, hown, hts⟩ := id C
  have hl : lv_has ls 3 [(0, .ref a0), (1, .int x0), (2, .int x1)] := hl
  have rx0 := ka_rng x0
  have rx1 := ka_rng x1
  refine lv_iload_n hx hb dX6_set_0 rfl (lv_at hl 1 rfl) ?_
  refine lv_tableOut (tgt := 89) hx hb dX6_set_1 (by omega) (by decide) ?_
  refine lv_iconst (v := 0) hx hb dX6_set_89 (by decide) ?_
  exact ka_rRz C hr hlk rfl rfl dX6_set_90
set_option maxHeartbeats 4000000 in
set_option maxRecDepth 100000 in
theorem cg_X7_set_375 (l : Launch) (D : va_G) (F : Nat → Prop) (a0 : Nat) (x0 : Int32) (x1 : Int32) (hx0 : 3 ≤ x0.toInt) (hx1 : 4 ≤ x1.toInt ∧ x1.toInt ≤ 5) : ka_R l D F yX7_set wsX7_set 1 22 [.ref a0, .int x0, .int x1] [] [] (fun v => v = some (.int 0)) := by
  refine ka_R_of (cc := cX7_set) (maxL := 3) (ret := (some .boolean)) (by decide) rfl (Nat.le_of_ble_eq_true rfl) ?_
  intro p e s m below meth c ls C hr hlk hP hK hE hN hl
  have hS : va_S (fun _ => False) s.heap s.heap [] := va_S.rf
  have C : CallFix p m c cX7_set 3 s [.ref a0, .int x0, .int x1].toArray wsX7_set RX7 := C
  obtain ⟨hx, hb, hml, hown, hts⟩ := id C
  have hl : lv_has ls 3 [(0, .ref a0), (1, .int x0), (2, .int x1)] := hl
  have rx0 := ka_rng x0
  have rx1 := ka_rng x1
  refine lv_iload_n hx hb dX7_set_0 rfl (lv_at hl 1 rfl) ?_
  refine lv_iconst (v := 0) hx hb dX7_set_1 (by decide) ?_
  refine lv_iconst (v := 2) hx hb dX7_set_2 (by decide) ?_
  refine ka_RS (n := 3) C (cg_X7_isIn_369 l D F x0 (by omega)) gX7_set_X7_isIn rfl (by decide +kernel) ⟨Nat.le_of_ble_eq_true rfl, Nat.le_of_ble_eq_true rfl⟩ hK hP hS hE hN [] rfl [] rfl rfl hl.1 (rest := []) rfl (Nat.le_of_ble_eq_true rfl) dX7_set_3 ⟨Nat.le_of_ble_eq_true rfl, Nat.le_of_ble_eq_true rfl⟩ (fun v hv => ?_)
  subst hv
  refine ka_stk (w := [.int 0]) rfl ?_
  refine lv_if_eq (tgt := 44) hx hb dX7_set_6 (by decide) (fun _ => ?_) (fun c_ => absurd (by decide) c_)
  refine lv_iconst (v := 0) hx hb dX7_set_44 (by decide) ?_
  exact ka_rRz C hr hlk rfl rfl dX7_set_45
set_option maxHeartbeats 4000000 in
set_option maxRecDepth 100000 in
theorem cg_X6_set_376 (l : Launch) (D : va_G) (F : Nat → Prop) (a0 : Nat) (x0 : Int32) (x1 : Int32) (hx0 : 3 ≤ x0.toInt) (hx1 : 6 ≤ x1.toInt ∧ x1.toInt ≤ 8) : ka_R l D F yX6_set wsX6_set 0 0 [.ref a0, .int x0, .int x1] [] [] (fun v => v = some (.int 0)) := by
  refine ka_R_of (cc := cX6_set) (maxL := 3) (ret := (some .boolean)) (by decide) rfl (Nat.le_of_ble_eq_true rfl) ?_
  intro p e s m below meth c ls C hr hlk hP hK hE hN hl
  have hS : va_S (fun _ => False) s.heap s.heap [] := va_S.rf
  have C : CallFix p m c cX6_set 3 s [.ref a0, .int x0, .int x1].toArray wsX6_set RX6 := C
  obtain ⟨hx, hb, hml, hown, hts⟩ := id C
  have hl : lv_has ls 3 [(0, .ref a0), (1, .int x0), (2, .int x1)] := hl
  have rx0 := ka_rng x0
  have rx1 := ka_rng x1
  refine lv_iload_n hx hb dX6_set_0 rfl (lv_at hl 1 rfl) ?_
  refine lv_tableOut (tgt := 89) hx hb dX6_set_1 (by omega) (by decide) ?_
  refine lv_iconst (v := 0) hx hb dX6_set_89 (by decide) ?_
  exact ka_rRz C hr hlk rfl rfl dX6_set_90
set_option maxHeartbeats 4000000 in
set_option maxRecDepth 100000 in
theorem cg_X7_set_377 (l : Launch) (D : va_G) (F : Nat → Prop) (a0 : Nat) (x0 : Int32) (x1 : Int32) (hx0 : 3 ≤ x0.toInt) (hx1 : 6 ≤ x1.toInt ∧ x1.toInt ≤ 8) : ka_R l D F yX7_set wsX7_set 1 22 [.ref a0, .int x0, .int x1] [] [] (fun v => v = some (.int 0)) := by
  refine ka_R_of (cc := cX7_set) (maxL := 3) (ret := (some .boolean)) (by decide) rfl (Nat.le_of_ble_eq_true rfl) ?_
  intro p e s m below meth c ls C hr hlk hP hK hE hN hl
  have hS : va_S (fun _ => False) s.heap s.heap [] := va_S.rf
  have C : CallFix p m c cX7_set 3 s [.ref a0, .int x0, .int x1].toArray wsX7_set RX7 := C
  obtain ⟨hx, hb, hml, hown, hts⟩ := id C
  have hl : lv_has ls 3 [(0, .ref a0), (1, .int x0), (2, .int x1)] := hl
  have rx0 := ka_rng x0
  have rx1 := ka_rng x1
  refine lv_iload_n hx hb dX7_set_0 rfl (lv_at hl 1 rfl) ?_
  refine lv_iconst (v := 0) hx hb dX7_set_1 (by decide) ?_
  refine lv_iconst (v := 2) hx hb dX7_set_2 (by decide) ?_
  refine ka_RS (n := 3) C (cg_X7_isIn_369 l D F x0 (by omega)) gX7_set_X7_isIn rfl (by decide +kernel) ⟨Nat.le_of_ble_eq_true rfl, Nat.le_of_ble_eq_true rfl⟩ hK hP hS hE hN [] rfl [] rfl rfl hl.1 (rest := []) rfl (Nat.le_of_ble_eq_true rfl) dX7_set_3 ⟨Nat.le_of_ble_eq_true rfl, Nat.le_of_ble_eq_true rfl⟩ (fun v hv => ?_)
  subst hv
  refine ka_stk (w := [.int 0]) rfl ?_
  refine lv_if_eq (tgt := 44) hx hb dX7_set_6 (by decide) (fun _ => ?_) (fun c_ => absurd (by decide) c_)
  refine lv_iconst (v := 0) hx hb dX7_set_44 (by decide) ?_
  exact ka_rRz C hr hlk rfl rfl dX7_set_45
set_option maxHeartbeats 4000000 in
set_option maxRecDepth 100000 in
theorem cg_X6_set_378 (l : Launch) (D : va_G) (F : Nat → Prop) (a0 : Nat) (x0 : Int32) (x1 : Int32) (hx0 : 3 ≤ x0.toInt) (hx1 : 9 ≤ x1.toInt) : ka_R l D F yX6_set wsX6_set 0 0 [.ref a0, .int x0, .int x1] [] [] (fun v => v = some (.int 0)) := by
  refine ka_R_of (cc := cX6_set) (maxL := 3) (ret := (some .boolean)) (by decide) rfl (Nat.le_of_ble_eq_true rfl) ?_
  intro p e s m below meth c ls C hr hlk hP hK hE hN hl
  have hS : va_S (fun _ => False) s.heap s.heap [] := va_S.rf
  have C : CallFix p m c cX6_set 3 s [.ref a0, .int x0, .int x1].toArray wsX6_set RX6 := C
  obtain ⟨hx, hb, hml, hown, hts⟩ := id C
  have hl : lv_has ls 3 [(0, .ref a0), (1, .int x0), (2, .int x1)] := hl
  have rx0 := ka_rng x0
  have rx1 := ka_rng x1
  refine lv_iload_n hx hb dX6_set_0 rfl (lv_at hl 1 rfl) ?_
  refine lv_tableOut (tgt := 89) hx hb dX6_set_1 (by omega) (by decide) ?_
  refine lv_iconst (v := 0) hx hb dX6_set_89 (by decide) ?_
  exact ka_rRz C hr hlk rfl rfl dX6_set_90
set_option maxHeartbeats 4000000 in
set_option maxRecDepth 100000 in
theorem cg_X7_set_379 (l : Launch) (D : va_G) (F : Nat → Prop) (a0 : Nat) (x0 : Int32) (x1 : Int32) (hx0 : 3 ≤ x0.toInt) (hx1 : 9 ≤ x1.toInt) : ka_R l D F yX7_set wsX7_set 1 22 [.ref a0, .int x0, .int x1] [] [] (fun v => v = some (.int 0)) := by
  refine ka_R_of (cc := cX7_set) (maxL := 3) (ret := (some .boolean)) (by decide) rfl (Nat.le_of_ble_eq_true rfl) ?_
  intro p e s m below meth c ls C hr hlk hP hK hE hN hl
  have hS : va_S (fun _ => False) s.heap s.heap [] := va_S.rf
  have C : CallFix p m c cX7_set 3 s [.ref a0, .int x0, .int x1].toArray wsX7_set RX7 := C
  obtain ⟨hx, hb, hml, hown, hts⟩ := id C
  have hl : lv_has ls 3 [(0, .ref a0), (1, .int x0), (2, .int x1)] := hl
  have rx0 := ka_rng x0
  have rx1 := ka_rng x1
  refine lv_iload_n hx hb dX7_set_0 rfl (lv_at hl 1 rfl) ?_
  refine lv_iconst (v := 0) hx hb dX7_set_1 (by decide) ?_
  refine lv_iconst (v := 2) hx hb dX7_set_2 (by decide) ?_
  refine ka_RS (n := 3) C (cg_X7_isIn_369 l D F x0 (by omega)) gX7_set_X7_isIn rfl (by decide +kernel) ⟨Nat.le_of_ble_eq_true rfl, Nat.le_of_ble_eq_true rfl⟩ hK hP hS hE hN [] rfl [] rfl rfl hl.1 (rest := []) rfl (Nat.le_of_ble_eq_true rfl) dX7_set_3 ⟨Nat.le_of_ble_eq_true rfl, Nat.le_of_ble_eq_true rfl⟩ (fun v hv => ?_)
  subst hv
  refine ka_stk (w := [.int 0]) rfl ?_
  refine lv_if_eq (tgt := 44) hx hb dX7_set_6 (by decide) (fun _ => ?_) (fun c_ => absurd (by decide) c_)
  refine lv_iconst (v := 0) hx hb dX7_set_44 (by decide) ?_
  exact ka_rRz C hr hlk rfl rfl dX7_set_45
