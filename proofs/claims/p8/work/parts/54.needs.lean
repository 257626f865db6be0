theorem kn_ans1 {f : Nat → Int32} {l r c w v : Int32} {t : Nat} (h : kn_G f l t r) (ht : t = 36) (hc : 0 ≤ c.toInt ∧ c.toInt ≤ 5) (ew : w = r >>> (c &&& 31)) (ev : v = w &&& 1) (hv : v.toInt = 1) : ((1 : Int32)).toInt = if kn_it (kn_M f) l.toInt.toNat 36 c.toInt.toNat = true then 1 else 0 := by
  have hb := (kn_bv (kn_sbv (n := c.toInt.toNat) (by omega) (by omega) ew ev)).1 hv
  rw [h _ (by omega), ht] at hb
  rw [if_pos hb]
  decide
theorem kn_ans0 {f : Nat → Int32} {l r c w v : Int32} {t : Nat} (h : kn_G f l t r) (ht : t = 36) (hc : 0 ≤ c.toInt ∧ c.toInt ≤ 5) (ew : w = r >>> (c &&& 31)) (ev : v = w &&& 1) (hv : ¬ v.toInt = 1) : ((0 : Int32)).toInt = if kn_it (kn_M f) l.toInt.toNat 36 c.toInt.toNat = true then 1 else 0 := by
  have hb := (kn_bv (kn_sbv (n := c.toInt.toNat) (by omega) (by omega) ew ev)).2 hv
  rw [h _ (by omega), ht] at hb
  rw [hb]
  decide
theorem kn_hang {n : Int32} {q : Bool} (h : n.toInt = if q = true then 1 else 0) : (n.toInt = 0 → q = false) ∧ (¬ n.toInt = 0 → q = true) := by
  cases q
  · exact ⟨fun _ => rfl, fun z => absurd h z⟩
  · exact ⟨fun z => absurd (h.symm.trans z) (by decide), fun _ => rfl⟩
set_option maxHeartbeats 4000000 in
set_option maxRecDepth 100000 in
theorem cn_X0_neededInTheEnd_446 (l : Launch) (D : va_G) (F : Nat → Prop) (a0 : Nat) (x0 : Int32) (a1 : Nat) (a2 : Nat) (x1 : Int32) (k0 : ClassId) (f0 : Nat → Int32) (hx0 : 0 ≤ x0.toInt ∧ x0.toInt ≤ 5) : ka_R l D F yX0_neededInTheEnd wsX0_neededInTheEnd 1 21 [.ref a0, .int x0] [(a0, .inr (0, [.ref a1, .ref a2, .int x1])), (a2, .inl (k0, 6, .inl f0))] [(k0, .int)] (fun v => ∃ x : Int32, v = some (.int x) ∧ (kn_I f0 x0 36 x)) := by
  refine ka_R_of (cc := cX0_neededInTheEnd) (maxL := 5) (ret := (some .int)) (by decide) rfl (Nat.le_of_ble_eq_true rfl) ?_
  intro p e s m below meth c ls C hr hlk hP hK hE hN hl
  have hS : va_S (fun _ => False) s.heap s.heap [] := va_S.rf
  have C : CallFix p m c cX0_neededInTheEnd 5 s [.ref a0, .int x0].toArray wsX0_neededInTheEnd RX0 := C
  obtain ⟨hx, hb, hml, hown, hts⟩ := id C
  have hl : lv_has ls 5 [(0, .ref a0), (1, .int x0)] := hl
  have rx0 := ka_rng x0
  have rx1 := ka_rng x1
  refine lv_iconst (v := 1) hx hb dX0_neededInTheEnd_0 (by decide) ?_
  refine lv_iload_n hx hb dX0_neededInTheEnd_1 rfl (lv_at hl 1 rfl) ?_
  refine lv_ishl hx hb dX0_neededInTheEnd_2 ?_
  refine lv_topi (fun v_34468 ev_34468 => ?_)
  refine lv_istore_n (lv' := [(2, .int v_34468), (0, .ref a0), (1, .int x0)]) hx hb dX0_neededInTheEnd_3 rfl hl (by decide) rfl (fun ls hl => ?_)
  refine lv_iconst (v := 0) hx hb dX0_neededInTheEnd_4 (by decide) ?_
  refine lv_istore_n (lv' := [(3, .int 0), (2, .int v_34468), (0, .ref a0), (1, .int x0)]) hx hb dX0_neededInTheEnd_5 rfl hl (by decide) rfl (fun ls hl => ?_)
  have lp_34469 : ∀ (n : Nat) (i34469_2 : Int32) (i34469_3 : Int32), (0 ≤ i34469_3.toInt ∧ i34469_3.toInt ≤ 6) → (kn_I f0 x0 (6 * i34469_3.toInt.toNat) i34469_2) → (6 - i34469_3.toInt).toNat < n → ∀ (ls : Array Slot), lv_has ls 5 [(0, .ref a0), (1, .int x0), (2, .int i34469_2), (3, .int i34469_3)] → W p l e ({ frames := 1, cells := 0, slots := 0, locals := 21 }) s m [.ref a0, .int x0].toArray below meth c s.heap [] 0 0 (MQ below (ka_QR (fun v => ∃ x : Int32, v = some (.int x) ∧ (kn_I f0 x0 36 x))) [.ref a0, .int x0].toArray s 0 0 (fun _ => False)) (F0 m 6 ls []) := by
    intro n
    induction n with
    | zero =>
      intro i34469_2 i34469_3 hi34469_3 hx34469 hm
      exact absurd hm (Nat.not_lt_zero _)
    | succ n ih_34469 =>
      intro i34469_2 i34469_3 hi34469_3 hx34469 hm ls hl
      have ri34469_2 := ka_rng i34469_2
      have ri34469_3 := ka_rng i34469_3
      refine lv_iload_n hx hb dX0_neededInTheEnd_6 rfl (lv_at hl 3 rfl) ?_
      refine lv_bipush (v := 6) hx hb dX0_neededInTheEnd_7 (by decide) ?_
      refine lv_icmp_ge (tgt := 57) hx hb dX0_neededInTheEnd_9 (by decide) (fun c_34488 => ?_) (fun c_34488 => ?_)
      · have c_34488 : 6 ≤ i34469_3.toInt := by rw [ka_le', show ((6 : Int32)).toInt = 6 from by decide] at c_34488; exact c_34488
        refine lv_iload_n hx hb dX0_neededInTheEnd_57 rfl (lv_at hl 2 rfl) ?_
        exact ka_rRi C hr hlk ⟨_, rfl, (kn_Iat hx34469 (by omega))⟩ dX0_neededInTheEnd_58
      · have c_34488 : ¬ 6 ≤ i34469_3.toInt := by rw [ka_le', show ((6 : Int32)).toInt = 6 from by decide] at c_34488; exact c_34488
        refine lv_iconst (v := 0) hx hb dX0_neededInTheEnd_12 (by decide) ?_
        refine lv_istore (lv' := [(4, .int 0), (0, .ref a0), (1, .int x0), (2, .int i34469_2), (3, .int i34469_3)]) hx hb dX0_neededInTheEnd_13 hl (by decide) rfl (fun ls hl => ?_)
        have lp_34489 : ∀ (n : Nat) (i34489_2 : Int32) (i34489_4 : Int32), (0 ≤ i34489_4.toInt ∧ i34489_4.toInt ≤ 6) → (kn_I f0 x0 (6 * i34469_3.toInt.toNat + i34489_4.toInt.toNat) i34489_2) → (6 - i34489_4.toInt).toNat < n → ∀ (ls : Array Slot), lv_has ls 5 [(0, .ref a0), (1, .int x0), (2, .int i34489_2), (3, .int i34469_3), (4, .int i34489_4)] → W p l e ({ frames := 1, cells := 0, slots := 0, locals := 21 }) s m [.ref a0, .int x0].toArray below meth c s.heap [] 0 0 (MQ below (ka_QR (fun v => ∃ x : Int32, v = some (.int x) ∧ (kn_I f0 x0 36 x))) [.ref a0, .int x0].toArray s 0 0 (fun _ => False)) (F0 m 15 ls []) := by
          intro n
          induction n with
          | zero =>
            intro i34489_2 i34489_4 hi34489_4 hx34489 hm
            exact absurd hm (Nat.not_lt_zero _)
          | succ n ih_34489 =>
            intro i34489_2 i34489_4 hi34489_4 hx34489 hm ls hl
            have ri34489_2 := ka_rng i34489_2
            have ri34489_4 := ka_rng i34489_4
            refine lv_iload hx hb dX0_neededInTheEnd_15 (lv_at hl 4 rfl) ?_
            refine lv_aload_n hx hb dX0_neededInTheEnd_17 rfl (lv_at hl 0 rfl) ?_
            refine ka_get C lq_68 rfl hK hP 0 rfl 1 (by decide) lq_69 rfl dX0_neededInTheEnd_18 ?_
            refine va_alen hx hb hK hP 1 0 rfl (ty := .int) rfl (v := 6) rfl dX0_neededInTheEnd_21 ?_
            refine lv_icmp_ge (tgt := 51) hx hb dX0_neededInTheEnd_22 (by decide) (fun c_34498 => ?_) (fun c_34498 => ?_)
            · have c_34498 : 6 ≤ i34489_4.toInt := by rw [ka_le', show ((6 : Int32)).toInt = 6 from by decide] at c_34498; exact c_34498
              obtain ⟨v_34499, ev_34499⟩ : ∃ y : Int32, y = i34469_3 + 1 := ⟨_, rfl⟩
              refine lv_iinc (v := v_34499) (lv' := [(3, .int v_34499), (0, .ref a0), (1, .int x0), (2, .int i34489_2), (4, .int i34489_4)]) hx hb dX0_neededInTheEnd_51 hl (k := 3) rfl (by rw [ev_34499]; rfl) (by decide) rfl (fun ls hl => ?_)
              have fv_34499 : v_34499.toInt = i34469_3.toInt + 1 := by rw [ev_34499]; exact ka_add (x := i34469_3.toInt) (y := 1) rfl (by decide) (by omega) (by omega)
              refine lv_goto (tgt := 6) hx hb dX0_neededInTheEnd_54 (by decide) ?_
              exact ih_34469 i34489_2 v_34499 ⟨by omega, by omega⟩ (kn_Iat hx34489 (by omega)) (by omega) ls (lv_sub hl [1, 2, 3, 0] rfl)
            · have c_34498 : ¬ 6 ≤ i34489_4.toInt := by rw [ka_le', show ((6 : Int32)).toInt = 6 from by decide] at c_34498; exact c_34498
              refine lv_iload_n hx hb dX0_neededInTheEnd_25 rfl (lv_at hl 2 rfl) ?_
              refine lv_iload hx hb dX0_neededInTheEnd_26 (lv_at hl 4 rfl) ?_
              refine ka_RN (n := 2) C (ka_c_bitAt l D F i34489_2 i34489_4) gX0_neededInTheEnd_X6_bitAt_n30 rfl hN.2.2.2.1 lq_70 lq_71 (by decide +kernel) ⟨Nat.le_of_ble_eq_true rfl, Nat.le_of_ble_eq_true rfl⟩ hK hP hS hE hN [] rfl [] rfl rfl hl.1 (rest := []) rfl (Nat.le_of_ble_eq_true rfl) dX0_neededInTheEnd_28 ⟨Nat.le_of_ble_eq_true rfl, Nat.le_of_ble_eq_true rfl⟩ (fun v hv => ?_)
              subst hv
              refine ka_stk (w := .int (ka_bit i34489_2 i34489_4) :: []) rfl ?_
              refine lv_topi (fun v_34500 ev_34500 => ?_)
              have fv_34500 := ka_bit_in i34489_2 i34489_4; rw [← ev_34500] at fv_34500
              refine lv_iconst (v := 1) hx hb dX0_neededInTheEnd_31 (by decide) ?_
              refine lv_icmp_ne (tgt := 45) hx hb dX0_neededInTheEnd_32 (by decide) (fun c_34501 => ?_) (fun c_34501 => ?_)
              · have c_34501 : ¬ v_34500.toInt = 1 := by rw [ka_eq', show ((1 : Int32)).toInt = 1 from by decide] at c_34501; exact c_34501
                obtain ⟨v_34502, ev_34502⟩ : ∃ y : Int32, y = i34489_4 + 1 := ⟨_, rfl⟩
                refine lv_iinc (v := v_34502) (lv' := [(4, .int v_34502), (0, .ref a0), (1, .int x0), (2, .int i34489_2), (3, .int i34469_3)]) hx hb dX0_neededInTheEnd_45 hl (k := 4) rfl (by rw [ev_34502]; rfl) (by decide) rfl (fun ls hl => ?_)
                have fv_34502 : v_34502.toInt = i34489_4.toInt + 1 := by rw [ev_34502]; exact ka_add (x := i34489_4.toInt) (y := 1) rfl (by decide) (by omega) (by omega)
                refine lv_goto (tgt := 15) hx hb dX0_neededInTheEnd_48 (by decide) ?_
                exact ih_34489 i34489_2 v_34502 ⟨by omega, by omega⟩ (kn_Ino hx34489 ⟨by omega, by omega⟩ (by omega) ev_34500 (by omega)) (by omega) ls (lv_sub hl [1, 2, 3, 4, 0] rfl)
              · have c_34501 : v_34500.toInt = 1 := by rw [ka_eq', show ((1 : Int32)).toInt = 1 from by decide] at c_34501; exact c_34501
                refine lv_iload_n hx hb dX0_neededInTheEnd_35 rfl (lv_at hl 2 rfl) ?_
                refine lv_aload_n hx hb dX0_neededInTheEnd_36 rfl (lv_at hl 0 rfl) ?_
                refine ka_get C lq_68 rfl hK hP 0 rfl 1 (by decide) lq_69 rfl dX0_neededInTheEnd_37 ?_
                refine lv_iload hx hb dX0_neededInTheEnd_40 (lv_at hl 4 rfl) ?_
                refine va_iald hx hb hK hP 1 0 rfl rfl (ka_in (by omega) (by omega)) dX0_neededInTheEnd_42 ?_
                refine lv_topi (fun v_34503 ev_34503 => ?_)
                refine lv_ior hx hb dX0_neededInTheEnd_43 ?_
                refine lv_topi (fun v_34504 ev_34504 => ?_)
                refine lv_istore_n (lv' := [(2, .int v_34504), (0, .ref a0), (1, .int x0), (3, .int i34469_3), (4, .int i34489_4)]) hx hb dX0_neededInTheEnd_44 rfl hl (by decide) rfl (fun ls hl => ?_)
                obtain ⟨v_34505, ev_34505⟩ : ∃ y : Int32, y = i34489_4 + 1 := ⟨_, rfl⟩
                refine lv_iinc (v := v_34505) (lv' := [(4, .int v_34505), (2, .int v_34504), (0, .ref a0), (1, .int x0), (3, .int i34469_3)]) hx hb dX0_neededInTheEnd_45 hl (k := 4) rfl (by rw [ev_34505]; rfl) (by decide) rfl (fun ls hl => ?_)
                have fv_34505 : v_34505.toInt = i34489_4.toInt + 1 := by rw [ev_34505]; exact ka_add (x := i34489_4.toInt) (y := 1) rfl (by decide) (by omega) (by omega)
                refine lv_goto (tgt := 15) hx hb dX0_neededInTheEnd_48 (by decide) ?_
                exact ih_34489 v_34504 v_34505 ⟨by omega, by omega⟩ (kn_Iyes hx34489 ⟨by omega, by omega⟩ (by omega) ev_34500 (by omega) ev_34503 ev_34504) (by omega) ls (lv_sub hl [2, 3, 1, 4, 0] rfl)
        exact lp_34489 _ i34469_2 0 ⟨by decide, by decide⟩ (kn_Iat hx34469 (by have h00 : ((0 : Int32)).toInt = 0 := (by decide); omega)) (Nat.lt_succ_self _) ls (lv_sub hl [1, 2, 3, 4, 0] rfl)
  exact lp_34469 _ v_34468 0 ⟨by decide, by decide⟩ (kn_Iat (kn_I0 ev_34468 ⟨by omega, by omega⟩) (by decide)) (Nat.lt_succ_self _) ls (lv_sub hl [2, 3, 1, 0] rfl)
set_option maxHeartbeats 4000000 in
set_option maxRecDepth 100000 in
theorem cn_X0_isLesson_447 (l : Launch) (D : va_G) (F : Nat → Prop) (x0 : Int32) (hx0 : 0 ≤ x0.toInt ∧ x0.toInt ≤ 5) : ka_R l D F yX0_isLesson wsX0_isLesson 0 0 [.int x0] [] [] (fun v => v = some (.int 1)) := by
  refine ka_R_of (cc := cX0_isLesson) (maxL := 1) (ret := (some .boolean)) (by decide) rfl (Nat.le_of_ble_eq_true rfl) ?_
  intro p e s m below meth c ls C hr hlk hP hK hE hN hl
  have hS : va_S (fun _ => False) s.heap s.heap [] := va_S.rf
  have C : CallFix p m c cX0_isLesson 1 s [.int x0].toArray wsX0_isLesson RX0 := C
  obtain ⟨hx, hb, hml, hown, hts⟩ := id C
  have hl : lv_has ls 1 [(0, .int x0)] := hl
  have rx0 := ka_rng x0
  refine lv_iload_n hx hb dX0_isLesson_0 rfl (lv_at hl 0 rfl) ?_
  refine lv_if_lt (tgt := 14) hx hb dX0_isLesson_1 (by decide) (fun c_ => absurd c_ (by rw [ka_lt', show ((0 : Int32)).toInt = 0 from by decide]; omega)) (fun _ => ?_)
  refine lv_iload_n hx hb dX0_isLesson_4 rfl (lv_at hl 0 rfl) ?_
  refine lv_bipush (v := 6) hx hb dX0_isLesson_5 (by decide) ?_
  refine lv_icmp_ge (tgt := 14) hx hb dX0_isLesson_7 (by decide) (fun c_ => absurd c_ (by rw [ka_le', show ((6 : Int32)).toInt = 6 from by decide]; omega)) (fun _ => ?_)
  refine lv_iconst (v := 1) hx hb dX0_isLesson_10 (by decide) ?_
  refine lv_goto (tgt := 15) hx hb dX0_isLesson_11 (by decide) ?_
  exact ka_rRz C hr hlk rfl rfl dX0_isLesson_15
set_option maxHeartbeats 4000000 in
set_option maxRecDepth 100000 in
theorem cn_X0_addNeed_448 (l : Launch) (D : va_G) (F : Nat → Prop) (a0 : Nat) (x0 : Int32) (x1 : Int32) (a1 : Nat) (a2 : Nat) (x2 : Int32) (k0 : ClassId) (f0 : Nat → Int32) : ka_E l D F yX0_addNeed wsX0_addNeed 2 45 0 0 [.ref a0, .int x0, .int x1] [(a0, .inr (0, [.ref a1, .ref a2, .int x2])), (a2, .inl (k0, 6, .inl f0))] [(k0, .int)] (fun (u : (Nat → Int32) × (Int32)) => some (.int (u.2))) (fun (u : (Nat → Int32) × (Int32)) => (0 ≤ (u.2).toInt ∧ (u.2).toInt ≤ 1) ∧ (kn_P f0 x0 x1 (u.1) (u.2))) (fun (u : (Nat → Int32) × (Int32)) => [(a0, .inr (0, [.ref a1, .ref a2, .int x2])), (a2, .inl (k0, 6, .inl (u.1)))]) (fun (u : (Nat → Int32) × (Int32)) => []) := by
  refine ka_E_of (cc := cX0_addNeed) (maxL := 3) (ret := (some .boolean)) (by decide) rfl (Nat.le_of_ble_eq_true rfl) ?_
  intro p e s m below meth c ls A C hr hlk hin hP hK hD hS hA hE hN hl
  have C : CallFix p m c cX0_addNeed 3 s [.ref a0, .int x0, .int x1].toArray wsX0_addNeed RX0 := C
  obtain ⟨hx, hb, hml, hown, hts⟩ := id C
  have hl : lv_has ls 3 [(0, .ref a0), (1, .int x0), (2, .int x1)] := hl
  have rx0 := ka_rng x0
  have rx1 := ka_rng x1
  have rx2 := ka_rng x2
  rcases (show x0.toInt ≤ -1 ∨ (0 ≤ x0.toInt ∧ x0.toInt ≤ 5) ∨ 6 ≤ x0.toInt by omega) with y_34602 | y_34602 | y_34602
  · skip
    rcases (show x1.toInt ≤ -1 ∨ (0 ≤ x1.toInt ∧ x1.toInt ≤ 5) ∨ 6 ≤ x1.toInt by omega) with y_34603 | y_34603 | y_34603
    · skip
      refine lv_iload_n hx hb dX0_addNeed_0 rfl (lv_at hl 1 rfl) ?_
      refine ka_RS (n := 1) C (cg_X0_isLesson_21 l D F x0 (by omega)) gX0_addNeed_X0_isLesson rfl (by decide +kernel) ⟨Nat.le_of_ble_eq_true rfl, Nat.le_of_ble_eq_true rfl⟩ hK hP hS hE hN [] rfl [] rfl rfl hl.1 (rest := []) rfl (Nat.le_of_ble_eq_true rfl) dX0_addNeed_1 ⟨Nat.le_of_ble_eq_true rfl, Nat.le_of_ble_eq_true rfl⟩ (fun v hv => ?_)
      subst hv
      refine ka_stk (w := [.int 0]) rfl ?_
      refine lv_if_eq (tgt := 19) hx hb dX0_addNeed_4 (by decide) (fun _ => ?_) (fun c_ => absurd (by decide) c_)
      refine lv_iconst (v := 0) hx hb dX0_addNeed_19 (by decide) ?_
      exact ka_rEz C hr hlk rfl (Nat.le_of_ble_eq_true rfl) (Nat.le_of_ble_eq_true rfl) hS (ka_qE (f0, 0) rfl ⟨(show 0 ≤ ((0 : Int32)).toInt ∧ ((0 : Int32)).toInt ≤ 1 from ⟨by decide, by decide⟩), (show kn_P f0 x0 x1 f0 (0 : Int32) from (Or.inr ⟨fun h9 => by obtain ⟨h1, h2, h3, h4, h5, -, -⟩ := h9; omega, by decide, rfl⟩))⟩ hK hP hD hS [0, 1] (by decide) rfl [] rfl) dX0_addNeed_20
    · skip
      refine lv_iload_n hx hb dX0_addNeed_0 rfl (lv_at hl 1 rfl) ?_
      refine ka_RS (n := 1) C (cg_X0_isLesson_21 l D F x0 (by omega)) gX0_addNeed_X0_isLesson rfl (by decide +kernel) ⟨Nat.le_of_ble_eq_true rfl, Nat.le_of_ble_eq_true rfl⟩ hK hP hS hE hN [] rfl [] rfl rfl hl.1 (rest := []) rfl (Nat.le_of_ble_eq_true rfl) dX0_addNeed_1 ⟨Nat.le_of_ble_eq_true rfl, Nat.le_of_ble_eq_true rfl⟩ (fun v hv => ?_)
      subst hv
      refine ka_stk (w := [.int 0]) rfl ?_
      refine lv_if_eq (tgt := 19) hx hb dX0_addNeed_4 (by decide) (fun _ => ?_) (fun c_ => absurd (by decide) c_)
      refine lv_iconst (v := 0) hx hb dX0_addNeed_19 (by decide) ?_
      exact ka_rEz C hr hlk rfl (Nat.le_of_ble_eq_true rfl) (Nat.le_of_ble_eq_true rfl) hS (ka_qE (f0, 0) rfl ⟨(show 0 ≤ ((0 : Int32)).toInt ∧ ((0 : Int32)).toInt ≤ 1 from ⟨by decide, by decide⟩), (show kn_P f0 x0 x1 f0 (0 : Int32) from (Or.inr ⟨fun h9 => by obtain ⟨h1, h2, h3, h4, h5, -, -⟩ := h9; omega, by decide, rfl⟩))⟩ hK hP hD hS [0, 1] (by decide) rfl [] rfl) dX0_addNeed_20
    · skip
      refine lv_iload_n hx hb dX0_addNeed_0 rfl (lv_at hl 1 rfl) ?_
      refine ka_RS (n := 1) C (cg_X0_isLesson_21 l D F x0 (by omega)) gX0_addNeed_X0_isLesson rfl (by decide +kernel) ⟨Nat.le_of_ble_eq_true rfl, Nat.le_of_ble_eq_true rfl⟩ hK hP hS hE hN [] rfl [] rfl rfl hl.1 (rest := []) rfl (Nat.le_of_ble_eq_true rfl) dX0_addNeed_1 ⟨Nat.le_of_ble_eq_true rfl, Nat.le_of_ble_eq_true rfl⟩ (fun v hv => ?_)
      subst hv
      refine ka_stk (w := [.int 0]) rfl ?_
      refine lv_if_eq (tgt := 19) hx hb dX0_addNeed_4 (by decide) (fun _ => ?_) (fun c_ => absurd (by decide) c_)
      refine lv_iconst (v := 0) hx hb dX0_addNeed_19 (by decide) ?_
      exact ka_rEz C hr hlk rfl (Nat.le_of_ble_eq_true rfl) (Nat.le_of_ble_eq_true rfl) hS (ka_qE (f0, 0) rfl ⟨(show 0 ≤ ((0 : Int32)).toInt ∧ ((0 : Int32)).toInt ≤ 1 from ⟨by decide, by decide⟩), (show kn_P f0 x0 x1 f0 (0 : Int32) from (Or.inr ⟨fun h9 => by obtain ⟨h1, h2, h3, h4, h5, -, -⟩ := h9; omega, by decide, rfl⟩))⟩ hK hP hD hS [0, 1] (by decide) rfl [] rfl) dX0_addNeed_20
  · skip
    rcases (show x1.toInt ≤ -1 ∨ (0 ≤ x1.toInt ∧ x1.toInt ≤ 5) ∨ 6 ≤ x1.toInt by omega) with y_34604 | y_34604 | y_34604
    · skip
      refine lv_iload_n hx hb dX0_addNeed_0 rfl (lv_at hl 1 rfl) ?_
      refine ka_RS (n := 1) C (cn_X0_isLesson_447 l D F x0 ⟨by omega, by omega⟩) gX0_addNeed_X0_isLesson rfl (by decide +kernel) ⟨Nat.le_of_ble_eq_true rfl, Nat.le_of_ble_eq_true rfl⟩ hK hP hS hE hN [] rfl [] rfl rfl hl.1 (rest := []) rfl (Nat.le_of_ble_eq_true rfl) dX0_addNeed_1 ⟨Nat.le_of_ble_eq_true rfl, Nat.le_of_ble_eq_true rfl⟩ (fun v hv => ?_)
      subst hv
      refine ka_stk (w := [.int 1]) rfl ?_
      refine lv_if_eq (tgt := 19) hx hb dX0_addNeed_4 (by decide) (fun c_ => absurd c_ (by decide)) (fun _ => ?_)
      refine lv_iload_n hx hb dX0_addNeed_7 rfl (lv_at hl 2 rfl) ?_
      refine ka_RS (n := 1) C (cg_X0_isLesson_21 l D F x1 (by omega)) gX0_addNeed_X0_isLesson rfl (by decide +kernel) ⟨Nat.le_of_ble_eq_true rfl, Nat.le_of_ble_eq_true rfl⟩ hK hP hS hE hN [] rfl [] rfl rfl hl.1 (rest := []) rfl (Nat.le_of_ble_eq_true rfl) dX0_addNeed_8 ⟨Nat.le_of_ble_eq_true rfl, Nat.le_of_ble_eq_true rfl⟩ (fun v hv => ?_)
      subst hv
      refine ka_stk (w := [.int 0]) rfl ?_
      refine lv_if_eq (tgt := 19) hx hb dX0_addNeed_11 (by decide) (fun _ => ?_) (fun c_ => absurd (by decide) c_)
      refine lv_iconst (v := 0) hx hb dX0_addNeed_19 (by decide) ?_
      exact ka_rEz C hr hlk rfl (Nat.le_of_ble_eq_true rfl) (Nat.le_of_ble_eq_true rfl) hS (ka_qE (f0, 0) rfl ⟨(show 0 ≤ ((0 : Int32)).toInt ∧ ((0 : Int32)).toInt ≤ 1 from ⟨by decide, by decide⟩), (show kn_P f0 x0 x1 f0 (0 : Int32) from (Or.inr ⟨fun h9 => by obtain ⟨h1, h2, h3, h4, h5, -, -⟩ := h9; omega, by decide, rfl⟩))⟩ hK hP hD hS [0, 1] (by decide) rfl [] rfl) dX0_addNeed_20
    · skip
      refine lv_iload_n hx hb dX0_addNeed_0 rfl (lv_at hl 1 rfl) ?_
      refine ka_RS (n := 1) C (cn_X0_isLesson_447 l D F x0 ⟨by omega, by omega⟩) gX0_addNeed_X0_isLesson rfl (by decide +kernel) ⟨Nat.le_of_ble_eq_true rfl, Nat.le_of_ble_eq_true rfl⟩ hK hP hS hE hN [] rfl [] rfl rfl hl.1 (rest := []) rfl (Nat.le_of_ble_eq_true rfl) dX0_addNeed_1 ⟨Nat.le_of_ble_eq_true rfl, Nat.le_of_ble_eq_true rfl⟩ (fun v hv => ?_)
      subst hv
      refine ka_stk (w := [.int 1]) rfl ?_
      refine lv_if_eq (tgt := 19) hx hb dX0_addNeed_4 (by decide) (fun c_ => absurd c_ (by decide)) (fun _ => ?_)
      refine lv_iload_n hx hb dX0_addNeed_7 rfl (lv_at hl 2 rfl) ?_
      refine ka_RS (n := 1) C (cn_X0_isLesson_447 l D F x1 ⟨by omega, by omega⟩) gX0_addNeed_X0_isLesson rfl (by decide +kernel) ⟨Nat.le_of_ble_eq_true rfl, Nat.le_of_ble_eq_true rfl⟩ hK hP hS hE hN [] rfl [] rfl rfl hl.1 (rest := []) rfl (Nat.le_of_ble_eq_true rfl) dX0_addNeed_8 ⟨Nat.le_of_ble_eq_true rfl, Nat.le_of_ble_eq_true rfl⟩ (fun v hv => ?_)
      subst hv
      refine ka_stk (w := [.int 1]) rfl ?_
      refine lv_if_eq (tgt := 19) hx hb dX0_addNeed_11 (by decide) (fun c_ => absurd c_ (by decide)) (fun _ => ?_)
      refine lv_iload_n hx hb dX0_addNeed_14 rfl (lv_at hl 1 rfl) ?_
      refine lv_iload_n hx hb dX0_addNeed_15 rfl (lv_at hl 2 rfl) ?_
      refine lv_icmp_ne (tgt := 21) hx hb dX0_addNeed_16 (by decide) (fun c_34605 => ?_) (fun c_34605 => ?_)
      · have c_34605 : ¬ x0.toInt = x1.toInt := by rw [ka_eq'] at c_34605; exact c_34605
        refine lv_aload_n hx hb dX0_addNeed_21 rfl (lv_at hl 0 rfl) ?_
        refine ka_get C lq_72 rfl hK hP 0 rfl 1 (by decide) lq_73 rfl dX0_addNeed_22 ?_
        refine lv_iload_n hx hb dX0_addNeed_25 rfl (lv_at hl 1 rfl) ?_
        refine va_iald hx hb hK hP 1 0 rfl rfl (ka_in (by omega) (by omega)) dX0_addNeed_26 ?_
        refine lv_topi (fun v_34606 ev_34606 => ?_)
        refine lv_iload_n hx hb dX0_addNeed_27 rfl (lv_at hl 2 rfl) ?_
        refine ka_RN (n := 2) C (ka_c_bitAt l D F v_34606 x1) gX0_addNeed_X6_bitAt_n30 rfl hN.2.2.2.1 lq_74 lq_75 (by decide +kernel) ⟨Nat.le_of_ble_eq_true rfl, Nat.le_of_ble_eq_true rfl⟩ hK hP hS hE hN [] rfl [] rfl rfl hl.1 (rest := []) rfl (Nat.le_of_ble_eq_true rfl) dX0_addNeed_28 ⟨Nat.le_of_ble_eq_true rfl, Nat.le_of_ble_eq_true rfl⟩ (fun v hv => ?_)
        subst hv
        refine ka_stk (w := .int (ka_bit v_34606 x1) :: []) rfl ?_
        refine lv_topi (fun v_34607 ev_34607 => ?_)
        have fv_34607 := ka_bit_in v_34606 x1; rw [← ev_34607] at fv_34607
        refine lv_iconst (v := 1) hx hb dX0_addNeed_31 (by decide) ?_
        refine lv_icmp_eq (tgt := 48) hx hb dX0_addNeed_32 (by decide) (fun c_34608 => ?_) (fun c_34608 => ?_)
        · have c_34608 : v_34607.toInt = 1 := by rw [ka_eq', show ((1 : Int32)).toInt = 1 from by decide] at c_34608; exact c_34608
          refine lv_iconst (v := 0) hx hb dX0_addNeed_48 (by decide) ?_
          exact ka_rEz C hr hlk rfl (Nat.le_of_ble_eq_true rfl) (Nat.le_of_ble_eq_true rfl) hS (ka_qE (f0, 0) rfl ⟨(show 0 ≤ ((0 : Int32)).toInt ∧ ((0 : Int32)).toInt ≤ 1 from ⟨by decide, by decide⟩), (show kn_P f0 x0 x1 f0 (0 : Int32) from (Or.inr ⟨fun h9 => kn_noA h9 ev_34606 ev_34607 (by omega), by decide, rfl⟩))⟩ hK hP hD hS [0, 1] (by decide) rfl [] rfl) dX0_addNeed_49
        · have c_34608 : ¬ v_34607.toInt = 1 := by rw [ka_eq', show ((1 : Int32)).toInt = 1 from by decide] at c_34608; exact c_34608
          refine lv_aload_n hx hb dX0_addNeed_35 rfl (lv_at hl 0 rfl) ?_
          refine lv_iload_n hx hb dX0_addNeed_36 rfl (lv_at hl 2 rfl) ?_
          refine ka_RV (n := 1) C (cn_X0_neededInTheEnd_446 l D F a0 x1 a1 a2 x2 k0 f0 ⟨by omega, by omega⟩) gX0_addNeed_X0_neededInTheEnd rfl (by decide +kernel) ⟨Nat.le_of_ble_eq_true rfl, Nat.le_of_ble_eq_true rfl⟩ hK hP hS hE hN [0, 1] rfl [0] rfl (ci := 0) rfl rfl 0 rfl rfl hl.1 (rest := []) rfl (Nat.le_of_ble_eq_true rfl) dX0_addNeed_37 ⟨Nat.le_of_ble_eq_true rfl, Nat.le_of_ble_eq_true rfl⟩ (fun v hv => ?_)
          obtain ⟨v_34609, rfl, hxv_34609⟩ := hv
          have rv_34609 := ka_rng v_34609
          refine ka_stk (w := [.int v_34609]) rfl ?_
          refine lv_iload_n hx hb dX0_addNeed_40 rfl (lv_at hl 1 rfl) ?_
          refine ka_RN (n := 2) C (ka_c_bitAt l D F v_34609 x0) gX0_addNeed_X6_bitAt_n30 rfl hN.2.2.2.1 lq_74 lq_75 (by decide +kernel) ⟨Nat.le_of_ble_eq_true rfl, Nat.le_of_ble_eq_true rfl⟩ hK hP hS hE hN [] rfl [] rfl rfl hl.1 (rest := []) rfl (Nat.le_of_ble_eq_true rfl) dX0_addNeed_41 ⟨Nat.le_of_ble_eq_true rfl, Nat.le_of_ble_eq_true rfl⟩ (fun v hv => ?_)
          subst hv
          refine ka_stk (w := .int (ka_bit v_34609 x0) :: []) rfl ?_
          refine lv_topi (fun v_34610 ev_34610 => ?_)
          have fv_34610 := ka_bit_in v_34609 x0; rw [← ev_34610] at fv_34610
          refine lv_iconst (v := 1) hx hb dX0_addNeed_44 (by decide) ?_
          refine lv_icmp_ne (tgt := 50) hx hb dX0_addNeed_45 (by decide) (fun c_34611 => ?_) (fun c_34611 => ?_)
          · have c_34611 : ¬ v_34610.toInt = 1 := by rw [ka_eq', show ((1 : Int32)).toInt = 1 from by decide] at c_34611; exact c_34611
            refine lv_aload_n hx hb dX0_addNeed_50 rfl (lv_at hl 0 rfl) ?_
            refine ka_get C lq_72 rfl hK hP 0 rfl 1 (by decide) lq_73 rfl dX0_addNeed_51 ?_
            refine lv_iload_n hx hb dX0_addNeed_54 rfl (lv_at hl 1 rfl) ?_
            refine lv_dup2_11 hx hb dX0_addNeed_55 rfl rfl ?_
            refine va_iald hx hb hK hP 1 0 rfl rfl (ka_in (by omega) (by omega)) dX0_addNeed_56 ?_
            refine lv_topi (fun v_34612 ev_34612 => ?_)
            refine lv_iconst (v := 1) hx hb dX0_addNeed_57 (by decide) ?_
            refine lv_iload_n hx hb dX0_addNeed_58 rfl (lv_at hl 2 rfl) ?_
            refine lv_ishl hx hb dX0_addNeed_59 ?_
            refine lv_topi (fun v_34613 ev_34613 => ?_)
            refine lv_ior hx hb dX0_addNeed_60 ?_
            refine lv_topi (fun v_34614 ev_34614 => ?_)
            refine va_iast hx hb hK hP hD hS 1 0 rfl rfl (ka_in (by omega) (by omega)) dX0_addNeed_61 (fun H locs hP hD hS => ?_)
            have hP : va_P D vwCl [(a0, .inr (0, [.ref a1, .ref a2, .int x2])), (a2, .inl (k0, 6, .inl (upd f0 (Int32.toNatClampNeg x0) v_34614)))] H := hP
            have hD : va_D A [(a0, .inr (0, [.ref a1, .ref a2, .int x2])), (a2, .inl (k0, 6, .inl (upd f0 (Int32.toNatClampNeg x0) v_34614)))] := hD
            obtain ⟨g_34615, eg_34615⟩ : ∃ g : Nat → Int32, g = (upd f0 (Int32.toNatClampNeg x0) v_34614) := ⟨_, rfl⟩
            rw [← eg_34615] at hP hD
            refine lv_iconst (v := 1) hx hb dX0_addNeed_62 (by decide) ?_
            exact ka_rEz C hr hlk rfl (Nat.le_of_ble_eq_true rfl) (Nat.le_of_ble_eq_true rfl) hS (ka_qE (g_34615, 1) rfl ⟨(show 0 ≤ ((1 : Int32)).toInt ∧ ((1 : Int32)).toInt ≤ 1 from ⟨by decide, by decide⟩), (show kn_P f0 x0 x1 g_34615 (1 : Int32) from (Or.inl ⟨kn_yes ⟨by omega, by omega⟩ ⟨by omega, by omega⟩ (by omega) ev_34606 ev_34607 (by omega) hxv_34609 ev_34610 (by omega), by decide, by rw [eg_34615, ev_34614, ev_34612, ev_34613, kp_cl (n := x0.toInt.toNat) (by omega)]⟩))⟩ hK hP hD hS [0, 1] (by decide) rfl [] rfl) dX0_addNeed_63
          · have c_34611 : v_34610.toInt = 1 := by rw [ka_eq', show ((1 : Int32)).toInt = 1 from by decide] at c_34611; exact c_34611
            refine lv_iconst (v := 0) hx hb dX0_addNeed_48 (by decide) ?_
            exact ka_rEz C hr hlk rfl (Nat.le_of_ble_eq_true rfl) (Nat.le_of_ble_eq_true rfl) hS (ka_qE (f0, 0) rfl ⟨(show 0 ≤ ((0 : Int32)).toInt ∧ ((0 : Int32)).toInt ≤ 1 from ⟨by decide, by decide⟩), (show kn_P f0 x0 x1 f0 (0 : Int32) from (Or.inr ⟨fun h9 => kn_noB h9 hxv_34609 ev_34610 (by omega), by decide, rfl⟩))⟩ hK hP hD hS [0, 1] (by decide) rfl [] rfl) dX0_addNeed_49
      · have c_34605 : x0.toInt = x1.toInt := by rw [ka_eq'] at c_34605; exact c_34605
        refine lv_iconst (v := 0) hx hb dX0_addNeed_19 (by decide) ?_
        exact ka_rEz C hr hlk rfl (Nat.le_of_ble_eq_true rfl) (Nat.le_of_ble_eq_true rfl) hS (ka_qE (f0, 0) rfl ⟨(show 0 ≤ ((0 : Int32)).toInt ∧ ((0 : Int32)).toInt ≤ 1 from ⟨by decide, by decide⟩), (show kn_P f0 x0 x1 f0 (0 : Int32) from (Or.inr ⟨fun h9 => by obtain ⟨h1, h2, h3, h4, h5, -, -⟩ := h9; omega, by decide, rfl⟩))⟩ hK hP hD hS [0, 1] (by decide) rfl [] rfl) dX0_addNeed_20
    · skip
      refine lv_iload_n hx hb dX0_addNeed_0 rfl (lv_at hl 1 rfl) ?_
      refine ka_RS (n := 1) C (cn_X0_isLesson_447 l D F x0 ⟨by omega, by omega⟩) gX0_addNeed_X0_isLesson rfl (by decide +kernel) ⟨Nat.le_of_ble_eq_true rfl, Nat.le_of_ble_eq_true rfl⟩ hK hP hS hE hN [] rfl [] rfl rfl hl.1 (rest := []) rfl (Nat.le_of_ble_eq_true rfl) dX0_addNeed_1 ⟨Nat.le_of_ble_eq_true rfl, Nat.le_of_ble_eq_true rfl⟩ (fun v hv => ?_)
      subst hv
      refine ka_stk (w := [.int 1]) rfl ?_
      refine lv_if_eq (tgt := 19) hx hb dX0_addNeed_4 (by decide) (fun c_ => absurd c_ (by decide)) (fun _ => ?_)
      refine lv_iload_n hx hb dX0_addNeed_7 rfl (lv_at hl 2 rfl) ?_
      refine ka_RS (n := 1) C (cg_X0_isLesson_28 l D F x1 (by omega)) gX0_addNeed_X0_isLesson rfl (by decide +kernel) ⟨Nat.le_of_ble_eq_true rfl, Nat.le_of_ble_eq_true rfl⟩ hK hP hS hE hN [] rfl [] rfl rfl hl.1 (rest := []) rfl (Nat.le_of_ble_eq_true rfl) dX0_addNeed_8 ⟨Nat.le_of_ble_eq_true rfl, Nat.le_of_ble_eq_true rfl⟩ (fun v hv => ?_)
      subst hv
      refine ka_stk (w := [.int 0]) rfl ?_
      refine lv_if_eq (tgt := 19) hx hb dX0_addNeed_11 (by decide) (fun _ => ?_) (fun c_ => absurd (by decide) c_)
      refine lv_iconst (v := 0) hx hb dX0_addNeed_19 (by decide) ?_
      exact ka_rEz C hr hlk rfl (Nat.le_of_ble_eq_true rfl) (Nat.le_of_ble_eq_true rfl) hS (ka_qE (f0, 0) rfl ⟨(show 0 ≤ ((0 : Int32)).toInt ∧ ((0 : Int32)).toInt ≤ 1 from ⟨by decide, by decide⟩), (show kn_P f0 x0 x1 f0 (0 : Int32) from (Or.inr ⟨fun h9 => by obtain ⟨h1, h2, h3, h4, h5, -, -⟩ := h9; omega, by decide, rfl⟩))⟩ hK hP hD hS [0, 1] (by decide) rfl [] rfl) dX0_addNeed_20
  · skip
    rcases (show x1.toInt ≤ -1 ∨ (0 ≤ x1.toInt ∧ x1.toInt ≤ 5) ∨ 6 ≤ x1.toInt by omega) with y_34616 | y_34616 | y_34616
    · skip
      refine lv_iload_n hx hb dX0_addNeed_0 rfl (lv_at hl 1 rfl) ?_
      refine ka_RS (n := 1) C (cg_X0_isLesson_28 l D F x0 (by omega)) gX0_addNeed_X0_isLesson rfl (by decide +kernel) ⟨Nat.le_of_ble_eq_true rfl, Nat.le_of_ble_eq_true rfl⟩ hK hP hS hE hN [] rfl [] rfl rfl hl.1 (rest := []) rfl (Nat.le_of_ble_eq_true rfl) dX0_addNeed_1 ⟨Nat.le_of_ble_eq_true rfl, Nat.le_of_ble_eq_true rfl⟩ (fun v hv => ?_)
      subst hv
      refine ka_stk (w := [.int 0]) rfl ?_
      refine lv_if_eq (tgt := 19) hx hb dX0_addNeed_4 (by decide) (fun _ => ?_) (fun c_ => absurd (by decide) c_)
      refine lv_iconst (v := 0) hx hb dX0_addNeed_19 (by decide) ?_
      exact ka_rEz C hr hlk rfl (Nat.le_of_ble_eq_true rfl) (Nat.le_of_ble_eq_true rfl) hS (ka_qE (f0, 0) rfl ⟨(show 0 ≤ ((0 : Int32)).toInt ∧ ((0 : Int32)).toInt ≤ 1 from ⟨by decide, by decide⟩), (show kn_P f0 x0 x1 f0 (0 : Int32) from (Or.inr ⟨fun h9 => by obtain ⟨h1, h2, h3, h4, h5, -, -⟩ := h9; omega, by decide, rfl⟩))⟩ hK hP hD hS [0, 1] (by decide) rfl [] rfl) dX0_addNeed_20
    · skip
      refine lv_iload_n hx hb dX0_addNeed_0 rfl (lv_at hl 1 rfl) ?_
      refine ka_RS (n := 1) C (cg_X0_isLesson_28 l D F x0 (by omega)) gX0_addNeed_X0_isLesson rfl (by decide +kernel) ⟨Nat.le_of_ble_eq_true rfl, Nat.le_of_ble_eq_true rfl⟩ hK hP hS hE hN [] rfl [] rfl rfl hl.1 (rest := []) rfl (Nat.le_of_ble_eq_true rfl) dX0_addNeed_1 ⟨Nat.le_of_ble_eq_true rfl, Nat.le_of_ble_eq_true rfl⟩ (fun v hv => ?_)
      subst hv
      refine ka_stk (w := [.int 0]) rfl ?_
      refine lv_if_eq (tgt := 19) hx hb dX0_addNeed_4 (by decide) (fun _ => ?_) (fun c_ => absurd (by decide) c_)
      refine lv_iconst (v := 0) hx hb dX0_addNeed_19 (by decide) ?_
      exact ka_rEz C hr hlk rfl (Nat.le_of_ble_eq_true rfl) (Nat.le_of_ble_eq_true rfl) hS (ka_qE (f0, 0) rfl ⟨(show 0 ≤ ((0 : Int32)).toInt ∧ ((0 : Int32)).toInt ≤ 1 from ⟨by decide, by decide⟩), (show kn_P f0 x0 x1 f0 (0 : Int32) from (Or.inr ⟨fun h9 => by obtain ⟨h1, h2, h3, h4, h5, -, -⟩ := h9; omega, by decide, rfl⟩))⟩ hK hP hD hS [0, 1] (by decide) rfl [] rfl) dX0_addNeed_20
    · skip
      refine lv_iload_n hx hb dX0_addNeed_0 rfl (lv_at hl 1 rfl) ?_
      refine ka_RS (n := 1) C (cg_X0_isLesson_28 l D F x0 (by omega)) gX0_addNeed_X0_isLesson rfl (by decide +kernel) ⟨Nat.le_of_ble_eq_true rfl, Nat.le_of_ble_eq_true rfl⟩ hK hP hS hE hN [] rfl [] rfl rfl hl.1 (rest := []) rfl (Nat.le_of_ble_eq_true rfl) dX0_addNeed_1 ⟨Nat.le_of_ble_eq_true rfl, Nat.le_of_ble_eq_true rfl⟩ (fun v hv => ?_)
      subst hv
      refine ka_stk (w := [.int 0]) rfl ?_
      refine lv_if_eq (tgt := 19) hx hb dX0_addNeed_4 (by decide) (fun _ => ?_) (fun c_ => absurd (by decide) c_)
      refine lv_iconst (v := 0) hx hb dX0_addNeed_19 (by decide) ?_
      exact ka_rEz C hr hlk rfl (Nat.le_of_ble_eq_true rfl) (Nat.le_of_ble_eq_true rfl) hS (ka_qE (f0, 0) rfl ⟨(show 0 ≤ ((0 : Int32)).toInt ∧ ((0 : Int32)).toInt ≤ 1 from ⟨by decide, by decide⟩), (show kn_P f0 x0 x1 f0 (0 : Int32) from (Or.inr ⟨fun h9 => by obtain ⟨h1, h2, h3, h4, h5, -, -⟩ := h9; omega, by decide, rfl⟩))⟩ hK hP hD hS [0, 1] (by decide) rfl [] rfl) dX0_addNeed_20
set_option maxHeartbeats 4000000 in
set_option maxRecDepth 100000 in
theorem cn_X6_needs_449 (l : Launch) (D : va_G) (F : Nat → Prop) (a0 : Nat) (x0 : Int32) (x1 : Int32) (a1 : Nat) (a2 : Nat) (a3 : Nat) (a4 : Nat) (x2 : Int32) (x3 : Int32) (x4 : Int32) (x5 : Int32) (x6 : Int32) (a5 : Nat) (a6 : Nat) (x7 : Int32) (k0 : ClassId) (f0 : Nat → Int32) (hx2 : -1 ≤ x2.toInt ∧ x2.toInt ≤ 5) : ka_E l D F yX6_needs wsX6_needs 3 67 0 0 [.ref a0, .int x0, .int x1] [(a0, .inr (6, [.ref a1, .ref a2, .ref a3, .ref a4, .int x2, .int x3, .int x4, .int x5, .int x6])), (a3, .inr (0, [.ref a5, .ref a6, .int x7])), (a6, .inl (k0, 6, .inl f0))] [(k0, .int)] (fun (u : (Nat → Int32) × (Int32)) => some (.int (u.2))) (fun (u : (Nat → Int32) × (Int32)) => (0 ≤ (u.2).toInt ∧ (u.2).toInt ≤ 1) ∧ (kn_P f0 x0 x1 (u.1) (u.2))) (fun (u : (Nat → Int32) × (Int32)) => [(a0, .inr (6, [.ref a1, .ref a2, .ref a3, .ref a4, .int x2, .int x3, .int x4, .int x5, .int x6])), (a3, .inr (0, [.ref a5, .ref a6, .int x7])), (a6, .inl (k0, 6, .inl (u.1)))]) (fun (u : (Nat → Int32) × (Int32)) => []) := by
  refine ka_E_of (cc := cX6_needs) (maxL := 3) (ret := (some .boolean)) (by decide) rfl (Nat.le_of_ble_eq_true rfl) ?_
  intro p e s m below meth c ls A C hr hlk hin hP hK hD hS hA hE hN hl
  have C : CallFix p m c cX6_needs 3 s [.ref a0, .int x0, .int x1].toArray wsX6_needs RX6 := C
  obtain ⟨hx, hb, hml, hown, hts⟩ := id C
  have hl : lv_has ls 3 [(0, .ref a0), (1, .int x0), (2, .int x1)] := hl
  have rx0 := ka_rng x0
  have rx1 := ka_rng x1
  have rx2 := ka_rng x2
  have rx3 := ka_rng x3
  have rx4 := ka_rng x4
  have rx5 := ka_rng x5
  have rx6 := ka_rng x6
  have rx7 := ka_rng x7
  refine lv_aload_n hx hb dX6_needs_0 rfl (lv_at hl 0 rfl) ?_
  refine ka_get C lq_164 rfl hK hP 0 rfl 2 (by decide) lq_165 rfl dX6_needs_1 ?_
  refine lv_iload_n hx hb dX6_needs_4 rfl (lv_at hl 1 rfl) ?_
  refine lv_iload_n hx hb dX6_needs_5 rfl (lv_at hl 2 rfl) ?_
  refine ka_EV (n := 2) (wr := [(a0, .inr (6, [.ref a1, .ref a2, .ref a3, .ref a4, .int x2, .int x3, .int x4, .int x5, .int x6]))]) C (cn_X0_addNeed_448 l D F a3 x0 x1 a5 a6 x7 k0 f0) gX6_needs_X0_addNeed rfl (by decide +kernel) ⟨Nat.le_of_ble_eq_true rfl, Nat.le_of_ble_eq_true rfl⟩ hK hP hD hS hA hE hN [1, 2] rfl (by decide) [0] rfl (by decide) (by decide) [0] rfl (ci := 0) rfl rfl 1 rfl rfl hl.1 (rest := []) rfl (Nat.le_of_ble_eq_true rfl) dX6_needs_6 ⟨Nat.le_of_ble_eq_true rfl, Nat.le_of_ble_eq_true rfl⟩ (fun u H locs hq hP hD hK hS => ?_)
  obtain ⟨g_34658, v_34659⟩ := u
  have hq : (0 ≤ v_34659.toInt ∧ v_34659.toInt ≤ 1) ∧ (kn_P f0 x0 x1 g_34658 v_34659) := hq
  obtain ⟨hv_34659, hzz_34660⟩ := hq
  have rv_34659 := ka_rng v_34659
  have hP : va_P D vwCl [(a0, .inr (6, [.ref a1, .ref a2, .ref a3, .ref a4, .int x2, .int x3, .int x4, .int x5, .int x6])), (a3, .inr (0, [.ref a5, .ref a6, .int x7])), (a6, .inl (k0, 6, .inl g_34658))] H := hP
  have hD : va_D A [(a0, .inr (6, [.ref a1, .ref a2, .ref a3, .ref a4, .int x2, .int x3, .int x4, .int x5, .int x6])), (a3, .inr (0, [.ref a5, .ref a6, .int x7])), (a6, .inl (k0, 6, .inl g_34658))] := hD
  have hK : va_K D vwCl [(k0, .int)] s := by simpa using hK
  refine ka_stk (w := [.int v_34659]) rfl ?_
  exact ka_rEz C hr hlk (kb_nz ⟨by omega, by omega⟩) (Nat.le_of_ble_eq_true rfl) (Nat.le_of_ble_eq_true rfl) hS (ka_qE (g_34658, v_34659) rfl ⟨(show 0 ≤ v_34659.toInt ∧ v_34659.toInt ≤ 1 from ⟨by omega, by omega⟩), (show kn_P f0 x0 x1 g_34658 v_34659 from hzz_34660)⟩ hK hP hD hS [0, 1, 2] (by decide) rfl [] rfl) dX6_needs_9
set_option maxHeartbeats 4000000 in
set_option maxRecDepth 100000 in
theorem cn_X7_hangsOn_450 (l : Launch) (D : va_G) (F : Nat → Prop) (a0 : Nat) (x0 : Int32) (x1 : Int32) (a1 : Nat) (x2 : Int32) (a2 : Nat) (a3 : Nat) (a4 : Nat) (a5 : Nat) (a6 : Nat) (a7 : Nat) (a8 : Nat) (x3 : Int32) (x4 : Int32) (x5 : Int32) (x6 : Int32) (x7 : Int32) (x8 : Int32) (x9 : Int32) (a9 : Nat) (a10 : Nat) (a11 : Nat) (a12 : Nat) (a13 : Nat) (a14 : Nat) (x10 : Int32) (x11 : Int32) (x12 : Int32) (x13 : Int32) (x14 : Int32) (x15 : Int32) (k0 : ClassId) (f0 : Nat → Int32) (hx0 : 0 ≤ x0.toInt ∧ x0.toInt ≤ 5) (hx1 : 0 ≤ x1.toInt ∧ x1.toInt ≤ 5) (hx2 : 0 ≤ x2.toInt ∧ x2.toInt ≤ 80) (hx3 : -1 ≤ x3.toInt ∧ x3.toInt ≤ 5) (hx6 : 1 ≤ x6.toInt ∧ x6.toInt ≤ 8) (hx7 : 0 ≤ x7.toInt ∧ x7.toInt ≤ 40) (hx9 : 0 ≤ x9.toInt ∧ x9.toInt ≤ 10) (hx10 : 0 ≤ x10.toInt ∧ x10.toInt ≤ 60) (hx11 : 0 ≤ x11.toInt ∧ x11.toInt ≤ 60) (hx12 : 0 ≤ x12.toInt ∧ x12.toInt ≤ 60) (hx13 : 0 ≤ x13.toInt ∧ x13.toInt ≤ 8) (hx15 : 0 ≤ x15.toInt ∧ x15.toInt ≤ 1) : ka_R l D F yX7_hangsOn wsX7_hangsOn 0 0 [.ref a0, .int x0, .int x1] [(a0, .inr (7, [.ref a1, .int x2, .ref a2, .ref a3, .ref a4, .ref a5, .ref a6, .ref a7, .ref a8, .int x3, .int x4, .int x5, .int x6, .int x7, .int x8, .int x9, .ref a9, .ref a10, .ref a11, .ref a12, .ref a13, .ref a14, .int x10, .int x11, .int x12, .int x13, .int x14, .int x15])), (a7, .inl (k0, 36, .inl f0))] [(k0, .boolean)] (fun v => ∃ x : Int32, v = some (.int x) ∧ (0 ≤ x.toInt ∧ x.toInt ≤ 1) ∧ (x.toInt = if kn_it (kn_M f0) x0.toInt.toNat 36 x1.toInt.toNat = true then 1 else 0)) := by
  refine ka_R_of (cc := cX7_hangsOn) (maxL := 7) (ret := (some .boolean)) (by decide) rfl (Nat.le_of_ble_eq_true rfl) ?_
  intro p e s m below meth c ls C hr hlk hP hK hE hN hl
  have hS : va_S (fun _ => False) s.heap s.heap [] := va_S.rf
  have C : CallFix p m c cX7_hangsOn 7 s [.ref a0, .int x0, .int x1].toArray wsX7_hangsOn RX7 := C
  obtain ⟨hx, hb, hml, hown, hts⟩ := id C
  have hl : lv_has ls 7 [(0, .ref a0), (1, .int x0), (2, .int x1)] := hl
  have rx0 := ka_rng x0
  have rx1 := ka_rng x1
  have rx2 := ka_rng x2
  have rx3 := ka_rng x3
  have rx4 := ka_rng x4
  have rx5 := ka_rng x5
  have rx6 := ka_rng x6
  have rx7 := ka_rng x7
  have rx8 := ka_rng x8
  have rx9 := ka_rng x9
  have rx10 := ka_rng x10
  have rx11 := ka_rng x11
  have rx12 := ka_rng x12
  have rx13 := ka_rng x13
  have rx14 := ka_rng x14
  have rx15 := ka_rng x15
  refine lv_iconst (v := 1) hx hb dX7_hangsOn_0 (by decide) ?_
  refine lv_iload_n hx hb dX7_hangsOn_1 rfl (lv_at hl 1 rfl) ?_
  refine lv_ishl hx hb dX7_hangsOn_2 ?_
  refine lv_topi (fun v_34961 ev_34961 => ?_)
  refine lv_istore_n (lv' := [(3, .int v_34961), (0, .ref a0), (1, .int x0), (2, .int x1)]) hx hb dX7_hangsOn_3 rfl hl (by decide) rfl (fun ls hl => ?_)
  refine lv_iconst (v := 0) hx hb dX7_hangsOn_4 (by decide) ?_
  refine lv_istore (lv' := [(4, .int 0), (3, .int v_34961), (0, .ref a0), (1, .int x0), (2, .int x1)]) hx hb dX7_hangsOn_5 hl (by decide) rfl (fun ls hl => ?_)
  have lp_34962 : ∀ (n : Nat) (i34962_3 : Int32) (i34962_4 : Int32), (0 ≤ i34962_4.toInt ∧ i34962_4.toInt ≤ 6) → (kn_G f0 x0 (6 * i34962_4.toInt.toNat) i34962_3) → (6 - i34962_4.toInt).toNat < n → ∀ (ls : Array Slot), lv_has ls 7 [(0, .ref a0), (1, .int x0), (2, .int x1), (3, .int i34962_3), (4, .int i34962_4)] → W p l e ({ frames := 0, cells := 0, slots := 0, locals := 0 }) s m [.ref a0, .int x0, .int x1].toArray below meth c s.heap [] 0 0 (MQ below (ka_QR (fun v => ∃ x : Int32, v = some (.int x) ∧ (0 ≤ x.toInt ∧ x.toInt ≤ 1) ∧ (x.toInt = if kn_it (kn_M f0) x0.toInt.toNat 36 x1.toInt.toNat = true then 1 else 0))) [.ref a0, .int x0, .int x1].toArray s 0 0 (fun _ => False)) (F0 m 7 ls []) := by
    intro n
    induction n with
    | zero =>
      intro i34962_3 i34962_4 hi34962_4 hx34962 hm
      exact absurd hm (Nat.not_lt_zero _)
    | succ n ih_34962 =>
      intro i34962_3 i34962_4 hi34962_4 hx34962 hm ls hl
      have ri34962_3 := ka_rng i34962_3
      have ri34962_4 := ka_rng i34962_4
      refine lv_iload hx hb dX7_hangsOn_7 (lv_at hl 4 rfl) ?_
      refine lv_bipush (v := 6) hx hb dX7_hangsOn_9 (by decide) ?_
      refine lv_icmp_ge (tgt := 85) hx hb dX7_hangsOn_11 (by decide) (fun c_35030 => ?_) (fun c_35030 => ?_)
      · have c_35030 : 6 ≤ i34962_4.toInt := by rw [ka_le', show ((6 : Int32)).toInt = 6 from by decide] at c_35030; exact c_35030
        refine lv_iload_n hx hb dX7_hangsOn_85 rfl (lv_at hl 3 rfl) ?_
        refine lv_iload_n hx hb dX7_hangsOn_86 rfl (lv_at hl 2 rfl) ?_
        refine lv_ishr hx hb dX7_hangsOn_87 ?_
        refine lv_topi (fun v_35031 ev_35031 => ?_)
        refine lv_iconst (v := 1) hx hb dX7_hangsOn_88 (by decide) ?_
        refine lv_iand hx hb dX7_hangsOn_89 ?_
        refine lv_topi (fun v_35032 ev_35032 => ?_)
        refine lv_iconst (v := 1) hx hb dX7_hangsOn_90 (by decide) ?_
        refine lv_icmp_ne (tgt := 98) hx hb dX7_hangsOn_91 (by decide) (fun c_35033 => ?_) (fun c_35033 => ?_)
        · have c_35033 : ¬ v_35032.toInt = 1 := by rw [ka_eq', show ((1 : Int32)).toInt = 1 from by decide] at c_35033; exact c_35033
          refine lv_iconst (v := 0) hx hb dX7_hangsOn_98 (by decide) ?_
          exact ka_rRz C hr hlk rfl ⟨_, rfl, ⟨by decide, by decide⟩, (kn_ans0 hx34962 (by omega) ⟨by omega, by omega⟩ ev_35031 ev_35032 (by omega))⟩ dX7_hangsOn_99
        · have c_35033 : v_35032.toInt = 1 := by rw [ka_eq', show ((1 : Int32)).toInt = 1 from by decide] at c_35033; exact c_35033
          refine lv_iconst (v := 1) hx hb dX7_hangsOn_94 (by decide) ?_
          refine lv_goto (tgt := 99) hx hb dX7_hangsOn_95 (by decide) ?_
          exact ka_rRz C hr hlk rfl ⟨_, rfl, ⟨by decide, by decide⟩, (kn_ans1 hx34962 (by omega) ⟨by omega, by omega⟩ ev_35031 ev_35032 (by omega))⟩ dX7_hangsOn_99
      · have c_35030 : ¬ 6 ≤ i34962_4.toInt := by rw [ka_le', show ((6 : Int32)).toInt = 6 from by decide] at c_35030; exact c_35030
        refine lv_iconst (v := 0) hx hb dX7_hangsOn_14 (by decide) ?_
        refine lv_istore (lv' := [(5, .int 0), (0, .ref a0), (1, .int x0), (2, .int x1), (3, .int i34962_3), (4, .int i34962_4)]) hx hb dX7_hangsOn_15 hl (by decide) rfl (fun ls hl => ?_)
        have lp_35034 : ∀ (n : Nat) (i35034_3 : Int32) (i35034_5 : Int32), (0 ≤ i35034_5.toInt ∧ i35034_5.toInt ≤ 6) → (kn_G f0 x0 (6 * i34962_4.toInt.toNat + i35034_5.toInt.toNat) i35034_3) → (6 - i35034_5.toInt).toNat < n → ∀ (ls : Array Slot), lv_has ls 7 [(0, .ref a0), (1, .int x0), (2, .int x1), (3, .int i35034_3), (4, .int i34962_4), (5, .int i35034_5)] → W p l e ({ frames := 0, cells := 0, slots := 0, locals := 0 }) s m [.ref a0, .int x0, .int x1].toArray below meth c s.heap [] 0 0 (MQ below (ka_QR (fun v => ∃ x : Int32, v = some (.int x) ∧ (0 ≤ x.toInt ∧ x.toInt ≤ 1) ∧ (x.toInt = if kn_it (kn_M f0) x0.toInt.toNat 36 x1.toInt.toNat = true then 1 else 0))) [.ref a0, .int x0, .int x1].toArray s 0 0 (fun _ => False)) (F0 m 17 ls []) := by
          intro n
          induction n with
          | zero =>
            intro i35034_3 i35034_5 hi35034_5 hx35034 hm
            exact absurd hm (Nat.not_lt_zero _)
          | succ n ih_35034 =>
            intro i35034_3 i35034_5 hi35034_5 hx35034 hm ls hl
            have ri35034_3 := ka_rng i35034_3
            have ri35034_5 := ka_rng i35034_5
            refine lv_iload hx hb dX7_hangsOn_17 (lv_at hl 5 rfl) ?_
            refine lv_bipush (v := 6) hx hb dX7_hangsOn_19 (by decide) ?_
            refine lv_icmp_ge (tgt := 79) hx hb dX7_hangsOn_21 (by decide) (fun c_35066 => ?_) (fun c_35066 => ?_)
            · have c_35066 : 6 ≤ i35034_5.toInt := by rw [ka_le', show ((6 : Int32)).toInt = 6 from by decide] at c_35066; exact c_35066
              obtain ⟨v_35067, ev_35067⟩ : ∃ y : Int32, y = i34962_4 + 1 := ⟨_, rfl⟩
              refine lv_iinc (v := v_35067) (lv' := [(4, .int v_35067), (0, .ref a0), (1, .int x0), (2, .int x1), (3, .int i35034_3), (5, .int i35034_5)]) hx hb dX7_hangsOn_79 hl (k := 4) rfl (by rw [ev_35067]; rfl) (by decide) rfl (fun ls hl => ?_)
              have fv_35067 : v_35067.toInt = i34962_4.toInt + 1 := by rw [ev_35067]; exact ka_add (x := i34962_4.toInt) (y := 1) rfl (by decide) (by omega) (by omega)
              refine lv_goto (tgt := 7) hx hb dX7_hangsOn_82 (by decide) ?_
              exact ih_34962 i35034_3 v_35067 ⟨by omega, by omega⟩ (kn_Gat hx35034 (by omega)) (by omega) ls (lv_sub hl [1, 2, 3, 4, 0] rfl)
            · have c_35066 : ¬ 6 ≤ i35034_5.toInt := by rw [ka_le', show ((6 : Int32)).toInt = 6 from by decide] at c_35066; exact c_35066
              refine lv_iconst (v := 0) hx hb dX7_hangsOn_24 (by decide) ?_
              refine lv_istore (lv' := [(6, .int 0), (0, .ref a0), (1, .int x0), (2, .int x1), (3, .int i35034_3), (4, .int i34962_4), (5, .int i35034_5)]) hx hb dX7_hangsOn_25 hl (by decide) rfl (fun ls hl => ?_)
              have lp_35068 : ∀ (n : Nat) (i35068_3 : Int32) (i35068_6 : Int32), (0 ≤ i35068_6.toInt ∧ i35068_6.toInt ≤ 6) → (kn_J f0 x0 (6 * i34962_4.toInt.toNat + i35034_5.toInt.toNat) i35034_5.toInt.toNat i35068_6.toInt.toNat i35068_3) → (6 - i35068_6.toInt).toNat < n → ∀ (ls : Array Slot), lv_has ls 7 [(0, .ref a0), (1, .int x0), (2, .int x1), (3, .int i35068_3), (4, .int i34962_4), (5, .int i35034_5), (6, .int i35068_6)] → W p l e ({ frames := 0, cells := 0, slots := 0, locals := 0 }) s m [.ref a0, .int x0, .int x1].toArray below meth c s.heap [] 0 0 (MQ below (ka_QR (fun v => ∃ x : Int32, v = some (.int x) ∧ (0 ≤ x.toInt ∧ x.toInt ≤ 1) ∧ (x.toInt = if kn_it (kn_M f0) x0.toInt.toNat 36 x1.toInt.toNat = true then 1 else 0))) [.ref a0, .int x0, .int x1].toArray s 0 0 (fun _ => False)) (F0 m 27 ls []) := by
                intro n
                induction n with
                | zero =>
                  intro i35068_3 i35068_6 hi35068_6 hx35068 hm
                  exact absurd hm (Nat.not_lt_zero _)
                | succ n ih_35068 =>
                  intro i35068_3 i35068_6 hi35068_6 hx35068 hm ls hl
                  have ri35068_3 := ka_rng i35068_3
                  have ri35068_6 := ka_rng i35068_6
                  refine lv_iload hx hb dX7_hangsOn_27 (lv_at hl 6 rfl) ?_
                  refine lv_bipush (v := 6) hx hb dX7_hangsOn_29 (by decide) ?_
                  refine lv_icmp_ge (tgt := 73) hx hb dX7_hangsOn_31 (by decide) (fun c_35083 => ?_) (fun c_35083 => ?_)
                  · have c_35083 : 6 ≤ i35068_6.toInt := by rw [ka_le', show ((6 : Int32)).toInt = 6 from by decide] at c_35083; exact c_35083
                    obtain ⟨v_35084, ev_35084⟩ : ∃ y : Int32, y = i35034_5 + 1 := ⟨_, rfl⟩
                    refine lv_iinc (v := v_35084) (lv' := [(5, .int v_35084), (0, .ref a0), (1, .int x0), (2, .int x1), (3, .int i35068_3), (4, .int i34962_4), (6, .int i35068_6)]) hx hb dX7_hangsOn_73 hl (k := 5) rfl (by rw [ev_35084]; rfl) (by decide) rfl (fun ls hl => ?_)
                    have fv_35084 : v_35084.toInt = i35034_5.toInt + 1 := by rw [ev_35084]; exact ka_add (x := i35034_5.toInt) (y := 1) rfl (by decide) (by omega) (by omega)
                    refine lv_goto (tgt := 17) hx hb dX7_hangsOn_76 (by decide) ?_
                    exact ih_35034 i35068_3 v_35084 ⟨by omega, by omega⟩ (kn_Jend hx35068 (by omega) (by omega) (by omega)) (by omega) ls (lv_sub hl [1, 2, 3, 4, 5, 0] rfl)
                  · have c_35083 : ¬ 6 ≤ i35068_6.toInt := by rw [ka_le', show ((6 : Int32)).toInt = 6 from by decide] at c_35083; exact c_35083
                    refine lv_iload_n hx hb dX7_hangsOn_34 rfl (lv_at hl 3 rfl) ?_
                    refine lv_iload hx hb dX7_hangsOn_35 (lv_at hl 5 rfl) ?_
                    refine lv_ishr hx hb dX7_hangsOn_37 ?_
                    refine lv_topi (fun v_35085 ev_35085 => ?_)
                    refine lv_iconst (v := 1) hx hb dX7_hangsOn_38 (by decide) ?_
                    refine lv_iand hx hb dX7_hangsOn_39 ?_
                    refine lv_topi (fun v_35086 ev_35086 => ?_)
                    refine lv_iconst (v := 1) hx hb dX7_hangsOn_40 (by decide) ?_
                    refine lv_icmp_ne (tgt := 67) hx hb dX7_hangsOn_41 (by decide) (fun c_35087 => ?_) (fun c_35087 => ?_)
                    · have c_35087 : ¬ v_35086.toInt = 1 := by rw [ka_eq', show ((1 : Int32)).toInt = 1 from by decide] at c_35087; exact c_35087
                      obtain ⟨v_35088, ev_35088⟩ : ∃ y : Int32, y = i35068_6 + 1 := ⟨_, rfl⟩
                      refine lv_iinc (v := v_35088) (lv' := [(6, .int v_35088), (0, .ref a0), (1, .int x0), (2, .int x1), (3, .int i35068_3), (4, .int i34962_4), (5, .int i35034_5)]) hx hb dX7_hangsOn_67 hl (k := 6) rfl (by rw [ev_35088]; rfl) (by decide) rfl (fun ls hl => ?_)
                      have fv_35088 : v_35088.toInt = i35068_6.toInt + 1 := by rw [ev_35088]; exact ka_add (x := i35068_6.toInt) (y := 1) rfl (by decide) (by omega) (by omega)
                      refine lv_goto (tgt := 27) hx hb dX7_hangsOn_70 (by decide) ?_
                      exact ih_35068 i35068_3 v_35088 ⟨by omega, by omega⟩ (kn_Jno1 hx35068 (show i35034_5.toInt.toNat < 6 by omega) (show i35034_5.toInt = (i35034_5.toInt.toNat : Int) by omega) ev_35085 ev_35086 (by omega)) (by omega) ls (lv_sub hl [1, 2, 3, 4, 5, 6, 0] rfl)
                    · have c_35087 : v_35086.toInt = 1 := by rw [ka_eq', show ((1 : Int32)).toInt = 1 from by decide] at c_35087; exact c_35087
                      refine lv_aload_n hx hb dX7_hangsOn_44 rfl (lv_at hl 0 rfl) ?_
                      refine ka_get C lq_288 rfl hK hP 0 rfl 7 (by decide) lq_289 rfl dX7_hangsOn_45 ?_
                      refine lv_bipush (v := 6) hx hb dX7_hangsOn_48 (by decide) ?_
                      refine lv_iload hx hb dX7_hangsOn_50 (lv_at hl 5 rfl) ?_
                      refine lv_imul hx hb dX7_hangsOn_52 ?_
                      refine lv_topi (fun v_35089 ev_35089 => ?_)
                      have fv_35089 : v_35089.toInt = 6 * i35034_5.toInt := by rw [ev_35089]; exact ka_mul (x := 6) (y := i35034_5.toInt) (by decide) rfl (by omega) (by omega)
                      refine lv_iload hx hb dX7_hangsOn_53 (lv_at hl 6 rfl) ?_
                      refine lv_iadd hx hb dX7_hangsOn_55 ?_
                      refine lv_topi (fun v_35090 ev_35090 => ?_)
                      have fv_35090 : v_35090.toInt = v_35089.toInt + i35068_6.toInt := by rw [ev_35090]; exact ka_add (x := v_35089.toInt) (y := i35068_6.toInt) rfl rfl (by omega) (by omega)
                      refine va_zald hx hb hK hP 1 0 rfl rfl (ka_in (by omega) (by omega)) dX7_hangsOn_56 ?_
                      refine lv_topi (fun v_35091 ev_35091 => ?_)
                      refine lv_if_eq (tgt := 67) hx hb dX7_hangsOn_57 (by decide) (fun c_35092 => ?_) (fun c_35092 => ?_)
                      · have c_35092 : v_35091.toInt = 0 := by rw [ka_eq', show ((0 : Int32)).toInt = 0 from by decide] at c_35092; exact c_35092
                        obtain ⟨v_35093, ev_35093⟩ : ∃ y : Int32, y = i35068_6 + 1 := ⟨_, rfl⟩
                        refine lv_iinc (v := v_35093) (lv' := [(6, .int v_35093), (0, .ref a0), (1, .int x0), (2, .int x1), (3, .int i35068_3), (4, .int i34962_4), (5, .int i35034_5)]) hx hb dX7_hangsOn_67 hl (k := 6) rfl (by rw [ev_35093]; rfl) (by decide) rfl (fun ls hl => ?_)
                        have fv_35093 : v_35093.toInt = i35068_6.toInt + 1 := by rw [ev_35093]; exact ka_add (x := i35068_6.toInt) (y := 1) rfl (by decide) (by omega) (by omega)
                        refine lv_goto (tgt := 27) hx hb dX7_hangsOn_70 (by decide) ?_
                        exact ih_35068 i35068_3 v_35093 ⟨by omega, by omega⟩ (kn_Jno2 (g := v_35091) hx35068 (by rw [ev_35091, kp_cl (n := 6 * i35034_5.toInt.toNat + i35068_6.toInt.toNat) (by omega)]) (by omega) (by omega)) (by omega) ls (lv_sub hl [1, 2, 3, 4, 5, 6, 0] rfl)
                      · have c_35092 : ¬ v_35091.toInt = 0 := by rw [ka_eq', show ((0 : Int32)).toInt = 0 from by decide] at c_35092; exact c_35092
                        refine lv_iload_n hx hb dX7_hangsOn_60 rfl (lv_at hl 3 rfl) ?_
                        refine lv_iconst (v := 1) hx hb dX7_hangsOn_61 (by decide) ?_
                        refine lv_iload hx hb dX7_hangsOn_62 (lv_at hl 6 rfl) ?_
                        refine lv_ishl hx hb dX7_hangsOn_64 ?_
                        refine lv_topi (fun v_35094 ev_35094 => ?_)
                        refine lv_ior hx hb dX7_hangsOn_65 ?_
                        refine lv_topi (fun v_35095 ev_35095 => ?_)
                        refine lv_istore_n (lv' := [(3, .int v_35095), (0, .ref a0), (1, .int x0), (2, .int x1), (4, .int i34962_4), (5, .int i35034_5), (6, .int i35068_6)]) hx hb dX7_hangsOn_66 rfl hl (by decide) rfl (fun ls hl => ?_)
                        obtain ⟨v_35096, ev_35096⟩ : ∃ y : Int32, y = i35068_6 + 1 := ⟨_, rfl⟩
                        refine lv_iinc (v := v_35096) (lv' := [(6, .int v_35096), (3, .int v_35095), (0, .ref a0), (1, .int x0), (2, .int x1), (4, .int i34962_4), (5, .int i35034_5)]) hx hb dX7_hangsOn_67 hl (k := 6) rfl (by rw [ev_35096]; rfl) (by decide) rfl (fun ls hl => ?_)
                        have fv_35096 : v_35096.toInt = i35068_6.toInt + 1 := by rw [ev_35096]; exact ka_add (x := i35068_6.toInt) (y := 1) rfl (by decide) (by omega) (by omega)
                        refine lv_goto (tgt := 27) hx hb dX7_hangsOn_70 (by decide) ?_
                        exact ih_35068 v_35095 v_35096 ⟨by omega, by omega⟩ (kn_Jyes (g := v_35091) hx35068 (show i35034_5.toInt.toNat < 6 by omega) (by omega) (show i35034_5.toInt = (i35034_5.toInt.toNat : Int) by omega) ev_35085 ev_35086 (by omega) (by rw [ev_35091, kp_cl (n := 6 * i35034_5.toInt.toNat + i35068_6.toInt.toNat) (by omega)]) (by omega) (show i35068_6.toInt = (i35068_6.toInt.toNat : Int) by omega) ev_35094 ev_35095 (by omega)) (by omega) ls (lv_sub hl [2, 3, 4, 1, 5, 6, 0] rfl)
              exact lp_35068 _ i35034_3 0 ⟨by decide, by decide⟩ (kn_Jat (kn_J0 hx35034) rfl rfl (by decide)) (Nat.lt_succ_self _) ls (lv_sub hl [1, 2, 3, 4, 5, 6, 0] rfl)
        exact lp_35034 _ i34962_3 0 ⟨by decide, by decide⟩ (kn_Gat hx34962 (by have h00 : ((0 : Int32)).toInt = 0 := (by decide); omega)) (Nat.lt_succ_self _) ls (lv_sub hl [1, 2, 3, 4, 5, 0] rfl)
  exact lp_34962 _ v_34961 0 ⟨by decide, by decide⟩ (kn_Gat (kn_G0 ev_34961 ⟨by omega, by omega⟩) (by decide)) (Nat.lt_succ_self _) ls (lv_sub hl [2, 3, 4, 1, 0] rfl)
set_option maxHeartbeats 4000000 in
set_option maxRecDepth 100000 in
theorem cn_X7_needs_451 (l : Launch) (D : va_G) (F : Nat → Prop) (a0 : Nat) (x0 : Int32) (x1 : Int32) (a1 : Nat) (x2 : Int32) (a2 : Nat) (a3 : Nat) (a4 : Nat) (a5 : Nat) (a6 : Nat) (a7 : Nat) (a8 : Nat) (x3 : Int32) (x4 : Int32) (x5 : Int32) (x6 : Int32) (x7 : Int32) (x8 : Int32) (x9 : Int32) (a9 : Nat) (a10 : Nat) (a11 : Nat) (a12 : Nat) (a13 : Nat) (a14 : Nat) (x10 : Int32) (x11 : Int32) (x12 : Int32) (x13 : Int32) (x14 : Int32) (x15 : Int32) (k0 : ClassId) (f0 : Nat → Int32) (hx2 : 0 ≤ x2.toInt ∧ x2.toInt ≤ 80) (hx3 : -1 ≤ x3.toInt ∧ x3.toInt ≤ 5) (hx6 : 1 ≤ x6.toInt ∧ x6.toInt ≤ 8) (hx7 : 0 ≤ x7.toInt ∧ x7.toInt ≤ 40) (hx9 : 0 ≤ x9.toInt ∧ x9.toInt ≤ 10) (hx10 : 0 ≤ x10.toInt ∧ x10.toInt ≤ 60) (hx11 : 0 ≤ x11.toInt ∧ x11.toInt ≤ 60) (hx12 : 0 ≤ x12.toInt ∧ x12.toInt ≤ 60) (hx13 : 0 ≤ x13.toInt ∧ x13.toInt ≤ 8) (hx15 : 0 ≤ x15.toInt ∧ x15.toInt ≤ 1) : ka_E l D F yX7_needs wsX7_needs 2 42 0 0 [.ref a0, .int x0, .int x1] [(a0, .inr (7, [.ref a1, .int x2, .ref a2, .ref a3, .ref a4, .ref a5, .ref a6, .ref a7, .ref a8, .int x3, .int x4, .int x5, .int x6, .int x7, .int x8, .int x9, .ref a9, .ref a10, .ref a11, .ref a12, .ref a13, .ref a14, .int x10, .int x11, .int x12, .int x13, .int x14, .int x15])), (a7, .inl (k0, 36, .inl f0))] [(k0, .boolean)] (fun (u : (Nat → Int32) × (Int32)) => some (.int (u.2))) (fun (u : (Nat → Int32) × (Int32)) => (0 ≤ (u.2).toInt ∧ (u.2).toInt ≤ 1) ∧ (kn_Q f0 x0 x1 (u.1) (u.2))) (fun (u : (Nat → Int32) × (Int32)) => [(a0, .inr (7, [.ref a1, .int x2, .ref a2, .ref a3, .ref a4, .ref a5, .ref a6, .ref a7, .ref a8, .int x3, .int x4, .int x5, .int x6, .int x7, .int x8, .int x9, .ref a9, .ref a10, .ref a11, .ref a12, .ref a13, .ref a14, .int x10, .int x11, .int x12, .int x13, .int x14, .int x15])), (a7, .inl (k0, 36, .inl (u.1)))]) (fun (u : (Nat → Int32) × (Int32)) => []) := by
  refine ka_E_of (cc := cX7_needs) (maxL := 3) (ret := (some .boolean)) (by decide) rfl (Nat.le_of_ble_eq_true rfl) ?_
  intro p e s m below meth c ls A C hr hlk hin hP hK hD hS hA hE hN hl
  have C : CallFix p m c cX7_needs 3 s [.ref a0, .int x0, .int x1].toArray wsX7_needs RX7 := C
  obtain ⟨hx, hb, hml, hown, hts⟩ := id C
  have hl : lv_has ls 3 [(0, .ref a0), (1, .int x0), (2, .int x1)] := hl
  have rx0 := ka_rng x0
  have rx1 := ka_rng x1
  have rx2 := ka_rng x2
  have rx3 := ka_rng x3
  have rx4 := ka_rng x4
  have rx5 := ka_rng x5
  have rx6 := ka_rng x6
  have rx7 := ka_rng x7
  have rx8 := ka_rng x8
  have rx9 := ka_rng x9
  have rx10 := ka_rng x10
  have rx11 := ka_rng x11
  have rx12 := ka_rng x12
  have rx13 := ka_rng x13
  have rx14 := ka_rng x14
  have rx15 := ka_rng x15
  rcases (show x0.toInt ≤ -1 ∨ (0 ≤ x0.toInt ∧ x0.toInt ≤ 5) ∨ 6 ≤ x0.toInt by omega) with y_35145 | y_35145 | y_35145
  · skip
    rcases (show x1.toInt ≤ -1 ∨ (0 ≤ x1.toInt ∧ x1.toInt ≤ 5) ∨ 6 ≤ x1.toInt by omega) with y_35146 | y_35146 | y_35146
    · skip
      refine lv_iload_n hx hb dX7_needs_0 rfl (lv_at hl 1 rfl) ?_
      refine ka_RS (n := 1) C (cg_X7_isLesson_217 l D F x0 (by omega)) gX7_needs_X7_isLesson rfl (by decide +kernel) ⟨Nat.le_of_ble_eq_true rfl, Nat.le_of_ble_eq_true rfl⟩ hK hP hS hE hN [] rfl [] rfl rfl hl.1 (rest := []) rfl (Nat.le_of_ble_eq_true rfl) dX7_needs_1 ⟨Nat.le_of_ble_eq_true rfl, Nat.le_of_ble_eq_true rfl⟩ (fun v hv => ?_)
      subst hv
      refine ka_stk (w := [.int 0]) rfl ?_
      refine lv_if_eq (tgt := 42) hx hb dX7_needs_4 (by decide) (fun _ => ?_) (fun c_ => absurd (by decide) c_)
      refine lv_iconst (v := 0) hx hb dX7_needs_42 (by decide) ?_
      exact ka_rEz C hr hlk rfl (Nat.le_of_ble_eq_true rfl) (Nat.le_of_ble_eq_true rfl) hS (ka_qE (f0, 0) rfl ⟨(show 0 ≤ ((0 : Int32)).toInt ∧ ((0 : Int32)).toInt ≤ 1 from ⟨by decide, by decide⟩), (show kn_Q f0 x0 x1 f0 (0 : Int32) from (Or.inr ⟨fun h9 => by obtain ⟨h1, h2, h3, h4, h5, -, -⟩ := h9; omega, by decide, rfl⟩))⟩ hK hP hD hS [0, 1] (by decide) rfl [] rfl) dX7_needs_43
    · skip
      refine lv_iload_n hx hb dX7_needs_0 rfl (lv_at hl 1 rfl) ?_
      refine ka_RS (n := 1) C (cg_X7_isLesson_217 l D F x0 (by omega)) gX7_needs_X7_isLesson rfl (by decide +kernel) ⟨Nat.le_of_ble_eq_true rfl, Nat.le_of_ble_eq_true rfl⟩ hK hP hS hE hN [] rfl [] rfl rfl hl.1 (rest := []) rfl (Nat.le_of_ble_eq_true rfl) dX7_needs_1 ⟨Nat.le_of_ble_eq_true rfl, Nat.le_of_ble_eq_true rfl⟩ (fun v hv => ?_)
      subst hv
      refine ka_stk (w := [.int 0]) rfl ?_
      refine lv_if_eq (tgt := 42) hx hb dX7_needs_4 (by decide) (fun _ => ?_) (fun c_ => absurd (by decide) c_)
      refine lv_iconst (v := 0) hx hb dX7_needs_42 (by decide) ?_
      exact ka_rEz C hr hlk rfl (Nat.le_of_ble_eq_true rfl) (Nat.le_of_ble_eq_true rfl) hS (ka_qE (f0, 0) rfl ⟨(show 0 ≤ ((0 : Int32)).toInt ∧ ((0 : Int32)).toInt ≤ 1 from ⟨by decide, by decide⟩), (show kn_Q f0 x0 x1 f0 (0 : Int32) from (Or.inr ⟨fun h9 => by obtain ⟨h1, h2, h3, h4, h5, -, -⟩ := h9; omega, by decide, rfl⟩))⟩ hK hP hD hS [0, 1] (by decide) rfl [] rfl) dX7_needs_43
    · skip
      refine lv_iload_n hx hb dX7_needs_0 rfl (lv_at hl 1 rfl) ?_
      refine ka_RS (n := 1) C (cg_X7_isLesson_217 l D F x0 (by omega)) gX7_needs_X7_isLesson rfl (by decide +kernel) ⟨Nat.le_of_ble_eq_true rfl, Nat.le_of_ble_eq_true rfl⟩ hK hP hS hE hN [] rfl [] rfl rfl hl.1 (rest := []) rfl (Nat.le_of_ble_eq_true rfl) dX7_needs_1 ⟨Nat.le_of_ble_eq_true rfl, Nat.le_of_ble_eq_true rfl⟩ (fun v hv => ?_)
      subst hv
      refine ka_stk (w := [.int 0]) rfl ?_
      refine lv_if_eq (tgt := 42) hx hb dX7_needs_4 (by decide) (fun _ => ?_) (fun c_ => absurd (by decide) c_)
      refine lv_iconst (v := 0) hx hb dX7_needs_42 (by decide) ?_
      exact ka_rEz C hr hlk rfl (Nat.le_of_ble_eq_true rfl) (Nat.le_of_ble_eq_true rfl) hS (ka_qE (f0, 0) rfl ⟨(show 0 ≤ ((0 : Int32)).toInt ∧ ((0 : Int32)).toInt ≤ 1 from ⟨by decide, by decide⟩), (show kn_Q f0 x0 x1 f0 (0 : Int32) from (Or.inr ⟨fun h9 => by obtain ⟨h1, h2, h3, h4, h5, -, -⟩ := h9; omega, by decide, rfl⟩))⟩ hK hP hD hS [0, 1] (by decide) rfl [] rfl) dX7_needs_43
  · skip
    rcases (show x1.toInt ≤ -1 ∨ (0 ≤ x1.toInt ∧ x1.toInt ≤ 5) ∨ 6 ≤ x1.toInt by omega) with y_35147 | y_35147 | y_35147
    · skip
      refine lv_iload_n hx hb dX7_needs_0 rfl (lv_at hl 1 rfl) ?_
      refine ka_RS (n := 1) C (cg_X7_isLesson_220 l D F x0 ⟨by omega, by omega⟩) gX7_needs_X7_isLesson rfl (by decide +kernel) ⟨Nat.le_of_ble_eq_true rfl, Nat.le_of_ble_eq_true rfl⟩ hK hP hS hE hN [] rfl [] rfl rfl hl.1 (rest := []) rfl (Nat.le_of_ble_eq_true rfl) dX7_needs_1 ⟨Nat.le_of_ble_eq_true rfl, Nat.le_of_ble_eq_true rfl⟩ (fun v hv => ?_)
      subst hv
      refine ka_stk (w := [.int 1]) rfl ?_
      refine lv_if_eq (tgt := 42) hx hb dX7_needs_4 (by decide) (fun c_ => absurd c_ (by decide)) (fun _ => ?_)
      refine lv_iload_n hx hb dX7_needs_7 rfl (lv_at hl 2 rfl) ?_
      refine ka_RS (n := 1) C (cg_X7_isLesson_217 l D F x1 (by omega)) gX7_needs_X7_isLesson rfl (by decide +kernel) ⟨Nat.le_of_ble_eq_true rfl, Nat.le_of_ble_eq_true rfl⟩ hK hP hS hE hN [] rfl [] rfl rfl hl.1 (rest := []) rfl (Nat.le_of_ble_eq_true rfl) dX7_needs_8 ⟨Nat.le_of_ble_eq_true rfl, Nat.le_of_ble_eq_true rfl⟩ (fun v hv => ?_)
      subst hv
      refine ka_stk (w := [.int 0]) rfl ?_
      refine lv_if_eq (tgt := 42) hx hb dX7_needs_11 (by decide) (fun _ => ?_) (fun c_ => absurd (by decide) c_)
      refine lv_iconst (v := 0) hx hb dX7_needs_42 (by decide) ?_
      exact ka_rEz C hr hlk rfl (Nat.le_of_ble_eq_true rfl) (Nat.le_of_ble_eq_true rfl) hS (ka_qE (f0, 0) rfl ⟨(show 0 ≤ ((0 : Int32)).toInt ∧ ((0 : Int32)).toInt ≤ 1 from ⟨by decide, by decide⟩), (show kn_Q f0 x0 x1 f0 (0 : Int32) from (Or.inr ⟨fun h9 => by obtain ⟨h1, h2, h3, h4, h5, -, -⟩ := h9; omega, by decide, rfl⟩))⟩ hK hP hD hS [0, 1] (by decide) rfl [] rfl) dX7_needs_43
    · skip
      refine lv_iload_n hx hb dX7_needs_0 rfl (lv_at hl 1 rfl) ?_
      refine ka_RS (n := 1) C (cg_X7_isLesson_220 l D F x0 ⟨by omega, by omega⟩) gX7_needs_X7_isLesson rfl (by decide +kernel) ⟨Nat.le_of_ble_eq_true rfl, Nat.le_of_ble_eq_true rfl⟩ hK hP hS hE hN [] rfl [] rfl rfl hl.1 (rest := []) rfl (Nat.le_of_ble_eq_true rfl) dX7_needs_1 ⟨Nat.le_of_ble_eq_true rfl, Nat.le_of_ble_eq_true rfl⟩ (fun v hv => ?_)
      subst hv
      refine ka_stk (w := [.int 1]) rfl ?_
      refine lv_if_eq (tgt := 42) hx hb dX7_needs_4 (by decide) (fun c_ => absurd c_ (by decide)) (fun _ => ?_)
      refine lv_iload_n hx hb dX7_needs_7 rfl (lv_at hl 2 rfl) ?_
      refine ka_RS (n := 1) C (cg_X7_isLesson_220 l D F x1 ⟨by omega, by omega⟩) gX7_needs_X7_isLesson rfl (by decide +kernel) ⟨Nat.le_of_ble_eq_true rfl, Nat.le_of_ble_eq_true rfl⟩ hK hP hS hE hN [] rfl [] rfl rfl hl.1 (rest := []) rfl (Nat.le_of_ble_eq_true rfl) dX7_needs_8 ⟨Nat.le_of_ble_eq_true rfl, Nat.le_of_ble_eq_true rfl⟩ (fun v hv => ?_)
      subst hv
      refine ka_stk (w := [.int 1]) rfl ?_
      refine lv_if_eq (tgt := 42) hx hb dX7_needs_11 (by decide) (fun c_ => absurd c_ (by decide)) (fun _ => ?_)
      refine lv_iload_n hx hb dX7_needs_14 rfl (lv_at hl 1 rfl) ?_
      refine lv_iload_n hx hb dX7_needs_15 rfl (lv_at hl 2 rfl) ?_
      refine lv_icmp_eq (tgt := 42) hx hb dX7_needs_16 (by decide) (fun c_35148 => ?_) (fun c_35148 => ?_)
      · have c_35148 : x0.toInt = x1.toInt := by rw [ka_eq'] at c_35148; exact c_35148
        refine lv_iconst (v := 0) hx hb dX7_needs_42 (by decide) ?_
        exact ka_rEz C hr hlk rfl (Nat.le_of_ble_eq_true rfl) (Nat.le_of_ble_eq_true rfl) hS (ka_qE (f0, 0) rfl ⟨(show 0 ≤ ((0 : Int32)).toInt ∧ ((0 : Int32)).toInt ≤ 1 from ⟨by decide, by decide⟩), (show kn_Q f0 x0 x1 f0 (0 : Int32) from (Or.inr ⟨fun h9 => by obtain ⟨h1, h2, h3, h4, h5, -, -⟩ := h9; omega, by decide, rfl⟩))⟩ hK hP hD hS [0, 1] (by decide) rfl [] rfl) dX7_needs_43
      · have c_35148 : ¬ x0.toInt = x1.toInt := by rw [ka_eq'] at c_35148; exact c_35148
        refine lv_aload_n hx hb dX7_needs_19 rfl (lv_at hl 0 rfl) ?_
        refine ka_get C lq_290 rfl hK hP 0 rfl 7 (by decide) lq_291 rfl dX7_needs_20 ?_
        refine lv_bipush (v := 6) hx hb dX7_needs_23 (by decide) ?_
        refine lv_iload_n hx hb dX7_needs_25 rfl (lv_at hl 1 rfl) ?_
        refine lv_imul hx hb dX7_needs_26 ?_
        refine lv_topi (fun v_35149 ev_35149 => ?_)
        have fv_35149 : v_35149.toInt = 6 * x0.toInt := by rw [ev_35149]; exact ka_mul (x := 6) (y := x0.toInt) (by decide) rfl (by omega) (by omega)
        refine lv_iload_n hx hb dX7_needs_27 rfl (lv_at hl 2 rfl) ?_
        refine lv_iadd hx hb dX7_needs_28 ?_
        refine lv_topi (fun v_35150 ev_35150 => ?_)
        have fv_35150 : v_35150.toInt = v_35149.toInt + x1.toInt := by rw [ev_35150]; exact ka_add (x := v_35149.toInt) (y := x1.toInt) rfl rfl (by omega) (by omega)
        refine va_zald hx hb hK hP 1 0 rfl rfl (ka_in (by omega) (by omega)) dX7_needs_29 ?_
        refine lv_topi (fun v_35151 ev_35151 => ?_)
        refine lv_if_ne (tgt := 42) hx hb dX7_needs_30 (by decide) (fun c_35152 => ?_) (fun c_35152 => ?_)
        · have c_35152 : ¬ v_35151.toInt = 0 := by rw [ka_eq', show ((0 : Int32)).toInt = 0 from by decide] at c_35152; exact c_35152
          refine lv_iconst (v := 0) hx hb dX7_needs_42 (by decide) ?_
          exact ka_rEz C hr hlk rfl (Nat.le_of_ble_eq_true rfl) (Nat.le_of_ble_eq_true rfl) hS (ka_qE (f0, 0) rfl ⟨(show 0 ≤ ((0 : Int32)).toInt ∧ ((0 : Int32)).toInt ≤ 1 from ⟨by decide, by decide⟩), (show kn_Q f0 x0 x1 f0 (0 : Int32) from (Or.inr ⟨fun h9 => kn_noC (j := v_35150) h9 (by omega) ev_35151 (by omega), by decide, rfl⟩))⟩ hK hP hD hS [0, 1] (by decide) rfl [] rfl) dX7_needs_43
        · have c_35152 : v_35151.toInt = 0 := by rw [ka_eq', show ((0 : Int32)).toInt = 0 from by decide] at c_35152; exact c_35152
          refine lv_aload_n hx hb dX7_needs_33 rfl (lv_at hl 0 rfl) ?_
          refine lv_iload_n hx hb dX7_needs_34 rfl (lv_at hl 2 rfl) ?_
          refine lv_iload_n hx hb dX7_needs_35 rfl (lv_at hl 1 rfl) ?_
          refine ka_RV (n := 2) C (cn_X7_hangsOn_450 l D F a0 x1 x0 a1 x2 a2 a3 a4 a5 a6 a7 a8 x3 x4 x5 x6 x7 x8 x9 a9 a10 a11 a12 a13 a14 x10 x11 x12 x13 x14 x15 k0 f0 ⟨by omega, by omega⟩ ⟨by omega, by omega⟩ ⟨by omega, by omega⟩ ⟨by omega, by omega⟩ ⟨by omega, by omega⟩ ⟨by omega, by omega⟩ ⟨by omega, by omega⟩ ⟨by omega, by omega⟩ ⟨by omega, by omega⟩ ⟨by omega, by omega⟩ ⟨by omega, by omega⟩ ⟨by omega, by omega⟩) gX7_needs_X7_hangsOn rfl (by decide +kernel) ⟨Nat.le_of_ble_eq_true rfl, Nat.le_of_ble_eq_true rfl⟩ hK hP hS hE hN [0, 1] rfl [0] rfl (ci := 7) rfl rfl 0 rfl rfl hl.1 (rest := []) rfl (Nat.le_of_ble_eq_true rfl) dX7_needs_36 ⟨Nat.le_of_ble_eq_true rfl, Nat.le_of_ble_eq_true rfl⟩ (fun v hv => ?_)
          obtain ⟨v_35153, rfl, hv_35153, hxv_35153⟩ := hv
          have rv_35153 := ka_rng v_35153
          refine ka_stk (w := [.int v_35153]) rfl ?_
          refine lv_if_eq (tgt := 44) hx hb dX7_needs_39 (by decide) (fun c_35154 => ?_) (fun c_35154 => ?_)
          · have c_35154 : v_35153.toInt = 0 := by rw [ka_eq', show ((0 : Int32)).toInt = 0 from by decide] at c_35154; exact c_35154
            refine lv_aload_n hx hb dX7_needs_44 rfl (lv_at hl 0 rfl) ?_
            refine ka_get C lq_290 rfl hK hP 0 rfl 7 (by decide) lq_291 rfl dX7_needs_45 ?_
            refine lv_bipush (v := 6) hx hb dX7_needs_48 (by decide) ?_
            refine lv_iload_n hx hb dX7_needs_50 rfl (lv_at hl 1 rfl) ?_
            refine lv_imul hx hb dX7_needs_51 ?_
            refine lv_topi (fun v_35155 ev_35155 => ?_)
            have fv_35155 : v_35155.toInt = 6 * x0.toInt := by rw [ev_35155]; exact ka_mul (x := 6) (y := x0.toInt) (by decide) rfl (by omega) (by omega)
            refine lv_iload_n hx hb dX7_needs_52 rfl (lv_at hl 2 rfl) ?_
            refine lv_iadd hx hb dX7_needs_53 ?_
            refine lv_topi (fun v_35156 ev_35156 => ?_)
            have fv_35156 : v_35156.toInt = v_35155.toInt + x1.toInt := by rw [ev_35156]; exact ka_add (x := v_35155.toInt) (y := x1.toInt) rfl rfl (by omega) (by omega)
            refine lv_iconst (v := 1) hx hb dX7_needs_54 (by decide) ?_
            refine va_zast hx hb hK hP hD hS 1 0 rfl rfl (ka_in (by omega) (by omega)) dX7_needs_55 (fun H locs hP hD hS => ?_)
            have hP : va_P D vwCl [(a0, .inr (7, [.ref a1, .int x2, .ref a2, .ref a3, .ref a4, .ref a5, .ref a6, .ref a7, .ref a8, .int x3, .int x4, .int x5, .int x6, .int x7, .int x8, .int x9, .ref a9, .ref a10, .ref a11, .ref a12, .ref a13, .ref a14, .int x10, .int x11, .int x12, .int x13, .int x14, .int x15])), (a7, .inl (k0, 36, .inl (upd f0 (Int32.toNatClampNeg v_35156) (vp_nar .boolean 1))))] H := hP
            have hD : va_D A [(a0, .inr (7, [.ref a1, .int x2, .ref a2, .ref a3, .ref a4, .ref a5, .ref a6, .ref a7, .ref a8, .int x3, .int x4, .int x5, .int x6, .int x7, .int x8, .int x9, .ref a9, .ref a10, .ref a11, .ref a12, .ref a13, .ref a14, .int x10, .int x11, .int x12, .int x13, .int x14, .int x15])), (a7, .inl (k0, 36, .inl (upd f0 (Int32.toNatClampNeg v_35156) (vp_nar .boolean 1))))] := hD
            obtain ⟨g_35157, eg_35157⟩ : ∃ g : Nat → Int32, g = (upd f0 (Int32.toNatClampNeg v_35156) (vp_nar .boolean 1)) := ⟨_, rfl⟩
            rw [← eg_35157] at hP hD
            refine lv_iconst (v := 1) hx hb dX7_needs_56 (by decide) ?_
            exact ka_rEz C hr hlk rfl (Nat.le_of_ble_eq_true rfl) (Nat.le_of_ble_eq_true rfl) hS (ka_qE (g_35157, 1) rfl ⟨(show 0 ≤ ((1 : Int32)).toInt ∧ ((1 : Int32)).toInt ≤ 1 from ⟨by decide, by decide⟩), (show kn_Q f0 x0 x1 g_35157 (1 : Int32) from (Or.inl ⟨kn_yesM ⟨by omega, by omega⟩ ⟨by omega, by omega⟩ (by omega) (by omega) ev_35151 (by omega) ((kn_hang hxv_35153).1 (by omega)), by decide, by rw [eg_35157, kp_cl (n := 6 * x0.toInt.toNat + x1.toInt.toNat) (by omega)]; first | done | rfl⟩))⟩ hK hP hD hS [0, 1] (by decide) rfl [] rfl) dX7_needs_57
          · have c_35154 : ¬ v_35153.toInt = 0 := by rw [ka_eq', show ((0 : Int32)).toInt = 0 from by decide] at c_35154; exact c_35154
            refine lv_iconst (v := 0) hx hb dX7_needs_42 (by decide) ?_
            exact ka_rEz C hr hlk rfl (Nat.le_of_ble_eq_true rfl) (Nat.le_of_ble_eq_true rfl) hS (ka_qE (f0, 0) rfl ⟨(show 0 ≤ ((0 : Int32)).toInt ∧ ((0 : Int32)).toInt ≤ 1 from ⟨by decide, by decide⟩), (show kn_Q f0 x0 x1 f0 (0 : Int32) from (Or.inr ⟨fun h9 => by (have h8 := (kn_hang hxv_35153).2 (by omega); rw [h9.2.2.2.2.2.2] at h8; cases h8), by decide, rfl⟩))⟩ hK hP hD hS [0, 1] (by decide) rfl [] rfl) dX7_needs_43
    · skip
      refine lv_iload_n hx hb dX7_needs_0 rfl (lv_at hl 1 rfl) ?_
      refine ka_RS (n := 1) C (cg_X7_isLesson_220 l D F x0 ⟨by omega, by omega⟩) gX7_needs_X7_isLesson rfl (by decide +kernel) ⟨Nat.le_of_ble_eq_true rfl, Nat.le_of_ble_eq_true rfl⟩ hK hP hS hE hN [] rfl [] rfl rfl hl.1 (rest := []) rfl (Nat.le_of_ble_eq_true rfl) dX7_needs_1 ⟨Nat.le_of_ble_eq_true rfl, Nat.le_of_ble_eq_true rfl⟩ (fun v hv => ?_)
      subst hv
      refine ka_stk (w := [.int 1]) rfl ?_
      refine lv_if_eq (tgt := 42) hx hb dX7_needs_4 (by decide) (fun c_ => absurd c_ (by decide)) (fun _ => ?_)
      refine lv_iload_n hx hb dX7_needs_7 rfl (lv_at hl 2 rfl) ?_
      refine ka_RS (n := 1) C (cg_X7_isLesson_227 l D F x1 (by omega)) gX7_needs_X7_isLesson rfl (by decide +kernel) ⟨Nat.le_of_ble_eq_true rfl, Nat.le_of_ble_eq_true rfl⟩ hK hP hS hE hN [] rfl [] rfl rfl hl.1 (rest := []) rfl (Nat.le_of_ble_eq_true rfl) dX7_needs_8 ⟨Nat.le_of_ble_eq_true rfl, Nat.le_of_ble_eq_true rfl⟩ (fun v hv => ?_)
      subst hv
      refine ka_stk (w := [.int 0]) rfl ?_
      refine lv_if_eq (tgt := 42) hx hb dX7_needs_11 (by decide) (fun _ => ?_) (fun c_ => absurd (by decide) c_)
      refine lv_iconst (v := 0) hx hb dX7_needs_42 (by decide) ?_
      exact ka_rEz C hr hlk rfl (Nat.le_of_ble_eq_true rfl) (Nat.le_of_ble_eq_true rfl) hS (ka_qE (f0, 0) rfl ⟨(show 0 ≤ ((0 : Int32)).toInt ∧ ((0 : Int32)).toInt ≤ 1 from ⟨by decide, by decide⟩), (show kn_Q f0 x0 x1 f0 (0 : Int32) from (Or.inr ⟨fun h9 => by obtain ⟨h1, h2, h3, h4, h5, -, -⟩ := h9; omega, by decide, rfl⟩))⟩ hK hP hD hS [0, 1] (by decide) rfl [] rfl) dX7_needs_43
  · skip
    rcases (show x1.toInt ≤ -1 ∨ (0 ≤ x1.toInt ∧ x1.toInt ≤ 5) ∨ 6 ≤ x1.toInt by omega) with y_35158 | y_35158 | y_35158
    · skip
      refine lv_iload_n hx hb dX7_needs_0 rfl (lv_at hl 1 rfl) ?_
      refine ka_RS (n := 1) C (cg_X7_isLesson_227 l D F x0 (by omega)) gX7_needs_X7_isLesson rfl (by decide +kernel) ⟨Nat.le_of_ble_eq_true rfl, Nat.le_of_ble_eq_true rfl⟩ hK hP hS hE hN [] rfl [] rfl rfl hl.1 (rest := []) rfl (Nat.le_of_ble_eq_true rfl) dX7_needs_1 ⟨Nat.le_of_ble_eq_true rfl, Nat.le_of_ble_eq_true rfl⟩ (fun v hv => ?_)
      subst hv
      refine ka_stk (w := [.int 0]) rfl ?_
      refine lv_if_eq (tgt := 42) hx hb dX7_needs_4 (by decide) (fun _ => ?_) (fun c_ => absurd (by decide) c_)
      refine lv_iconst (v := 0) hx hb dX7_needs_42 (by decide) ?_
      exact ka_rEz C hr hlk rfl (Nat.le_of_ble_eq_true rfl) (Nat.le_of_ble_eq_true rfl) hS (ka_qE (f0, 0) rfl ⟨(show 0 ≤ ((0 : Int32)).toInt ∧ ((0 : Int32)).toInt ≤ 1 from ⟨by decide, by decide⟩), (show kn_Q f0 x0 x1 f0 (0 : Int32) from (Or.inr ⟨fun h9 => by obtain ⟨h1, h2, h3, h4, h5, -, -⟩ := h9; omega, by decide, rfl⟩))⟩ hK hP hD hS [0, 1] (by decide) rfl [] rfl) dX7_needs_43
    · skip
      refine lv_iload_n hx hb dX7_needs_0 rfl (lv_at hl 1 rfl) ?_
      refine ka_RS (n := 1) C (cg_X7_isLesson_227 l D F x0 (by omega)) gX7_needs_X7_isLesson rfl (by decide +kernel) ⟨Nat.le_of_ble_eq_true rfl, Nat.le_of_ble_eq_true rfl⟩ hK hP hS hE hN [] rfl [] rfl rfl hl.1 (rest := []) rfl (Nat.le_of_ble_eq_true rfl) dX7_needs_1 ⟨Nat.le_of_ble_eq_true rfl, Nat.le_of_ble_eq_true rfl⟩ (fun v hv => ?_)
      subst hv
      refine ka_stk (w := [.int 0]) rfl ?_
      refine lv_if_eq (tgt := 42) hx hb dX7_needs_4 (by decide) (fun _ => ?_) (fun c_ => absurd (by decide) c_)
      refine lv_iconst (v := 0) hx hb dX7_needs_42 (by decide) ?_
      exact ka_rEz C hr hlk rfl (Nat.le_of_ble_eq_true rfl) (Nat.le_of_ble_eq_true rfl) hS (ka_qE (f0, 0) rfl ⟨(show 0 ≤ ((0 : Int32)).toInt ∧ ((0 : Int32)).toInt ≤ 1 from ⟨by decide, by decide⟩), (show kn_Q f0 x0 x1 f0 (0 : Int32) from (Or.inr ⟨fun h9 => by obtain ⟨h1, h2, h3, h4, h5, -, -⟩ := h9; omega, by decide, rfl⟩))⟩ hK hP hD hS [0, 1] (by decide) rfl [] rfl) dX7_needs_43
    · skip
      refine lv_iload_n hx hb dX7_needs_0 rfl (lv_at hl 1 rfl) ?_
      refine ka_RS (n := 1) C (cg_X7_isLesson_227 l D F x0 (by omega)) gX7_needs_X7_isLesson rfl (by decide +kernel) ⟨Nat.le_of_ble_eq_true rfl, Nat.le_of_ble_eq_true rfl⟩ hK hP hS hE hN [] rfl [] rfl rfl hl.1 (rest := []) rfl (Nat.le_of_ble_eq_true rfl) dX7_needs_1 ⟨Nat.le_of_ble_eq_true rfl, Nat.le_of_ble_eq_true rfl⟩ (fun v hv => ?_)
      subst hv
      refine ka_stk (w := [.int 0]) rfl ?_
      refine lv_if_eq (tgt := 42) hx hb dX7_needs_4 (by decide) (fun _ => ?_) (fun c_ => absurd (by decide) c_)
      refine lv_iconst (v := 0) hx hb dX7_needs_42 (by decide) ?_
      exact ka_rEz C hr hlk rfl (Nat.le_of_ble_eq_true rfl) (Nat.le_of_ble_eq_true rfl) hS (ka_qE (f0, 0) rfl ⟨(show 0 ≤ ((0 : Int32)).toInt ∧ ((0 : Int32)).toInt ≤ 1 from ⟨by decide, by decide⟩), (show kn_Q f0 x0 x1 f0 (0 : Int32) from (Or.inr ⟨fun h9 => by obtain ⟨h1, h2, h3, h4, h5, -, -⟩ := h9; omega, by decide, rfl⟩))⟩ hK hP hD hS [0, 1] (by decide) rfl [] rfl) dX7_needs_43
