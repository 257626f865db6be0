theorem lq_131 : ∀ w ∈ wsX20, w ∈ wsX2_pictureAt := by decide +kernel
theorem lq_132 : Cond.fieldLink RX2 21 "AskedBack$Lesson" "pictureCount" "I" ∈ wsX2_pictureAt := by decide +kernel
theorem lq_133 : Cond.fieldLink RX2 11 "AskedBack$Lesson" "pictures" "[LAskedBack$Formula;" ∈ wsX2_pictureAt := by decide +kernel
set_option maxHeartbeats 4000000 in
set_option maxRecDepth 100000 in
theorem cg_X2_pictureAt_140 (l : Launch) (D : va_G) (F : Nat → Prop) (a0 : Nat) (x0 : Int32) (a1 : Nat) (a2 : Nat) (x1 : Int32) (o0 : Option Nat) (k0 : ClassId) (po0 : Nat → Option Nat) (hx1 : 0 ≤ x1.toInt ∧ x1.toInt ≤ 12) (ho0 : ∀ a : Nat, o0 = some a → F a) (hpo0 : ∀ (j a : Nat), po0 j = some a → F a) : ka_R l D F yX2_pictureAt wsX2_pictureAt 0 0 [.ref a0, .int x0] [(a0, .inr (2, [.ref a1, .ref a2, .int x1, va_rf o0])), (a1, .inl (k0, 12, .inr (.inr (.inr (.inr po0)))))] [(k0, .object RX1)] (fun v => ∃ o : Option Nat, v = some (va_rf o) ∧ ∀ a : Nat, o = some a → F a) := by
  refine ka_R_of (cc := cX2_pictureAt) (maxL := 2) (ret := (some (.object "AskedBack$Formula"))) (by decide) rfl (Nat.le_of_ble_eq_true rfl) ?_
  intro p e s m below meth c ls C hr hlk hP hK hE hN hl
  have hS : va_S (fun _ => False) s.heap s.heap [] := va_S.rf
  have C : CallFix p m c cX2_pictureAt 2 s [.ref a0, .int x0].toArray wsX2_pictureAt RX2 := C
  obtain ⟨hx, hb, hml, hown, hts⟩ := id C
  have hl : lv_has ls 2 [(0, .ref a0), (1, .int x0)] := hl
  have rx0 := ka_rng x0
  have rx1 := ka_rng x1
  refine lv_iload_n hx hb dX2_pictureAt_0 rfl (lv_at hl 1 rfl) ?_
  refine lv_if_lt (tgt := 30) hx hb dX2_pictureAt_1 (by decide) (fun c_17588 => ?_) (fun c_17588 => ?_)
  · have c_17588 : x0.toInt < 0 := by rw [ka_lt', show ((0 : Int32)).toInt = 0 from by decide] at c_17588; exact c_17588
    refine lv_null hx hb dX2_pictureAt_30 ?_
    exact ka_rRa C hr hlk (Or.inl ⟨_, rfl⟩) (Or.inl rfl) ⟨none, rfl, (fun _ h => by cases h)⟩ dX2_pictureAt_31
  · have c_17588 : ¬ x0.toInt < 0 := by rw [ka_lt', show ((0 : Int32)).toInt = 0 from by decide] at c_17588; exact c_17588
    refine lv_iload_n hx hb dX2_pictureAt_4 rfl (lv_at hl 1 rfl) ?_
    refine lv_aload_n hx hb dX2_pictureAt_5 rfl (lv_at hl 0 rfl) ?_
    refine ka_get C lq_131 rfl hK hP 0 rfl 2 (by decide) lq_132 rfl dX2_pictureAt_6 ?_
    refine lv_icmp_ge (tgt := 30) hx hb dX2_pictureAt_9 (by decide) (fun c_17589 => ?_) (fun c_17589 => ?_)
    · have c_17589 : x1.toInt ≤ x0.toInt := by rw [ka_le'] at c_17589; exact c_17589
      refine lv_null hx hb dX2_pictureAt_30 ?_
      exact ka_rRa C hr hlk (Or.inl ⟨_, rfl⟩) (Or.inl rfl) ⟨none, rfl, (fun _ h => by cases h)⟩ dX2_pictureAt_31
    · have c_17589 : ¬ x1.toInt ≤ x0.toInt := by rw [ka_le'] at c_17589; exact c_17589
      refine lv_iload_n hx hb dX2_pictureAt_12 rfl (lv_at hl 1 rfl) ?_
      refine lv_aload_n hx hb dX2_pictureAt_13 rfl (lv_at hl 0 rfl) ?_
      refine ka_get C lq_131 rfl hK hP 0 rfl 0 (by decide) lq_133 rfl dX2_pictureAt_14 ?_
      refine va_alen hx hb hK hP 1 0 rfl (ty := .object RX1) rfl (v := 12) rfl dX2_pictureAt_17 ?_
      refine lv_icmp_ge (tgt := 30) hx hb dX2_pictureAt_18 (by decide) (fun c_ => absurd c_ (by rw [ka_le', show ((12 : Int32)).toInt = 12 from by decide]; omega)) (fun _ => ?_)
      refine lv_aload_n hx hb dX2_pictureAt_21 rfl (lv_at hl 0 rfl) ?_
      refine ka_get C lq_131 rfl hK hP 0 rfl 0 (by decide) lq_133 rfl dX2_pictureAt_22 ?_
      refine lv_iload_n hx hb dX2_pictureAt_25 rfl (lv_at hl 1 rfl) ?_
      refine va_aldq hx hb hK hP 1 0 rfl rfl (ka_in (by omega) (by omega)) dX2_pictureAt_26 ?_
      refine kb_topo (fun o_17590 eo_17590 => ?_)
      have ho_17590 : ∀ a : Nat, o_17590 = some a → F a := fun a h => hpo0 _ a (eo_17590.symm.trans h)
      refine lv_goto (tgt := 31) hx hb dX2_pictureAt_27 (by decide) ?_
      exact ka_rRa C hr hlk (Or.inl ⟨_, rfl⟩) (va_rf_or _) ⟨o_17590, rfl, ho_17590⟩ dX2_pictureAt_31
theorem lq_134 : ∀ w ∈ wsX20, w ∈ wsX2_allTellAsLaw := by decide +kernel
theorem lq_135 : Cond.fieldLink RX2 25 "AskedBack$Lesson" "law" "LAskedBack$Formula;" ∈ wsX2_allTellAsLaw := by decide +kernel
theorem lq_136 : Cond.fieldLink RX2 17 "AskedBack$Lesson" "tellers" "[I" ∈ wsX2_allTellAsLaw := by decide +kernel
theorem lq_137 : ∀ w ∈ wsX10, w ∈ wsX2_allTellAsLaw := by decide +kernel
theorem lq_138 : Cond.fieldLink RX2 29 "AskedBack$Formula" "truth" "I" ∈ wsX2_allTellAsLaw := by decide +kernel
theorem lq_139 : Cond.initialized RX6 ∈ wsX2_allTellAsLaw := by decide +kernel
theorem lq_140 : Cond.static yX6_bitAt ∈ wsX2_allTellAsLaw := by decide +kernel
set_option maxHeartbeats 4000000 in
set_option maxRecDepth 100000 in
theorem cg_X2_allTellAsLaw_141 (l : Launch) (D : va_G) (F : Nat → Prop) (a0 : Nat) (x0 : Int32) (x1 : Int32) (a1 : Nat) (a2 : Nat) (x2 : Int32) (o0 : Option Nat) (k0 : ClassId) (f0 : Nat → Int32) (hx2 : 0 ≤ x2.toInt ∧ x2.toInt ≤ 12) (ho0 : ∀ a : Nat, o0 = some a → F a) : ka_R l D F yX2_allTellAsLaw wsX2_allTellAsLaw 1 21 [.ref a0, .int x0, .int x1] [(a0, .inr (2, [.ref a1, .ref a2, .int x2, va_rf o0])), (a2, .inl (k0, 32, .inl f0))] [(k0, .int)] (fun v => ∃ x : Int32, v = some (.int x) ∧ 0 ≤ x.toInt ∧ x.toInt ≤ 1) := by
  refine ka_R_of (cc := cX2_allTellAsLaw) (maxL := 4) (ret := (some .boolean)) (by decide) rfl (Nat.le_of_ble_eq_true rfl) ?_
  intro p e s m below meth c ls C hr hlk hP hK hE hN hl
  have hS : va_S (fun _ => False) s.heap s.heap [] := va_S.rf
  have C : CallFix p m c cX2_allTellAsLaw 4 s [.ref a0, .int x0, .int x1].toArray wsX2_allTellAsLaw RX2 := C
  obtain ⟨hx, hb, hml, hown, hts⟩ := id C
  have hl : lv_has ls 4 [(0, .ref a0), (1, .int x0), (2, .int x1)] := hl
  have rx0 := ka_rng x0
  have rx1 := ka_rng x1
  have rx2 := ka_rng x2
  refine lv_aload_n hx hb dX2_allTellAsLaw_0 rfl (lv_at hl 0 rfl) ?_
  refine ka_get C lq_134 rfl hK hP 0 rfl 3 (by decide) lq_135 rfl dX2_allTellAsLaw_1 ?_
  refine kb_ifnull (tgt := 20) hx hb dX2_allTellAsLaw_4 (by decide) (fun hfa_17652 => ?_) (fun fa_17652 hfa_17652 => ?_)
  · skip
    refine lv_iconst (v := 0) hx hb dX2_allTellAsLaw_20 (by decide) ?_
    exact ka_rRz C hr hlk rfl ⟨_, rfl, ⟨by decide, by decide⟩⟩ dX2_allTellAsLaw_21
  · have Ffa_17652 : F fa_17652 := ho0 fa_17652 hfa_17652
    refine lv_iload_n hx hb dX2_allTellAsLaw_7 rfl (lv_at hl 1 rfl) ?_
    refine lv_if_lt (tgt := 20) hx hb dX2_allTellAsLaw_8 (by decide) (fun c_17653 => ?_) (fun c_17653 => ?_)
    · have c_17653 : x0.toInt < 0 := by rw [ka_lt', show ((0 : Int32)).toInt = 0 from by decide] at c_17653; exact c_17653
      refine lv_iconst (v := 0) hx hb dX2_allTellAsLaw_20 (by decide) ?_
      exact ka_rRz C hr hlk rfl ⟨_, rfl, ⟨by decide, by decide⟩⟩ dX2_allTellAsLaw_21
    · have c_17653 : ¬ x0.toInt < 0 := by rw [ka_lt', show ((0 : Int32)).toInt = 0 from by decide] at c_17653; exact c_17653
      refine lv_iload_n hx hb dX2_allTellAsLaw_11 rfl (lv_at hl 1 rfl) ?_
      refine lv_aload_n hx hb dX2_allTellAsLaw_12 rfl (lv_at hl 0 rfl) ?_
      refine ka_get C lq_134 rfl hK hP 0 rfl 1 (by decide) lq_136 rfl dX2_allTellAsLaw_13 ?_
      refine va_alen hx hb hK hP 1 0 rfl (ty := .int) rfl (v := 32) rfl dX2_allTellAsLaw_16 ?_
      refine lv_icmp_lt (tgt := 22) hx hb dX2_allTellAsLaw_17 (by decide) (fun c_17654 => ?_) (fun c_17654 => ?_)
      · have c_17654 : x0.toInt < 32 := by rw [ka_lt', show ((32 : Int32)).toInt = 32 from by decide] at c_17654; exact c_17654
        refine lv_aload_n hx hb dX2_allTellAsLaw_22 rfl (lv_at hl 0 rfl) ?_
        refine ka_get C lq_134 rfl hK hP 0 rfl 3 (by decide) lq_135 rfl dX2_allTellAsLaw_23 ?_
        refine ka_top (w := .ref fa_17652) (by rw [hfa_17652]; rfl) ?_
        obtain ⟨tru_17655, txu_17655, kku_17655, nnu_17655, ffu_17655, hnu_17655, hPu_17655, hKu_17655, -, -⟩ := (ka_FP_kept hE.2 hS.2.1) fa_17652 Ffa_17652
        refine ka_get C lq_137 rfl hKu_17655 hPu_17655 0 rfl 0 (by decide) lq_138 rfl dX2_allTellAsLaw_26 ?_
        have rtru_17655 := ka_rng tru_17655
        refine lv_iload_n hx hb dX2_allTellAsLaw_29 rfl (lv_at hl 1 rfl) ?_
        refine ka_RN (n := 2) C (ka_c_bitAt l D F tru_17655 x0) gX2_allTellAsLaw_X6_bitAt_n32 rfl hN.2.2.2.2.1 lq_139 lq_140 (by decide +kernel) ⟨Nat.le_of_ble_eq_true rfl, Nat.le_of_ble_eq_true rfl⟩ hK hP hS hE hN [] rfl [] rfl rfl hl.1 (rest := []) rfl (Nat.le_of_ble_eq_true rfl) dX2_allTellAsLaw_30 ⟨Nat.le_of_ble_eq_true rfl, Nat.le_of_ble_eq_true rfl⟩ (fun v hv => ?_)
        subst hv
        refine ka_stk (w := .int (ka_bit tru_17655 x0) :: []) rfl ?_
        refine lv_topi (fun v_17656 ev_17656 => ?_)
        have fv_17656 := ka_bit_in tru_17655 x0; rw [← ev_17656] at fv_17656
        refine lv_iconst (v := 1) hx hb dX2_allTellAsLaw_33 (by decide) ?_
        refine lv_icmp_ne (tgt := 41) hx hb dX2_allTellAsLaw_34 (by decide) (fun c_17657 => ?_) (fun c_17657 => ?_)
        · have c_17657 : ¬ v_17656.toInt = 1 := by rw [ka_eq', show ((1 : Int32)).toInt = 1 from by decide] at c_17657; exact c_17657
          refine lv_iconst (v := 0) hx hb dX2_allTellAsLaw_41 (by decide) ?_
          refine lv_istore_n (lv' := [(3, .int 0), (0, .ref a0), (1, .int x0), (2, .int x1)]) hx hb dX2_allTellAsLaw_42 rfl hl (by decide) rfl (fun ls hl => ?_)
          refine lv_aload_n hx hb dX2_allTellAsLaw_43 rfl (lv_at hl 1 rfl) ?_
          refine ka_get C lq_134 rfl hK hP 0 rfl 1 (by decide) lq_136 rfl dX2_allTellAsLaw_44 ?_
          refine lv_iload_n hx hb dX2_allTellAsLaw_47 rfl (lv_at hl 2 rfl) ?_
          refine va_iald hx hb hK hP 1 0 rfl rfl (ka_in (by omega) (by omega)) dX2_allTellAsLaw_48 ?_
          refine lv_topi (fun v_17658 ev_17658 => ?_)
          refine lv_iload_n hx hb dX2_allTellAsLaw_49 rfl (lv_at hl 3 rfl) ?_
          refine lv_iand hx hb dX2_allTellAsLaw_50 ?_
          refine lv_topi (fun v_17659 ev_17659 => ?_)
          refine lv_iload_n hx hb dX2_allTellAsLaw_51 rfl (lv_at hl 0 rfl) ?_
          refine lv_icmp_ne (tgt := 59) hx hb dX2_allTellAsLaw_52 (by decide) (fun c_17660 => ?_) (fun c_17660 => ?_)
          · have c_17660 : ¬ v_17659.toInt = 0 := by rw [ka_eq', show ((0 : Int32)).toInt = 0 from by decide] at c_17660; exact c_17660
            refine lv_iconst (v := 0) hx hb dX2_allTellAsLaw_59 (by decide) ?_
            exact ka_rRz C hr hlk rfl ⟨_, rfl, ⟨by decide, by decide⟩⟩ dX2_allTellAsLaw_60
          · have c_17660 : v_17659.toInt = 0 := by rw [ka_eq', show ((0 : Int32)).toInt = 0 from by decide] at c_17660; exact c_17660
            refine lv_iconst (v := 1) hx hb dX2_allTellAsLaw_55 (by decide) ?_
            refine lv_goto (tgt := 60) hx hb dX2_allTellAsLaw_56 (by decide) ?_
            exact ka_rRz C hr hlk rfl ⟨_, rfl, ⟨by decide, by decide⟩⟩ dX2_allTellAsLaw_60
        · have c_17657 : v_17656.toInt = 1 := by rw [ka_eq', show ((1 : Int32)).toInt = 1 from by decide] at c_17657; exact c_17657
          refine lv_iload_n hx hb dX2_allTellAsLaw_37 rfl (lv_at hl 2 rfl) ?_
          refine lv_goto (tgt := 42) hx hb dX2_allTellAsLaw_38 (by decide) ?_
          refine lv_istore_n (lv' := [(3, .int x1), (0, .ref a0), (1, .int x0), (2, .int x1)]) hx hb dX2_allTellAsLaw_42 rfl hl (by decide) rfl (fun ls hl => ?_)
          refine lv_aload_n hx hb dX2_allTellAsLaw_43 rfl (lv_at hl 1 rfl) ?_
          refine ka_get C lq_134 rfl hK hP 0 rfl 1 (by decide) lq_136 rfl dX2_allTellAsLaw_44 ?_
          refine lv_iload_n hx hb dX2_allTellAsLaw_47 rfl (lv_at hl 2 rfl) ?_
          refine va_iald hx hb hK hP 1 0 rfl rfl (ka_in (by omega) (by omega)) dX2_allTellAsLaw_48 ?_
          refine lv_topi (fun v_17661 ev_17661 => ?_)
          refine lv_iload_n hx hb dX2_allTellAsLaw_49 rfl (lv_at hl 3 rfl) ?_
          refine lv_iand hx hb dX2_allTellAsLaw_50 ?_
          refine lv_topi (fun v_17662 ev_17662 => ?_)
          refine lv_iload_n hx hb dX2_allTellAsLaw_51 rfl (lv_at hl 0 rfl) ?_
          refine lv_icmp_ne (tgt := 59) hx hb dX2_allTellAsLaw_52 (by decide) (fun c_17663 => ?_) (fun c_17663 => ?_)
          · have c_17663 : ¬ v_17662.toInt = x1.toInt := by rw [ka_eq'] at c_17663; exact c_17663
            refine lv_iconst (v := 0) hx hb dX2_allTellAsLaw_59 (by decide) ?_
            exact ka_rRz C hr hlk rfl ⟨_, rfl, ⟨by decide, by decide⟩⟩ dX2_allTellAsLaw_60
          · have c_17663 : v_17662.toInt = x1.toInt := by rw [ka_eq'] at c_17663; exact c_17663
            refine lv_iconst (v := 1) hx hb dX2_allTellAsLaw_55 (by decide) ?_
            refine lv_goto (tgt := 60) hx hb dX2_allTellAsLaw_56 (by decide) ?_
            exact ka_rRz C hr hlk rfl ⟨_, rfl, ⟨by decide, by decide⟩⟩ dX2_allTellAsLaw_60
      · have c_17654 : ¬ x0.toInt < 32 := by rw [ka_lt', show ((32 : Int32)).toInt = 32 from by decide] at c_17654; exact c_17654
        refine lv_iconst (v := 0) hx hb dX2_allTellAsLaw_20 (by decide) ?_
        exact ka_rRz C hr hlk rfl ⟨_, rfl, ⟨by decide, by decide⟩⟩ dX2_allTellAsLaw_21
set_option maxHeartbeats 4000000 in
set_option maxRecDepth 100000 in
theorem cg_X2_allTellAsLaw_142 (l : Launch) (D : va_G) (F : Nat → Prop) (a0 : Nat) (x0 : Int32) (x1 : Int32) (a1 : Nat) (a2 : Nat) (x2 : Int32) (o0 : Option Nat) (k0 : ClassId) (f0 : Nat → Int32) (hx0 : 0 ≤ x0.toInt ∧ x0.toInt ≤ 31) (hx2 : 0 ≤ x2.toInt ∧ x2.toInt ≤ 12) (ho0 : ∀ a : Nat, o0 = some a → F a) : ka_R l D F yX2_allTellAsLaw wsX2_allTellAsLaw 1 21 [.ref a0, .int x0, .int x1] [(a0, .inr (2, [.ref a1, .ref a2, .int x2, va_rf o0])), (a2, .inl (k0, 32, .inl f0))] [(k0, .int)] (fun v => ∃ x : Int32, v = some (.int x) ∧ 0 ≤ x.toInt ∧ x.toInt ≤ 1) := by
  refine ka_R_of (cc := cX2_allTellAsLaw) (maxL := 4) (ret := (some .boolean)) (by decide) rfl (Nat.le_of_ble_eq_true rfl) ?_
  intro p e s m below meth c ls C hr hlk hP hK hE hN hl
  have hS : va_S (fun _ => False) s.heap s.heap [] := va_S.rf
  have C : CallFix p m c cX2_allTellAsLaw 4 s [.ref a0, .int x0, .int x1].toArray wsX2_allTellAsLaw RX2 := C
  obtain ⟨hx, hb, hml, hown, hts⟩ := id C
  have hl : lv_has ls 4 [(0, .ref a0), (1, .int x0), (2, .int x1)] := hl
  have rx0 := ka_rng x0
  have rx1 := ka_rng x1
  have rx2 := ka_rng x2
  refine lv_aload_n hx hb dX2_allTellAsLaw_0 rfl (lv_at hl 0 rfl) ?_
  refine ka_get C lq_134 rfl hK hP 0 rfl 3 (by decide) lq_135 rfl dX2_allTellAsLaw_1 ?_
  refine kb_ifnull (tgt := 20) hx hb dX2_allTellAsLaw_4 (by decide) (fun hfa_17767 => ?_) (fun fa_17767 hfa_17767 => ?_)
  · skip
    refine lv_iconst (v := 0) hx hb dX2_allTellAsLaw_20 (by decide) ?_
    exact ka_rRz C hr hlk rfl ⟨_, rfl, ⟨by decide, by decide⟩⟩ dX2_allTellAsLaw_21
  · have Ffa_17767 : F fa_17767 := ho0 fa_17767 hfa_17767
    refine lv_iload_n hx hb dX2_allTellAsLaw_7 rfl (lv_at hl 1 rfl) ?_
    refine lv_if_lt (tgt := 20) hx hb dX2_allTellAsLaw_8 (by decide) (fun c_ => absurd c_ (by rw [ka_lt', show ((0 : Int32)).toInt = 0 from by decide]; omega)) (fun _ => ?_)
    refine lv_iload_n hx hb dX2_allTellAsLaw_11 rfl (lv_at hl 1 rfl) ?_
    refine lv_aload_n hx hb dX2_allTellAsLaw_12 rfl (lv_at hl 0 rfl) ?_
    refine ka_get C lq_134 rfl hK hP 0 rfl 1 (by decide) lq_136 rfl dX2_allTellAsLaw_13 ?_
    refine va_alen hx hb hK hP 1 0 rfl (ty := .int) rfl (v := 32) rfl dX2_allTellAsLaw_16 ?_
    refine lv_icmp_lt (tgt := 22) hx hb dX2_allTellAsLaw_17 (by decide) (fun _ => ?_) (fun c_ => absurd (by rw [ka_lt', show ((32 : Int32)).toInt = 32 from by decide]; omega) c_)
    refine lv_aload_n hx hb dX2_allTellAsLaw_22 rfl (lv_at hl 0 rfl) ?_
    refine ka_get C lq_134 rfl hK hP 0 rfl 3 (by decide) lq_135 rfl dX2_allTellAsLaw_23 ?_
    refine ka_top (w := .ref fa_17767) (by rw [hfa_17767]; rfl) ?_
    obtain ⟨tru_17768, txu_17768, kku_17768, nnu_17768, ffu_17768, hnu_17768, hPu_17768, hKu_17768, -, -⟩ := (ka_FP_kept hE.2 hS.2.1) fa_17767 Ffa_17767
    refine ka_get C lq_137 rfl hKu_17768 hPu_17768 0 rfl 0 (by decide) lq_138 rfl dX2_allTellAsLaw_26 ?_
    have rtru_17768 := ka_rng tru_17768
    refine lv_iload_n hx hb dX2_allTellAsLaw_29 rfl (lv_at hl 1 rfl) ?_
    refine ka_RN (n := 2) C (ka_c_bitAt l D F tru_17768 x0) gX2_allTellAsLaw_X6_bitAt_n32 rfl hN.2.2.2.2.1 lq_139 lq_140 (by decide +kernel) ⟨Nat.le_of_ble_eq_true rfl, Nat.le_of_ble_eq_true rfl⟩ hK hP hS hE hN [] rfl [] rfl rfl hl.1 (rest := []) rfl (Nat.le_of_ble_eq_true rfl) dX2_allTellAsLaw_30 ⟨Nat.le_of_ble_eq_true rfl, Nat.le_of_ble_eq_true rfl⟩ (fun v hv => ?_)
    subst hv
    refine ka_stk (w := .int (ka_bit tru_17768 x0) :: []) rfl ?_
    refine lv_topi (fun v_17769 ev_17769 => ?_)
    have fv_17769 := ka_bit_in tru_17768 x0; rw [← ev_17769] at fv_17769
    refine lv_iconst (v := 1) hx hb dX2_allTellAsLaw_33 (by decide) ?_
    refine lv_icmp_ne (tgt := 41) hx hb dX2_allTellAsLaw_34 (by decide) (fun c_17770 => ?_) (fun c_17770 => ?_)
    · have c_17770 : ¬ v_17769.toInt = 1 := by rw [ka_eq', show ((1 : Int32)).toInt = 1 from by decide] at c_17770; exact c_17770
      refine lv_iconst (v := 0) hx hb dX2_allTellAsLaw_41 (by decide) ?_
      refine lv_istore_n (lv' := [(3, .int 0), (0, .ref a0), (1, .int x0), (2, .int x1)]) hx hb dX2_allTellAsLaw_42 rfl hl (by decide) rfl (fun ls hl => ?_)
      refine lv_aload_n hx hb dX2_allTellAsLaw_43 rfl (lv_at hl 1 rfl) ?_
      refine ka_get C lq_134 rfl hK hP 0 rfl 1 (by decide) lq_136 rfl dX2_allTellAsLaw_44 ?_
      refine lv_iload_n hx hb dX2_allTellAsLaw_47 rfl (lv_at hl 2 rfl) ?_
      refine va_iald hx hb hK hP 1 0 rfl rfl (ka_in (by omega) (by omega)) dX2_allTellAsLaw_48 ?_
      refine lv_topi (fun v_17771 ev_17771 => ?_)
      refine lv_iload_n hx hb dX2_allTellAsLaw_49 rfl (lv_at hl 3 rfl) ?_
      refine lv_iand hx hb dX2_allTellAsLaw_50 ?_
      refine lv_topi (fun v_17772 ev_17772 => ?_)
      refine lv_iload_n hx hb dX2_allTellAsLaw_51 rfl (lv_at hl 0 rfl) ?_
      refine lv_icmp_ne (tgt := 59) hx hb dX2_allTellAsLaw_52 (by decide) (fun c_17773 => ?_) (fun c_17773 => ?_)
      · have c_17773 : ¬ v_17772.toInt = 0 := by rw [ka_eq', show ((0 : Int32)).toInt = 0 from by decide] at c_17773; exact c_17773
        refine lv_iconst (v := 0) hx hb dX2_allTellAsLaw_59 (by decide) ?_
        exact ka_rRz C hr hlk rfl ⟨_, rfl, ⟨by decide, by decide⟩⟩ dX2_allTellAsLaw_60
      · have c_17773 : v_17772.toInt = 0 := by rw [ka_eq', show ((0 : Int32)).toInt = 0 from by decide] at c_17773; exact c_17773
        refine lv_iconst (v := 1) hx hb dX2_allTellAsLaw_55 (by decide) ?_
        refine lv_goto (tgt := 60) hx hb dX2_allTellAsLaw_56 (by decide) ?_
        exact ka_rRz C hr hlk rfl ⟨_, rfl, ⟨by decide, by decide⟩⟩ dX2_allTellAsLaw_60
    · have c_17770 : v_17769.toInt = 1 := by rw [ka_eq', show ((1 : Int32)).toInt = 1 from by decide] at c_17770; exact c_17770
      refine lv_iload_n hx hb dX2_allTellAsLaw_37 rfl (lv_at hl 2 rfl) ?_
      refine lv_goto (tgt := 42) hx hb dX2_allTellAsLaw_38 (by decide) ?_
      refine lv_istore_n (lv' := [(3, .int x1), (0, .ref a0), (1, .int x0), (2, .int x1)]) hx hb dX2_allTellAsLaw_42 rfl hl (by decide) rfl (fun ls hl => ?_)
      refine lv_aload_n hx hb dX2_allTellAsLaw_43 rfl (lv_at hl 1 rfl) ?_
      refine ka_get C lq_134 rfl hK hP 0 rfl 1 (by decide) lq_136 rfl dX2_allTellAsLaw_44 ?_
      refine lv_iload_n hx hb dX2_allTellAsLaw_47 rfl (lv_at hl 2 rfl) ?_
      refine va_iald hx hb hK hP 1 0 rfl rfl (ka_in (by omega) (by omega)) dX2_allTellAsLaw_48 ?_
      refine lv_topi (fun v_17774 ev_17774 => ?_)
      refine lv_iload_n hx hb dX2_allTellAsLaw_49 rfl (lv_at hl 3 rfl) ?_
      refine lv_iand hx hb dX2_allTellAsLaw_50 ?_
      refine lv_topi (fun v_17775 ev_17775 => ?_)
      refine lv_iload_n hx hb dX2_allTellAsLaw_51 rfl (lv_at hl 0 rfl) ?_
      refine lv_icmp_ne (tgt := 59) hx hb dX2_allTellAsLaw_52 (by decide) (fun c_17776 => ?_) (fun c_17776 => ?_)
      · have c_17776 : ¬ v_17775.toInt = x1.toInt := by rw [ka_eq'] at c_17776; exact c_17776
        refine lv_iconst (v := 0) hx hb dX2_allTellAsLaw_59 (by decide) ?_
        exact ka_rRz C hr hlk rfl ⟨_, rfl, ⟨by decide, by decide⟩⟩ dX2_allTellAsLaw_60
      · have c_17776 : v_17775.toInt = x1.toInt := by rw [ka_eq'] at c_17776; exact c_17776
        refine lv_iconst (v := 1) hx hb dX2_allTellAsLaw_55 (by decide) ?_
        refine lv_goto (tgt := 60) hx hb dX2_allTellAsLaw_56 (by decide) ?_
        exact ka_rRz C hr hlk rfl ⟨_, rfl, ⟨by decide, by decide⟩⟩ dX2_allTellAsLaw_60
theorem lq_141 : Cond.initialized RX6 ∈ wsX2_nearestToldAsLaw := by decide +kernel
theorem lq_142 : Cond.static yX6_bitAt ∈ wsX2_nearestToldAsLaw := by decide +kernel
set_option maxHeartbeats 4000000 in
set_option maxRecDepth 100000 in
theorem cg_X2_nearestToldAsLaw_143 (l : Launch) (D : va_G) (F : Nat → Prop) (a0 : Nat) (x0 : Int32) (x1 : Int32) (x2 : Int32) (a1 : Nat) (a2 : Nat) (x3 : Int32) (o0 : Option Nat) (k0 : ClassId) (f0 : Nat → Int32) (hx3 : 0 ≤ x3.toInt ∧ x3.toInt ≤ 12) (ho0 : ∀ a : Nat, o0 = some a → F a) : ka_R l D F yX2_nearestToldAsLaw wsX2_nearestToldAsLaw 2 44 [.ref a0, .int x0, .int x1, .int x2] [(a0, .inr (2, [.ref a1, .ref a2, .int x3, va_rf o0])), (a2, .inl (k0, 32, .inl f0))] [(k0, .int)] (fun v => ∃ x : Int32, v = some (.int x) ∧ -1 ≤ x.toInt ∧ x.toInt ≤ 31) := by
  refine ka_R_of (cc := cX2_nearestToldAsLaw) (maxL := 8) (ret := (some .int)) (by decide) rfl (Nat.le_of_ble_eq_true rfl) ?_
  intro p e s m below meth c ls C hr hlk hP hK hE hN hl
  have hS : va_S (fun _ => False) s.heap s.heap [] := va_S.rf
  have C : CallFix p m c cX2_nearestToldAsLaw 8 s [.ref a0, .int x0, .int x1, .int x2].toArray wsX2_nearestToldAsLaw RX2 := C
  obtain ⟨hx, hb, hml, hown, hts⟩ := id C
  have hl : lv_has ls 8 [(0, .ref a0), (1, .int x0), (2, .int x1), (3, .int x2)] := hl
  have rx0 := ka_rng x0
  have rx1 := ka_rng x1
  have rx2 := ka_rng x2
  have rx3 := ka_rng x3
  refine lv_bipush (v := 32) hx hb dX2_nearestToldAsLaw_0 (by decide) ?_
  refine lv_istore (lv' := [(4, .int 32), (0, .ref a0), (1, .int x0), (2, .int x1), (3, .int x2)]) hx hb dX2_nearestToldAsLaw_2 hl (by decide) rfl (fun ls hl => ?_)
  refine lv_iconst (v := (-1)) hx hb dX2_nearestToldAsLaw_4 (by decide) ?_
  refine lv_istore (lv' := [(5, .int (-1)), (4, .int 32), (0, .ref a0), (1, .int x0), (2, .int x1), (3, .int x2)]) hx hb dX2_nearestToldAsLaw_5 hl (by decide) rfl (fun ls hl => ?_)
  refine lv_iconst (v := 0) hx hb dX2_nearestToldAsLaw_7 (by decide) ?_
  refine lv_istore (lv' := [(6, .int 0), (5, .int (-1)), (4, .int 32), (0, .ref a0), (1, .int x0), (2, .int x1), (3, .int x2)]) hx hb dX2_nearestToldAsLaw_8 hl (by decide) rfl (fun ls hl => ?_)
  have lp_17818 : ∀ (n : Nat) (i17818_4 : Int32) (i17818_5 : Int32) (i17818_6 : Int32), (-1 ≤ i17818_5.toInt ∧ i17818_5.toInt ≤ 31) → (0 ≤ i17818_6.toInt ∧ i17818_6.toInt ≤ 32) → (32 - i17818_6.toInt).toNat < n → ∀ (ls : Array Slot), lv_has ls 8 [(0, .ref a0), (1, .int x0), (2, .int x1), (3, .int x2), (4, .int i17818_4), (5, .int i17818_5), (6, .int i17818_6)] → W p l e ({ frames := 2, cells := 0, slots := 0, locals := 44 }) s m [.ref a0, .int x0, .int x1, .int x2].toArray below meth c s.heap [] 0 0 (MQ below (ka_QR (fun v => ∃ x : Int32, v = some (.int x) ∧ -1 ≤ x.toInt ∧ x.toInt ≤ 31)) [.ref a0, .int x0, .int x1, .int x2].toArray s 0 0 (fun _ => False)) (F0 m 10 ls []) := by
    intro n
    induction n with
    | zero =>
      intro i17818_4 i17818_5 i17818_6 hi17818_5 hi17818_6 hm
      exact absurd hm (Nat.not_lt_zero _)
    | succ n ih_17818 =>
      intro i17818_4 i17818_5 i17818_6 hi17818_5 hi17818_6 hm ls hl
      have ri17818_4 := ka_rng i17818_4
      have ri17818_5 := ka_rng i17818_5
      have ri17818_6 := ka_rng i17818_6
      refine lv_iload hx hb dX2_nearestToldAsLaw_10 (lv_at hl 6 rfl) ?_
      refine lv_bipush (v := 32) hx hb dX2_nearestToldAsLaw_12 (by decide) ?_
      refine lv_icmp_ge (tgt := 66) hx hb dX2_nearestToldAsLaw_14 (by decide) (fun c_17831 => ?_) (fun c_17831 => ?_)
      · have c_17831 : 32 ≤ i17818_6.toInt := by rw [ka_le', show ((32 : Int32)).toInt = 32 from by decide] at c_17831; exact c_17831
        refine lv_iload hx hb dX2_nearestToldAsLaw_66 (lv_at hl 5 rfl) ?_
        exact ka_rRi C hr hlk ⟨_, rfl, ⟨by omega, by omega⟩⟩ dX2_nearestToldAsLaw_68
      · have c_17831 : ¬ 32 ≤ i17818_6.toInt := by rw [ka_le', show ((32 : Int32)).toInt = 32 from by decide] at c_17831; exact c_17831
        refine lv_iload hx hb dX2_nearestToldAsLaw_17 (lv_at hl 6 rfl) ?_
        refine lv_iload_n hx hb dX2_nearestToldAsLaw_19 rfl (lv_at hl 1 rfl) ?_
        refine lv_ixor hx hb dX2_nearestToldAsLaw_20 ?_
        refine lv_topi (fun v_17832 ev_17832 => ?_)
        refine ka_RS (n := 1) C (cg_J6_bitCount_0f7a4_39 l D F v_17832) gX2_nearestToldAsLaw_J6_bitCount_0f7a4 rfl (by decide +kernel) ⟨Nat.le_of_ble_eq_true rfl, Nat.le_of_ble_eq_true rfl⟩ hK hP hS hE hN [] rfl [] rfl rfl hl.1 (rest := []) rfl (Nat.le_of_ble_eq_true rfl) dX2_nearestToldAsLaw_21 ⟨Nat.le_of_ble_eq_true rfl, Nat.le_of_ble_eq_true rfl⟩ (fun v hv => ?_)
        obtain ⟨v_17833, rfl⟩ := hv
        have rv_17833 := ka_rng v_17833
        refine ka_stk (w := [.int v_17833]) rfl ?_
        refine lv_istore (lv' := [(7, .int v_17833), (0, .ref a0), (1, .int x0), (2, .int x1), (3, .int x2), (4, .int i17818_4), (5, .int i17818_5), (6, .int i17818_6)]) hx hb dX2_nearestToldAsLaw_24 hl (by decide) rfl (fun ls hl => ?_)
        refine lv_iload_n hx hb dX2_nearestToldAsLaw_26 rfl (lv_at hl 4 rfl) ?_
        refine lv_iload hx hb dX2_nearestToldAsLaw_27 (lv_at hl 7 rfl) ?_
        refine ka_RN (n := 2) C (ka_c_bitAt l D F x2 i17818_6) gX2_nearestToldAsLaw_X6_bitAt_n32 rfl hN.2.2.2.2.1 lq_141 lq_142 (by decide +kernel) ⟨Nat.le_of_ble_eq_true rfl, Nat.le_of_ble_eq_true rfl⟩ hK hP hS hE hN [] rfl [] rfl rfl hl.1 (rest := []) rfl (Nat.le_of_ble_eq_true rfl) dX2_nearestToldAsLaw_29 ⟨Nat.le_of_ble_eq_true rfl, Nat.le_of_ble_eq_true rfl⟩ (fun v hv => ?_)
        subst hv
        refine ka_stk (w := .int (ka_bit x2 i17818_6) :: []) rfl ?_
        refine lv_topi (fun v_17834 ev_17834 => ?_)
        have fv_17834 := ka_bit_in x2 i17818_6; rw [← ev_17834] at fv_17834
        refine lv_if_ne (tgt := 60) hx hb dX2_nearestToldAsLaw_32 (by decide) (fun c_17835 => ?_) (fun c_17835 => ?_)
        · have c_17835 : ¬ v_17834.toInt = 0 := by rw [ka_eq', show ((0 : Int32)).toInt = 0 from by decide] at c_17835; exact c_17835
          obtain ⟨v_17836, ev_17836⟩ : ∃ y : Int32, y = i17818_6 + 1 := ⟨_, rfl⟩
          refine lv_iinc (v := v_17836) (lv' := [(6, .int v_17836), (7, .int v_17833), (0, .ref a0), (1, .int x0), (2, .int x1), (3, .int x2), (4, .int i17818_4), (5, .int i17818_5)]) hx hb dX2_nearestToldAsLaw_60 hl (k := 7) rfl (by rw [ev_17836]; rfl) (by decide) rfl (fun ls hl => ?_)
          have fv_17836 : v_17836.toInt = i17818_6.toInt + 1 := by rw [ev_17836]; exact ka_add (x := i17818_6.toInt) (y := 1) rfl (by decide) (by omega) (by omega)
          refine lv_goto (tgt := 10) hx hb dX2_nearestToldAsLaw_63 (by decide) ?_
          exact ih_17818 i17818_4 i17818_5 v_17836 ⟨by omega, by omega⟩ ⟨by omega, by omega⟩ (by omega) ls (lv_sub hl [2, 3, 4, 5, 6, 7, 0] rfl)
        · have c_17835 : v_17834.toInt = 0 := by rw [ka_eq', show ((0 : Int32)).toInt = 0 from by decide] at c_17835; exact c_17835
          refine lv_iload hx hb dX2_nearestToldAsLaw_35 (lv_at hl 0 rfl) ?_
          refine lv_iload hx hb dX2_nearestToldAsLaw_37 (lv_at hl 5 rfl) ?_
          refine lv_icmp_ge (tgt := 60) hx hb dX2_nearestToldAsLaw_39 (by decide) (fun c_17837 => ?_) (fun c_17837 => ?_)
          · have c_17837 : i17818_4.toInt ≤ v_17833.toInt := by rw [ka_le'] at c_17837; exact c_17837
            obtain ⟨v_17838, ev_17838⟩ : ∃ y : Int32, y = i17818_6 + 1 := ⟨_, rfl⟩
            refine lv_iinc (v := v_17838) (lv' := [(6, .int v_17838), (7, .int v_17833), (0, .ref a0), (1, .int x0), (2, .int x1), (3, .int x2), (4, .int i17818_4), (5, .int i17818_5)]) hx hb dX2_nearestToldAsLaw_60 hl (k := 7) rfl (by rw [ev_17838]; rfl) (by decide) rfl (fun ls hl => ?_)
            have fv_17838 : v_17838.toInt = i17818_6.toInt + 1 := by rw [ev_17838]; exact ka_add (x := i17818_6.toInt) (y := 1) rfl (by decide) (by omega) (by omega)
            refine lv_goto (tgt := 10) hx hb dX2_nearestToldAsLaw_63 (by decide) ?_
            exact ih_17818 i17818_4 i17818_5 v_17838 ⟨by omega, by omega⟩ ⟨by omega, by omega⟩ (by omega) ls (lv_sub hl [2, 3, 4, 5, 6, 7, 0] rfl)
          · have c_17837 : ¬ i17818_4.toInt ≤ v_17833.toInt := by rw [ka_le'] at c_17837; exact c_17837
            refine lv_aload_n hx hb dX2_nearestToldAsLaw_42 rfl (lv_at hl 1 rfl) ?_
            refine lv_iload hx hb dX2_nearestToldAsLaw_43 (lv_at hl 7 rfl) ?_
            refine lv_iload_n hx hb dX2_nearestToldAsLaw_45 rfl (lv_at hl 3 rfl) ?_
            refine ka_RV (n := 2) C (cg_X2_allTellAsLaw_142 l D F a0 i17818_6 x1 a1 a2 x3 o0 k0 f0 ⟨by omega, by omega⟩ ⟨by omega, by omega⟩ ho0) gX2_nearestToldAsLaw_X2_allTellAsLaw rfl (by decide +kernel) ⟨Nat.le_of_ble_eq_true rfl, Nat.le_of_ble_eq_true rfl⟩ hK hP hS hE hN [0, 1] rfl [0] rfl (ci := 2) rfl rfl 0 rfl rfl hl.1 (rest := []) rfl (Nat.le_of_ble_eq_true rfl) dX2_nearestToldAsLaw_46 ⟨Nat.le_of_ble_eq_true rfl, Nat.le_of_ble_eq_true rfl⟩ (fun v hv => ?_)
            obtain ⟨v_17839, rfl, hv_17839⟩ := hv
            have rv_17839 := ka_rng v_17839
            refine ka_stk (w := [.int v_17839]) rfl ?_
            refine lv_if_eq (tgt := 60) hx hb dX2_nearestToldAsLaw_49 (by decide) (fun c_17840 => ?_) (fun c_17840 => ?_)
            · have c_17840 : v_17839.toInt = 0 := by rw [ka_eq', show ((0 : Int32)).toInt = 0 from by decide] at c_17840; exact c_17840
              obtain ⟨v_17841, ev_17841⟩ : ∃ y : Int32, y = i17818_6 + 1 := ⟨_, rfl⟩
              refine lv_iinc (v := v_17841) (lv' := [(6, .int v_17841), (7, .int v_17833), (0, .ref a0), (1, .int x0), (2, .int x1), (3, .int x2), (4, .int i17818_4), (5, .int i17818_5)]) hx hb dX2_nearestToldAsLaw_60 hl (k := 7) rfl (by rw [ev_17841]; rfl) (by decide) rfl (fun ls hl => ?_)
              have fv_17841 : v_17841.toInt = i17818_6.toInt + 1 := by rw [ev_17841]; exact ka_add (x := i17818_6.toInt) (y := 1) rfl (by decide) (by omega) (by omega)
              refine lv_goto (tgt := 10) hx hb dX2_nearestToldAsLaw_63 (by decide) ?_
              exact ih_17818 i17818_4 i17818_5 v_17841 ⟨by omega, by omega⟩ ⟨by omega, by omega⟩ (by omega) ls (lv_sub hl [2, 3, 4, 5, 6, 7, 0] rfl)
            · have c_17840 : ¬ v_17839.toInt = 0 := by rw [ka_eq', show ((0 : Int32)).toInt = 0 from by decide] at c_17840; exact c_17840
              refine lv_iload hx hb dX2_nearestToldAsLaw_52 (lv_at hl 0 rfl) ?_
              refine lv_istore (lv' := [(4, .int v_17833), (7, .int v_17833), (0, .ref a0), (1, .int x0), (2, .int x1), (3, .int x2), (5, .int i17818_5), (6, .int i17818_6)]) hx hb dX2_nearestToldAsLaw_54 hl (by decide) rfl (fun ls hl => ?_)
              refine lv_iload hx hb dX2_nearestToldAsLaw_56 (lv_at hl 7 rfl) ?_
              refine lv_istore (lv' := [(5, .int i17818_6), (4, .int v_17833), (7, .int v_17833), (0, .ref a0), (1, .int x0), (2, .int x1), (3, .int x2), (6, .int i17818_6)]) hx hb dX2_nearestToldAsLaw_58 hl (by decide) rfl (fun ls hl => ?_)
              obtain ⟨v_17842, ev_17842⟩ : ∃ y : Int32, y = i17818_6 + 1 := ⟨_, rfl⟩
              refine lv_iinc (v := v_17842) (lv' := [(6, .int v_17842), (5, .int i17818_6), (4, .int v_17833), (7, .int v_17833), (0, .ref a0), (1, .int x0), (2, .int x1), (3, .int x2)]) hx hb dX2_nearestToldAsLaw_60 hl (k := 7) rfl (by rw [ev_17842]; rfl) (by decide) rfl (fun ls hl => ?_)
              have fv_17842 : v_17842.toInt = i17818_6.toInt + 1 := by rw [ev_17842]; exact ka_add (x := i17818_6.toInt) (y := 1) rfl (by decide) (by omega) (by omega)
              refine lv_goto (tgt := 10) hx hb dX2_nearestToldAsLaw_63 (by decide) ?_
              exact ih_17818 v_17833 i17818_6 v_17842 ⟨by omega, by omega⟩ ⟨by omega, by omega⟩ (by omega) ls (lv_sub hl [4, 5, 6, 7, 2, 1, 0] rfl)
  exact lp_17818 _ 32 (-1) 0 ⟨by decide, by decide⟩ ⟨by decide, by decide⟩ (Nat.lt_succ_self _) ls (lv_sub hl [3, 4, 5, 6, 2, 1, 0] rfl)
set_option maxHeartbeats 4000000 in
set_option maxRecDepth 100000 in
theorem cg_X0_lessonAt_144 (l : Launch) (D : va_G) (F : Nat → Prop) (a0 : Nat) (x0 : Int32) (hx0 : x0.toInt ≤ -1) : ka_R l D F yX0_lessonAt wsX0_lessonAt 1 20 [.ref a0, .int x0] [] [] (fun v => v = some (.null)) := by
  refine ka_R_of (cc := cX0_lessonAt) (maxL := 2) (ret := (some (.object "AskedBack$Lesson"))) (by decide) rfl (Nat.le_of_ble_eq_true rfl) ?_
  intro p e s m below meth c ls C hr hlk hP hK hE hN hl
  have hS : va_S (fun _ => False) s.heap s.heap [] := va_S.rf
  have C : CallFix p m c cX0_lessonAt 2 s [.ref a0, .int x0].toArray wsX0_lessonAt RX0 := C
  obtain ⟨hx, hb, hml, hown, hts⟩ := id C
  have hl : lv_has ls 2 [(0, .ref a0), (1, .int x0)] := hl
  have rx0 := ka_rng x0
  refine lv_iload_n hx hb dX0_lessonAt_0 rfl (lv_at hl 1 rfl) ?_
  refine ka_RS (n := 1) C (cg_X0_isLesson_21 l D F x0 (by omega)) gX0_lessonAt_X0_isLesson rfl (by decide +kernel) ⟨Nat.le_of_ble_eq_true rfl, Nat.le_of_ble_eq_true rfl⟩ hK hP hS hE hN [] rfl [] rfl rfl hl.1 (rest := []) rfl (Nat.le_of_ble_eq_true rfl) dX0_lessonAt_1 ⟨Nat.le_of_ble_eq_true rfl, Nat.le_of_ble_eq_true rfl⟩ (fun v hv => ?_)
  subst hv
  refine ka_stk (w := [.int 0]) rfl ?_
  refine lv_if_eq (tgt := 16) hx hb dX0_lessonAt_4 (by decide) (fun _ => ?_) (fun c_ => absurd (by decide) c_)
  refine lv_null hx hb dX0_lessonAt_16 ?_
  exact ka_rRa C hr hlk (Or.inl ⟨_, rfl⟩) (Or.inl rfl) rfl dX0_lessonAt_17
theorem lq_143 : ∀ w ∈ wsX00, w ∈ wsX0_lessonAt := by decide +kernel
theorem lq_144 : Cond.fieldLink RX0 11 "AskedBack$Course" "lessons" "[LAskedBack$Lesson;" ∈ wsX0_lessonAt := by decide +kernel
set_option maxHeartbeats 4000000 in
set_option maxRecDepth 100000 in
theorem cg_X0_lessonAt_145 (l : Launch) (D : va_G) (F : Nat → Prop) (a0 : Nat) (a1 : Nat) (a2 : Nat) (x0 : Int32) (k0 : ClassId) (a3 : Nat) (a4 : Nat) (a5 : Nat) (a6 : Nat) (a7 : Nat) (a8 : Nat) : ka_R l D F yX0_lessonAt wsX0_lessonAt 1 20 [.ref a0, .int 0] [(a0, .inr (0, [.ref a1, .ref a2, .int x0])), (a1, .inl (k0, 6, .inr (.inr (.inr (.inr (va_up (va_up (va_up (va_up (va_up (va_up (fun _ => none) 0 (some a3)) 1 (some a4)) 2 (some a5)) 3 (some a6)) 4 (some a7)) 5 (some a8)))))))] [(k0, .object RX2)] (fun v => v = some (.ref a3)) := by
  refine ka_R_of (cc := cX0_lessonAt) (maxL := 2) (ret := (some (.object "AskedBack$Lesson"))) (by decide) rfl (Nat.le_of_ble_eq_true rfl) ?_
  intro p e s m below meth c ls C hr hlk hP hK hE hN hl
  have hS : va_S (fun _ => False) s.heap s.heap [] := va_S.rf
  have C : CallFix p m c cX0_lessonAt 2 s [.ref a0, .int 0].toArray wsX0_lessonAt RX0 := C
  obtain ⟨hx, hb, hml, hown, hts⟩ := id C
  have hl : lv_has ls 2 [(0, .ref a0), (1, .int 0)] := hl
  have rx0 := ka_rng x0
  refine lv_iload_n hx hb dX0_lessonAt_0 rfl (lv_at hl 1 rfl) ?_
  refine ka_RS (n := 1) C (cg_X0_isLesson_22 l D F ) gX0_lessonAt_X0_isLesson rfl (by decide +kernel) ⟨Nat.le_of_ble_eq_true rfl, Nat.le_of_ble_eq_true rfl⟩ hK hP hS hE hN [] rfl [] rfl rfl hl.1 (rest := []) rfl (Nat.le_of_ble_eq_true rfl) dX0_lessonAt_1 ⟨Nat.le_of_ble_eq_true rfl, Nat.le_of_ble_eq_true rfl⟩ (fun v hv => ?_)
  subst hv
  refine ka_stk (w := [.int 1]) rfl ?_
  refine lv_if_eq (tgt := 16) hx hb dX0_lessonAt_4 (by decide) (fun c_ => absurd c_ (by decide)) (fun _ => ?_)
  refine lv_aload_n hx hb dX0_lessonAt_7 rfl (lv_at hl 0 rfl) ?_
  refine ka_get C lq_143 rfl hK hP 0 rfl 0 (by decide) lq_144 rfl dX0_lessonAt_8 ?_
  refine lv_iload_n hx hb dX0_lessonAt_11 rfl (lv_at hl 1 rfl) ?_
  refine va_aldq hx hb hK hP 1 0 rfl rfl (ka_in (by decide) (by decide)) dX0_lessonAt_12 ?_
  refine ka_top (w := .ref a3) rfl ?_
  refine lv_goto (tgt := 17) hx hb dX0_lessonAt_13 (by decide) ?_
  exact ka_rRa C hr hlk (Or.inl ⟨_, rfl⟩) (Or.inr ⟨_, rfl⟩) rfl dX0_lessonAt_17
set_option maxHeartbeats 4000000 in
set_option maxRecDepth 100000 in
theorem cg_X0_isDone_146 (l : Launch) (D : va_G) (F : Nat → Prop) (a0 : Nat) (a1 : Nat) (a2 : Nat) (x0 : Int32) : ka_R l D F yX0_isDone wsX0_isDone 1 21 [.ref a0, .int 0] [(a0, .inr (0, [.ref a1, .ref a2, .int x0]))] [] (fun v => ∃ x : Int32, v = some (.int x) ∧ 0 ≤ x.toInt ∧ x.toInt ≤ 1) := by
  refine ka_R_of (cc := cX0_isDone) (maxL := 2) (ret := (some .boolean)) (by decide) rfl (Nat.le_of_ble_eq_true rfl) ?_
  intro p e s m below meth c ls C hr hlk hP hK hE hN hl
  have hS : va_S (fun _ => False) s.heap s.heap [] := va_S.rf
  have C : CallFix p m c cX0_isDone 2 s [.ref a0, .int 0].toArray wsX0_isDone RX0 := C
  obtain ⟨hx, hb, hml, hown, hts⟩ := id C
  have hl : lv_has ls 2 [(0, .ref a0), (1, .int 0)] := hl
  have rx0 := ka_rng x0
  refine lv_iload_n hx hb dX0_isDone_0 rfl (lv_at hl 1 rfl) ?_
  refine ka_RS (n := 1) C (cg_X0_isLesson_22 l D F ) gX0_isDone_X0_isLesson rfl (by decide +kernel) ⟨Nat.le_of_ble_eq_true rfl, Nat.le_of_ble_eq_true rfl⟩ hK hP hS hE hN [] rfl [] rfl rfl hl.1 (rest := []) rfl (Nat.le_of_ble_eq_true rfl) dX0_isDone_1 ⟨Nat.le_of_ble_eq_true rfl, Nat.le_of_ble_eq_true rfl⟩ (fun v hv => ?_)
  subst hv
  refine ka_stk (w := [.int 1]) rfl ?_
  refine lv_if_eq (tgt := 23) hx hb dX0_isDone_4 (by decide) (fun c_ => absurd c_ (by decide)) (fun _ => ?_)
  refine lv_aload_n hx hb dX0_isDone_7 rfl (lv_at hl 0 rfl) ?_
  refine ka_get C lq_62 rfl hK hP 0 rfl 2 (by decide) lq_63 rfl dX0_isDone_8 ?_
  refine lv_iload_n hx hb dX0_isDone_11 rfl (lv_at hl 1 rfl) ?_
  refine ka_RN (n := 2) C (ka_c_bitAt l D F x0 0) gX0_isDone_X6_bitAt_n30 rfl hN.2.2.2.1 lq_64 lq_65 (by decide +kernel) ⟨Nat.le_of_ble_eq_true rfl, Nat.le_of_ble_eq_true rfl⟩ hK hP hS hE hN [] rfl [] rfl rfl hl.1 (rest := []) rfl (Nat.le_of_ble_eq_true rfl) dX0_isDone_12 ⟨Nat.le_of_ble_eq_true rfl, Nat.le_of_ble_eq_true rfl⟩ (fun v hv => ?_)
  subst hv
  refine ka_stk (w := .int (ka_bit x0 0) :: []) rfl ?_
  refine lv_topi (fun v_17996 ev_17996 => ?_)
  have fv_17996 := ka_bit_in x0 0; rw [← ev_17996] at fv_17996
  refine lv_iconst (v := 1) hx hb dX0_isDone_15 (by decide) ?_
  refine lv_icmp_ne (tgt := 23) hx hb dX0_isDone_16 (by decide) (fun c_17997 => ?_) (fun c_17997 => ?_)
  · have c_17997 : ¬ v_17996.toInt = 1 := by rw [ka_eq', show ((1 : Int32)).toInt = 1 from by decide] at c_17997; exact c_17997
    refine lv_iconst (v := 0) hx hb dX0_isDone_23 (by decide) ?_
    exact ka_rRz C hr hlk rfl ⟨_, rfl, ⟨by decide, by decide⟩⟩ dX0_isDone_24
  · have c_17997 : v_17996.toInt = 1 := by rw [ka_eq', show ((1 : Int32)).toInt = 1 from by decide] at c_17997; exact c_17997
    refine lv_iconst (v := 1) hx hb dX0_isDone_19 (by decide) ?_
    refine lv_goto (tgt := 24) hx hb dX0_isDone_20 (by decide) ?_
    exact ka_rRz C hr hlk rfl ⟨_, rfl, ⟨by decide, by decide⟩⟩ dX0_isDone_24
set_option maxHeartbeats 4000000 in
set_option maxRecDepth 100000 in
theorem cg_X0_lessonAt_147 (l : Launch) (D : va_G) (F : Nat → Prop) (a0 : Nat) (a1 : Nat) (a2 : Nat) (x0 : Int32) (k0 : ClassId) (a3 : Nat) (a4 : Nat) (a5 : Nat) (a6 : Nat) (a7 : Nat) (a8 : Nat) : ka_R l D F yX0_lessonAt wsX0_lessonAt 1 20 [.ref a0, .int 1] [(a0, .inr (0, [.ref a1, .ref a2, .int x0])), (a1, .inl (k0, 6, .inr (.inr (.inr (.inr (va_up (va_up (va_up (va_up (va_up (va_up (fun _ => none) 0 (some a3)) 1 (some a4)) 2 (some a5)) 3 (some a6)) 4 (some a7)) 5 (some a8)))))))] [(k0, .object RX2)] (fun v => v = some (.ref a4)) := by
  refine ka_R_of (cc := cX0_lessonAt) (maxL := 2) (ret := (some (.object "AskedBack$Lesson"))) (by decide) rfl (Nat.le_of_ble_eq_true rfl) ?_
  intro p e s m below meth c ls C hr hlk hP hK hE hN hl
  have hS : va_S (fun _ => False) s.heap s.heap [] := va_S.rf
  have C : CallFix p m c cX0_lessonAt 2 s [.ref a0, .int 1].toArray wsX0_lessonAt RX0 := C
  obtain ⟨hx, hb, hml, hown, hts⟩ := id C
  have hl : lv_has ls 2 [(0, .ref a0), (1, .int 1)] := hl
  have rx0 := ka_rng x0
  refine lv_iload_n hx hb dX0_lessonAt_0 rfl (lv_at hl 1 rfl) ?_
  refine ka_RS (n := 1) C (cg_X0_isLesson_23 l D F ) gX0_lessonAt_X0_isLesson rfl (by decide +kernel) ⟨Nat.le_of_ble_eq_true rfl, Nat.le_of_ble_eq_true rfl⟩ hK hP hS hE hN [] rfl [] rfl rfl hl.1 (rest := []) rfl (Nat.le_of_ble_eq_true rfl) dX0_lessonAt_1 ⟨Nat.le_of_ble_eq_true rfl, Nat.le_of_ble_eq_true rfl⟩ (fun v hv => ?_)
  subst hv
  refine ka_stk (w := [.int 1]) rfl ?_
  refine lv_if_eq (tgt := 16) hx hb dX0_lessonAt_4 (by decide) (fun c_ => absurd c_ (by decide)) (fun _ => ?_)
  refine lv_aload_n hx hb dX0_lessonAt_7 rfl (lv_at hl 0 rfl) ?_
  refine ka_get C lq_143 rfl hK hP 0 rfl 0 (by decide) lq_144 rfl dX0_lessonAt_8 ?_
  refine lv_iload_n hx hb dX0_lessonAt_11 rfl (lv_at hl 1 rfl) ?_
  refine va_aldq hx hb hK hP 1 0 rfl rfl (ka_in (by decide) (by decide)) dX0_lessonAt_12 ?_
  refine ka_top (w := .ref a4) rfl ?_
  refine lv_goto (tgt := 17) hx hb dX0_lessonAt_13 (by decide) ?_
  exact ka_rRa C hr hlk (Or.inl ⟨_, rfl⟩) (Or.inr ⟨_, rfl⟩) rfl dX0_lessonAt_17
set_option maxHeartbeats 4000000 in
set_option maxRecDepth 100000 in
theorem cg_X0_isDone_148 (l : Launch) (D : va_G) (F : Nat → Prop) (a0 : Nat) (a1 : Nat) (a2 : Nat) (x0 : Int32) : ka_R l D F yX0_isDone wsX0_isDone 1 21 [.ref a0, .int 1] [(a0, .inr (0, [.ref a1, .ref a2, .int x0]))] [] (fun v => ∃ x : Int32, v = some (.int x) ∧ 0 ≤ x.toInt ∧ x.toInt ≤ 1) := by
  refine ka_R_of (cc := cX0_isDone) (maxL := 2) (ret := (some .boolean)) (by decide) rfl (Nat.le_of_ble_eq_true rfl) ?_
  intro p e s m below meth c ls C hr hlk hP hK hE hN hl
  have hS : va_S (fun _ => False) s.heap s.heap [] := va_S.rf
  have C : CallFix p m c cX0_isDone 2 s [.ref a0, .int 1].toArray wsX0_isDone RX0 := C
  obtain ⟨hx, hb, hml, hown, hts⟩ := id C
  have hl : lv_has ls 2 [(0, .ref a0), (1, .int 1)] := hl
  have rx0 := ka_rng x0
  refine lv_iload_n hx hb dX0_isDone_0 rfl (lv_at hl 1 rfl) ?_
  refine ka_RS (n := 1) C (cg_X0_isLesson_23 l D F ) gX0_isDone_X0_isLesson rfl (by decide +kernel) ⟨Nat.le_of_ble_eq_true rfl, Nat.le_of_ble_eq_true rfl⟩ hK hP hS hE hN [] rfl [] rfl rfl hl.1 (rest := []) rfl (Nat.le_of_ble_eq_true rfl) dX0_isDone_1 ⟨Nat.le_of_ble_eq_true rfl, Nat.le_of_ble_eq_true rfl⟩ (fun v hv => ?_)
  subst hv
  refine ka_stk (w := [.int 1]) rfl ?_
  refine lv_if_eq (tgt := 23) hx hb dX0_isDone_4 (by decide) (fun c_ => absurd c_ (by decide)) (fun _ => ?_)
  refine lv_aload_n hx hb dX0_isDone_7 rfl (lv_at hl 0 rfl) ?_
  refine ka_get C lq_62 rfl hK hP 0 rfl 2 (by decide) lq_63 rfl dX0_isDone_8 ?_
  refine lv_iload_n hx hb dX0_isDone_11 rfl (lv_at hl 1 rfl) ?_
  refine ka_RN (n := 2) C (ka_c_bitAt l D F x0 1) gX0_isDone_X6_bitAt_n30 rfl hN.2.2.2.1 lq_64 lq_65 (by decide +kernel) ⟨Nat.le_of_ble_eq_true rfl, Nat.le_of_ble_eq_true rfl⟩ hK hP hS hE hN [] rfl [] rfl rfl hl.1 (rest := []) rfl (Nat.le_of_ble_eq_true rfl) dX0_isDone_12 ⟨Nat.le_of_ble_eq_true rfl, Nat.le_of_ble_eq_true rfl⟩ (fun v hv => ?_)
  subst hv
  refine ka_stk (w := .int (ka_bit x0 1) :: []) rfl ?_
  refine lv_topi (fun v_18083 ev_18083 => ?_)
  have fv_18083 := ka_bit_in x0 1; rw [← ev_18083] at fv_18083
  refine lv_iconst (v := 1) hx hb dX0_isDone_15 (by decide) ?_
  refine lv_icmp_ne (tgt := 23) hx hb dX0_isDone_16 (by decide) (fun c_18084 => ?_) (fun c_18084 => ?_)
  · have c_18084 : ¬ v_18083.toInt = 1 := by rw [ka_eq', show ((1 : Int32)).toInt = 1 from by decide] at c_18084; exact c_18084
    refine lv_iconst (v := 0) hx hb dX0_isDone_23 (by decide) ?_
    exact ka_rRz C hr hlk rfl ⟨_, rfl, ⟨by decide, by decide⟩⟩ dX0_isDone_24
  · have c_18084 : v_18083.toInt = 1 := by rw [ka_eq', show ((1 : Int32)).toInt = 1 from by decide] at c_18084; exact c_18084
    refine lv_iconst (v := 1) hx hb dX0_isDone_19 (by decide) ?_
    refine lv_goto (tgt := 24) hx hb dX0_isDone_20 (by decide) ?_
    exact ka_rRz C hr hlk rfl ⟨_, rfl, ⟨by decide, by decide⟩⟩ dX0_isDone_24
set_option maxHeartbeats 4000000 in
set_option maxRecDepth 100000 in
theorem cg_X0_lessonAt_149 (l : Launch) (D : va_G) (F : Nat → Prop) (a0 : Nat) (a1 : Nat) (a2 : Nat) (x0 : Int32) (k0 : ClassId) (a3 : Nat) (a4 : Nat) (a5 : Nat) (a6 : Nat) (a7 : Nat) (a8 : Nat) : ka_R l D F yX0_lessonAt wsX0_lessonAt 1 20 [.ref a0, .int 2] [(a0, .inr (0, [.ref a1, .ref a2, .int x0])), (a1, .inl (k0, 6, .inr (.inr (.inr (.inr (va_up (va_up (va_up (va_up (va_up (va_up (fun _ => none) 0 (some a3)) 1 (some a4)) 2 (some a5)) 3 (some a6)) 4 (some a7)) 5 (some a8)))))))] [(k0, .object RX2)] (fun v => v = some (.ref a5)) := by
  refine ka_R_of (cc := cX0_lessonAt) (maxL := 2) (ret := (some (.object "AskedBack$Lesson"))) (by decide) rfl (Nat.le_of_ble_eq_true rfl) ?_
  intro p e s m below meth c ls C hr hlk hP hK hE hN hl
  have hS : va_S (fun _ => False) s.heap s.heap [] := va_S.rf
  have C : CallFix p m c cX0_lessonAt 2 s [.ref a0, .int 2].toArray wsX0_lessonAt RX0 := C
  obtain ⟨hx, hb, hml, hown, hts⟩ := id C
  have hl : lv_has ls 2 [(0, .ref a0), (1, .int 2)] := hl
  have rx0 := ka_rng x0
  refine lv_iload_n hx hb dX0_lessonAt_0 rfl (lv_at hl 1 rfl) ?_
  refine ka_RS (n := 1) C (cg_X0_isLesson_24 l D F ) gX0_lessonAt_X0_isLesson rfl (by decide +kernel) ⟨Nat.le_of_ble_eq_true rfl, Nat.le_of_ble_eq_true rfl⟩ hK hP hS hE hN [] rfl [] rfl rfl hl.1 (rest := []) rfl (Nat.le_of_ble_eq_true rfl) dX0_lessonAt_1 ⟨Nat.le_of_ble_eq_true rfl, Nat.le_of_ble_eq_true rfl⟩ (fun v hv => ?_)
  subst hv
  refine ka_stk (w := [.int 1]) rfl ?_
  refine lv_if_eq (tgt := 16) hx hb dX0_lessonAt_4 (by decide) (fun c_ => absurd c_ (by decide)) (fun _ => ?_)
  refine lv_aload_n hx hb dX0_lessonAt_7 rfl (lv_at hl 0 rfl) ?_
  refine ka_get C lq_143 rfl hK hP 0 rfl 0 (by decide) lq_144 rfl dX0_lessonAt_8 ?_
  refine lv_iload_n hx hb dX0_lessonAt_11 rfl (lv_at hl 1 rfl) ?_
  refine va_aldq hx hb hK hP 1 0 rfl rfl (ka_in (by decide) (by decide)) dX0_lessonAt_12 ?_
  refine ka_top (w := .ref a5) rfl ?_
  refine lv_goto (tgt := 17) hx hb dX0_lessonAt_13 (by decide) ?_
  exact ka_rRa C hr hlk (Or.inl ⟨_, rfl⟩) (Or.inr ⟨_, rfl⟩) rfl dX0_lessonAt_17
set_option maxHeartbeats 4000000 in
set_option maxRecDepth 100000 in
theorem cg_X0_isDone_150 (l : Launch) (D : va_G) (F : Nat → Prop) (a0 : Nat) (a1 : Nat) (a2 : Nat) (x0 : Int32) : ka_R l D F yX0_isDone wsX0_isDone 1 21 [.ref a0, .int 2] [(a0, .inr (0, [.ref a1, .ref a2, .int x0]))] [] (fun v => ∃ x : Int32, v = some (.int x) ∧ 0 ≤ x.toInt ∧ x.toInt ≤ 1) := by
  refine ka_R_of (cc := cX0_isDone) (maxL := 2) (ret := (some .boolean)) (by decide) rfl (Nat.le_of_ble_eq_true rfl) ?_
  intro p e s m below meth c ls C hr hlk hP hK hE hN hl
  have hS : va_S (fun _ => False) s.heap s.heap [] := va_S.rf
  have C : CallFix p m c cX0_isDone 2 s [.ref a0, .int 2].toArray wsX0_isDone RX0 := C
  obtain ⟨hx, hb, hml, hown, hts⟩ := id C
  have hl : lv_has ls 2 [(0, .ref a0), (1, .int 2)] := hl
  have rx0 := ka_rng x0
  refine lv_iload_n hx hb dX0_isDone_0 rfl (lv_at hl 1 rfl) ?_
  refine ka_RS (n := 1) C (cg_X0_isLesson_24 l D F ) gX0_isDone_X0_isLesson rfl (by decide +kernel) ⟨Nat.le_of_ble_eq_true rfl, Nat.le_of_ble_eq_true rfl⟩ hK hP hS hE hN [] rfl [] rfl rfl hl.1 (rest := []) rfl (Nat.le_of_ble_eq_true rfl) dX0_isDone_1 ⟨Nat.le_of_ble_eq_true rfl, Nat.le_of_ble_eq_true rfl⟩ (fun v hv => ?_)
  subst hv
  refine ka_stk (w := [.int 1]) rfl ?_
  refine lv_if_eq (tgt := 23) hx hb dX0_isDone_4 (by decide) (fun c_ => absurd c_ (by decide)) (fun _ => ?_)
  refine lv_aload_n hx hb dX0_isDone_7 rfl (lv_at hl 0 rfl) ?_
  refine ka_get C lq_62 rfl hK hP 0 rfl 2 (by decide) lq_63 rfl dX0_isDone_8 ?_
  refine lv_iload_n hx hb dX0_isDone_11 rfl (lv_at hl 1 rfl) ?_
  refine ka_RN (n := 2) C (ka_c_bitAt l D F x0 2) gX0_isDone_X6_bitAt_n30 rfl hN.2.2.2.1 lq_64 lq_65 (by decide +kernel) ⟨Nat.le_of_ble_eq_true rfl, Nat.le_of_ble_eq_true rfl⟩ hK hP hS hE hN [] rfl [] rfl rfl hl.1 (rest := []) rfl (Nat.le_of_ble_eq_true rfl) dX0_isDone_12 ⟨Nat.le_of_ble_eq_true rfl, Nat.le_of_ble_eq_true rfl⟩ (fun v hv => ?_)
  subst hv
  refine ka_stk (w := .int (ka_bit x0 2) :: []) rfl ?_
  refine lv_topi (fun v_18170 ev_18170 => ?_)
  have fv_18170 := ka_bit_in x0 2; rw [← ev_18170] at fv_18170
  refine lv_iconst (v := 1) hx hb dX0_isDone_15 (by decide) ?_
  refine lv_icmp_ne (tgt := 23) hx hb dX0_isDone_16 (by decide) (fun c_18171 => ?_) (fun c_18171 => ?_)
  · have c_18171 : ¬ v_18170.toInt = 1 := by rw [ka_eq', show ((1 : Int32)).toInt = 1 from by decide] at c_18171; exact c_18171
    refine lv_iconst (v := 0) hx hb dX0_isDone_23 (by decide) ?_
    exact ka_rRz C hr hlk rfl ⟨_, rfl, ⟨by decide, by decide⟩⟩ dX0_isDone_24
  · have c_18171 : v_18170.toInt = 1 := by rw [ka_eq', show ((1 : Int32)).toInt = 1 from by decide] at c_18171; exact c_18171
    refine lv_iconst (v := 1) hx hb dX0_isDone_19 (by decide) ?_
    refine lv_goto (tgt := 24) hx hb dX0_isDone_20 (by decide) ?_
    exact ka_rRz C hr hlk rfl ⟨_, rfl, ⟨by decide, by decide⟩⟩ dX0_isDone_24
set_option maxHeartbeats 4000000 in
set_option maxRecDepth 100000 in
theorem cg_X0_lessonAt_151 (l : Launch) (D : va_G) (F : Nat → Prop) (a0 : Nat) (a1 : Nat) (a2 : Nat) (x0 : Int32) (k0 : ClassId) (a3 : Nat) (a4 : Nat) (a5 : Nat) (a6 : Nat) (a7 : Nat) (a8 : Nat) : ka_R l D F yX0_lessonAt wsX0_lessonAt 1 20 [.ref a0, .int 3] [(a0, .inr (0, [.ref a1, .ref a2, .int x0])), (a1, .inl (k0, 6, .inr (.inr (.inr (.inr (va_up (va_up (va_up (va_up (va_up (va_up (fun _ => none) 0 (some a3)) 1 (some a4)) 2 (some a5)) 3 (some a6)) 4 (some a7)) 5 (some a8)))))))] [(k0, .object RX2)] (fun v => v = some (.ref a6)) := by
  refine ka_R_of (cc := cX0_lessonAt) (maxL := 2) (ret := (some (.object "AskedBack$Lesson"))) (by decide) rfl (Nat.le_of_ble_eq_true rfl) ?_
  intro p e s m below meth c ls C hr hlk hP hK hE hN hl
  have hS : va_S (fun _ => False) s.heap s.heap [] := va_S.rf
  have C : CallFix p m c cX0_lessonAt 2 s [.ref a0, .int 3].toArray wsX0_lessonAt RX0 := C
  obtain ⟨hx, hb, hml, hown, hts⟩ := id C
  have hl : lv_has ls 2 [(0, .ref a0), (1, .int 3)] := hl
  have rx0 := ka_rng x0
  refine lv_iload_n hx hb dX0_lessonAt_0 rfl (lv_at hl 1 rfl) ?_
  refine ka_RS (n := 1) C (cg_X0_isLesson_25 l D F ) gX0_lessonAt_X0_isLesson rfl (by decide +kernel) ⟨Nat.le_of_ble_eq_true rfl, Nat.le_of_ble_eq_true rfl⟩ hK hP hS hE hN [] rfl [] rfl rfl hl.1 (rest := []) rfl (Nat.le_of_ble_eq_true rfl) dX0_lessonAt_1 ⟨Nat.le_of_ble_eq_true rfl, Nat.le_of_ble_eq_true rfl⟩ (fun v hv => ?_)
  subst hv
  refine ka_stk (w := [.int 1]) rfl ?_
  refine lv_if_eq (tgt := 16) hx hb dX0_lessonAt_4 (by decide) (fun c_ => absurd c_ (by decide)) (fun _ => ?_)
  refine lv_aload_n hx hb dX0_lessonAt_7 rfl (lv_at hl 0 rfl) ?_
  refine ka_get C lq_143 rfl hK hP 0 rfl 0 (by decide) lq_144 rfl dX0_lessonAt_8 ?_
  refine lv_iload_n hx hb dX0_lessonAt_11 rfl (lv_at hl 1 rfl) ?_
  refine va_aldq hx hb hK hP 1 0 rfl rfl (ka_in (by decide) (by decide)) dX0_lessonAt_12 ?_
  refine ka_top (w := .ref a6) rfl ?_
  refine lv_goto (tgt := 17) hx hb dX0_lessonAt_13 (by decide) ?_
  exact ka_rRa C hr hlk (Or.inl ⟨_, rfl⟩) (Or.inr ⟨_, rfl⟩) rfl dX0_lessonAt_17
set_option maxHeartbeats 4000000 in
set_option maxRecDepth 100000 in
theorem cg_X0_isDone_152 (l : Launch) (D : va_G) (F : Nat → Prop) (a0 : Nat) (a1 : Nat) (a2 : Nat) (x0 : Int32) : ka_R l D F yX0_isDone wsX0_isDone 1 21 [.ref a0, .int 3] [(a0, .inr (0, [.ref a1, .ref a2, .int x0]))] [] (fun v => ∃ x : Int32, v = some (.int x) ∧ 0 ≤ x.toInt ∧ x.toInt ≤ 1) := by
  refine ka_R_of (cc := cX0_isDone) (maxL := 2) (ret := (some .boolean)) (by decide) rfl (Nat.le_of_ble_eq_true rfl) ?_
  intro p e s m below meth c ls C hr hlk hP hK hE hN hl
  have hS : va_S (fun _ => False) s.heap s.heap [] := va_S.rf
  have C : CallFix p m c cX0_isDone 2 s [.ref a0, .int 3].toArray wsX0_isDone RX0 := C
  obtain ⟨hx, hb, hml, hown, hts⟩ := id C
  have hl : lv_has ls 2 [(0, .ref a0), (1, .int 3)] := hl
  have rx0 := ka_rng x0
  refine lv_iload_n hx hb dX0_isDone_0 rfl (lv_at hl 1 rfl) ?_
  refine ka_RS (n := 1) C (cg_X0_isLesson_25 l D F ) gX0_isDone_X0_isLesson rfl (by decide +kernel) ⟨Nat.le_of_ble_eq_true rfl, Nat.le_of_ble_eq_true rfl⟩ hK hP hS hE hN [] rfl [] rfl rfl hl.1 (rest := []) rfl (Nat.le_of_ble_eq_true rfl) dX0_isDone_1 ⟨Nat.le_of_ble_eq_true rfl, Nat.le_of_ble_eq_true rfl⟩ (fun v hv => ?_)
  subst hv
  refine ka_stk (w := [.int 1]) rfl ?_
  refine lv_if_eq (tgt := 23) hx hb dX0_isDone_4 (by decide) (fun c_ => absurd c_ (by decide)) (fun _ => ?_)
  refine lv_aload_n hx hb dX0_isDone_7 rfl (lv_at hl 0 rfl) ?_
  refine ka_get C lq_62 rfl hK hP 0 rfl 2 (by decide) lq_63 rfl dX0_isDone_8 ?_
  refine lv_iload_n hx hb dX0_isDone_11 rfl (lv_at hl 1 rfl) ?_
  refine ka_RN (n := 2) C (ka_c_bitAt l D F x0 3) gX0_isDone_X6_bitAt_n30 rfl hN.2.2.2.1 lq_64 lq_65 (by decide +kernel) ⟨Nat.le_of_ble_eq_true rfl, Nat.le_of_ble_eq_true rfl⟩ hK hP hS hE hN [] rfl [] rfl rfl hl.1 (rest := []) rfl (Nat.le_of_ble_eq_true rfl) dX0_isDone_12 ⟨Nat.le_of_ble_eq_true rfl, Nat.le_of_ble_eq_true rfl⟩ (fun v hv => ?_)
  subst hv
  refine ka_stk (w := .int (ka_bit x0 3) :: []) rfl ?_
  refine lv_topi (fun v_18257 ev_18257 => ?_)
  have fv_18257 := ka_bit_in x0 3; rw [← ev_18257] at fv_18257
  refine lv_iconst (v := 1) hx hb dX0_isDone_15 (by decide) ?_
  refine lv_icmp_ne (tgt := 23) hx hb dX0_isDone_16 (by decide) (fun c_18258 => ?_) (fun c_18258 => ?_)
  · have c_18258 : ¬ v_18257.toInt = 1 := by rw [ka_eq', show ((1 : Int32)).toInt = 1 from by decide] at c_18258; exact c_18258
    refine lv_iconst (v := 0) hx hb dX0_isDone_23 (by decide) ?_
    exact ka_rRz C hr hlk rfl ⟨_, rfl, ⟨by decide, by decide⟩⟩ dX0_isDone_24
  · have c_18258 : v_18257.toInt = 1 := by rw [ka_eq', show ((1 : Int32)).toInt = 1 from by decide] at c_18258; exact c_18258
    refine lv_iconst (v := 1) hx hb dX0_isDone_19 (by decide) ?_
    refine lv_goto (tgt := 24) hx hb dX0_isDone_20 (by decide) ?_
    exact ka_rRz C hr hlk rfl ⟨_, rfl, ⟨by decide, by decide⟩⟩ dX0_isDone_24
set_option maxHeartbeats 4000000 in
set_option maxRecDepth 100000 in
theorem cg_X0_lessonAt_153 (l : Launch) (D : va_G) (F : Nat → Prop) (a0 : Nat) (a1 : Nat) (a2 : Nat) (x0 : Int32) (k0 : ClassId) (a3 : Nat) (a4 : Nat) (a5 : Nat) (a6 : Nat) (a7 : Nat) (a8 : Nat) : ka_R l D F yX0_lessonAt wsX0_lessonAt 1 20 [.ref a0, .int 4] [(a0, .inr (0, [.ref a1, .ref a2, .int x0])), (a1, .inl (k0, 6, .inr (.inr (.inr (.inr (va_up (va_up (va_up (va_up (va_up (va_up (fun _ => none) 0 (some a3)) 1 (some a4)) 2 (some a5)) 3 (some a6)) 4 (some a7)) 5 (some a8)))))))] [(k0, .object RX2)] (fun v => v = some (.ref a7)) := by
  refine ka_R_of (cc := cX0_lessonAt) (maxL := 2) (ret := (some (.object "AskedBack$Lesson"))) (by decide) rfl (Nat.le_of_ble_eq_true rfl) ?_
  intro p e s m below meth c ls C hr hlk hP hK hE hN hl
  have hS : va_S (fun _ => False) s.heap s.heap [] := va_S.rf
  have C : CallFix p m c cX0_lessonAt 2 s [.ref a0, .int 4].toArray wsX0_lessonAt RX0 := C
  obtain ⟨hx, hb, hml, hown, hts⟩ := id C
  have hl : lv_has ls 2 [(0, .ref a0), (1, .int 4)] := hl
  have rx0 := ka_rng x0
  refine lv_iload_n hx hb dX0_lessonAt_0 rfl (lv_at hl 1 rfl) ?_
  refine ka_RS (n := 1) C (cg_X0_isLesson_26 l D F ) gX0_lessonAt_X0_isLesson rfl (by decide +kernel) ⟨Nat.le_of_ble_eq_true rfl, Nat.le_of_ble_eq_true rfl⟩ hK hP hS hE hN [] rfl [] rfl rfl hl.1 (rest := []) rfl (Nat.le_of_ble_eq_true rfl) dX0_lessonAt_1 ⟨Nat.le_of_ble_eq_true rfl, Nat.le_of_ble_eq_true rfl⟩ (fun v hv => ?_)
  subst hv
  refine ka_stk (w := [.int 1]) rfl ?_
  refine lv_if_eq (tgt := 16) hx hb dX0_lessonAt_4 (by decide) (fun c_ => absurd c_ (by decide)) (fun _ => ?_)
  refine lv_aload_n hx hb dX0_lessonAt_7 rfl (lv_at hl 0 rfl) ?_
  refine ka_get C lq_143 rfl hK hP 0 rfl 0 (by decide) lq_144 rfl dX0_lessonAt_8 ?_
  refine lv_iload_n hx hb dX0_lessonAt_11 rfl (lv_at hl 1 rfl) ?_
  refine va_aldq hx hb hK hP 1 0 rfl rfl (ka_in (by decide) (by decide)) dX0_lessonAt_12 ?_
  refine ka_top (w := .ref a7) rfl ?_
  refine lv_goto (tgt := 17) hx hb dX0_lessonAt_13 (by decide) ?_
  exact ka_rRa C hr hlk (Or.inl ⟨_, rfl⟩) (Or.inr ⟨_, rfl⟩) rfl dX0_lessonAt_17
set_option maxHeartbeats 4000000 in
set_option maxRecDepth 100000 in
theorem cg_X0_isDone_154 (l : Launch) (D : va_G) (F : Nat → Prop) (a0 : Nat) (a1 : Nat) (a2 : Nat) (x0 : Int32) : ka_R l D F yX0_isDone wsX0_isDone 1 21 [.ref a0, .int 4] [(a0, .inr (0, [.ref a1, .ref a2, .int x0]))] [] (fun v => ∃ x : Int32, v = some (.int x) ∧ 0 ≤ x.toInt ∧ x.toInt ≤ 1) := by
  refine ka_R_of (cc := cX0_isDone) (maxL := 2) (ret := (some .boolean)) (by decide) rfl (Nat.le_of_ble_eq_true rfl) ?_
  intro p e s m below meth c ls C hr hlk hP hK hE hN hl
  have hS : va_S (fun _ => False) s.heap s.heap [] := va_S.rf
  have C : CallFix p m c cX0_isDone 2 s [.ref a0, .int 4].toArray wsX0_isDone RX0 := C
  obtain ⟨hx, hb, hml, hown, hts⟩ := id C
  have hl : lv_has ls 2 [(0, .ref a0), (1, .int 4)] := hl
  have rx0 := ka_rng x0
  refine lv_iload_n hx hb dX0_isDone_0 rfl (lv_at hl 1 rfl) ?_
  refine ka_RS (n := 1) C (cg_X0_isLesson_26 l D F ) gX0_isDone_X0_isLesson rfl (by decide +kernel) ⟨Nat.le_of_ble_eq_true rfl, Nat.le_of_ble_eq_true rfl⟩ hK hP hS hE hN [] rfl [] rfl rfl hl.1 (rest := []) rfl (Nat.le_of_ble_eq_true rfl) dX0_isDone_1 ⟨Nat.le_of_ble_eq_true rfl, Nat.le_of_ble_eq_true rfl⟩ (fun v hv => ?_)
  subst hv
  refine ka_stk (w := [.int 1]) rfl ?_
  refine lv_if_eq (tgt := 23) hx hb dX0_isDone_4 (by decide) (fun c_ => absurd c_ (by decide)) (fun _ => ?_)
  refine lv_aload_n hx hb dX0_isDone_7 rfl (lv_at hl 0 rfl) ?_
  refine ka_get C lq_62 rfl hK hP 0 rfl 2 (by decide) lq_63 rfl dX0_isDone_8 ?_
  refine lv_iload_n hx hb dX0_isDone_11 rfl (lv_at hl 1 rfl) ?_
  refine ka_RN (n := 2) C (ka_c_bitAt l D F x0 4) gX0_isDone_X6_bitAt_n30 rfl hN.2.2.2.1 lq_64 lq_65 (by decide +kernel) ⟨Nat.le_of_ble_eq_true rfl, Nat.le_of_ble_eq_true rfl⟩ hK hP hS hE hN [] rfl [] rfl rfl hl.1 (rest := []) rfl (Nat.le_of_ble_eq_true rfl) dX0_isDone_12 ⟨Nat.le_of_ble_eq_true rfl, Nat.le_of_ble_eq_true rfl⟩ (fun v hv => ?_)
  subst hv
  refine ka_stk (w := .int (ka_bit x0 4) :: []) rfl ?_
  refine lv_topi (fun v_18344 ev_18344 => ?_)
  have fv_18344 := ka_bit_in x0 4; rw [← ev_18344] at fv_18344
  refine lv_iconst (v := 1) hx hb dX0_isDone_15 (by decide) ?_
  refine lv_icmp_ne (tgt := 23) hx hb dX0_isDone_16 (by decide) (fun c_18345 => ?_) (fun c_18345 => ?_)
  · have c_18345 : ¬ v_18344.toInt = 1 := by rw [ka_eq', show ((1 : Int32)).toInt = 1 from by decide] at c_18345; exact c_18345
    refine lv_iconst (v := 0) hx hb dX0_isDone_23 (by decide) ?_
    exact ka_rRz C hr hlk rfl ⟨_, rfl, ⟨by decide, by decide⟩⟩ dX0_isDone_24
  · have c_18345 : v_18344.toInt = 1 := by rw [ka_eq', show ((1 : Int32)).toInt = 1 from by decide] at c_18345; exact c_18345
    refine lv_iconst (v := 1) hx hb dX0_isDone_19 (by decide) ?_
    refine lv_goto (tgt := 24) hx hb dX0_isDone_20 (by decide) ?_
    exact ka_rRz C hr hlk rfl ⟨_, rfl, ⟨by decide, by decide⟩⟩ dX0_isDone_24
set_option maxHeartbeats 4000000 in
set_option maxRecDepth 100000 in
theorem cg_X0_lessonAt_155 (l : Launch) (D : va_G) (F : Nat → Prop) (a0 : Nat) (a1 : Nat) (a2 : Nat) (x0 : Int32) (k0 : ClassId) (a3 : Nat) (a4 : Nat) (a5 : Nat) (a6 : Nat) (a7 : Nat) (a8 : Nat) : ka_R l D F yX0_lessonAt wsX0_lessonAt 1 20 [.ref a0, .int 5] [(a0, .inr (0, [.ref a1, .ref a2, .int x0])), (a1, .inl (k0, 6, .inr (.inr (.inr (.inr (va_up (va_up (va_up (va_up (va_up (va_up (fun _ => none) 0 (some a3)) 1 (some a4)) 2 (some a5)) 3 (some a6)) 4 (some a7)) 5 (some a8)))))))] [(k0, .object RX2)] (fun v => v = some (.ref a8)) := by
  refine ka_R_of (cc := cX0_lessonAt) (maxL := 2) (ret := (some (.object "AskedBack$Lesson"))) (by decide) rfl (Nat.le_of_ble_eq_true rfl) ?_
  intro p e s m below meth c ls C hr hlk hP hK hE hN hl
  have hS : va_S (fun _ => False) s.heap s.heap [] := va_S.rf
  have C : CallFix p m c cX0_lessonAt 2 s [.ref a0, .int 5].toArray wsX0_lessonAt RX0 := C
  obtain ⟨hx, hb, hml, hown, hts⟩ := id C
  have hl : lv_has ls 2 [(0, .ref a0), (1, .int 5)] := hl
  have rx0 := ka_rng x0
  refine lv_iload_n hx hb dX0_lessonAt_0 rfl (lv_at hl 1 rfl) ?_
  refine ka_RS (n := 1) C (cg_X0_isLesson_27 l D F ) gX0_lessonAt_X0_isLesson rfl (by decide +kernel) ⟨Nat.le_of_ble_eq_true rfl, Nat.le_of_ble_eq_true rfl⟩ hK hP hS hE hN [] rfl [] rfl rfl hl.1 (rest := []) rfl (Nat.le_of_ble_eq_true rfl) dX0_lessonAt_1 ⟨Nat.le_of_ble_eq_true rfl, Nat.le_of_ble_eq_true rfl⟩ (fun v hv => ?_)
  subst hv
  refine ka_stk (w := [.int 1]) rfl ?_
  refine lv_if_eq (tgt := 16) hx hb dX0_lessonAt_4 (by decide) (fun c_ => absurd c_ (by decide)) (fun _ => ?_)
  refine lv_aload_n hx hb dX0_lessonAt_7 rfl (lv_at hl 0 rfl) ?_
  refine ka_get C lq_143 rfl hK hP 0 rfl 0 (by decide) lq_144 rfl dX0_lessonAt_8 ?_
  refine lv_iload_n hx hb dX0_lessonAt_11 rfl (lv_at hl 1 rfl) ?_
  refine va_aldq hx hb hK hP 1 0 rfl rfl (ka_in (by decide) (by decide)) dX0_lessonAt_12 ?_
  refine ka_top (w := .ref a8) rfl ?_
  refine lv_goto (tgt := 17) hx hb dX0_lessonAt_13 (by decide) ?_
  exact ka_rRa C hr hlk (Or.inl ⟨_, rfl⟩) (Or.inr ⟨_, rfl⟩) rfl dX0_lessonAt_17
set_option maxHeartbeats 4000000 in
set_option maxRecDepth 100000 in
theorem cg_X0_isDone_156 (l : Launch) (D : va_G) (F : Nat → Prop) (a0 : Nat) (a1 : Nat) (a2 : Nat) (x0 : Int32) : ka_R l D F yX0_isDone wsX0_isDone 1 21 [.ref a0, .int 5] [(a0, .inr (0, [.ref a1, .ref a2, .int x0]))] [] (fun v => ∃ x : Int32, v = some (.int x) ∧ 0 ≤ x.toInt ∧ x.toInt ≤ 1) := by
  refine ka_R_of (cc := cX0_isDone) (maxL := 2) (ret := (some .boolean)) (by decide) rfl (Nat.le_of_ble_eq_true rfl) ?_
  intro p e s m below meth c ls C hr hlk hP hK hE hN hl
  have hS : va_S (fun _ => False) s.heap s.heap [] := va_S.rf
  have C : CallFix p m c cX0_isDone 2 s [.ref a0, .int 5].toArray wsX0_isDone RX0 := C
  obtain ⟨hx, hb, hml, hown, hts⟩ := id C
  have hl : lv_has ls 2 [(0, .ref a0), (1, .int 5)] := hl
  have rx0 := ka_rng x0
  refine lv_iload_n hx hb dX0_isDone_0 rfl (lv_at hl 1 rfl) ?_
  refine ka_RS (n := 1) C (cg_X0_isLesson_27 l D F ) gX0_isDone_X0_isLesson rfl (by decide +kernel) ⟨Nat.le_of_ble_eq_true rfl, Nat.le_of_ble_eq_true rfl⟩ hK hP hS hE hN [] rfl [] rfl rfl hl.1 (rest := []) rfl (Nat.le_of_ble_eq_true rfl) dX0_isDone_1 ⟨Nat.le_of_ble_eq_true rfl, Nat.le_of_ble_eq_true rfl⟩ (fun v hv => ?_)
  subst hv
  refine ka_stk (w := [.int 1]) rfl ?_
  refine lv_if_eq (tgt := 23) hx hb dX0_isDone_4 (by decide) (fun c_ => absurd c_ (by decide)) (fun _ => ?_)
  refine lv_aload_n hx hb dX0_isDone_7 rfl (lv_at hl 0 rfl) ?_
  refine ka_get C lq_62 rfl hK hP 0 rfl 2 (by decide) lq_63 rfl dX0_isDone_8 ?_
  refine lv_iload_n hx hb dX0_isDone_11 rfl (lv_at hl 1 rfl) ?_
  refine ka_RN (n := 2) C (ka_c_bitAt l D F x0 5) gX0_isDone_X6_bitAt_n30 rfl hN.2.2.2.1 lq_64 lq_65 (by decide +kernel) ⟨Nat.le_of_ble_eq_true rfl, Nat.le_of_ble_eq_true rfl⟩ hK hP hS hE hN [] rfl [] rfl rfl hl.1 (rest := []) rfl (Nat.le_of_ble_eq_true rfl) dX0_isDone_12 ⟨Nat.le_of_ble_eq_true rfl, Nat.le_of_ble_eq_true rfl⟩ (fun v hv => ?_)
  subst hv
  refine ka_stk (w := .int (ka_bit x0 5) :: []) rfl ?_
  refine lv_topi (fun v_18431 ev_18431 => ?_)
  have fv_18431 := ka_bit_in x0 5; rw [← ev_18431] at fv_18431
  refine lv_iconst (v := 1) hx hb dX0_isDone_15 (by decide) ?_
  refine lv_icmp_ne (tgt := 23) hx hb dX0_isDone_16 (by decide) (fun c_18432 => ?_) (fun c_18432 => ?_)
  · have c_18432 : ¬ v_18431.toInt = 1 := by rw [ka_eq', show ((1 : Int32)).toInt = 1 from by decide] at c_18432; exact c_18432
    refine lv_iconst (v := 0) hx hb dX0_isDone_23 (by decide) ?_
    exact ka_rRz C hr hlk rfl ⟨_, rfl, ⟨by decide, by decide⟩⟩ dX0_isDone_24
  · have c_18432 : v_18431.toInt = 1 := by rw [ka_eq', show ((1 : Int32)).toInt = 1 from by decide] at c_18432; exact c_18432
    refine lv_iconst (v := 1) hx hb dX0_isDone_19 (by decide) ?_
    refine lv_goto (tgt := 24) hx hb dX0_isDone_20 (by decide) ?_
    exact ka_rRz C hr hlk rfl ⟨_, rfl, ⟨by decide, by decide⟩⟩ dX0_isDone_24
set_option maxHeartbeats 4000000 in
set_option maxRecDepth 100000 in
theorem cg_X0_lessonAt_157 (l : Launch) (D : va_G) (F : Nat → Prop) (a0 : Nat) (x0 : Int32) (hx0 : 6 ≤ x0.toInt) : ka_R l D F yX0_lessonAt wsX0_lessonAt 1 20 [.ref a0, .int x0] [] [] (fun v => v = some (.null)) := by
  refine ka_R_of (cc := cX0_lessonAt) (maxL := 2) (ret := (some (.object "AskedBack$Lesson"))) (by decide) rfl (Nat.le_of_ble_eq_true rfl) ?_
  intro p e s m below meth c ls C hr hlk hP hK hE hN hl
  have hS : va_S (fun _ => False) s.heap s.heap [] := va_S.rf
  have C : CallFix p m c cX0_lessonAt 2 s [.ref a0, .int x0].toArray wsX0_lessonAt RX0 := C
  obtain ⟨hx, hb, hml, hown, hts⟩ := id C
  have hl : lv_has ls 2 [(0, .ref a0), (1, .int x0)] := hl
  have rx0 := ka_rng x0
  refine lv_iload_n hx hb dX0_lessonAt_0 rfl (lv_at hl 1 rfl) ?_
  refine ka_RS (n := 1) C (cg_X0_isLesson_28 l D F x0 (by omega)) gX0_lessonAt_X0_isLesson rfl (by decide +kernel) ⟨Nat.le_of_ble_eq_true rfl, Nat.le_of_ble_eq_true rfl⟩ hK hP hS hE hN [] rfl [] rfl rfl hl.1 (rest := []) rfl (Nat.le_of_ble_eq_true rfl) dX0_lessonAt_1 ⟨Nat.le_of_ble_eq_true rfl, Nat.le_of_ble_eq_true rfl⟩ (fun v hv => ?_)
  subst hv
  refine ka_stk (w := [.int 0]) rfl ?_
  refine lv_if_eq (tgt := 16) hx hb dX0_lessonAt_4 (by decide) (fun _ => ?_) (fun c_ => absurd (by decide) c_)
  refine lv_null hx hb dX0_lessonAt_16 ?_
  exact ka_rRa C hr hlk (Or.inl ⟨_, rfl⟩) (Or.inl rfl) rfl dX0_lessonAt_17
theorem lq_145 : ∀ w ∈ wsX20, w ∈ wsX0_mayBegin := by decide +kernel
theorem lq_146 : Cond.fieldLink RX0 38 "AskedBack$Lesson" "law" "LAskedBack$Formula;" ∈ wsX0_mayBegin := by decide +kernel
theorem lq_147 : ∀ w ∈ wsX00, w ∈ wsX0_mayBegin := by decide +kernel
theorem lq_148 : Cond.fieldLink RX0 17 "AskedBack$Course" "needed" "[I" ∈ wsX0_mayBegin := by decide +kernel
theorem lq_149 : Cond.fieldLink RX0 21 "AskedBack$Course" "done" "I" ∈ wsX0_mayBegin := by decide +kernel
set_option maxHeartbeats 4000000 in
set_option maxRecDepth 100000 in
theorem cg_X0_mayBegin_158 (l : Launch) (D : va_G) (F : Nat → Prop) (a0 : Nat) (x0 : Int32) (a1 : Nat) (a2 : Nat) (x1 : Int32) (k0 : ClassId) (a3 : Nat) (a4 : Nat) (a5 : Nat) (a6 : Nat) (a7 : Nat) (a8 : Nat) (k1 : ClassId) (f0 : Nat → Int32) (a9 : Nat) (a10 : Nat) (x2 : Int32) (o0 : Option Nat) (a11 : Nat) (a12 : Nat) (x3 : Int32) (o1 : Option Nat) (a13 : Nat) (a14 : Nat) (x4 : Int32) (o2 : Option Nat) (a15 : Nat) (a16 : Nat) (x5 : Int32) (o3 : Option Nat) (a17 : Nat) (a18 : Nat) (x6 : Int32) (o4 : Option Nat) (a19 : Nat) (a20 : Nat) (x7 : Int32) (o5 : Option Nat) (hx2 : 0 ≤ x2.toInt ∧ x2.toInt ≤ 12) (ho0 : ∀ a : Nat, o0 = some a → F a) (hx3 : 0 ≤ x3.toInt ∧ x3.toInt ≤ 12) (ho1 : ∀ a : Nat, o1 = some a → F a) (hx4 : 0 ≤ x4.toInt ∧ x4.toInt ≤ 12) (ho2 : ∀ a : Nat, o2 = some a → F a) (hx5 : 0 ≤ x5.toInt ∧ x5.toInt ≤ 12) (ho3 : ∀ a : Nat, o3 = some a → F a) (hx6 : 0 ≤ x6.toInt ∧ x6.toInt ≤ 12) (ho4 : ∀ a : Nat, o4 = some a → F a) (hx7 : 0 ≤ x7.toInt ∧ x7.toInt ≤ 12) (ho5 : ∀ a : Nat, o5 = some a → F a) : ka_R l D F yX0_mayBegin wsX0_mayBegin 2 42 [.ref a0, .int x0] [(a0, .inr (0, [.ref a1, .ref a2, .int x1])), (a1, .inl (k0, 6, .inr (.inr (.inr (.inr (va_up (va_up (va_up (va_up (va_up (va_up (fun _ => none) 0 (some a3)) 1 (some a4)) 2 (some a5)) 3 (some a6)) 4 (some a7)) 5 (some a8))))))), (a2, .inl (k1, 6, .inl f0)), (a3, .inr (2, [.ref a9, .ref a10, .int x2, va_rf o0])), (a4, .inr (2, [.ref a11, .ref a12, .int x3, va_rf o1])), (a5, .inr (2, [.ref a13, .ref a14, .int x4, va_rf o2])), (a6, .inr (2, [.ref a15, .ref a16, .int x5, va_rf o3])), (a7, .inr (2, [.ref a17, .ref a18, .int x6, va_rf o4])), (a8, .inr (2, [.ref a19, .ref a20, .int x7, va_rf o5]))] [(k0, .object RX2), (k1, .int)] (fun v => ∃ x : Int32, v = some (.int x) ∧ 0 ≤ x.toInt ∧ x.toInt ≤ 1) := by
  refine ka_R_of (cc := cX0_mayBegin) (maxL := 3) (ret := (some .boolean)) (by decide) rfl (Nat.le_of_ble_eq_true rfl) ?_
  intro p e s m below meth c ls C hr hlk hP hK hE hN hl
  have hS : va_S (fun _ => False) s.heap s.heap [] := va_S.rf
  have C : CallFix p m c cX0_mayBegin 3 s [.ref a0, .int x0].toArray wsX0_mayBegin RX0 := C
  obtain ⟨hx, hb, hml, hown, hts⟩ := id C
  have hl : lv_has ls 3 [(0, .ref a0), (1, .int x0)] := hl
  have rx0 := ka_rng x0
  have rx1 := ka_rng x1
  have rx2 := ka_rng x2
  have rx3 := ka_rng x3
  have rx4 := ka_rng x4
  have rx5 := ka_rng x5
  have rx6 := ka_rng x6
  have rx7 := ka_rng x7
  rcases (show x0.toInt ≤ -1 ∨ x0.toInt = 0 ∨ x0.toInt = 1 ∨ x0.toInt = 2 ∨ x0.toInt = 3 ∨ x0.toInt = 4 ∨ x0.toInt = 5 ∨ 6 ≤ x0.toInt by omega) with y_18518 | y_18518 | y_18518 | y_18518 | y_18518 | y_18518 | y_18518 | y_18518
  · skip
    refine lv_aload_n hx hb dX0_mayBegin_0 rfl (lv_at hl 0 rfl) ?_
    refine lv_iload_n hx hb dX0_mayBegin_1 rfl (lv_at hl 1 rfl) ?_
    refine ka_RV (n := 1) C (cg_X0_lessonAt_144 l D F a0 x0 (by omega)) gX0_mayBegin_X0_lessonAt rfl (by decide +kernel) ⟨Nat.le_of_ble_eq_true rfl, Nat.le_of_ble_eq_true rfl⟩ hK hP hS hE hN [] rfl [] rfl (ci := 0) rfl rfl 0 rfl rfl hl.1 (rest := []) rfl (Nat.le_of_ble_eq_true rfl) dX0_mayBegin_2 ⟨Nat.le_of_ble_eq_true rfl, Nat.le_of_ble_eq_true rfl⟩ (fun v hv => ?_)
    subst hv
    refine ka_stk (w := [.null]) rfl ?_
    refine lv_astore_nN (lv' := [(2, .null), (0, .ref a0), (1, .int x0)]) hx hb dX0_mayBegin_5 rfl hl (by decide) rfl (fun ls hl => ?_)
    refine lv_aload_nN hx hb dX0_mayBegin_6 rfl (lv_at hl 0 rfl) ?_
    refine lv_ifnullN (tgt := 45) hx hb dX0_mayBegin_7 (by decide) ?_
    refine lv_iconst (v := 0) hx hb dX0_mayBegin_45 (by decide) ?_
    exact ka_rRz C hr hlk rfl ⟨_, rfl, ⟨by decide, by decide⟩⟩ dX0_mayBegin_46
  · obtain rfl : x0 = 0 := (ka_eq' _ _).mpr (y_18518.trans (by decide))
    refine lv_aload_n hx hb dX0_mayBegin_0 rfl (lv_at hl 0 rfl) ?_
    refine lv_iload_n hx hb dX0_mayBegin_1 rfl (lv_at hl 1 rfl) ?_
    refine ka_RV (n := 1) C (cg_X0_lessonAt_145 l D F a0 a1 a2 x1 k0 a3 a4 a5 a6 a7 a8) gX0_mayBegin_X0_lessonAt rfl (by decide +kernel) ⟨Nat.le_of_ble_eq_true rfl, Nat.le_of_ble_eq_true rfl⟩ hK hP hS hE hN [0, 1] rfl [0] rfl (ci := 0) rfl rfl 0 rfl rfl hl.1 (rest := []) rfl (Nat.le_of_ble_eq_true rfl) dX0_mayBegin_2 ⟨Nat.le_of_ble_eq_true rfl, Nat.le_of_ble_eq_true rfl⟩ (fun v hv => ?_)
    subst hv
    refine ka_stk (w := [.ref a3]) rfl ?_
    refine lv_astore_n (lv' := [(2, .ref a3), (0, .ref a0), (1, .int 0)]) hx hb dX0_mayBegin_5 rfl hl (by decide) rfl (fun ls hl => ?_)
    refine lv_aload_n hx hb dX0_mayBegin_6 rfl (lv_at hl 0 rfl) ?_
    refine lv_ifnull hx hb dX0_mayBegin_7 ?_
    refine lv_aload_n hx hb dX0_mayBegin_10 rfl (lv_at hl 0 rfl) ?_
    refine ka_get C lq_145 rfl hK hP 3 rfl 3 (by decide) lq_146 rfl dX0_mayBegin_11 ?_
    refine kb_ifnull (tgt := 45) hx hb dX0_mayBegin_14 (by decide) (fun hfa_18519 => ?_) (fun fa_18519 hfa_18519 => ?_)
    · skip
      refine lv_iconst (v := 0) hx hb dX0_mayBegin_45 (by decide) ?_
      exact ka_rRz C hr hlk rfl ⟨_, rfl, ⟨by decide, by decide⟩⟩ dX0_mayBegin_46
    · have Ffa_18519 : F fa_18519 := ho0 fa_18519 hfa_18519
      refine lv_aload_n hx hb dX0_mayBegin_17 rfl (lv_at hl 1 rfl) ?_
      refine lv_iload_n hx hb dX0_mayBegin_18 rfl (lv_at hl 2 rfl) ?_
      refine ka_RV (n := 1) C (cg_X0_isDone_146 l D F a0 a1 a2 x1) gX0_mayBegin_X0_isDone rfl (by decide +kernel) ⟨Nat.le_of_ble_eq_true rfl, Nat.le_of_ble_eq_true rfl⟩ hK hP hS hE hN [0] rfl [] rfl (ci := 0) rfl rfl 0 rfl rfl hl.1 (rest := []) rfl (Nat.le_of_ble_eq_true rfl) dX0_mayBegin_19 ⟨Nat.le_of_ble_eq_true rfl, Nat.le_of_ble_eq_true rfl⟩ (fun v hv => ?_)
      obtain ⟨v_18520, rfl, hv_18520⟩ := hv
      have rv_18520 := ka_rng v_18520
      refine ka_stk (w := [.int v_18520]) rfl ?_
      refine lv_if_ne (tgt := 45) hx hb dX0_mayBegin_22 (by decide) (fun c_18521 => ?_) (fun c_18521 => ?_)
      · have c_18521 : ¬ v_18520.toInt = 0 := by rw [ka_eq', show ((0 : Int32)).toInt = 0 from by decide] at c_18521; exact c_18521
        refine lv_iconst (v := 0) hx hb dX0_mayBegin_45 (by decide) ?_
        exact ka_rRz C hr hlk rfl ⟨_, rfl, ⟨by decide, by decide⟩⟩ dX0_mayBegin_46
      · have c_18521 : v_18520.toInt = 0 := by rw [ka_eq', show ((0 : Int32)).toInt = 0 from by decide] at c_18521; exact c_18521
        refine lv_aload_n hx hb dX0_mayBegin_25 rfl (lv_at hl 1 rfl) ?_
        refine ka_get C lq_147 rfl hK hP 0 rfl 1 (by decide) lq_148 rfl dX0_mayBegin_26 ?_
        refine lv_iload_n hx hb dX0_mayBegin_29 rfl (lv_at hl 2 rfl) ?_
        refine va_iald hx hb hK hP 2 1 rfl rfl (ka_in (by decide) (by decide)) dX0_mayBegin_30 ?_
        refine lv_topi (fun v_18522 ev_18522 => ?_)
        refine lv_aload_n hx hb dX0_mayBegin_31 rfl (lv_at hl 1 rfl) ?_
        refine ka_get C lq_147 rfl hK hP 0 rfl 2 (by decide) lq_149 rfl dX0_mayBegin_32 ?_
        refine lv_iconst (v := (-1)) hx hb dX0_mayBegin_35 (by decide) ?_
        refine lv_ixor hx hb dX0_mayBegin_36 ?_
        refine lv_topi (fun v_18523 ev_18523 => ?_)
        refine lv_iand hx hb dX0_mayBegin_37 ?_
        refine lv_topi (fun v_18524 ev_18524 => ?_)
        refine lv_if_ne (tgt := 45) hx hb dX0_mayBegin_38 (by decide) (fun c_18525 => ?_) (fun c_18525 => ?_)
        · have c_18525 : ¬ v_18524.toInt = 0 := by rw [ka_eq', show ((0 : Int32)).toInt = 0 from by decide] at c_18525; exact c_18525
          refine lv_iconst (v := 0) hx hb dX0_mayBegin_45 (by decide) ?_
          exact ka_rRz C hr hlk rfl ⟨_, rfl, ⟨by decide, by decide⟩⟩ dX0_mayBegin_46
        · have c_18525 : v_18524.toInt = 0 := by rw [ka_eq', show ((0 : Int32)).toInt = 0 from by decide] at c_18525; exact c_18525
          refine lv_iconst (v := 1) hx hb dX0_mayBegin_41 (by decide) ?_
          refine lv_goto (tgt := 46) hx hb dX0_mayBegin_42 (by decide) ?_
          exact ka_rRz C hr hlk rfl ⟨_, rfl, ⟨by decide, by decide⟩⟩ dX0_mayBegin_46
  · obtain rfl : x0 = 1 := (ka_eq' _ _).mpr (y_18518.trans (by decide))
    refine lv_aload_n hx hb dX0_mayBegin_0 rfl (lv_at hl 0 rfl) ?_
    refine lv_iload_n hx hb dX0_mayBegin_1 rfl (lv_at hl 1 rfl) ?_
    refine ka_RV (n := 1) C (cg_X0_lessonAt_147 l D F a0 a1 a2 x1 k0 a3 a4 a5 a6 a7 a8) gX0_mayBegin_X0_lessonAt rfl (by decide +kernel) ⟨Nat.le_of_ble_eq_true rfl, Nat.le_of_ble_eq_true rfl⟩ hK hP hS hE hN [0, 1] rfl [0] rfl (ci := 0) rfl rfl 0 rfl rfl hl.1 (rest := []) rfl (Nat.le_of_ble_eq_true rfl) dX0_mayBegin_2 ⟨Nat.le_of_ble_eq_true rfl, Nat.le_of_ble_eq_true rfl⟩ (fun v hv => ?_)
    subst hv
    refine ka_stk (w := [.ref a4]) rfl ?_
    refine lv_astore_n (lv' := [(2, .ref a4), (0, .ref a0), (1, .int 1)]) hx hb dX0_mayBegin_5 rfl hl (by decide) rfl (fun ls hl => ?_)
    refine lv_aload_n hx hb dX0_mayBegin_6 rfl (lv_at hl 0 rfl) ?_
    refine lv_ifnull hx hb dX0_mayBegin_7 ?_
    refine lv_aload_n hx hb dX0_mayBegin_10 rfl (lv_at hl 0 rfl) ?_
    refine ka_get C lq_145 rfl hK hP 4 rfl 3 (by decide) lq_146 rfl dX0_mayBegin_11 ?_
    refine kb_ifnull (tgt := 45) hx hb dX0_mayBegin_14 (by decide) (fun hfa_18526 => ?_) (fun fa_18526 hfa_18526 => ?_)
    · skip
      refine lv_iconst (v := 0) hx hb dX0_mayBegin_45 (by decide) ?_
      exact ka_rRz C hr hlk rfl ⟨_, rfl, ⟨by decide, by decide⟩⟩ dX0_mayBegin_46
    · have Ffa_18526 : F fa_18526 := ho1 fa_18526 hfa_18526
      refine lv_aload_n hx hb dX0_mayBegin_17 rfl (lv_at hl 1 rfl) ?_
      refine lv_iload_n hx hb dX0_mayBegin_18 rfl (lv_at hl 2 rfl) ?_
      refine ka_RV (n := 1) C (cg_X0_isDone_148 l D F a0 a1 a2 x1) gX0_mayBegin_X0_isDone rfl (by decide +kernel) ⟨Nat.le_of_ble_eq_true rfl, Nat.le_of_ble_eq_true rfl⟩ hK hP hS hE hN [0] rfl [] rfl (ci := 0) rfl rfl 0 rfl rfl hl.1 (rest := []) rfl (Nat.le_of_ble_eq_true rfl) dX0_mayBegin_19 ⟨Nat.le_of_ble_eq_true rfl, Nat.le_of_ble_eq_true rfl⟩ (fun v hv => ?_)
      obtain ⟨v_18527, rfl, hv_18527⟩ := hv
      have rv_18527 := ka_rng v_18527
      refine ka_stk (w := [.int v_18527]) rfl ?_
      refine lv_if_ne (tgt := 45) hx hb dX0_mayBegin_22 (by decide) (fun c_18528 => ?_) (fun c_18528 => ?_)
      · have c_18528 : ¬ v_18527.toInt = 0 := by rw [ka_eq', show ((0 : Int32)).toInt = 0 from by decide] at c_18528; exact c_18528
        refine lv_iconst (v := 0) hx hb dX0_mayBegin_45 (by decide) ?_
        exact ka_rRz C hr hlk rfl ⟨_, rfl, ⟨by decide, by decide⟩⟩ dX0_mayBegin_46
      · have c_18528 : v_18527.toInt = 0 := by rw [ka_eq', show ((0 : Int32)).toInt = 0 from by decide] at c_18528; exact c_18528
        refine lv_aload_n hx hb dX0_mayBegin_25 rfl (lv_at hl 1 rfl) ?_
        refine ka_get C lq_147 rfl hK hP 0 rfl 1 (by decide) lq_148 rfl dX0_mayBegin_26 ?_
        refine lv_iload_n hx hb dX0_mayBegin_29 rfl (lv_at hl 2 rfl) ?_
        refine va_iald hx hb hK hP 2 1 rfl rfl (ka_in (by decide) (by decide)) dX0_mayBegin_30 ?_
        refine lv_topi (fun v_18529 ev_18529 => ?_)
        refine lv_aload_n hx hb dX0_mayBegin_31 rfl (lv_at hl 1 rfl) ?_
        refine ka_get C lq_147 rfl hK hP 0 rfl 2 (by decide) lq_149 rfl dX0_mayBegin_32 ?_
        refine lv_iconst (v := (-1)) hx hb dX0_mayBegin_35 (by decide) ?_
        refine lv_ixor hx hb dX0_mayBegin_36 ?_
        refine lv_topi (fun v_18530 ev_18530 => ?_)
        refine lv_iand hx hb dX0_mayBegin_37 ?_
        refine lv_topi (fun v_18531 ev_18531 => ?_)
        refine lv_if_ne (tgt := 45) hx hb dX0_mayBegin_38 (by decide) (fun c_18532 => ?_) (fun c_18532 => ?_)
        · have c_18532 : ¬ v_18531.toInt = 0 := by rw [ka_eq', show ((0 : Int32)).toInt = 0 from by decide] at c_18532; exact c_18532
          refine lv_iconst (v := 0) hx hb dX0_mayBegin_45 (by decide) ?_
          exact ka_rRz C hr hlk rfl ⟨_, rfl, ⟨by decide, by decide⟩⟩ dX0_mayBegin_46
        · have c_18532 : v_18531.toInt = 0 := by rw [ka_eq', show ((0 : Int32)).toInt = 0 from by decide] at c_18532; exact c_18532
          refine lv_iconst (v := 1) hx hb dX0_mayBegin_41 (by decide) ?_
          refine lv_goto (tgt := 46) hx hb dX0_mayBegin_42 (by decide) ?_
          exact ka_rRz C hr hlk rfl ⟨_, rfl, ⟨by decide, by decide⟩⟩ dX0_mayBegin_46
  · obtain rfl : x0 = 2 := (ka_eq' _ _).mpr (y_18518.trans (by decide))
    refine lv_aload_n hx hb dX0_mayBegin_0 rfl (lv_at hl 0 rfl) ?_
    refine lv_iload_n hx hb dX0_mayBegin_1 rfl (lv_at hl 1 rfl) ?_
    refine ka_RV (n := 1) C (cg_X0_lessonAt_149 l D F a0 a1 a2 x1 k0 a3 a4 a5 a6 a7 a8) gX0_mayBegin_X0_lessonAt rfl (by decide +kernel) ⟨Nat.le_of_ble_eq_true rfl, Nat.le_of_ble_eq_true rfl⟩ hK hP hS hE hN [0, 1] rfl [0] rfl (ci := 0) rfl rfl 0 rfl rfl hl.1 (rest := []) rfl (Nat.le_of_ble_eq_true rfl) dX0_mayBegin_2 ⟨Nat.le_of_ble_eq_true rfl, Nat.le_of_ble_eq_true rfl⟩ (fun v hv => ?_)
    subst hv
    refine ka_stk (w := [.ref a5]) rfl ?_
    refine lv_astore_n (lv' := [(2, .ref a5), (0, .ref a0), (1, .int 2)]) hx hb dX0_mayBegin_5 rfl hl (by decide) rfl (fun ls hl => ?_)
    refine lv_aload_n hx hb dX0_mayBegin_6 rfl (lv_at hl 0 rfl) ?_
    refine lv_ifnull hx hb dX0_mayBegin_7 ?_
    refine lv_aload_n hx hb dX0_mayBegin_10 rfl (lv_at hl 0 rfl) ?_
    refine ka_get C lq_145 rfl hK hP 5 rfl 3 (by decide) lq_146 rfl dX0_mayBegin_11 ?_
    refine kb_ifnull (tgt := 45) hx hb dX0_mayBegin_14 (by decide) (fun hfa_18533 => ?_) (fun fa_18533 hfa_18533 => ?_)
    · skip
      refine lv_iconst (v := 0) hx hb dX0_mayBegin_45 (by decide) ?_
      exact ka_rRz C hr hlk rfl ⟨_, rfl, ⟨by decide, by decide⟩⟩ dX0_mayBegin_46
    · have Ffa_18533 : F fa_18533 := ho2 fa_18533 hfa_18533
      refine lv_aload_n hx hb dX0_mayBegin_17 rfl (lv_at hl 1 rfl) ?_
      refine lv_iload_n hx hb dX0_mayBegin_18 rfl (lv_at hl 2 rfl) ?_
      refine ka_RV (n := 1) C (cg_X0_isDone_150 l D F a0 a1 a2 x1) gX0_mayBegin_X0_isDone rfl (by decide +kernel) ⟨Nat.le_of_ble_eq_true rfl, Nat.le_of_ble_eq_true rfl⟩ hK hP hS hE hN [0] rfl [] rfl (ci := 0) rfl rfl 0 rfl rfl hl.1 (rest := []) rfl (Nat.le_of_ble_eq_true rfl) dX0_mayBegin_19 ⟨Nat.le_of_ble_eq_true rfl, Nat.le_of_ble_eq_true rfl⟩ (fun v hv => ?_)
      obtain ⟨v_18534, rfl, hv_18534⟩ := hv
      have rv_18534 := ka_rng v_18534
      refine ka_stk (w := [.int v_18534]) rfl ?_
      refine lv_if_ne (tgt := 45) hx hb dX0_mayBegin_22 (by decide) (fun c_18535 => ?_) (fun c_18535 => ?_)
      · have c_18535 : ¬ v_18534.toInt = 0 := by rw [ka_eq', show ((0 : Int32)).toInt = 0 from by decide] at c_18535; exact c_18535
        refine lv_iconst (v := 0) hx hb dX0_mayBegin_45 (by decide) ?_
        exact ka_rRz C hr hlk rfl ⟨_, rfl, ⟨by decide, by decide⟩⟩ dX0_mayBegin_46
      · have c_18535 : v_18534.toInt = 0 := by rw [ka_eq', show ((0 : Int32)).toInt = 0 from by decide] at c_18535; exact c_18535
        refine lv_aload_n hx hb dX0_mayBegin_25 rfl (lv_at hl 1 rfl) ?_
        refine ka_get C lq_147 rfl hK hP 0 rfl 1 (by decide) lq_148 rfl dX0_mayBegin_26 ?_
        refine lv_iload_n hx hb dX0_mayBegin_29 rfl (lv_at hl 2 rfl) ?_
        refine va_iald hx hb hK hP 2 1 rfl rfl (ka_in (by decide) (by decide)) dX0_mayBegin_30 ?_
        refine lv_topi (fun v_18536 ev_18536 => ?_)
        refine lv_aload_n hx hb dX0_mayBegin_31 rfl (lv_at hl 1 rfl) ?_
        refine ka_get C lq_147 rfl hK hP 0 rfl 2 (by decide) lq_149 rfl dX0_mayBegin_32 ?_
        refine lv_iconst (v := (-1)) hx hb dX0_mayBegin_35 (by decide) ?_
        refine lv_ixor hx hb dX0_mayBegin_36 ?_
        refine lv_topi (fun v_18537 ev_18537 => ?_)
        refine lv_iand hx hb dX0_mayBegin_37 ?_
        refine lv_topi (fun v_18538 ev_18538 => ?_)
        refine lv_if_ne (tgt := 45) hx hb dX0_mayBegin_38 (by decide) (fun c_18539 => ?_) (fun c_18539 => ?_)
        · have c_18539 : ¬ v_18538.toInt = 0 := by rw [ka_eq', show ((0 : Int32)).toInt = 0 from by decide] at c_18539; exact c_18539
          refine lv_iconst (v := 0) hx hb dX0_mayBegin_45 (by decide) ?_
          exact ka_rRz C hr hlk rfl ⟨_, rfl, ⟨by decide, by decide⟩⟩ dX0_mayBegin_46
        · have c_18539 : v_18538.toInt = 0 := by rw [ka_eq', show ((0 : Int32)).toInt = 0 from by decide] at c_18539; exact c_18539
          refine lv_iconst (v := 1) hx hb dX0_mayBegin_41 (by decide) ?_
          refine lv_goto (tgt := 46) hx hb dX0_mayBegin_42 (by decide) ?_
          exact ka_rRz C hr hlk rfl ⟨_, rfl, ⟨by decide, by decide⟩⟩ dX0_mayBegin_46
  · obtain rfl : x0 = 3 := (ka_eq' _ _).mpr (y_18518.trans (by decide))
    refine lv_aload_n hx hb dX0_mayBegin_0 rfl (lv_at hl 0 rfl) ?_
    refine lv_iload_n hx hb dX0_mayBegin_1 rfl (lv_at hl 1 rfl) ?_
    refine ka_RV (n := 1) C (cg_X0_lessonAt_151 l D F a0 a1 a2 x1 k0 a3 a4 a5 a6 a7 a8) gX0_mayBegin_X0_lessonAt rfl (by decide +kernel) ⟨Nat.le_of_ble_eq_true rfl, Nat.le_of_ble_eq_true rfl⟩ hK hP hS hE hN [0, 1] rfl [0] rfl (ci := 0) rfl rfl 0 rfl rfl hl.1 (rest := []) rfl (Nat.le_of_ble_eq_true rfl) dX0_mayBegin_2 ⟨Nat.le_of_ble_eq_true rfl, Nat.le_of_ble_eq_true rfl⟩ (fun v hv => ?_)
    subst hv
    refine ka_stk (w := [.ref a6]) rfl ?_
    refine lv_astore_n (lv' := [(2, .ref a6), (0, .ref a0), (1, .int 3)]) hx hb dX0_mayBegin_5 rfl hl (by decide) rfl (fun ls hl => ?_)
    refine lv_aload_n hx hb dX0_mayBegin_6 rfl (lv_at hl 0 rfl) ?_
    refine lv_ifnull hx hb dX0_mayBegin_7 ?_
    refine lv_aload_n hx hb dX0_mayBegin_10 rfl (lv_at hl 0 rfl) ?_
    refine ka_get C lq_145 rfl hK hP 6 rfl 3 (by decide) lq_146 rfl dX0_mayBegin_11 ?_
    refine kb_ifnull (tgt := 45) hx hb dX0_mayBegin_14 (by decide) (fun hfa_18540 => ?_) (fun fa_18540 hfa_18540 => ?_)
    · skip
      refine lv_iconst (v := 0) hx hb dX0_mayBegin_45 (by decide) ?_
      exact ka_rRz C hr hlk rfl ⟨_, rfl, ⟨by decide, by decide⟩⟩ dX0_mayBegin_46
    · have Ffa_18540 : F fa_18540 := ho3 fa_18540 hfa_18540
      refine lv_aload_n hx hb dX0_mayBegin_17 rfl (lv_at hl 1 rfl) ?_
      refine lv_iload_n hx hb dX0_mayBegin_18 rfl (lv_at hl 2 rfl) ?_
      refine ka_RV (n := 1) C (cg_X0_isDone_152 l D F a0 a1 a2 x1) gX0_mayBegin_X0_isDone rfl (by decide +kernel) ⟨Nat.le_of_ble_eq_true rfl, Nat.le_of_ble_eq_true rfl⟩ hK hP hS hE hN [0] rfl [] rfl (ci := 0) rfl rfl 0 rfl rfl hl.1 (rest := []) rfl (Nat.le_of_ble_eq_true rfl) dX0_mayBegin_19 ⟨Nat.le_of_ble_eq_true rfl, Nat.le_of_ble_eq_true rfl⟩ (fun v hv => ?_)
      obtain ⟨v_18541, rfl, hv_18541⟩ := hv
      have rv_18541 := ka_rng v_18541
      refine ka_stk (w := [.int v_18541]) rfl ?_
      refine lv_if_ne (tgt := 45) hx hb dX0_mayBegin_22 (by decide) (fun c_18542 => ?_) (fun c_18542 => ?_)
      · have c_18542 : ¬ v_18541.toInt = 0 := by rw [ka_eq', show ((0 : Int32)).toInt = 0 from by decide] at c_18542; exact c_18542
        refine lv_iconst (v := 0) hx hb dX0_mayBegin_45 (by decide) ?_
        exact ka_rRz C hr hlk rfl ⟨_, rfl, ⟨by decide, by decide⟩⟩ dX0_mayBegin_46
      · have c_18542 : v_18541.toInt = 0 := by rw [ka_eq', show ((0 : Int32)).toInt = 0 from by decide] at c_18542; exact c_18542
        refine lv_aload_n hx hb dX0_mayBegin_25 rfl (lv_at hl 1 rfl) ?_
        refine ka_get C lq_147 rfl hK hP 0 rfl 1 (by decide) lq_148 rfl dX0_mayBegin_26 ?_
        refine lv_iload_n hx hb dX0_mayBegin_29 rfl (lv_at hl 2 rfl) ?_
        refine va_iald hx hb hK hP 2 1 rfl rfl (ka_in (by decide) (by decide)) dX0_mayBegin_30 ?_
        refine lv_topi (fun v_18543 ev_18543 => ?_)
        refine lv_aload_n hx hb dX0_mayBegin_31 rfl (lv_at hl 1 rfl) ?_
        refine ka_get C lq_147 rfl hK hP 0 rfl 2 (by decide) lq_149 rfl dX0_mayBegin_32 ?_
        refine lv_iconst (v := (-1)) hx hb dX0_mayBegin_35 (by decide) ?_
        refine lv_ixor hx hb dX0_mayBegin_36 ?_
        refine lv_topi (fun v_18544 ev_18544 => ?_)
        refine lv_iand hx hb dX0_mayBegin_37 ?_
        refine lv_topi (fun v_18545 ev_18545 => ?_)
        refine lv_if_ne (tgt := 45) hx hb dX0_mayBegin_38 (by decide) (fun c_18546 => ?_) (fun c_18546 => ?_)
        · have c_18546 : ¬ v_18545.toInt = 0 := by rw [ka_eq', show ((0 : Int32)).toInt = 0 from by decide] at c_18546; exact c_18546
          refine lv_iconst (v := 0) hx hb dX0_mayBegin_45 (by decide) ?_
          exact ka_rRz C hr hlk rfl ⟨_, rfl, ⟨by decide, by decide⟩⟩ dX0_mayBegin_46
        · have c_18546 : v_18545.toInt = 0 := by rw [ka_eq', show ((0 : Int32)).toInt = 0 from by decide] at c_18546; exact c_18546
          refine lv_iconst (v := 1) hx hb dX0_mayBegin_41 (by decide) ?_
          refine lv_goto (tgt := 46) hx hb dX0_mayBegin_42 (by decide) ?_
          exact ka_rRz C hr hlk rfl ⟨_, rfl, ⟨by decide, by decide⟩⟩ dX0_mayBegin_46
  · obtain rfl : x0 = 4 := (ka_eq' _ _).mpr (y_18518.trans (by decide))
    refine lv_aload_n hx hb dX0_mayBegin_0 rfl (lv_at hl 0 rfl) ?_
    refine lv_iload_n hx hb dX0_mayBegin_1 rfl (lv_at hl 1 rfl) ?_
    refine ka_RV (n := 1) C (cg_X0_lessonAt_153 l D F a0 a1 a2 x1 k0 a3 a4 a5 a6 a7 a8) gX0_mayBegin_X0_lessonAt rfl (by decide +kernel) ⟨Nat.le_of_ble_eq_true rfl, Nat.le_of_ble_eq_true rfl⟩ hK hP hS hE hN [0, 1] rfl [0] rfl (ci := 0) rfl rfl 0 rfl rfl hl.1 (rest := []) rfl (Nat.le_of_ble_eq_true rfl) dX0_mayBegin_2 ⟨Nat.le_of_ble_eq_true rfl, Nat.le_of_ble_eq_true rfl⟩ (fun v hv => ?_)
    subst hv
    refine ka_stk (w := [.ref a7]) rfl ?_
    refine lv_astore_n (lv' := [(2, .ref a7), (0, .ref a0), (1, .int 4)]) hx hb dX0_mayBegin_5 rfl hl (by decide) rfl (fun ls hl => ?_)
    refine lv_aload_n hx hb dX0_mayBegin_6 rfl (lv_at hl 0 rfl) ?_
    refine lv_ifnull hx hb dX0_mayBegin_7 ?_
    refine lv_aload_n hx hb dX0_mayBegin_10 rfl (lv_at hl 0 rfl) ?_
    refine ka_get C lq_145 rfl hK hP 7 rfl 3 (by decide) lq_146 rfl dX0_mayBegin_11 ?_
    refine kb_ifnull (tgt := 45) hx hb dX0_mayBegin_14 (by decide) (fun hfa_18547 => ?_) (fun fa_18547 hfa_18547 => ?_)
    · skip
      refine lv_iconst (v := 0) hx hb dX0_mayBegin_45 (by decide) ?_
      exact ka_rRz C hr hlk rfl ⟨_, rfl, ⟨by decide, by decide⟩⟩ dX0_mayBegin_46
    · have Ffa_18547 : F fa_18547 := ho4 fa_18547 hfa_18547
      refine lv_aload_n hx hb dX0_mayBegin_17 rfl (lv_at hl 1 rfl) ?_
      refine lv_iload_n hx hb dX0_mayBegin_18 rfl (lv_at hl 2 rfl) ?_
      refine ka_RV (n := 1) C (cg_X0_isDone_154 l D F a0 a1 a2 x1) gX0_mayBegin_X0_isDone rfl (by decide +kernel) ⟨Nat.le_of_ble_eq_true rfl, Nat.le_of_ble_eq_true rfl⟩ hK hP hS hE hN [0] rfl [] rfl (ci := 0) rfl rfl 0 rfl rfl hl.1 (rest := []) rfl (Nat.le_of_ble_eq_true rfl) dX0_mayBegin_19 ⟨Nat.le_of_ble_eq_true rfl, Nat.le_of_ble_eq_true rfl⟩ (fun v hv => ?_)
      obtain ⟨v_18548, rfl, hv_18548⟩ := hv
      have rv_18548 := ka_rng v_18548
      refine ka_stk (w := [.int v_18548]) rfl ?_
      refine lv_if_ne (tgt := 45) hx hb dX0_mayBegin_22 (by decide) (fun c_18549 => ?_) (fun c_18549 => ?_)
      · have c_18549 : ¬ v_18548.toInt = 0 := by rw [ka_eq', show ((0 : Int32)).toInt = 0 from by decide] at c_18549; exact c_18549
        refine lv_iconst (v := 0) hx hb dX0_mayBegin_45 (by decide) ?_
        exact ka_rRz C hr hlk rfl ⟨_, rfl, ⟨by decide, by decide⟩⟩ dX0_mayBegin_46
      · have c_18549 : v_18548.toInt = 0 := by rw [ka_eq', show ((0 : Int32)).toInt = 0 from by decide] at c_18549; exact c_18549
        refine lv_aload_n hx hb dX0_mayBegin_25 rfl (lv_at hl 1 rfl) ?_
        refine ka_get C lq_147 rfl hK hP 0 rfl 1 (by decide) lq_148 rfl dX0_mayBegin_26 ?_
        refine lv_iload_n hx hb dX0_mayBegin_29 rfl (lv_at hl 2 rfl) ?_
        refine va_iald hx hb hK hP 2 1 rfl rfl (ka_in (by decide) (by decide)) dX0_mayBegin_30 ?_
        refine lv_topi (fun v_18550 ev_18550 => ?_)
        refine lv_aload_n hx hb dX0_mayBegin_31 rfl (lv_at hl 1 rfl) ?_
        refine ka_get C lq_147 rfl hK hP 0 rfl 2 (by decide) lq_149 rfl dX0_mayBegin_32 ?_
        refine lv_iconst (v := (-1)) hx hb dX0_mayBegin_35 (by decide) ?_
        refine lv_ixor hx hb dX0_mayBegin_36 ?_
        refine lv_topi (fun v_18551 ev_18551 => ?_)
        refine lv_iand hx hb dX0_mayBegin_37 ?_
        refine lv_topi (fun v_18552 ev_18552 => ?_)
        refine lv_if_ne (tgt := 45) hx hb dX0_mayBegin_38 (by decide) (fun c_18553 => ?_) (fun c_18553 => ?_)
        · have c_18553 : ¬ v_18552.toInt = 0 := by rw [ka_eq', show ((0 : Int32)).toInt = 0 from by decide] at c_18553; exact c_18553
          refine lv_iconst (v := 0) hx hb dX0_mayBegin_45 (by decide) ?_
          exact ka_rRz C hr hlk rfl ⟨_, rfl, ⟨by decide, by decide⟩⟩ dX0_mayBegin_46
        · have c_18553 : v_18552.toInt = 0 := by rw [ka_eq', show ((0 : Int32)).toInt = 0 from by decide] at c_18553; exact c_18553
          refine lv_iconst (v := 1) hx hb dX0_mayBegin_41 (by decide) ?_
          refine lv_goto (tgt := 46) hx hb dX0_mayBegin_42 (by decide) ?_
          exact ka_rRz C hr hlk rfl ⟨_, rfl, ⟨by decide, by decide⟩⟩ dX0_mayBegin_46
  · obtain rfl : x0 = 5 := (ka_eq' _ _).mpr (y_18518.trans (by decide))
    refine lv_aload_n hx hb dX0_mayBegin_0 rfl (lv_at hl 0 rfl) ?_
    refine lv_iload_n hx hb dX0_mayBegin_1 rfl (lv_at hl 1 rfl) ?_
    refine ka_RV (n := 1) C (cg_X0_lessonAt_155 l D F a0 a1 a2 x1 k0 a3 a4 a5 a6 a7 a8) gX0_mayBegin_X0_lessonAt rfl (by decide +kernel) ⟨Nat.le_of_ble_eq_true rfl, Nat.le_of_ble_eq_true rfl⟩ hK hP hS hE hN [0, 1] rfl [0] rfl (ci := 0) rfl rfl 0 rfl rfl hl.1 (rest := []) rfl (Nat.le_of_ble_eq_true rfl) dX0_mayBegin_2 ⟨Nat.le_of_ble_eq_true rfl, Nat.le_of_ble_eq_true rfl⟩ (fun v hv => ?_)
    subst hv
    refine ka_stk (w := [.ref a8]) rfl ?_
    refine lv_astore_n (lv' := [(2, .ref a8), (0, .ref a0), (1, .int 5)]) hx hb dX0_mayBegin_5 rfl hl (by decide) rfl (fun ls hl => ?_)
    refine lv_aload_n hx hb dX0_mayBegin_6 rfl (lv_at hl 0 rfl) ?_
    refine lv_ifnull hx hb dX0_mayBegin_7 ?_
    refine lv_aload_n hx hb dX0_mayBegin_10 rfl (lv_at hl 0 rfl) ?_
    refine ka_get C lq_145 rfl hK hP 8 rfl 3 (by decide) lq_146 rfl dX0_mayBegin_11 ?_
    refine kb_ifnull (tgt := 45) hx hb dX0_mayBegin_14 (by decide) (fun hfa_18554 => ?_) (fun fa_18554 hfa_18554 => ?_)
    · skip
      refine lv_iconst (v := 0) hx hb dX0_mayBegin_45 (by decide) ?_
      exact ka_rRz C hr hlk rfl ⟨_, rfl, ⟨by decide, by decide⟩⟩ dX0_mayBegin_46
    · have Ffa_18554 : F fa_18554 := ho5 fa_18554 hfa_18554
      refine lv_aload_n hx hb dX0_mayBegin_17 rfl (lv_at hl 1 rfl) ?_
      refine lv_iload_n hx hb dX0_mayBegin_18 rfl (lv_at hl 2 rfl) ?_
      refine ka_RV (n := 1) C (cg_X0_isDone_156 l D F a0 a1 a2 x1) gX0_mayBegin_X0_isDone rfl (by decide +kernel) ⟨Nat.le_of_ble_eq_true rfl, Nat.le_of_ble_eq_true rfl⟩ hK hP hS hE hN [0] rfl [] rfl (ci := 0) rfl rfl 0 rfl rfl hl.1 (rest := []) rfl (Nat.le_of_ble_eq_true rfl) dX0_mayBegin_19 ⟨Nat.le_of_ble_eq_true rfl, Nat.le_of_ble_eq_true rfl⟩ (fun v hv => ?_)
      obtain ⟨v_18555, rfl, hv_18555⟩ := hv
      have rv_18555 := ka_rng v_18555
      refine ka_stk (w := [.int v_18555]) rfl ?_
      refine lv_if_ne (tgt := 45) hx hb dX0_mayBegin_22 (by decide) (fun c_18556 => ?_) (fun c_18556 => ?_)
      · have c_18556 : ¬ v_18555.toInt = 0 := by rw [ka_eq', show ((0 : Int32)).toInt = 0 from by decide] at c_18556; exact c_18556
        refine lv_iconst (v := 0) hx hb dX0_mayBegin_45 (by decide) ?_
        exact ka_rRz C hr hlk rfl ⟨_, rfl, ⟨by decide, by decide⟩⟩ dX0_mayBegin_46
      · have c_18556 : v_18555.toInt = 0 := by rw [ka_eq', show ((0 : Int32)).toInt = 0 from by decide] at c_18556; exact c_18556
        refine lv_aload_n hx hb dX0_mayBegin_25 rfl (lv_at hl 1 rfl) ?_
        refine ka_get C lq_147 rfl hK hP 0 rfl 1 (by decide) lq_148 rfl dX0_mayBegin_26 ?_
        refine lv_iload_n hx hb dX0_mayBegin_29 rfl (lv_at hl 2 rfl) ?_
        refine va_iald hx hb hK hP 2 1 rfl rfl (ka_in (by decide) (by decide)) dX0_mayBegin_30 ?_
        refine lv_topi (fun v_18557 ev_18557 => ?_)
        refine lv_aload_n hx hb dX0_mayBegin_31 rfl (lv_at hl 1 rfl) ?_
        refine ka_get C lq_147 rfl hK hP 0 rfl 2 (by decide) lq_149 rfl dX0_mayBegin_32 ?_
        refine lv_iconst (v := (-1)) hx hb dX0_mayBegin_35 (by decide) ?_
        refine lv_ixor hx hb dX0_mayBegin_36 ?_
        refine lv_topi (fun v_18558 ev_18558 => ?_)
        refine lv_iand hx hb dX0_mayBegin_37 ?_
        refine lv_topi (fun v_18559 ev_18559 => ?_)
        refine lv_if_ne (tgt := 45) hx hb dX0_mayBegin_38 (by decide) (fun c_18560 => ?_) (fun c_18560 => ?_)
        · have c_18560 : ¬ v_18559.toInt = 0 := by rw [ka_eq', show ((0 : Int32)).toInt = 0 from by decide] at c_18560; exact c_18560
          refine lv_iconst (v := 0) hx hb dX0_mayBegin_45 (by decide) ?_
          exact ka_rRz C hr hlk rfl ⟨_, rfl, ⟨by decide, by decide⟩⟩ dX0_mayBegin_46
        · have c_18560 : v_18559.toInt = 0 := by rw [ka_eq', show ((0 : Int32)).toInt = 0 from by decide] at c_18560; exact c_18560
          refine lv_iconst (v := 1) hx hb dX0_mayBegin_41 (by decide) ?_
          refine lv_goto (tgt := 46) hx hb dX0_mayBegin_42 (by decide) ?_
          exact ka_rRz C hr hlk rfl ⟨_, rfl, ⟨by decide, by decide⟩⟩ dX0_mayBegin_46
  · skip
    refine lv_aload_n hx hb dX0_mayBegin_0 rfl (lv_at hl 0 rfl) ?_
    refine lv_iload_n hx hb dX0_mayBegin_1 rfl (lv_at hl 1 rfl) ?_
    refine ka_RV (n := 1) C (cg_X0_lessonAt_157 l D F a0 x0 (by omega)) gX0_mayBegin_X0_lessonAt rfl (by decide +kernel) ⟨Nat.le_of_ble_eq_true rfl, Nat.le_of_ble_eq_true rfl⟩ hK hP hS hE hN [] rfl [] rfl (ci := 0) rfl rfl 0 rfl rfl hl.1 (rest := []) rfl (Nat.le_of_ble_eq_true rfl) dX0_mayBegin_2 ⟨Nat.le_of_ble_eq_true rfl, Nat.le_of_ble_eq_true rfl⟩ (fun v hv => ?_)
    subst hv
    refine ka_stk (w := [.null]) rfl ?_
    refine lv_astore_nN (lv' := [(2, .null), (0, .ref a0), (1, .int x0)]) hx hb dX0_mayBegin_5 rfl hl (by decide) rfl (fun ls hl => ?_)
    refine lv_aload_nN hx hb dX0_mayBegin_6 rfl (lv_at hl 0 rfl) ?_
    refine lv_ifnullN (tgt := 45) hx hb dX0_mayBegin_7 (by decide) ?_
    refine lv_iconst (v := 0) hx hb dX0_mayBegin_45 (by decide) ?_
    exact ka_rRz C hr hlk rfl ⟨_, rfl, ⟨by decide, by decide⟩⟩ dX0_mayBegin_46
theorem lq_150 : ∀ w ∈ wsX60, w ∈ wsX6_formulaAt := by decide +kernel
theorem lq_151 : Cond.fieldLink RX6 28 "AskedBack" "course" "LAskedBack$Course;" ∈ wsX6_formulaAt := by decide +kernel
theorem lq_152 : ∀ w ∈ wsX20, w ∈ wsX6_formulaAt := by decide +kernel
theorem lq_153 : Cond.fieldLink RX6 77 "AskedBack$Lesson" "law" "LAskedBack$Formula;" ∈ wsX6_formulaAt := by decide +kernel
set_option maxHeartbeats 4000000 in
set_option maxRecDepth 100000 in
theorem cg_X6_formulaAt_159 (l : Launch) (D : va_G) (F : Nat → Prop) (a0 : Nat) (x0 : Int32) (x1 : Int32) (a1 : Nat) (a2 : Nat) (a3 : Nat) (a4 : Nat) (x2 : Int32) (x3 : Int32) (x4 : Int32) (x5 : Int32) (x6 : Int32) (a5 : Nat) (a6 : Nat) (x7 : Int32) (k0 : ClassId) (a7 : Nat) (a8 : Nat) (a9 : Nat) (a10 : Nat) (a11 : Nat) (a12 : Nat) (a13 : Nat) (a14 : Nat) (x8 : Int32) (o0 : Option Nat) (k1 : ClassId) (po0 : Nat → Option Nat) (a15 : Nat) (a16 : Nat) (x9 : Int32) (o1 : Option Nat) (k2 : ClassId) (po1 : Nat → Option Nat) (a17 : Nat) (a18 : Nat) (x10 : Int32) (o2 : Option Nat) (k3 : ClassId) (po2 : Nat → Option Nat) (a19 : Nat) (a20 : Nat) (x11 : Int32) (o3 : Option Nat) (k4 : ClassId) (po3 : Nat → Option Nat) (a21 : Nat) (a22 : Nat) (x12 : Int32) (o4 : Option Nat) (k5 : ClassId) (po4 : Nat → Option Nat) (a23 : Nat) (a24 : Nat) (x13 : Int32) (o5 : Option Nat) (k6 : ClassId) (po5 : Nat → Option Nat) (hx2 : -1 ≤ x2.toInt ∧ x2.toInt ≤ 5) (hx8 : 0 ≤ x8.toInt ∧ x8.toInt ≤ 12) (ho0 : ∀ a : Nat, o0 = some a → F a) (hpo0 : ∀ (j a : Nat), po0 j = some a → F a) (hx9 : 0 ≤ x9.toInt ∧ x9.toInt ≤ 12) (ho1 : ∀ a : Nat, o1 = some a → F a) (hpo1 : ∀ (j a : Nat), po1 j = some a → F a) (hx10 : 0 ≤ x10.toInt ∧ x10.toInt ≤ 12) (ho2 : ∀ a : Nat, o2 = some a → F a) (hpo2 : ∀ (j a : Nat), po2 j = some a → F a) (hx11 : 0 ≤ x11.toInt ∧ x11.toInt ≤ 12) (ho3 : ∀ a : Nat, o3 = some a → F a) (hpo3 : ∀ (j a : Nat), po3 j = some a → F a) (hx12 : 0 ≤ x12.toInt ∧ x12.toInt ≤ 12) (ho4 : ∀ a : Nat, o4 = some a → F a) (hpo4 : ∀ (j a : Nat), po4 j = some a → F a) (hx13 : 0 ≤ x13.toInt ∧ x13.toInt ≤ 12) (ho5 : ∀ a : Nat, o5 = some a → F a) (hpo5 : ∀ (j a : Nat), po5 j = some a → F a) : ka_R l D F yX6_formulaAt wsX6_formulaAt 2 41 [.ref a0, .int x0, .int x1] [(a0, .inr (6, [.ref a1, .ref a2, .ref a3, .ref a4, .int x2, .int x3, .int x4, .int x5, .int x6])), (a3, .inr (0, [.ref a5, .ref a6, .int x7])), (a5, .inl (k0, 6, .inr (.inr (.inr (.inr (va_up (va_up (va_up (va_up (va_up (va_up (fun _ => none) 0 (some a7)) 1 (some a8)) 2 (some a9)) 3 (some a10)) 4 (some a11)) 5 (some a12))))))), (a7, .inr (2, [.ref a13, .ref a14, .int x8, va_rf o0])), (a13, .inl (k1, 12, .inr (.inr (.inr (.inr po0))))), (a8, .inr (2, [.ref a15, .ref a16, .int x9, va_rf o1])), (a15, .inl (k2, 12, .inr (.inr (.inr (.inr po1))))), (a9, .inr (2, [.ref a17, .ref a18, .int x10, va_rf o2])), (a17, .inl (k3, 12, .inr (.inr (.inr (.inr po2))))), (a10, .inr (2, [.ref a19, .ref a20, .int x11, va_rf o3])), (a19, .inl (k4, 12, .inr (.inr (.inr (.inr po3))))), (a11, .inr (2, [.ref a21, .ref a22, .int x12, va_rf o4])), (a21, .inl (k5, 12, .inr (.inr (.inr (.inr po4))))), (a12, .inr (2, [.ref a23, .ref a24, .int x13, va_rf o5])), (a23, .inl (k6, 12, .inr (.inr (.inr (.inr po5)))))] [(k0, .object RX2), (k1, .object RX1), (k2, .object RX1), (k3, .object RX1), (k4, .object RX1), (k5, .object RX1), (k6, .object RX1)] (fun v => ∃ o : Option Nat, v = some (va_rf o) ∧ ∀ a : Nat, o = some a → F a) := by
  refine ka_R_of (cc := cX6_formulaAt) (maxL := 4) (ret := (some (.object "AskedBack$Formula"))) (by decide) rfl (Nat.le_of_ble_eq_true rfl) ?_
  intro p e s m below meth c ls C hr hlk hP hK hE hN hl
  have hS : va_S (fun _ => False) s.heap s.heap [] := va_S.rf
  have C : CallFix p m c cX6_formulaAt 4 s [.ref a0, .int x0, .int x1].toArray wsX6_formulaAt RX6 := C
  obtain ⟨hx, hb, hml, hown, hts⟩ := id C
  have hl : lv_has ls 4 [(0, .ref a0), (1, .int x0), (2, .int x1)] := hl
  have rx0 := ka_rng x0
  have rx1 := ka_rng x1
  have rx2 := ka_rng x2
  have rx3 := ka_rng x3
  have rx4 := ka_rng x4
  have rx5 := ka_rng x5
  have rx6 := ka_rng x6
  have rx7 := ka_rng x7
  have rx8 := ka_rng x8
  have rx9 := ka_rng x9
  have rx10 := ka_rng x10
  have rx11 := ka_rng x11
  have rx12 := ka_rng x12
  have rx13 := ka_rng x13
  rcases (show x0.toInt ≤ -1 ∨ x0.toInt = 0 ∨ x0.toInt = 1 ∨ x0.toInt = 2 ∨ x0.toInt = 3 ∨ x0.toInt = 4 ∨ x0.toInt = 5 ∨ 6 ≤ x0.toInt by omega) with y_18622 | y_18622 | y_18622 | y_18622 | y_18622 | y_18622 | y_18622 | y_18622
  · skip
    refine lv_aload_n hx hb dX6_formulaAt_0 rfl (lv_at hl 0 rfl) ?_
    refine ka_get C lq_150 rfl hK hP 0 rfl 2 (by decide) lq_151 rfl dX6_formulaAt_1 ?_
    refine lv_iload_n hx hb dX6_formulaAt_4 rfl (lv_at hl 1 rfl) ?_
    refine ka_RV (n := 1) C (cg_X0_lessonAt_144 l D F a3 x0 (by omega)) gX6_formulaAt_X0_lessonAt rfl (by decide +kernel) ⟨Nat.le_of_ble_eq_true rfl, Nat.le_of_ble_eq_true rfl⟩ hK hP hS hE hN [] rfl [] rfl (ci := 0) rfl rfl 1 rfl rfl hl.1 (rest := []) rfl (Nat.le_of_ble_eq_true rfl) dX6_formulaAt_5 ⟨Nat.le_of_ble_eq_true rfl, Nat.le_of_ble_eq_true rfl⟩ (fun v hv => ?_)
    subst hv
    refine ka_stk (w := [.null]) rfl ?_
    refine lv_astore_nN (lv' := [(3, .null), (0, .ref a0), (1, .int x0), (2, .int x1)]) hx hb dX6_formulaAt_8 rfl hl (by decide) rfl (fun ls hl => ?_)
    refine lv_aload_nN hx hb dX6_formulaAt_9 rfl (lv_at hl 0 rfl) ?_
    refine lv_ifnonnullN hx hb dX6_formulaAt_10 ?_
    refine lv_null hx hb dX6_formulaAt_13 ?_
    exact ka_rRa C hr hlk (Or.inl ⟨_, rfl⟩) (Or.inl rfl) ⟨none, rfl, (fun _ h => by cases h)⟩ dX6_formulaAt_14
  · obtain rfl : x0 = 0 := (ka_eq' _ _).mpr (y_18622.trans (by decide))
    refine lv_aload_n hx hb dX6_formulaAt_0 rfl (lv_at hl 0 rfl) ?_
    refine ka_get C lq_150 rfl hK hP 0 rfl 2 (by decide) lq_151 rfl dX6_formulaAt_1 ?_
    refine lv_iload_n hx hb dX6_formulaAt_4 rfl (lv_at hl 1 rfl) ?_
    refine ka_RV (n := 1) C (cg_X0_lessonAt_145 l D F a3 a5 a6 x7 k0 a7 a8 a9 a10 a11 a12) gX6_formulaAt_X0_lessonAt rfl (by decide +kernel) ⟨Nat.le_of_ble_eq_true rfl, Nat.le_of_ble_eq_true rfl⟩ hK hP hS hE hN [1, 2] rfl [0] rfl (ci := 0) rfl rfl 1 rfl rfl hl.1 (rest := []) rfl (Nat.le_of_ble_eq_true rfl) dX6_formulaAt_5 ⟨Nat.le_of_ble_eq_true rfl, Nat.le_of_ble_eq_true rfl⟩ (fun v hv => ?_)
    subst hv
    refine ka_stk (w := [.ref a7]) rfl ?_
    refine lv_astore_n (lv' := [(3, .ref a7), (0, .ref a0), (1, .int 0), (2, .int x1)]) hx hb dX6_formulaAt_8 rfl hl (by decide) rfl (fun ls hl => ?_)
    refine lv_aload_n hx hb dX6_formulaAt_9 rfl (lv_at hl 0 rfl) ?_
    refine lv_ifnonnull (tgt := 15) hx hb dX6_formulaAt_10 (by decide) ?_
    refine lv_iload_n hx hb dX6_formulaAt_15 rfl (lv_at hl 3 rfl) ?_
    refine lv_iconst (v := (-1)) hx hb dX6_formulaAt_16 (by decide) ?_
    refine lv_icmp_ne (tgt := 27) hx hb dX6_formulaAt_17 (by decide) (fun c_18623 => ?_) (fun c_18623 => ?_)
    · have c_18623 : ¬ x1.toInt = -1 := by rw [ka_eq', show ((-1 : Int32)).toInt = -1 from by decide] at c_18623; exact c_18623
      refine lv_aload_n hx hb dX6_formulaAt_27 rfl (lv_at hl 0 rfl) ?_
      refine lv_iload_n hx hb dX6_formulaAt_28 rfl (lv_at hl 3 rfl) ?_
      refine ka_RV (n := 1) C (cg_X2_pictureAt_140 l D F a7 x1 a13 a14 x8 o0 k1 po0 ⟨by omega, by omega⟩ ho0 hpo0) gX6_formulaAt_X2_pictureAt rfl (by decide +kernel) ⟨Nat.le_of_ble_eq_true rfl, Nat.le_of_ble_eq_true rfl⟩ hK hP hS hE hN [3, 4] rfl [1] rfl (ci := 2) rfl rfl 3 rfl rfl hl.1 (rest := []) rfl (Nat.le_of_ble_eq_true rfl) dX6_formulaAt_29 ⟨Nat.le_of_ble_eq_true rfl, Nat.le_of_ble_eq_true rfl⟩ (fun v hv => ?_)
      obtain ⟨o_18624, rfl, ho_18624⟩ := hv
      refine ka_stk (w := [va_rf o_18624]) rfl ?_
      exact ka_rRa C hr hlk (Or.inl ⟨_, rfl⟩) (va_rf_or _) ⟨o_18624, rfl, ho_18624⟩ dX6_formulaAt_32
    · have c_18623 : x1.toInt = -1 := by rw [ka_eq', show ((-1 : Int32)).toInt = -1 from by decide] at c_18623; exact c_18623
      refine lv_aload_n hx hb dX6_formulaAt_20 rfl (lv_at hl 0 rfl) ?_
      refine ka_get C lq_152 rfl hK hP 3 rfl 3 (by decide) lq_153 rfl dX6_formulaAt_21 ?_
      refine lv_goto (tgt := 32) hx hb dX6_formulaAt_24 (by decide) ?_
      exact ka_rRa C hr hlk (Or.inl ⟨_, rfl⟩) (va_rf_or _) ⟨o0, rfl, ho0⟩ dX6_formulaAt_32
  · obtain rfl : x0 = 1 := (ka_eq' _ _).mpr (y_18622.trans (by decide))
    refine lv_aload_n hx hb dX6_formulaAt_0 rfl (lv_at hl 0 rfl) ?_
    refine ka_get C lq_150 rfl hK hP 0 rfl 2 (by decide) lq_151 rfl dX6_formulaAt_1 ?_
    refine lv_iload_n hx hb dX6_formulaAt_4 rfl (lv_at hl 1 rfl) ?_
    refine ka_RV (n := 1) C (cg_X0_lessonAt_147 l D F a3 a5 a6 x7 k0 a7 a8 a9 a10 a11 a12) gX6_formulaAt_X0_lessonAt rfl (by decide +kernel) ⟨Nat.le_of_ble_eq_true rfl, Nat.le_of_ble_eq_true rfl⟩ hK hP hS hE hN [1, 2] rfl [0] rfl (ci := 0) rfl rfl 1 rfl rfl hl.1 (rest := []) rfl (Nat.le_of_ble_eq_true rfl) dX6_formulaAt_5 ⟨Nat.le_of_ble_eq_true rfl, Nat.le_of_ble_eq_true rfl⟩ (fun v hv => ?_)
    subst hv
    refine ka_stk (w := [.ref a8]) rfl ?_
    refine lv_astore_n (lv' := [(3, .ref a8), (0, .ref a0), (1, .int 1), (2, .int x1)]) hx hb dX6_formulaAt_8 rfl hl (by decide) rfl (fun ls hl => ?_)
    refine lv_aload_n hx hb dX6_formulaAt_9 rfl (lv_at hl 0 rfl) ?_
    refine lv_ifnonnull (tgt := 15) hx hb dX6_formulaAt_10 (by decide) ?_
    refine lv_iload_n hx hb dX6_formulaAt_15 rfl (lv_at hl 3 rfl) ?_
    refine lv_iconst (v := (-1)) hx hb dX6_formulaAt_16 (by decide) ?_
    refine lv_icmp_ne (tgt := 27) hx hb dX6_formulaAt_17 (by decide) (fun c_18625 => ?_) (fun c_18625 => ?_)
    · have c_18625 : ¬ x1.toInt = -1 := by rw [ka_eq', show ((-1 : Int32)).toInt = -1 from by decide] at c_18625; exact c_18625
      refine lv_aload_n hx hb dX6_formulaAt_27 rfl (lv_at hl 0 rfl) ?_
      refine lv_iload_n hx hb dX6_formulaAt_28 rfl (lv_at hl 3 rfl) ?_
      refine ka_RV (n := 1) C (cg_X2_pictureAt_140 l D F a8 x1 a15 a16 x9 o1 k2 po1 ⟨by omega, by omega⟩ ho1 hpo1) gX6_formulaAt_X2_pictureAt rfl (by decide +kernel) ⟨Nat.le_of_ble_eq_true rfl, Nat.le_of_ble_eq_true rfl⟩ hK hP hS hE hN [5, 6] rfl [2] rfl (ci := 2) rfl rfl 5 rfl rfl hl.1 (rest := []) rfl (Nat.le_of_ble_eq_true rfl) dX6_formulaAt_29 ⟨Nat.le_of_ble_eq_true rfl, Nat.le_of_ble_eq_true rfl⟩ (fun v hv => ?_)
      obtain ⟨o_18626, rfl, ho_18626⟩ := hv
      refine ka_stk (w := [va_rf o_18626]) rfl ?_
      exact ka_rRa C hr hlk (Or.inl ⟨_, rfl⟩) (va_rf_or _) ⟨o_18626, rfl, ho_18626⟩ dX6_formulaAt_32
    · have c_18625 : x1.toInt = -1 := by rw [ka_eq', show ((-1 : Int32)).toInt = -1 from by decide] at c_18625; exact c_18625
      refine lv_aload_n hx hb dX6_formulaAt_20 rfl (lv_at hl 0 rfl) ?_
      refine ka_get C lq_152 rfl hK hP 5 rfl 3 (by decide) lq_153 rfl dX6_formulaAt_21 ?_
      refine lv_goto (tgt := 32) hx hb dX6_formulaAt_24 (by decide) ?_
      exact ka_rRa C hr hlk (Or.inl ⟨_, rfl⟩) (va_rf_or _) ⟨o1, rfl, ho1⟩ dX6_formulaAt_32
  · obtain rfl : x0 = 2 := (ka_eq' _ _).mpr (y_18622.trans (by decide))
    refine lv_aload_n hx hb dX6_formulaAt_0 rfl (lv_at hl 0 rfl) ?_
    refine ka_get C lq_150 rfl hK hP 0 rfl 2 (by decide) lq_151 rfl dX6_formulaAt_1 ?_
    refine lv_iload_n hx hb dX6_formulaAt_4 rfl (lv_at hl 1 rfl) ?_
    refine ka_RV (n := 1) C (cg_X0_lessonAt_149 l D F a3 a5 a6 x7 k0 a7 a8 a9 a10 a11 a12) gX6_formulaAt_X0_lessonAt rfl (by decide +kernel) ⟨Nat.le_of_ble_eq_true rfl, Nat.le_of_ble_eq_true rfl⟩ hK hP hS hE hN [1, 2] rfl [0] rfl (ci := 0) rfl rfl 1 rfl rfl hl.1 (rest := []) rfl (Nat.le_of_ble_eq_true rfl) dX6_formulaAt_5 ⟨Nat.le_of_ble_eq_true rfl, Nat.le_of_ble_eq_true rfl⟩ (fun v hv => ?_)
    subst hv
    refine ka_stk (w := [.ref a9]) rfl ?_
    refine lv_astore_n (lv' := [(3, .ref a9), (0, .ref a0), (1, .int 2), (2, .int x1)]) hx hb dX6_formulaAt_8 rfl hl (by decide) rfl (fun ls hl => ?_)
    refine lv_aload_n hx hb dX6_formulaAt_9 rfl (lv_at hl 0 rfl) ?_
    refine lv_ifnonnull (tgt := 15) hx hb dX6_formulaAt_10 (by decide) ?_
    refine lv_iload_n hx hb dX6_formulaAt_15 rfl (lv_at hl 3 rfl) ?_
    refine lv_iconst (v := (-1)) hx hb dX6_formulaAt_16 (by decide) ?_
    refine lv_icmp_ne (tgt := 27) hx hb dX6_formulaAt_17 (by decide) (fun c_18627 => ?_) (fun c_18627 => ?_)
    · have c_18627 : ¬ x1.toInt = -1 := by rw [ka_eq', show ((-1 : Int32)).toInt = -1 from by decide] at c_18627; exact c_18627
      refine lv_aload_n hx hb dX6_formulaAt_27 rfl (lv_at hl 0 rfl) ?_
      refine lv_iload_n hx hb dX6_formulaAt_28 rfl (lv_at hl 3 rfl) ?_
      refine ka_RV (n := 1) C (cg_X2_pictureAt_140 l D F a9 x1 a17 a18 x10 o2 k3 po2 ⟨by omega, by omega⟩ ho2 hpo2) gX6_formulaAt_X2_pictureAt rfl (by decide +kernel) ⟨Nat.le_of_ble_eq_true rfl, Nat.le_of_ble_eq_true rfl⟩ hK hP hS hE hN [7, 8] rfl [3] rfl (ci := 2) rfl rfl 7 rfl rfl hl.1 (rest := []) rfl (Nat.le_of_ble_eq_true rfl) dX6_formulaAt_29 ⟨Nat.le_of_ble_eq_true rfl, Nat.le_of_ble_eq_true rfl⟩ (fun v hv => ?_)
      obtain ⟨o_18628, rfl, ho_18628⟩ := hv
      refine ka_stk (w := [va_rf o_18628]) rfl ?_
      exact ka_rRa C hr hlk (Or.inl ⟨_, rfl⟩) (va_rf_or _) ⟨o_18628, rfl, ho_18628⟩ dX6_formulaAt_32
    · have c_18627 : x1.toInt = -1 := by rw [ka_eq', show ((-1 : Int32)).toInt = -1 from by decide] at c_18627; exact c_18627
      refine lv_aload_n hx hb dX6_formulaAt_20 rfl (lv_at hl 0 rfl) ?_
      refine ka_get C lq_152 rfl hK hP 7 rfl 3 (by decide) lq_153 rfl dX6_formulaAt_21 ?_
      refine lv_goto (tgt := 32) hx hb dX6_formulaAt_24 (by decide) ?_
      exact ka_rRa C hr hlk (Or.inl ⟨_, rfl⟩) (va_rf_or _) ⟨o2, rfl, ho2⟩ dX6_formulaAt_32
  · obtain rfl : x0 = 3 := (ka_eq' _ _).mpr (y_18622.trans (by decide))
    refine lv_aload_n hx hb dX6_formulaAt_0 rfl (lv_at hl 0 rfl) ?_
    refine ka_get C lq_150 rfl hK hP 0 rfl 2 (by decide) lq_151 rfl dX6_formulaAt_1 ?_
    refine lv_iload_n hx hb dX6_formulaAt_4 rfl (lv_at hl 1 rfl) ?_
    refine ka_RV (n := 1) C (cg_X0_lessonAt_151 l D F a3 a5 a6 x7 k0 a7 a8 a9 a10 a11 a12) gX6_formulaAt_X0_lessonAt rfl (by decide +kernel) ⟨Nat.le_of_ble_eq_true rfl, Nat.le_of_ble_eq_true rfl⟩ hK hP hS hE hN [1, 2] rfl [0] rfl (ci := 0) rfl rfl 1 rfl rfl hl.1 (rest := []) rfl (Nat.le_of_ble_eq_true rfl) dX6_formulaAt_5 ⟨Nat.le_of_ble_eq_true rfl, Nat.le_of_ble_eq_true rfl⟩ (fun v hv => ?_)
    subst hv
    refine ka_stk (w := [.ref a10]) rfl ?_
    refine lv_astore_n (lv' := [(3, .ref a10), (0, .ref a0), (1, .int 3), (2, .int x1)]) hx hb dX6_formulaAt_8 rfl hl (by decide) rfl (fun ls hl => ?_)
    refine lv_aload_n hx hb dX6_formulaAt_9 rfl (lv_at hl 0 rfl) ?_
    refine lv_ifnonnull (tgt := 15) hx hb dX6_formulaAt_10 (by decide) ?_
    refine lv_iload_n hx hb dX6_formulaAt_15 rfl (lv_at hl 3 rfl) ?_
    refine lv_iconst (v := (-1)) hx hb dX6_formulaAt_16 (by decide) ?_
    refine lv_icmp_ne (tgt := 27) hx hb dX6_formulaAt_17 (by decide) (fun c_18629 => ?_) (fun c_18629 => ?_)
    · have c_18629 : ¬ x1.toInt = -1 := by rw [ka_eq', show ((-1 : Int32)).toInt = -1 from by decide] at c_18629; exact c_18629
      refine lv_aload_n hx hb dX6_formulaAt_27 rfl (lv_at hl 0 rfl) ?_
      refine lv_iload_n hx hb dX6_formulaAt_28 rfl (lv_at hl 3 rfl) ?_
      refine ka_RV (n := 1) C (cg_X2_pictureAt_140 l D F a10 x1 a19 a20 x11 o3 k4 po3 ⟨by omega, by omega⟩ ho3 hpo3) gX6_formulaAt_X2_pictureAt rfl (by decide +kernel) ⟨Nat.le_of_ble_eq_true rfl, Nat.le_of_ble_eq_true rfl⟩ hK hP hS hE hN [9, 10] rfl [4] rfl (ci := 2) rfl rfl 9 rfl rfl hl.1 (rest := []) rfl (Nat.le_of_ble_eq_true rfl) dX6_formulaAt_29 ⟨Nat.le_of_ble_eq_true rfl, Nat.le_of_ble_eq_true rfl⟩ (fun v hv => ?_)
      obtain ⟨o_18630, rfl, ho_18630⟩ := hv
      refine ka_stk (w := [va_rf o_18630]) rfl ?_
      exact ka_rRa C hr hlk (Or.inl ⟨_, rfl⟩) (va_rf_or _) ⟨o_18630, rfl, ho_18630⟩ dX6_formulaAt_32
    · have c_18629 : x1.toInt = -1 := by rw [ka_eq', show ((-1 : Int32)).toInt = -1 from by decide] at c_18629; exact c_18629
      refine lv_aload_n hx hb dX6_formulaAt_20 rfl (lv_at hl 0 rfl) ?_
      refine ka_get C lq_152 rfl hK hP 9 rfl 3 (by decide) lq_153 rfl dX6_formulaAt_21 ?_
      refine lv_goto (tgt := 32) hx hb dX6_formulaAt_24 (by decide) ?_
      exact ka_rRa C hr hlk (Or.inl ⟨_, rfl⟩) (va_rf_or _) ⟨o3, rfl, ho3⟩ dX6_formulaAt_32
  · obtain rfl : x0 = 4 := (ka_eq' _ _).mpr (y_18622.trans (by decide))
    refine lv_aload_n hx hb dX6_formulaAt_0 rfl (lv_at hl 0 rfl) ?_
    refine ka_get C lq_150 rfl hK hP 0 rfl 2 (by decide) lq_151 rfl dX6_formulaAt_1 ?_
    refine lv_iload_n hx hb dX6_formulaAt_4 rfl (lv_at hl 1 rfl) ?_
    refine ka_RV (n := 1) C (cg_X0_lessonAt_153 l D F a3 a5 a6 x7 k0 a7 a8 a9 a10 a11 a12) gX6_formulaAt_X0_lessonAt rfl (by decide +kernel) ⟨Nat.le_of_ble_eq_true rfl, Nat.le_of_ble_eq_true rfl⟩ hK hP hS hE hN [1, 2] rfl [0] rfl (ci := 0) rfl rfl 1 rfl rfl hl.1 (rest := []) rfl (Nat.le_of_ble_eq_true rfl) dX6_formulaAt_5 ⟨Nat.le_of_ble_eq_true rfl, Nat.le_of_ble_eq_true rfl⟩ (fun v hv => ?_)
    subst hv
    refine ka_stk (w := [.ref a11]) rfl ?_
    refine lv_astore_n (lv' := [(3, .ref a11), (0, .ref a0), (1, .int 4), (2, .int x1)]) hx hb dX6_formulaAt_8 rfl hl (by decide) rfl (fun ls hl => ?_)
    refine lv_aload_n hx hb dX6_formulaAt_9 rfl (lv_at hl 0 rfl) ?_
    refine lv_ifnonnull (tgt := 15) hx hb dX6_formulaAt_10 (by decide) ?_
    refine lv_iload_n hx hb dX6_formulaAt_15 rfl (lv_at hl 3 rfl) ?_
    refine lv_iconst (v := (-1)) hx hb dX6_formulaAt_16 (by decide) ?_
    refine lv_icmp_ne (tgt := 27) hx hb dX6_formulaAt_17 (by decide) (fun c_18631 => ?_) (fun c_18631 => ?_)
    · have c_18631 : ¬ x1.toInt = -1 := by rw [ka_eq', show ((-1 : Int32)).toInt = -1 from by decide] at c_18631; exact c_18631
      refine lv_aload_n hx hb dX6_formulaAt_27 rfl (lv_at hl 0 rfl) ?_
      refine lv_iload_n hx hb dX6_formulaAt_28 rfl (lv_at hl 3 rfl) ?_
      refine ka_RV (n := 1) C (cg_X2_pictureAt_140 l D F a11 x1 a21 a22 x12 o4 k5 po4 ⟨by omega, by omega⟩ ho4 hpo4) gX6_formulaAt_X2_pictureAt rfl (by decide +kernel) ⟨Nat.le_of_ble_eq_true rfl, Nat.le_of_ble_eq_true rfl⟩ hK hP hS hE hN [11, 12] rfl [5] rfl (ci := 2) rfl rfl 11 rfl rfl hl.1 (rest := []) rfl (Nat.le_of_ble_eq_true rfl) dX6_formulaAt_29 ⟨Nat.le_of_ble_eq_true rfl, Nat.le_of_ble_eq_true rfl⟩ (fun v hv => ?_)
      obtain ⟨o_18632, rfl, ho_18632⟩ := hv
      refine ka_stk (w := [va_rf o_18632]) rfl ?_
      exact ka_rRa C hr hlk (Or.inl ⟨_, rfl⟩) (va_rf_or _) ⟨o_18632, rfl, ho_18632⟩ dX6_formulaAt_32
    · have c_18631 : x1.toInt = -1 := by rw [ka_eq', show ((-1 : Int32)).toInt = -1 from by decide] at c_18631; exact c_18631
      refine lv_aload_n hx hb dX6_formulaAt_20 rfl (lv_at hl 0 rfl) ?_
      refine ka_get C lq_152 rfl hK hP 11 rfl 3 (by decide) lq_153 rfl dX6_formulaAt_21 ?_
      refine lv_goto (tgt := 32) hx hb dX6_formulaAt_24 (by decide) ?_
      exact ka_rRa C hr hlk (Or.inl ⟨_, rfl⟩) (va_rf_or _) ⟨o4, rfl, ho4⟩ dX6_formulaAt_32
  · obtain rfl : x0 = 5 := (ka_eq' _ _).mpr (y_18622.trans (by decide))
    refine lv_aload_n hx hb dX6_formulaAt_0 rfl (lv_at hl 0 rfl) ?_
    refine ka_get C lq_150 rfl hK hP 0 rfl 2 (by decide) lq_151 rfl dX6_formulaAt_1 ?_
    refine lv_iload_n hx hb dX6_formulaAt_4 rfl (lv_at hl 1 rfl) ?_
    refine ka_RV (n := 1) C (cg_X0_lessonAt_155 l D F a3 a5 a6 x7 k0 a7 a8 a9 a10 a11 a12) gX6_formulaAt_X0_lessonAt rfl (by decide +kernel) ⟨Nat.le_of_ble_eq_true rfl, Nat.le_of_ble_eq_true rfl⟩ hK hP hS hE hN [1, 2] rfl [0] rfl (ci := 0) rfl rfl 1 rfl rfl hl.1 (rest := []) rfl (Nat.le_of_ble_eq_true rfl) dX6_formulaAt_5 ⟨Nat.le_of_ble_eq_true rfl, Nat.le_of_ble_eq_true rfl⟩ (fun v hv => ?_)
    subst hv
    refine ka_stk (w := [.ref a12]) rfl ?_
    refine lv_astore_n (lv' := [(3, .ref a12), (0, .ref a0), (1, .int 5), (2, .int x1)]) hx hb dX6_formulaAt_8 rfl hl (by decide) rfl (fun ls hl => ?_)
    refine lv_aload_n hx hb dX6_formulaAt_9 rfl (lv_at hl 0 rfl) ?_
    refine lv_ifnonnull (tgt := 15) hx hb dX6_formulaAt_10 (by decide) ?_
    refine lv_iload_n hx hb dX6_formulaAt_15 rfl (lv_at hl 3 rfl) ?_
    refine lv_iconst (v := (-1)) hx hb dX6_formulaAt_16 (by decide) ?_
    refine lv_icmp_ne (tgt := 27) hx hb dX6_formulaAt_17 (by decide) (fun c_18633 => ?_) (fun c_18633 => ?_)
    · have c_18633 : ¬ x1.toInt = -1 := by rw [ka_eq', show ((-1 : Int32)).toInt = -1 from by decide] at c_18633; exact c_18633
      refine lv_aload_n hx hb dX6_formulaAt_27 rfl (lv_at hl 0 rfl) ?_
      refine lv_iload_n hx hb dX6_formulaAt_28 rfl (lv_at hl 3 rfl) ?_
      refine ka_RV (n := 1) C (cg_X2_pictureAt_140 l D F a12 x1 a23 a24 x13 o5 k6 po5 ⟨by omega, by omega⟩ ho5 hpo5) gX6_formulaAt_X2_pictureAt rfl (by decide +kernel) ⟨Nat.le_of_ble_eq_true rfl, Nat.le_of_ble_eq_true rfl⟩ hK hP hS hE hN [13, 14] rfl [6] rfl (ci := 2) rfl rfl 13 rfl rfl hl.1 (rest := []) rfl (Nat.le_of_ble_eq_true rfl) dX6_formulaAt_29 ⟨Nat.le_of_ble_eq_true rfl, Nat.le_of_ble_eq_true rfl⟩ (fun v hv => ?_)
      obtain ⟨o_18634, rfl, ho_18634⟩ := hv
      refine ka_stk (w := [va_rf o_18634]) rfl ?_
      exact ka_rRa C hr hlk (Or.inl ⟨_, rfl⟩) (va_rf_or _) ⟨o_18634, rfl, ho_18634⟩ dX6_formulaAt_32
    · have c_18633 : x1.toInt = -1 := by rw [ka_eq', show ((-1 : Int32)).toInt = -1 from by decide] at c_18633; exact c_18633
      refine lv_aload_n hx hb dX6_formulaAt_20 rfl (lv_at hl 0 rfl) ?_
      refine ka_get C lq_152 rfl hK hP 13 rfl 3 (by decide) lq_153 rfl dX6_formulaAt_21 ?_
      refine lv_goto (tgt := 32) hx hb dX6_formulaAt_24 (by decide) ?_
      exact ka_rRa C hr hlk (Or.inl ⟨_, rfl⟩) (va_rf_or _) ⟨o5, rfl, ho5⟩ dX6_formulaAt_32
  · skip
    refine lv_aload_n hx hb dX6_formulaAt_0 rfl (lv_at hl 0 rfl) ?_
    refine ka_get C lq_150 rfl hK hP 0 rfl 2 (by decide) lq_151 rfl dX6_formulaAt_1 ?_
    refine lv_iload_n hx hb dX6_formulaAt_4 rfl (lv_at hl 1 rfl) ?_
    refine ka_RV (n := 1) C (cg_X0_lessonAt_157 l D F a3 x0 (by omega)) gX6_formulaAt_X0_lessonAt rfl (by decide +kernel) ⟨Nat.le_of_ble_eq_true rfl, Nat.le_of_ble_eq_true rfl⟩ hK hP hS hE hN [] rfl [] rfl (ci := 0) rfl rfl 1 rfl rfl hl.1 (rest := []) rfl (Nat.le_of_ble_eq_true rfl) dX6_formulaAt_5 ⟨Nat.le_of_ble_eq_true rfl, Nat.le_of_ble_eq_true rfl⟩ (fun v hv => ?_)
    subst hv
    refine ka_stk (w := [.null]) rfl ?_
    refine lv_astore_nN (lv' := [(3, .null), (0, .ref a0), (1, .int x0), (2, .int x1)]) hx hb dX6_formulaAt_8 rfl hl (by decide) rfl (fun ls hl => ?_)
    refine lv_aload_nN hx hb dX6_formulaAt_9 rfl (lv_at hl 0 rfl) ?_
    refine lv_ifnonnullN hx hb dX6_formulaAt_10 ?_
    refine lv_null hx hb dX6_formulaAt_13 ?_
    exact ka_rRa C hr hlk (Or.inl ⟨_, rfl⟩) (Or.inl rfl) ⟨none, rfl, (fun _ h => by cases h)⟩ dX6_formulaAt_14
set_option maxHeartbeats 4000000 in
set_option maxRecDepth 100000 in
theorem cg_X0_isLesson_160 (l : Launch) (D : va_G) (F : Nat → Prop) : ka_R l D F yX0_isLesson wsX0_isLesson 0 0 [.int (-1)] [] [] (fun v => v = some (.int 0)) := by
  refine ka_R_of (cc := cX0_isLesson) (maxL := 1) (ret := (some .boolean)) (by decide) rfl (Nat.le_of_ble_eq_true rfl) ?_
  intro p e s m below meth c ls C hr hlk hP hK hE hN hl
  have hS : va_S (fun _ => False) s.heap s.heap [] := va_S.rf
  have C : CallFix p m c cX0_isLesson 1 s [.int (-1)].toArray wsX0_isLesson RX0 := C
  obtain ⟨hx, hb, hml, hown, hts⟩ := id C
  have hl : lv_has ls 1 [(0, .int (-1))] := hl
  refine lv_iload_n hx hb dX0_isLesson_0 rfl (lv_at hl 0 rfl) ?_
  refine lv_if_lt (tgt := 14) hx hb dX0_isLesson_1 (by decide) (fun _ => ?_) (fun c_ => absurd (by decide) c_)
  refine lv_iconst (v := 0) hx hb dX0_isLesson_14 (by decide) ?_
  exact ka_rRz C hr hlk rfl rfl dX0_isLesson_15
set_option maxHeartbeats 4000000 in
set_option maxRecDepth 100000 in
theorem cg_X0_lessonAt_161 (l : Launch) (D : va_G) (F : Nat → Prop) (a0 : Nat) : ka_R l D F yX0_lessonAt wsX0_lessonAt 1 20 [.ref a0, .int (-1)] [] [] (fun v => v = some (.null)) := by
  refine ka_R_of (cc := cX0_lessonAt) (maxL := 2) (ret := (some (.object "AskedBack$Lesson"))) (by decide) rfl (Nat.le_of_ble_eq_true rfl) ?_
  intro p e s m below meth c ls C hr hlk hP hK hE hN hl
  have hS : va_S (fun _ => False) s.heap s.heap [] := va_S.rf
  have C : CallFix p m c cX0_lessonAt 2 s [.ref a0, .int (-1)].toArray wsX0_lessonAt RX0 := C
  obtain ⟨hx, hb, hml, hown, hts⟩ := id C
  have hl : lv_has ls 2 [(0, .ref a0), (1, .int (-1))] := hl
  refine lv_iload_n hx hb dX0_lessonAt_0 rfl (lv_at hl 1 rfl) ?_
  refine ka_RS (n := 1) C (cg_X0_isLesson_160 l D F ) gX0_lessonAt_X0_isLesson rfl (by decide +kernel) ⟨Nat.le_of_ble_eq_true rfl, Nat.le_of_ble_eq_true rfl⟩ hK hP hS hE hN [] rfl [] rfl rfl hl.1 (rest := []) rfl (Nat.le_of_ble_eq_true rfl) dX0_lessonAt_1 ⟨Nat.le_of_ble_eq_true rfl, Nat.le_of_ble_eq_true rfl⟩ (fun v hv => ?_)
  subst hv
  refine ka_stk (w := [.int 0]) rfl ?_
  refine lv_if_eq (tgt := 16) hx hb dX0_lessonAt_4 (by decide) (fun _ => ?_) (fun c_ => absurd (by decide) c_)
  refine lv_null hx hb dX0_lessonAt_16 ?_
  exact ka_rRa C hr hlk (Or.inl ⟨_, rfl⟩) (Or.inl rfl) rfl dX0_lessonAt_17
set_option maxHeartbeats 4000000 in
set_option maxRecDepth 100000 in
theorem cg_X6_formulaAt_162 (l : Launch) (D : va_G) (F : Nat → Prop) (a0 : Nat) (a1 : Nat) (a2 : Nat) (a3 : Nat) (a4 : Nat) (x0 : Int32) (x1 : Int32) (x2 : Int32) (x3 : Int32) (x4 : Int32) (a5 : Nat) (a6 : Nat) (x5 : Int32) (hx0 : -1 ≤ x0.toInt ∧ x0.toInt ≤ 5) : ka_R l D F yX6_formulaAt wsX6_formulaAt 2 41 [.ref a0, .int (-1), .int (-1)] [(a0, .inr (6, [.ref a1, .ref a2, .ref a3, .ref a4, .int x0, .int x1, .int x2, .int x3, .int x4])), (a3, .inr (0, [.ref a5, .ref a6, .int x5]))] [] (fun v => v = some (.null)) := by
  refine ka_R_of (cc := cX6_formulaAt) (maxL := 4) (ret := (some (.object "AskedBack$Formula"))) (by decide) rfl (Nat.le_of_ble_eq_true rfl) ?_
  intro p e s m below meth c ls C hr hlk hP hK hE hN hl
  have hS : va_S (fun _ => False) s.heap s.heap [] := va_S.rf
  have C : CallFix p m c cX6_formulaAt 4 s [.ref a0, .int (-1), .int (-1)].toArray wsX6_formulaAt RX6 := C
  obtain ⟨hx, hb, hml, hown, hts⟩ := id C
  have hl : lv_has ls 4 [(0, .ref a0), (1, .int (-1)), (2, .int (-1))] := hl
  have rx0 := ka_rng x0
  have rx1 := ka_rng x1
  have rx2 := ka_rng x2
  have rx3 := ka_rng x3
  have rx4 := ka_rng x4
  have rx5 := ka_rng x5
  refine lv_aload_n hx hb dX6_formulaAt_0 rfl (lv_at hl 0 rfl) ?_
  refine ka_get C lq_150 rfl hK hP 0 rfl 2 (by decide) lq_151 rfl dX6_formulaAt_1 ?_
  refine lv_iload_n hx hb dX6_formulaAt_4 rfl (lv_at hl 1 rfl) ?_
  refine ka_RV (n := 1) C (cg_X0_lessonAt_161 l D F a3) gX6_formulaAt_X0_lessonAt rfl (by decide +kernel) ⟨Nat.le_of_ble_eq_true rfl, Nat.le_of_ble_eq_true rfl⟩ hK hP hS hE hN [] rfl [] rfl (ci := 0) rfl rfl 1 rfl rfl hl.1 (rest := []) rfl (Nat.le_of_ble_eq_true rfl) dX6_formulaAt_5 ⟨Nat.le_of_ble_eq_true rfl, Nat.le_of_ble_eq_true rfl⟩ (fun v hv => ?_)
  subst hv
  refine ka_stk (w := [.null]) rfl ?_
  refine lv_astore_nN (lv' := [(3, .null), (0, .ref a0), (1, .int (-1)), (2, .int (-1))]) hx hb dX6_formulaAt_8 rfl hl (by decide) rfl (fun ls hl => ?_)
  refine lv_aload_nN hx hb dX6_formulaAt_9 rfl (lv_at hl 0 rfl) ?_
  refine lv_ifnonnullN hx hb dX6_formulaAt_10 ?_
  refine lv_null hx hb dX6_formulaAt_13 ?_
  exact ka_rRa C hr hlk (Or.inl ⟨_, rfl⟩) (Or.inl rfl) rfl dX6_formulaAt_14
set_option maxHeartbeats 4000000 in
set_option maxRecDepth 100000 in
theorem cg_X6_formulaAt_163 (l : Launch) (D : va_G) (F : Nat → Prop) (a0 : Nat) (a1 : Nat) (a2 : Nat) (a3 : Nat) (a4 : Nat) (x0 : Int32) (x1 : Int32) (x2 : Int32) (x3 : Int32) (x4 : Int32) (a5 : Nat) (a6 : Nat) (x5 : Int32) (k0 : ClassId) (a7 : Nat) (a8 : Nat) (a9 : Nat) (a10 : Nat) (a11 : Nat) (a12 : Nat) (a13 : Nat) (a14 : Nat) (x6 : Int32) (o0 : Option Nat) (hx0 : -1 ≤ x0.toInt ∧ x0.toInt ≤ 5) (hx6 : 0 ≤ x6.toInt ∧ x6.toInt ≤ 12) (ho0 : ∀ a : Nat, o0 = some a → F a) : ka_R l D F yX6_formulaAt wsX6_formulaAt 2 41 [.ref a0, .int 0, .int (-1)] [(a0, .inr (6, [.ref a1, .ref a2, .ref a3, .ref a4, .int x0, .int x1, .int x2, .int x3, .int x4])), (a3, .inr (0, [.ref a5, .ref a6, .int x5])), (a5, .inl (k0, 6, .inr (.inr (.inr (.inr (va_up (va_up (va_up (va_up (va_up (va_up (fun _ => none) 0 (some a7)) 1 (some a8)) 2 (some a9)) 3 (some a10)) 4 (some a11)) 5 (some a12))))))), (a7, .inr (2, [.ref a13, .ref a14, .int x6, va_rf o0]))] [(k0, .object RX2)] (fun v => v = some (va_rf o0)) := by
  refine ka_R_of (cc := cX6_formulaAt) (maxL := 4) (ret := (some (.object "AskedBack$Formula"))) (by decide) rfl (Nat.le_of_ble_eq_true rfl) ?_
  intro p e s m below meth c ls C hr hlk hP hK hE hN hl
  have hS : va_S (fun _ => False) s.heap s.heap [] := va_S.rf
  have C : CallFix p m c cX6_formulaAt 4 s [.ref a0, .int 0, .int (-1)].toArray wsX6_formulaAt RX6 := C
  obtain ⟨hx, hb, hml, hown, hts⟩ := id C
  have hl : lv_has ls 4 [(0, .ref a0), (1, .int 0), (2, .int (-1))] := hl
  have rx0 := ka_rng x0
  have rx1 := ka_rng x1
  have rx2 := ka_rng x2
  have rx3 := ka_rng x3
  have rx4 := ka_rng x4
  have rx5 := ka_rng x5
  have rx6 := ka_rng x6
  refine lv_aload_n hx hb dX6_formulaAt_0 rfl (lv_at hl 0 rfl) ?_
  refine ka_get C lq_150 rfl hK hP 0 rfl 2 (by decide) lq_151 rfl dX6_formulaAt_1 ?_
  refine lv_iload_n hx hb dX6_formulaAt_4 rfl (lv_at hl 1 rfl) ?_
  refine ka_RV (n := 1) C (cg_X0_lessonAt_145 l D F a3 a5 a6 x5 k0 a7 a8 a9 a10 a11 a12) gX6_formulaAt_X0_lessonAt rfl (by decide +kernel) ⟨Nat.le_of_ble_eq_true rfl, Nat.le_of_ble_eq_true rfl⟩ hK hP hS hE hN [1, 2] rfl [0] rfl (ci := 0) rfl rfl 1 rfl rfl hl.1 (rest := []) rfl (Nat.le_of_ble_eq_true rfl) dX6_formulaAt_5 ⟨Nat.le_of_ble_eq_true rfl, Nat.le_of_ble_eq_true rfl⟩ (fun v hv => ?_)
  subst hv
  refine ka_stk (w := [.ref a7]) rfl ?_
  refine lv_astore_n (lv' := [(3, .ref a7), (0, .ref a0), (1, .int 0), (2, .int (-1))]) hx hb dX6_formulaAt_8 rfl hl (by decide) rfl (fun ls hl => ?_)
  refine lv_aload_n hx hb dX6_formulaAt_9 rfl (lv_at hl 0 rfl) ?_
  refine lv_ifnonnull (tgt := 15) hx hb dX6_formulaAt_10 (by decide) ?_
  refine lv_iload_n hx hb dX6_formulaAt_15 rfl (lv_at hl 3 rfl) ?_
  refine lv_iconst (v := (-1)) hx hb dX6_formulaAt_16 (by decide) ?_
  refine lv_icmp_ne (tgt := 27) hx hb dX6_formulaAt_17 (by decide) (fun c_ => absurd (by decide) c_) (fun _ => ?_)
  refine lv_aload_n hx hb dX6_formulaAt_20 rfl (lv_at hl 0 rfl) ?_
  refine ka_get C lq_152 rfl hK hP 3 rfl 3 (by decide) lq_153 rfl dX6_formulaAt_21 ?_
  refine lv_goto (tgt := 32) hx hb dX6_formulaAt_24 (by decide) ?_
  exact ka_rRa C hr hlk (Or.inl ⟨_, rfl⟩) (va_rf_or _) rfl dX6_formulaAt_32
set_option maxHeartbeats 4000000 in
set_option maxRecDepth 100000 in
theorem cg_X6_formulaAt_164 (l : Launch) (D : va_G) (F : Nat → Prop) (a0 : Nat) (a1 : Nat) (a2 : Nat) (a3 : Nat) (a4 : Nat) (x0 : Int32) (x1 : Int32) (x2 : Int32) (x3 : Int32) (x4 : Int32) (a5 : Nat) (a6 : Nat) (x5 : Int32) (k0 : ClassId) (a7 : Nat) (a8 : Nat) (a9 : Nat) (a10 : Nat) (a11 : Nat) (a12 : Nat) (a13 : Nat) (a14 : Nat) (x6 : Int32) (o0 : Option Nat) (hx0 : -1 ≤ x0.toInt ∧ x0.toInt ≤ 5) (hx6 : 0 ≤ x6.toInt ∧ x6.toInt ≤ 12) (ho0 : ∀ a : Nat, o0 = some a → F a) : ka_R l D F yX6_formulaAt wsX6_formulaAt 2 41 [.ref a0, .int 1, .int (-1)] [(a0, .inr (6, [.ref a1, .ref a2, .ref a3, .ref a4, .int x0, .int x1, .int x2, .int x3, .int x4])), (a3, .inr (0, [.ref a5, .ref a6, .int x5])), (a5, .inl (k0, 6, .inr (.inr (.inr (.inr (va_up (va_up (va_up (va_up (va_up (va_up (fun _ => none) 0 (some a7)) 1 (some a8)) 2 (some a9)) 3 (some a10)) 4 (some a11)) 5 (some a12))))))), (a8, .inr (2, [.ref a13, .ref a14, .int x6, va_rf o0]))] [(k0, .object RX2)] (fun v => v = some (va_rf o0)) := by
  refine ka_R_of (cc := cX6_formulaAt) (maxL := 4) (ret := (some (.object "AskedBack$Formula"))) (by decide) rfl (Nat.le_of_ble_eq_true rfl) ?_
  intro p e s m below meth c ls C hr hlk hP hK hE hN hl
  have hS : va_S (fun _ => False) s.heap s.heap [] := va_S.rf
  have C : CallFix p m c cX6_formulaAt 4 s [.ref a0, .int 1, .int (-1)].toArray wsX6_formulaAt RX6 := C
  obtain ⟨hx, hb, hml, hown, hts⟩ := id C
  have hl : lv_has ls 4 [(0, .ref a0), (1, .int 1), (2, .int (-1))] := hl
  have rx0 := ka_rng x0
  have rx1 := ka_rng x1
  have rx2 := ka_rng x2
  have rx3 := ka_rng x3
  have rx4 := ka_rng x4
  have rx5 := ka_rng x5
  have rx6 := ka_rng x6
  refine lv_aload_n hx hb dX6_formulaAt_0 rfl (lv_at hl 0 rfl) ?_
  refine ka_get C lq_150 rfl hK hP 0 rfl 2 (by decide) lq_151 rfl dX6_formulaAt_1 ?_
  refine lv_iload_n hx hb dX6_formulaAt_4 rfl (lv_at hl 1 rfl) ?_
  refine ka_RV (n := 1) C (cg_X0_lessonAt_147 l D F a3 a5 a6 x5 k0 a7 a8 a9 a10 a11 a12) gX6_formulaAt_X0_lessonAt rfl (by decide +kernel) ⟨Nat.le_of_ble_eq_true rfl, Nat.le_of_ble_eq_true rfl⟩ hK hP hS hE hN [1, 2] rfl [0] rfl (ci := 0) rfl rfl 1 rfl rfl hl.1 (rest := []) rfl (Nat.le_of_ble_eq_true rfl) dX6_formulaAt_5 ⟨Nat.le_of_ble_eq_true rfl, Nat.le_of_ble_eq_true rfl⟩ (fun v hv => ?_)
  subst hv
  refine ka_stk (w := [.ref a8]) rfl ?_
  refine lv_astore_n (lv' := [(3, .ref a8), (0, .ref a0), (1, .int 1), (2, .int (-1))]) hx hb dX6_formulaAt_8 rfl hl (by decide) rfl (fun ls hl => ?_)
  refine lv_aload_n hx hb dX6_formulaAt_9 rfl (lv_at hl 0 rfl) ?_
  refine lv_ifnonnull (tgt := 15) hx hb dX6_formulaAt_10 (by decide) ?_
  refine lv_iload_n hx hb dX6_formulaAt_15 rfl (lv_at hl 3 rfl) ?_
  refine lv_iconst (v := (-1)) hx hb dX6_formulaAt_16 (by decide) ?_
  refine lv_icmp_ne (tgt := 27) hx hb dX6_formulaAt_17 (by decide) (fun c_ => absurd (by decide) c_) (fun _ => ?_)
  refine lv_aload_n hx hb dX6_formulaAt_20 rfl (lv_at hl 0 rfl) ?_
  refine ka_get C lq_152 rfl hK hP 3 rfl 3 (by decide) lq_153 rfl dX6_formulaAt_21 ?_
  refine lv_goto (tgt := 32) hx hb dX6_formulaAt_24 (by decide) ?_
  exact ka_rRa C hr hlk (Or.inl ⟨_, rfl⟩) (va_rf_or _) rfl dX6_formulaAt_32
set_option maxHeartbeats 4000000 in
set_option maxRecDepth 100000 in
theorem cg_X6_formulaAt_165 (l : Launch) (D : va_G) (F : Nat → Prop) (a0 : Nat) (a1 : Nat) (a2 : Nat) (a3 : Nat) (a4 : Nat) (x0 : Int32) (x1 : Int32) (x2 : Int32) (x3 : Int32) (x4 : Int32) (a5 : Nat) (a6 : Nat) (x5 : Int32) (k0 : ClassId) (a7 : Nat) (a8 : Nat) (a9 : Nat) (a10 : Nat) (a11 : Nat) (a12 : Nat) (a13 : Nat) (a14 : Nat) (x6 : Int32) (o0 : Option Nat) (hx0 : -1 ≤ x0.toInt ∧ x0.toInt ≤ 5) (hx6 : 0 ≤ x6.toInt ∧ x6.toInt ≤ 12) (ho0 : ∀ a : Nat, o0 = some a → F a) : ka_R l D F yX6_formulaAt wsX6_formulaAt 2 41 [.ref a0, .int 2, .int (-1)] [(a0, .inr (6, [.ref a1, .ref a2, .ref a3, .ref a4, .int x0, .int x1, .int x2, .int x3, .int x4])), (a3, .inr (0, [.ref a5, .ref a6, .int x5])), (a5, .inl (k0, 6, .inr (.inr (.inr (.inr (va_up (va_up (va_up (va_up (va_up (va_up (fun _ => none) 0 (some a7)) 1 (some a8)) 2 (some a9)) 3 (some a10)) 4 (some a11)) 5 (some a12))))))), (a9, .inr (2, [.ref a13, .ref a14, .int x6, va_rf o0]))] [(k0, .object RX2)] (fun v => v = some (va_rf o0)) := by
  refine ka_R_of (cc := cX6_formulaAt) (maxL := 4) (ret := (some (.object "AskedBack$Formula"))) (by decide) rfl (Nat.le_of_ble_eq_true rfl) ?_
  intro p e s m below meth c ls C hr hlk hP hK hE hN hl
  have hS : va_S (fun _ => False) s.heap s.heap [] := va_S.rf
  have C : CallFix p m c cX6_formulaAt 4 s [.ref a0, .int 2, .int (-1)].toArray wsX6_formulaAt RX6 := C
  obtain ⟨hx, hb, hml, hown, hts⟩ := id C
  have hl : lv_has ls 4 [(0, .ref a0), (1, .int 2), (2, .int (-1))] := hl
  have rx0 := ka_rng x0
  have rx1 := ka_rng x1
  have rx2 := ka_rng x2
  have rx3 := ka_rng x3
  have rx4 := ka_rng x4
  have rx5 := ka_rng x5
  have rx6 := ka_rng x6
  refine lv_aload_n hx hb dX6_formulaAt_0 rfl (lv_at hl 0 rfl) ?_
  refine ka_get C lq_150 rfl hK hP 0 rfl 2 (by decide) lq_151 rfl dX6_formulaAt_1 ?_
  refine lv_iload_n hx hb dX6_formulaAt_4 rfl (lv_at hl 1 rfl) ?_
  refine ka_RV (n := 1) C (cg_X0_lessonAt_149 l D F a3 a5 a6 x5 k0 a7 a8 a9 a10 a11 a12) gX6_formulaAt_X0_lessonAt rfl (by decide +kernel) ⟨Nat.le_of_ble_eq_true rfl, Nat.le_of_ble_eq_true rfl⟩ hK hP hS hE hN [1, 2] rfl [0] rfl (ci := 0) rfl rfl 1 rfl rfl hl.1 (rest := []) rfl (Nat.le_of_ble_eq_true rfl) dX6_formulaAt_5 ⟨Nat.le_of_ble_eq_true rfl, Nat.le_of_ble_eq_true rfl⟩ (fun v hv => ?_)
  subst hv
  refine ka_stk (w := [.ref a9]) rfl ?_
  refine lv_astore_n (lv' := [(3, .ref a9), (0, .ref a0), (1, .int 2), (2, .int (-1))]) hx hb dX6_formulaAt_8 rfl hl (by decide) rfl (fun ls hl => ?_)
  refine lv_aload_n hx hb dX6_formulaAt_9 rfl (lv_at hl 0 rfl) ?_
  refine lv_ifnonnull (tgt := 15) hx hb dX6_formulaAt_10 (by decide) ?_
  refine lv_iload_n hx hb dX6_formulaAt_15 rfl (lv_at hl 3 rfl) ?_
  refine lv_iconst (v := (-1)) hx hb dX6_formulaAt_16 (by decide) ?_
  refine lv_icmp_ne (tgt := 27) hx hb dX6_formulaAt_17 (by decide) (fun c_ => absurd (by decide) c_) (fun _ => ?_)
  refine lv_aload_n hx hb dX6_formulaAt_20 rfl (lv_at hl 0 rfl) ?_
  refine ka_get C lq_152 rfl hK hP 3 rfl 3 (by decide) lq_153 rfl dX6_formulaAt_21 ?_
  refine lv_goto (tgt := 32) hx hb dX6_formulaAt_24 (by decide) ?_
  exact ka_rRa C hr hlk (Or.inl ⟨_, rfl⟩) (va_rf_or _) rfl dX6_formulaAt_32
set_option maxHeartbeats 4000000 in
set_option maxRecDepth 100000 in
theorem cg_X6_formulaAt_166 (l : Launch) (D : va_G) (F : Nat → Prop) (a0 : Nat) (a1 : Nat) (a2 : Nat) (a3 : Nat) (a4 : Nat) (x0 : Int32) (x1 : Int32) (x2 : Int32) (x3 : Int32) (x4 : Int32) (a5 : Nat) (a6 : Nat) (x5 : Int32) (k0 : ClassId) (a7 : Nat) (a8 : Nat) (a9 : Nat) (a10 : Nat) (a11 : Nat) (a12 : Nat) (a13 : Nat) (a14 : Nat) (x6 : Int32) (o0 : Option Nat) (hx0 : -1 ≤ x0.toInt ∧ x0.toInt ≤ 5) (hx6 : 0 ≤ x6.toInt ∧ x6.toInt ≤ 12) (ho0 : ∀ a : Nat, o0 = some a → F a) : ka_R l D F yX6_formulaAt wsX6_formulaAt 2 41 [.ref a0, .int 3, .int (-1)] [(a0, .inr (6, [.ref a1, .ref a2, .ref a3, .ref a4, .int x0, .int x1, .int x2, .int x3, .int x4])), (a3, .inr (0, [.ref a5, .ref a6, .int x5])), (a5, .inl (k0, 6, .inr (.inr (.inr (.inr (va_up (va_up (va_up (va_up (va_up (va_up (fun _ => none) 0 (some a7)) 1 (some a8)) 2 (some a9)) 3 (some a10)) 4 (some a11)) 5 (some a12))))))), (a10, .inr (2, [.ref a13, .ref a14, .int x6, va_rf o0]))] [(k0, .object RX2)] (fun v => v = some (va_rf o0)) := by
  refine ka_R_of (cc := cX6_formulaAt) (maxL := 4) (ret := (some (.object "AskedBack$Formula"))) (by decide) rfl (Nat.le_of_ble_eq_true rfl) ?_
  intro p e s m below meth c ls C hr hlk hP hK hE hN hl
  have hS : va_S (fun _ => False) s.heap s.heap [] := va_S.rf
  have C : CallFix p m c cX6_formulaAt 4 s [.ref a0, .int 3, .int (-1)].toArray wsX6_formulaAt RX6 := C
  obtain ⟨hx, hb, hml, hown, hts⟩ := id C
  have hl : lv_has ls 4 [(0, .ref a0), (1, .int 3), (2, .int (-1))] := hl
  have rx0 := ka_rng x0
  have rx1 := ka_rng x1
  have rx2 := ka_rng x2
  have rx3 := ka_rng x3
  have rx4 := ka_rng x4
  have rx5 := ka_rng x5
  have rx6 := ka_rng x6
  refine lv_aload_n hx hb dX6_formulaAt_0 rfl (lv_at hl 0 rfl) ?_
  refine ka_get C lq_150 rfl hK hP 0 rfl 2 (by decide) lq_151 rfl dX6_formulaAt_1 ?_
  refine lv_iload_n hx hb dX6_formulaAt_4 rfl (lv_at hl 1 rfl) ?_
  refine ka_RV (n := 1) C (cg_X0_lessonAt_151 l D F a3 a5 a6 x5 k0 a7 a8 a9 a10 a11 a12) gX6_formulaAt_X0_lessonAt rfl (by decide +kernel) ⟨Nat.le_of_ble_eq_true rfl, Nat.le_of_ble_eq_true rfl⟩ hK hP hS hE hN [1, 2] rfl [0] rfl (ci := 0) rfl rfl 1 rfl rfl hl.1 (rest := []) rfl (Nat.le_of_ble_eq_true rfl) dX6_formulaAt_5 ⟨Nat.le_of_ble_eq_true rfl, Nat.le_of_ble_eq_true rfl⟩ (fun v hv => ?_)
  subst hv
  refine ka_stk (w := [.ref a10]) rfl ?_
  refine lv_astore_n (lv' := [(3, .ref a10), (0, .ref a0), (1, .int 3), (2, .int (-1))]) hx hb dX6_formulaAt_8 rfl hl (by decide) rfl (fun ls hl => ?_)
  refine lv_aload_n hx hb dX6_formulaAt_9 rfl (lv_at hl 0 rfl) ?_
  refine lv_ifnonnull (tgt := 15) hx hb dX6_formulaAt_10 (by decide) ?_
  refine lv_iload_n hx hb dX6_formulaAt_15 rfl (lv_at hl 3 rfl) ?_
  refine lv_iconst (v := (-1)) hx hb dX6_formulaAt_16 (by decide) ?_
  refine lv_icmp_ne (tgt := 27) hx hb dX6_formulaAt_17 (by decide) (fun c_ => absurd (by decide) c_) (fun _ => ?_)
  refine lv_aload_n hx hb dX6_formulaAt_20 rfl (lv_at hl 0 rfl) ?_
  refine ka_get C lq_152 rfl hK hP 3 rfl 3 (by decide) lq_153 rfl dX6_formulaAt_21 ?_
  refine lv_goto (tgt := 32) hx hb dX6_formulaAt_24 (by decide) ?_
  exact ka_rRa C hr hlk (Or.inl ⟨_, rfl⟩) (va_rf_or _) rfl dX6_formulaAt_32
set_option maxHeartbeats 4000000 in
set_option maxRecDepth 100000 in
theorem cg_X6_formulaAt_167 (l : Launch) (D : va_G) (F : Nat → Prop) (a0 : Nat) (a1 : Nat) (a2 : Nat) (a3 : Nat) (a4 : Nat) (x0 : Int32) (x1 : Int32) (x2 : Int32) (x3 : Int32) (x4 : Int32) (a5 : Nat) (a6 : Nat) (x5 : Int32) (k0 : ClassId) (a7 : Nat) (a8 : Nat) (a9 : Nat) (a10 : Nat) (a11 : Nat) (a12 : Nat) (a13 : Nat) (a14 : Nat) (x6 : Int32) (o0 : Option Nat) (hx0 : -1 ≤ x0.toInt ∧ x0.toInt ≤ 5) (hx6 : 0 ≤ x6.toInt ∧ x6.toInt ≤ 12) (ho0 : ∀ a : Nat, o0 = some a → F a) : ka_R l D F yX6_formulaAt wsX6_formulaAt 2 41 [.ref a0, .int 4, .int (-1)] [(a0, .inr (6, [.ref a1, .ref a2, .ref a3, .ref a4, .int x0, .int x1, .int x2, .int x3, .int x4])), (a3, .inr (0, [.ref a5, .ref a6, .int x5])), (a5, .inl (k0, 6, .inr (.inr (.inr (.inr (va_up (va_up (va_up (va_up (va_up (va_up (fun _ => none) 0 (some a7)) 1 (some a8)) 2 (some a9)) 3 (some a10)) 4 (some a11)) 5 (some a12))))))), (a11, .inr (2, [.ref a13, .ref a14, .int x6, va_rf o0]))] [(k0, .object RX2)] (fun v => v = some (va_rf o0)) := by
  refine ka_R_of (cc := cX6_formulaAt) (maxL := 4) (ret := (some (.object "AskedBack$Formula"))) (by decide) rfl (Nat.le_of_ble_eq_true rfl) ?_
  intro p e s m below meth c ls C hr hlk hP hK hE hN hl
  have hS : va_S (fun _ => False) s.heap s.heap [] := va_S.rf
  have C : CallFix p m c cX6_formulaAt 4 s [.ref a0, .int 4, .int (-1)].toArray wsX6_formulaAt RX6 := C
  obtain ⟨hx, hb, hml, hown, hts⟩ := id C
  have hl : lv_has ls 4 [(0, .ref a0), (1, .int 4), (2, .int (-1))] := hl
  have rx0 := ka_rng x0
  have rx1 := ka_rng x1
  have rx2 := ka_rng x2
  have rx3 := ka_rng x3
  have rx4 := ka_rng x4
  have rx5 := ka_rng x5
  have rx6 := ka_rng x6
  refine lv_aload_n hx hb dX6_formulaAt_0 rfl (lv_at hl 0 rfl) ?_
  refine ka_get C lq_150 rfl hK hP 0 rfl 2 (by decide) lq_151 rfl dX6_formulaAt_1 ?_
  refine lv_iload_n hx hb dX6_formulaAt_4 rfl (lv_at hl 1 rfl) ?_
  refine ka_RV (n := 1) C (cg_X0_lessonAt_153 l D F a3 a5 a6 x5 k0 a7 a8 a9 a10 a11 a12) gX6_formulaAt_X0_lessonAt rfl (by decide +kernel) ⟨Nat.le_of_ble_eq_true rfl, Nat.le_of_ble_eq_true rfl⟩ hK hP hS hE hN [1, 2] rfl [0] rfl (ci := 0) rfl rfl 1 rfl rfl hl.1 (rest := []) rfl (Nat.le_of_ble_eq_true rfl) dX6_formulaAt_5 ⟨Nat.le_of_ble_eq_true rfl, Nat.le_of_ble_eq_true rfl⟩ (fun v hv => ?_)
  subst hv
  refine ka_stk (w := [.ref a11]) rfl ?_
  refine lv_astore_n (lv' := [(3, .ref a11), (0, .ref a0), (1, .int 4), (2, .int (-1))]) hx hb dX6_formulaAt_8 rfl hl (by decide) rfl (fun ls hl => ?_)
  refine lv_aload_n hx hb dX6_formulaAt_9 rfl (lv_at hl 0 rfl) ?_
  refine lv_ifnonnull (tgt := 15) hx hb dX6_formulaAt_10 (by decide) ?_
  refine lv_iload_n hx hb dX6_formulaAt_15 rfl (lv_at hl 3 rfl) ?_
  refine lv_iconst (v := (-1)) hx hb dX6_formulaAt_16 (by decide) ?_
  refine lv_icmp_ne (tgt := 27) hx hb dX6_formulaAt_17 (by decide) (fun c_ => absurd (by decide) c_) (fun _ => ?_)
  refine lv_aload_n hx hb dX6_formulaAt_20 rfl (lv_at hl 0 rfl) ?_
  refine ka_get C lq_152 rfl hK hP 3 rfl 3 (by decide) lq_153 rfl dX6_formulaAt_21 ?_
  refine lv_goto (tgt := 32) hx hb dX6_formulaAt_24 (by decide) ?_
  exact ka_rRa C hr hlk (Or.inl ⟨_, rfl⟩) (va_rf_or _) rfl dX6_formulaAt_32
set_option maxHeartbeats 4000000 in
set_option maxRecDepth 100000 in
theorem cg_X6_formulaAt_168 (l : Launch) (D : va_G) (F : Nat → Prop) (a0 : Nat) (a1 : Nat) (a2 : Nat) (a3 : Nat) (a4 : Nat) (x0 : Int32) (x1 : Int32) (x2 : Int32) (x3 : Int32) (x4 : Int32) (a5 : Nat) (a6 : Nat) (x5 : Int32) (k0 : ClassId) (a7 : Nat) (a8 : Nat) (a9 : Nat) (a10 : Nat) (a11 : Nat) (a12 : Nat) (a13 : Nat) (a14 : Nat) (x6 : Int32) (o0 : Option Nat) (hx0 : -1 ≤ x0.toInt ∧ x0.toInt ≤ 5) (hx6 : 0 ≤ x6.toInt ∧ x6.toInt ≤ 12) (ho0 : ∀ a : Nat, o0 = some a → F a) : ka_R l D F yX6_formulaAt wsX6_formulaAt 2 41 [.ref a0, .int 5, .int (-1)] [(a0, .inr (6, [.ref a1, .ref a2, .ref a3, .ref a4, .int x0, .int x1, .int x2, .int x3, .int x4])), (a3, .inr (0, [.ref a5, .ref a6, .int x5])), (a5, .inl (k0, 6, .inr (.inr (.inr (.inr (va_up (va_up (va_up (va_up (va_up (va_up (fun _ => none) 0 (some a7)) 1 (some a8)) 2 (some a9)) 3 (some a10)) 4 (some a11)) 5 (some a12))))))), (a12, .inr (2, [.ref a13, .ref a14, .int x6, va_rf o0]))] [(k0, .object RX2)] (fun v => v = some (va_rf o0)) := by
  refine ka_R_of (cc := cX6_formulaAt) (maxL := 4) (ret := (some (.object "AskedBack$Formula"))) (by decide) rfl (Nat.le_of_ble_eq_true rfl) ?_
  intro p e s m below meth c ls C hr hlk hP hK hE hN hl
  have hS : va_S (fun _ => False) s.heap s.heap [] := va_S.rf
  have C : CallFix p m c cX6_formulaAt 4 s [.ref a0, .int 5, .int (-1)].toArray wsX6_formulaAt RX6 := C
  obtain ⟨hx, hb, hml, hown, hts⟩ := id C
  have hl : lv_has ls 4 [(0, .ref a0), (1, .int 5), (2, .int (-1))] := hl
  have rx0 := ka_rng x0
  have rx1 := ka_rng x1
  have rx2 := ka_rng x2
  have rx3 := ka_rng x3
  have rx4 := ka_rng x4
  have rx5 := ka_rng x5
  have rx6 := ka_rng x6
  refine lv_aload_n hx hb dX6_formulaAt_0 rfl (lv_at hl 0 rfl) ?_
  refine ka_get C lq_150 rfl hK hP 0 rfl 2 (by decide) lq_151 rfl dX6_formulaAt_1 ?_
  refine lv_iload_n hx hb dX6_formulaAt_4 rfl (lv_at hl 1 rfl) ?_
  refine ka_RV (n := 1) C (cg_X0_lessonAt_155 l D F a3 a5 a6 x5 k0 a7 a8 a9 a10 a11 a12) gX6_formulaAt_X0_lessonAt rfl (by decide +kernel) ⟨Nat.le_of_ble_eq_true rfl, Nat.le_of_ble_eq_true rfl⟩ hK hP hS hE hN [1, 2] rfl [0] rfl (ci := 0) rfl rfl 1 rfl rfl hl.1 (rest := []) rfl (Nat.le_of_ble_eq_true rfl) dX6_formulaAt_5 ⟨Nat.le_of_ble_eq_true rfl, Nat.le_of_ble_eq_true rfl⟩ (fun v hv => ?_)
  subst hv
  refine ka_stk (w := [.ref a12]) rfl ?_
  refine lv_astore_n (lv' := [(3, .ref a12), (0, .ref a0), (1, .int 5), (2, .int (-1))]) hx hb dX6_formulaAt_8 rfl hl (by decide) rfl (fun ls hl => ?_)
  refine lv_aload_n hx hb dX6_formulaAt_9 rfl (lv_at hl 0 rfl) ?_
  refine lv_ifnonnull (tgt := 15) hx hb dX6_formulaAt_10 (by decide) ?_
  refine lv_iload_n hx hb dX6_formulaAt_15 rfl (lv_at hl 3 rfl) ?_
  refine lv_iconst (v := (-1)) hx hb dX6_formulaAt_16 (by decide) ?_
  refine lv_icmp_ne (tgt := 27) hx hb dX6_formulaAt_17 (by decide) (fun c_ => absurd (by decide) c_) (fun _ => ?_)
  refine lv_aload_n hx hb dX6_formulaAt_20 rfl (lv_at hl 0 rfl) ?_
  refine ka_get C lq_152 rfl hK hP 3 rfl 3 (by decide) lq_153 rfl dX6_formulaAt_21 ?_
  refine lv_goto (tgt := 32) hx hb dX6_formulaAt_24 (by decide) ?_
  exact ka_rRa C hr hlk (Or.inl ⟨_, rfl⟩) (va_rf_or _) rfl dX6_formulaAt_32
theorem lq_154 : ∀ w ∈ wsX60, w ∈ wsX6_begunLaw := by decide +kernel
theorem lq_155 : Cond.fieldLink RX6 39 "AskedBack" "begun" "I" ∈ wsX6_begunLaw := by decide +kernel
set_option maxHeartbeats 4000000 in
set_option maxRecDepth 100000 in
theorem cg_X6_begunLaw_169 (l : Launch) (D : va_G) (F : Nat → Prop) (a0 : Nat) (a1 : Nat) (a2 : Nat) (a3 : Nat) (a4 : Nat) (x0 : Int32) (x1 : Int32) (x2 : Int32) (x3 : Int32) (x4 : Int32) (a5 : Nat) (a6 : Nat) (x5 : Int32) (k0 : ClassId) (a7 : Nat) (a8 : Nat) (a9 : Nat) (a10 : Nat) (a11 : Nat) (a12 : Nat) (a13 : Nat) (a14 : Nat) (x6 : Int32) (o0 : Option Nat) (a15 : Nat) (a16 : Nat) (x7 : Int32) (o1 : Option Nat) (a17 : Nat) (a18 : Nat) (x8 : Int32) (o2 : Option Nat) (a19 : Nat) (a20 : Nat) (x9 : Int32) (o3 : Option Nat) (a21 : Nat) (a22 : Nat) (x10 : Int32) (o4 : Option Nat) (a23 : Nat) (a24 : Nat) (x11 : Int32) (o5 : Option Nat) (hx0 : -1 ≤ x0.toInt ∧ x0.toInt ≤ 5) (hx6 : 0 ≤ x6.toInt ∧ x6.toInt ≤ 12) (ho0 : ∀ a : Nat, o0 = some a → F a) (hx7 : 0 ≤ x7.toInt ∧ x7.toInt ≤ 12) (ho1 : ∀ a : Nat, o1 = some a → F a) (hx8 : 0 ≤ x8.toInt ∧ x8.toInt ≤ 12) (ho2 : ∀ a : Nat, o2 = some a → F a) (hx9 : 0 ≤ x9.toInt ∧ x9.toInt ≤ 12) (ho3 : ∀ a : Nat, o3 = some a → F a) (hx10 : 0 ≤ x10.toInt ∧ x10.toInt ≤ 12) (ho4 : ∀ a : Nat, o4 = some a → F a) (hx11 : 0 ≤ x11.toInt ∧ x11.toInt ≤ 12) (ho5 : ∀ a : Nat, o5 = some a → F a) : ka_R l D F yX6_begunLaw wsX6_begunLaw 3 64 [.ref a0] [(a0, .inr (6, [.ref a1, .ref a2, .ref a3, .ref a4, .int x0, .int x1, .int x2, .int x3, .int x4])), (a3, .inr (0, [.ref a5, .ref a6, .int x5])), (a5, .inl (k0, 6, .inr (.inr (.inr (.inr (va_up (va_up (va_up (va_up (va_up (va_up (fun _ => none) 0 (some a7)) 1 (some a8)) 2 (some a9)) 3 (some a10)) 4 (some a11)) 5 (some a12))))))), (a7, .inr (2, [.ref a13, .ref a14, .int x6, va_rf o0])), (a8, .inr (2, [.ref a15, .ref a16, .int x7, va_rf o1])), (a9, .inr (2, [.ref a17, .ref a18, .int x8, va_rf o2])), (a10, .inr (2, [.ref a19, .ref a20, .int x9, va_rf o3])), (a11, .inr (2, [.ref a21, .ref a22, .int x10, va_rf o4])), (a12, .inr (2, [.ref a23, .ref a24, .int x11, va_rf o5]))] [(k0, .object RX2)] (fun v => ∃ o : Option Nat, v = some (va_rf o) ∧ ∀ a : Nat, o = some a → F a) := by
  refine ka_R_of (cc := cX6_begunLaw) (maxL := 1) (ret := (some (.object "AskedBack$Formula"))) (by decide) rfl (Nat.le_of_ble_eq_true rfl) ?_
  intro p e s m below meth c ls C hr hlk hP hK hE hN hl
  have hS : va_S (fun _ => False) s.heap s.heap [] := va_S.rf
  have C : CallFix p m c cX6_begunLaw 1 s [.ref a0].toArray wsX6_begunLaw RX6 := C
  obtain ⟨hx, hb, hml, hown, hts⟩ := id C
  have hl : lv_has ls 1 [(0, .ref a0)] := hl
  have rx0 := ka_rng x0
  have rx1 := ka_rng x1
  have rx2 := ka_rng x2
  have rx3 := ka_rng x3
  have rx4 := ka_rng x4
  have rx5 := ka_rng x5
  have rx6 := ka_rng x6
  have rx7 := ka_rng x7
  have rx8 := ka_rng x8
  have rx9 := ka_rng x9
  have rx10 := ka_rng x10
  have rx11 := ka_rng x11
  rcases (show x0.toInt = -1 ∨ x0.toInt = 0 ∨ x0.toInt = 1 ∨ x0.toInt = 2 ∨ x0.toInt = 3 ∨ x0.toInt = 4 ∨ x0.toInt = 5 by omega) with y_19005 | y_19005 | y_19005 | y_19005 | y_19005 | y_19005 | y_19005
  · obtain rfl : x0 = (-1) := (ka_eq' _ _).mpr (y_19005.trans (by decide))
    refine lv_aload_n hx hb dX6_begunLaw_0 rfl (lv_at hl 0 rfl) ?_
    refine lv_aload_n hx hb dX6_begunLaw_1 rfl (lv_at hl 0 rfl) ?_
    refine ka_get C lq_154 rfl hK hP 0 rfl 4 (by decide) lq_155 rfl dX6_begunLaw_2 ?_
    refine lv_iconst (v := (-1)) hx hb dX6_begunLaw_5 (by decide) ?_
    refine ka_RV (n := 2) C (cg_X6_formulaAt_162 l D F a0 a1 a2 a3 a4 (-1) x1 x2 x3 x4 a5 a6 x5 ⟨by decide, by decide⟩) gX6_begunLaw_X6_formulaAt rfl (by decide +kernel) ⟨Nat.le_of_ble_eq_true rfl, Nat.le_of_ble_eq_true rfl⟩ hK hP hS hE hN [0, 1] rfl [] rfl (ci := 6) rfl rfl 0 rfl rfl hl.1 (rest := []) rfl (Nat.le_of_ble_eq_true rfl) dX6_begunLaw_6 ⟨Nat.le_of_ble_eq_true rfl, Nat.le_of_ble_eq_true rfl⟩ (fun v hv => ?_)
    subst hv
    refine ka_stk (w := [.null]) rfl ?_
    exact ka_rRa C hr hlk (Or.inl ⟨_, rfl⟩) (Or.inl rfl) ⟨none, rfl, (fun _ h => by cases h)⟩ dX6_begunLaw_9
  · obtain rfl : x0 = 0 := (ka_eq' _ _).mpr (y_19005.trans (by decide))
    refine lv_aload_n hx hb dX6_begunLaw_0 rfl (lv_at hl 0 rfl) ?_
    refine lv_aload_n hx hb dX6_begunLaw_1 rfl (lv_at hl 0 rfl) ?_
    refine ka_get C lq_154 rfl hK hP 0 rfl 4 (by decide) lq_155 rfl dX6_begunLaw_2 ?_
    refine lv_iconst (v := (-1)) hx hb dX6_begunLaw_5 (by decide) ?_
    refine ka_RV (n := 2) C (cg_X6_formulaAt_163 l D F a0 a1 a2 a3 a4 0 x1 x2 x3 x4 a5 a6 x5 k0 a7 a8 a9 a10 a11 a12 a13 a14 x6 o0 ⟨by decide, by decide⟩ ⟨by omega, by omega⟩ ho0) gX6_begunLaw_X6_formulaAt rfl (by decide +kernel) ⟨Nat.le_of_ble_eq_true rfl, Nat.le_of_ble_eq_true rfl⟩ hK hP hS hE hN [0, 1, 2, 3] rfl [0] rfl (ci := 6) rfl rfl 0 rfl rfl hl.1 (rest := []) rfl (Nat.le_of_ble_eq_true rfl) dX6_begunLaw_6 ⟨Nat.le_of_ble_eq_true rfl, Nat.le_of_ble_eq_true rfl⟩ (fun v hv => ?_)
    subst hv
    refine ka_stk (w := [va_rf o0]) rfl ?_
    exact ka_rRa C hr hlk (Or.inl ⟨_, rfl⟩) (va_rf_or _) ⟨o0, rfl, ho0⟩ dX6_begunLaw_9
  · obtain rfl : x0 = 1 := (ka_eq' _ _).mpr (y_19005.trans (by decide))
    refine lv_aload_n hx hb dX6_begunLaw_0 rfl (lv_at hl 0 rfl) ?_
    refine lv_aload_n hx hb dX6_begunLaw_1 rfl (lv_at hl 0 rfl) ?_
    refine ka_get C lq_154 rfl hK hP 0 rfl 4 (by decide) lq_155 rfl dX6_begunLaw_2 ?_
    refine lv_iconst (v := (-1)) hx hb dX6_begunLaw_5 (by decide) ?_
    refine ka_RV (n := 2) C (cg_X6_formulaAt_164 l D F a0 a1 a2 a3 a4 1 x1 x2 x3 x4 a5 a6 x5 k0 a7 a8 a9 a10 a11 a12 a15 a16 x7 o1 ⟨by decide, by decide⟩ ⟨by omega, by omega⟩ ho1) gX6_begunLaw_X6_formulaAt rfl (by decide +kernel) ⟨Nat.le_of_ble_eq_true rfl, Nat.le_of_ble_eq_true rfl⟩ hK hP hS hE hN [0, 1, 2, 4] rfl [0] rfl (ci := 6) rfl rfl 0 rfl rfl hl.1 (rest := []) rfl (Nat.le_of_ble_eq_true rfl) dX6_begunLaw_6 ⟨Nat.le_of_ble_eq_true rfl, Nat.le_of_ble_eq_true rfl⟩ (fun v hv => ?_)
    subst hv
    refine ka_stk (w := [va_rf o1]) rfl ?_
    exact ka_rRa C hr hlk (Or.inl ⟨_, rfl⟩) (va_rf_or _) ⟨o1, rfl, ho1⟩ dX6_begunLaw_9
  · obtain rfl : x0 = 2 := (ka_eq' _ _).mpr (y_19005.trans (by decide))
    refine lv_aload_n hx hb dX6_begunLaw_0 rfl (lv_at hl 0 rfl) ?_
    refine lv_aload_n hx hb dX6_begunLaw_1 rfl (lv_at hl 0 rfl) ?_
    refine ka_get C lq_154 rfl hK hP 0 rfl 4 (by decide) lq_155 rfl dX6_begunLaw_2 ?_
    refine lv_iconst (v := (-1)) hx hb dX6_begunLaw_5 (by decide) ?_
    refine ka_RV (n := 2) C (cg_X6_formulaAt_165 l D F a0 a1 a2 a3 a4 2 x1 x2 x3 x4 a5 a6 x5 k0 a7 a8 a9 a10 a11 a12 a17 a18 x8 o2 ⟨by decide, by decide⟩ ⟨by omega, by omega⟩ ho2) gX6_begunLaw_X6_formulaAt rfl (by decide +kernel) ⟨Nat.le_of_ble_eq_true rfl, Nat.le_of_ble_eq_true rfl⟩ hK hP hS hE hN [0, 1, 2, 5] rfl [0] rfl (ci := 6) rfl rfl 0 rfl rfl hl.1 (rest := []) rfl (Nat.le_of_ble_eq_true rfl) dX6_begunLaw_6 ⟨Nat.le_of_ble_eq_true rfl, Nat.le_of_ble_eq_true rfl⟩ (fun v hv => ?_)
    subst hv
    refine ka_stk (w := [va_rf o2]) rfl ?_
    exact ka_rRa C hr hlk (Or.inl ⟨_, rfl⟩) (va_rf_or _) ⟨o2, rfl, ho2⟩ dX6_begunLaw_9
  · obtain rfl : x0 = 3 := (ka_eq' _ _).mpr (y_19005.trans (by decide))
    refine lv_aload_n hx hb dX6_begunLaw_0 rfl (lv_at hl 0 rfl) ?_
    refine lv_aload_n hx hb dX6_begunLaw_1 rfl (lv_at hl 0 rfl) ?_
    refine ka_get C lq_154 rfl hK hP 0 rfl 4 (by decide) lq_155 rfl dX6_begunLaw_2 ?_
    refine lv_iconst (v := (-1)) hx hb dX6_begunLaw_5 (by decide) ?_
    refine ka_RV (n := 2) C (cg_X6_formulaAt_166 l D F a0 a1 a2 a3 a4 3 x1 x2 x3 x4 a5 a6 x5 k0 a7 a8 a9 a10 a11 a12 a19 a20 x9 o3 ⟨by decide, by decide⟩ ⟨by omega, by omega⟩ ho3) gX6_begunLaw_X6_formulaAt rfl (by decide +kernel) ⟨Nat.le_of_ble_eq_true rfl, Nat.le_of_ble_eq_true rfl⟩ hK hP hS hE hN [0, 1, 2, 6] rfl [0] rfl (ci := 6) rfl rfl 0 rfl rfl hl.1 (rest := []) rfl (Nat.le_of_ble_eq_true rfl) dX6_begunLaw_6 ⟨Nat.le_of_ble_eq_true rfl, Nat.le_of_ble_eq_true rfl⟩ (fun v hv => ?_)
    subst hv
    refine ka_stk (w := [va_rf o3]) rfl ?_
    exact ka_rRa C hr hlk (Or.inl ⟨_, rfl⟩) (va_rf_or _) ⟨o3, rfl, ho3⟩ dX6_begunLaw_9
  · obtain rfl : x0 = 4 := (ka_eq' _ _).mpr (y_19005.trans (by decide))
    refine lv_aload_n hx hb dX6_begunLaw_0 rfl (lv_at hl 0 rfl) ?_
    refine lv_aload_n hx hb dX6_begunLaw_1 rfl (lv_at hl 0 rfl) ?_
    refine ka_get C lq_154 rfl hK hP 0 rfl 4 (by decide) lq_155 rfl dX6_begunLaw_2 ?_
    refine lv_iconst (v := (-1)) hx hb dX6_begunLaw_5 (by decide) ?_
    refine ka_RV (n := 2) C (cg_X6_formulaAt_167 l D F a0 a1 a2 a3 a4 4 x1 x2 x3 x4 a5 a6 x5 k0 a7 a8 a9 a10 a11 a12 a21 a22 x10 o4 ⟨by decide, by decide⟩ ⟨by omega, by omega⟩ ho4) gX6_begunLaw_X6_formulaAt rfl (by decide +kernel) ⟨Nat.le_of_ble_eq_true rfl, Nat.le_of_ble_eq_true rfl⟩ hK hP hS hE hN [0, 1, 2, 7] rfl [0] rfl (ci := 6) rfl rfl 0 rfl rfl hl.1 (rest := []) rfl (Nat.le_of_ble_eq_true rfl) dX6_begunLaw_6 ⟨Nat.le_of_ble_eq_true rfl, Nat.le_of_ble_eq_true rfl⟩ (fun v hv => ?_)
    subst hv
    refine ka_stk (w := [va_rf o4]) rfl ?_
    exact ka_rRa C hr hlk (Or.inl ⟨_, rfl⟩) (va_rf_or _) ⟨o4, rfl, ho4⟩ dX6_begunLaw_9
  · obtain rfl : x0 = 5 := (ka_eq' _ _).mpr (y_19005.trans (by decide))
    refine lv_aload_n hx hb dX6_begunLaw_0 rfl (lv_at hl 0 rfl) ?_
    refine lv_aload_n hx hb dX6_begunLaw_1 rfl (lv_at hl 0 rfl) ?_
    refine ka_get C lq_154 rfl hK hP 0 rfl 4 (by decide) lq_155 rfl dX6_begunLaw_2 ?_
    refine lv_iconst (v := (-1)) hx hb dX6_begunLaw_5 (by decide) ?_
    refine ka_RV (n := 2) C (cg_X6_formulaAt_168 l D F a0 a1 a2 a3 a4 5 x1 x2 x3 x4 a5 a6 x5 k0 a7 a8 a9 a10 a11 a12 a23 a24 x11 o5 ⟨by decide, by decide⟩ ⟨by omega, by omega⟩ ho5) gX6_begunLaw_X6_formulaAt rfl (by decide +kernel) ⟨Nat.le_of_ble_eq_true rfl, Nat.le_of_ble_eq_true rfl⟩ hK hP hS hE hN [0, 1, 2, 8] rfl [0] rfl (ci := 6) rfl rfl 0 rfl rfl hl.1 (rest := []) rfl (Nat.le_of_ble_eq_true rfl) dX6_begunLaw_6 ⟨Nat.le_of_ble_eq_true rfl, Nat.le_of_ble_eq_true rfl⟩ (fun v hv => ?_)
    subst hv
    refine ka_stk (w := [va_rf o5]) rfl ?_
    exact ka_rRa C hr hlk (Or.inl ⟨_, rfl⟩) (va_rf_or _) ⟨o5, rfl, ho5⟩ dX6_begunLaw_9
theorem lq_156 : ∀ w ∈ wsX60, w ∈ wsX6_fault := by decide +kernel
theorem lq_157 : Cond.fieldLink RX6 43 "AskedBack" "latestFault" "I" ∈ wsX6_fault := by decide +kernel
set_option maxHeartbeats 4000000 in
set_option maxRecDepth 100000 in
theorem cg_X6_fault_170 (l : Launch) (D : va_G) (F : Nat → Prop) (a0 : Nat) (a1 : Nat) (a2 : Nat) (a3 : Nat) (a4 : Nat) (x0 : Int32) (x1 : Int32) (x2 : Int32) (x3 : Int32) (x4 : Int32) (hx0 : -1 ≤ x0.toInt ∧ x0.toInt ≤ 5) : ka_R l D F yX6_fault wsX6_fault 0 0 [.ref a0] [(a0, .inr (6, [.ref a1, .ref a2, .ref a3, .ref a4, .int x0, .int x1, .int x2, .int x3, .int x4]))] [] (fun v => v = some (.int x1)) := by
  refine ka_R_of (cc := cX6_fault) (maxL := 1) (ret := (some .int)) (by decide) rfl (Nat.le_of_ble_eq_true rfl) ?_
  intro p e s m below meth c ls C hr hlk hP hK hE hN hl
  have hS : va_S (fun _ => False) s.heap s.heap [] := va_S.rf
  have C : CallFix p m c cX6_fault 1 s [.ref a0].toArray wsX6_fault RX6 := C
  obtain ⟨hx, hb, hml, hown, hts⟩ := id C
  have hl : lv_has ls 1 [(0, .ref a0)] := hl
  have rx0 := ka_rng x0
  have rx1 := ka_rng x1
  have rx2 := ka_rng x2
  have rx3 := ka_rng x3
  have rx4 := ka_rng x4
  refine lv_aload_n hx hb dX6_fault_0 rfl (lv_at hl 0 rfl) ?_
  refine ka_get C lq_156 rfl hK hP 0 rfl 5 (by decide) lq_157 rfl dX6_fault_1 ?_
  exact ka_rRi C hr hlk rfl dX6_fault_4
set_option maxHeartbeats 4000000 in
set_option maxRecDepth 100000 in
theorem cg_X6_isCase_171 (l : Launch) (D : va_G) (F : Nat → Prop) (x0 : Int32) : ka_R l D F yX6_isCase wsX6_isCase 0 0 [.int x0] [] [] (fun v => ∃ x : Int32, v = some (.int x) ∧ 0 ≤ x.toInt ∧ x.toInt ≤ 1) := by
  refine ka_R_of (cc := cX6_isCase) (maxL := 1) (ret := (some .boolean)) (by decide) rfl (Nat.le_of_ble_eq_true rfl) ?_
  intro p e s m below meth c ls C hr hlk hP hK hE hN hl
  have hS : va_S (fun _ => False) s.heap s.heap [] := va_S.rf
  have C : CallFix p m c cX6_isCase 1 s [.int x0].toArray wsX6_isCase RX6 := C
  obtain ⟨hx, hb, hml, hown, hts⟩ := id C
  have hl : lv_has ls 1 [(0, .int x0)] := hl
  have rx0 := ka_rng x0
  refine lv_iload_n hx hb dX6_isCase_0 rfl (lv_at hl 0 rfl) ?_
  refine lv_if_lt (tgt := 14) hx hb dX6_isCase_1 (by decide) (fun c_19123 => ?_) (fun c_19123 => ?_)
  · have c_19123 : x0.toInt < 0 := by rw [ka_lt', show ((0 : Int32)).toInt = 0 from by decide] at c_19123; exact c_19123
    refine lv_iconst (v := 0) hx hb dX6_isCase_14 (by decide) ?_
    exact ka_rRz C hr hlk rfl ⟨_, rfl, ⟨by decide, by decide⟩⟩ dX6_isCase_15
  · have c_19123 : ¬ x0.toInt < 0 := by rw [ka_lt', show ((0 : Int32)).toInt = 0 from by decide] at c_19123; exact c_19123
    refine lv_iload_n hx hb dX6_isCase_4 rfl (lv_at hl 0 rfl) ?_
    refine lv_bipush (v := 32) hx hb dX6_isCase_5 (by decide) ?_
    refine lv_icmp_ge (tgt := 14) hx hb dX6_isCase_7 (by decide) (fun c_19124 => ?_) (fun c_19124 => ?_)
    · have c_19124 : 32 ≤ x0.toInt := by rw [ka_le', show ((32 : Int32)).toInt = 32 from by decide] at c_19124; exact c_19124
      refine lv_iconst (v := 0) hx hb dX6_isCase_14 (by decide) ?_
      exact ka_rRz C hr hlk rfl ⟨_, rfl, ⟨by decide, by decide⟩⟩ dX6_isCase_15
    · have c_19124 : ¬ 32 ≤ x0.toInt := by rw [ka_le', show ((32 : Int32)).toInt = 32 from by decide] at c_19124; exact c_19124
      refine lv_iconst (v := 1) hx hb dX6_isCase_10 (by decide) ?_
      refine lv_goto (tgt := 15) hx hb dX6_isCase_11 (by decide) ?_
      exact ka_rRz C hr hlk rfl ⟨_, rfl, ⟨by decide, by decide⟩⟩ dX6_isCase_15
theorem lq_158 : ∀ w ∈ wsX10, w ∈ wsX6_tells := by decide +kernel
theorem lq_159 : Cond.fieldLink RX6 97 "AskedBack$Formula" "truth" "I" ∈ wsX6_tells := by decide +kernel
set_option maxHeartbeats 4000000 in
set_option maxRecDepth 100000 in
theorem cg_X6_tells_172 (l : Launch) (D : va_G) (F : Nat → Prop) (a0 : Nat) (x0 : Int32) (x1 : Int32) (x2 : Int32) (a1 : Nat) (a2 : Nat) (a3 : Nat) (a4 : Nat) (x3 : Int32) (x4 : Int32) (x5 : Int32) (x6 : Int32) (x7 : Int32) (a5 : Nat) (a6 : Nat) (x8 : Int32) (k0 : ClassId) (a7 : Nat) (a8 : Nat) (a9 : Nat) (a10 : Nat) (a11 : Nat) (a12 : Nat) (a13 : Nat) (a14 : Nat) (x9 : Int32) (o0 : Option Nat) (k1 : ClassId) (po0 : Nat → Option Nat) (a15 : Nat) (a16 : Nat) (x10 : Int32) (o1 : Option Nat) (k2 : ClassId) (po1 : Nat → Option Nat) (a17 : Nat) (a18 : Nat) (x11 : Int32) (o2 : Option Nat) (k3 : ClassId) (po2 : Nat → Option Nat) (a19 : Nat) (a20 : Nat) (x12 : Int32) (o3 : Option Nat) (k4 : ClassId) (po3 : Nat → Option Nat) (a21 : Nat) (a22 : Nat) (x13 : Int32) (o4 : Option Nat) (k5 : ClassId) (po4 : Nat → Option Nat) (a23 : Nat) (a24 : Nat) (x14 : Int32) (o5 : Option Nat) (k6 : ClassId) (po5 : Nat → Option Nat) (hx3 : -1 ≤ x3.toInt ∧ x3.toInt ≤ 5) (hx9 : 0 ≤ x9.toInt ∧ x9.toInt ≤ 12) (ho0 : ∀ a : Nat, o0 = some a → F a) (hpo0 : ∀ (j a : Nat), po0 j = some a → F a) (hx10 : 0 ≤ x10.toInt ∧ x10.toInt ≤ 12) (ho1 : ∀ a : Nat, o1 = some a → F a) (hpo1 : ∀ (j a : Nat), po1 j = some a → F a) (hx11 : 0 ≤ x11.toInt ∧ x11.toInt ≤ 12) (ho2 : ∀ a : Nat, o2 = some a → F a) (hpo2 : ∀ (j a : Nat), po2 j = some a → F a) (hx12 : 0 ≤ x12.toInt ∧ x12.toInt ≤ 12) (ho3 : ∀ a : Nat, o3 = some a → F a) (hpo3 : ∀ (j a : Nat), po3 j = some a → F a) (hx13 : 0 ≤ x13.toInt ∧ x13.toInt ≤ 12) (ho4 : ∀ a : Nat, o4 = some a → F a) (hpo4 : ∀ (j a : Nat), po4 j = some a → F a) (hx14 : 0 ≤ x14.toInt ∧ x14.toInt ≤ 12) (ho5 : ∀ a : Nat, o5 = some a → F a) (hpo5 : ∀ (j a : Nat), po5 j = some a → F a) : ka_R l D F yX6_tells wsX6_tells 3 64 [.ref a0, .int x0, .int x1, .int x2] [(a0, .inr (6, [.ref a1, .ref a2, .ref a3, .ref a4, .int x3, .int x4, .int x5, .int x6, .int x7])), (a3, .inr (0, [.ref a5, .ref a6, .int x8])), (a5, .inl (k0, 6, .inr (.inr (.inr (.inr (va_up (va_up (va_up (va_up (va_up (va_up (fun _ => none) 0 (some a7)) 1 (some a8)) 2 (some a9)) 3 (some a10)) 4 (some a11)) 5 (some a12))))))), (a7, .inr (2, [.ref a13, .ref a14, .int x9, va_rf o0])), (a13, .inl (k1, 12, .inr (.inr (.inr (.inr po0))))), (a8, .inr (2, [.ref a15, .ref a16, .int x10, va_rf o1])), (a15, .inl (k2, 12, .inr (.inr (.inr (.inr po1))))), (a9, .inr (2, [.ref a17, .ref a18, .int x11, va_rf o2])), (a17, .inl (k3, 12, .inr (.inr (.inr (.inr po2))))), (a10, .inr (2, [.ref a19, .ref a20, .int x12, va_rf o3])), (a19, .inl (k4, 12, .inr (.inr (.inr (.inr po3))))), (a11, .inr (2, [.ref a21, .ref a22, .int x13, va_rf o4])), (a21, .inl (k5, 12, .inr (.inr (.inr (.inr po4))))), (a12, .inr (2, [.ref a23, .ref a24, .int x14, va_rf o5])), (a23, .inl (k6, 12, .inr (.inr (.inr (.inr po5)))))] [(k0, .object RX2), (k1, .object RX1), (k2, .object RX1), (k3, .object RX1), (k4, .object RX1), (k5, .object RX1), (k6, .object RX1)] (fun v => ∃ x : Int32, v = some (.int x) ∧ -1 ≤ x.toInt ∧ x.toInt ≤ 1) := by
  refine ka_R_of (cc := cX6_tells) (maxL := 5) (ret := (some .int)) (by decide) rfl (Nat.le_of_ble_eq_true rfl) ?_
  intro p e s m below meth c ls C hr hlk hP hK hE hN hl
  have hS : va_S (fun _ => False) s.heap s.heap [] := va_S.rf
  have C : CallFix p m c cX6_tells 5 s [.ref a0, .int x0, .int x1, .int x2].toArray wsX6_tells RX6 := C
  obtain ⟨hx, hb, hml, hown, hts⟩ := id C
  have hl : lv_has ls 5 [(0, .ref a0), (1, .int x0), (2, .int x1), (3, .int x2)] := hl
  have rx0 := ka_rng x0
  have rx1 := ka_rng x1
  have rx2 := ka_rng x2
  have rx3 := ka_rng x3
  have rx4 := ka_rng x4
  have rx5 := ka_rng x5
  have rx6 := ka_rng x6
  have rx7 := ka_rng x7
  have rx8 := ka_rng x8
  have rx9 := ka_rng x9
  have rx10 := ka_rng x10
  have rx11 := ka_rng x11
  have rx12 := ka_rng x12
  have rx13 := ka_rng x13
  have rx14 := ka_rng x14
  refine lv_aload_n hx hb dX6_tells_0 rfl (lv_at hl 0 rfl) ?_
  refine lv_iload_n hx hb dX6_tells_1 rfl (lv_at hl 1 rfl) ?_
  refine lv_iload_n hx hb dX6_tells_2 rfl (lv_at hl 2 rfl) ?_
  refine ka_RV (n := 2) C (cg_X6_formulaAt_159 l D F a0 x0 x1 a1 a2 a3 a4 x3 x4 x5 x6 x7 a5 a6 x8 k0 a7 a8 a9 a10 a11 a12 a13 a14 x9 o0 k1 po0 a15 a16 x10 o1 k2 po1 a17 a18 x11 o2 k3 po2 a19 a20 x12 o3 k4 po3 a21 a22 x13 o4 k5 po4 a23 a24 x14 o5 k6 po5 ⟨by omega, by omega⟩ ⟨by omega, by omega⟩ ho0 hpo0 ⟨by omega, by omega⟩ ho1 hpo1 ⟨by omega, by omega⟩ ho2 hpo2 ⟨by omega, by omega⟩ ho3 hpo3 ⟨by omega, by omega⟩ ho4 hpo4 ⟨by omega, by omega⟩ ho5 hpo5) gX6_tells_X6_formulaAt rfl (by decide +kernel) ⟨Nat.le_of_ble_eq_true rfl, Nat.le_of_ble_eq_true rfl⟩ hK hP hS hE hN [0, 1, 2, 3, 4, 5, 6, 7, 8, 9, 10, 11, 12, 13, 14] rfl [0, 1, 2, 3, 4, 5, 6] rfl (ci := 6) rfl rfl 0 rfl rfl hl.1 (rest := []) rfl (Nat.le_of_ble_eq_true rfl) dX6_tells_3 ⟨Nat.le_of_ble_eq_true rfl, Nat.le_of_ble_eq_true rfl⟩ (fun v hv => ?_)
  obtain ⟨o_19135, rfl, ho_19135⟩ := hv
  refine ka_stk (w := [va_rf o_19135]) rfl ?_
  refine kb_astore (lv' := [(4, va_rf o_19135), (0, .ref a0), (1, .int x0), (2, .int x1), (3, .int x2)]) hx hb dX6_tells_6 hl (by decide) (by first | rfl | simp [kb_rfc]) (fun ls hl => ?_)
  refine kb_aload hx hb dX6_tells_8 (lv_at hl 0 rfl) ?_
  refine kb_ifnull (tgt := 20) hx hb dX6_tells_10 (by decide) (fun hfa_19136 => ?_) (fun fa_19136 hfa_19136 => ?_)
  · skip
    refine lv_iconst (v := (-1)) hx hb dX6_tells_20 (by decide) ?_
    refine lv_goto (tgt := 33) hx hb dX6_tells_21 (by decide) ?_
    exact ka_rRi C hr hlk ⟨_, rfl, ⟨by decide, by decide⟩⟩ dX6_tells_33
  · have Ffa_19136 : F fa_19136 := ho_19135 fa_19136 hfa_19136
    refine lv_iload_n hx hb dX6_tells_13 rfl (lv_at hl 4 rfl) ?_
    refine ka_RS (n := 1) C (cg_X6_isCase_171 l D F x2) gX6_tells_X6_isCase rfl (by decide +kernel) ⟨Nat.le_of_ble_eq_true rfl, Nat.le_of_ble_eq_true rfl⟩ hK hP hS hE hN [] rfl [] rfl rfl hl.1 (rest := []) rfl (Nat.le_of_ble_eq_true rfl) dX6_tells_14 ⟨Nat.le_of_ble_eq_true rfl, Nat.le_of_ble_eq_true rfl⟩ (fun v hv => ?_)
    obtain ⟨v_19137, rfl, hv_19137⟩ := hv
    have rv_19137 := ka_rng v_19137
    refine ka_stk (w := [.int v_19137]) rfl ?_
    refine lv_if_ne (tgt := 24) hx hb dX6_tells_17 (by decide) (fun c_19138 => ?_) (fun c_19138 => ?_)
    · have c_19138 : ¬ v_19137.toInt = 0 := by rw [ka_eq', show ((0 : Int32)).toInt = 0 from by decide] at c_19138; exact c_19138
      refine kb_aload hx hb dX6_tells_24 (lv_at hl 0 rfl) ?_
      refine ka_top (w := .ref fa_19136) (by rw [hfa_19136]; rfl) ?_
      obtain ⟨tru_19139, txu_19139, kku_19139, nnu_19139, ffu_19139, hnu_19139, hPu_19139, hKu_19139, -, -⟩ := (ka_FP_kept hE.2 hS.2.1) fa_19136 Ffa_19136
      refine ka_get C lq_158 rfl hKu_19139 hPu_19139 0 rfl 0 (by decide) lq_159 rfl dX6_tells_26 ?_
      have rtru_19139 := ka_rng tru_19139
      refine lv_iload_n hx hb dX6_tells_29 rfl (lv_at hl 4 rfl) ?_
      refine ka_RS (n := 2) C (ka_c_bitAt l D F tru_19139 x2) gX6_tells_X6_bitAt rfl (by decide +kernel) ⟨Nat.le_of_ble_eq_true rfl, Nat.le_of_ble_eq_true rfl⟩ hK hP hS hE hN [] rfl [] rfl rfl hl.1 (rest := []) rfl (Nat.le_of_ble_eq_true rfl) dX6_tells_30 ⟨Nat.le_of_ble_eq_true rfl, Nat.le_of_ble_eq_true rfl⟩ (fun v hv => ?_)
      subst hv
      refine ka_stk (w := .int (ka_bit tru_19139 x2) :: []) rfl ?_
      refine lv_topi (fun v_19140 ev_19140 => ?_)
      have fv_19140 := ka_bit_in tru_19139 x2; rw [← ev_19140] at fv_19140
      exact ka_rRi C hr hlk ⟨_, rfl, ⟨by omega, by omega⟩⟩ dX6_tells_33
    · have c_19138 : v_19137.toInt = 0 := by rw [ka_eq', show ((0 : Int32)).toInt = 0 from by decide] at c_19138; exact c_19138
      refine lv_iconst (v := (-1)) hx hb dX6_tells_20 (by decide) ?_
      refine lv_goto (tgt := 33) hx hb dX6_tells_21 (by decide) ?_
      exact ka_rRi C hr hlk ⟨_, rfl, ⟨by decide, by decide⟩⟩ dX6_tells_33
theorem lq_160 : ∀ w ∈ wsX10, w ∈ wsX1_byteAt := by decide +kernel
theorem lq_161 : Cond.fieldLink RX1 15 "AskedBack$Formula" "text" "[B" ∈ wsX1_byteAt := by decide +kernel
set_option maxHeartbeats 4000000 in
set_option maxRecDepth 100000 in
theorem cg_X1_byteAt_173 (l : Launch) (D : va_G) (F : Nat → Prop) (fa_0 : Nat) (x0 : Int32) (Ffa_0 : F fa_0) : ka_R l D F yX1_byteAt wsX1_byteAt 0 0 [.ref fa_0, .int x0] [] [] (fun v => ∃ x : Int32, v = some (.int x)) := by
  refine ka_R_of (cc := cX1_byteAt) (maxL := 2) (ret := (some .int)) (by decide) rfl (Nat.le_of_ble_eq_true rfl) ?_
  intro p e s m below meth c ls C hr hlk hP hK hE hN hl
  have hS : va_S (fun _ => False) s.heap s.heap [] := va_S.rf
  have C : CallFix p m c cX1_byteAt 2 s [.ref fa_0, .int x0].toArray wsX1_byteAt RX1 := C
  obtain ⟨hx, hb, hml, hown, hts⟩ := id C
  have hl : lv_has ls 2 [(0, .ref fa_0), (1, .int x0)] := hl
  have rx0 := ka_rng x0
  refine lv_aload_n hx hb dX1_byteAt_0 rfl (lv_at hl 0 rfl) ?_
  obtain ⟨tru_19228, txu_19228, kku_19228, nnu_19228, ffu_19228, hnu_19228, hPu_19228, hKu_19228, -, -⟩ := (ka_FP_kept hE.2 hS.2.1) fa_0 Ffa_0
  refine ka_get C lq_160 rfl hKu_19228 hPu_19228 0 rfl 1 (by decide) lq_161 rfl dX1_byteAt_1 ?_
  refine lv_ifnull hx hb dX1_byteAt_4 ?_
  refine lv_iload_n hx hb dX1_byteAt_7 rfl (lv_at hl 1 rfl) ?_
  refine lv_if_lt (tgt := 29) hx hb dX1_byteAt_8 (by decide) (fun c_19229 => ?_) (fun c_19229 => ?_)
  · have c_19229 : x0.toInt < 0 := by rw [ka_lt', show ((0 : Int32)).toInt = 0 from by decide] at c_19229; exact c_19229
    refine lv_iconst (v := (-1)) hx hb dX1_byteAt_29 (by decide) ?_
    exact ka_rRi C hr hlk ⟨_, rfl⟩ dX1_byteAt_30
  · have c_19229 : ¬ x0.toInt < 0 := by rw [ka_lt', show ((0 : Int32)).toInt = 0 from by decide] at c_19229; exact c_19229
    refine lv_iload_n hx hb dX1_byteAt_11 rfl (lv_at hl 1 rfl) ?_
    refine lv_aload_n hx hb dX1_byteAt_12 rfl (lv_at hl 0 rfl) ?_
    refine ka_get C lq_160 rfl hKu_19228 hPu_19228 0 rfl 1 (by decide) lq_161 rfl dX1_byteAt_13 ?_
    refine va_alen hx hb hKu_19228 hPu_19228 1 0 rfl (ty := .byte) rfl (v := Int32.ofNat nnu_19228) rfl dX1_byteAt_16 ?_
    refine lv_topi (fun v_19230 ev_19230 => ?_)
    have fv_19230 : v_19230.toInt = nnu_19228 := by rw [ev_19230]; exact nI_toInt (by omega)
    refine lv_icmp_ge (tgt := 29) hx hb dX1_byteAt_17 (by decide) (fun c_19231 => ?_) (fun c_19231 => ?_)
    · have c_19231 : v_19230.toInt ≤ x0.toInt := by rw [ka_le'] at c_19231; exact c_19231
      refine lv_iconst (v := (-1)) hx hb dX1_byteAt_29 (by decide) ?_
      exact ka_rRi C hr hlk ⟨_, rfl⟩ dX1_byteAt_30
    · have c_19231 : ¬ v_19230.toInt ≤ x0.toInt := by rw [ka_le'] at c_19231; exact c_19231
      refine lv_aload_n hx hb dX1_byteAt_20 rfl (lv_at hl 0 rfl) ?_
      refine ka_get C lq_160 rfl hKu_19228 hPu_19228 0 rfl 1 (by decide) lq_161 rfl dX1_byteAt_21 ?_
      refine lv_iload_n hx hb dX1_byteAt_24 rfl (lv_at hl 1 rfl) ?_
      refine va_bald hx hb hKu_19228 hPu_19228 1 0 rfl rfl (ka_in (by omega) (by omega)) dX1_byteAt_25 ?_
      refine lv_topi (fun v_19232 ev_19232 => ?_)
      refine lv_goto (tgt := 30) hx hb dX1_byteAt_26 (by decide) ?_
      exact ka_rRi C hr hlk ⟨_, rfl⟩ dX1_byteAt_30
theorem lq_162 : ∀ w ∈ wsX10, w ∈ wsX1_length := by decide +kernel
theorem lq_163 : Cond.fieldLink RX1 15 "AskedBack$Formula" "text" "[B" ∈ wsX1_length := by decide +kernel
set_option maxHeartbeats 4000000 in
set_option maxRecDepth 100000 in
theorem cg_X1_length_174 (l : Launch) (D : va_G) (F : Nat → Prop) (fa_0 : Nat) (Ffa_0 : F fa_0) : ka_R l D F yX1_length wsX1_length 0 0 [.ref fa_0] [] [] (fun v => ∃ x : Int32, v = some (.int x) ∧ 0 ≤ x.toInt ∧ x.toInt ≤ 120) := by
  refine ka_R_of (cc := cX1_length) (maxL := 1) (ret := (some .int)) (by decide) rfl (Nat.le_of_ble_eq_true rfl) ?_
  intro p e s m below meth c ls C hr hlk hP hK hE hN hl
  have hS : va_S (fun _ => False) s.heap s.heap [] := va_S.rf
  have C : CallFix p m c cX1_length 1 s [.ref fa_0].toArray wsX1_length RX1 := C
  obtain ⟨hx, hb, hml, hown, hts⟩ := id C
  have hl : lv_has ls 1 [(0, .ref fa_0)] := hl
  refine lv_aload_n hx hb dX1_length_0 rfl (lv_at hl 0 rfl) ?_
  obtain ⟨tru_19275, txu_19275, kku_19275, nnu_19275, ffu_19275, hnu_19275, hPu_19275, hKu_19275, -, -⟩ := (ka_FP_kept hE.2 hS.2.1) fa_0 Ffa_0
  refine ka_get C lq_162 rfl hKu_19275 hPu_19275 0 rfl 1 (by decide) lq_163 rfl dX1_length_1 ?_
  refine lv_ifnonnull (tgt := 11) hx hb dX1_length_4 (by decide) ?_
  refine lv_aload_n hx hb dX1_length_11 rfl (lv_at hl 0 rfl) ?_
  refine ka_get C lq_162 rfl hKu_19275 hPu_19275 0 rfl 1 (by decide) lq_163 rfl dX1_length_12 ?_
  refine va_alen hx hb hKu_19275 hPu_19275 1 0 rfl (ty := .byte) rfl (v := Int32.ofNat nnu_19275) rfl dX1_length_15 ?_
  refine lv_topi (fun v_19276 ev_19276 => ?_)
  have fv_19276 : v_19276.toInt = nnu_19275 := by rw [ev_19276]; exact nI_toInt (by omega)
  exact ka_rRi C hr hlk ⟨_, rfl, ⟨by omega, by omega⟩⟩ dX1_length_16
set_option maxHeartbeats 4000000 in
set_option maxRecDepth 100000 in
theorem cg_X6_written_175 (l : Launch) (D : va_G) (F : Nat → Prop) (a0 : Nat) (x0 : Int32) (x1 : Int32) (x2 : Int32) (a1 : Nat) (a2 : Nat) (a3 : Nat) (a4 : Nat) (x3 : Int32) (x4 : Int32) (x5 : Int32) (x6 : Int32) (x7 : Int32) (a5 : Nat) (a6 : Nat) (x8 : Int32) (k0 : ClassId) (a7 : Nat) (a8 : Nat) (a9 : Nat) (a10 : Nat) (a11 : Nat) (a12 : Nat) (a13 : Nat) (a14 : Nat) (x9 : Int32) (o0 : Option Nat) (k1 : ClassId) (po0 : Nat → Option Nat) (a15 : Nat) (a16 : Nat) (x10 : Int32) (o1 : Option Nat) (k2 : ClassId) (po1 : Nat → Option Nat) (a17 : Nat) (a18 : Nat) (x11 : Int32) (o2 : Option Nat) (k3 : ClassId) (po2 : Nat → Option Nat) (a19 : Nat) (a20 : Nat) (x12 : Int32) (o3 : Option Nat) (k4 : ClassId) (po3 : Nat → Option Nat) (a21 : Nat) (a22 : Nat) (x13 : Int32) (o4 : Option Nat) (k5 : ClassId) (po4 : Nat → Option Nat) (a23 : Nat) (a24 : Nat) (x14 : Int32) (o5 : Option Nat) (k6 : ClassId) (po5 : Nat → Option Nat) (hx3 : -1 ≤ x3.toInt ∧ x3.toInt ≤ 5) (hx9 : 0 ≤ x9.toInt ∧ x9.toInt ≤ 12) (ho0 : ∀ a : Nat, o0 = some a → F a) (hpo0 : ∀ (j a : Nat), po0 j = some a → F a) (hx10 : 0 ≤ x10.toInt ∧ x10.toInt ≤ 12) (ho1 : ∀ a : Nat, o1 = some a → F a) (hpo1 : ∀ (j a : Nat), po1 j = some a → F a) (hx11 : 0 ≤ x11.toInt ∧ x11.toInt ≤ 12) (ho2 : ∀ a : Nat, o2 = some a → F a) (hpo2 : ∀ (j a : Nat), po2 j = some a → F a) (hx12 : 0 ≤ x12.toInt ∧ x12.toInt ≤ 12) (ho3 : ∀ a : Nat, o3 = some a → F a) (hpo3 : ∀ (j a : Nat), po3 j = some a → F a) (hx13 : 0 ≤ x13.toInt ∧ x13.toInt ≤ 12) (ho4 : ∀ a : Nat, o4 = some a → F a) (hpo4 : ∀ (j a : Nat), po4 j = some a → F a) (hx14 : 0 ≤ x14.toInt ∧ x14.toInt ≤ 12) (ho5 : ∀ a : Nat, o5 = some a → F a) (hpo5 : ∀ (j a : Nat), po5 j = some a → F a) : ka_R l D F yX6_written wsX6_written 3 64 [.ref a0, .int x0, .int x1, .int x2] [(a0, .inr (6, [.ref a1, .ref a2, .ref a3, .ref a4, .int x3, .int x4, .int x5, .int x6, .int x7])), (a3, .inr (0, [.ref a5, .ref a6, .int x8])), (a5, .inl (k0, 6, .inr (.inr (.inr (.inr (va_up (va_up (va_up (va_up (va_up (va_up (fun _ => none) 0 (some a7)) 1 (some a8)) 2 (some a9)) 3 (some a10)) 4 (some a11)) 5 (some a12))))))), (a7, .inr (2, [.ref a13, .ref a14, .int x9, va_rf o0])), (a13, .inl (k1, 12, .inr (.inr (.inr (.inr po0))))), (a8, .inr (2, [.ref a15, .ref a16, .int x10, va_rf o1])), (a15, .inl (k2, 12, .inr (.inr (.inr (.inr po1))))), (a9, .inr (2, [.ref a17, .ref a18, .int x11, va_rf o2])), (a17, .inl (k3, 12, .inr (.inr (.inr (.inr po2))))), (a10, .inr (2, [.ref a19, .ref a20, .int x12, va_rf o3])), (a19, .inl (k4, 12, .inr (.inr (.inr (.inr po3))))), (a11, .inr (2, [.ref a21, .ref a22, .int x13, va_rf o4])), (a21, .inl (k5, 12, .inr (.inr (.inr (.inr po4))))), (a12, .inr (2, [.ref a23, .ref a24, .int x14, va_rf o5])), (a23, .inl (k6, 12, .inr (.inr (.inr (.inr po5)))))] [(k0, .object RX2), (k1, .object RX1), (k2, .object RX1), (k3, .object RX1), (k4, .object RX1), (k5, .object RX1), (k6, .object RX1)] (fun v => ∃ x : Int32, v = some (.int x)) := by
  refine ka_R_of (cc := cX6_written) (maxL := 5) (ret := (some .int)) (by decide) rfl (Nat.le_of_ble_eq_true rfl) ?_
  intro p e s m below meth c ls C hr hlk hP hK hE hN hl
  have hS : va_S (fun _ => False) s.heap s.heap [] := va_S.rf
  have C : CallFix p m c cX6_written 5 s [.ref a0, .int x0, .int x1, .int x2].toArray wsX6_written RX6 := C
  obtain ⟨hx, hb, hml, hown, hts⟩ := id C
  have hl : lv_has ls 5 [(0, .ref a0), (1, .int x0), (2, .int x1), (3, .int x2)] := hl
  have rx0 := ka_rng x0
  have rx1 := ka_rng x1
  have rx2 := ka_rng x2
  have rx3 := ka_rng x3
  have rx4 := ka_rng x4
  have rx5 := ka_rng x5
  have rx6 := ka_rng x6
  have rx7 := ka_rng x7
  have rx8 := ka_rng x8
  have rx9 := ka_rng x9
  have rx10 := ka_rng x10
  have rx11 := ka_rng x11
  have rx12 := ka_rng x12
  have rx13 := ka_rng x13
  have rx14 := ka_rng x14
  refine lv_aload_n hx hb dX6_written_0 rfl (lv_at hl 0 rfl) ?_
  refine lv_iload_n hx hb dX6_written_1 rfl (lv_at hl 1 rfl) ?_
  refine lv_iload_n hx hb dX6_written_2 rfl (lv_at hl 2 rfl) ?_
  refine ka_RV (n := 2) C (cg_X6_formulaAt_159 l D F a0 x0 x1 a1 a2 a3 a4 x3 x4 x5 x6 x7 a5 a6 x8 k0 a7 a8 a9 a10 a11 a12 a13 a14 x9 o0 k1 po0 a15 a16 x10 o1 k2 po1 a17 a18 x11 o2 k3 po2 a19 a20 x12 o3 k4 po3 a21 a22 x13 o4 k5 po4 a23 a24 x14 o5 k6 po5 ⟨by omega, by omega⟩ ⟨by omega, by omega⟩ ho0 hpo0 ⟨by omega, by omega⟩ ho1 hpo1 ⟨by omega, by omega⟩ ho2 hpo2 ⟨by omega, by omega⟩ ho3 hpo3 ⟨by omega, by omega⟩ ho4 hpo4 ⟨by omega, by omega⟩ ho5 hpo5) gX6_written_X6_formulaAt rfl (by decide +kernel) ⟨Nat.le_of_ble_eq_true rfl, Nat.le_of_ble_eq_true rfl⟩ hK hP hS hE hN [0, 1, 2, 3, 4, 5, 6, 7, 8, 9, 10, 11, 12, 13, 14] rfl [0, 1, 2, 3, 4, 5, 6] rfl (ci := 6) rfl rfl 0 rfl rfl hl.1 (rest := []) rfl (Nat.le_of_ble_eq_true rfl) dX6_written_3 ⟨Nat.le_of_ble_eq_true rfl, Nat.le_of_ble_eq_true rfl⟩ (fun v hv => ?_)
  obtain ⟨o_19283, rfl, ho_19283⟩ := hv
  refine ka_stk (w := [va_rf o_19283]) rfl ?_
  refine kb_astore (lv' := [(4, va_rf o_19283), (0, .ref a0), (1, .int x0), (2, .int x1), (3, .int x2)]) hx hb dX6_written_6 hl (by decide) (by first | rfl | simp [kb_rfc]) (fun ls hl => ?_)
  refine kb_aload hx hb dX6_written_8 (lv_at hl 0 rfl) ?_
  refine kb_ifnonnull (tgt := 15) hx hb dX6_written_10 (by decide) (fun fa_19284 hfa_19284 => ?_) (fun hfa_19284 => ?_)
  · have Ffa_19284 : F fa_19284 := ho_19283 fa_19284 hfa_19284
    refine lv_iload_n hx hb dX6_written_15 rfl (lv_at hl 4 rfl) ?_
    refine lv_iconst (v := (-1)) hx hb dX6_written_16 (by decide) ?_
    refine lv_icmp_ne (tgt := 28) hx hb dX6_written_17 (by decide) (fun c_19285 => ?_) (fun c_19285 => ?_)
    · have c_19285 : ¬ x2.toInt = -1 := by rw [ka_eq', show ((-1 : Int32)).toInt = -1 from by decide] at c_19285; exact c_19285
      refine kb_aload hx hb dX6_written_28 (lv_at hl 0 rfl) ?_
      refine ka_top (w := .ref fa_19284) (by rw [hfa_19284]; rfl) ?_
      refine lv_iload_n hx hb dX6_written_30 rfl (lv_at hl 4 rfl) ?_
      obtain ⟨tru_19287, txu_19287, kku_19287, nnu_19287, ffu_19287, hnu_19287, hPu_19287, hKu_19287, -, -⟩ := (ka_FP_kept hE.2 hS.2.1) fa_19284 Ffa_19284
      refine kb_RVr (n := 1) C (cg_X1_byteAt_173 l D F fa_19284 x2 Ffa_19284) gX6_written_X1_byteAt rfl (by decide +kernel) ⟨Nat.le_of_ble_eq_true rfl, Nat.le_of_ble_eq_true rfl⟩ hK hP hS hE hN [] rfl [] rfl hKu_19287 hPu_19287 (ci := 1) rfl rfl 0 rfl rfl hl.1 (rest := []) rfl (Nat.le_of_ble_eq_true rfl) dX6_written_31 ⟨Nat.le_of_ble_eq_true rfl, Nat.le_of_ble_eq_true rfl⟩ (fun v hv => ?_)
      obtain ⟨v_19286, rfl⟩ := hv
      have rv_19286 := ka_rng v_19286
      refine ka_stk (w := [.int v_19286]) rfl ?_
      exact ka_rRi C hr hlk ⟨_, rfl⟩ dX6_written_34
    · have c_19285 : x2.toInt = -1 := by rw [ka_eq', show ((-1 : Int32)).toInt = -1 from by decide] at c_19285; exact c_19285
      refine kb_aload hx hb dX6_written_20 (lv_at hl 0 rfl) ?_
      refine ka_top (w := .ref fa_19284) (by rw [hfa_19284]; rfl) ?_
      obtain ⟨tru_19289, txu_19289, kku_19289, nnu_19289, ffu_19289, hnu_19289, hPu_19289, hKu_19289, -, -⟩ := (ka_FP_kept hE.2 hS.2.1) fa_19284 Ffa_19284
      refine kb_RVr (n := 0) C (cg_X1_length_174 l D F fa_19284 Ffa_19284) gX6_written_X1_length rfl (by decide +kernel) ⟨Nat.le_of_ble_eq_true rfl, Nat.le_of_ble_eq_true rfl⟩ hK hP hS hE hN [] rfl [] rfl hKu_19289 hPu_19289 (ci := 1) rfl rfl 0 rfl rfl hl.1 (rest := []) rfl (Nat.le_of_ble_eq_true rfl) dX6_written_22 ⟨Nat.le_of_ble_eq_true rfl, Nat.le_of_ble_eq_true rfl⟩ (fun v hv => ?_)
      obtain ⟨v_19288, rfl, hv_19288⟩ := hv
      have rv_19288 := ka_rng v_19288
      refine ka_stk (w := [.int v_19288]) rfl ?_
      refine lv_goto (tgt := 34) hx hb dX6_written_25 (by decide) ?_
      exact ka_rRi C hr hlk ⟨_, rfl⟩ dX6_written_34
  · skip
    refine lv_iconst (v := (-1)) hx hb dX6_written_13 (by decide) ?_
    exact ka_rRi C hr hlk ⟨_, rfl⟩ dX6_written_14
theorem lq_164 : ∀ w ∈ wsX60, w ∈ wsX6_needs := by decide +kernel
theorem lq_165 : Cond.fieldLink RX6 28 "AskedBack" "course" "LAskedBack$Course;" ∈ wsX6_needs := by decide +kernel
set_option maxHeartbeats 4000000 in
set_option maxRecDepth 100000 in
theorem cg_X6_needs_176 (l : Launch) (D : va_G) (F : Nat → Prop) (a0 : Nat) (x0 : Int32) (x1 : Int32) (a1 : Nat) (a2 : Nat) (a3 : Nat) (a4 : Nat) (x2 : Int32) (x3 : Int32) (x4 : Int32) (x5 : Int32) (x6 : Int32) (a5 : Nat) (a6 : Nat) (x7 : Int32) (k0 : ClassId) (f0 : Nat → Int32) (hx2 : -1 ≤ x2.toInt ∧ x2.toInt ≤ 5) : ka_E l D F yX6_needs wsX6_needs 3 67 0 0 [.ref a0, .int x0, .int x1] [(a0, .inr (6, [.ref a1, .ref a2, .ref a3, .ref a4, .int x2, .int x3, .int x4, .int x5, .int x6])), (a3, .inr (0, [.ref a5, .ref a6, .int x7])), (a6, .inl (k0, 6, .inl f0))] [(k0, .int)] (fun (u : (Nat → Int32) × (Int32)) => some (.int (u.2))) (fun (u : (Nat → Int32) × (Int32)) => (0 ≤ (u.2).toInt ∧ (u.2).toInt ≤ 1)) (fun (u : (Nat → Int32) × (Int32)) => [(a0, .inr (6, [.ref a1, .ref a2, .ref a3, .ref a4, .int x2, .int x3, .int x4, .int x5, .int x6])), (a3, .inr (0, [.ref a5, .ref a6, .int x7])), (a6, .inl (k0, 6, .inl (u.1)))]) (fun (u : (Nat → Int32) × (Int32)) => []) := by
  refine ka_E_of (cc := cX6_needs) (maxL := 3) (ret := (some .boolean)) (by decide) rfl (Nat.le_of_ble_eq_true rfl) ?_
  intro p e s m below meth c ls A C hr hlk hin hP hK hD hS hA hE hN hl
  have C : CallFix p m c cX6_needs 3 s [.ref a0, .int x0, .int x1].toArray wsX6_needs RX6 := C
  obtain ⟨hx, hb, hml, hown, hts⟩ := id C
  have hl : lv_has ls 3 [(0, .ref a0), (1, .int x0), (2, .int x1)] := hl
  have rx0 := ka_rng x0
  have rx1 := ka_rng x1
  have rx2 := ka_rng x2
  have rx3 := ka_rng x3
  have rx4 := ka_rng x4
  have rx5 := ka_rng x5
  have rx6 := ka_rng x6
  have rx7 := ka_rng x7
  refine lv_aload_n hx hb dX6_needs_0 rfl (lv_at hl 0 rfl) ?_
  refine ka_get C lq_164 rfl hK hP 0 rfl 2 (by decide) lq_165 rfl dX6_needs_1 ?_
  refine lv_iload_n hx hb dX6_needs_4 rfl (lv_at hl 1 rfl) ?_
  refine lv_iload_n hx hb dX6_needs_5 rfl (lv_at hl 2 rfl) ?_
  refine ka_EV (n := 2) (wr := [(a0, .inr (6, [.ref a1, .ref a2, .ref a3, .ref a4, .int x2, .int x3, .int x4, .int x5, .int x6]))]) C (cg_X0_addNeed_38 l D F a3 x0 x1 a5 a6 x7 k0 f0) gX6_needs_X0_addNeed rfl (by decide +kernel) ⟨Nat.le_of_ble_eq_true rfl, Nat.le_of_ble_eq_true rfl⟩ hK hP hD hS hA hE hN [1, 2] rfl (by decide) [0] rfl (by decide) (by decide) [0] rfl (ci := 0) rfl rfl 1 rfl rfl hl.1 (rest := []) rfl (Nat.le_of_ble_eq_true rfl) dX6_needs_6 ⟨Nat.le_of_ble_eq_true rfl, Nat.le_of_ble_eq_true rfl⟩ (fun u H locs hq hP hD hK hS => ?_)
  obtain ⟨g_19331, v_19332⟩ := u
  have hq : (0 ≤ v_19332.toInt ∧ v_19332.toInt ≤ 1) := hq
  have hv_19332 := hq
  have rv_19332 := ka_rng v_19332
  have hP : va_P D vwCl [(a0, .inr (6, [.ref a1, .ref a2, .ref a3, .ref a4, .int x2, .int x3, .int x4, .int x5, .int x6])), (a3, .inr (0, [.ref a5, .ref a6, .int x7])), (a6, .inl (k0, 6, .inl g_19331))] H := hP
  have hD : va_D A [(a0, .inr (6, [.ref a1, .ref a2, .ref a3, .ref a4, .int x2, .int x3, .int x4, .int x5, .int x6])), (a3, .inr (0, [.ref a5, .ref a6, .int x7])), (a6, .inl (k0, 6, .inl g_19331))] := hD
  have hK : va_K D vwCl [(k0, .int)] s := by simpa using hK
  refine ka_stk (w := [.int v_19332]) rfl ?_
  exact ka_rEz C hr hlk (kb_nz ⟨by omega, by omega⟩) (Nat.le_of_ble_eq_true rfl) (Nat.le_of_ble_eq_true rfl) hS (ka_qE (g_19331, v_19332) rfl (show 0 ≤ v_19332.toInt ∧ v_19332.toInt ≤ 1 from ⟨by omega, by omega⟩) hK hP hD hS [0, 1, 2] (by decide) rfl [] rfl) dX6_needs_9
set_option maxHeartbeats 4000000 in
set_option maxRecDepth 100000 in
theorem cg_X0_mayBegin_177 (l : Launch) (D : va_G) (F : Nat → Prop) (a0 : Nat) (x0 : Int32) (a1 : Nat) (a2 : Nat) (x1 : Int32) (k0 : ClassId) (a3 : Nat) (a4 : Nat) (a5 : Nat) (a6 : Nat) (a7 : Nat) (a8 : Nat) (k1 : ClassId) (f0 : Nat → Int32) (a9 : Nat) (a10 : Nat) (x2 : Int32) (o0 : Option Nat) (a11 : Nat) (a12 : Nat) (x3 : Int32) (o1 : Option Nat) (a13 : Nat) (a14 : Nat) (x4 : Int32) (o2 : Option Nat) (a15 : Nat) (a16 : Nat) (x5 : Int32) (o3 : Option Nat) (a17 : Nat) (a18 : Nat) (x6 : Int32) (o4 : Option Nat) (a19 : Nat) (a20 : Nat) (x7 : Int32) (o5 : Option Nat) (hx0 : 0 ≤ x0.toInt ∧ x0.toInt ≤ 5) (hx2 : 0 ≤ x2.toInt ∧ x2.toInt ≤ 12) (ho0 : ∀ a : Nat, o0 = some a → F a) (hx3 : 0 ≤ x3.toInt ∧ x3.toInt ≤ 12) (ho1 : ∀ a : Nat, o1 = some a → F a) (hx4 : 0 ≤ x4.toInt ∧ x4.toInt ≤ 12) (ho2 : ∀ a : Nat, o2 = some a → F a) (hx5 : 0 ≤ x5.toInt ∧ x5.toInt ≤ 12) (ho3 : ∀ a : Nat, o3 = some a → F a) (hx6 : 0 ≤ x6.toInt ∧ x6.toInt ≤ 12) (ho4 : ∀ a : Nat, o4 = some a → F a) (hx7 : 0 ≤ x7.toInt ∧ x7.toInt ≤ 12) (ho5 : ∀ a : Nat, o5 = some a → F a) : ka_R l D F yX0_mayBegin wsX0_mayBegin 2 42 [.ref a0, .int x0] [(a0, .inr (0, [.ref a1, .ref a2, .int x1])), (a1, .inl (k0, 6, .inr (.inr (.inr (.inr (va_up (va_up (va_up (va_up (va_up (va_up (fun _ => none) 0 (some a3)) 1 (some a4)) 2 (some a5)) 3 (some a6)) 4 (some a7)) 5 (some a8))))))), (a2, .inl (k1, 6, .inl f0)), (a3, .inr (2, [.ref a9, .ref a10, .int x2, va_rf o0])), (a4, .inr (2, [.ref a11, .ref a12, .int x3, va_rf o1])), (a5, .inr (2, [.ref a13, .ref a14, .int x4, va_rf o2])), (a6, .inr (2, [.ref a15, .ref a16, .int x5, va_rf o3])), (a7, .inr (2, [.ref a17, .ref a18, .int x6, va_rf o4])), (a8, .inr (2, [.ref a19, .ref a20, .int x7, va_rf o5]))] [(k0, .object RX2), (k1, .int)] (fun v => ∃ x : Int32, v = some (.int x) ∧ 0 ≤ x.toInt ∧ x.toInt ≤ 1) := by
  refine ka_R_of (cc := cX0_mayBegin) (maxL := 3) (ret := (some .boolean)) (by decide) rfl (Nat.le_of_ble_eq_true rfl) ?_
  intro p e s m below meth c ls C hr hlk hP hK hE hN hl
  have hS : va_S (fun _ => False) s.heap s.heap [] := va_S.rf
  have C : CallFix p m c cX0_mayBegin 3 s [.ref a0, .int x0].toArray wsX0_mayBegin RX0 := C
  obtain ⟨hx, hb, hml, hown, hts⟩ := id C
  have hl : lv_has ls 3 [(0, .ref a0), (1, .int x0)] := hl
  have rx0 := ka_rng x0
  have rx1 := ka_rng x1
  have rx2 := ka_rng x2
  have rx3 := ka_rng x3
  have rx4 := ka_rng x4
  have rx5 := ka_rng x5
  have rx6 := ka_rng x6
  have rx7 := ka_rng x7
  rcases (show x0.toInt = 0 ∨ x0.toInt = 1 ∨ x0.toInt = 2 ∨ x0.toInt = 3 ∨ x0.toInt = 4 ∨ x0.toInt = 5 by omega) with y_19493 | y_19493 | y_19493 | y_19493 | y_19493 | y_19493
  · obtain rfl : x0 = 0 := (ka_eq' _ _).mpr (y_19493.trans (by decide))
    refine lv_aload_n hx hb dX0_mayBegin_0 rfl (lv_at hl 0 rfl) ?_
    refine lv_iload_n hx hb dX0_mayBegin_1 rfl (lv_at hl 1 rfl) ?_
    refine ka_RV (n := 1) C (cg_X0_lessonAt_145 l D F a0 a1 a2 x1 k0 a3 a4 a5 a6 a7 a8) gX0_mayBegin_X0_lessonAt rfl (by decide +kernel) ⟨Nat.le_of_ble_eq_true rfl, Nat.le_of_ble_eq_true rfl⟩ hK hP hS hE hN [0, 1] rfl [0] rfl (ci := 0) rfl rfl 0 rfl rfl hl.1 (rest := []) rfl (Nat.le_of_ble_eq_true rfl) dX0_mayBegin_2 ⟨Nat.le_of_ble_eq_true rfl, Nat.le_of_ble_eq_true rfl⟩ (fun v hv => ?_)
    subst hv
    refine ka_stk (w := [.ref a3]) rfl ?_
    refine lv_astore_n (lv' := [(2, .ref a3), (0, .ref a0), (1, .int 0)]) hx hb dX0_mayBegin_5 rfl hl (by decide) rfl (fun ls hl => ?_)
    refine lv_aload_n hx hb dX0_mayBegin_6 rfl (lv_at hl 0 rfl) ?_
    refine lv_ifnull hx hb dX0_mayBegin_7 ?_
    refine lv_aload_n hx hb dX0_mayBegin_10 rfl (lv_at hl 0 rfl) ?_
    refine ka_get C lq_145 rfl hK hP 3 rfl 3 (by decide) lq_146 rfl dX0_mayBegin_11 ?_
    refine kb_ifnull (tgt := 45) hx hb dX0_mayBegin_14 (by decide) (fun hfa_19494 => ?_) (fun fa_19494 hfa_19494 => ?_)
    · skip
      refine lv_iconst (v := 0) hx hb dX0_mayBegin_45 (by decide) ?_
      exact ka_rRz C hr hlk rfl ⟨_, rfl, ⟨by decide, by decide⟩⟩ dX0_mayBegin_46
    · have Ffa_19494 : F fa_19494 := ho0 fa_19494 hfa_19494
      refine lv_aload_n hx hb dX0_mayBegin_17 rfl (lv_at hl 1 rfl) ?_
      refine lv_iload_n hx hb dX0_mayBegin_18 rfl (lv_at hl 2 rfl) ?_
      refine ka_RV (n := 1) C (cg_X0_isDone_146 l D F a0 a1 a2 x1) gX0_mayBegin_X0_isDone rfl (by decide +kernel) ⟨Nat.le_of_ble_eq_true rfl, Nat.le_of_ble_eq_true rfl⟩ hK hP hS hE hN [0] rfl [] rfl (ci := 0) rfl rfl 0 rfl rfl hl.1 (rest := []) rfl (Nat.le_of_ble_eq_true rfl) dX0_mayBegin_19 ⟨Nat.le_of_ble_eq_true rfl, Nat.le_of_ble_eq_true rfl⟩ (fun v hv => ?_)
      obtain ⟨v_19495, rfl, hv_19495⟩ := hv
      have rv_19495 := ka_rng v_19495
      refine ka_stk (w := [.int v_19495]) rfl ?_
      refine lv_if_ne (tgt := 45) hx hb dX0_mayBegin_22 (by decide) (fun c_19496 => ?_) (fun c_19496 => ?_)
      · have c_19496 : ¬ v_19495.toInt = 0 := by rw [ka_eq', show ((0 : Int32)).toInt = 0 from by decide] at c_19496; exact c_19496
        refine lv_iconst (v := 0) hx hb dX0_mayBegin_45 (by decide) ?_
        exact ka_rRz C hr hlk rfl ⟨_, rfl, ⟨by decide, by decide⟩⟩ dX0_mayBegin_46
      · have c_19496 : v_19495.toInt = 0 := by rw [ka_eq', show ((0 : Int32)).toInt = 0 from by decide] at c_19496; exact c_19496
        refine lv_aload_n hx hb dX0_mayBegin_25 rfl (lv_at hl 1 rfl) ?_
        refine ka_get C lq_147 rfl hK hP 0 rfl 1 (by decide) lq_148 rfl dX0_mayBegin_26 ?_
        refine lv_iload_n hx hb dX0_mayBegin_29 rfl (lv_at hl 2 rfl) ?_
        refine va_iald hx hb hK hP 2 1 rfl rfl (ka_in (by decide) (by decide)) dX0_mayBegin_30 ?_
        refine lv_topi (fun v_19497 ev_19497 => ?_)
        refine lv_aload_n hx hb dX0_mayBegin_31 rfl (lv_at hl 1 rfl) ?_
        refine ka_get C lq_147 rfl hK hP 0 rfl 2 (by decide) lq_149 rfl dX0_mayBegin_32 ?_
        refine lv_iconst (v := (-1)) hx hb dX0_mayBegin_35 (by decide) ?_
        refine lv_ixor hx hb dX0_mayBegin_36 ?_
        refine lv_topi (fun v_19498 ev_19498 => ?_)
        refine lv_iand hx hb dX0_mayBegin_37 ?_
        refine lv_topi (fun v_19499 ev_19499 => ?_)
        refine lv_if_ne (tgt := 45) hx hb dX0_mayBegin_38 (by decide) (fun c_19500 => ?_) (fun c_19500 => ?_)
        · have c_19500 : ¬ v_19499.toInt = 0 := by rw [ka_eq', show ((0 : Int32)).toInt = 0 from by decide] at c_19500; exact c_19500
          refine lv_iconst (v := 0) hx hb dX0_mayBegin_45 (by decide) ?_
          exact ka_rRz C hr hlk rfl ⟨_, rfl, ⟨by decide, by decide⟩⟩ dX0_mayBegin_46
        · have c_19500 : v_19499.toInt = 0 := by rw [ka_eq', show ((0 : Int32)).toInt = 0 from by decide] at c_19500; exact c_19500
          refine lv_iconst (v := 1) hx hb dX0_mayBegin_41 (by decide) ?_
          refine lv_goto (tgt := 46) hx hb dX0_mayBegin_42 (by decide) ?_
          exact ka_rRz C hr hlk rfl ⟨_, rfl, ⟨by decide, by decide⟩⟩ dX0_mayBegin_46
  · obtain rfl : x0 = 1 := (ka_eq' _ _).mpr (y_19493.trans (by decide))
    refine lv_aload_n hx hb dX0_mayBegin_0 rfl (lv_at hl 0 rfl) ?_
    refine lv_iload_n hx hb dX0_mayBegin_1 rfl (lv_at hl 1 rfl) ?_
    refine ka_RV (n := 1) C (cg_X0_lessonAt_147 l D F a0 a1 a2 x1 k0 a3 a4 a5 a6 a7 a8) gX0_mayBegin_X0_lessonAt rfl (by decide +kernel) ⟨Nat.le_of_ble_eq_true rfl, Nat.le_of_ble_eq_true rfl⟩ hK hP hS hE hN [0, 1] rfl [0] rfl (ci := 0) rfl rfl 0 rfl rfl hl.1 (rest := []) rfl (Nat.le_of_ble_eq_true rfl) dX0_mayBegin_2 ⟨Nat.le_of_ble_eq_true rfl, Nat.le_of_ble_eq_true rfl⟩ (fun v hv => ?_)
    subst hv
    refine ka_stk (w := [.ref a4]) rfl ?_
    refine lv_astore_n (lv' := [(2, .ref a4), (0, .ref a0), (1, .int 1)]) hx hb dX0_mayBegin_5 rfl hl (by decide) rfl (fun ls hl => ?_)
    refine lv_aload_n hx hb dX0_mayBegin_6 rfl (lv_at hl 0 rfl) ?_
    refine lv_ifnull hx hb dX0_mayBegin_7 ?_
    refine lv_aload_n hx hb dX0_mayBegin_10 rfl (lv_at hl 0 rfl) ?_
    refine ka_get C lq_145 rfl hK hP 4 rfl 3 (by decide) lq_146 rfl dX0_mayBegin_11 ?_
    refine kb_ifnull (tgt := 45) hx hb dX0_mayBegin_14 (by decide) (fun hfa_19501 => ?_) (fun fa_19501 hfa_19501 => ?_)
    · skip
      refine lv_iconst (v := 0) hx hb dX0_mayBegin_45 (by decide) ?_
      exact ka_rRz C hr hlk rfl ⟨_, rfl, ⟨by decide, by decide⟩⟩ dX0_mayBegin_46
    · have Ffa_19501 : F fa_19501 := ho1 fa_19501 hfa_19501
      refine lv_aload_n hx hb dX0_mayBegin_17 rfl (lv_at hl 1 rfl) ?_
      refine lv_iload_n hx hb dX0_mayBegin_18 rfl (lv_at hl 2 rfl) ?_
      refine ka_RV (n := 1) C (cg_X0_isDone_148 l D F a0 a1 a2 x1) gX0_mayBegin_X0_isDone rfl (by decide +kernel) ⟨Nat.le_of_ble_eq_true rfl, Nat.le_of_ble_eq_true rfl⟩ hK hP hS hE hN [0] rfl [] rfl (ci := 0) rfl rfl 0 rfl rfl hl.1 (rest := []) rfl (Nat.le_of_ble_eq_true rfl) dX0_mayBegin_19 ⟨Nat.le_of_ble_eq_true rfl, Nat.le_of_ble_eq_true rfl⟩ (fun v hv => ?_)
      obtain ⟨v_19502, rfl, hv_19502⟩ := hv
      have rv_19502 := ka_rng v_19502
      refine ka_stk (w := [.int v_19502]) rfl ?_
      refine lv_if_ne (tgt := 45) hx hb dX0_mayBegin_22 (by decide) (fun c_19503 => ?_) (fun c_19503 => ?_)
      · have c_19503 : ¬ v_19502.toInt = 0 := by rw [ka_eq', show ((0 : Int32)).toInt = 0 from by decide] at c_19503; exact c_19503
        refine lv_iconst (v := 0) hx hb dX0_mayBegin_45 (by decide) ?_
        exact ka_rRz C hr hlk rfl ⟨_, rfl, ⟨by decide, by decide⟩⟩ dX0_mayBegin_46
      · have c_19503 : v_19502.toInt = 0 := by rw [ka_eq', show ((0 : Int32)).toInt = 0 from by decide] at c_19503; exact c_19503
        refine lv_aload_n hx hb dX0_mayBegin_25 rfl (lv_at hl 1 rfl) ?_
        refine ka_get C lq_147 rfl hK hP 0 rfl 1 (by decide) lq_148 rfl dX0_mayBegin_26 ?_
        refine lv_iload_n hx hb dX0_mayBegin_29 rfl (lv_at hl 2 rfl) ?_
        refine va_iald hx hb hK hP 2 1 rfl rfl (ka_in (by decide) (by decide)) dX0_mayBegin_30 ?_
        refine lv_topi (fun v_19504 ev_19504 => ?_)
        refine lv_aload_n hx hb dX0_mayBegin_31 rfl (lv_at hl 1 rfl) ?_
        refine ka_get C lq_147 rfl hK hP 0 rfl 2 (by decide) lq_149 rfl dX0_mayBegin_32 ?_
        refine lv_iconst (v := (-1)) hx hb dX0_mayBegin_35 (by decide) ?_
        refine lv_ixor hx hb dX0_mayBegin_36 ?_
        refine lv_topi (fun v_19505 ev_19505 => ?_)
        refine lv_iand hx hb dX0_mayBegin_37 ?_
        refine lv_topi (fun v_19506 ev_19506 => ?_)
        refine lv_if_ne (tgt := 45) hx hb dX0_mayBegin_38 (by decide) (fun c_19507 => ?_) (fun c_19507 => ?_)
        · have c_19507 : ¬ v_19506.toInt = 0 := by rw [ka_eq', show ((0 : Int32)).toInt = 0 from by decide] at c_19507; exact c_19507
          refine lv_iconst (v := 0) hx hb dX0_mayBegin_45 (by decide) ?_
          exact ka_rRz C hr hlk rfl ⟨_, rfl, ⟨by decide, by decide⟩⟩ dX0_mayBegin_46
        · have c_19507 : v_19506.toInt = 0 := by rw [ka_eq', show ((0 : Int32)).toInt = 0 from by decide] at c_19507; exact c_19507
          refine lv_iconst (v := 1) hx hb dX0_mayBegin_41 (by decide) ?_
          refine lv_goto (tgt := 46) hx hb dX0_mayBegin_42 (by decide) ?_
          exact ka_rRz C hr hlk rfl ⟨_, rfl, ⟨by decide, by decide⟩⟩ dX0_mayBegin_46
  · obtain rfl : x0 = 2 := (ka_eq' _ _).mpr (y_19493.trans (by decide))
    refine lv_aload_n hx hb dX0_mayBegin_0 rfl (lv_at hl 0 rfl) ?_
    refine lv_iload_n hx hb dX0_mayBegin_1 rfl (lv_at hl 1 rfl) ?_
    refine ka_RV (n := 1) C (cg_X0_lessonAt_149 l D F a0 a1 a2 x1 k0 a3 a4 a5 a6 a7 a8) gX0_mayBegin_X0_lessonAt rfl (by decide +kernel) ⟨Nat.le_of_ble_eq_true rfl, Nat.le_of_ble_eq_true rfl⟩ hK hP hS hE hN [0, 1] rfl [0] rfl (ci := 0) rfl rfl 0 rfl rfl hl.1 (rest := []) rfl (Nat.le_of_ble_eq_true rfl) dX0_mayBegin_2 ⟨Nat.le_of_ble_eq_true rfl, Nat.le_of_ble_eq_true rfl⟩ (fun v hv => ?_)
    subst hv
    refine ka_stk (w := [.ref a5]) rfl ?_
    refine lv_astore_n (lv' := [(2, .ref a5), (0, .ref a0), (1, .int 2)]) hx hb dX0_mayBegin_5 rfl hl (by decide) rfl (fun ls hl => ?_)
    refine lv_aload_n hx hb dX0_mayBegin_6 rfl (lv_at hl 0 rfl) ?_
    refine lv_ifnull hx hb dX0_mayBegin_7 ?_
    refine lv_aload_n hx hb dX0_mayBegin_10 rfl (lv_at hl 0 rfl) ?_
    refine ka_get C lq_145 rfl hK hP 5 rfl 3 (by decide) lq_146 rfl dX0_mayBegin_11 ?_
    refine kb_ifnull (tgt := 45) hx hb dX0_mayBegin_14 (by decide) (fun hfa_19508 => ?_) (fun fa_19508 hfa_19508 => ?_)
    · skip
      refine lv_iconst (v := 0) hx hb dX0_mayBegin_45 (by decide) ?_
      exact ka_rRz C hr hlk rfl ⟨_, rfl, ⟨by decide, by decide⟩⟩ dX0_mayBegin_46
    · have Ffa_19508 : F fa_19508 := ho2 fa_19508 hfa_19508
      refine lv_aload_n hx hb dX0_mayBegin_17 rfl (lv_at hl 1 rfl) ?_
      refine lv_iload_n hx hb dX0_mayBegin_18 rfl (lv_at hl 2 rfl) ?_
      refine ka_RV (n := 1) C (cg_X0_isDone_150 l D F a0 a1 a2 x1) gX0_mayBegin_X0_isDone rfl (by decide +kernel) ⟨Nat.le_of_ble_eq_true rfl, Nat.le_of_ble_eq_true rfl⟩ hK hP hS hE hN [0] rfl [] rfl (ci := 0) rfl rfl 0 rfl rfl hl.1 (rest := []) rfl (Nat.le_of_ble_eq_true rfl) dX0_mayBegin_19 ⟨Nat.le_of_ble_eq_true rfl, Nat.le_of_ble_eq_true rfl⟩ (fun v hv => ?_)
      obtain ⟨v_19509, rfl, hv_19509⟩ := hv
      have rv_19509 := ka_rng v_19509
      refine ka_stk (w := [.int v_19509]) rfl ?_
      refine lv_if_ne (tgt := 45) hx hb dX0_mayBegin_22 (by decide) (fun c_19510 => ?_) (fun c_19510 => ?_)
      · have c_19510 : ¬ v_19509.toInt = 0 := by rw [ka_eq', show ((0 : Int32)).toInt = 0 from by decide] at c_19510; exact c_19510
        refine lv_iconst (v := 0) hx hb dX0_mayBegin_45 (by decide) ?_
        exact ka_rRz C hr hlk rfl ⟨_, rfl, ⟨by decide, by decide⟩⟩ dX0_mayBegin_46
      · have c_19510 : v_19509.toInt = 0 := by rw [ka_eq', show ((0 : Int32)).toInt = 0 from by decide] at c_19510; exact c_19510
        refine lv_aload_n hx hb dX0_mayBegin_25 rfl (lv_at hl 1 rfl) ?_
        refine ka_get C lq_147 rfl hK hP 0 rfl 1 (by decide) lq_148 rfl dX0_mayBegin_26 ?_
        refine lv_iload_n hx hb dX0_mayBegin_29 rfl (lv_at hl 2 rfl) ?_
        refine va_iald hx hb hK hP 2 1 rfl rfl (ka_in (by decide) (by decide)) dX0_mayBegin_30 ?_
        refine lv_topi (fun v_19511 ev_19511 => ?_)
        refine lv_aload_n hx hb dX0_mayBegin_31 rfl (lv_at hl 1 rfl) ?_
        refine ka_get C lq_147 rfl hK hP 0 rfl 2 (by decide) lq_149 rfl dX0_mayBegin_32 ?_
        refine lv_iconst (v := (-1)) hx hb dX0_mayBegin_35 (by decide) ?_
        refine lv_ixor hx hb dX0_mayBegin_36 ?_
        refine lv_topi (fun v_19512 ev_19512 => ?_)
        refine lv_iand hx hb dX0_mayBegin_37 ?_
        refine lv_topi (fun v_19513 ev_19513 => ?_)
        refine lv_if_ne (tgt := 45) hx hb dX0_mayBegin_38 (by decide) (fun c_19514 => ?_) (fun c_19514 => ?_)
        · have c_19514 : ¬ v_19513.toInt = 0 := by rw [ka_eq', show ((0 : Int32)).toInt = 0 from by decide] at c_19514; exact c_19514
          refine lv_iconst (v := 0) hx hb dX0_mayBegin_45 (by decide) ?_
          exact ka_rRz C hr hlk rfl ⟨_, rfl, ⟨by decide, by decide⟩⟩ dX0_mayBegin_46
        · have c_19514 : v_19513.toInt = 0 := by rw [ka_eq', show ((0 : Int32)).toInt = 0 from by decide] at c_19514; exact c_19514
          refine lv_iconst (v := 1) hx hb dX0_mayBegin_41 (by decide) ?_
          refine lv_goto (tgt := 46) hx hb dX0_mayBegin_42 (by decide) ?_
          exact ka_rRz C hr hlk rfl ⟨_, rfl, ⟨by decide, by decide⟩⟩ dX0_mayBegin_46
  · obtain rfl : x0 = 3 := (ka_eq' _ _).mpr (y_19493.trans (by decide))
    refine lv_aload_n hx hb dX0_mayBegin_0 rfl (lv_at hl 0 rfl) ?_
    refine lv_iload_n hx hb dX0_mayBegin_1 rfl (lv_at hl 1 rfl) ?_
    refine ka_RV (n := 1) C (cg_X0_lessonAt_151 l D F a0 a1 a2 x1 k0 a3 a4 a5 a6 a7 a8) gX0_mayBegin_X0_lessonAt rfl (by decide +kernel) ⟨Nat.le_of_ble_eq_true rfl, Nat.le_of_ble_eq_true rfl⟩ hK hP hS hE hN [0, 1] rfl [0] rfl (ci := 0) rfl rfl 0 rfl rfl hl.1 (rest := []) rfl (Nat.le_of_ble_eq_true rfl) dX0_mayBegin_2 ⟨Nat.le_of_ble_eq_true rfl, Nat.le_of_ble_eq_true rfl⟩ (fun v hv => ?_)
    subst hv
    refine ka_stk (w := [.ref a6]) rfl ?_
    refine lv_astore_n (lv' := [(2, .ref a6), (0, .ref a0), (1, .int 3)]) hx hb dX0_mayBegin_5 rfl hl (by decide) rfl (fun ls hl => ?_)
    refine lv_aload_n hx hb dX0_mayBegin_6 rfl (lv_at hl 0 rfl) ?_
    refine lv_ifnull hx hb dX0_mayBegin_7 ?_
    refine lv_aload_n hx hb dX0_mayBegin_10 rfl (lv_at hl 0 rfl) ?_
    refine ka_get C lq_145 rfl hK hP 6 rfl 3 (by decide) lq_146 rfl dX0_mayBegin_11 ?_
    refine kb_ifnull (tgt := 45) hx hb dX0_mayBegin_14 (by decide) (fun hfa_19515 => ?_) (fun fa_19515 hfa_19515 => ?_)
    · skip
      refine lv_iconst (v := 0) hx hb dX0_mayBegin_45 (by decide) ?_
      exact ka_rRz C hr hlk rfl ⟨_, rfl, ⟨by decide, by decide⟩⟩ dX0_mayBegin_46
    · have Ffa_19515 : F fa_19515 := ho3 fa_19515 hfa_19515
      refine lv_aload_n hx hb dX0_mayBegin_17 rfl (lv_at hl 1 rfl) ?_
      refine lv_iload_n hx hb dX0_mayBegin_18 rfl (lv_at hl 2 rfl) ?_
      refine ka_RV (n := 1) C (cg_X0_isDone_152 l D F a0 a1 a2 x1) gX0_mayBegin_X0_isDone rfl (by decide +kernel) ⟨Nat.le_of_ble_eq_true rfl, Nat.le_of_ble_eq_true rfl⟩ hK hP hS hE hN [0] rfl [] rfl (ci := 0) rfl rfl 0 rfl rfl hl.1 (rest := []) rfl (Nat.le_of_ble_eq_true rfl) dX0_mayBegin_19 ⟨Nat.le_of_ble_eq_true rfl, Nat.le_of_ble_eq_true rfl⟩ (fun v hv => ?_)
      obtain ⟨v_19516, rfl, hv_19516⟩ := hv
      have rv_19516 := ka_rng v_19516
      refine ka_stk (w := [.int v_19516]) rfl ?_
      refine lv_if_ne (tgt := 45) hx hb dX0_mayBegin_22 (by decide) (fun c_19517 => ?_) (fun c_19517 => ?_)
      · have c_19517 : ¬ v_19516.toInt = 0 := by rw [ka_eq', show ((0 : Int32)).toInt = 0 from by decide] at c_19517; exact c_19517
        refine lv_iconst (v := 0) hx hb dX0_mayBegin_45 (by decide) ?_
        exact ka_rRz C hr hlk rfl ⟨_, rfl, ⟨by decide, by decide⟩⟩ dX0_mayBegin_46
      · have c_19517 : v_19516.toInt = 0 := by rw [ka_eq', show ((0 : Int32)).toInt = 0 from by decide] at c_19517; exact c_19517
        refine lv_aload_n hx hb dX0_mayBegin_25 rfl (lv_at hl 1 rfl) ?_
        refine ka_get C lq_147 rfl hK hP 0 rfl 1 (by decide) lq_148 rfl dX0_mayBegin_26 ?_
        refine lv_iload_n hx hb dX0_mayBegin_29 rfl (lv_at hl 2 rfl) ?_
        refine va_iald hx hb hK hP 2 1 rfl rfl (ka_in (by decide) (by decide)) dX0_mayBegin_30 ?_
        refine lv_topi (fun v_19518 ev_19518 => ?_)
        refine lv_aload_n hx hb dX0_mayBegin_31 rfl (lv_at hl 1 rfl) ?_
        refine ka_get C lq_147 rfl hK hP 0 rfl 2 (by decide) lq_149 rfl dX0_mayBegin_32 ?_
        refine lv_iconst (v := (-1)) hx hb dX0_mayBegin_35 (by decide) ?_
        refine lv_ixor hx hb dX0_mayBegin_36 ?_
        refine lv_topi (fun v_19519 ev_19519 => ?_)
        refine lv_iand hx hb dX0_mayBegin_37 ?_
        refine lv_topi (fun v_19520 ev_19520 => ?_)
        refine lv_if_ne (tgt := 45) hx hb dX0_mayBegin_38 (by decide) (fun c_19521 => ?_) (fun c_19521 => ?_)
        · have c_19521 : ¬ v_19520.toInt = 0 := by rw [ka_eq', show ((0 : Int32)).toInt = 0 from by decide] at c_19521; exact c_19521
          refine lv_iconst (v := 0) hx hb dX0_mayBegin_45 (by decide) ?_
          exact ka_rRz C hr hlk rfl ⟨_, rfl, ⟨by decide, by decide⟩⟩ dX0_mayBegin_46
        · have c_19521 : v_19520.toInt = 0 := by rw [ka_eq', show ((0 : Int32)).toInt = 0 from by decide] at c_19521; exact c_19521
          refine lv_iconst (v := 1) hx hb dX0_mayBegin_41 (by decide) ?_
          refine lv_goto (tgt := 46) hx hb dX0_mayBegin_42 (by decide) ?_
          exact ka_rRz C hr hlk rfl ⟨_, rfl, ⟨by decide, by decide⟩⟩ dX0_mayBegin_46
  · obtain rfl : x0 = 4 := (ka_eq' _ _).mpr (y_19493.trans (by decide))
    refine lv_aload_n hx hb dX0_mayBegin_0 rfl (lv_at hl 0 rfl) ?_
    refine lv_iload_n hx hb dX0_mayBegin_1 rfl (lv_at hl 1 rfl) ?_
    refine ka_RV (n := 1) C (cg_X0_lessonAt_153 l D F a0 a1 a2 x1 k0 a3 a4 a5 a6 a7 a8) gX0_mayBegin_X0_lessonAt rfl (by decide +kernel) ⟨Nat.le_of_ble_eq_true rfl, Nat.le_of_ble_eq_true rfl⟩ hK hP hS hE hN [0, 1] rfl [0] rfl (ci := 0) rfl rfl 0 rfl rfl hl.1 (rest := []) rfl (Nat.le_of_ble_eq_true rfl) dX0_mayBegin_2 ⟨Nat.le_of_ble_eq_true rfl, Nat.le_of_ble_eq_true rfl⟩ (fun v hv => ?_)
    subst hv
    refine ka_stk (w := [.ref a7]) rfl ?_
    refine lv_astore_n (lv' := [(2, .ref a7), (0, .ref a0), (1, .int 4)]) hx hb dX0_mayBegin_5 rfl hl (by decide) rfl (fun ls hl => ?_)
    refine lv_aload_n hx hb dX0_mayBegin_6 rfl (lv_at hl 0 rfl) ?_
    refine lv_ifnull hx hb dX0_mayBegin_7 ?_
    refine lv_aload_n hx hb dX0_mayBegin_10 rfl (lv_at hl 0 rfl) ?_
    refine ka_get C lq_145 rfl hK hP 7 rfl 3 (by decide) lq_146 rfl dX0_mayBegin_11 ?_
    refine kb_ifnull (tgt := 45) hx hb dX0_mayBegin_14 (by decide) (fun hfa_19522 => ?_) (fun fa_19522 hfa_19522 => ?_)
    · skip
      refine lv_iconst (v := 0) hx hb dX0_mayBegin_45 (by decide) ?_
      exact ka_rRz C hr hlk rfl ⟨_, rfl, ⟨by decide, by decide⟩⟩ dX0_mayBegin_46
    · have Ffa_19522 : F fa_19522 := ho4 fa_19522 hfa_19522
      refine lv_aload_n hx hb dX0_mayBegin_17 rfl (lv_at hl 1 rfl) ?_
      refine lv_iload_n hx hb dX0_mayBegin_18 rfl (lv_at hl 2 rfl) ?_
      refine ka_RV (n := 1) C (cg_X0_isDone_154 l D F a0 a1 a2 x1) gX0_mayBegin_X0_isDone rfl (by decide +kernel) ⟨Nat.le_of_ble_eq_true rfl, Nat.le_of_ble_eq_true rfl⟩ hK hP hS hE hN [0] rfl [] rfl (ci := 0) rfl rfl 0 rfl rfl hl.1 (rest := []) rfl (Nat.le_of_ble_eq_true rfl) dX0_mayBegin_19 ⟨Nat.le_of_ble_eq_true rfl, Nat.le_of_ble_eq_true rfl⟩ (fun v hv => ?_)
      obtain ⟨v_19523, rfl, hv_19523⟩ := hv
      have rv_19523 := ka_rng v_19523
      refine ka_stk (w := [.int v_19523]) rfl ?_
      refine lv_if_ne (tgt := 45) hx hb dX0_mayBegin_22 (by decide) (fun c_19524 => ?_) (fun c_19524 => ?_)
      · have c_19524 : ¬ v_19523.toInt = 0 := by rw [ka_eq', show ((0 : Int32)).toInt = 0 from by decide] at c_19524; exact c_19524
        refine lv_iconst (v := 0) hx hb dX0_mayBegin_45 (by decide) ?_
        exact ka_rRz C hr hlk rfl ⟨_, rfl, ⟨by decide, by decide⟩⟩ dX0_mayBegin_46
      · have c_19524 : v_19523.toInt = 0 := by rw [ka_eq', show ((0 : Int32)).toInt = 0 from by decide] at c_19524; exact c_19524
        refine lv_aload_n hx hb dX0_mayBegin_25 rfl (lv_at hl 1 rfl) ?_
        refine ka_get C lq_147 rfl hK hP 0 rfl 1 (by decide) lq_148 rfl dX0_mayBegin_26 ?_
        refine lv_iload_n hx hb dX0_mayBegin_29 rfl (lv_at hl 2 rfl) ?_
        refine va_iald hx hb hK hP 2 1 rfl rfl (ka_in (by decide) (by decide)) dX0_mayBegin_30 ?_
        refine lv_topi (fun v_19525 ev_19525 => ?_)
        refine lv_aload_n hx hb dX0_mayBegin_31 rfl (lv_at hl 1 rfl) ?_
        refine ka_get C lq_147 rfl hK hP 0 rfl 2 (by decide) lq_149 rfl dX0_mayBegin_32 ?_
        refine lv_iconst (v := (-1)) hx hb dX0_mayBegin_35 (by decide) ?_
        refine lv_ixor hx hb dX0_mayBegin_36 ?_
        refine lv_topi (fun v_19526 ev_19526 => ?_)
        refine lv_iand hx hb dX0_mayBegin_37 ?_
        refine lv_topi (fun v_19527 ev_19527 => ?_)
        refine lv_if_ne (tgt := 45) hx hb dX0_mayBegin_38 (by decide) (fun c_19528 => ?_) (fun c_19528 => ?_)
        · have c_19528 : ¬ v_19527.toInt = 0 := by rw [ka_eq', show ((0 : Int32)).toInt = 0 from by decide] at c_19528; exact c_19528
          refine lv_iconst (v := 0) hx hb dX0_mayBegin_45 (by decide) ?_
          exact ka_rRz C hr hlk rfl ⟨_, rfl, ⟨by decide, by decide⟩⟩ dX0_mayBegin_46
        · have c_19528 : v_19527.toInt = 0 := by rw [ka_eq', show ((0 : Int32)).toInt = 0 from by decide] at c_19528; exact c_19528
          refine lv_iconst (v := 1) hx hb dX0_mayBegin_41 (by decide) ?_
          refine lv_goto (tgt := 46) hx hb dX0_mayBegin_42 (by decide) ?_
          exact ka_rRz C hr hlk rfl ⟨_, rfl, ⟨by decide, by decide⟩⟩ dX0_mayBegin_46
  · obtain rfl : x0 = 5 := (ka_eq' _ _).mpr (y_19493.trans (by decide))
    refine lv_aload_n hx hb dX0_mayBegin_0 rfl (lv_at hl 0 rfl) ?_
    refine lv_iload_n hx hb dX0_mayBegin_1 rfl (lv_at hl 1 rfl) ?_
    refine ka_RV (n := 1) C (cg_X0_lessonAt_155 l D F a0 a1 a2 x1 k0 a3 a4 a5 a6 a7 a8) gX0_mayBegin_X0_lessonAt rfl (by decide +kernel) ⟨Nat.le_of_ble_eq_true rfl, Nat.le_of_ble_eq_true rfl⟩ hK hP hS hE hN [0, 1] rfl [0] rfl (ci := 0) rfl rfl 0 rfl rfl hl.1 (rest := []) rfl (Nat.le_of_ble_eq_true rfl) dX0_mayBegin_2 ⟨Nat.le_of_ble_eq_true rfl, Nat.le_of_ble_eq_true rfl⟩ (fun v hv => ?_)
    subst hv
    refine ka_stk (w := [.ref a8]) rfl ?_
    refine lv_astore_n (lv' := [(2, .ref a8), (0, .ref a0), (1, .int 5)]) hx hb dX0_mayBegin_5 rfl hl (by decide) rfl (fun ls hl => ?_)
    refine lv_aload_n hx hb dX0_mayBegin_6 rfl (lv_at hl 0 rfl) ?_
    refine lv_ifnull hx hb dX0_mayBegin_7 ?_
    refine lv_aload_n hx hb dX0_mayBegin_10 rfl (lv_at hl 0 rfl) ?_
    refine ka_get C lq_145 rfl hK hP 8 rfl 3 (by decide) lq_146 rfl dX0_mayBegin_11 ?_
    refine kb_ifnull (tgt := 45) hx hb dX0_mayBegin_14 (by decide) (fun hfa_19529 => ?_) (fun fa_19529 hfa_19529 => ?_)
    · skip
      refine lv_iconst (v := 0) hx hb dX0_mayBegin_45 (by decide) ?_
      exact ka_rRz C hr hlk rfl ⟨_, rfl, ⟨by decide, by decide⟩⟩ dX0_mayBegin_46
    · have Ffa_19529 : F fa_19529 := ho5 fa_19529 hfa_19529
      refine lv_aload_n hx hb dX0_mayBegin_17 rfl (lv_at hl 1 rfl) ?_
      refine lv_iload_n hx hb dX0_mayBegin_18 rfl (lv_at hl 2 rfl) ?_
      refine ka_RV (n := 1) C (cg_X0_isDone_156 l D F a0 a1 a2 x1) gX0_mayBegin_X0_isDone rfl (by decide +kernel) ⟨Nat.le_of_ble_eq_true rfl, Nat.le_of_ble_eq_true rfl⟩ hK hP hS hE hN [0] rfl [] rfl (ci := 0) rfl rfl 0 rfl rfl hl.1 (rest := []) rfl (Nat.le_of_ble_eq_true rfl) dX0_mayBegin_19 ⟨Nat.le_of_ble_eq_true rfl, Nat.le_of_ble_eq_true rfl⟩ (fun v hv => ?_)
      obtain ⟨v_19530, rfl, hv_19530⟩ := hv
      have rv_19530 := ka_rng v_19530
      refine ka_stk (w := [.int v_19530]) rfl ?_
      refine lv_if_ne (tgt := 45) hx hb dX0_mayBegin_22 (by decide) (fun c_19531 => ?_) (fun c_19531 => ?_)
      · have c_19531 : ¬ v_19530.toInt = 0 := by rw [ka_eq', show ((0 : Int32)).toInt = 0 from by decide] at c_19531; exact c_19531
        refine lv_iconst (v := 0) hx hb dX0_mayBegin_45 (by decide) ?_
        exact ka_rRz C hr hlk rfl ⟨_, rfl, ⟨by decide, by decide⟩⟩ dX0_mayBegin_46
      · have c_19531 : v_19530.toInt = 0 := by rw [ka_eq', show ((0 : Int32)).toInt = 0 from by decide] at c_19531; exact c_19531
        refine lv_aload_n hx hb dX0_mayBegin_25 rfl (lv_at hl 1 rfl) ?_
        refine ka_get C lq_147 rfl hK hP 0 rfl 1 (by decide) lq_148 rfl dX0_mayBegin_26 ?_
        refine lv_iload_n hx hb dX0_mayBegin_29 rfl (lv_at hl 2 rfl) ?_
        refine va_iald hx hb hK hP 2 1 rfl rfl (ka_in (by decide) (by decide)) dX0_mayBegin_30 ?_
        refine lv_topi (fun v_19532 ev_19532 => ?_)
        refine lv_aload_n hx hb dX0_mayBegin_31 rfl (lv_at hl 1 rfl) ?_
        refine ka_get C lq_147 rfl hK hP 0 rfl 2 (by decide) lq_149 rfl dX0_mayBegin_32 ?_
        refine lv_iconst (v := (-1)) hx hb dX0_mayBegin_35 (by decide) ?_
        refine lv_ixor hx hb dX0_mayBegin_36 ?_
        refine lv_topi (fun v_19533 ev_19533 => ?_)
        refine lv_iand hx hb dX0_mayBegin_37 ?_
        refine lv_topi (fun v_19534 ev_19534 => ?_)
        refine lv_if_ne (tgt := 45) hx hb dX0_mayBegin_38 (by decide) (fun c_19535 => ?_) (fun c_19535 => ?_)
        · have c_19535 : ¬ v_19534.toInt = 0 := by rw [ka_eq', show ((0 : Int32)).toInt = 0 from by decide] at c_19535; exact c_19535
          refine lv_iconst (v := 0) hx hb dX0_mayBegin_45 (by decide) ?_
          exact ka_rRz C hr hlk rfl ⟨_, rfl, ⟨by decide, by decide⟩⟩ dX0_mayBegin_46
        · have c_19535 : v_19534.toInt = 0 := by rw [ka_eq', show ((0 : Int32)).toInt = 0 from by decide] at c_19535; exact c_19535
          refine lv_iconst (v := 1) hx hb dX0_mayBegin_41 (by decide) ?_
          refine lv_goto (tgt := 46) hx hb dX0_mayBegin_42 (by decide) ?_
          exact ka_rRz C hr hlk rfl ⟨_, rfl, ⟨by decide, by decide⟩⟩ dX0_mayBegin_46
theorem lq_166 : ∀ w ∈ wsX60, w ∈ wsX6_open := by decide +kernel
theorem lq_167 : Cond.fieldLink RX6 28 "AskedBack" "course" "LAskedBack$Course;" ∈ wsX6_open := by decide +kernel
set_option maxHeartbeats 4000000 in
set_option maxRecDepth 100000 in
theorem cg_X6_open_178 (l : Launch) (D : va_G) (F : Nat → Prop) (a0 : Nat) (a1 : Nat) (a2 : Nat) (a3 : Nat) (a4 : Nat) (x0 : Int32) (x1 : Int32) (x2 : Int32) (x3 : Int32) (x4 : Int32) (a5 : Nat) (a6 : Nat) (x5 : Int32) (k0 : ClassId) (a7 : Nat) (a8 : Nat) (a9 : Nat) (a10 : Nat) (a11 : Nat) (a12 : Nat) (k1 : ClassId) (f0 : Nat → Int32) (a13 : Nat) (a14 : Nat) (x6 : Int32) (o0 : Option Nat) (a15 : Nat) (a16 : Nat) (x7 : Int32) (o1 : Option Nat) (a17 : Nat) (a18 : Nat) (x8 : Int32) (o2 : Option Nat) (a19 : Nat) (a20 : Nat) (x9 : Int32) (o3 : Option Nat) (a21 : Nat) (a22 : Nat) (x10 : Int32) (o4 : Option Nat) (a23 : Nat) (a24 : Nat) (x11 : Int32) (o5 : Option Nat) (hx0 : -1 ≤ x0.toInt ∧ x0.toInt ≤ 5) (hx6 : 0 ≤ x6.toInt ∧ x6.toInt ≤ 12) (ho0 : ∀ a : Nat, o0 = some a → F a) (hx7 : 0 ≤ x7.toInt ∧ x7.toInt ≤ 12) (ho1 : ∀ a : Nat, o1 = some a → F a) (hx8 : 0 ≤ x8.toInt ∧ x8.toInt ≤ 12) (ho2 : ∀ a : Nat, o2 = some a → F a) (hx9 : 0 ≤ x9.toInt ∧ x9.toInt ≤ 12) (ho3 : ∀ a : Nat, o3 = some a → F a) (hx10 : 0 ≤ x10.toInt ∧ x10.toInt ≤ 12) (ho4 : ∀ a : Nat, o4 = some a → F a) (hx11 : 0 ≤ x11.toInt ∧ x11.toInt ≤ 12) (ho5 : ∀ a : Nat, o5 = some a → F a) : ka_R l D F yX6_open wsX6_open 3 64 [.ref a0] [(a0, .inr (6, [.ref a1, .ref a2, .ref a3, .ref a4, .int x0, .int x1, .int x2, .int x3, .int x4])), (a3, .inr (0, [.ref a5, .ref a6, .int x5])), (a5, .inl (k0, 6, .inr (.inr (.inr (.inr (va_up (va_up (va_up (va_up (va_up (va_up (fun _ => none) 0 (some a7)) 1 (some a8)) 2 (some a9)) 3 (some a10)) 4 (some a11)) 5 (some a12))))))), (a6, .inl (k1, 6, .inl f0)), (a7, .inr (2, [.ref a13, .ref a14, .int x6, va_rf o0])), (a8, .inr (2, [.ref a15, .ref a16, .int x7, va_rf o1])), (a9, .inr (2, [.ref a17, .ref a18, .int x8, va_rf o2])), (a10, .inr (2, [.ref a19, .ref a20, .int x9, va_rf o3])), (a11, .inr (2, [.ref a21, .ref a22, .int x10, va_rf o4])), (a12, .inr (2, [.ref a23, .ref a24, .int x11, va_rf o5]))] [(k0, .object RX2), (k1, .int)] (fun v => ∃ x : Int32, v = some (.int x) ∧ -1 ≤ x.toInt ∧ x.toInt ≤ 5) := by
  refine ka_R_of (cc := cX6_open) (maxL := 2) (ret := (some .int)) (by decide) rfl (Nat.le_of_ble_eq_true rfl) ?_
  intro p e s m below meth c ls C hr hlk hP hK hE hN hl
  have hS : va_S (fun _ => False) s.heap s.heap [] := va_S.rf
  have C : CallFix p m c cX6_open 2 s [.ref a0].toArray wsX6_open RX6 := C
  obtain ⟨hx, hb, hml, hown, hts⟩ := id C
  have hl : lv_has ls 2 [(0, .ref a0)] := hl
  have rx0 := ka_rng x0
  have rx1 := ka_rng x1
  have rx2 := ka_rng x2
  have rx3 := ka_rng x3
  have rx4 := ka_rng x4
  have rx5 := ka_rng x5
  have rx6 := ka_rng x6
  have rx7 := ka_rng x7
  have rx8 := ka_rng x8
  have rx9 := ka_rng x9
  have rx10 := ka_rng x10
  have rx11 := ka_rng x11
  refine lv_iconst (v := 0) hx hb dX6_open_0 (by decide) ?_
  refine lv_istore_n (lv' := [(1, .int 0), (0, .ref a0)]) hx hb dX6_open_1 rfl hl (by decide) rfl (fun ls hl => ?_)
  have lp_19552 : ∀ (n : Nat) (i19552_1 : Int32), (0 ≤ i19552_1.toInt ∧ i19552_1.toInt ≤ 6) → (6 - i19552_1.toInt).toNat < n → ∀ (ls : Array Slot), lv_has ls 2 [(0, .ref a0), (1, .int i19552_1)] → W p l e ({ frames := 3, cells := 0, slots := 0, locals := 64 }) s m [.ref a0].toArray below meth c s.heap [] 0 0 (MQ below (ka_QR (fun v => ∃ x : Int32, v = some (.int x) ∧ -1 ≤ x.toInt ∧ x.toInt ≤ 5)) [.ref a0].toArray s 0 0 (fun _ => False)) (F0 m 2 ls []) := by
    intro n
    induction n with
    | zero =>
      intro i19552_1 hi19552_1 hm
      exact absurd hm (Nat.not_lt_zero _)
    | succ n ih_19552 =>
      intro i19552_1 hi19552_1 hm ls hl
      have ri19552_1 := ka_rng i19552_1
      refine lv_iload_n hx hb dX6_open_2 rfl (lv_at hl 1 rfl) ?_
      refine lv_bipush (v := 6) hx hb dX6_open_3 (by decide) ?_
      refine lv_icmp_ge (tgt := 27) hx hb dX6_open_5 (by decide) (fun c_19557 => ?_) (fun c_19557 => ?_)
      · have c_19557 : 6 ≤ i19552_1.toInt := by rw [ka_le', show ((6 : Int32)).toInt = 6 from by decide] at c_19557; exact c_19557
        refine lv_iconst (v := (-1)) hx hb dX6_open_27 (by decide) ?_
        exact ka_rRi C hr hlk ⟨_, rfl, ⟨by decide, by decide⟩⟩ dX6_open_28
      · have c_19557 : ¬ 6 ≤ i19552_1.toInt := by rw [ka_le', show ((6 : Int32)).toInt = 6 from by decide] at c_19557; exact c_19557
        refine lv_aload_n hx hb dX6_open_8 rfl (lv_at hl 0 rfl) ?_
        refine ka_get C lq_166 rfl hK hP 0 rfl 2 (by decide) lq_167 rfl dX6_open_9 ?_
        refine lv_iload_n hx hb dX6_open_12 rfl (lv_at hl 1 rfl) ?_
        refine ka_RV (n := 1) C (cg_X0_mayBegin_177 l D F a3 i19552_1 a5 a6 x5 k0 a7 a8 a9 a10 a11 a12 k1 f0 a13 a14 x6 o0 a15 a16 x7 o1 a17 a18 x8 o2 a19 a20 x9 o3 a21 a22 x10 o4 a23 a24 x11 o5 ⟨by omega, by omega⟩ ⟨by omega, by omega⟩ ho0 ⟨by omega, by omega⟩ ho1 ⟨by omega, by omega⟩ ho2 ⟨by omega, by omega⟩ ho3 ⟨by omega, by omega⟩ ho4 ⟨by omega, by omega⟩ ho5) gX6_open_X0_mayBegin rfl (by decide +kernel) ⟨Nat.le_of_ble_eq_true rfl, Nat.le_of_ble_eq_true rfl⟩ hK hP hS hE hN [1, 2, 3, 4, 5, 6, 7, 8, 9] rfl [0, 1] rfl (ci := 0) rfl rfl 1 rfl rfl hl.1 (rest := []) rfl (Nat.le_of_ble_eq_true rfl) dX6_open_13 ⟨Nat.le_of_ble_eq_true rfl, Nat.le_of_ble_eq_true rfl⟩ (fun v hv => ?_)
        obtain ⟨v_19558, rfl, hv_19558⟩ := hv
        have rv_19558 := ka_rng v_19558
        refine ka_stk (w := [.int v_19558]) rfl ?_
        refine lv_if_eq (tgt := 21) hx hb dX6_open_16 (by decide) (fun c_19559 => ?_) (fun c_19559 => ?_)
        · have c_19559 : v_19558.toInt = 0 := by rw [ka_eq', show ((0 : Int32)).toInt = 0 from by decide] at c_19559; exact c_19559
          obtain ⟨v_19560, ev_19560⟩ : ∃ y : Int32, y = i19552_1 + 1 := ⟨_, rfl⟩
          refine lv_iinc (v := v_19560) (lv' := [(1, .int v_19560), (0, .ref a0)]) hx hb dX6_open_21 hl (k := 1) rfl (by rw [ev_19560]; rfl) (by decide) rfl (fun ls hl => ?_)
          have fv_19560 : v_19560.toInt = i19552_1.toInt + 1 := by rw [ev_19560]; exact ka_add (x := i19552_1.toInt) (y := 1) rfl (by decide) (by omega) (by omega)
          refine lv_goto (tgt := 2) hx hb dX6_open_24 (by decide) ?_
          exact ih_19552 v_19560 ⟨by omega, by omega⟩ (by omega) ls (lv_sub hl [1, 0] rfl)
        · have c_19559 : ¬ v_19558.toInt = 0 := by rw [ka_eq', show ((0 : Int32)).toInt = 0 from by decide] at c_19559; exact c_19559
          refine lv_iload_n hx hb dX6_open_19 rfl (lv_at hl 1 rfl) ?_
          exact ka_rRi C hr hlk ⟨_, rfl, ⟨by omega, by omega⟩⟩ dX6_open_20
  exact lp_19552 _ 0 ⟨by decide, by decide⟩ (Nat.lt_succ_self _) ls (lv_sub hl [1, 0] rfl)
theorem lq_168 : ∀ w ∈ wsX60, w ∈ wsX6_feed := by decide +kernel
theorem lq_169 : Cond.fieldLink RX6 10 "AskedBack" "tape" "LAskedBack$Tape;" ∈ wsX6_feed := by decide +kernel
theorem lq_170 : ∀ w ∈ wsX50, w ∈ wsX6_feed := by decide +kernel
theorem lq_171 : Cond.fieldLink RX6 55 "AskedBack$Tape" "length" "I" ∈ wsX6_feed := by decide +kernel
set_option maxHeartbeats 4000000 in
set_option maxRecDepth 100000 in
theorem cg_X6_feed_179 (l : Launch) (D : va_G) (F : Nat → Prop) (a0 : Nat) (x0 : Int32) (x1 : Int32) (x2 : Int32) (x3 : Int32) (x4 : Int32) (a1 : Nat) (a2 : Nat) (a3 : Nat) (a4 : Nat) (x5 : Int32) (x6 : Int32) (x7 : Int32) (x8 : Int32) (x9 : Int32) (a5 : Nat) (x10 : Int32) (k0 : ClassId) (f0 : Nat → Int32) (hx5 : -1 ≤ x5.toInt ∧ x5.toInt ≤ 5) (hx10 : 0 ≤ x10.toInt ∧ x10.toInt ≤ 80) (hf0 : sb_Fit f0) : ka_E l D F yX6_feed wsX6_feed 1 22 0 0 [.ref a0, .int x0, .int x1, .int x2, .int x3, .int x4] [(a0, .inr (6, [.ref a1, .ref a2, .ref a3, .ref a4, .int x5, .int x6, .int x7, .int x8, .int x9])), (a1, .inr (5, [.ref a5, .int x10])), (a5, .inl (k0, 80, .inl f0))] [(k0, .byte)] (fun (u : (Int32) × (Nat → Int32) × (Int32)) => some (.int (u.2.2))) (fun (u : (Int32) × (Nat → Int32) × (Int32)) => (0 ≤ (u.1).toInt ∧ (u.1).toInt ≤ 80) ∧ (sb_Fit (u.2.1)) ∧ (-1 ≤ (u.2.2).toInt ∧ (u.2.2).toInt ≤ 80)) (fun (u : (Int32) × (Nat → Int32) × (Int32)) => [(a0, .inr (6, [.ref a1, .ref a2, .ref a3, .ref a4, .int x5, .int x6, .int x7, .int x8, .int x9])), (a1, .inr (5, [.ref a5, .int (u.1)])), (a5, .inl (k0, 80, .inl (u.2.1)))]) (fun (u : (Int32) × (Nat → Int32) × (Int32)) => []) := by
  refine ka_E_of (cc := cX6_feed) (maxL := 6) (ret := (some .int)) (by decide) rfl (Nat.le_of_ble_eq_true rfl) ?_
  intro p e s m below meth c ls A C hr hlk hin hP hK hD hS hA hE hN hl
  have C : CallFix p m c cX6_feed 6 s [.ref a0, .int x0, .int x1, .int x2, .int x3, .int x4].toArray wsX6_feed RX6 := C
  obtain ⟨hx, hb, hml, hown, hts⟩ := id C
  have hl : lv_has ls 6 [(0, .ref a0), (1, .int x0), (2, .int x1), (3, .int x2), (4, .int x3), (5, .int x4)] := hl
  have rx0 := ka_rng x0
  have rx1 := ka_rng x1
  have rx2 := ka_rng x2
  have rx3 := ka_rng x3
  have rx4 := ka_rng x4
  have rx5 := ka_rng x5
  have rx6 := ka_rng x6
  have rx7 := ka_rng x7
  have rx8 := ka_rng x8
  have rx9 := ka_rng x9
  have rx10 := ka_rng x10
  refine lv_aload_n hx hb dX6_feed_0 rfl (lv_at hl 0 rfl) ?_
  refine ka_get C lq_168 rfl hK hP 0 rfl 0 (by decide) lq_169 rfl dX6_feed_1 ?_
  refine ka_get C lq_170 rfl hK hP 1 rfl 1 (by decide) lq_171 rfl dX6_feed_4 ?_
  refine lv_bipush (v := 20) hx hb dX6_feed_7 (by decide) ?_
  refine lv_iadd hx hb dX6_feed_9 ?_
  refine lv_topi (fun v_19622 ev_19622 => ?_)
  have fv_19622 : v_19622.toInt = x10.toInt + 20 := by rw [ev_19622]; exact ka_add (x := x10.toInt) (y := 20) rfl (by decide) (by omega) (by omega)
  refine lv_bipush (v := 80) hx hb dX6_feed_10 (by decide) ?_
  refine lv_icmp_le (tgt := 17) hx hb dX6_feed_12 (by decide) (fun c_19623 => ?_) (fun c_19623 => ?_)
  · have c_19623 : v_19622.toInt ≤ 80 := by rw [ka_le', show ((80 : Int32)).toInt = 80 from by decide] at c_19623; exact c_19623
    refine lv_aload_n hx hb dX6_feed_17 rfl (lv_at hl 0 rfl) ?_
    refine ka_get C lq_168 rfl hK hP 0 rfl 0 (by decide) lq_169 rfl dX6_feed_18 ?_
    refine lv_iload_n hx hb dX6_feed_21 rfl (lv_at hl 1 rfl) ?_
    refine ka_EV (n := 1) (wr := [(a0, .inr (6, [.ref a1, .ref a2, .ref a3, .ref a4, .int x5, .int x6, .int x7, .int x8, .int x9]))]) C (cg_X5_append_1 l D F a1 x0 a5 x10 k0 f0 ⟨by omega, by omega⟩ hf0) gX6_feed_X5_append rfl (by decide +kernel) ⟨Nat.le_of_ble_eq_true rfl, Nat.le_of_ble_eq_true rfl⟩ hK hP hD hS hA hE hN [1, 2] rfl (by decide) [0] rfl (by decide) (by decide) [0] rfl (ci := 5) rfl rfl 1 rfl rfl hl.1 (rest := []) rfl (Nat.le_of_ble_eq_true rfl) dX6_feed_22 ⟨Nat.le_of_ble_eq_true rfl, Nat.le_of_ble_eq_true rfl⟩ (fun u H locs hq hP hD hK hS => ?_)
    obtain ⟨v_19624, g_19625⟩ := u
    have hq : (0 ≤ v_19624.toInt ∧ v_19624.toInt ≤ 80) ∧ (sb_Fit g_19625) := hq
    obtain ⟨hv_19624, hg_19625⟩ := hq
    have rv_19624 := ka_rng v_19624
    have hP : va_P D vwCl [(a0, .inr (6, [.ref a1, .ref a2, .ref a3, .ref a4, .int x5, .int x6, .int x7, .int x8, .int x9])), (a1, .inr (5, [.ref a5, .int v_19624])), (a5, .inl (k0, 80, .inl g_19625))] H := hP
    have hD : va_D A [(a0, .inr (6, [.ref a1, .ref a2, .ref a3, .ref a4, .int x5, .int x6, .int x7, .int x8, .int x9])), (a1, .inr (5, [.ref a5, .int v_19624])), (a5, .inl (k0, 80, .inl g_19625))] := hD
    have hK : va_K D vwCl [(k0, .byte)] s := by simpa using hK
    refine ka_stk (w := []) rfl ?_
    refine lv_aload_n hx hb dX6_feed_25 rfl (lv_at hl 0 rfl) ?_
    refine ka_get C lq_168 rfl hK hP 0 rfl 0 (by decide) lq_169 rfl dX6_feed_26 ?_
    refine lv_iload_n hx hb dX6_feed_29 rfl (lv_at hl 2 rfl) ?_
    refine ka_EV (n := 1) (wr := [(a0, .inr (6, [.ref a1, .ref a2, .ref a3, .ref a4, .int x5, .int x6, .int x7, .int x8, .int x9]))]) C (cg_X5_append_1 l D F a1 x1 a5 v_19624 k0 g_19625 ⟨by omega, by omega⟩ hg_19625) gX6_feed_X5_append rfl (by decide +kernel) ⟨Nat.le_of_ble_eq_true rfl, Nat.le_of_ble_eq_true rfl⟩ hK hP hD hS hA hE hN [1, 2] rfl (by decide) [0] rfl (by decide) (by decide) [0] rfl (ci := 5) rfl rfl 1 rfl rfl hl.1 (rest := []) rfl (Nat.le_of_ble_eq_true rfl) dX6_feed_30 ⟨Nat.le_of_ble_eq_true rfl, Nat.le_of_ble_eq_true rfl⟩ (fun u H locs hq hP hD hK hS => ?_)
    obtain ⟨v_19626, g_19627⟩ := u
    have hq : (0 ≤ v_19626.toInt ∧ v_19626.toInt ≤ 80) ∧ (sb_Fit g_19627) := hq
    obtain ⟨hv_19626, hg_19627⟩ := hq
    have rv_19626 := ka_rng v_19626
    have hP : va_P D vwCl [(a0, .inr (6, [.ref a1, .ref a2, .ref a3, .ref a4, .int x5, .int x6, .int x7, .int x8, .int x9])), (a1, .inr (5, [.ref a5, .int v_19626])), (a5, .inl (k0, 80, .inl g_19627))] H := hP
    have hD : va_D A [(a0, .inr (6, [.ref a1, .ref a2, .ref a3, .ref a4, .int x5, .int x6, .int x7, .int x8, .int x9])), (a1, .inr (5, [.ref a5, .int v_19626])), (a5, .inl (k0, 80, .inl g_19627))] := hD
    have hK : va_K D vwCl [(k0, .byte)] s := by simpa using hK
    refine ka_stk (w := []) rfl ?_
    refine lv_aload_n hx hb dX6_feed_33 rfl (lv_at hl 0 rfl) ?_
    refine ka_get C lq_168 rfl hK hP 0 rfl 0 (by decide) lq_169 rfl dX6_feed_34 ?_
    refine lv_iload_n hx hb dX6_feed_37 rfl (lv_at hl 3 rfl) ?_
    refine ka_EV (n := 1) (wr := [(a0, .inr (6, [.ref a1, .ref a2, .ref a3, .ref a4, .int x5, .int x6, .int x7, .int x8, .int x9]))]) C (cg_X5_append_1 l D F a1 x2 a5 v_19626 k0 g_19627 ⟨by omega, by omega⟩ hg_19627) gX6_feed_X5_append rfl (by decide +kernel) ⟨Nat.le_of_ble_eq_true rfl, Nat.le_of_ble_eq_true rfl⟩ hK hP hD hS hA hE hN [1, 2] rfl (by decide) [0] rfl (by decide) (by decide) [0] rfl (ci := 5) rfl rfl 1 rfl rfl hl.1 (rest := []) rfl (Nat.le_of_ble_eq_true rfl) dX6_feed_38 ⟨Nat.le_of_ble_eq_true rfl, Nat.le_of_ble_eq_true rfl⟩ (fun u H locs hq hP hD hK hS => ?_)
    obtain ⟨v_19628, g_19629⟩ := u
    have hq : (0 ≤ v_19628.toInt ∧ v_19628.toInt ≤ 80) ∧ (sb_Fit g_19629) := hq
    obtain ⟨hv_19628, hg_19629⟩ := hq
    have rv_19628 := ka_rng v_19628
    have hP : va_P D vwCl [(a0, .inr (6, [.ref a1, .ref a2, .ref a3, .ref a4, .int x5, .int x6, .int x7, .int x8, .int x9])), (a1, .inr (5, [.ref a5, .int v_19628])), (a5, .inl (k0, 80, .inl g_19629))] H := hP
    have hD : va_D A [(a0, .inr (6, [.ref a1, .ref a2, .ref a3, .ref a4, .int x5, .int x6, .int x7, .int x8, .int x9])), (a1, .inr (5, [.ref a5, .int v_19628])), (a5, .inl (k0, 80, .inl g_19629))] := hD
    have hK : va_K D vwCl [(k0, .byte)] s := by simpa using hK
    refine ka_stk (w := []) rfl ?_
    refine lv_aload_n hx hb dX6_feed_41 rfl (lv_at hl 0 rfl) ?_
    refine ka_get C lq_168 rfl hK hP 0 rfl 0 (by decide) lq_169 rfl dX6_feed_42 ?_
    refine lv_iload hx hb dX6_feed_45 (lv_at hl 4 rfl) ?_
    refine ka_EV (n := 1) (wr := [(a0, .inr (6, [.ref a1, .ref a2, .ref a3, .ref a4, .int x5, .int x6, .int x7, .int x8, .int x9]))]) C (cg_X5_append_1 l D F a1 x3 a5 v_19628 k0 g_19629 ⟨by omega, by omega⟩ hg_19629) gX6_feed_X5_append rfl (by decide +kernel) ⟨Nat.le_of_ble_eq_true rfl, Nat.le_of_ble_eq_true rfl⟩ hK hP hD hS hA hE hN [1, 2] rfl (by decide) [0] rfl (by decide) (by decide) [0] rfl (ci := 5) rfl rfl 1 rfl rfl hl.1 (rest := []) rfl (Nat.le_of_ble_eq_true rfl) dX6_feed_47 ⟨Nat.le_of_ble_eq_true rfl, Nat.le_of_ble_eq_true rfl⟩ (fun u H locs hq hP hD hK hS => ?_)
    obtain ⟨v_19630, g_19631⟩ := u
    have hq : (0 ≤ v_19630.toInt ∧ v_19630.toInt ≤ 80) ∧ (sb_Fit g_19631) := hq
    obtain ⟨hv_19630, hg_19631⟩ := hq
    have rv_19630 := ka_rng v_19630
    have hP : va_P D vwCl [(a0, .inr (6, [.ref a1, .ref a2, .ref a3, .ref a4, .int x5, .int x6, .int x7, .int x8, .int x9])), (a1, .inr (5, [.ref a5, .int v_19630])), (a5, .inl (k0, 80, .inl g_19631))] H := hP
    have hD : va_D A [(a0, .inr (6, [.ref a1, .ref a2, .ref a3, .ref a4, .int x5, .int x6, .int x7, .int x8, .int x9])), (a1, .inr (5, [.ref a5, .int v_19630])), (a5, .inl (k0, 80, .inl g_19631))] := hD
    have hK : va_K D vwCl [(k0, .byte)] s := by simpa using hK
    refine ka_stk (w := []) rfl ?_
    refine lv_aload_n hx hb dX6_feed_50 rfl (lv_at hl 0 rfl) ?_
    refine ka_get C lq_168 rfl hK hP 0 rfl 0 (by decide) lq_169 rfl dX6_feed_51 ?_
    refine lv_iload hx hb dX6_feed_54 (lv_at hl 5 rfl) ?_
    refine ka_EV (n := 1) (wr := [(a0, .inr (6, [.ref a1, .ref a2, .ref a3, .ref a4, .int x5, .int x6, .int x7, .int x8, .int x9]))]) C (cg_X5_append_1 l D F a1 x4 a5 v_19630 k0 g_19631 ⟨by omega, by omega⟩ hg_19631) gX6_feed_X5_append rfl (by decide +kernel) ⟨Nat.le_of_ble_eq_true rfl, Nat.le_of_ble_eq_true rfl⟩ hK hP hD hS hA hE hN [1, 2] rfl (by decide) [0] rfl (by decide) (by decide) [0] rfl (ci := 5) rfl rfl 1 rfl rfl hl.1 (rest := []) rfl (Nat.le_of_ble_eq_true rfl) dX6_feed_56 ⟨Nat.le_of_ble_eq_true rfl, Nat.le_of_ble_eq_true rfl⟩ (fun u H locs hq hP hD hK hS => ?_)
    obtain ⟨v_19632, g_19633⟩ := u
    have hq : (0 ≤ v_19632.toInt ∧ v_19632.toInt ≤ 80) ∧ (sb_Fit g_19633) := hq
    obtain ⟨hv_19632, hg_19633⟩ := hq
    have rv_19632 := ka_rng v_19632
    have hP : va_P D vwCl [(a0, .inr (6, [.ref a1, .ref a2, .ref a3, .ref a4, .int x5, .int x6, .int x7, .int x8, .int x9])), (a1, .inr (5, [.ref a5, .int v_19632])), (a5, .inl (k0, 80, .inl g_19633))] H := hP
    have hD : va_D A [(a0, .inr (6, [.ref a1, .ref a2, .ref a3, .ref a4, .int x5, .int x6, .int x7, .int x8, .int x9])), (a1, .inr (5, [.ref a5, .int v_19632])), (a5, .inl (k0, 80, .inl g_19633))] := hD
    have hK : va_K D vwCl [(k0, .byte)] s := by simpa using hK
    refine ka_stk (w := []) rfl ?_
    refine lv_aload_n hx hb dX6_feed_59 rfl (lv_at hl 0 rfl) ?_
    refine ka_get C lq_168 rfl hK hP 0 rfl 0 (by decide) lq_169 rfl dX6_feed_60 ?_
    refine ka_get C lq_170 rfl hK hP 1 rfl 1 (by decide) lq_171 rfl dX6_feed_63 ?_
    exact ka_rEi C hr hlk (Nat.le_of_ble_eq_true rfl) (Nat.le_of_ble_eq_true rfl) hS (ka_qE (v_19632, g_19633, v_19632) rfl ⟨(show 0 ≤ v_19632.toInt ∧ v_19632.toInt ≤ 80 from ⟨by omega, by omega⟩), hg_19633, (show -1 ≤ v_19632.toInt ∧ v_19632.toInt ≤ 80 from ⟨by omega, by omega⟩)⟩ hK hP hD hS [0, 1, 2] (by decide) rfl [] rfl) dX6_feed_66
  · have c_19623 : ¬ v_19622.toInt ≤ 80 := by rw [ka_le', show ((80 : Int32)).toInt = 80 from by decide] at c_19623; exact c_19623
    refine lv_iconst (v := (-1)) hx hb dX6_feed_15 (by decide) ?_
    exact ka_rEi C hr hlk (Nat.le_of_ble_eq_true rfl) (Nat.le_of_ble_eq_true rfl) hS (ka_qE (x10, f0, (-1)) rfl ⟨(show 0 ≤ x10.toInt ∧ x10.toInt ≤ 80 from ⟨by omega, by omega⟩), hf0, (show -1 ≤ ((-1 : Int32)).toInt ∧ ((-1 : Int32)).toInt ≤ 80 from ⟨by decide, by decide⟩)⟩ hK hP hD hS [0, 1, 2] (by decide) rfl [] rfl) dX6_feed_16
set_option maxHeartbeats 4000000 in
set_option maxRecDepth 100000 in
theorem cg_X0_mayBegin_180 (l : Launch) (D : va_G) (F : Nat → Prop) (a0 : Nat) (x0 : Int32) (a1 : Nat) (a2 : Nat) (x1 : Int32) (hx0 : x0.toInt ≤ -1) : ka_R l D F yX0_mayBegin wsX0_mayBegin 2 41 [.ref a0, .int x0] [(a0, .inr (0, [.ref a1, .ref a2, .int x1]))] [] (fun v => v = some (.int 0)) := by
  refine ka_R_of (cc := cX0_mayBegin) (maxL := 3) (ret := (some .boolean)) (by decide) rfl (Nat.le_of_ble_eq_true rfl) ?_
  intro p e s m below meth c ls C hr hlk hP hK hE hN hl
  have hS : va_S (fun _ => False) s.heap s.heap [] := va_S.rf
  have C : CallFix p m c cX0_mayBegin 3 s [.ref a0, .int x0].toArray wsX0_mayBegin RX0 := C
  obtain ⟨hx, hb, hml, hown, hts⟩ := id C
  have hl : lv_has ls 3 [(0, .ref a0), (1, .int x0)] := hl
  have rx0 := ka_rng x0
  have rx1 := ka_rng x1
  refine lv_aload_n hx hb dX0_mayBegin_0 rfl (lv_at hl 0 rfl) ?_
  refine lv_iload_n hx hb dX0_mayBegin_1 rfl (lv_at hl 1 rfl) ?_
  refine ka_RV (n := 1) C (cg_X0_lessonAt_144 l D F a0 x0 (by omega)) gX0_mayBegin_X0_lessonAt rfl (by decide +kernel) ⟨Nat.le_of_ble_eq_true rfl, Nat.le_of_ble_eq_true rfl⟩ hK hP hS hE hN [] rfl [] rfl (ci := 0) rfl rfl 0 rfl rfl hl.1 (rest := []) rfl (Nat.le_of_ble_eq_true rfl) dX0_mayBegin_2 ⟨Nat.le_of_ble_eq_true rfl, Nat.le_of_ble_eq_true rfl⟩ (fun v hv => ?_)
  subst hv
  refine ka_stk (w := [.null]) rfl ?_
  refine lv_astore_nN (lv' := [(2, .null), (0, .ref a0), (1, .int x0)]) hx hb dX0_mayBegin_5 rfl hl (by decide) rfl (fun ls hl => ?_)
  refine lv_aload_nN hx hb dX0_mayBegin_6 rfl (lv_at hl 0 rfl) ?_
  refine lv_ifnullN (tgt := 45) hx hb dX0_mayBegin_7 (by decide) ?_
  refine lv_iconst (v := 0) hx hb dX0_mayBegin_45 (by decide) ?_
  exact ka_rRz C hr hlk rfl rfl dX0_mayBegin_46
set_option maxHeartbeats 4000000 in
set_option maxRecDepth 100000 in
theorem cg_X0_mayBegin_181 (l : Launch) (D : va_G) (F : Nat → Prop) (a0 : Nat) (x0 : Int32) (a1 : Nat) (a2 : Nat) (x1 : Int32) (hx0 : 6 ≤ x0.toInt) : ka_R l D F yX0_mayBegin wsX0_mayBegin 2 41 [.ref a0, .int x0] [(a0, .inr (0, [.ref a1, .ref a2, .int x1]))] [] (fun v => v = some (.int 0)) := by
  refine ka_R_of (cc := cX0_mayBegin) (maxL := 3) (ret := (some .boolean)) (by decide) rfl (Nat.le_of_ble_eq_true rfl) ?_
  intro p e s m below meth c ls C hr hlk hP hK hE hN hl
  have hS : va_S (fun _ => False) s.heap s.heap [] := va_S.rf
  have C : CallFix p m c cX0_mayBegin 3 s [.ref a0, .int x0].toArray wsX0_mayBegin RX0 := C
  obtain ⟨hx, hb, hml, hown, hts⟩ := id C
  have hl : lv_has ls 3 [(0, .ref a0), (1, .int x0)] := hl
  have rx0 := ka_rng x0
  have rx1 := ka_rng x1
  refine lv_aload_n hx hb dX0_mayBegin_0 rfl (lv_at hl 0 rfl) ?_
  refine lv_iload_n hx hb dX0_mayBegin_1 rfl (lv_at hl 1 rfl) ?_
  refine ka_RV (n := 1) C (cg_X0_lessonAt_157 l D F a0 x0 (by omega)) gX0_mayBegin_X0_lessonAt rfl (by decide +kernel) ⟨Nat.le_of_ble_eq_true rfl, Nat.le_of_ble_eq_true rfl⟩ hK hP hS hE hN [] rfl [] rfl (ci := 0) rfl rfl 0 rfl rfl hl.1 (rest := []) rfl (Nat.le_of_ble_eq_true rfl) dX0_mayBegin_2 ⟨Nat.le_of_ble_eq_true rfl, Nat.le_of_ble_eq_true rfl⟩ (fun v hv => ?_)
  subst hv
  refine ka_stk (w := [.null]) rfl ?_
  refine lv_astore_nN (lv' := [(2, .null), (0, .ref a0), (1, .int x0)]) hx hb dX0_mayBegin_5 rfl hl (by decide) rfl (fun ls hl => ?_)
  refine lv_aload_nN hx hb dX0_mayBegin_6 rfl (lv_at hl 0 rfl) ?_
  refine lv_ifnullN (tgt := 45) hx hb dX0_mayBegin_7 (by decide) ?_
  refine lv_iconst (v := 0) hx hb dX0_mayBegin_45 (by decide) ?_
  exact ka_rRz C hr hlk rfl rfl dX0_mayBegin_46
theorem lq_172 : ∀ w ∈ wsX60, w ∈ wsX6_begin := by decide +kernel
theorem lq_173 : Cond.fieldLink RX6 28 "AskedBack" "course" "LAskedBack$Course;" ∈ wsX6_begin := by decide +kernel
theorem lq_174 : Cond.fieldLink RX6 39 "AskedBack" "begun" "I" ∈ wsX6_begin := by decide +kernel
theorem lq_175 : Cond.fieldLink RX6 35 "AskedBack" "talk" "LAskedBack$Talk;" ∈ wsX6_begin := by decide +kernel
set_option maxHeartbeats 4000000 in
set_option maxRecDepth 100000 in
theorem cg_X6_begin_182 (l : Launch) (D : va_G) (F : Nat → Prop) (a0 : Nat) (x0 : Int32) (a1 : Nat) (a2 : Nat) (a3 : Nat) (a4 : Nat) (x1 : Int32) (x2 : Int32) (x3 : Int32) (x4 : Int32) (x5 : Int32) (a5 : Nat) (a6 : Nat) (x6 : Int32) (k0 : ClassId) (a7 : Nat) (a8 : Nat) (a9 : Nat) (a10 : Nat) (a11 : Nat) (a12 : Nat) (k1 : ClassId) (f0 : Nat → Int32) (a13 : Nat) (a14 : Nat) (x7 : Int32) (o0 : Option Nat) (a15 : Nat) (a16 : Nat) (x8 : Int32) (o1 : Option Nat) (a17 : Nat) (a18 : Nat) (x9 : Int32) (o2 : Option Nat) (a19 : Nat) (a20 : Nat) (x10 : Int32) (o3 : Option Nat) (a21 : Nat) (a22 : Nat) (x11 : Int32) (o4 : Option Nat) (a23 : Nat) (a24 : Nat) (x12 : Int32) (o5 : Option Nat) (a25 : Nat) (a26 : Nat) (a27 : Nat) (x13 : Int32) (x14 : Int32) (x15 : Int32) (x16 : Int32) (x17 : Int32) (x18 : Int32) (k2 : ClassId) (f1 : Nat → Int32) (k3 : ClassId) (f2 : Nat → Int32) (hx1 : -1 ≤ x1.toInt ∧ x1.toInt ≤ 5) (hx7 : 0 ≤ x7.toInt ∧ x7.toInt ≤ 12) (ho0 : ∀ a : Nat, o0 = some a → F a) (hx8 : 0 ≤ x8.toInt ∧ x8.toInt ≤ 12) (ho1 : ∀ a : Nat, o1 = some a → F a) (hx9 : 0 ≤ x9.toInt ∧ x9.toInt ≤ 12) (ho2 : ∀ a : Nat, o2 = some a → F a) (hx10 : 0 ≤ x10.toInt ∧ x10.toInt ≤ 12) (ho3 : ∀ a : Nat, o3 = some a → F a) (hx11 : 0 ≤ x11.toInt ∧ x11.toInt ≤ 12) (ho4 : ∀ a : Nat, o4 = some a → F a) (hx12 : 0 ≤ x12.toInt ∧ x12.toInt ≤ 12) (ho5 : ∀ a : Nat, o5 = some a → F a) (hx13 : 0 ≤ x13.toInt ∧ x13.toInt ≤ 10) : ka_E l D F yX6_begin wsX6_begin 3 64 0 0 [.ref a0, .int x0] [(a0, .inr (6, [.ref a1, .ref a2, .ref a3, .ref a4, .int x1, .int x2, .int x3, .int x4, .int x5])), (a3, .inr (0, [.ref a5, .ref a6, .int x6])), (a5, .inl (k0, 6, .inr (.inr (.inr (.inr (va_up (va_up (va_up (va_up (va_up (va_up (fun _ => none) 0 (some a7)) 1 (some a8)) 2 (some a9)) 3 (some a10)) 4 (some a11)) 5 (some a12))))))), (a6, .inl (k1, 6, .inl f0)), (a7, .inr (2, [.ref a13, .ref a14, .int x7, va_rf o0])), (a8, .inr (2, [.ref a15, .ref a16, .int x8, va_rf o1])), (a9, .inr (2, [.ref a17, .ref a18, .int x9, va_rf o2])), (a10, .inr (2, [.ref a19, .ref a20, .int x10, va_rf o3])), (a11, .inr (2, [.ref a21, .ref a22, .int x11, va_rf o4])), (a12, .inr (2, [.ref a23, .ref a24, .int x12, va_rf o5])), (a4, .inr (4, [.ref a25, .ref a26, .ref a27, .int x13, .int x14, .int x15, .int x16, .int x17, .int x18])), (a25, .inl (k2, 32, .inl f1)), (a26, .inl (k3, 32, .inl f2))] [(k0, .object RX2), (k1, .int), (k2, .int), (k3, .int)] (fun (u : (Int32) × (Int32) × (Int32) × (Int32) × (Int32) × (Int32) × (Int32) × (Nat → Int32) × (Nat → Int32) × (Int32)) => some (.int (u.2.2.2.2.2.2.2.2.2))) (fun (u : (Int32) × (Int32) × (Int32) × (Int32) × (Int32) × (Int32) × (Int32) × (Nat → Int32) × (Nat → Int32) × (Int32)) => (-1 ≤ (u.1).toInt ∧ (u.1).toInt ≤ 5) ∧ (0 ≤ (u.2.1).toInt ∧ (u.2.1).toInt ≤ 10) ∧ (0 ≤ (u.2.2.2.2.2.2.2.2.2).toInt ∧ (u.2.2.2.2.2.2.2.2.2).toInt ≤ 1)) (fun (u : (Int32) × (Int32) × (Int32) × (Int32) × (Int32) × (Int32) × (Int32) × (Nat → Int32) × (Nat → Int32) × (Int32)) => [(a0, .inr (6, [.ref a1, .ref a2, .ref a3, .ref a4, .int (u.1), .int x2, .int x3, .int x4, .int x5])), (a3, .inr (0, [.ref a5, .ref a6, .int x6])), (a5, .inl (k0, 6, .inr (.inr (.inr (.inr (va_up (va_up (va_up (va_up (va_up (va_up (fun _ => none) 0 (some a7)) 1 (some a8)) 2 (some a9)) 3 (some a10)) 4 (some a11)) 5 (some a12))))))), (a6, .inl (k1, 6, .inl f0)), (a7, .inr (2, [.ref a13, .ref a14, .int x7, va_rf o0])), (a8, .inr (2, [.ref a15, .ref a16, .int x8, va_rf o1])), (a9, .inr (2, [.ref a17, .ref a18, .int x9, va_rf o2])), (a10, .inr (2, [.ref a19, .ref a20, .int x10, va_rf o3])), (a11, .inr (2, [.ref a21, .ref a22, .int x11, va_rf o4])), (a12, .inr (2, [.ref a23, .ref a24, .int x12, va_rf o5])), (a4, .inr (4, [.ref a25, .ref a26, .ref a27, .int (u.2.1), .int (u.2.2.1), .int (u.2.2.2.1), .int (u.2.2.2.2.1), .int (u.2.2.2.2.2.1), .int (u.2.2.2.2.2.2.1)])), (a25, .inl (k2, 32, .inl (u.2.2.2.2.2.2.2.1))), (a26, .inl (k3, 32, .inl (u.2.2.2.2.2.2.2.2.1)))]) (fun (u : (Int32) × (Int32) × (Int32) × (Int32) × (Int32) × (Int32) × (Int32) × (Nat → Int32) × (Nat → Int32) × (Int32)) => []) := by
  refine ka_E_of (cc := cX6_begin) (maxL := 2) (ret := (some .boolean)) (by decide) rfl (Nat.le_of_ble_eq_true rfl) ?_
  intro p e s m below meth c ls A C hr hlk hin hP hK hD hS hA hE hN hl
  have C : CallFix p m c cX6_begin 2 s [.ref a0, .int x0].toArray wsX6_begin RX6 := C
  obtain ⟨hx, hb, hml, hown, hts⟩ := id C
  have hl : lv_has ls 2 [(0, .ref a0), (1, .int x0)] := hl
  have rx0 := ka_rng x0
  have rx1 := ka_rng x1
  have rx2 := ka_rng x2
  have rx3 := ka_rng x3
  have rx4 := ka_rng x4
  have rx5 := ka_rng x5
  have rx6 := ka_rng x6
  have rx7 := ka_rng x7
  have rx8 := ka_rng x8
  have rx9 := ka_rng x9
  have rx10 := ka_rng x10
  have rx11 := ka_rng x11
  have rx12 := ka_rng x12
  have rx13 := ka_rng x13
  have rx14 := ka_rng x14
  have rx15 := ka_rng x15
  have rx16 := ka_rng x16
  have rx17 := ka_rng x17
  have rx18 := ka_rng x18
  rcases (show x0.toInt ≤ -1 ∨ (0 ≤ x0.toInt ∧ x0.toInt ≤ 5) ∨ 6 ≤ x0.toInt by omega) with y_19753 | y_19753 | y_19753
  · skip
    refine lv_aload_n hx hb dX6_begin_0 rfl (lv_at hl 0 rfl) ?_
    refine ka_get C lq_172 rfl hK hP 0 rfl 2 (by decide) lq_173 rfl dX6_begin_1 ?_
    refine lv_iload_n hx hb dX6_begin_4 rfl (lv_at hl 1 rfl) ?_
    refine ka_RV (n := 1) C (cg_X0_mayBegin_180 l D F a3 x0 a5 a6 x6 (by omega)) gX6_begin_X0_mayBegin rfl (by decide +kernel) ⟨Nat.le_of_ble_eq_true rfl, Nat.le_of_ble_eq_true rfl⟩ hK hP hS hE hN [1] rfl [] rfl (ci := 0) rfl rfl 1 rfl rfl hl.1 (rest := []) rfl (Nat.le_of_ble_eq_true rfl) dX6_begin_5 ⟨Nat.le_of_ble_eq_true rfl, Nat.le_of_ble_eq_true rfl⟩ (fun v hv => ?_)
    subst hv
    refine ka_stk (w := [.int 0]) rfl ?_
    refine lv_if_ne (tgt := 13) hx hb dX6_begin_8 (by decide) (fun c_ => absurd (by decide) c_) (fun _ => ?_)
    refine lv_iconst (v := 0) hx hb dX6_begin_11 (by decide) ?_
    exact ka_rEz C hr hlk rfl (Nat.le_of_ble_eq_true rfl) (Nat.le_of_ble_eq_true rfl) hS (ka_qE (x1, x13, x14, x15, x16, x17, x18, f1, f2, 0) rfl ⟨(show -1 ≤ x1.toInt ∧ x1.toInt ≤ 5 from ⟨by omega, by omega⟩), (show 0 ≤ x13.toInt ∧ x13.toInt ≤ 10 from ⟨by omega, by omega⟩), (show 0 ≤ ((0 : Int32)).toInt ∧ ((0 : Int32)).toInt ≤ 1 from ⟨by decide, by decide⟩)⟩ hK hP hD hS [0, 1, 2, 3, 4, 5, 6, 7, 8, 9, 10, 11, 12] (by decide) rfl [] rfl) dX6_begin_12
  · skip
    refine lv_aload_n hx hb dX6_begin_0 rfl (lv_at hl 0 rfl) ?_
    refine ka_get C lq_172 rfl hK hP 0 rfl 2 (by decide) lq_173 rfl dX6_begin_1 ?_
    refine lv_iload_n hx hb dX6_begin_4 rfl (lv_at hl 1 rfl) ?_
    refine ka_RV (n := 1) C (cg_X0_mayBegin_177 l D F a3 x0 a5 a6 x6 k0 a7 a8 a9 a10 a11 a12 k1 f0 a13 a14 x7 o0 a15 a16 x8 o1 a17 a18 x9 o2 a19 a20 x10 o3 a21 a22 x11 o4 a23 a24 x12 o5 ⟨by omega, by omega⟩ ⟨by omega, by omega⟩ ho0 ⟨by omega, by omega⟩ ho1 ⟨by omega, by omega⟩ ho2 ⟨by omega, by omega⟩ ho3 ⟨by omega, by omega⟩ ho4 ⟨by omega, by omega⟩ ho5) gX6_begin_X0_mayBegin rfl (by decide +kernel) ⟨Nat.le_of_ble_eq_true rfl, Nat.le_of_ble_eq_true rfl⟩ hK hP hS hE hN [1, 2, 3, 4, 5, 6, 7, 8, 9] rfl [0, 1] rfl (ci := 0) rfl rfl 1 rfl rfl hl.1 (rest := []) rfl (Nat.le_of_ble_eq_true rfl) dX6_begin_5 ⟨Nat.le_of_ble_eq_true rfl, Nat.le_of_ble_eq_true rfl⟩ (fun v hv => ?_)
    obtain ⟨v_19754, rfl, hv_19754⟩ := hv
    have rv_19754 := ka_rng v_19754
    refine ka_stk (w := [.int v_19754]) rfl ?_
    refine lv_if_ne (tgt := 13) hx hb dX6_begin_8 (by decide) (fun c_19755 => ?_) (fun c_19755 => ?_)
    · have c_19755 : ¬ v_19754.toInt = 0 := by rw [ka_eq', show ((0 : Int32)).toInt = 0 from by decide] at c_19755; exact c_19755
      refine lv_aload_n hx hb dX6_begin_13 rfl (lv_at hl 0 rfl) ?_
      refine lv_iload_n hx hb dX6_begin_14 rfl (lv_at hl 1 rfl) ?_
      refine ka_put C lq_172 tyX6 tyX6_ok nmX6 rfl hK hP hD hS 0 rfl 4 (by decide) lq_174 rfl rfl rfl (Nat.le_of_ble_eq_true rfl) dX6_begin_15 (fun H locs hP hD hS => ?_)
      have hP : va_P D vwCl [(a0, .inr (6, [.ref a1, .ref a2, .ref a3, .ref a4, .int x0, .int x2, .int x3, .int x4, .int x5])), (a3, .inr (0, [.ref a5, .ref a6, .int x6])), (a5, .inl (k0, 6, .inr (.inr (.inr (.inr (va_up (va_up (va_up (va_up (va_up (va_up (fun _ => none) 0 (some a7)) 1 (some a8)) 2 (some a9)) 3 (some a10)) 4 (some a11)) 5 (some a12))))))), (a6, .inl (k1, 6, .inl f0)), (a7, .inr (2, [.ref a13, .ref a14, .int x7, va_rf o0])), (a8, .inr (2, [.ref a15, .ref a16, .int x8, va_rf o1])), (a9, .inr (2, [.ref a17, .ref a18, .int x9, va_rf o2])), (a10, .inr (2, [.ref a19, .ref a20, .int x10, va_rf o3])), (a11, .inr (2, [.ref a21, .ref a22, .int x11, va_rf o4])), (a12, .inr (2, [.ref a23, .ref a24, .int x12, va_rf o5])), (a4, .inr (4, [.ref a25, .ref a26, .ref a27, .int x13, .int x14, .int x15, .int x16, .int x17, .int x18])), (a25, .inl (k2, 32, .inl f1)), (a26, .inl (k3, 32, .inl f2))] H := hP
      have hD : va_D A [(a0, .inr (6, [.ref a1, .ref a2, .ref a3, .ref a4, .int x0, .int x2, .int x3, .int x4, .int x5])), (a3, .inr (0, [.ref a5, .ref a6, .int x6])), (a5, .inl (k0, 6, .inr (.inr (.inr (.inr (va_up (va_up (va_up (va_up (va_up (va_up (fun _ => none) 0 (some a7)) 1 (some a8)) 2 (some a9)) 3 (some a10)) 4 (some a11)) 5 (some a12))))))), (a6, .inl (k1, 6, .inl f0)), (a7, .inr (2, [.ref a13, .ref a14, .int x7, va_rf o0])), (a8, .inr (2, [.ref a15, .ref a16, .int x8, va_rf o1])), (a9, .inr (2, [.ref a17, .ref a18, .int x9, va_rf o2])), (a10, .inr (2, [.ref a19, .ref a20, .int x10, va_rf o3])), (a11, .inr (2, [.ref a21, .ref a22, .int x11, va_rf o4])), (a12, .inr (2, [.ref a23, .ref a24, .int x12, va_rf o5])), (a4, .inr (4, [.ref a25, .ref a26, .ref a27, .int x13, .int x14, .int x15, .int x16, .int x17, .int x18])), (a25, .inl (k2, 32, .inl f1)), (a26, .inl (k3, 32, .inl f2))] := hD
      refine lv_aload_n hx hb dX6_begin_18 rfl (lv_at hl 0 rfl) ?_
      refine ka_get C lq_172 rfl hK hP 0 rfl 3 (by decide) lq_175 rfl dX6_begin_19 ?_
      refine ka_EV (n := 0) (wr := [(a0, .inr (6, [.ref a1, .ref a2, .ref a3, .ref a4, .int x0, .int x2, .int x3, .int x4, .int x5])), (a3, .inr (0, [.ref a5, .ref a6, .int x6])), (a5, .inl (k0, 6, .inr (.inr (.inr (.inr (va_up (va_up (va_up (va_up (va_up (va_up (fun _ => none) 0 (some a7)) 1 (some a8)) 2 (some a9)) 3 (some a10)) 4 (some a11)) 5 (some a12))))))), (a6, .inl (k1, 6, .inl f0)), (a7, .inr (2, [.ref a13, .ref a14, .int x7, va_rf o0])), (a8, .inr (2, [.ref a15, .ref a16, .int x8, va_rf o1])), (a9, .inr (2, [.ref a17, .ref a18, .int x9, va_rf o2])), (a10, .inr (2, [.ref a19, .ref a20, .int x10, va_rf o3])), (a11, .inr (2, [.ref a21, .ref a22, .int x11, va_rf o4])), (a12, .inr (2, [.ref a23, .ref a24, .int x12, va_rf o5]))]) C (cg_X4_clear_19 l D F a4 a25 a26 a27 x13 x14 x15 x16 x17 x18 k2 f1 k3 f2 ⟨by omega, by omega⟩) gX6_begin_X4_clear rfl (by decide +kernel) ⟨Nat.le_of_ble_eq_true rfl, Nat.le_of_ble_eq_true rfl⟩ hK hP hD hS hA hE hN [10, 11, 12] rfl (by decide) [0, 1, 2, 3, 4, 5, 6, 7, 8, 9] rfl (by decide) (by decide) [2, 3] rfl (ci := 4) rfl rfl 10 rfl rfl hl.1 (rest := []) rfl (Nat.le_of_ble_eq_true rfl) dX6_begin_22 ⟨Nat.le_of_ble_eq_true rfl, Nat.le_of_ble_eq_true rfl⟩ (fun u H locs hq hP hD hK hS => ?_)
      obtain ⟨g_19756, g_19757⟩ := u
      have hP : va_P D vwCl [(a0, .inr (6, [.ref a1, .ref a2, .ref a3, .ref a4, .int x0, .int x2, .int x3, .int x4, .int x5])), (a3, .inr (0, [.ref a5, .ref a6, .int x6])), (a5, .inl (k0, 6, .inr (.inr (.inr (.inr (va_up (va_up (va_up (va_up (va_up (va_up (fun _ => none) 0 (some a7)) 1 (some a8)) 2 (some a9)) 3 (some a10)) 4 (some a11)) 5 (some a12))))))), (a6, .inl (k1, 6, .inl f0)), (a7, .inr (2, [.ref a13, .ref a14, .int x7, va_rf o0])), (a8, .inr (2, [.ref a15, .ref a16, .int x8, va_rf o1])), (a9, .inr (2, [.ref a17, .ref a18, .int x9, va_rf o2])), (a10, .inr (2, [.ref a19, .ref a20, .int x10, va_rf o3])), (a11, .inr (2, [.ref a21, .ref a22, .int x11, va_rf o4])), (a12, .inr (2, [.ref a23, .ref a24, .int x12, va_rf o5])), (a4, .inr (4, [.ref a25, .ref a26, .ref a27, .int 0, .int 0, .int 0, .int 0, .int 0, .int 0])), (a25, .inl (k2, 32, .inl g_19756)), (a26, .inl (k3, 32, .inl g_19757))] H := hP
      have hD : va_D A [(a0, .inr (6, [.ref a1, .ref a2, .ref a3, .ref a4, .int x0, .int x2, .int x3, .int x4, .int x5])), (a3, .inr (0, [.ref a5, .ref a6, .int x6])), (a5, .inl (k0, 6, .inr (.inr (.inr (.inr (va_up (va_up (va_up (va_up (va_up (va_up (fun _ => none) 0 (some a7)) 1 (some a8)) 2 (some a9)) 3 (some a10)) 4 (some a11)) 5 (some a12))))))), (a6, .inl (k1, 6, .inl f0)), (a7, .inr (2, [.ref a13, .ref a14, .int x7, va_rf o0])), (a8, .inr (2, [.ref a15, .ref a16, .int x8, va_rf o1])), (a9, .inr (2, [.ref a17, .ref a18, .int x9, va_rf o2])), (a10, .inr (2, [.ref a19, .ref a20, .int x10, va_rf o3])), (a11, .inr (2, [.ref a21, .ref a22, .int x11, va_rf o4])), (a12, .inr (2, [.ref a23, .ref a24, .int x12, va_rf o5])), (a4, .inr (4, [.ref a25, .ref a26, .ref a27, .int 0, .int 0, .int 0, .int 0, .int 0, .int 0])), (a25, .inl (k2, 32, .inl g_19756)), (a26, .inl (k3, 32, .inl g_19757))] := hD
      have hK : va_K D vwCl [(k0, .object RX2), (k1, .int), (k2, .int), (k3, .int)] s := by simpa using hK
      refine ka_stk (w := []) rfl ?_
      refine lv_iconst (v := 1) hx hb dX6_begin_25 (by decide) ?_
      exact ka_rEz C hr hlk rfl (Nat.le_of_ble_eq_true rfl) (Nat.le_of_ble_eq_true rfl) hS (ka_qE (x0, 0, 0, 0, 0, 0, 0, g_19756, g_19757, 1) rfl ⟨(show -1 ≤ x0.toInt ∧ x0.toInt ≤ 5 from ⟨by omega, by omega⟩), (show 0 ≤ ((0 : Int32)).toInt ∧ ((0 : Int32)).toInt ≤ 10 from ⟨by decide, by decide⟩), (show 0 ≤ ((1 : Int32)).toInt ∧ ((1 : Int32)).toInt ≤ 1 from ⟨by decide, by decide⟩)⟩ hK hP hD hS [0, 1, 2, 3, 4, 5, 6, 7, 8, 9, 10, 11, 12] (by decide) rfl [] rfl) dX6_begin_26
    · have c_19755 : v_19754.toInt = 0 := by rw [ka_eq', show ((0 : Int32)).toInt = 0 from by decide] at c_19755; exact c_19755
      refine lv_iconst (v := 0) hx hb dX6_begin_11 (by decide) ?_
      exact ka_rEz C hr hlk rfl (Nat.le_of_ble_eq_true rfl) (Nat.le_of_ble_eq_true rfl) hS (ka_qE (x1, x13, x14, x15, x16, x17, x18, f1, f2, 0) rfl ⟨(show -1 ≤ x1.toInt ∧ x1.toInt ≤ 5 from ⟨by omega, by omega⟩), (show 0 ≤ x13.toInt ∧ x13.toInt ≤ 10 from ⟨by omega, by omega⟩), (show 0 ≤ ((0 : Int32)).toInt ∧ ((0 : Int32)).toInt ≤ 1 from ⟨by decide, by decide⟩)⟩ hK hP hD hS [0, 1, 2, 3, 4, 5, 6, 7, 8, 9, 10, 11, 12] (by decide) rfl [] rfl) dX6_begin_12
  · skip
    refine lv_aload_n hx hb dX6_begin_0 rfl (lv_at hl 0 rfl) ?_
    refine ka_get C lq_172 rfl hK hP 0 rfl 2 (by decide) lq_173 rfl dX6_begin_1 ?_
    refine lv_iload_n hx hb dX6_begin_4 rfl (lv_at hl 1 rfl) ?_
    refine ka_RV (n := 1) C (cg_X0_mayBegin_181 l D F a3 x0 a5 a6 x6 (by omega)) gX6_begin_X0_mayBegin rfl (by decide +kernel) ⟨Nat.le_of_ble_eq_true rfl, Nat.le_of_ble_eq_true rfl⟩ hK hP hS hE hN [1] rfl [] rfl (ci := 0) rfl rfl 1 rfl rfl hl.1 (rest := []) rfl (Nat.le_of_ble_eq_true rfl) dX6_begin_5 ⟨Nat.le_of_ble_eq_true rfl, Nat.le_of_ble_eq_true rfl⟩ (fun v hv => ?_)
    subst hv
    refine ka_stk (w := [.int 0]) rfl ?_
    refine lv_if_ne (tgt := 13) hx hb dX6_begin_8 (by decide) (fun c_ => absurd (by decide) c_) (fun _ => ?_)
    refine lv_iconst (v := 0) hx hb dX6_begin_11 (by decide) ?_
    exact ka_rEz C hr hlk rfl (Nat.le_of_ble_eq_true rfl) (Nat.le_of_ble_eq_true rfl) hS (ka_qE (x1, x13, x14, x15, x16, x17, x18, f1, f2, 0) rfl ⟨(show -1 ≤ x1.toInt ∧ x1.toInt ≤ 5 from ⟨by omega, by omega⟩), (show 0 ≤ x13.toInt ∧ x13.toInt ≤ 10 from ⟨by omega, by omega⟩), (show 0 ≤ ((0 : Int32)).toInt ∧ ((0 : Int32)).toInt ≤ 1 from ⟨by decide, by decide⟩)⟩ hK hP hD hS [0, 1, 2, 3, 4, 5, 6, 7, 8, 9, 10, 11, 12] (by decide) rfl [] rfl) dX6_begin_12
set_option maxHeartbeats 4000000 in
set_option maxRecDepth 100000 in
theorem cg_X0_end_183 (l : Launch) (D : va_G) (F : Nat → Prop) (a0 : Nat) (x0 : Int32) (a1 : Nat) (a2 : Nat) (x1 : Int32) (hx0 : 0 ≤ x0.toInt ∧ x0.toInt ≤ 5) : ka_E l D F yX0_end wsX0_end 1 20 0 0 [.ref a0, .int x0] [(a0, .inr (0, [.ref a1, .ref a2, .int x1]))] [] (fun (u : (Int32)) => none) (fun (u : (Int32)) => True) (fun (u : (Int32)) => [(a0, .inr (0, [.ref a1, .ref a2, .int u]))]) (fun (u : (Int32)) => []) := by
  refine ka_E_of (cc := cX0_end) (maxL := 2) (ret := none) (by decide) rfl (Nat.le_of_ble_eq_true rfl) ?_
  intro p e s m below meth c ls A C hr hlk hin hP hK hD hS hA hE hN hl
  have C : CallFix p m c cX0_end 2 s [.ref a0, .int x0].toArray wsX0_end RX0 := C
  obtain ⟨hx, hb, hml, hown, hts⟩ := id C
  have hl : lv_has ls 2 [(0, .ref a0), (1, .int x0)] := hl
  have rx0 := ka_rng x0
  have rx1 := ka_rng x1
  rcases (show x0.toInt = 0 ∨ x0.toInt = 1 ∨ x0.toInt = 2 ∨ x0.toInt = 3 ∨ x0.toInt = 4 ∨ x0.toInt = 5 by omega) with y_19846 | y_19846 | y_19846 | y_19846 | y_19846 | y_19846
  · obtain rfl : x0 = 0 := (ka_eq' _ _).mpr (y_19846.trans (by decide))
    refine lv_iload_n hx hb dX0_end_0 rfl (lv_at hl 1 rfl) ?_
    refine ka_RS (n := 1) C (cg_X0_isLesson_22 l D F ) gX0_end_X0_isLesson rfl (by decide +kernel) ⟨Nat.le_of_ble_eq_true rfl, Nat.le_of_ble_eq_true rfl⟩ hK hP hS hE hN [] rfl [] rfl rfl hl.1 (rest := []) rfl (Nat.le_of_ble_eq_true rfl) dX0_end_1 ⟨Nat.le_of_ble_eq_true rfl, Nat.le_of_ble_eq_true rfl⟩ (fun v hv => ?_)
    subst hv
    refine ka_stk (w := [.int 1]) rfl ?_
    refine lv_if_eq (tgt := 19) hx hb dX0_end_4 (by decide) (fun c_ => absurd c_ (by decide)) (fun _ => ?_)
    refine lv_aload_n hx hb dX0_end_7 rfl (lv_at hl 0 rfl) ?_
    refine lv_dup hx hb dX0_end_8 rfl ?_
    refine ka_get C lq_66 rfl hK hP 0 rfl 2 (by decide) lq_67 rfl dX0_end_9 ?_
    refine lv_iconst (v := 1) hx hb dX0_end_12 (by decide) ?_
    refine lv_iload_n hx hb dX0_end_13 rfl (lv_at hl 1 rfl) ?_
    refine lv_ishl hx hb dX0_end_14 ?_
    refine ka_top (w := .int 1) (congrArg Value.int (by decide)) ?_
    refine lv_ior hx hb dX0_end_15 ?_
    refine lv_topi (fun v_19847 ev_19847 => ?_)
    refine ka_put C lq_66 tyX0 tyX0_ok nmX0 rfl hK hP hD hS 0 rfl 2 (by decide) lq_67 rfl rfl rfl (Nat.le_of_ble_eq_true rfl) dX0_end_16 (fun H locs hP hD hS => ?_)
    have hP : va_P D vwCl [(a0, .inr (0, [.ref a1, .ref a2, .int v_19847]))] H := hP
    have hD : va_D A [(a0, .inr (0, [.ref a1, .ref a2, .int v_19847]))] := hD
    exact ka_rEv C hr hlk (Nat.le_of_ble_eq_true rfl) (Nat.le_of_ble_eq_true rfl) hS (ka_qE v_19847 rfl trivial hK hP hD hS [0] (by decide) rfl [] rfl) dX0_end_19
  · obtain rfl : x0 = 1 := (ka_eq' _ _).mpr (y_19846.trans (by decide))
    refine lv_iload_n hx hb dX0_end_0 rfl (lv_at hl 1 rfl) ?_
    refine ka_RS (n := 1) C (cg_X0_isLesson_23 l D F ) gX0_end_X0_isLesson rfl (by decide +kernel) ⟨Nat.le_of_ble_eq_true rfl, Nat.le_of_ble_eq_true rfl⟩ hK hP hS hE hN [] rfl [] rfl rfl hl.1 (rest := []) rfl (Nat.le_of_ble_eq_true rfl) dX0_end_1 ⟨Nat.le_of_ble_eq_true rfl, Nat.le_of_ble_eq_true rfl⟩ (fun v hv => ?_)
    subst hv
    refine ka_stk (w := [.int 1]) rfl ?_
    refine lv_if_eq (tgt := 19) hx hb dX0_end_4 (by decide) (fun c_ => absurd c_ (by decide)) (fun _ => ?_)
    refine lv_aload_n hx hb dX0_end_7 rfl (lv_at hl 0 rfl) ?_
    refine lv_dup hx hb dX0_end_8 rfl ?_
    refine ka_get C lq_66 rfl hK hP 0 rfl 2 (by decide) lq_67 rfl dX0_end_9 ?_
    refine lv_iconst (v := 1) hx hb dX0_end_12 (by decide) ?_
    refine lv_iload_n hx hb dX0_end_13 rfl (lv_at hl 1 rfl) ?_
    refine lv_ishl hx hb dX0_end_14 ?_
    refine ka_top (w := .int 2) (congrArg Value.int (by decide)) ?_
    refine lv_ior hx hb dX0_end_15 ?_
    refine lv_topi (fun v_19848 ev_19848 => ?_)
    refine ka_put C lq_66 tyX0 tyX0_ok nmX0 rfl hK hP hD hS 0 rfl 2 (by decide) lq_67 rfl rfl rfl (Nat.le_of_ble_eq_true rfl) dX0_end_16 (fun H locs hP hD hS => ?_)
    have hP : va_P D vwCl [(a0, .inr (0, [.ref a1, .ref a2, .int v_19848]))] H := hP
    have hD : va_D A [(a0, .inr (0, [.ref a1, .ref a2, .int v_19848]))] := hD
    exact ka_rEv C hr hlk (Nat.le_of_ble_eq_true rfl) (Nat.le_of_ble_eq_true rfl) hS (ka_qE v_19848 rfl trivial hK hP hD hS [0] (by decide) rfl [] rfl) dX0_end_19
  · obtain rfl : x0 = 2 := (ka_eq' _ _).mpr (y_19846.trans (by decide))
    refine lv_iload_n hx hb dX0_end_0 rfl (lv_at hl 1 rfl) ?_
    refine ka_RS (n := 1) C (cg_X0_isLesson_24 l D F ) gX0_end_X0_isLesson rfl (by decide +kernel) ⟨Nat.le_of_ble_eq_true rfl, Nat.le_of_ble_eq_true rfl⟩ hK hP hS hE hN [] rfl [] rfl rfl hl.1 (rest := []) rfl (Nat.le_of_ble_eq_true rfl) dX0_end_1 ⟨Nat.le_of_ble_eq_true rfl, Nat.le_of_ble_eq_true rfl⟩ (fun v hv => ?_)
    subst hv
    refine ka_stk (w := [.int 1]) rfl ?_
    refine lv_if_eq (tgt := 19) hx hb dX0_end_4 (by decide) (fun c_ => absurd c_ (by decide)) (fun _ => ?_)
    refine lv_aload_n hx hb dX0_end_7 rfl (lv_at hl 0 rfl) ?_
    refine lv_dup hx hb dX0_end_8 rfl ?_
    refine ka_get C lq_66 rfl hK hP 0 rfl 2 (by decide) lq_67 rfl dX0_end_9 ?_
    refine lv_iconst (v := 1) hx hb dX0_end_12 (by decide) ?_
    refine lv_iload_n hx hb dX0_end_13 rfl (lv_at hl 1 rfl) ?_
    refine lv_ishl hx hb dX0_end_14 ?_
    refine ka_top (w := .int 4) (congrArg Value.int (by decide)) ?_
    refine lv_ior hx hb dX0_end_15 ?_
    refine lv_topi (fun v_19849 ev_19849 => ?_)
    refine ka_put C lq_66 tyX0 tyX0_ok nmX0 rfl hK hP hD hS 0 rfl 2 (by decide) lq_67 rfl rfl rfl (Nat.le_of_ble_eq_true rfl) dX0_end_16 (fun H locs hP hD hS => ?_)
    have hP : va_P D vwCl [(a0, .inr (0, [.ref a1, .ref a2, .int v_19849]))] H := hP
    have hD : va_D A [(a0, .inr (0, [.ref a1, .ref a2, .int v_19849]))] := hD
    exact ka_rEv C hr hlk (Nat.le_of_ble_eq_true rfl) (Nat.le_of_ble_eq_true rfl) hS (ka_qE v_19849 rfl trivial hK hP hD hS [0] (by decide) rfl [] rfl) dX0_end_19
  · obtain rfl : x0 = 3 := (ka_eq' _ _).mpr (y_19846.trans (by decide))
    refine lv_iload_n hx hb dX0_end_0 rfl (lv_at hl 1 rfl) ?_
    refine ka_RS (n := 1) C (cg_X0_isLesson_25 l D F ) gX0_end_X0_isLesson rfl (by decide +kernel) ⟨Nat.le_of_ble_eq_true rfl, Nat.le_of_ble_eq_true rfl⟩ hK hP hS hE hN [] rfl [] rfl rfl hl.1 (rest := []) rfl (Nat.le_of_ble_eq_true rfl) dX0_end_1 ⟨Nat.le_of_ble_eq_true rfl, Nat.le_of_ble_eq_true rfl⟩ (fun v hv => ?_)
    subst hv
    refine ka_stk (w := [.int 1]) rfl ?_
    refine lv_if_eq (tgt := 19) hx hb dX0_end_4 (by decide) (fun c_ => absurd c_ (by decide)) (fun _ => ?_)
    refine lv_aload_n hx hb dX0_end_7 rfl (lv_at hl 0 rfl) ?_
    refine lv_dup hx hb dX0_end_8 rfl ?_
    refine ka_get C lq_66 rfl hK hP 0 rfl 2 (by decide) lq_67 rfl dX0_end_9 ?_
    refine lv_iconst (v := 1) hx hb dX0_end_12 (by decide) ?_
    refine lv_iload_n hx hb dX0_end_13 rfl (lv_at hl 1 rfl) ?_
    refine lv_ishl hx hb dX0_end_14 ?_
    refine ka_top (w := .int 8) (congrArg Value.int (by decide)) ?_
    refine lv_ior hx hb dX0_end_15 ?_
    refine lv_topi (fun v_19850 ev_19850 => ?_)
    refine ka_put C lq_66 tyX0 tyX0_ok nmX0 rfl hK hP hD hS 0 rfl 2 (by decide) lq_67 rfl rfl rfl (Nat.le_of_ble_eq_true rfl) dX0_end_16 (fun H locs hP hD hS => ?_)
    have hP : va_P D vwCl [(a0, .inr (0, [.ref a1, .ref a2, .int v_19850]))] H := hP
    have hD : va_D A [(a0, .inr (0, [.ref a1, .ref a2, .int v_19850]))] := hD
    exact ka_rEv C hr hlk (Nat.le_of_ble_eq_true rfl) (Nat.le_of_ble_eq_true rfl) hS (ka_qE v_19850 rfl trivial hK hP hD hS [0] (by decide) rfl [] rfl) dX0_end_19
  · obtain rfl : x0 = 4 := (ka_eq' _ _).mpr (y_19846.trans (by decide))
    refine lv_iload_n hx hb dX0_end_0 rfl (lv_at hl 1 rfl) ?_
    refine ka_RS (n := 1) C (cg_X0_isLesson_26 l D F ) gX0_end_X0_isLesson rfl (by decide +kernel) ⟨Nat.le_of_ble_eq_true rfl, Nat.le_of_ble_eq_true rfl⟩ hK hP hS hE hN [] rfl [] rfl rfl hl.1 (rest := []) rfl (Nat.le_of_ble_eq_true rfl) dX0_end_1 ⟨Nat.le_of_ble_eq_true rfl, Nat.le_of_ble_eq_true rfl⟩ (fun v hv => ?_)
    subst hv
    refine ka_stk (w := [.int 1]) rfl ?_
    refine lv_if_eq (tgt := 19) hx hb dX0_end_4 (by decide) (fun c_ => absurd c_ (by decide)) (fun _ => ?_)
    refine lv_aload_n hx hb dX0_end_7 rfl (lv_at hl 0 rfl) ?_
    refine lv_dup hx hb dX0_end_8 rfl ?_
    refine ka_get C lq_66 rfl hK hP 0 rfl 2 (by decide) lq_67 rfl dX0_end_9 ?_
    refine lv_iconst (v := 1) hx hb dX0_end_12 (by decide) ?_
    refine lv_iload_n hx hb dX0_end_13 rfl (lv_at hl 1 rfl) ?_
    refine lv_ishl hx hb dX0_end_14 ?_
    refine ka_top (w := .int 16) (congrArg Value.int (by decide)) ?_
    refine lv_ior hx hb dX0_end_15 ?_
    refine lv_topi (fun v_19851 ev_19851 => ?_)
    refine ka_put C lq_66 tyX0 tyX0_ok nmX0 rfl hK hP hD hS 0 rfl 2 (by decide) lq_67 rfl rfl rfl (Nat.le_of_ble_eq_true rfl) dX0_end_16 (fun H locs hP hD hS => ?_)
    have hP : va_P D vwCl [(a0, .inr (0, [.ref a1, .ref a2, .int v_19851]))] H := hP
    have hD : va_D A [(a0, .inr (0, [.ref a1, .ref a2, .int v_19851]))] := hD
    exact ka_rEv C hr hlk (Nat.le_of_ble_eq_true rfl) (Nat.le_of_ble_eq_true rfl) hS (ka_qE v_19851 rfl trivial hK hP hD hS [0] (by decide) rfl [] rfl) dX0_end_19
  · obtain rfl : x0 = 5 := (ka_eq' _ _).mpr (y_19846.trans (by decide))
    refine lv_iload_n hx hb dX0_end_0 rfl (lv_at hl 1 rfl) ?_
    refine ka_RS (n := 1) C (cg_X0_isLesson_27 l D F ) gX0_end_X0_isLesson rfl (by decide +kernel) ⟨Nat.le_of_ble_eq_true rfl, Nat.le_of_ble_eq_true rfl⟩ hK hP hS hE hN [] rfl [] rfl rfl hl.1 (rest := []) rfl (Nat.le_of_ble_eq_true rfl) dX0_end_1 ⟨Nat.le_of_ble_eq_true rfl, Nat.le_of_ble_eq_true rfl⟩ (fun v hv => ?_)
    subst hv
    refine ka_stk (w := [.int 1]) rfl ?_
    refine lv_if_eq (tgt := 19) hx hb dX0_end_4 (by decide) (fun c_ => absurd c_ (by decide)) (fun _ => ?_)
    refine lv_aload_n hx hb dX0_end_7 rfl (lv_at hl 0 rfl) ?_
    refine lv_dup hx hb dX0_end_8 rfl ?_
    refine ka_get C lq_66 rfl hK hP 0 rfl 2 (by decide) lq_67 rfl dX0_end_9 ?_
    refine lv_iconst (v := 1) hx hb dX0_end_12 (by decide) ?_
    refine lv_iload_n hx hb dX0_end_13 rfl (lv_at hl 1 rfl) ?_
    refine lv_ishl hx hb dX0_end_14 ?_
    refine ka_top (w := .int 32) (congrArg Value.int (by decide)) ?_
    refine lv_ior hx hb dX0_end_15 ?_
    refine lv_topi (fun v_19852 ev_19852 => ?_)
    refine ka_put C lq_66 tyX0 tyX0_ok nmX0 rfl hK hP hD hS 0 rfl 2 (by decide) lq_67 rfl rfl rfl (Nat.le_of_ble_eq_true rfl) dX0_end_16 (fun H locs hP hD hS => ?_)
    have hP : va_P D vwCl [(a0, .inr (0, [.ref a1, .ref a2, .int v_19852]))] H := hP
    have hD : va_D A [(a0, .inr (0, [.ref a1, .ref a2, .int v_19852]))] := hD
    exact ka_rEv C hr hlk (Nat.le_of_ble_eq_true rfl) (Nat.le_of_ble_eq_true rfl) hS (ka_qE v_19852 rfl trivial hK hP hD hS [0] (by decide) rfl [] rfl) dX0_end_19
theorem lq_176 : ∀ w ∈ wsX60, w ∈ wsX6_endIfDone := by decide +kernel
theorem lq_177 : Cond.fieldLink RX6 39 "AskedBack" "begun" "I" ∈ wsX6_endIfDone := by decide +kernel
theorem lq_178 : Cond.fieldLink RX6 35 "AskedBack" "talk" "LAskedBack$Talk;" ∈ wsX6_endIfDone := by decide +kernel
theorem lq_179 : ∀ w ∈ wsX40, w ∈ wsX6_endIfDone := by decide +kernel
theorem lq_180 : Cond.fieldLink RX6 214 "AskedBack$Talk" "freshRun" "I" ∈ wsX6_endIfDone := by decide +kernel
theorem lq_181 : Cond.fieldLink RX6 52 "AskedBack" "freshForDone" "I" ∈ wsX6_endIfDone := by decide +kernel
theorem lq_182 : Cond.fieldLink RX6 28 "AskedBack" "course" "LAskedBack$Course;" ∈ wsX6_endIfDone := by decide +kernel
set_option maxHeartbeats 4000000 in
set_option maxRecDepth 100000 in
theorem cg_X6_endIfDone_184 (l : Launch) (D : va_G) (F : Nat → Prop) (a0 : Nat) (a1 : Nat) (a2 : Nat) (a3 : Nat) (a4 : Nat) (x0 : Int32) (x1 : Int32) (x2 : Int32) (x3 : Int32) (x4 : Int32) (a5 : Nat) (a6 : Nat) (x5 : Int32) (a7 : Nat) (a8 : Nat) (a9 : Nat) (x6 : Int32) (x7 : Int32) (x8 : Int32) (x9 : Int32) (x10 : Int32) (x11 : Int32) (hx0 : -1 ≤ x0.toInt ∧ x0.toInt ≤ 5) (hx6 : 0 ≤ x6.toInt ∧ x6.toInt ≤ 10) : ka_E l D F yX6_endIfDone wsX6_endIfDone 2 41 0 0 [.ref a0] [(a0, .inr (6, [.ref a1, .ref a2, .ref a3, .ref a4, .int x0, .int x1, .int x2, .int x3, .int x4])), (a3, .inr (0, [.ref a5, .ref a6, .int x5])), (a4, .inr (4, [.ref a7, .ref a8, .ref a9, .int x6, .int x7, .int x8, .int x9, .int x10, .int x11]))] [] (fun (u : (Int32)) => none) (fun (u : (Int32)) => True) (fun (u : (Int32)) => [(a0, .inr (6, [.ref a1, .ref a2, .ref a3, .ref a4, .int x0, .int x1, .int x2, .int x3, .int x4])), (a3, .inr (0, [.ref a5, .ref a6, .int u])), (a4, .inr (4, [.ref a7, .ref a8, .ref a9, .int x6, .int x7, .int x8, .int x9, .int x10, .int x11]))]) (fun (u : (Int32)) => []) := by
  refine ka_E_of (cc := cX6_endIfDone) (maxL := 1) (ret := none) (by decide) rfl (Nat.le_of_ble_eq_true rfl) ?_
  intro p e s m below meth c ls A C hr hlk hin hP hK hD hS hA hE hN hl
  have C : CallFix p m c cX6_endIfDone 1 s [.ref a0].toArray wsX6_endIfDone RX6 := C
  obtain ⟨hx, hb, hml, hown, hts⟩ := id C
  have hl : lv_has ls 1 [(0, .ref a0)] := hl
  have rx0 := ka_rng x0
  have rx1 := ka_rng x1
  have rx2 := ka_rng x2
  have rx3 := ka_rng x3
  have rx4 := ka_rng x4
  have rx5 := ka_rng x5
  have rx6 := ka_rng x6
  have rx7 := ka_rng x7
  have rx8 := ka_rng x8
  have rx9 := ka_rng x9
  have rx10 := ka_rng x10
  have rx11 := ka_rng x11
  refine lv_aload_n hx hb dX6_endIfDone_0 rfl (lv_at hl 0 rfl) ?_
  refine ka_get C lq_176 rfl hK hP 0 rfl 4 (by decide) lq_177 rfl dX6_endIfDone_1 ?_
  refine lv_iconst (v := (-1)) hx hb dX6_endIfDone_4 (by decide) ?_
  refine lv_icmp_eq (tgt := 33) hx hb dX6_endIfDone_5 (by decide) (fun c_19857 => ?_) (fun c_19857 => ?_)
  · have c_19857 : x0.toInt = -1 := by rw [ka_eq', show ((-1 : Int32)).toInt = -1 from by decide] at c_19857; exact c_19857
    exact ka_rEv C hr hlk (Nat.le_of_ble_eq_true rfl) (Nat.le_of_ble_eq_true rfl) hS (ka_qE x5 rfl trivial hK hP hD hS [0, 1, 2] (by decide) rfl [] rfl) dX6_endIfDone_33
  · have c_19857 : ¬ x0.toInt = -1 := by rw [ka_eq', show ((-1 : Int32)).toInt = -1 from by decide] at c_19857; exact c_19857
    refine lv_aload_n hx hb dX6_endIfDone_8 rfl (lv_at hl 0 rfl) ?_
    refine ka_get C lq_176 rfl hK hP 0 rfl 3 (by decide) lq_178 rfl dX6_endIfDone_9 ?_
    refine ka_get C lq_179 rfl hK hP 2 rfl 8 (by decide) lq_180 rfl dX6_endIfDone_12 ?_
    refine lv_aload_n hx hb dX6_endIfDone_15 rfl (lv_at hl 0 rfl) ?_
    refine ka_get C lq_176 rfl hK hP 0 rfl 8 (by decide) lq_181 rfl dX6_endIfDone_16 ?_
    refine lv_icmp_lt (tgt := 33) hx hb dX6_endIfDone_19 (by decide) (fun c_19858 => ?_) (fun c_19858 => ?_)
    · have c_19858 : x11.toInt < x4.toInt := by rw [ka_lt'] at c_19858; exact c_19858
      exact ka_rEv C hr hlk (Nat.le_of_ble_eq_true rfl) (Nat.le_of_ble_eq_true rfl) hS (ka_qE x5 rfl trivial hK hP hD hS [0, 1, 2] (by decide) rfl [] rfl) dX6_endIfDone_33
    · have c_19858 : ¬ x11.toInt < x4.toInt := by rw [ka_lt'] at c_19858; exact c_19858
      refine lv_aload_n hx hb dX6_endIfDone_22 rfl (lv_at hl 0 rfl) ?_
      refine ka_get C lq_176 rfl hK hP 0 rfl 2 (by decide) lq_182 rfl dX6_endIfDone_23 ?_
      refine lv_aload_n hx hb dX6_endIfDone_26 rfl (lv_at hl 0 rfl) ?_
      refine ka_get C lq_176 rfl hK hP 0 rfl 4 (by decide) lq_177 rfl dX6_endIfDone_27 ?_
      refine ka_EV (n := 1) (wr := [(a0, .inr (6, [.ref a1, .ref a2, .ref a3, .ref a4, .int x0, .int x1, .int x2, .int x3, .int x4])), (a4, .inr (4, [.ref a7, .ref a8, .ref a9, .int x6, .int x7, .int x8, .int x9, .int x10, .int x11]))]) C (cg_X0_end_183 l D F a3 x0 a5 a6 x5 ⟨by omega, by omega⟩) gX6_endIfDone_X0_end rfl (by decide +kernel) ⟨Nat.le_of_ble_eq_true rfl, Nat.le_of_ble_eq_true rfl⟩ hK hP hD hS hA hE hN [1] rfl (by decide) [0, 2] rfl (by decide) (by decide) [] rfl (ci := 0) rfl rfl 1 rfl rfl hl.1 (rest := []) rfl (Nat.le_of_ble_eq_true rfl) dX6_endIfDone_30 ⟨Nat.le_of_ble_eq_true rfl, Nat.le_of_ble_eq_true rfl⟩ (fun u H locs hq hP hD hK hS => ?_)
      obtain ⟨v_19859, rfl⟩ : ∃ z, z = u := ⟨_, rfl⟩
      have rv_19859 := ka_rng v_19859
      have hP : va_P D vwCl [(a0, .inr (6, [.ref a1, .ref a2, .ref a3, .ref a4, .int x0, .int x1, .int x2, .int x3, .int x4])), (a4, .inr (4, [.ref a7, .ref a8, .ref a9, .int x6, .int x7, .int x8, .int x9, .int x10, .int x11])), (a3, .inr (0, [.ref a5, .ref a6, .int v_19859]))] H := hP
      have hD : va_D A [(a0, .inr (6, [.ref a1, .ref a2, .ref a3, .ref a4, .int x0, .int x1, .int x2, .int x3, .int x4])), (a4, .inr (4, [.ref a7, .ref a8, .ref a9, .int x6, .int x7, .int x8, .int x9, .int x10, .int x11])), (a3, .inr (0, [.ref a5, .ref a6, .int v_19859]))] := hD
      have hK : va_K D vwCl [] s := by simpa using hK
      refine ka_stk (w := []) rfl ?_
      exact ka_rEv C hr hlk (Nat.le_of_ble_eq_true rfl) (Nat.le_of_ble_eq_true rfl) hS (ka_qE v_19859 rfl trivial hK hP hD hS [0, 2, 1] (by decide) rfl [] rfl) dX6_endIfDone_33
set_option maxHeartbeats 4000000 in
set_option maxRecDepth 100000 in
theorem cg_X0_isDone_185 (l : Launch) (D : va_G) (F : Nat → Prop) (a0 : Nat) (x0 : Int32) (a1 : Nat) (a2 : Nat) (x1 : Int32) (hx0 : -1 ≤ x0.toInt ∧ x0.toInt ≤ 5) : ka_R l D F yX0_isDone wsX0_isDone 1 21 [.ref a0, .int x0] [(a0, .inr (0, [.ref a1, .ref a2, .int x1]))] [] (fun v => ∃ x : Int32, v = some (.int x) ∧ 0 ≤ x.toInt ∧ x.toInt ≤ 1) := by
  refine ka_R_of (cc := cX0_isDone) (maxL := 2) (ret := (some .boolean)) (by decide) rfl (Nat.le_of_ble_eq_true rfl) ?_
  intro p e s m below meth c ls C hr hlk hP hK hE hN hl
  have hS : va_S (fun _ => False) s.heap s.heap [] := va_S.rf
  have C : CallFix p m c cX0_isDone 2 s [.ref a0, .int x0].toArray wsX0_isDone RX0 := C
  obtain ⟨hx, hb, hml, hown, hts⟩ := id C
  have hl : lv_has ls 2 [(0, .ref a0), (1, .int x0)] := hl
  have rx0 := ka_rng x0
  have rx1 := ka_rng x1
  rcases (show x0.toInt = -1 ∨ x0.toInt = 0 ∨ x0.toInt = 1 ∨ x0.toInt = 2 ∨ x0.toInt = 3 ∨ x0.toInt = 4 ∨ x0.toInt = 5 by omega) with y_19960 | y_19960 | y_19960 | y_19960 | y_19960 | y_19960 | y_19960
  · obtain rfl : x0 = (-1) := (ka_eq' _ _).mpr (y_19960.trans (by decide))
    refine lv_iload_n hx hb dX0_isDone_0 rfl (lv_at hl 1 rfl) ?_
    refine ka_RS (n := 1) C (cg_X0_isLesson_160 l D F ) gX0_isDone_X0_isLesson rfl (by decide +kernel) ⟨Nat.le_of_ble_eq_true rfl, Nat.le_of_ble_eq_true rfl⟩ hK hP hS hE hN [] rfl [] rfl rfl hl.1 (rest := []) rfl (Nat.le_of_ble_eq_true rfl) dX0_isDone_1 ⟨Nat.le_of_ble_eq_true rfl, Nat.le_of_ble_eq_true rfl⟩ (fun v hv => ?_)
    subst hv
    refine ka_stk (w := [.int 0]) rfl ?_
    refine lv_if_eq (tgt := 23) hx hb dX0_isDone_4 (by decide) (fun _ => ?_) (fun c_ => absurd (by decide) c_)
    refine lv_iconst (v := 0) hx hb dX0_isDone_23 (by decide) ?_
    exact ka_rRz C hr hlk rfl ⟨_, rfl, ⟨by decide, by decide⟩⟩ dX0_isDone_24
  · obtain rfl : x0 = 0 := (ka_eq' _ _).mpr (y_19960.trans (by decide))
    refine lv_iload_n hx hb dX0_isDone_0 rfl (lv_at hl 1 rfl) ?_
    refine ka_RS (n := 1) C (cg_X0_isLesson_22 l D F ) gX0_isDone_X0_isLesson rfl (by decide +kernel) ⟨Nat.le_of_ble_eq_true rfl, Nat.le_of_ble_eq_true rfl⟩ hK hP hS hE hN [] rfl [] rfl rfl hl.1 (rest := []) rfl (Nat.le_of_ble_eq_true rfl) dX0_isDone_1 ⟨Nat.le_of_ble_eq_true rfl, Nat.le_of_ble_eq_true rfl⟩ (fun v hv => ?_)
    subst hv
    refine ka_stk (w := [.int 1]) rfl ?_
    refine lv_if_eq (tgt := 23) hx hb dX0_isDone_4 (by decide) (fun c_ => absurd c_ (by decide)) (fun _ => ?_)
    refine lv_aload_n hx hb dX0_isDone_7 rfl (lv_at hl 0 rfl) ?_
    refine ka_get C lq_62 rfl hK hP 0 rfl 2 (by decide) lq_63 rfl dX0_isDone_8 ?_
    refine lv_iload_n hx hb dX0_isDone_11 rfl (lv_at hl 1 rfl) ?_
    refine ka_RN (n := 2) C (ka_c_bitAt l D F x1 0) gX0_isDone_X6_bitAt_n30 rfl hN.2.2.2.1 lq_64 lq_65 (by decide +kernel) ⟨Nat.le_of_ble_eq_true rfl, Nat.le_of_ble_eq_true rfl⟩ hK hP hS hE hN [] rfl [] rfl rfl hl.1 (rest := []) rfl (Nat.le_of_ble_eq_true rfl) dX0_isDone_12 ⟨Nat.le_of_ble_eq_true rfl, Nat.le_of_ble_eq_true rfl⟩ (fun v hv => ?_)
    subst hv
    refine ka_stk (w := .int (ka_bit x1 0) :: []) rfl ?_
    refine lv_topi (fun v_19961 ev_19961 => ?_)
    have fv_19961 := ka_bit_in x1 0; rw [← ev_19961] at fv_19961
    refine lv_iconst (v := 1) hx hb dX0_isDone_15 (by decide) ?_
    refine lv_icmp_ne (tgt := 23) hx hb dX0_isDone_16 (by decide) (fun c_19962 => ?_) (fun c_19962 => ?_)
    · have c_19962 : ¬ v_19961.toInt = 1 := by rw [ka_eq', show ((1 : Int32)).toInt = 1 from by decide] at c_19962; exact c_19962
      refine lv_iconst (v := 0) hx hb dX0_isDone_23 (by decide) ?_
      exact ka_rRz C hr hlk rfl ⟨_, rfl, ⟨by decide, by decide⟩⟩ dX0_isDone_24
    · have c_19962 : v_19961.toInt = 1 := by rw [ka_eq', show ((1 : Int32)).toInt = 1 from by decide] at c_19962; exact c_19962
      refine lv_iconst (v := 1) hx hb dX0_isDone_19 (by decide) ?_
      refine lv_goto (tgt := 24) hx hb dX0_isDone_20 (by decide) ?_
      exact ka_rRz C hr hlk rfl ⟨_, rfl, ⟨by decide, by decide⟩⟩ dX0_isDone_24
  · obtain rfl : x0 = 1 := (ka_eq' _ _).mpr (y_19960.trans (by decide))
    refine lv_iload_n hx hb dX0_isDone_0 rfl (lv_at hl 1 rfl) ?_
    refine ka_RS (n := 1) C (cg_X0_isLesson_23 l D F ) gX0_isDone_X0_isLesson rfl (by decide +kernel) ⟨Nat.le_of_ble_eq_true rfl, Nat.le_of_ble_eq_true rfl⟩ hK hP hS hE hN [] rfl [] rfl rfl hl.1 (rest := []) rfl (Nat.le_of_ble_eq_true rfl) dX0_isDone_1 ⟨Nat.le_of_ble_eq_true rfl, Nat.le_of_ble_eq_true rfl⟩ (fun v hv => ?_)
    subst hv
    refine ka_stk (w := [.int 1]) rfl ?_
    refine lv_if_eq (tgt := 23) hx hb dX0_isDone_4 (by decide) (fun c_ => absurd c_ (by decide)) (fun _ => ?_)
    refine lv_aload_n hx hb dX0_isDone_7 rfl (lv_at hl 0 rfl) ?_
    refine ka_get C lq_62 rfl hK hP 0 rfl 2 (by decide) lq_63 rfl dX0_isDone_8 ?_
    refine lv_iload_n hx hb dX0_isDone_11 rfl (lv_at hl 1 rfl) ?_
    refine ka_RN (n := 2) C (ka_c_bitAt l D F x1 1) gX0_isDone_X6_bitAt_n30 rfl hN.2.2.2.1 lq_64 lq_65 (by decide +kernel) ⟨Nat.le_of_ble_eq_true rfl, Nat.le_of_ble_eq_true rfl⟩ hK hP hS hE hN [] rfl [] rfl rfl hl.1 (rest := []) rfl (Nat.le_of_ble_eq_true rfl) dX0_isDone_12 ⟨Nat.le_of_ble_eq_true rfl, Nat.le_of_ble_eq_true rfl⟩ (fun v hv => ?_)
    subst hv
    refine ka_stk (w := .int (ka_bit x1 1) :: []) rfl ?_
    refine lv_topi (fun v_19963 ev_19963 => ?_)
    have fv_19963 := ka_bit_in x1 1; rw [← ev_19963] at fv_19963
    refine lv_iconst (v := 1) hx hb dX0_isDone_15 (by decide) ?_
    refine lv_icmp_ne (tgt := 23) hx hb dX0_isDone_16 (by decide) (fun c_19964 => ?_) (fun c_19964 => ?_)
    · have c_19964 : ¬ v_19963.toInt = 1 := by rw [ka_eq', show ((1 : Int32)).toInt = 1 from by decide] at c_19964; exact c_19964
      refine lv_iconst (v := 0) hx hb dX0_isDone_23 (by decide) ?_
      exact ka_rRz C hr hlk rfl ⟨_, rfl, ⟨by decide, by decide⟩⟩ dX0_isDone_24
    · have c_19964 : v_19963.toInt = 1 := by rw [ka_eq', show ((1 : Int32)).toInt = 1 from by decide] at c_19964; exact c_19964
      refine lv_iconst (v := 1) hx hb dX0_isDone_19 (by decide) ?_
      refine lv_goto (tgt := 24) hx hb dX0_isDone_20 (by decide) ?_
      exact ka_rRz C hr hlk rfl ⟨_, rfl, ⟨by decide, by decide⟩⟩ dX0_isDone_24
  · obtain rfl : x0 = 2 := (ka_eq' _ _).mpr (y_19960.trans (by decide))
    refine lv_iload_n hx hb dX0_isDone_0 rfl (lv_at hl 1 rfl) ?_
    refine ka_RS (n := 1) C (cg_X0_isLesson_24 l D F ) gX0_isDone_X0_isLesson rfl (by decide +kernel) ⟨Nat.le_of_ble_eq_true rfl, Nat.le_of_ble_eq_true rfl⟩ hK hP hS hE hN [] rfl [] rfl rfl hl.1 (rest := []) rfl (Nat.le_of_ble_eq_true rfl) dX0_isDone_1 ⟨Nat.le_of_ble_eq_true rfl, Nat.le_of_ble_eq_true rfl⟩ (fun v hv => ?_)
    subst hv
    refine ka_stk (w := [.int 1]) rfl ?_
    refine lv_if_eq (tgt := 23) hx hb dX0_isDone_4 (by decide) (fun c_ => absurd c_ (by decide)) (fun _ => ?_)
    refine lv_aload_n hx hb dX0_isDone_7 rfl (lv_at hl 0 rfl) ?_
    refine ka_get C lq_62 rfl hK hP 0 rfl 2 (by decide) lq_63 rfl dX0_isDone_8 ?_
    refine lv_iload_n hx hb dX0_isDone_11 rfl (lv_at hl 1 rfl) ?_
    refine ka_RN (n := 2) C (ka_c_bitAt l D F x1 2) gX0_isDone_X6_bitAt_n30 rfl hN.2.2.2.1 lq_64 lq_65 (by decide +kernel) ⟨Nat.le_of_ble_eq_true rfl, Nat.le_of_ble_eq_true rfl⟩ hK hP hS hE hN [] rfl [] rfl rfl hl.1 (rest := []) rfl (Nat.le_of_ble_eq_true rfl) dX0_isDone_12 ⟨Nat.le_of_ble_eq_true rfl, Nat.le_of_ble_eq_true rfl⟩ (fun v hv => ?_)
    subst hv
    refine ka_stk (w := .int (ka_bit x1 2) :: []) rfl ?_
    refine lv_topi (fun v_19965 ev_19965 => ?_)
    have fv_19965 := ka_bit_in x1 2; rw [← ev_19965] at fv_19965
    refine lv_iconst (v := 1) hx hb dX0_isDone_15 (by decide) ?_
    refine lv_icmp_ne (tgt := 23) hx hb dX0_isDone_16 (by decide) (fun c_19966 => ?_) (fun c_19966 => ?_)
    · have c_19966 : ¬ v_19965.toInt = 1 := by rw [ka_eq', show ((1 : Int32)).toInt = 1 from by decide] at c_19966; exact c_19966
      refine lv_iconst (v := 0) hx hb dX0_isDone_23 (by decide) ?_
      exact ka_rRz C hr hlk rfl ⟨_, rfl, ⟨by decide, by decide⟩⟩ dX0_isDone_24
    · have c_19966 : v_19965.toInt = 1 := by rw [ka_eq', show ((1 : Int32)).toInt = 1 from by decide] at c_19966; exact c_19966
      refine lv_iconst (v := 1) hx hb dX0_isDone_19 (by decide) ?_
      refine lv_goto (tgt := 24) hx hb dX0_isDone_20 (by decide) ?_
      exact ka_rRz C hr hlk rfl ⟨_, rfl, ⟨by decide, by decide⟩⟩ dX0_isDone_24
  · obtain rfl : x0 = 3 := (ka_eq' _ _).mpr (y_19960.trans (by decide))
    refine lv_iload_n hx hb dX0_isDone_0 rfl (lv_at hl 1 rfl) ?_
    refine ka_RS (n := 1) C (cg_X0_isLesson_25 l D F ) gX0_isDone_X0_isLesson rfl (by decide +kernel) ⟨Nat.le_of_ble_eq_true rfl, Nat.le_of_ble_eq_true rfl⟩ hK hP hS hE hN [] rfl [] rfl rfl hl.1 (rest := []) rfl (Nat.le_of_ble_eq_true rfl) dX0_isDone_1 ⟨Nat.le_of_ble_eq_true rfl, Nat.le_of_ble_eq_true rfl⟩ (fun v hv => ?_)
    subst hv
    refine ka_stk (w := [.int 1]) rfl ?_
    refine lv_if_eq (tgt := 23) hx hb dX0_isDone_4 (by decide) (fun c_ => absurd c_ (by decide)) (fun _ => ?_)
    refine lv_aload_n hx hb dX0_isDone_7 rfl (lv_at hl 0 rfl) ?_
    refine ka_get C lq_62 rfl hK hP 0 rfl 2 (by decide) lq_63 rfl dX0_isDone_8 ?_
    refine lv_iload_n hx hb dX0_isDone_11 rfl (lv_at hl 1 rfl) ?_
    refine ka_RN (n := 2) C (ka_c_bitAt l D F x1 3) gX0_isDone_X6_bitAt_n30 rfl hN.2.2.2.1 lq_64 lq_65 (by decide +kernel) ⟨Nat.le_of_ble_eq_true rfl, Nat.le_of_ble_eq_true rfl⟩ hK hP hS hE hN [] rfl [] rfl rfl hl.1 (rest := []) rfl (Nat.le_of_ble_eq_true rfl) dX0_isDone_12 ⟨Nat.le_of_ble_eq_true rfl, Nat.le_of_ble_eq_true rfl⟩ (fun v hv => ?_)
    subst hv
    refine ka_stk (w := .int (ka_bit x1 3) :: []) rfl ?_
    refine lv_topi (fun v_19967 ev_19967 => ?_)
    have fv_19967 := ka_bit_in x1 3; rw [← ev_19967] at fv_19967
    refine lv_iconst (v := 1) hx hb dX0_isDone_15 (by decide) ?_
    refine lv_icmp_ne (tgt := 23) hx hb dX0_isDone_16 (by decide) (fun c_19968 => ?_) (fun c_19968 => ?_)
    · have c_19968 : ¬ v_19967.toInt = 1 := by rw [ka_eq', show ((1 : Int32)).toInt = 1 from by decide] at c_19968; exact c_19968
      refine lv_iconst (v := 0) hx hb dX0_isDone_23 (by decide) ?_
      exact ka_rRz C hr hlk rfl ⟨_, rfl, ⟨by decide, by decide⟩⟩ dX0_isDone_24
    · have c_19968 : v_19967.toInt = 1 := by rw [ka_eq', show ((1 : Int32)).toInt = 1 from by decide] at c_19968; exact c_19968
      refine lv_iconst (v := 1) hx hb dX0_isDone_19 (by decide) ?_
      refine lv_goto (tgt := 24) hx hb dX0_isDone_20 (by decide) ?_
      exact ka_rRz C hr hlk rfl ⟨_, rfl, ⟨by decide, by decide⟩⟩ dX0_isDone_24
  · obtain rfl : x0 = 4 := (ka_eq' _ _).mpr (y_19960.trans (by decide))
    refine lv_iload_n hx hb dX0_isDone_0 rfl (lv_at hl 1 rfl) ?_
    refine ka_RS (n := 1) C (cg_X0_isLesson_26 l D F ) gX0_isDone_X0_isLesson rfl (by decide +kernel) ⟨Nat.le_of_ble_eq_true rfl, Nat.le_of_ble_eq_true rfl⟩ hK hP hS hE hN [] rfl [] rfl rfl hl.1 (rest := []) rfl (Nat.le_of_ble_eq_true rfl) dX0_isDone_1 ⟨Nat.le_of_ble_eq_true rfl, Nat.le_of_ble_eq_true rfl⟩ (fun v hv => ?_)
    subst hv
    refine ka_stk (w := [.int 1]) rfl ?_
    refine lv_if_eq (tgt := 23) hx hb dX0_isDone_4 (by decide) (fun c_ => absurd c_ (by decide)) (fun _ => ?_)
    refine lv_aload_n hx hb dX0_isDone_7 rfl (lv_at hl 0 rfl) ?_
    refine ka_get C lq_62 rfl hK hP 0 rfl 2 (by decide) lq_63 rfl dX0_isDone_8 ?_
    refine lv_iload_n hx hb dX0_isDone_11 rfl (lv_at hl 1 rfl) ?_
    refine ka_RN (n := 2) C (ka_c_bitAt l D F x1 4) gX0_isDone_X6_bitAt_n30 rfl hN.2.2.2.1 lq_64 lq_65 (by decide +kernel) ⟨Nat.le_of_ble_eq_true rfl, Nat.le_of_ble_eq_true rfl⟩ hK hP hS hE hN [] rfl [] rfl rfl hl.1 (rest := []) rfl (Nat.le_of_ble_eq_true rfl) dX0_isDone_12 ⟨Nat.le_of_ble_eq_true rfl, Nat.le_of_ble_eq_true rfl⟩ (fun v hv => ?_)
    subst hv
    refine ka_stk (w := .int (ka_bit x1 4) :: []) rfl ?_
    refine lv_topi (fun v_19969 ev_19969 => ?_)
    have fv_19969 := ka_bit_in x1 4; rw [← ev_19969] at fv_19969
    refine lv_iconst (v := 1) hx hb dX0_isDone_15 (by decide) ?_
    refine lv_icmp_ne (tgt := 23) hx hb dX0_isDone_16 (by decide) (fun c_19970 => ?_) (fun c_19970 => ?_)
    · have c_19970 : ¬ v_19969.toInt = 1 := by rw [ka_eq', show ((1 : Int32)).toInt = 1 from by decide] at c_19970; exact c_19970
      refine lv_iconst (v := 0) hx hb dX0_isDone_23 (by decide) ?_
      exact ka_rRz C hr hlk rfl ⟨_, rfl, ⟨by decide, by decide⟩⟩ dX0_isDone_24
    · have c_19970 : v_19969.toInt = 1 := by rw [ka_eq', show ((1 : Int32)).toInt = 1 from by decide] at c_19970; exact c_19970
      refine lv_iconst (v := 1) hx hb dX0_isDone_19 (by decide) ?_
      refine lv_goto (tgt := 24) hx hb dX0_isDone_20 (by decide) ?_
      exact ka_rRz C hr hlk rfl ⟨_, rfl, ⟨by decide, by decide⟩⟩ dX0_isDone_24
  · obtain rfl : x0 = 5 := (ka_eq' _ _).mpr (y_19960.trans (by decide))
    refine lv_iload_n hx hb dX0_isDone_0 rfl (lv_at hl 1 rfl) ?_
    refine ka_RS (n := 1) C (cg_X0_isLesson_27 l D F ) gX0_isDone_X0_isLesson rfl (by decide +kernel) ⟨Nat.le_of_ble_eq_true rfl, Nat.le_of_ble_eq_true rfl⟩ hK hP hS hE hN [] rfl [] rfl rfl hl.1 (rest := []) rfl (Nat.le_of_ble_eq_true rfl) dX0_isDone_1 ⟨Nat.le_of_ble_eq_true rfl, Nat.le_of_ble_eq_true rfl⟩ (fun v hv => ?_)
    subst hv
    refine ka_stk (w := [.int 1]) rfl ?_
    refine lv_if_eq (tgt := 23) hx hb dX0_isDone_4 (by decide) (fun c_ => absurd c_ (by decide)) (fun _ => ?_)
    refine lv_aload_n hx hb dX0_isDone_7 rfl (lv_at hl 0 rfl) ?_
    refine ka_get C lq_62 rfl hK hP 0 rfl 2 (by decide) lq_63 rfl dX0_isDone_8 ?_
    refine lv_iload_n hx hb dX0_isDone_11 rfl (lv_at hl 1 rfl) ?_
    refine ka_RN (n := 2) C (ka_c_bitAt l D F x1 5) gX0_isDone_X6_bitAt_n30 rfl hN.2.2.2.1 lq_64 lq_65 (by decide +kernel) ⟨Nat.le_of_ble_eq_true rfl, Nat.le_of_ble_eq_true rfl⟩ hK hP hS hE hN [] rfl [] rfl rfl hl.1 (rest := []) rfl (Nat.le_of_ble_eq_true rfl) dX0_isDone_12 ⟨Nat.le_of_ble_eq_true rfl, Nat.le_of_ble_eq_true rfl⟩ (fun v hv => ?_)
    subst hv
    refine ka_stk (w := .int (ka_bit x1 5) :: []) rfl ?_
    refine lv_topi (fun v_19971 ev_19971 => ?_)
    have fv_19971 := ka_bit_in x1 5; rw [← ev_19971] at fv_19971
    refine lv_iconst (v := 1) hx hb dX0_isDone_15 (by decide) ?_
    refine lv_icmp_ne (tgt := 23) hx hb dX0_isDone_16 (by decide) (fun c_19972 => ?_) (fun c_19972 => ?_)
    · have c_19972 : ¬ v_19971.toInt = 1 := by rw [ka_eq', show ((1 : Int32)).toInt = 1 from by decide] at c_19972; exact c_19972
      refine lv_iconst (v := 0) hx hb dX0_isDone_23 (by decide) ?_
      exact ka_rRz C hr hlk rfl ⟨_, rfl, ⟨by decide, by decide⟩⟩ dX0_isDone_24
    · have c_19972 : v_19971.toInt = 1 := by rw [ka_eq', show ((1 : Int32)).toInt = 1 from by decide] at c_19972; exact c_19972
      refine lv_iconst (v := 1) hx hb dX0_isDone_19 (by decide) ?_
      refine lv_goto (tgt := 24) hx hb dX0_isDone_20 (by decide) ?_
      exact ka_rRz C hr hlk rfl ⟨_, rfl, ⟨by decide, by decide⟩⟩ dX0_isDone_24
set_option maxHeartbeats 4000000 in
set_option maxRecDepth 100000 in
theorem cg_X4_addAnswer_186 (l : Launch) (D : va_G) (F : Nat → Prop) (a0 : Nat) (x0 : Int32) (x1 : Int32) (a1 : Nat) (a2 : Nat) (a3 : Nat) (x2 : Int32) (x3 : Int32) (x4 : Int32) (x5 : Int32) (x6 : Int32) (x7 : Int32) (k0 : ClassId) (f0 : Nat → Int32) (k1 : ClassId) (f1 : Nat → Int32) (hx1 : 0 ≤ x1.toInt ∧ x1.toInt ≤ 1) (hx2 : 0 ≤ x2.toInt ∧ x2.toInt ≤ 10) : ka_E l D F yX4_addAnswer wsX4_addAnswer 1 21 0 0 [.ref a0, .int x0, .int x1, .int 0] [(a0, .inr (4, [.ref a1, .ref a2, .ref a3, .int x2, .int x3, .int x4, .int x5, .int x6, .int x7])), (a1, .inl (k0, 32, .inl f0)), (a2, .inl (k1, 32, .inl f1))] [(k0, .int), (k1, .int)] (fun (u : (Int32) × (Int32) × (Int32) × (Int32) × (Int32) × (Nat → Int32) × (Nat → Int32)) => none) (fun (u : (Int32) × (Int32) × (Int32) × (Int32) × (Int32) × (Nat → Int32) × (Nat → Int32)) => True) (fun (u : (Int32) × (Int32) × (Int32) × (Int32) × (Int32) × (Nat → Int32) × (Nat → Int32)) => [(a0, .inr (4, [.ref a1, .ref a2, .ref a3, .int x2, .int (u.1), .int (u.2.1), .int (u.2.2.1), .int (u.2.2.2.1), .int (u.2.2.2.2.1)])), (a1, .inl (k0, 32, .inl (u.2.2.2.2.2.1))), (a2, .inl (k1, 32, .inl (u.2.2.2.2.2.2)))]) (fun (u : (Int32) × (Int32) × (Int32) × (Int32) × (Int32) × (Nat → Int32) × (Nat → Int32)) => []) := by
  refine ka_E_of (cc := cX4_addAnswer) (maxL := 6) (ret := none) (by decide) rfl (Nat.le_of_ble_eq_true rfl) ?_
  intro p e s m below meth c ls A C hr hlk hin hP hK hD hS hA hE hN hl
  have C : CallFix p m c cX4_addAnswer 6 s [.ref a0, .int x0, .int x1, .int 0].toArray wsX4_addAnswer RX4 := C
  obtain ⟨hx, hb, hml, hown, hts⟩ := id C
  have hl : lv_has ls 6 [(0, .ref a0), (1, .int x0), (2, .int x1), (3, .int 0)] := hl
  have rx0 := ka_rng x0
  have rx1 := ka_rng x1
  have rx2 := ka_rng x2
  have rx3 := ka_rng x3
  have rx4 := ka_rng x4
  have rx5 := ka_rng x5
  have rx6 := ka_rng x6
  have rx7 := ka_rng x7
  rcases (show x0.toInt ≤ -1 ∨ (0 ≤ x0.toInt ∧ x0.toInt ≤ 31) ∨ 32 ≤ x0.toInt by omega) with y_20088 | y_20088 | y_20088
  · skip
    refine lv_iload_n hx hb dX4_addAnswer_0 rfl (lv_at hl 1 rfl) ?_
    refine ka_RN (n := 1) C (cg_X6_isCase_5 l D F x0 (by omega)) gX4_addAnswer_X6_isCase_n46 rfl hN.2.2.2.2.2.1 lq_42 lq_43 (by decide +kernel) ⟨Nat.le_of_ble_eq_true rfl, Nat.le_of_ble_eq_true rfl⟩ hK hP hS hE hN [] rfl [] rfl rfl hl.1 (rest := []) rfl (Nat.le_of_ble_eq_true rfl) dX4_addAnswer_1 ⟨Nat.le_of_ble_eq_true rfl, Nat.le_of_ble_eq_true rfl⟩ (fun v hv => ?_)
    subst hv
    refine ka_stk (w := [.int 0]) rfl ?_
    refine lv_if_ne (tgt := 8) hx hb dX4_addAnswer_4 (by decide) (fun c_ => absurd (by decide) c_) (fun _ => ?_)
    exact ka_rEv C hr hlk (Nat.le_of_ble_eq_true rfl) (Nat.le_of_ble_eq_true rfl) hS (ka_qE (x3, x4, x5, x6, x7, f0, f1) rfl trivial hK hP hD hS [0, 1, 2] (by decide) rfl [] rfl) dX4_addAnswer_7
  · skip
    refine lv_iload_n hx hb dX4_addAnswer_0 rfl (lv_at hl 1 rfl) ?_
    refine ka_RN (n := 1) C (cg_X6_isCase_6 l D F x0 ⟨by omega, by omega⟩) gX4_addAnswer_X6_isCase_n46 rfl hN.2.2.2.2.2.1 lq_42 lq_43 (by decide +kernel) ⟨Nat.le_of_ble_eq_true rfl, Nat.le_of_ble_eq_true rfl⟩ hK hP hS hE hN [] rfl [] rfl rfl hl.1 (rest := []) rfl (Nat.le_of_ble_eq_true rfl) dX4_addAnswer_1 ⟨Nat.le_of_ble_eq_true rfl, Nat.le_of_ble_eq_true rfl⟩ (fun v hv => ?_)
    subst hv
    refine ka_stk (w := [.int 1]) rfl ?_
    refine lv_if_ne (tgt := 8) hx hb dX4_addAnswer_4 (by decide) (fun _ => ?_) (fun c_ => absurd c_ (by decide))
    refine lv_aload_n hx hb dX4_addAnswer_8 rfl (lv_at hl 0 rfl) ?_
    refine ka_get C lq_44 rfl hK hP 0 rfl 4 (by decide) lq_45 rfl dX4_addAnswer_9 ?_
    refine lv_iload_n hx hb dX4_addAnswer_12 rfl (lv_at hl 1 rfl) ?_
    refine ka_RN (n := 2) C (ka_c_bitAt l D F x3 x0) gX4_addAnswer_X6_bitAt_n50 rfl hN.2.2.2.2.2.2.1 lq_42 lq_46 (by decide +kernel) ⟨Nat.le_of_ble_eq_true rfl, Nat.le_of_ble_eq_true rfl⟩ hK hP hS hE hN [] rfl [] rfl rfl hl.1 (rest := []) rfl (Nat.le_of_ble_eq_true rfl) dX4_addAnswer_13 ⟨Nat.le_of_ble_eq_true rfl, Nat.le_of_ble_eq_true rfl⟩ (fun v hv => ?_)
    subst hv
    refine ka_stk (w := .int (ka_bit x3 x0) :: []) rfl ?_
    refine lv_topi (fun v_20089 ev_20089 => ?_)
    have fv_20089 := ka_bit_in x3 x0; rw [← ev_20089] at fv_20089
    refine lv_if_ne (tgt := 23) hx hb dX4_addAnswer_16 (by decide) (fun c_20090 => ?_) (fun c_20090 => ?_)
    · have c_20090 : ¬ v_20089.toInt = 0 := by rw [ka_eq', show ((0 : Int32)).toInt = 0 from by decide] at c_20090; exact c_20090
      refine lv_iconst (v := 0) hx hb dX4_addAnswer_23 (by decide) ?_
      refine lv_istore (lv' := [(4, .int 0), (0, .ref a0), (1, .int x0), (2, .int x1), (3, .int 0)]) hx hb dX4_addAnswer_24 hl (by decide) rfl (fun ls hl => ?_)
      refine lv_iconst (v := 1) hx hb dX4_addAnswer_26 (by decide) ?_
      refine lv_iload_n hx hb dX4_addAnswer_27 rfl (lv_at hl 2 rfl) ?_
      refine lv_ishl hx hb dX4_addAnswer_28 ?_
      refine lv_topi (fun v_20091 ev_20091 => ?_)
      refine lv_istore (lv' := [(5, .int v_20091), (4, .int 0), (0, .ref a0), (1, .int x0), (2, .int x1), (3, .int 0)]) hx hb dX4_addAnswer_29 hl (by decide) rfl (fun ls hl => ?_)
      refine lv_aload_n hx hb dX4_addAnswer_31 rfl (lv_at hl 2 rfl) ?_
      refine lv_dup hx hb dX4_addAnswer_32 rfl ?_
      refine ka_get C lq_44 rfl hK hP 0 rfl 4 (by decide) lq_45 rfl dX4_addAnswer_33 ?_
      refine lv_iload hx hb dX4_addAnswer_36 (lv_at hl 0 rfl) ?_
      refine lv_ior hx hb dX4_addAnswer_38 ?_
      refine lv_topi (fun v_20092 ev_20092 => ?_)
      refine ka_put C lq_44 tyX4 tyX4_ok nmX4 rfl hK hP hD hS 0 rfl 4 (by decide) lq_45 rfl rfl rfl (Nat.le_of_ble_eq_true rfl) dX4_addAnswer_39 (fun H locs hP hD hS => ?_)
      have hP : va_P D vwCl [(a0, .inr (4, [.ref a1, .ref a2, .ref a3, .int x2, .int v_20092, .int x4, .int x5, .int x6, .int x7])), (a1, .inl (k0, 32, .inl f0)), (a2, .inl (k1, 32, .inl f1))] H := hP
      have hD : va_D A [(a0, .inr (4, [.ref a1, .ref a2, .ref a3, .int x2, .int v_20092, .int x4, .int x5, .int x6, .int x7])), (a1, .inl (k0, 32, .inl f0)), (a2, .inl (k1, 32, .inl f1))] := hD
      refine lv_iload_n hx hb dX4_addAnswer_42 rfl (lv_at hl 4 rfl) ?_
      refine lv_iconst (v := 1) hx hb dX4_addAnswer_43 (by decide) ?_
      refine lv_icmp_ne (tgt := 71) hx hb dX4_addAnswer_44 (by decide) (fun c_20093 => ?_) (fun c_20093 => ?_)
      · have c_20093 : ¬ x1.toInt = 1 := by rw [ka_eq', show ((1 : Int32)).toInt = 1 from by decide] at c_20093; exact c_20093
        refine lv_aload_n hx hb dX4_addAnswer_71 rfl (lv_at hl 2 rfl) ?_
        refine ka_get C lq_44 rfl hK hP 0 rfl 0 (by decide) lq_47 rfl dX4_addAnswer_72 ?_
        refine lv_iload_n hx hb dX4_addAnswer_75 rfl (lv_at hl 3 rfl) ?_
        refine lv_dup2_11 hx hb dX4_addAnswer_76 rfl rfl ?_
        refine va_iald hx hb hK hP 1 0 rfl rfl (ka_in (by omega) (by omega)) dX4_addAnswer_77 ?_
        refine lv_topi (fun v_20094 ev_20094 => ?_)
        refine lv_iconst (v := 1) hx hb dX4_addAnswer_78 (by decide) ?_
        refine lv_iadd hx hb dX4_addAnswer_79 ?_
        refine lv_topi (fun v_20095 ev_20095 => ?_)
        refine va_iast hx hb hK hP hD hS 1 0 rfl rfl (ka_in (by omega) (by omega)) dX4_addAnswer_80 (fun H locs hP hD hS => ?_)
        have hP : va_P D vwCl [(a0, .inr (4, [.ref a1, .ref a2, .ref a3, .int x2, .int v_20092, .int x4, .int x5, .int x6, .int x7])), (a1, .inl (k0, 32, .inl (upd f0 (Int32.toNatClampNeg x0) v_20095))), (a2, .inl (k1, 32, .inl f1))] H := hP
        have hD : va_D A [(a0, .inr (4, [.ref a1, .ref a2, .ref a3, .int x2, .int v_20092, .int x4, .int x5, .int x6, .int x7])), (a1, .inl (k0, 32, .inl (upd f0 (Int32.toNatClampNeg x0) v_20095))), (a2, .inl (k1, 32, .inl f1))] := hD
        generalize (upd f0 (Int32.toNatClampNeg x0) v_20095) = g_20096 at hP hD
        refine lv_aload_n hx hb dX4_addAnswer_81 rfl (lv_at hl 2 rfl) ?_
        refine lv_dup hx hb dX4_addAnswer_82 rfl ?_
        refine ka_get C lq_44 rfl hK hP 0 rfl 5 (by decide) lq_48 rfl dX4_addAnswer_83 ?_
        refine lv_iload hx hb dX4_addAnswer_86 (lv_at hl 0 rfl) ?_
        refine lv_iconst (v := (-1)) hx hb dX4_addAnswer_88 (by decide) ?_
        refine lv_ixor hx hb dX4_addAnswer_89 ?_
        refine lv_topi (fun v_20097 ev_20097 => ?_)
        refine lv_iand hx hb dX4_addAnswer_90 ?_
        refine lv_topi (fun v_20098 ev_20098 => ?_)
        refine ka_put C lq_44 tyX4 tyX4_ok nmX4 rfl hK hP hD hS 0 rfl 5 (by decide) lq_48 rfl rfl rfl (Nat.le_of_ble_eq_true rfl) dX4_addAnswer_91 (fun H locs hP hD hS => ?_)
        have hP : va_P D vwCl [(a0, .inr (4, [.ref a1, .ref a2, .ref a3, .int x2, .int v_20092, .int v_20098, .int x5, .int x6, .int x7])), (a1, .inl (k0, 32, .inl g_20096)), (a2, .inl (k1, 32, .inl f1))] H := hP
        have hD : va_D A [(a0, .inr (4, [.ref a1, .ref a2, .ref a3, .int x2, .int v_20092, .int v_20098, .int x5, .int x6, .int x7])), (a1, .inl (k0, 32, .inl g_20096)), (a2, .inl (k1, 32, .inl f1))] := hD
        refine lv_aload_n hx hb dX4_addAnswer_94 rfl (lv_at hl 2 rfl) ?_
        refine lv_dup hx hb dX4_addAnswer_95 rfl ?_
        refine ka_get C lq_44 rfl hK hP 0 rfl 6 (by decide) lq_49 rfl dX4_addAnswer_96 ?_
        refine lv_iconst (v := 1) hx hb dX4_addAnswer_99 (by decide) ?_
        refine lv_iadd hx hb dX4_addAnswer_100 ?_
        refine lv_topi (fun v_20099 ev_20099 => ?_)
        refine ka_put C lq_44 tyX4 tyX4_ok nmX4 rfl hK hP hD hS 0 rfl 6 (by decide) lq_49 rfl rfl rfl (Nat.le_of_ble_eq_true rfl) dX4_addAnswer_101 (fun H locs hP hD hS => ?_)
        have hP : va_P D vwCl [(a0, .inr (4, [.ref a1, .ref a2, .ref a3, .int x2, .int v_20092, .int v_20098, .int v_20099, .int x6, .int x7])), (a1, .inl (k0, 32, .inl g_20096)), (a2, .inl (k1, 32, .inl f1))] H := hP
        have hD : va_D A [(a0, .inr (4, [.ref a1, .ref a2, .ref a3, .int x2, .int v_20092, .int v_20098, .int v_20099, .int x6, .int x7])), (a1, .inl (k0, 32, .inl g_20096)), (a2, .inl (k1, 32, .inl f1))] := hD
        refine lv_aload_n hx hb dX4_addAnswer_104 rfl (lv_at hl 2 rfl) ?_
        refine lv_dup hx hb dX4_addAnswer_105 rfl ?_
        refine ka_get C lq_44 rfl hK hP 0 rfl 7 (by decide) lq_50 rfl dX4_addAnswer_106 ?_
        refine lv_iload_n hx hb dX4_addAnswer_109 rfl (lv_at hl 5 rfl) ?_
        refine lv_if_eq (tgt := 117) hx hb dX4_addAnswer_110 (by decide) (fun _ => ?_) (fun c_ => absurd (by decide) c_)
        refine lv_iconst (v := 0) hx hb dX4_addAnswer_117 (by decide) ?_
        refine lv_iadd hx hb dX4_addAnswer_118 ?_
        refine lv_topi (fun v_20100 ev_20100 => ?_)
        have fv_20100 : v_20100.toInt = x6.toInt + 0 := by rw [ev_20100]; exact ka_add (x := x6.toInt) (y := 0) rfl (by decide) (by omega) (by omega)
        refine ka_put C lq_44 tyX4 tyX4_ok nmX4 rfl hK hP hD hS 0 rfl 7 (by decide) lq_50 rfl rfl rfl (Nat.le_of_ble_eq_true rfl) dX4_addAnswer_119 (fun H locs hP hD hS => ?_)
        have hP : va_P D vwCl [(a0, .inr (4, [.ref a1, .ref a2, .ref a3, .int x2, .int v_20092, .int v_20098, .int v_20099, .int v_20100, .int x7])), (a1, .inl (k0, 32, .inl g_20096)), (a2, .inl (k1, 32, .inl f1))] H := hP
        have hD : va_D A [(a0, .inr (4, [.ref a1, .ref a2, .ref a3, .int x2, .int v_20092, .int v_20098, .int v_20099, .int v_20100, .int x7])), (a1, .inl (k0, 32, .inl g_20096)), (a2, .inl (k1, 32, .inl f1))] := hD
        refine lv_aload_n hx hb dX4_addAnswer_122 rfl (lv_at hl 2 rfl) ?_
        refine lv_iload_n hx hb dX4_addAnswer_123 rfl (lv_at hl 5 rfl) ?_
        refine lv_if_eq (tgt := 141) hx hb dX4_addAnswer_124 (by decide) (fun _ => ?_) (fun c_ => absurd (by decide) c_)
        refine lv_iconst (v := 0) hx hb dX4_addAnswer_141 (by decide) ?_
        refine ka_put C lq_44 tyX4 tyX4_ok nmX4 rfl hK hP hD hS 0 rfl 8 (by decide) lq_51 rfl rfl rfl (Nat.le_of_ble_eq_true rfl) dX4_addAnswer_142 (fun H locs hP hD hS => ?_)
        have hP : va_P D vwCl [(a0, .inr (4, [.ref a1, .ref a2, .ref a3, .int x2, .int v_20092, .int v_20098, .int v_20099, .int v_20100, .int 0])), (a1, .inl (k0, 32, .inl g_20096)), (a2, .inl (k1, 32, .inl f1))] H := hP
        have hD : va_D A [(a0, .inr (4, [.ref a1, .ref a2, .ref a3, .int x2, .int v_20092, .int v_20098, .int v_20099, .int v_20100, .int 0])), (a1, .inl (k0, 32, .inl g_20096)), (a2, .inl (k1, 32, .inl f1))] := hD
        exact ka_rEv C hr hlk (Nat.le_of_ble_eq_true rfl) (Nat.le_of_ble_eq_true rfl) hS (ka_qE (v_20092, v_20098, v_20099, v_20100, 0, g_20096, f1) rfl trivial hK hP hD hS [0, 1, 2] (by decide) rfl [] rfl) dX4_addAnswer_145
      · have c_20093 : x1.toInt = 1 := by rw [ka_eq', show ((1 : Int32)).toInt = 1 from by decide] at c_20093; exact c_20093
        refine lv_aload_n hx hb dX4_addAnswer_47 rfl (lv_at hl 2 rfl) ?_
        refine ka_get C lq_44 rfl hK hP 0 rfl 1 (by decide) lq_52 rfl dX4_addAnswer_48 ?_
        refine lv_iload_n hx hb dX4_addAnswer_51 rfl (lv_at hl 3 rfl) ?_
        refine lv_dup2_11 hx hb dX4_addAnswer_52 rfl rfl ?_
        refine va_iald hx hb hK hP 2 1 rfl rfl (ka_in (by omega) (by omega)) dX4_addAnswer_53 ?_
        refine lv_topi (fun v_20101 ev_20101 => ?_)
        refine lv_iconst (v := 1) hx hb dX4_addAnswer_54 (by decide) ?_
        refine lv_iadd hx hb dX4_addAnswer_55 ?_
        refine lv_topi (fun v_20102 ev_20102 => ?_)
        refine va_iast hx hb hK hP hD hS 2 1 rfl rfl (ka_in (by omega) (by omega)) dX4_addAnswer_56 (fun H locs hP hD hS => ?_)
        have hP : va_P D vwCl [(a0, .inr (4, [.ref a1, .ref a2, .ref a3, .int x2, .int v_20092, .int x4, .int x5, .int x6, .int x7])), (a1, .inl (k0, 32, .inl f0)), (a2, .inl (k1, 32, .inl (upd f1 (Int32.toNatClampNeg x0) v_20102)))] H := hP
        have hD : va_D A [(a0, .inr (4, [.ref a1, .ref a2, .ref a3, .int x2, .int v_20092, .int x4, .int x5, .int x6, .int x7])), (a1, .inl (k0, 32, .inl f0)), (a2, .inl (k1, 32, .inl (upd f1 (Int32.toNatClampNeg x0) v_20102)))] := hD
        generalize (upd f1 (Int32.toNatClampNeg x0) v_20102) = g_20103 at hP hD
        refine lv_aload_n hx hb dX4_addAnswer_57 rfl (lv_at hl 2 rfl) ?_
        refine lv_dup hx hb dX4_addAnswer_58 rfl ?_
        refine ka_get C lq_44 rfl hK hP 0 rfl 5 (by decide) lq_48 rfl dX4_addAnswer_59 ?_
        refine lv_iload hx hb dX4_addAnswer_62 (lv_at hl 0 rfl) ?_
        refine lv_ior hx hb dX4_addAnswer_64 ?_
        refine lv_topi (fun v_20104 ev_20104 => ?_)
        refine ka_put C lq_44 tyX4 tyX4_ok nmX4 rfl hK hP hD hS 0 rfl 5 (by decide) lq_48 rfl rfl rfl (Nat.le_of_ble_eq_true rfl) dX4_addAnswer_65 (fun H locs hP hD hS => ?_)
        have hP : va_P D vwCl [(a0, .inr (4, [.ref a1, .ref a2, .ref a3, .int x2, .int v_20092, .int v_20104, .int x5, .int x6, .int x7])), (a1, .inl (k0, 32, .inl f0)), (a2, .inl (k1, 32, .inl g_20103))] H := hP
        have hD : va_D A [(a0, .inr (4, [.ref a1, .ref a2, .ref a3, .int x2, .int v_20092, .int v_20104, .int x5, .int x6, .int x7])), (a1, .inl (k0, 32, .inl f0)), (a2, .inl (k1, 32, .inl g_20103))] := hD
        refine lv_goto (tgt := 94) hx hb dX4_addAnswer_68 (by decide) ?_
        refine lv_aload_n hx hb dX4_addAnswer_94 rfl (lv_at hl 2 rfl) ?_
        refine lv_dup hx hb dX4_addAnswer_95 rfl ?_
        refine ka_get C lq_44 rfl hK hP 0 rfl 6 (by decide) lq_49 rfl dX4_addAnswer_96 ?_
        refine lv_iconst (v := 1) hx hb dX4_addAnswer_99 (by decide) ?_
        refine lv_iadd hx hb dX4_addAnswer_100 ?_
        refine lv_topi (fun v_20105 ev_20105 => ?_)
        refine ka_put C lq_44 tyX4 tyX4_ok nmX4 rfl hK hP hD hS 0 rfl 6 (by decide) lq_49 rfl rfl rfl (Nat.le_of_ble_eq_true rfl) dX4_addAnswer_101 (fun H locs hP hD hS => ?_)
        have hP : va_P D vwCl [(a0, .inr (4, [.ref a1, .ref a2, .ref a3, .int x2, .int v_20092, .int v_20104, .int v_20105, .int x6, .int x7])), (a1, .inl (k0, 32, .inl f0)), (a2, .inl (k1, 32, .inl g_20103))] H := hP
        have hD : va_D A [(a0, .inr (4, [.ref a1, .ref a2, .ref a3, .int x2, .int v_20092, .int v_20104, .int v_20105, .int x6, .int x7])), (a1, .inl (k0, 32, .inl f0)), (a2, .inl (k1, 32, .inl g_20103))] := hD
        refine lv_aload_n hx hb dX4_addAnswer_104 rfl (lv_at hl 2 rfl) ?_
        refine lv_dup hx hb dX4_addAnswer_105 rfl ?_
        refine ka_get C lq_44 rfl hK hP 0 rfl 7 (by decide) lq_50 rfl dX4_addAnswer_106 ?_
        refine lv_iload_n hx hb dX4_addAnswer_109 rfl (lv_at hl 5 rfl) ?_
        refine lv_if_eq (tgt := 117) hx hb dX4_addAnswer_110 (by decide) (fun _ => ?_) (fun c_ => absurd (by decide) c_)
        refine lv_iconst (v := 0) hx hb dX4_addAnswer_117 (by decide) ?_
        refine lv_iadd hx hb dX4_addAnswer_118 ?_
        refine lv_topi (fun v_20106 ev_20106 => ?_)
        have fv_20106 : v_20106.toInt = x6.toInt + 0 := by rw [ev_20106]; exact ka_add (x := x6.toInt) (y := 0) rfl (by decide) (by omega) (by omega)
        refine ka_put C lq_44 tyX4 tyX4_ok nmX4 rfl hK hP hD hS 0 rfl 7 (by decide) lq_50 rfl rfl rfl (Nat.le_of_ble_eq_true rfl) dX4_addAnswer_119 (fun H locs hP hD hS => ?_)
        have hP : va_P D vwCl [(a0, .inr (4, [.ref a1, .ref a2, .ref a3, .int x2, .int v_20092, .int v_20104, .int v_20105, .int v_20106, .int x7])), (a1, .inl (k0, 32, .inl f0)), (a2, .inl (k1, 32, .inl g_20103))] H := hP
        have hD : va_D A [(a0, .inr (4, [.ref a1, .ref a2, .ref a3, .int x2, .int v_20092, .int v_20104, .int v_20105, .int v_20106, .int x7])), (a1, .inl (k0, 32, .inl f0)), (a2, .inl (k1, 32, .inl g_20103))] := hD
        refine lv_aload_n hx hb dX4_addAnswer_122 rfl (lv_at hl 2 rfl) ?_
        refine lv_iload_n hx hb dX4_addAnswer_123 rfl (lv_at hl 5 rfl) ?_
        refine lv_if_eq (tgt := 141) hx hb dX4_addAnswer_124 (by decide) (fun _ => ?_) (fun c_ => absurd (by decide) c_)
        refine lv_iconst (v := 0) hx hb dX4_addAnswer_141 (by decide) ?_
        refine ka_put C lq_44 tyX4 tyX4_ok nmX4 rfl hK hP hD hS 0 rfl 8 (by decide) lq_51 rfl rfl rfl (Nat.le_of_ble_eq_true rfl) dX4_addAnswer_142 (fun H locs hP hD hS => ?_)
        have hP : va_P D vwCl [(a0, .inr (4, [.ref a1, .ref a2, .ref a3, .int x2, .int v_20092, .int v_20104, .int v_20105, .int v_20106, .int 0])), (a1, .inl (k0, 32, .inl f0)), (a2, .inl (k1, 32, .inl g_20103))] H := hP
        have hD : va_D A [(a0, .inr (4, [.ref a1, .ref a2, .ref a3, .int x2, .int v_20092, .int v_20104, .int v_20105, .int v_20106, .int 0])), (a1, .inl (k0, 32, .inl f0)), (a2, .inl (k1, 32, .inl g_20103))] := hD
        exact ka_rEv C hr hlk (Nat.le_of_ble_eq_true rfl) (Nat.le_of_ble_eq_true rfl) hS (ka_qE (v_20092, v_20104, v_20105, v_20106, 0, f0, g_20103) rfl trivial hK hP hD hS [0, 1, 2] (by decide) rfl [] rfl) dX4_addAnswer_145
    · have c_20090 : v_20089.toInt = 0 := by rw [ka_eq', show ((0 : Int32)).toInt = 0 from by decide] at c_20090; exact c_20090
      refine lv_iconst (v := 1) hx hb dX4_addAnswer_19 (by decide) ?_
      refine lv_goto (tgt := 24) hx hb dX4_addAnswer_20 (by decide) ?_
      refine lv_istore (lv' := [(4, .int 1), (0, .ref a0), (1, .int x0), (2, .int x1), (3, .int 0)]) hx hb dX4_addAnswer_24 hl (by decide) rfl (fun ls hl => ?_)
      refine lv_iconst (v := 1) hx hb dX4_addAnswer_26 (by decide) ?_
      refine lv_iload_n hx hb dX4_addAnswer_27 rfl (lv_at hl 2 rfl) ?_
      refine lv_ishl hx hb dX4_addAnswer_28 ?_
      refine lv_topi (fun v_20107 ev_20107 => ?_)
      refine lv_istore (lv' := [(5, .int v_20107), (4, .int 1), (0, .ref a0), (1, .int x0), (2, .int x1), (3, .int 0)]) hx hb dX4_addAnswer_29 hl (by decide) rfl (fun ls hl => ?_)
      refine lv_aload_n hx hb dX4_addAnswer_31 rfl (lv_at hl 2 rfl) ?_
      refine lv_dup hx hb dX4_addAnswer_32 rfl ?_
      refine ka_get C lq_44 rfl hK hP 0 rfl 4 (by decide) lq_45 rfl dX4_addAnswer_33 ?_
      refine lv_iload hx hb dX4_addAnswer_36 (lv_at hl 0 rfl) ?_
      refine lv_ior hx hb dX4_addAnswer_38 ?_
      refine lv_topi (fun v_20108 ev_20108 => ?_)
      refine ka_put C lq_44 tyX4 tyX4_ok nmX4 rfl hK hP hD hS 0 rfl 4 (by decide) lq_45 rfl rfl rfl (Nat.le_of_ble_eq_true rfl) dX4_addAnswer_39 (fun H locs hP hD hS => ?_)
      have hP : va_P D vwCl [(a0, .inr (4, [.ref a1, .ref a2, .ref a3, .int x2, .int v_20108, .int x4, .int x5, .int x6, .int x7])), (a1, .inl (k0, 32, .inl f0)), (a2, .inl (k1, 32, .inl f1))] H := hP
      have hD : va_D A [(a0, .inr (4, [.ref a1, .ref a2, .ref a3, .int x2, .int v_20108, .int x4, .int x5, .int x6, .int x7])), (a1, .inl (k0, 32, .inl f0)), (a2, .inl (k1, 32, .inl f1))] := hD
      refine lv_iload_n hx hb dX4_addAnswer_42 rfl (lv_at hl 4 rfl) ?_
      refine lv_iconst (v := 1) hx hb dX4_addAnswer_43 (by decide) ?_
      refine lv_icmp_ne (tgt := 71) hx hb dX4_addAnswer_44 (by decide) (fun c_20109 => ?_) (fun c_20109 => ?_)
      · have c_20109 : ¬ x1.toInt = 1 := by rw [ka_eq', show ((1 : Int32)).toInt = 1 from by decide] at c_20109; exact c_20109
        refine lv_aload_n hx hb dX4_addAnswer_71 rfl (lv_at hl 2 rfl) ?_
        refine ka_get C lq_44 rfl hK hP 0 rfl 0 (by decide) lq_47 rfl dX4_addAnswer_72 ?_
        refine lv_iload_n hx hb dX4_addAnswer_75 rfl (lv_at hl 3 rfl) ?_
        refine lv_dup2_11 hx hb dX4_addAnswer_76 rfl rfl ?_
        refine va_iald hx hb hK hP 1 0 rfl rfl (ka_in (by omega) (by omega)) dX4_addAnswer_77 ?_
        refine lv_topi (fun v_20110 ev_20110 => ?_)
        refine lv_iconst (v := 1) hx hb dX4_addAnswer_78 (by decide) ?_
        refine lv_iadd hx hb dX4_addAnswer_79 ?_
        refine lv_topi (fun v_20111 ev_20111 => ?_)
        refine va_iast hx hb hK hP hD hS 1 0 rfl rfl (ka_in (by omega) (by omega)) dX4_addAnswer_80 (fun H locs hP hD hS => ?_)
        have hP : va_P D vwCl [(a0, .inr (4, [.ref a1, .ref a2, .ref a3, .int x2, .int v_20108, .int x4, .int x5, .int x6, .int x7])), (a1, .inl (k0, 32, .inl (upd f0 (Int32.toNatClampNeg x0) v_20111))), (a2, .inl (k1, 32, .inl f1))] H := hP
        have hD : va_D A [(a0, .inr (4, [.ref a1, .ref a2, .ref a3, .int x2, .int v_20108, .int x4, .int x5, .int x6, .int x7])), (a1, .inl (k0, 32, .inl (upd f0 (Int32.toNatClampNeg x0) v_20111))), (a2, .inl (k1, 32, .inl f1))] := hD
        generalize (upd f0 (Int32.toNatClampNeg x0) v_20111) = g_20112 at hP hD
        refine lv_aload_n hx hb dX4_addAnswer_81 rfl (lv_at hl 2 rfl) ?_
        refine lv_dup hx hb dX4_addAnswer_82 rfl ?_
        refine ka_get C lq_44 rfl hK hP 0 rfl 5 (by decide) lq_48 rfl dX4_addAnswer_83 ?_
        refine lv_iload hx hb dX4_addAnswer_86 (lv_at hl 0 rfl) ?_
        refine lv_iconst (v := (-1)) hx hb dX4_addAnswer_88 (by decide) ?_
        refine lv_ixor hx hb dX4_addAnswer_89 ?_
        refine lv_topi (fun v_20113 ev_20113 => ?_)
        refine lv_iand hx hb dX4_addAnswer_90 ?_
        refine lv_topi (fun v_20114 ev_20114 => ?_)
        refine ka_put C lq_44 tyX4 tyX4_ok nmX4 rfl hK hP hD hS 0 rfl 5 (by decide) lq_48 rfl rfl rfl (Nat.le_of_ble_eq_true rfl) dX4_addAnswer_91 (fun H locs hP hD hS => ?_)
        have hP : va_P D vwCl [(a0, .inr (4, [.ref a1, .ref a2, .ref a3, .int x2, .int v_20108, .int v_20114, .int x5, .int x6, .int x7])), (a1, .inl (k0, 32, .inl g_20112)), (a2, .inl (k1, 32, .inl f1))] H := hP
        have hD : va_D A [(a0, .inr (4, [.ref a1, .ref a2, .ref a3, .int x2, .int v_20108, .int v_20114, .int x5, .int x6, .int x7])), (a1, .inl (k0, 32, .inl g_20112)), (a2, .inl (k1, 32, .inl f1))] := hD
        refine lv_aload_n hx hb dX4_addAnswer_94 rfl (lv_at hl 2 rfl) ?_
        refine lv_dup hx hb dX4_addAnswer_95 rfl ?_
        refine ka_get C lq_44 rfl hK hP 0 rfl 6 (by decide) lq_49 rfl dX4_addAnswer_96 ?_
        refine lv_iconst (v := 1) hx hb dX4_addAnswer_99 (by decide) ?_
        refine lv_iadd hx hb dX4_addAnswer_100 ?_
        refine lv_topi (fun v_20115 ev_20115 => ?_)
        refine ka_put C lq_44 tyX4 tyX4_ok nmX4 rfl hK hP hD hS 0 rfl 6 (by decide) lq_49 rfl rfl rfl (Nat.le_of_ble_eq_true rfl) dX4_addAnswer_101 (fun H locs hP hD hS => ?_)
        have hP : va_P D vwCl [(a0, .inr (4, [.ref a1, .ref a2, .ref a3, .int x2, .int v_20108, .int v_20114, .int v_20115, .int x6, .int x7])), (a1, .inl (k0, 32, .inl g_20112)), (a2, .inl (k1, 32, .inl f1))] H := hP
        have hD : va_D A [(a0, .inr (4, [.ref a1, .ref a2, .ref a3, .int x2, .int v_20108, .int v_20114, .int v_20115, .int x6, .int x7])), (a1, .inl (k0, 32, .inl g_20112)), (a2, .inl (k1, 32, .inl f1))] := hD
        refine lv_aload_n hx hb dX4_addAnswer_104 rfl (lv_at hl 2 rfl) ?_
        refine lv_dup hx hb dX4_addAnswer_105 rfl ?_
        refine ka_get C lq_44 rfl hK hP 0 rfl 7 (by decide) lq_50 rfl dX4_addAnswer_106 ?_
        refine lv_iload_n hx hb dX4_addAnswer_109 rfl (lv_at hl 5 rfl) ?_
        refine lv_if_eq (tgt := 117) hx hb dX4_addAnswer_110 (by decide) (fun _ => ?_) (fun c_ => absurd (by decide) c_)
        refine lv_iconst (v := 0) hx hb dX4_addAnswer_117 (by decide) ?_
        refine lv_iadd hx hb dX4_addAnswer_118 ?_
        refine lv_topi (fun v_20116 ev_20116 => ?_)
        have fv_20116 : v_20116.toInt = x6.toInt + 0 := by rw [ev_20116]; exact ka_add (x := x6.toInt) (y := 0) rfl (by decide) (by omega) (by omega)
        refine ka_put C lq_44 tyX4 tyX4_ok nmX4 rfl hK hP hD hS 0 rfl 7 (by decide) lq_50 rfl rfl rfl (Nat.le_of_ble_eq_true rfl) dX4_addAnswer_119 (fun H locs hP hD hS => ?_)
        have hP : va_P D vwCl [(a0, .inr (4, [.ref a1, .ref a2, .ref a3, .int x2, .int v_20108, .int v_20114, .int v_20115, .int v_20116, .int x7])), (a1, .inl (k0, 32, .inl g_20112)), (a2, .inl (k1, 32, .inl f1))] H := hP
        have hD : va_D A [(a0, .inr (4, [.ref a1, .ref a2, .ref a3, .int x2, .int v_20108, .int v_20114, .int v_20115, .int v_20116, .int x7])), (a1, .inl (k0, 32, .inl g_20112)), (a2, .inl (k1, 32, .inl f1))] := hD
        refine lv_aload_n hx hb dX4_addAnswer_122 rfl (lv_at hl 2 rfl) ?_
        refine lv_iload_n hx hb dX4_addAnswer_123 rfl (lv_at hl 5 rfl) ?_
        refine lv_if_eq (tgt := 141) hx hb dX4_addAnswer_124 (by decide) (fun _ => ?_) (fun c_ => absurd (by decide) c_)
        refine lv_iconst (v := 0) hx hb dX4_addAnswer_141 (by decide) ?_
        refine ka_put C lq_44 tyX4 tyX4_ok nmX4 rfl hK hP hD hS 0 rfl 8 (by decide) lq_51 rfl rfl rfl (Nat.le_of_ble_eq_true rfl) dX4_addAnswer_142 (fun H locs hP hD hS => ?_)
        have hP : va_P D vwCl [(a0, .inr (4, [.ref a1, .ref a2, .ref a3, .int x2, .int v_20108, .int v_20114, .int v_20115, .int v_20116, .int 0])), (a1, .inl (k0, 32, .inl g_20112)), (a2, .inl (k1, 32, .inl f1))] H := hP
        have hD : va_D A [(a0, .inr (4, [.ref a1, .ref a2, .ref a3, .int x2, .int v_20108, .int v_20114, .int v_20115, .int v_20116, .int 0])), (a1, .inl (k0, 32, .inl g_20112)), (a2, .inl (k1, 32, .inl f1))] := hD
        exact ka_rEv C hr hlk (Nat.le_of_ble_eq_true rfl) (Nat.le_of_ble_eq_true rfl) hS (ka_qE (v_20108, v_20114, v_20115, v_20116, 0, g_20112, f1) rfl trivial hK hP hD hS [0, 1, 2] (by decide) rfl [] rfl) dX4_addAnswer_145
      · have c_20109 : x1.toInt = 1 := by rw [ka_eq', show ((1 : Int32)).toInt = 1 from by decide] at c_20109; exact c_20109
        refine lv_aload_n hx hb dX4_addAnswer_47 rfl (lv_at hl 2 rfl) ?_
        refine ka_get C lq_44 rfl hK hP 0 rfl 1 (by decide) lq_52 rfl dX4_addAnswer_48 ?_
        refine lv_iload_n hx hb dX4_addAnswer_51 rfl (lv_at hl 3 rfl) ?_
        refine lv_dup2_11 hx hb dX4_addAnswer_52 rfl rfl ?_
        refine va_iald hx hb hK hP 2 1 rfl rfl (ka_in (by omega) (by omega)) dX4_addAnswer_53 ?_
        refine lv_topi (fun v_20117 ev_20117 => ?_)
        refine lv_iconst (v := 1) hx hb dX4_addAnswer_54 (by decide) ?_
        refine lv_iadd hx hb dX4_addAnswer_55 ?_
        refine lv_topi (fun v_20118 ev_20118 => ?_)
        refine va_iast hx hb hK hP hD hS 2 1 rfl rfl (ka_in (by omega) (by omega)) dX4_addAnswer_56 (fun H locs hP hD hS => ?_)
        have hP : va_P D vwCl [(a0, .inr (4, [.ref a1, .ref a2, .ref a3, .int x2, .int v_20108, .int x4, .int x5, .int x6, .int x7])), (a1, .inl (k0, 32, .inl f0)), (a2, .inl (k1, 32, .inl (upd f1 (Int32.toNatClampNeg x0) v_20118)))] H := hP
        have hD : va_D A [(a0, .inr (4, [.ref a1, .ref a2, .ref a3, .int x2, .int v_20108, .int x4, .int x5, .int x6, .int x7])), (a1, .inl (k0, 32, .inl f0)), (a2, .inl (k1, 32, .inl (upd f1 (Int32.toNatClampNeg x0) v_20118)))] := hD
        generalize (upd f1 (Int32.toNatClampNeg x0) v_20118) = g_20119 at hP hD
        refine lv_aload_n hx hb dX4_addAnswer_57 rfl (lv_at hl 2 rfl) ?_
        refine lv_dup hx hb dX4_addAnswer_58 rfl ?_
        refine ka_get C lq_44 rfl hK hP 0 rfl 5 (by decide) lq_48 rfl dX4_addAnswer_59 ?_
        refine lv_iload hx hb dX4_addAnswer_62 (lv_at hl 0 rfl) ?_
        refine lv_ior hx hb dX4_addAnswer_64 ?_
        refine lv_topi (fun v_20120 ev_20120 => ?_)
        refine ka_put C lq_44 tyX4 tyX4_ok nmX4 rfl hK hP hD hS 0 rfl 5 (by decide) lq_48 rfl rfl rfl (Nat.le_of_ble_eq_true rfl) dX4_addAnswer_65 (fun H locs hP hD hS => ?_)
        have hP : va_P D vwCl [(a0, .inr (4, [.ref a1, .ref a2, .ref a3, .int x2, .int v_20108, .int v_20120, .int x5, .int x6, .int x7])), (a1, .inl (k0, 32, .inl f0)), (a2, .inl (k1, 32, .inl g_20119))] H := hP
        have hD : va_D A [(a0, .inr (4, [.ref a1, .ref a2, .ref a3, .int x2, .int v_20108, .int v_20120, .int x5, .int x6, .int x7])), (a1, .inl (k0, 32, .inl f0)), (a2, .inl (k1, 32, .inl g_20119))] := hD
        refine lv_goto (tgt := 94) hx hb dX4_addAnswer_68 (by decide) ?_
        refine lv_aload_n hx hb dX4_addAnswer_94 rfl (lv_at hl 2 rfl) ?_
        refine lv_dup hx hb dX4_addAnswer_95 rfl ?_
        refine ka_get C lq_44 rfl hK hP 0 rfl 6 (by decide) lq_49 rfl dX4_addAnswer_96 ?_
        refine lv_iconst (v := 1) hx hb dX4_addAnswer_99 (by decide) ?_
        refine lv_iadd hx hb dX4_addAnswer_100 ?_
        refine lv_topi (fun v_20121 ev_20121 => ?_)
        refine ka_put C lq_44 tyX4 tyX4_ok nmX4 rfl hK hP hD hS 0 rfl 6 (by decide) lq_49 rfl rfl rfl (Nat.le_of_ble_eq_true rfl) dX4_addAnswer_101 (fun H locs hP hD hS => ?_)
        have hP : va_P D vwCl [(a0, .inr (4, [.ref a1, .ref a2, .ref a3, .int x2, .int v_20108, .int v_20120, .int v_20121, .int x6, .int x7])), (a1, .inl (k0, 32, .inl f0)), (a2, .inl (k1, 32, .inl g_20119))] H := hP
        have hD : va_D A [(a0, .inr (4, [.ref a1, .ref a2, .ref a3, .int x2, .int v_20108, .int v_20120, .int v_20121, .int x6, .int x7])), (a1, .inl (k0, 32, .inl f0)), (a2, .inl (k1, 32, .inl g_20119))] := hD
        refine lv_aload_n hx hb dX4_addAnswer_104 rfl (lv_at hl 2 rfl) ?_
        refine lv_dup hx hb dX4_addAnswer_105 rfl ?_
        refine ka_get C lq_44 rfl hK hP 0 rfl 7 (by decide) lq_50 rfl dX4_addAnswer_106 ?_
        refine lv_iload_n hx hb dX4_addAnswer_109 rfl (lv_at hl 5 rfl) ?_
        refine lv_if_eq (tgt := 117) hx hb dX4_addAnswer_110 (by decide) (fun _ => ?_) (fun c_ => absurd (by decide) c_)
        refine lv_iconst (v := 0) hx hb dX4_addAnswer_117 (by decide) ?_
        refine lv_iadd hx hb dX4_addAnswer_118 ?_
        refine lv_topi (fun v_20122 ev_20122 => ?_)
        have fv_20122 : v_20122.toInt = x6.toInt + 0 := by rw [ev_20122]; exact ka_add (x := x6.toInt) (y := 0) rfl (by decide) (by omega) (by omega)
        refine ka_put C lq_44 tyX4 tyX4_ok nmX4 rfl hK hP hD hS 0 rfl 7 (by decide) lq_50 rfl rfl rfl (Nat.le_of_ble_eq_true rfl) dX4_addAnswer_119 (fun H locs hP hD hS => ?_)
        have hP : va_P D vwCl [(a0, .inr (4, [.ref a1, .ref a2, .ref a3, .int x2, .int v_20108, .int v_20120, .int v_20121, .int v_20122, .int x7])), (a1, .inl (k0, 32, .inl f0)), (a2, .inl (k1, 32, .inl g_20119))] H := hP
        have hD : va_D A [(a0, .inr (4, [.ref a1, .ref a2, .ref a3, .int x2, .int v_20108, .int v_20120, .int v_20121, .int v_20122, .int x7])), (a1, .inl (k0, 32, .inl f0)), (a2, .inl (k1, 32, .inl g_20119))] := hD
        refine lv_aload_n hx hb dX4_addAnswer_122 rfl (lv_at hl 2 rfl) ?_
        refine lv_iload_n hx hb dX4_addAnswer_123 rfl (lv_at hl 5 rfl) ?_
        refine lv_if_eq (tgt := 141) hx hb dX4_addAnswer_124 (by decide) (fun _ => ?_) (fun c_ => absurd (by decide) c_)
        refine lv_iconst (v := 0) hx hb dX4_addAnswer_141 (by decide) ?_
        refine ka_put C lq_44 tyX4 tyX4_ok nmX4 rfl hK hP hD hS 0 rfl 8 (by decide) lq_51 rfl rfl rfl (Nat.le_of_ble_eq_true rfl) dX4_addAnswer_142 (fun H locs hP hD hS => ?_)
        have hP : va_P D vwCl [(a0, .inr (4, [.ref a1, .ref a2, .ref a3, .int x2, .int v_20108, .int v_20120, .int v_20121, .int v_20122, .int 0])), (a1, .inl (k0, 32, .inl f0)), (a2, .inl (k1, 32, .inl g_20119))] H := hP
        have hD : va_D A [(a0, .inr (4, [.ref a1, .ref a2, .ref a3, .int x2, .int v_20108, .int v_20120, .int v_20121, .int v_20122, .int 0])), (a1, .inl (k0, 32, .inl f0)), (a2, .inl (k1, 32, .inl g_20119))] := hD
        exact ka_rEv C hr hlk (Nat.le_of_ble_eq_true rfl) (Nat.le_of_ble_eq_true rfl) hS (ka_qE (v_20108, v_20120, v_20121, v_20122, 0, f0, g_20119) rfl trivial hK hP hD hS [0, 1, 2] (by decide) rfl [] rfl) dX4_addAnswer_145
  · skip
    refine lv_iload_n hx hb dX4_addAnswer_0 rfl (lv_at hl 1 rfl) ?_
    refine ka_RN (n := 1) C (cg_X6_isCase_7 l D F x0 (by omega)) gX4_addAnswer_X6_isCase_n46 rfl hN.2.2.2.2.2.1 lq_42 lq_43 (by decide +kernel) ⟨Nat.le_of_ble_eq_true rfl, Nat.le_of_ble_eq_true rfl⟩ hK hP hS hE hN [] rfl [] rfl rfl hl.1 (rest := []) rfl (Nat.le_of_ble_eq_true rfl) dX4_addAnswer_1 ⟨Nat.le_of_ble_eq_true rfl, Nat.le_of_ble_eq_true rfl⟩ (fun v hv => ?_)
    subst hv
    refine ka_stk (w := [.int 0]) rfl ?_
    refine lv_if_ne (tgt := 8) hx hb dX4_addAnswer_4 (by decide) (fun c_ => absurd (by decide) c_) (fun _ => ?_)
    exact ka_rEv C hr hlk (Nat.le_of_ble_eq_true rfl) (Nat.le_of_ble_eq_true rfl) hS (ka_qE (x3, x4, x5, x6, x7, f0, f1) rfl trivial hK hP hD hS [0, 1, 2] (by decide) rfl [] rfl) dX4_addAnswer_7
set_option maxHeartbeats 4000000 in
set_option maxRecDepth 100000 in
theorem cg_X4_addAnswer_187 (l : Launch) (D : va_G) (F : Nat → Prop) (a0 : Nat) (x0 : Int32) (x1 : Int32) (a1 : Nat) (a2 : Nat) (a3 : Nat) (x2 : Int32) (x3 : Int32) (x4 : Int32) (x5 : Int32) (x6 : Int32) (x7 : Int32) (k0 : ClassId) (f0 : Nat → Int32) (k1 : ClassId) (f1 : Nat → Int32) (hx1 : 0 ≤ x1.toInt ∧ x1.toInt ≤ 1) (hx2 : 0 ≤ x2.toInt ∧ x2.toInt ≤ 10) : ka_E l D F yX4_addAnswer wsX4_addAnswer 1 21 0 0 [.ref a0, .int x0, .int x1, .int 1] [(a0, .inr (4, [.ref a1, .ref a2, .ref a3, .int x2, .int x3, .int x4, .int x5, .int x6, .int x7])), (a1, .inl (k0, 32, .inl f0)), (a2, .inl (k1, 32, .inl f1))] [(k0, .int), (k1, .int)] (fun (u : (Int32) × (Int32) × (Int32) × (Int32) × (Int32) × (Nat → Int32) × (Nat → Int32)) => none) (fun (u : (Int32) × (Int32) × (Int32) × (Int32) × (Int32) × (Nat → Int32) × (Nat → Int32)) => True) (fun (u : (Int32) × (Int32) × (Int32) × (Int32) × (Int32) × (Nat → Int32) × (Nat → Int32)) => [(a0, .inr (4, [.ref a1, .ref a2, .ref a3, .int x2, .int (u.1), .int (u.2.1), .int (u.2.2.1), .int (u.2.2.2.1), .int (u.2.2.2.2.1)])), (a1, .inl (k0, 32, .inl (u.2.2.2.2.2.1))), (a2, .inl (k1, 32, .inl (u.2.2.2.2.2.2)))]) (fun (u : (Int32) × (Int32) × (Int32) × (Int32) × (Int32) × (Nat → Int32) × (Nat → Int32)) => []) := by
  refine ka_E_of (cc := cX4_addAnswer) (maxL := 6) (ret := none) (by decide) rfl (Nat.le_of_ble_eq_true rfl) ?_
  intro p e s m below meth c ls A C hr hlk hin hP hK hD hS hA hE hN hl
  have C : CallFix p m c cX4_addAnswer 6 s [.ref a0, .int x0, .int x1, .int 1].toArray wsX4_addAnswer RX4 := C
  obtain ⟨hx, hb, hml, hown, hts⟩ := id C
  have hl : lv_has ls 6 [(0, .ref a0), (1, .int x0), (2, .int x1), (3, .int 1)] := hl
  have rx0 := ka_rng x0
  have rx1 := ka_rng x1
  have rx2 := ka_rng x2
  have rx3 := ka_rng x3
  have rx4 := ka_rng x4
  have rx5 := ka_rng x5
  have rx6 := ka_rng x6
  have rx7 := ka_rng x7
  rcases (show x0.toInt ≤ -1 ∨ (0 ≤ x0.toInt ∧ x0.toInt ≤ 31) ∨ 32 ≤ x0.toInt by omega) with y_20240 | y_20240 | y_20240
  · skip
    refine lv_iload_n hx hb dX4_addAnswer_0 rfl (lv_at hl 1 rfl) ?_
    refine ka_RN (n := 1) C (cg_X6_isCase_5 l D F x0 (by omega)) gX4_addAnswer_X6_isCase_n46 rfl hN.2.2.2.2.2.1 lq_42 lq_43 (by decide +kernel) ⟨Nat.le_of_ble_eq_true rfl, Nat.le_of_ble_eq_true rfl⟩ hK hP hS hE hN [] rfl [] rfl rfl hl.1 (rest := []) rfl (Nat.le_of_ble_eq_true rfl) dX4_addAnswer_1 ⟨Nat.le_of_ble_eq_true rfl, Nat.le_of_ble_eq_true rfl⟩ (fun v hv => ?_)
    subst hv
    refine ka_stk (w := [.int 0]) rfl ?_
    refine lv_if_ne (tgt := 8) hx hb dX4_addAnswer_4 (by decide) (fun c_ => absurd (by decide) c_) (fun _ => ?_)
    exact ka_rEv C hr hlk (Nat.le_of_ble_eq_true rfl) (Nat.le_of_ble_eq_true rfl) hS (ka_qE (x3, x4, x5, x6, x7, f0, f1) rfl trivial hK hP hD hS [0, 1, 2] (by decide) rfl [] rfl) dX4_addAnswer_7
  · skip
    refine lv_iload_n hx hb dX4_addAnswer_0 rfl (lv_at hl 1 rfl) ?_
    refine ka_RN (n := 1) C (cg_X6_isCase_6 l D F x0 ⟨by omega, by omega⟩) gX4_addAnswer_X6_isCase_n46 rfl hN.2.2.2.2.2.1 lq_42 lq_43 (by decide +kernel) ⟨Nat.le_of_ble_eq_true rfl, Nat.le_of_ble_eq_true rfl⟩ hK hP hS hE hN [] rfl [] rfl rfl hl.1 (rest := []) rfl (Nat.le_of_ble_eq_true rfl) dX4_addAnswer_1 ⟨Nat.le_of_ble_eq_true rfl, Nat.le_of_ble_eq_true rfl⟩ (fun v hv => ?_)
    subst hv
    refine ka_stk (w := [.int 1]) rfl ?_
    refine lv_if_ne (tgt := 8) hx hb dX4_addAnswer_4 (by decide) (fun _ => ?_) (fun c_ => absurd c_ (by decide))
    refine lv_aload_n hx hb dX4_addAnswer_8 rfl (lv_at hl 0 rfl) ?_
    refine ka_get C lq_44 rfl hK hP 0 rfl 4 (by decide) lq_45 rfl dX4_addAnswer_9 ?_
    refine lv_iload_n hx hb dX4_addAnswer_12 rfl (lv_at hl 1 rfl) ?_
    refine ka_RN (n := 2) C (ka_c_bitAt l D F x3 x0) gX4_addAnswer_X6_bitAt_n50 rfl hN.2.2.2.2.2.2.1 lq_42 lq_46 (by decide +kernel) ⟨Nat.le_of_ble_eq_true rfl, Nat.le_of_ble_eq_true rfl⟩ hK hP hS hE hN [] rfl [] rfl rfl hl.1 (rest := []) rfl (Nat.le_of_ble_eq_true rfl) dX4_addAnswer_13 ⟨Nat.le_of_ble_eq_true rfl, Nat.le_of_ble_eq_true rfl⟩ (fun v hv => ?_)
    subst hv
    refine ka_stk (w := .int (ka_bit x3 x0) :: []) rfl ?_
    refine lv_topi (fun v_20241 ev_20241 => ?_)
    have fv_20241 := ka_bit_in x3 x0; rw [← ev_20241] at fv_20241
    refine lv_if_ne (tgt := 23) hx hb dX4_addAnswer_16 (by decide) (fun c_20242 => ?_) (fun c_20242 => ?_)
    · have c_20242 : ¬ v_20241.toInt = 0 := by rw [ka_eq', show ((0 : Int32)).toInt = 0 from by decide] at c_20242; exact c_20242
      refine lv_iconst (v := 0) hx hb dX4_addAnswer_23 (by decide) ?_
      refine lv_istore (lv' := [(4, .int 0), (0, .ref a0), (1, .int x0), (2, .int x1), (3, .int 1)]) hx hb dX4_addAnswer_24 hl (by decide) rfl (fun ls hl => ?_)
      refine lv_iconst (v := 1) hx hb dX4_addAnswer_26 (by decide) ?_
      refine lv_iload_n hx hb dX4_addAnswer_27 rfl (lv_at hl 2 rfl) ?_
      refine lv_ishl hx hb dX4_addAnswer_28 ?_
      refine lv_topi (fun v_20243 ev_20243 => ?_)
      refine lv_istore (lv' := [(5, .int v_20243), (4, .int 0), (0, .ref a0), (1, .int x0), (2, .int x1), (3, .int 1)]) hx hb dX4_addAnswer_29 hl (by decide) rfl (fun ls hl => ?_)
      refine lv_aload_n hx hb dX4_addAnswer_31 rfl (lv_at hl 2 rfl) ?_
      refine lv_dup hx hb dX4_addAnswer_32 rfl ?_
      refine ka_get C lq_44 rfl hK hP 0 rfl 4 (by decide) lq_45 rfl dX4_addAnswer_33 ?_
      refine lv_iload hx hb dX4_addAnswer_36 (lv_at hl 0 rfl) ?_
      refine lv_ior hx hb dX4_addAnswer_38 ?_
      refine lv_topi (fun v_20244 ev_20244 => ?_)
      refine ka_put C lq_44 tyX4 tyX4_ok nmX4 rfl hK hP hD hS 0 rfl 4 (by decide) lq_45 rfl rfl rfl (Nat.le_of_ble_eq_true rfl) dX4_addAnswer_39 (fun H locs hP hD hS => ?_)
      have hP : va_P D vwCl [(a0, .inr (4, [.ref a1, .ref a2, .ref a3, .int x2, .int v_20244, .int x4, .int x5, .int x6, .int x7])), (a1, .inl (k0, 32, .inl f0)), (a2, .inl (k1, 32, .inl f1))] H := hP
      have hD : va_D A [(a0, .inr (4, [.ref a1, .ref a2, .ref a3, .int x2, .int v_20244, .int x4, .int x5, .int x6, .int x7])), (a1, .inl (k0, 32, .inl f0)), (a2, .inl (k1, 32, .inl f1))] := hD
      refine lv_iload_n hx hb dX4_addAnswer_42 rfl (lv_at hl 4 rfl) ?_
      refine lv_iconst (v := 1) hx hb dX4_addAnswer_43 (by decide) ?_
      refine lv_icmp_ne (tgt := 71) hx hb dX4_addAnswer_44 (by decide) (fun c_20245 => ?_) (fun c_20245 => ?_)
      · have c_20245 : ¬ x1.toInt = 1 := by rw [ka_eq', show ((1 : Int32)).toInt = 1 from by decide] at c_20245; exact c_20245
        refine lv_aload_n hx hb dX4_addAnswer_71 rfl (lv_at hl 2 rfl) ?_
        refine ka_get C lq_44 rfl hK hP 0 rfl 0 (by decide) lq_47 rfl dX4_addAnswer_72 ?_
        refine lv_iload_n hx hb dX4_addAnswer_75 rfl (lv_at hl 3 rfl) ?_
        refine lv_dup2_11 hx hb dX4_addAnswer_76 rfl rfl ?_
        refine va_iald hx hb hK hP 1 0 rfl rfl (ka_in (by omega) (by omega)) dX4_addAnswer_77 ?_
        refine lv_topi (fun v_20246 ev_20246 => ?_)
        refine lv_iconst (v := 1) hx hb dX4_addAnswer_78 (by decide) ?_
        refine lv_iadd hx hb dX4_addAnswer_79 ?_
        refine lv_topi (fun v_20247 ev_20247 => ?_)
        refine va_iast hx hb hK hP hD hS 1 0 rfl rfl (ka_in (by omega) (by omega)) dX4_addAnswer_80 (fun H locs hP hD hS => ?_)
        have hP : va_P D vwCl [(a0, .inr (4, [.ref a1, .ref a2, .ref a3, .int x2, .int v_20244, .int x4, .int x5, .int x6, .int x7])), (a1, .inl (k0, 32, .inl (upd f0 (Int32.toNatClampNeg x0) v_20247))), (a2, .inl (k1, 32, .inl f1))] H := hP
        have hD : va_D A [(a0, .inr (4, [.ref a1, .ref a2, .ref a3, .int x2, .int v_20244, .int x4, .int x5, .int x6, .int x7])), (a1, .inl (k0, 32, .inl (upd f0 (Int32.toNatClampNeg x0) v_20247))), (a2, .inl (k1, 32, .inl f1))] := hD
        generalize (upd f0 (Int32.toNatClampNeg x0) v_20247) = g_20248 at hP hD
        refine lv_aload_n hx hb dX4_addAnswer_81 rfl (lv_at hl 2 rfl) ?_
        refine lv_dup hx hb dX4_addAnswer_82 rfl ?_
        refine ka_get C lq_44 rfl hK hP 0 rfl 5 (by decide) lq_48 rfl dX4_addAnswer_83 ?_
        refine lv_iload hx hb dX4_addAnswer_86 (lv_at hl 0 rfl) ?_
        refine lv_iconst (v := (-1)) hx hb dX4_addAnswer_88 (by decide) ?_
        refine lv_ixor hx hb dX4_addAnswer_89 ?_
        refine lv_topi (fun v_20249 ev_20249 => ?_)
        refine lv_iand hx hb dX4_addAnswer_90 ?_
        refine lv_topi (fun v_20250 ev_20250 => ?_)
        refine ka_put C lq_44 tyX4 tyX4_ok nmX4 rfl hK hP hD hS 0 rfl 5 (by decide) lq_48 rfl rfl rfl (Nat.le_of_ble_eq_true rfl) dX4_addAnswer_91 (fun H locs hP hD hS => ?_)
        have hP : va_P D vwCl [(a0, .inr (4, [.ref a1, .ref a2, .ref a3, .int x2, .int v_20244, .int v_20250, .int x5, .int x6, .int x7])), (a1, .inl (k0, 32, .inl g_20248)), (a2, .inl (k1, 32, .inl f1))] H := hP
        have hD : va_D A [(a0, .inr (4, [.ref a1, .ref a2, .ref a3, .int x2, .int v_20244, .int v_20250, .int x5, .int x6, .int x7])), (a1, .inl (k0, 32, .inl g_20248)), (a2, .inl (k1, 32, .inl f1))] := hD
        refine lv_aload_n hx hb dX4_addAnswer_94 rfl (lv_at hl 2 rfl) ?_
        refine lv_dup hx hb dX4_addAnswer_95 rfl ?_
        refine ka_get C lq_44 rfl hK hP 0 rfl 6 (by decide) lq_49 rfl dX4_addAnswer_96 ?_
        refine lv_iconst (v := 1) hx hb dX4_addAnswer_99 (by decide) ?_
        refine lv_iadd hx hb dX4_addAnswer_100 ?_
        refine lv_topi (fun v_20251 ev_20251 => ?_)
        refine ka_put C lq_44 tyX4 tyX4_ok nmX4 rfl hK hP hD hS 0 rfl 6 (by decide) lq_49 rfl rfl rfl (Nat.le_of_ble_eq_true rfl) dX4_addAnswer_101 (fun H locs hP hD hS => ?_)
        have hP : va_P D vwCl [(a0, .inr (4, [.ref a1, .ref a2, .ref a3, .int x2, .int v_20244, .int v_20250, .int v_20251, .int x6, .int x7])), (a1, .inl (k0, 32, .inl g_20248)), (a2, .inl (k1, 32, .inl f1))] H := hP
        have hD : va_D A [(a0, .inr (4, [.ref a1, .ref a2, .ref a3, .int x2, .int v_20244, .int v_20250, .int v_20251, .int x6, .int x7])), (a1, .inl (k0, 32, .inl g_20248)), (a2, .inl (k1, 32, .inl f1))] := hD
        refine lv_aload_n hx hb dX4_addAnswer_104 rfl (lv_at hl 2 rfl) ?_
        refine lv_dup hx hb dX4_addAnswer_105 rfl ?_
        refine ka_get C lq_44 rfl hK hP 0 rfl 7 (by decide) lq_50 rfl dX4_addAnswer_106 ?_
        refine lv_iload_n hx hb dX4_addAnswer_109 rfl (lv_at hl 5 rfl) ?_
        refine lv_if_eq (tgt := 117) hx hb dX4_addAnswer_110 (by decide) (fun c_ => absurd c_ (by decide)) (fun _ => ?_)
        refine lv_iconst (v := 1) hx hb dX4_addAnswer_113 (by decide) ?_
        refine lv_goto (tgt := 118) hx hb dX4_addAnswer_114 (by decide) ?_
        refine lv_iadd hx hb dX4_addAnswer_118 ?_
        refine lv_topi (fun v_20252 ev_20252 => ?_)
        refine ka_put C lq_44 tyX4 tyX4_ok nmX4 rfl hK hP hD hS 0 rfl 7 (by decide) lq_50 rfl rfl rfl (Nat.le_of_ble_eq_true rfl) dX4_addAnswer_119 (fun H locs hP hD hS => ?_)
        have hP : va_P D vwCl [(a0, .inr (4, [.ref a1, .ref a2, .ref a3, .int x2, .int v_20244, .int v_20250, .int v_20251, .int v_20252, .int x7])), (a1, .inl (k0, 32, .inl g_20248)), (a2, .inl (k1, 32, .inl f1))] H := hP
        have hD : va_D A [(a0, .inr (4, [.ref a1, .ref a2, .ref a3, .int x2, .int v_20244, .int v_20250, .int v_20251, .int v_20252, .int x7])), (a1, .inl (k0, 32, .inl g_20248)), (a2, .inl (k1, 32, .inl f1))] := hD
        refine lv_aload_n hx hb dX4_addAnswer_122 rfl (lv_at hl 2 rfl) ?_
        refine lv_iload_n hx hb dX4_addAnswer_123 rfl (lv_at hl 5 rfl) ?_
        refine lv_if_eq (tgt := 141) hx hb dX4_addAnswer_124 (by decide) (fun c_ => absurd c_ (by decide)) (fun _ => ?_)
        refine lv_iload hx hb dX4_addAnswer_127 (lv_at hl 1 rfl) ?_
        refine lv_if_eq (tgt := 141) hx hb dX4_addAnswer_129 (by decide) (fun _ => ?_) (fun c_ => absurd (by decide) c_)
        refine lv_iconst (v := 0) hx hb dX4_addAnswer_141 (by decide) ?_
        refine ka_put C lq_44 tyX4 tyX4_ok nmX4 rfl hK hP hD hS 0 rfl 8 (by decide) lq_51 rfl rfl rfl (Nat.le_of_ble_eq_true rfl) dX4_addAnswer_142 (fun H locs hP hD hS => ?_)
        have hP : va_P D vwCl [(a0, .inr (4, [.ref a1, .ref a2, .ref a3, .int x2, .int v_20244, .int v_20250, .int v_20251, .int v_20252, .int 0])), (a1, .inl (k0, 32, .inl g_20248)), (a2, .inl (k1, 32, .inl f1))] H := hP
        have hD : va_D A [(a0, .inr (4, [.ref a1, .ref a2, .ref a3, .int x2, .int v_20244, .int v_20250, .int v_20251, .int v_20252, .int 0])), (a1, .inl (k0, 32, .inl g_20248)), (a2, .inl (k1, 32, .inl f1))] := hD
        exact ka_rEv C hr hlk (Nat.le_of_ble_eq_true rfl) (Nat.le_of_ble_eq_true rfl) hS (ka_qE (v_20244, v_20250, v_20251, v_20252, 0, g_20248, f1) rfl trivial hK hP hD hS [0, 1, 2] (by decide) rfl [] rfl) dX4_addAnswer_145
      · have c_20245 : x1.toInt = 1 := by rw [ka_eq', show ((1 : Int32)).toInt = 1 from by decide] at c_20245; exact c_20245
        refine lv_aload_n hx hb dX4_addAnswer_47 rfl (lv_at hl 2 rfl) ?_
        refine ka_get C lq_44 rfl hK hP 0 rfl 1 (by decide) lq_52 rfl dX4_addAnswer_48 ?_
        refine lv_iload_n hx hb dX4_addAnswer_51 rfl (lv_at hl 3 rfl) ?_
        refine lv_dup2_11 hx hb dX4_addAnswer_52 rfl rfl ?_
        refine va_iald hx hb hK hP 2 1 rfl rfl (ka_in (by omega) (by omega)) dX4_addAnswer_53 ?_
        refine lv_topi (fun v_20253 ev_20253 => ?_)
        refine lv_iconst (v := 1) hx hb dX4_addAnswer_54 (by decide) ?_
        refine lv_iadd hx hb dX4_addAnswer_55 ?_
        refine lv_topi (fun v_20254 ev_20254 => ?_)
        refine va_iast hx hb hK hP hD hS 2 1 rfl rfl (ka_in (by omega) (by omega)) dX4_addAnswer_56 (fun H locs hP hD hS => ?_)
        have hP : va_P D vwCl [(a0, .inr (4, [.ref a1, .ref a2, .ref a3, .int x2, .int v_20244, .int x4, .int x5, .int x6, .int x7])), (a1, .inl (k0, 32, .inl f0)), (a2, .inl (k1, 32, .inl (upd f1 (Int32.toNatClampNeg x0) v_20254)))] H := hP
        have hD : va_D A [(a0, .inr (4, [.ref a1, .ref a2, .ref a3, .int x2, .int v_20244, .int x4, .int x5, .int x6, .int x7])), (a1, .inl (k0, 32, .inl f0)), (a2, .inl (k1, 32, .inl (upd f1 (Int32.toNatClampNeg x0) v_20254)))] := hD
        generalize (upd f1 (Int32.toNatClampNeg x0) v_20254) = g_20255 at hP hD
        refine lv_aload_n hx hb dX4_addAnswer_57 rfl (lv_at hl 2 rfl) ?_
        refine lv_dup hx hb dX4_addAnswer_58 rfl ?_
        refine ka_get C lq_44 rfl hK hP 0 rfl 5 (by decide) lq_48 rfl dX4_addAnswer_59 ?_
        refine lv_iload hx hb dX4_addAnswer_62 (lv_at hl 0 rfl) ?_
        refine lv_ior hx hb dX4_addAnswer_64 ?_
        refine lv_topi (fun v_20256 ev_20256 => ?_)
        refine ka_put C lq_44 tyX4 tyX4_ok nmX4 rfl hK hP hD hS 0 rfl 5 (by decide) lq_48 rfl rfl rfl (Nat.le_of_ble_eq_true rfl) dX4_addAnswer_65 (fun H locs hP hD hS => ?_)
        have hP : va_P D vwCl [(a0, .inr (4, [.ref a1, .ref a2, .ref a3, .int x2, .int v_20244, .int v_20256, .int x5, .int x6, .int x7])), (a1, .inl (k0, 32, .inl f0)), (a2, .inl (k1, 32, .inl g_20255))] H := hP
        have hD : va_D A [(a0, .inr (4, [.ref a1, .ref a2, .ref a3, .int x2, .int v_20244, .int v_20256, .int x5, .int x6, .int x7])), (a1, .inl (k0, 32, .inl f0)), (a2, .inl (k1, 32, .inl g_20255))] := hD
        refine lv_goto (tgt := 94) hx hb dX4_addAnswer_68 (by decide) ?_
        refine lv_aload_n hx hb dX4_addAnswer_94 rfl (lv_at hl 2 rfl) ?_
        refine lv_dup hx hb dX4_addAnswer_95 rfl ?_
        refine ka_get C lq_44 rfl hK hP 0 rfl 6 (by decide) lq_49 rfl dX4_addAnswer_96 ?_
        refine lv_iconst (v := 1) hx hb dX4_addAnswer_99 (by decide) ?_
        refine lv_iadd hx hb dX4_addAnswer_100 ?_
        refine lv_topi (fun v_20257 ev_20257 => ?_)
        refine ka_put C lq_44 tyX4 tyX4_ok nmX4 rfl hK hP hD hS 0 rfl 6 (by decide) lq_49 rfl rfl rfl (Nat.le_of_ble_eq_true rfl) dX4_addAnswer_101 (fun H locs hP hD hS => ?_)
        have hP : va_P D vwCl [(a0, .inr (4, [.ref a1, .ref a2, .ref a3, .int x2, .int v_20244, .int v_20256, .int v_20257, .int x6, .int x7])), (a1, .inl (k0, 32, .inl f0)), (a2, .inl (k1, 32, .inl g_20255))] H := hP
        have hD : va_D A [(a0, .inr (4, [.ref a1, .ref a2, .ref a3, .int x2, .int v_20244, .int v_20256, .int v_20257, .int x6, .int x7])), (a1, .inl (k0, 32, .inl f0)), (a2, .inl (k1, 32, .inl g_20255))] := hD
        refine lv_aload_n hx hb dX4_addAnswer_104 rfl (lv_at hl 2 rfl) ?_
        refine lv_dup hx hb dX4_addAnswer_105 rfl ?_
        refine ka_get C lq_44 rfl hK hP 0 rfl 7 (by decide) lq_50 rfl dX4_addAnswer_106 ?_
        refine lv_iload_n hx hb dX4_addAnswer_109 rfl (lv_at hl 5 rfl) ?_
        refine lv_if_eq (tgt := 117) hx hb dX4_addAnswer_110 (by decide) (fun c_ => absurd c_ (by decide)) (fun _ => ?_)
        refine lv_iconst (v := 1) hx hb dX4_addAnswer_113 (by decide) ?_
        refine lv_goto (tgt := 118) hx hb dX4_addAnswer_114 (by decide) ?_
        refine lv_iadd hx hb dX4_addAnswer_118 ?_
        refine lv_topi (fun v_20258 ev_20258 => ?_)
        refine ka_put C lq_44 tyX4 tyX4_ok nmX4 rfl hK hP hD hS 0 rfl 7 (by decide) lq_50 rfl rfl rfl (Nat.le_of_ble_eq_true rfl) dX4_addAnswer_119 (fun H locs hP hD hS => ?_)
        have hP : va_P D vwCl [(a0, .inr (4, [.ref a1, .ref a2, .ref a3, .int x2, .int v_20244, .int v_20256, .int v_20257, .int v_20258, .int x7])), (a1, .inl (k0, 32, .inl f0)), (a2, .inl (k1, 32, .inl g_20255))] H := hP
        have hD : va_D A [(a0, .inr (4, [.ref a1, .ref a2, .ref a3, .int x2, .int v_20244, .int v_20256, .int v_20257, .int v_20258, .int x7])), (a1, .inl (k0, 32, .inl f0)), (a2, .inl (k1, 32, .inl g_20255))] := hD
        refine lv_aload_n hx hb dX4_addAnswer_122 rfl (lv_at hl 2 rfl) ?_
        refine lv_iload_n hx hb dX4_addAnswer_123 rfl (lv_at hl 5 rfl) ?_
        refine lv_if_eq (tgt := 141) hx hb dX4_addAnswer_124 (by decide) (fun c_ => absurd c_ (by decide)) (fun _ => ?_)
        refine lv_iload hx hb dX4_addAnswer_127 (lv_at hl 1 rfl) ?_
        refine lv_if_eq (tgt := 141) hx hb dX4_addAnswer_129 (by decide) (fun _ => ?_) (fun c_ => absurd (by decide) c_)
        refine lv_iconst (v := 0) hx hb dX4_addAnswer_141 (by decide) ?_
        refine ka_put C lq_44 tyX4 tyX4_ok nmX4 rfl hK hP hD hS 0 rfl 8 (by decide) lq_51 rfl rfl rfl (Nat.le_of_ble_eq_true rfl) dX4_addAnswer_142 (fun H locs hP hD hS => ?_)
        have hP : va_P D vwCl [(a0, .inr (4, [.ref a1, .ref a2, .ref a3, .int x2, .int v_20244, .int v_20256, .int v_20257, .int v_20258, .int 0])), (a1, .inl (k0, 32, .inl f0)), (a2, .inl (k1, 32, .inl g_20255))] H := hP
        have hD : va_D A [(a0, .inr (4, [.ref a1, .ref a2, .ref a3, .int x2, .int v_20244, .int v_20256, .int v_20257, .int v_20258, .int 0])), (a1, .inl (k0, 32, .inl f0)), (a2, .inl (k1, 32, .inl g_20255))] := hD
        exact ka_rEv C hr hlk (Nat.le_of_ble_eq_true rfl) (Nat.le_of_ble_eq_true rfl) hS (ka_qE (v_20244, v_20256, v_20257, v_20258, 0, f0, g_20255) rfl trivial hK hP hD hS [0, 1, 2] (by decide) rfl [] rfl) dX4_addAnswer_145
    · have c_20242 : v_20241.toInt = 0 := by rw [ka_eq', show ((0 : Int32)).toInt = 0 from by decide] at c_20242; exact c_20242
      refine lv_iconst (v := 1) hx hb dX4_addAnswer_19 (by decide) ?_
      refine lv_goto (tgt := 24) hx hb dX4_addAnswer_20 (by decide) ?_
      refine lv_istore (lv' := [(4, .int 1), (0, .ref a0), (1, .int x0), (2, .int x1), (3, .int 1)]) hx hb dX4_addAnswer_24 hl (by decide) rfl (fun ls hl => ?_)
      refine lv_iconst (v := 1) hx hb dX4_addAnswer_26 (by decide) ?_
      refine lv_iload_n hx hb dX4_addAnswer_27 rfl (lv_at hl 2 rfl) ?_
      refine lv_ishl hx hb dX4_addAnswer_28 ?_
      refine lv_topi (fun v_20259 ev_20259 => ?_)
      refine lv_istore (lv' := [(5, .int v_20259), (4, .int 1), (0, .ref a0), (1, .int x0), (2, .int x1), (3, .int 1)]) hx hb dX4_addAnswer_29 hl (by decide) rfl (fun ls hl => ?_)
      refine lv_aload_n hx hb dX4_addAnswer_31 rfl (lv_at hl 2 rfl) ?_
      refine lv_dup hx hb dX4_addAnswer_32 rfl ?_
      refine ka_get C lq_44 rfl hK hP 0 rfl 4 (by decide) lq_45 rfl dX4_addAnswer_33 ?_
      refine lv_iload hx hb dX4_addAnswer_36 (lv_at hl 0 rfl) ?_
      refine lv_ior hx hb dX4_addAnswer_38 ?_
      refine lv_topi (fun v_20260 ev_20260 => ?_)
      refine ka_put C lq_44 tyX4 tyX4_ok nmX4 rfl hK hP hD hS 0 rfl 4 (by decide) lq_45 rfl rfl rfl (Nat.le_of_ble_eq_true rfl) dX4_addAnswer_39 (fun H locs hP hD hS => ?_)
      have hP : va_P D vwCl [(a0, .inr (4, [.ref a1, .ref a2, .ref a3, .int x2, .int v_20260, .int x4, .int x5, .int x6, .int x7])), (a1, .inl (k0, 32, .inl f0)), (a2, .inl (k1, 32, .inl f1))] H := hP
      have hD : va_D A [(a0, .inr (4, [.ref a1, .ref a2, .ref a3, .int x2, .int v_20260, .int x4, .int x5, .int x6, .int x7])), (a1, .inl (k0, 32, .inl f0)), (a2, .inl (k1, 32, .inl f1))] := hD
      refine lv_iload_n hx hb dX4_addAnswer_42 rfl (lv_at hl 4 rfl) ?_
      refine lv_iconst (v := 1) hx hb dX4_addAnswer_43 (by decide) ?_
      refine lv_icmp_ne (tgt := 71) hx hb dX4_addAnswer_44 (by decide) (fun c_20261 => ?_) (fun c_20261 => ?_)
      · have c_20261 : ¬ x1.toInt = 1 := by rw [ka_eq', show ((1 : Int32)).toInt = 1 from by decide] at c_20261; exact c_20261
        refine lv_aload_n hx hb dX4_addAnswer_71 rfl (lv_at hl 2 rfl) ?_
        refine ka_get C lq_44 rfl hK hP 0 rfl 0 (by decide) lq_47 rfl dX4_addAnswer_72 ?_
        refine lv_iload_n hx hb dX4_addAnswer_75 rfl (lv_at hl 3 rfl) ?_
        refine lv_dup2_11 hx hb dX4_addAnswer_76 rfl rfl ?_
        refine va_iald hx hb hK hP 1 0 rfl rfl (ka_in (by omega) (by omega)) dX4_addAnswer_77 ?_
        refine lv_topi (fun v_20262 ev_20262 => ?_)
        refine lv_iconst (v := 1) hx hb dX4_addAnswer_78 (by decide) ?_
        refine lv_iadd hx hb dX4_addAnswer_79 ?_
        refine lv_topi (fun v_20263 ev_20263 => ?_)
        refine va_iast hx hb hK hP hD hS 1 0 rfl rfl (ka_in (by omega) (by omega)) dX4_addAnswer_80 (fun H locs hP hD hS => ?_)
        have hP : va_P D vwCl [(a0, .inr (4, [.ref a1, .ref a2, .ref a3, .int x2, .int v_20260, .int x4, .int x5, .int x6, .int x7])), (a1, .inl (k0, 32, .inl (upd f0 (Int32.toNatClampNeg x0) v_20263))), (a2, .inl (k1, 32, .inl f1))] H := hP
        have hD : va_D A [(a0, .inr (4, [.ref a1, .ref a2, .ref a3, .int x2, .int v_20260, .int x4, .int x5, .int x6, .int x7])), (a1, .inl (k0, 32, .inl (upd f0 (Int32.toNatClampNeg x0) v_20263))), (a2, .inl (k1, 32, .inl f1))] := hD
        generalize (upd f0 (Int32.toNatClampNeg x0) v_20263) = g_20264 at hP hD
        refine lv_aload_n hx hb dX4_addAnswer_81 rfl (lv_at hl 2 rfl) ?_
        refine lv_dup hx hb dX4_addAnswer_82 rfl ?_
        refine ka_get C lq_44 rfl hK hP 0 rfl 5 (by decide) lq_48 rfl dX4_addAnswer_83 ?_
        refine lv_iload hx hb dX4_addAnswer_86 (lv_at hl 0 rfl) ?_
        refine lv_iconst (v := (-1)) hx hb dX4_addAnswer_88 (by decide) ?_
        refine lv_ixor hx hb dX4_addAnswer_89 ?_
        refine lv_topi (fun v_20265 ev_20265 => ?_)
        refine lv_iand hx hb dX4_addAnswer_90 ?_
        refine lv_topi (fun v_20266 ev_20266 => ?_)
        refine ka_put C lq_44 tyX4 tyX4_ok nmX4 rfl hK hP hD hS 0 rfl 5 (by decide) lq_48 rfl rfl rfl (Nat.le_of_ble_eq_true rfl) dX4_addAnswer_91 (fun H locs hP hD hS => ?_)
        have hP : va_P D vwCl [(a0, .inr (4, [.ref a1, .ref a2, .ref a3, .int x2, .int v_20260, .int v_20266, .int x5, .int x6, .int x7])), (a1, .inl (k0, 32, .inl g_20264)), (a2, .inl (k1, 32, .inl f1))] H := hP
        have hD : va_D A [(a0, .inr (4, [.ref a1, .ref a2, .ref a3, .int x2, .int v_20260, .int v_20266, .int x5, .int x6, .int x7])), (a1, .inl (k0, 32, .inl g_20264)), (a2, .inl (k1, 32, .inl f1))] := hD
        refine lv_aload_n hx hb dX4_addAnswer_94 rfl (lv_at hl 2 rfl) ?_
        refine lv_dup hx hb dX4_addAnswer_95 rfl ?_
        refine ka_get C lq_44 rfl hK hP 0 rfl 6 (by decide) lq_49 rfl dX4_addAnswer_96 ?_
        refine lv_iconst (v := 1) hx hb dX4_addAnswer_99 (by decide) ?_
        refine lv_iadd hx hb dX4_addAnswer_100 ?_
        refine lv_topi (fun v_20267 ev_20267 => ?_)
        refine ka_put C lq_44 tyX4 tyX4_ok nmX4 rfl hK hP hD hS 0 rfl 6 (by decide) lq_49 rfl rfl rfl (Nat.le_of_ble_eq_true rfl) dX4_addAnswer_101 (fun H locs hP hD hS => ?_)
        have hP : va_P D vwCl [(a0, .inr (4, [.ref a1, .ref a2, .ref a3, .int x2, .int v_20260, .int v_20266, .int v_20267, .int x6, .int x7])), (a1, .inl (k0, 32, .inl g_20264)), (a2, .inl (k1, 32, .inl f1))] H := hP
        have hD : va_D A [(a0, .inr (4, [.ref a1, .ref a2, .ref a3, .int x2, .int v_20260, .int v_20266, .int v_20267, .int x6, .int x7])), (a1, .inl (k0, 32, .inl g_20264)), (a2, .inl (k1, 32, .inl f1))] := hD
        refine lv_aload_n hx hb dX4_addAnswer_104 rfl (lv_at hl 2 rfl) ?_
        refine lv_dup hx hb dX4_addAnswer_105 rfl ?_
        refine ka_get C lq_44 rfl hK hP 0 rfl 7 (by decide) lq_50 rfl dX4_addAnswer_106 ?_
        refine lv_iload_n hx hb dX4_addAnswer_109 rfl (lv_at hl 5 rfl) ?_
        refine lv_if_eq (tgt := 117) hx hb dX4_addAnswer_110 (by decide) (fun c_ => absurd c_ (by decide)) (fun _ => ?_)
        refine lv_iconst (v := 1) hx hb dX4_addAnswer_113 (by decide) ?_
        refine lv_goto (tgt := 118) hx hb dX4_addAnswer_114 (by decide) ?_
        refine lv_iadd hx hb dX4_addAnswer_118 ?_
        refine lv_topi (fun v_20268 ev_20268 => ?_)
        refine ka_put C lq_44 tyX4 tyX4_ok nmX4 rfl hK hP hD hS 0 rfl 7 (by decide) lq_50 rfl rfl rfl (Nat.le_of_ble_eq_true rfl) dX4_addAnswer_119 (fun H locs hP hD hS => ?_)
        have hP : va_P D vwCl [(a0, .inr (4, [.ref a1, .ref a2, .ref a3, .int x2, .int v_20260, .int v_20266, .int v_20267, .int v_20268, .int x7])), (a1, .inl (k0, 32, .inl g_20264)), (a2, .inl (k1, 32, .inl f1))] H := hP
        have hD : va_D A [(a0, .inr (4, [.ref a1, .ref a2, .ref a3, .int x2, .int v_20260, .int v_20266, .int v_20267, .int v_20268, .int x7])), (a1, .inl (k0, 32, .inl g_20264)), (a2, .inl (k1, 32, .inl f1))] := hD
        refine lv_aload_n hx hb dX4_addAnswer_122 rfl (lv_at hl 2 rfl) ?_
        refine lv_iload_n hx hb dX4_addAnswer_123 rfl (lv_at hl 5 rfl) ?_
        refine lv_if_eq (tgt := 141) hx hb dX4_addAnswer_124 (by decide) (fun c_ => absurd c_ (by decide)) (fun _ => ?_)
        refine lv_iload hx hb dX4_addAnswer_127 (lv_at hl 1 rfl) ?_
        refine lv_if_eq (tgt := 141) hx hb dX4_addAnswer_129 (by decide) (fun c_ => absurd c_ (by decide)) (fun _ => ?_)
        refine lv_aload_n hx hb dX4_addAnswer_132 rfl (lv_at hl 2 rfl) ?_
        refine ka_get C lq_44 rfl hK hP 0 rfl 8 (by decide) lq_51 rfl dX4_addAnswer_133 ?_
        refine lv_iconst (v := 1) hx hb dX4_addAnswer_136 (by decide) ?_
        refine lv_iadd hx hb dX4_addAnswer_137 ?_
        refine lv_topi (fun v_20269 ev_20269 => ?_)
        refine lv_goto (tgt := 142) hx hb dX4_addAnswer_138 (by decide) ?_
        refine ka_put C lq_44 tyX4 tyX4_ok nmX4 rfl hK hP hD hS 0 rfl 8 (by decide) lq_51 rfl rfl rfl (Nat.le_of_ble_eq_true rfl) dX4_addAnswer_142 (fun H locs hP hD hS => ?_)
        have hP : va_P D vwCl [(a0, .inr (4, [.ref a1, .ref a2, .ref a3, .int x2, .int v_20260, .int v_20266, .int v_20267, .int v_20268, .int v_20269])), (a1, .inl (k0, 32, .inl g_20264)), (a2, .inl (k1, 32, .inl f1))] H := hP
        have hD : va_D A [(a0, .inr (4, [.ref a1, .ref a2, .ref a3, .int x2, .int v_20260, .int v_20266, .int v_20267, .int v_20268, .int v_20269])), (a1, .inl (k0, 32, .inl g_20264)), (a2, .inl (k1, 32, .inl f1))] := hD
        exact ka_rEv C hr hlk (Nat.le_of_ble_eq_true rfl) (Nat.le_of_ble_eq_true rfl) hS (ka_qE (v_20260, v_20266, v_20267, v_20268, v_20269, g_20264, f1) rfl trivial hK hP hD hS [0, 1, 2] (by decide) rfl [] rfl) dX4_addAnswer_145
      · have c_20261 : x1.toInt = 1 := by rw [ka_eq', show ((1 : Int32)).toInt = 1 from by decide] at c_20261; exact c_20261
        refine lv_aload_n hx hb dX4_addAnswer_47 rfl (lv_at hl 2 rfl) ?_
        refine ka_get C lq_44 rfl hK hP 0 rfl 1 (by decide) lq_52 rfl dX4_addAnswer_48 ?_
        refine lv_iload_n hx hb dX4_addAnswer_51 rfl (lv_at hl 3 rfl) ?_
        refine lv_dup2_11 hx hb dX4_addAnswer_52 rfl rfl ?_
        refine va_iald hx hb hK hP 2 1 rfl rfl (ka_in (by omega) (by omega)) dX4_addAnswer_53 ?_
        refine lv_topi (fun v_20270 ev_20270 => ?_)
        refine lv_iconst (v := 1) hx hb dX4_addAnswer_54 (by decide) ?_
        refine lv_iadd hx hb dX4_addAnswer_55 ?_
        refine lv_topi (fun v_20271 ev_20271 => ?_)
        refine va_iast hx hb hK hP hD hS 2 1 rfl rfl (ka_in (by omega) (by omega)) dX4_addAnswer_56 (fun H locs hP hD hS => ?_)
        have hP : va_P D vwCl [(a0, .inr (4, [.ref a1, .ref a2, .ref a3, .int x2, .int v_20260, .int x4, .int x5, .int x6, .int x7])), (a1, .inl (k0, 32, .inl f0)), (a2, .inl (k1, 32, .inl (upd f1 (Int32.toNatClampNeg x0) v_20271)))] H := hP
        have hD : va_D A [(a0, .inr (4, [.ref a1, .ref a2, .ref a3, .int x2, .int v_20260, .int x4, .int x5, .int x6, .int x7])), (a1, .inl (k0, 32, .inl f0)), (a2, .inl (k1, 32, .inl (upd f1 (Int32.toNatClampNeg x0) v_20271)))] := hD
        generalize (upd f1 (Int32.toNatClampNeg x0) v_20271) = g_20272 at hP hD
        refine lv_aload_n hx hb dX4_addAnswer_57 rfl (lv_at hl 2 rfl) ?_
        refine lv_dup hx hb dX4_addAnswer_58 rfl ?_
        refine ka_get C lq_44 rfl hK hP 0 rfl 5 (by decide) lq_48 rfl dX4_addAnswer_59 ?_
        refine lv_iload hx hb dX4_addAnswer_62 (lv_at hl 0 rfl) ?_
        refine lv_ior hx hb dX4_addAnswer_64 ?_
        refine lv_topi (fun v_20273 ev_20273 => ?_)
        refine ka_put C lq_44 tyX4 tyX4_ok nmX4 rfl hK hP hD hS 0 rfl 5 (by decide) lq_48 rfl rfl rfl (Nat.le_of_ble_eq_true rfl) dX4_addAnswer_65 (fun H locs hP hD hS => ?_)
        have hP : va_P D vwCl [(a0, .inr (4, [.ref a1, .ref a2, .ref a3, .int x2, .int v_20260, .int v_20273, .int x5, .int x6, .int x7])), (a1, .inl (k0, 32, .inl f0)), (a2, .inl (k1, 32, .inl g_20272))] H := hP
        have hD : va_D A [(a0, .inr (4, [.ref a1, .ref a2, .ref a3, .int x2, .int v_20260, .int v_20273, .int x5, .int x6, .int x7])), (a1, .inl (k0, 32, .inl f0)), (a2, .inl (k1, 32, .inl g_20272))] := hD
        refine lv_goto (tgt := 94) hx hb dX4_addAnswer_68 (by decide) ?_
        refine lv_aload_n hx hb dX4_addAnswer_94 rfl (lv_at hl 2 rfl) ?_
        refine lv_dup hx hb dX4_addAnswer_95 rfl ?_
        refine ka_get C lq_44 rfl hK hP 0 rfl 6 (by decide) lq_49 rfl dX4_addAnswer_96 ?_
        refine lv_iconst (v := 1) hx hb dX4_addAnswer_99 (by decide) ?_
        refine lv_iadd hx hb dX4_addAnswer_100 ?_
        refine lv_topi (fun v_20274 ev_20274 => ?_)
        refine ka_put C lq_44 tyX4 tyX4_ok nmX4 rfl hK hP hD hS 0 rfl 6 (by decide) lq_49 rfl rfl rfl (Nat.le_of_ble_eq_true rfl) dX4_addAnswer_101 (fun H locs hP hD hS => ?_)
        have hP : va_P D vwCl [(a0, .inr (4, [.ref a1, .ref a2, .ref a3, .int x2, .int v_20260, .int v_20273, .int v_20274, .int x6, .int x7])), (a1, .inl (k0, 32, .inl f0)), (a2, .inl (k1, 32, .inl g_20272))] H := hP
        have hD : va_D A [(a0, .inr (4, [.ref a1, .ref a2, .ref a3, .int x2, .int v_20260, .int v_20273, .int v_20274, .int x6, .int x7])), (a1, .inl (k0, 32, .inl f0)), (a2, .inl (k1, 32, .inl g_20272))] := hD
        refine lv_aload_n hx hb dX4_addAnswer_104 rfl (lv_at hl 2 rfl) ?_
        refine lv_dup hx hb dX4_addAnswer_105 rfl ?_
        refine ka_get C lq_44 rfl hK hP 0 rfl 7 (by decide) lq_50 rfl dX4_addAnswer_106 ?_
        refine lv_iload_n hx hb dX4_addAnswer_109 rfl (lv_at hl 5 rfl) ?_
        refine lv_if_eq (tgt := 117) hx hb dX4_addAnswer_110 (by decide) (fun c_ => absurd c_ (by decide)) (fun _ => ?_)
        refine lv_iconst (v := 1) hx hb dX4_addAnswer_113 (by decide) ?_
        refine lv_goto (tgt := 118) hx hb dX4_addAnswer_114 (by decide) ?_
        refine lv_iadd hx hb dX4_addAnswer_118 ?_
        refine lv_topi (fun v_20275 ev_20275 => ?_)
        refine ka_put C lq_44 tyX4 tyX4_ok nmX4 rfl hK hP hD hS 0 rfl 7 (by decide) lq_50 rfl rfl rfl (Nat.le_of_ble_eq_true rfl) dX4_addAnswer_119 (fun H locs hP hD hS => ?_)
        have hP : va_P D vwCl [(a0, .inr (4, [.ref a1, .ref a2, .ref a3, .int x2, .int v_20260, .int v_20273, .int v_20274, .int v_20275, .int x7])), (a1, .inl (k0, 32, .inl f0)), (a2, .inl (k1, 32, .inl g_20272))] H := hP
        have hD : va_D A [(a0, .inr (4, [.ref a1, .ref a2, .ref a3, .int x2, .int v_20260, .int v_20273, .int v_20274, .int v_20275, .int x7])), (a1, .inl (k0, 32, .inl f0)), (a2, .inl (k1, 32, .inl g_20272))] := hD
        refine lv_aload_n hx hb dX4_addAnswer_122 rfl (lv_at hl 2 rfl) ?_
        refine lv_iload_n hx hb dX4_addAnswer_123 rfl (lv_at hl 5 rfl) ?_
        refine lv_if_eq (tgt := 141) hx hb dX4_addAnswer_124 (by decide) (fun c_ => absurd c_ (by decide)) (fun _ => ?_)
        refine lv_iload hx hb dX4_addAnswer_127 (lv_at hl 1 rfl) ?_
        refine lv_if_eq (tgt := 141) hx hb dX4_addAnswer_129 (by decide) (fun c_ => absurd c_ (by decide)) (fun _ => ?_)
        refine lv_aload_n hx hb dX4_addAnswer_132 rfl (lv_at hl 2 rfl) ?_
        refine ka_get C lq_44 rfl hK hP 0 rfl 8 (by decide) lq_51 rfl dX4_addAnswer_133 ?_
        refine lv_iconst (v := 1) hx hb dX4_addAnswer_136 (by decide) ?_
        refine lv_iadd hx hb dX4_addAnswer_137 ?_
        refine lv_topi (fun v_20276 ev_20276 => ?_)
        refine lv_goto (tgt := 142) hx hb dX4_addAnswer_138 (by decide) ?_
        refine ka_put C lq_44 tyX4 tyX4_ok nmX4 rfl hK hP hD hS 0 rfl 8 (by decide) lq_51 rfl rfl rfl (Nat.le_of_ble_eq_true rfl) dX4_addAnswer_142 (fun H locs hP hD hS => ?_)
        have hP : va_P D vwCl [(a0, .inr (4, [.ref a1, .ref a2, .ref a3, .int x2, .int v_20260, .int v_20273, .int v_20274, .int v_20275, .int v_20276])), (a1, .inl (k0, 32, .inl f0)), (a2, .inl (k1, 32, .inl g_20272))] H := hP
        have hD : va_D A [(a0, .inr (4, [.ref a1, .ref a2, .ref a3, .int x2, .int v_20260, .int v_20273, .int v_20274, .int v_20275, .int v_20276])), (a1, .inl (k0, 32, .inl f0)), (a2, .inl (k1, 32, .inl g_20272))] := hD
        exact ka_rEv C hr hlk (Nat.le_of_ble_eq_true rfl) (Nat.le_of_ble_eq_true rfl) hS (ka_qE (v_20260, v_20273, v_20274, v_20275, v_20276, f0, g_20272) rfl trivial hK hP hD hS [0, 1, 2] (by decide) rfl [] rfl) dX4_addAnswer_145
  · skip
    refine lv_iload_n hx hb dX4_addAnswer_0 rfl (lv_at hl 1 rfl) ?_
    refine ka_RN (n := 1) C (cg_X6_isCase_7 l D F x0 (by omega)) gX4_addAnswer_X6_isCase_n46 rfl hN.2.2.2.2.2.1 lq_42 lq_43 (by decide +kernel) ⟨Nat.le_of_ble_eq_true rfl, Nat.le_of_ble_eq_true rfl⟩ hK hP hS hE hN [] rfl [] rfl rfl hl.1 (rest := []) rfl (Nat.le_of_ble_eq_true rfl) dX4_addAnswer_1 ⟨Nat.le_of_ble_eq_true rfl, Nat.le_of_ble_eq_true rfl⟩ (fun v hv => ?_)
    subst hv
    refine ka_stk (w := [.int 0]) rfl ?_
    refine lv_if_ne (tgt := 8) hx hb dX4_addAnswer_4 (by decide) (fun c_ => absurd (by decide) c_) (fun _ => ?_)
    exact ka_rEv C hr hlk (Nat.le_of_ble_eq_true rfl) (Nat.le_of_ble_eq_true rfl) hS (ka_qE (x3, x4, x5, x6, x7, f0, f1) rfl trivial hK hP hD hS [0, 1, 2] (by decide) rfl [] rfl) dX4_addAnswer_7
theorem lq_183 : ∀ w ∈ wsX60, w ∈ wsX6_answer := by decide +kernel
theorem lq_184 : Cond.fieldLink RX6 28 "AskedBack" "course" "LAskedBack$Course;" ∈ wsX6_answer := by decide +kernel
theorem lq_185 : Cond.fieldLink RX6 39 "AskedBack" "begun" "I" ∈ wsX6_answer := by decide +kernel
theorem lq_186 : Cond.fieldLink RX6 35 "AskedBack" "talk" "LAskedBack$Talk;" ∈ wsX6_answer := by decide +kernel
theorem lq_187 : ∀ w ∈ wsX40, w ∈ wsX6_answer := by decide +kernel
theorem lq_188 : Cond.fieldLink RX6 132 "AskedBack$Talk" "answers" "I" ∈ wsX6_answer := by decide +kernel
theorem lq_189 : ∀ w ∈ wsX10, w ∈ wsX6_answer := by decide +kernel
theorem lq_190 : Cond.fieldLink RX6 97 "AskedBack$Formula" "truth" "I" ∈ wsX6_answer := by decide +kernel
set_option maxHeartbeats 4000000 in
set_option maxRecDepth 100000 in
theorem cg_X6_answer_188 (l : Launch) (D : va_G) (F : Nat → Prop) (a0 : Nat) (x0 : Int32) (x1 : Int32) (a1 : Nat) (a2 : Nat) (a3 : Nat) (a4 : Nat) (x2 : Int32) (x3 : Int32) (x4 : Int32) (x5 : Int32) (x6 : Int32) (a5 : Nat) (a6 : Nat) (x7 : Int32) (k0 : ClassId) (a7 : Nat) (a8 : Nat) (a9 : Nat) (a10 : Nat) (a11 : Nat) (a12 : Nat) (a13 : Nat) (a14 : Nat) (x8 : Int32) (o0 : Option Nat) (a15 : Nat) (a16 : Nat) (x9 : Int32) (o1 : Option Nat) (a17 : Nat) (a18 : Nat) (x10 : Int32) (o2 : Option Nat) (a19 : Nat) (a20 : Nat) (x11 : Int32) (o3 : Option Nat) (a21 : Nat) (a22 : Nat) (x12 : Int32) (o4 : Option Nat) (a23 : Nat) (a24 : Nat) (x13 : Int32) (o5 : Option Nat) (a25 : Nat) (a26 : Nat) (a27 : Nat) (x14 : Int32) (x15 : Int32) (x16 : Int32) (x17 : Int32) (x18 : Int32) (x19 : Int32) (k1 : ClassId) (f0 : Nat → Int32) (k2 : ClassId) (f1 : Nat → Int32) (hx2 : -1 ≤ x2.toInt ∧ x2.toInt ≤ 5) (hx8 : 0 ≤ x8.toInt ∧ x8.toInt ≤ 12) (ho0 : ∀ a : Nat, o0 = some a → F a) (hx9 : 0 ≤ x9.toInt ∧ x9.toInt ≤ 12) (ho1 : ∀ a : Nat, o1 = some a → F a) (hx10 : 0 ≤ x10.toInt ∧ x10.toInt ≤ 12) (ho2 : ∀ a : Nat, o2 = some a → F a) (hx11 : 0 ≤ x11.toInt ∧ x11.toInt ≤ 12) (ho3 : ∀ a : Nat, o3 = some a → F a) (hx12 : 0 ≤ x12.toInt ∧ x12.toInt ≤ 12) (ho4 : ∀ a : Nat, o4 = some a → F a) (hx13 : 0 ≤ x13.toInt ∧ x13.toInt ≤ 12) (ho5 : ∀ a : Nat, o5 = some a → F a) (hx14 : 0 ≤ x14.toInt ∧ x14.toInt ≤ 10) : ka_E l D F yX6_answer wsX6_answer 4 84 0 0 [.ref a0, .int x0, .int x1] [(a0, .inr (6, [.ref a1, .ref a2, .ref a3, .ref a4, .int x2, .int x3, .int x4, .int x5, .int x6])), (a3, .inr (0, [.ref a5, .ref a6, .int x7])), (a5, .inl (k0, 6, .inr (.inr (.inr (.inr (va_up (va_up (va_up (va_up (va_up (va_up (fun _ => none) 0 (some a7)) 1 (some a8)) 2 (some a9)) 3 (some a10)) 4 (some a11)) 5 (some a12))))))), (a7, .inr (2, [.ref a13, .ref a14, .int x8, va_rf o0])), (a8, .inr (2, [.ref a15, .ref a16, .int x9, va_rf o1])), (a9, .inr (2, [.ref a17, .ref a18, .int x10, va_rf o2])), (a10, .inr (2, [.ref a19, .ref a20, .int x11, va_rf o3])), (a11, .inr (2, [.ref a21, .ref a22, .int x12, va_rf o4])), (a12, .inr (2, [.ref a23, .ref a24, .int x13, va_rf o5])), (a4, .inr (4, [.ref a25, .ref a26, .ref a27, .int x14, .int x15, .int x16, .int x17, .int x18, .int x19])), (a25, .inl (k1, 32, .inl f0)), (a26, .inl (k2, 32, .inl f1))] [(k0, .object RX2), (k1, .int), (k2, .int)] (fun (u : (Int32) × (Int32) × (Int32) × (Int32) × (Int32) × (Int32) × (Nat → Int32) × (Nat → Int32) × (Int32)) => some (.int (u.2.2.2.2.2.2.2.2))) (fun (u : (Int32) × (Int32) × (Int32) × (Int32) × (Int32) × (Int32) × (Nat → Int32) × (Nat → Int32) × (Int32)) => (-1 ≤ (u.2.2.2.2.2.2.2.2).toInt ∧ (u.2.2.2.2.2.2.2.2).toInt ≤ 1)) (fun (u : (Int32) × (Int32) × (Int32) × (Int32) × (Int32) × (Int32) × (Nat → Int32) × (Nat → Int32) × (Int32)) => [(a0, .inr (6, [.ref a1, .ref a2, .ref a3, .ref a4, .int x2, .int x3, .int x4, .int x5, .int x6])), (a3, .inr (0, [.ref a5, .ref a6, .int (u.1)])), (a5, .inl (k0, 6, .inr (.inr (.inr (.inr (va_up (va_up (va_up (va_up (va_up (va_up (fun _ => none) 0 (some a7)) 1 (some a8)) 2 (some a9)) 3 (some a10)) 4 (some a11)) 5 (some a12))))))), (a7, .inr (2, [.ref a13, .ref a14, .int x8, va_rf o0])), (a8, .inr (2, [.ref a15, .ref a16, .int x9, va_rf o1])), (a9, .inr (2, [.ref a17, .ref a18, .int x10, va_rf o2])), (a10, .inr (2, [.ref a19, .ref a20, .int x11, va_rf o3])), (a11, .inr (2, [.ref a21, .ref a22, .int x12, va_rf o4])), (a12, .inr (2, [.ref a23, .ref a24, .int x13, va_rf o5])), (a4, .inr (4, [.ref a25, .ref a26, .ref a27, .int x14, .int (u.2.1), .int (u.2.2.1), .int (u.2.2.2.1), .int (u.2.2.2.2.1), .int (u.2.2.2.2.2.1)])), (a25, .inl (k1, 32, .inl (u.2.2.2.2.2.2.1))), (a26, .inl (k2, 32, .inl (u.2.2.2.2.2.2.2.1)))]) (fun (u : (Int32) × (Int32) × (Int32) × (Int32) × (Int32) × (Int32) × (Nat → Int32) × (Nat → Int32) × (Int32)) => []) := by
  refine ka_E_of (cc := cX6_answer) (maxL := 5) (ret := (some .int)) (by decide) rfl (Nat.le_of_ble_eq_true rfl) ?_
  intro p e s m below meth c ls A C hr hlk hin hP hK hD hS hA hE hN hl
  have C : CallFix p m c cX6_answer 5 s [.ref a0, .int x0, .int x1].toArray wsX6_answer RX6 := C
  obtain ⟨hx, hb, hml, hown, hts⟩ := id C
  have hl : lv_has ls 5 [(0, .ref a0), (1, .int x0), (2, .int x1)] := hl
  have rx0 := ka_rng x0
  have rx1 := ka_rng x1
  have rx2 := ka_rng x2
  have rx3 := ka_rng x3
  have rx4 := ka_rng x4
  have rx5 := ka_rng x5
  have rx6 := ka_rng x6
  have rx7 := ka_rng x7
  have rx8 := ka_rng x8
  have rx9 := ka_rng x9
  have rx10 := ka_rng x10
  have rx11 := ka_rng x11
  have rx12 := ka_rng x12
  have rx13 := ka_rng x13
  have rx14 := ka_rng x14
  have rx15 := ka_rng x15
  have rx16 := ka_rng x16
  have rx17 := ka_rng x17
  have rx18 := ka_rng x18
  have rx19 := ka_rng x19
  refine lv_aload_n hx hb dX6_answer_0 rfl (lv_at hl 0 rfl) ?_
  refine ka_RV (n := 0) C (cg_X6_begunLaw_169 l D F a0 a1 a2 a3 a4 x2 x3 x4 x5 x6 a5 a6 x7 k0 a7 a8 a9 a10 a11 a12 a13 a14 x8 o0 a15 a16 x9 o1 a17 a18 x10 o2 a19 a20 x11 o3 a21 a22 x12 o4 a23 a24 x13 o5 ⟨by omega, by omega⟩ ⟨by omega, by omega⟩ ho0 ⟨by omega, by omega⟩ ho1 ⟨by omega, by omega⟩ ho2 ⟨by omega, by omega⟩ ho3 ⟨by omega, by omega⟩ ho4 ⟨by omega, by omega⟩ ho5) gX6_answer_X6_begunLaw rfl (by decide +kernel) ⟨Nat.le_of_ble_eq_true rfl, Nat.le_of_ble_eq_true rfl⟩ hK hP hS hE hN [0, 1, 2, 3, 4, 5, 6, 7, 8] rfl [0] rfl (ci := 6) rfl rfl 0 rfl rfl hl.1 (rest := []) rfl (Nat.le_of_ble_eq_true rfl) dX6_answer_1 ⟨Nat.le_of_ble_eq_true rfl, Nat.le_of_ble_eq_true rfl⟩ (fun v hv => ?_)
  obtain ⟨o_20313, rfl, ho_20313⟩ := hv
  refine ka_stk (w := [va_rf o_20313]) rfl ?_
  refine kb_astore_n (lv' := [(3, va_rf o_20313), (0, .ref a0), (1, .int x0), (2, .int x1)]) hx hb dX6_answer_4 rfl hl (by decide) (by first | rfl | simp [kb_rfc]) (fun ls hl => ?_)
  refine kb_aload_n hx hb dX6_answer_5 rfl (lv_at hl 0 rfl) ?_
  refine kb_ifnull (tgt := 30) hx hb dX6_answer_6 (by decide) (fun hfa_20314 => ?_) (fun fa_20314 hfa_20314 => ?_)
  · skip
    refine lv_iconst (v := (-1)) hx hb dX6_answer_30 (by decide) ?_
    exact ka_rEi C hr hlk (Nat.le_of_ble_eq_true rfl) (Nat.le_of_ble_eq_true rfl) hS (ka_qE (x7, x15, x16, x17, x18, x19, f0, f1, (-1)) rfl (show -1 ≤ ((-1 : Int32)).toInt ∧ ((-1 : Int32)).toInt ≤ 1 from ⟨by decide, by decide⟩) hK hP hD hS [0, 1, 2, 3, 4, 5, 6, 7, 8, 9, 10, 11] (by decide) rfl [] rfl) dX6_answer_31
  · have Ffa_20314 : F fa_20314 := ho_20313 fa_20314 hfa_20314
    refine lv_aload_n hx hb dX6_answer_9 rfl (lv_at hl 1 rfl) ?_
    refine ka_get C lq_183 rfl hK hP 0 rfl 2 (by decide) lq_184 rfl dX6_answer_10 ?_
    refine lv_aload_n hx hb dX6_answer_13 rfl (lv_at hl 1 rfl) ?_
    refine ka_get C lq_183 rfl hK hP 0 rfl 4 (by decide) lq_185 rfl dX6_answer_14 ?_
    refine ka_RV (n := 1) C (cg_X0_isDone_185 l D F a3 x2 a5 a6 x7 ⟨by omega, by omega⟩) gX6_answer_X0_isDone rfl (by decide +kernel) ⟨Nat.le_of_ble_eq_true rfl, Nat.le_of_ble_eq_true rfl⟩ hK hP hS hE hN [1] rfl [] rfl (ci := 0) rfl rfl 1 rfl rfl hl.1 (rest := []) rfl (Nat.le_of_ble_eq_true rfl) dX6_answer_17 ⟨Nat.le_of_ble_eq_true rfl, Nat.le_of_ble_eq_true rfl⟩ (fun v hv => ?_)
    obtain ⟨v_20315, rfl, hv_20315⟩ := hv
    have rv_20315 := ka_rng v_20315
    refine ka_stk (w := [.int v_20315]) rfl ?_
    refine lv_if_ne (tgt := 30) hx hb dX6_answer_20 (by decide) (fun c_20316 => ?_) (fun c_20316 => ?_)
    · have c_20316 : ¬ v_20315.toInt = 0 := by rw [ka_eq', show ((0 : Int32)).toInt = 0 from by decide] at c_20316; exact c_20316
      refine lv_iconst (v := (-1)) hx hb dX6_answer_30 (by decide) ?_
      exact ka_rEi C hr hlk (Nat.le_of_ble_eq_true rfl) (Nat.le_of_ble_eq_true rfl) hS (ka_qE (x7, x15, x16, x17, x18, x19, f0, f1, (-1)) rfl (show -1 ≤ ((-1 : Int32)).toInt ∧ ((-1 : Int32)).toInt ≤ 1 from ⟨by decide, by decide⟩) hK hP hD hS [0, 1, 2, 3, 4, 5, 6, 7, 8, 9, 10, 11] (by decide) rfl [] rfl) dX6_answer_31
    · have c_20316 : v_20315.toInt = 0 := by rw [ka_eq', show ((0 : Int32)).toInt = 0 from by decide] at c_20316; exact c_20316
      refine lv_iload_n hx hb dX6_answer_23 rfl (lv_at hl 2 rfl) ?_
      refine ka_RS (n := 1) C (cg_X6_isCase_171 l D F x0) gX6_answer_X6_isCase rfl (by decide +kernel) ⟨Nat.le_of_ble_eq_true rfl, Nat.le_of_ble_eq_true rfl⟩ hK hP hS hE hN [] rfl [] rfl rfl hl.1 (rest := []) rfl (Nat.le_of_ble_eq_true rfl) dX6_answer_24 ⟨Nat.le_of_ble_eq_true rfl, Nat.le_of_ble_eq_true rfl⟩ (fun v hv => ?_)
      obtain ⟨v_20317, rfl, hv_20317⟩ := hv
      have rv_20317 := ka_rng v_20317
      refine ka_stk (w := [.int v_20317]) rfl ?_
      refine lv_if_ne (tgt := 32) hx hb dX6_answer_27 (by decide) (fun c_20318 => ?_) (fun c_20318 => ?_)
      · have c_20318 : ¬ v_20317.toInt = 0 := by rw [ka_eq', show ((0 : Int32)).toInt = 0 from by decide] at c_20318; exact c_20318
        refine lv_iload_n hx hb dX6_answer_32 rfl (lv_at hl 3 rfl) ?_
        refine lv_if_lt (tgt := 53) hx hb dX6_answer_33 (by decide) (fun c_20319 => ?_) (fun c_20319 => ?_)
        · have c_20319 : x1.toInt < 0 := by rw [ka_lt', show ((0 : Int32)).toInt = 0 from by decide] at c_20319; exact c_20319
          refine lv_iconst (v := (-1)) hx hb dX6_answer_53 (by decide) ?_
          exact ka_rEi C hr hlk (Nat.le_of_ble_eq_true rfl) (Nat.le_of_ble_eq_true rfl) hS (ka_qE (x7, x15, x16, x17, x18, x19, f0, f1, (-1)) rfl (show -1 ≤ ((-1 : Int32)).toInt ∧ ((-1 : Int32)).toInt ≤ 1 from ⟨by decide, by decide⟩) hK hP hD hS [0, 1, 2, 3, 4, 5, 6, 7, 8, 9, 10, 11] (by decide) rfl [] rfl) dX6_answer_54
        · have c_20319 : ¬ x1.toInt < 0 := by rw [ka_lt', show ((0 : Int32)).toInt = 0 from by decide] at c_20319; exact c_20319
          refine lv_iload_n hx hb dX6_answer_36 rfl (lv_at hl 3 rfl) ?_
          refine lv_iconst (v := 1) hx hb dX6_answer_37 (by decide) ?_
          refine lv_icmp_gt (tgt := 53) hx hb dX6_answer_38 (by decide) (fun c_20320 => ?_) (fun c_20320 => ?_)
          · have c_20320 : 1 < x1.toInt := by rw [ka_lt', show ((1 : Int32)).toInt = 1 from by decide] at c_20320; exact c_20320
            refine lv_iconst (v := (-1)) hx hb dX6_answer_53 (by decide) ?_
            exact ka_rEi C hr hlk (Nat.le_of_ble_eq_true rfl) (Nat.le_of_ble_eq_true rfl) hS (ka_qE (x7, x15, x16, x17, x18, x19, f0, f1, (-1)) rfl (show -1 ≤ ((-1 : Int32)).toInt ∧ ((-1 : Int32)).toInt ≤ 1 from ⟨by decide, by decide⟩) hK hP hD hS [0, 1, 2, 3, 4, 5, 6, 7, 8, 9, 10, 11] (by decide) rfl [] rfl) dX6_answer_54
          · have c_20320 : ¬ 1 < x1.toInt := by rw [ka_lt', show ((1 : Int32)).toInt = 1 from by decide] at c_20320; exact c_20320
            refine lv_aload_n hx hb dX6_answer_41 rfl (lv_at hl 1 rfl) ?_
            refine ka_get C lq_183 rfl hK hP 0 rfl 3 (by decide) lq_186 rfl dX6_answer_42 ?_
            refine ka_get C lq_187 rfl hK hP 9 rfl 6 (by decide) lq_188 rfl dX6_answer_45 ?_
            refine lv_bipush (v := 40) hx hb dX6_answer_48 (by decide) ?_
            refine lv_icmp_lt (tgt := 55) hx hb dX6_answer_50 (by decide) (fun c_20321 => ?_) (fun c_20321 => ?_)
            · have c_20321 : x17.toInt < 40 := by rw [ka_lt', show ((40 : Int32)).toInt = 40 from by decide] at c_20321; exact c_20321
              refine kb_aload_n hx hb dX6_answer_55 rfl (lv_at hl 0 rfl) ?_
              refine ka_top (w := .ref fa_20314) (by rw [hfa_20314]; rfl) ?_
              obtain ⟨tru_20322, txu_20322, kku_20322, nnu_20322, ffu_20322, hnu_20322, hPu_20322, hKu_20322, -, -⟩ := (ka_FP_kept hE.2 hS.2.1) fa_20314 Ffa_20314
              refine ka_get C lq_189 rfl hKu_20322 hPu_20322 0 rfl 0 (by decide) lq_190 rfl dX6_answer_56 ?_
              have rtru_20322 := ka_rng tru_20322
              refine lv_iload_n hx hb dX6_answer_59 rfl (lv_at hl 2 rfl) ?_
              refine ka_RS (n := 2) C (ka_c_bitAt l D F tru_20322 x0) gX6_answer_X6_bitAt rfl (by decide +kernel) ⟨Nat.le_of_ble_eq_true rfl, Nat.le_of_ble_eq_true rfl⟩ hK hP hS hE hN [] rfl [] rfl rfl hl.1 (rest := []) rfl (Nat.le_of_ble_eq_true rfl) dX6_answer_60 ⟨Nat.le_of_ble_eq_true rfl, Nat.le_of_ble_eq_true rfl⟩ (fun v hv => ?_)
              subst hv
              refine ka_stk (w := .int (ka_bit tru_20322 x0) :: []) rfl ?_
              refine lv_topi (fun v_20323 ev_20323 => ?_)
              have fv_20323 := ka_bit_in tru_20322 x0; rw [← ev_20323] at fv_20323
              refine lv_iload_n hx hb dX6_answer_63 rfl (lv_at hl 3 rfl) ?_
              refine lv_icmp_ne (tgt := 71) hx hb dX6_answer_64 (by decide) (fun c_20324 => ?_) (fun c_20324 => ?_)
              · have c_20324 : ¬ v_20323.toInt = x1.toInt := by rw [ka_eq'] at c_20324; exact c_20324
                refine lv_iconst (v := 0) hx hb dX6_answer_71 (by decide) ?_
                refine lv_istore (lv' := [(4, .int 0), (3, va_rf o_20313), (0, .ref a0), (1, .int x0), (2, .int x1)]) hx hb dX6_answer_72 hl (by decide) (by first | rfl | simp [kb_rfc]) (fun ls hl => ?_)
                refine lv_aload_n hx hb dX6_answer_74 rfl (lv_at hl 2 rfl) ?_
                refine ka_get C lq_183 rfl hK hP 0 rfl 3 (by decide) lq_186 rfl dX6_answer_75 ?_
                refine lv_iload_n hx hb dX6_answer_78 rfl (lv_at hl 3 rfl) ?_
                refine lv_iload_n hx hb dX6_answer_79 rfl (lv_at hl 4 rfl) ?_
                refine lv_iload hx hb dX6_answer_80 (lv_at hl 0 rfl) ?_
                refine ka_EV (n := 3) (wr := [(a0, .inr (6, [.ref a1, .ref a2, .ref a3, .ref a4, .int x2, .int x3, .int x4, .int x5, .int x6])), (a3, .inr (0, [.ref a5, .ref a6, .int x7])), (a5, .inl (k0, 6, .inr (.inr (.inr (.inr (va_up (va_up (va_up (va_up (va_up (va_up (fun _ => none) 0 (some a7)) 1 (some a8)) 2 (some a9)) 3 (some a10)) 4 (some a11)) 5 (some a12))))))), (a7, .inr (2, [.ref a13, .ref a14, .int x8, va_rf o0])), (a8, .inr (2, [.ref a15, .ref a16, .int x9, va_rf o1])), (a9, .inr (2, [.ref a17, .ref a18, .int x10, va_rf o2])), (a10, .inr (2, [.ref a19, .ref a20, .int x11, va_rf o3])), (a11, .inr (2, [.ref a21, .ref a22, .int x12, va_rf o4])), (a12, .inr (2, [.ref a23, .ref a24, .int x13, va_rf o5]))]) C (cg_X4_addAnswer_186 l D F a4 x0 x1 a25 a26 a27 x14 x15 x16 x17 x18 x19 k1 f0 k2 f1 ⟨by omega, by omega⟩ ⟨by omega, by omega⟩) gX6_answer_X4_addAnswer rfl (by decide +kernel) ⟨Nat.le_of_ble_eq_true rfl, Nat.le_of_ble_eq_true rfl⟩ hK hP hD hS hA hE hN [9, 10, 11] rfl (by decide) [0, 1, 2, 3, 4, 5, 6, 7, 8] rfl (by decide) (by decide) [1, 2] rfl (ci := 4) rfl rfl 9 rfl rfl hl.1 (rest := []) rfl (Nat.le_of_ble_eq_true rfl) dX6_answer_82 ⟨Nat.le_of_ble_eq_true rfl, Nat.le_of_ble_eq_true rfl⟩ (fun u H locs hq hP hD hK hS => ?_)
                obtain ⟨v_20325, v_20326, v_20327, v_20328, v_20329, g_20330, g_20331⟩ := u
                have rv_20325 := ka_rng v_20325
                have rv_20326 := ka_rng v_20326
                have rv_20327 := ka_rng v_20327
                have rv_20328 := ka_rng v_20328
                have rv_20329 := ka_rng v_20329
                have hP : va_P D vwCl [(a0, .inr (6, [.ref a1, .ref a2, .ref a3, .ref a4, .int x2, .int x3, .int x4, .int x5, .int x6])), (a3, .inr (0, [.ref a5, .ref a6, .int x7])), (a5, .inl (k0, 6, .inr (.inr (.inr (.inr (va_up (va_up (va_up (va_up (va_up (va_up (fun _ => none) 0 (some a7)) 1 (some a8)) 2 (some a9)) 3 (some a10)) 4 (some a11)) 5 (some a12))))))), (a7, .inr (2, [.ref a13, .ref a14, .int x8, va_rf o0])), (a8, .inr (2, [.ref a15, .ref a16, .int x9, va_rf o1])), (a9, .inr (2, [.ref a17, .ref a18, .int x10, va_rf o2])), (a10, .inr (2, [.ref a19, .ref a20, .int x11, va_rf o3])), (a11, .inr (2, [.ref a21, .ref a22, .int x12, va_rf o4])), (a12, .inr (2, [.ref a23, .ref a24, .int x13, va_rf o5])), (a4, .inr (4, [.ref a25, .ref a26, .ref a27, .int x14, .int v_20325, .int v_20326, .int v_20327, .int v_20328, .int v_20329])), (a25, .inl (k1, 32, .inl g_20330)), (a26, .inl (k2, 32, .inl g_20331))] H := hP
                have hD : va_D A [(a0, .inr (6, [.ref a1, .ref a2, .ref a3, .ref a4, .int x2, .int x3, .int x4, .int x5, .int x6])), (a3, .inr (0, [.ref a5, .ref a6, .int x7])), (a5, .inl (k0, 6, .inr (.inr (.inr (.inr (va_up (va_up (va_up (va_up (va_up (va_up (fun _ => none) 0 (some a7)) 1 (some a8)) 2 (some a9)) 3 (some a10)) 4 (some a11)) 5 (some a12))))))), (a7, .inr (2, [.ref a13, .ref a14, .int x8, va_rf o0])), (a8, .inr (2, [.ref a15, .ref a16, .int x9, va_rf o1])), (a9, .inr (2, [.ref a17, .ref a18, .int x10, va_rf o2])), (a10, .inr (2, [.ref a19, .ref a20, .int x11, va_rf o3])), (a11, .inr (2, [.ref a21, .ref a22, .int x12, va_rf o4])), (a12, .inr (2, [.ref a23, .ref a24, .int x13, va_rf o5])), (a4, .inr (4, [.ref a25, .ref a26, .ref a27, .int x14, .int v_20325, .int v_20326, .int v_20327, .int v_20328, .int v_20329])), (a25, .inl (k1, 32, .inl g_20330)), (a26, .inl (k2, 32, .inl g_20331))] := hD
                have hK : va_K D vwCl [(k0, .object RX2), (k1, .int), (k2, .int)] s := by simpa using hK
                refine ka_stk (w := []) rfl ?_
                refine lv_aload_n hx hb dX6_answer_85 rfl (lv_at hl 2 rfl) ?_
                refine ka_EV (n := 0) (wr := [(a5, .inl (k0, 6, .inr (.inr (.inr (.inr (va_up (va_up (va_up (va_up (va_up (va_up (fun _ => none) 0 (some a7)) 1 (some a8)) 2 (some a9)) 3 (some a10)) 4 (some a11)) 5 (some a12))))))), (a7, .inr (2, [.ref a13, .ref a14, .int x8, va_rf o0])), (a8, .inr (2, [.ref a15, .ref a16, .int x9, va_rf o1])), (a9, .inr (2, [.ref a17, .ref a18, .int x10, va_rf o2])), (a10, .inr (2, [.ref a19, .ref a20, .int x11, va_rf o3])), (a11, .inr (2, [.ref a21, .ref a22, .int x12, va_rf o4])), (a12, .inr (2, [.ref a23, .ref a24, .int x13, va_rf o5])), (a25, .inl (k1, 32, .inl g_20330)), (a26, .inl (k2, 32, .inl g_20331))]) C (cg_X6_endIfDone_184 l D F a0 a1 a2 a3 a4 x2 x3 x4 x5 x6 a5 a6 x7 a25 a26 a27 x14 v_20325 v_20326 v_20327 v_20328 v_20329 ⟨by omega, by omega⟩ ⟨by omega, by omega⟩) gX6_answer_X6_endIfDone rfl (by decide +kernel) ⟨Nat.le_of_ble_eq_true rfl, Nat.le_of_ble_eq_true rfl⟩ hK hP hD hS hA hE hN [0, 1, 9] rfl (by decide) [2, 3, 4, 5, 6, 7, 8, 10, 11] rfl (by decide) (by decide) [] rfl (ci := 6) rfl rfl 0 rfl rfl hl.1 (rest := []) rfl (Nat.le_of_ble_eq_true rfl) dX6_answer_86 ⟨Nat.le_of_ble_eq_true rfl, Nat.le_of_ble_eq_true rfl⟩ (fun u H locs hq hP hD hK hS => ?_)
                obtain ⟨v_20332, rfl⟩ : ∃ z, z = u := ⟨_, rfl⟩
                have rv_20332 := ka_rng v_20332
                have hP : va_P D vwCl [(a5, .inl (k0, 6, .inr (.inr (.inr (.inr (va_up (va_up (va_up (va_up (va_up (va_up (fun _ => none) 0 (some a7)) 1 (some a8)) 2 (some a9)) 3 (some a10)) 4 (some a11)) 5 (some a12))))))), (a7, .inr (2, [.ref a13, .ref a14, .int x8, va_rf o0])), (a8, .inr (2, [.ref a15, .ref a16, .int x9, va_rf o1])), (a9, .inr (2, [.ref a17, .ref a18, .int x10, va_rf o2])), (a10, .inr (2, [.ref a19, .ref a20, .int x11, va_rf o3])), (a11, .inr (2, [.ref a21, .ref a22, .int x12, va_rf o4])), (a12, .inr (2, [.ref a23, .ref a24, .int x13, va_rf o5])), (a25, .inl (k1, 32, .inl g_20330)), (a26, .inl (k2, 32, .inl g_20331)), (a0, .inr (6, [.ref a1, .ref a2, .ref a3, .ref a4, .int x2, .int x3, .int x4, .int x5, .int x6])), (a3, .inr (0, [.ref a5, .ref a6, .int v_20332])), (a4, .inr (4, [.ref a25, .ref a26, .ref a27, .int x14, .int v_20325, .int v_20326, .int v_20327, .int v_20328, .int v_20329]))] H := hP
                have hD : va_D A [(a5, .inl (k0, 6, .inr (.inr (.inr (.inr (va_up (va_up (va_up (va_up (va_up (va_up (fun _ => none) 0 (some a7)) 1 (some a8)) 2 (some a9)) 3 (some a10)) 4 (some a11)) 5 (some a12))))))), (a7, .inr (2, [.ref a13, .ref a14, .int x8, va_rf o0])), (a8, .inr (2, [.ref a15, .ref a16, .int x9, va_rf o1])), (a9, .inr (2, [.ref a17, .ref a18, .int x10, va_rf o2])), (a10, .inr (2, [.ref a19, .ref a20, .int x11, va_rf o3])), (a11, .inr (2, [.ref a21, .ref a22, .int x12, va_rf o4])), (a12, .inr (2, [.ref a23, .ref a24, .int x13, va_rf o5])), (a25, .inl (k1, 32, .inl g_20330)), (a26, .inl (k2, 32, .inl g_20331)), (a0, .inr (6, [.ref a1, .ref a2, .ref a3, .ref a4, .int x2, .int x3, .int x4, .int x5, .int x6])), (a3, .inr (0, [.ref a5, .ref a6, .int v_20332])), (a4, .inr (4, [.ref a25, .ref a26, .ref a27, .int x14, .int v_20325, .int v_20326, .int v_20327, .int v_20328, .int v_20329]))] := hD
                have hK : va_K D vwCl [(k0, .object RX2), (k1, .int), (k2, .int)] s := by simpa using hK
                refine ka_stk (w := []) rfl ?_
                refine lv_iload hx hb dX6_answer_89 (lv_at hl 0 rfl) ?_
                refine lv_if_eq (tgt := 98) hx hb dX6_answer_91 (by decide) (fun _ => ?_) (fun c_ => absurd (by decide) c_)
                refine lv_iconst (v := 0) hx hb dX6_answer_98 (by decide) ?_
                exact ka_rEi C hr hlk (Nat.le_of_ble_eq_true rfl) (Nat.le_of_ble_eq_true rfl) hS (ka_qE (v_20332, v_20325, v_20326, v_20327, v_20328, v_20329, g_20330, g_20331, 0) rfl (show -1 ≤ ((0 : Int32)).toInt ∧ ((0 : Int32)).toInt ≤ 1 from ⟨by decide, by decide⟩) hK hP hD hS [9, 10, 0, 1, 2, 3, 4, 5, 6, 11, 7, 8] (by decide) rfl [] rfl) dX6_answer_99
              · have c_20324 : v_20323.toInt = x1.toInt := by rw [ka_eq'] at c_20324; exact c_20324
                refine lv_iconst (v := 1) hx hb dX6_answer_67 (by decide) ?_
                refine lv_goto (tgt := 72) hx hb dX6_answer_68 (by decide) ?_
                refine lv_istore (lv' := [(4, .int 1), (3, va_rf o_20313), (0, .ref a0), (1, .int x0), (2, .int x1)]) hx hb dX6_answer_72 hl (by decide) (by first | rfl | simp [kb_rfc]) (fun ls hl => ?_)
                refine lv_aload_n hx hb dX6_answer_74 rfl (lv_at hl 2 rfl) ?_
                refine ka_get C lq_183 rfl hK hP 0 rfl 3 (by decide) lq_186 rfl dX6_answer_75 ?_
                refine lv_iload_n hx hb dX6_answer_78 rfl (lv_at hl 3 rfl) ?_
                refine lv_iload_n hx hb dX6_answer_79 rfl (lv_at hl 4 rfl) ?_
                refine lv_iload hx hb dX6_answer_80 (lv_at hl 0 rfl) ?_
                refine ka_EV (n := 3) (wr := [(a0, .inr (6, [.ref a1, .ref a2, .ref a3, .ref a4, .int x2, .int x3, .int x4, .int x5, .int x6])), (a3, .inr (0, [.ref a5, .ref a6, .int x7])), (a5, .inl (k0, 6, .inr (.inr (.inr (.inr (va_up (va_up (va_up (va_up (va_up (va_up (fun _ => none) 0 (some a7)) 1 (some a8)) 2 (some a9)) 3 (some a10)) 4 (some a11)) 5 (some a12))))))), (a7, .inr (2, [.ref a13, .ref a14, .int x8, va_rf o0])), (a8, .inr (2, [.ref a15, .ref a16, .int x9, va_rf o1])), (a9, .inr (2, [.ref a17, .ref a18, .int x10, va_rf o2])), (a10, .inr (2, [.ref a19, .ref a20, .int x11, va_rf o3])), (a11, .inr (2, [.ref a21, .ref a22, .int x12, va_rf o4])), (a12, .inr (2, [.ref a23, .ref a24, .int x13, va_rf o5]))]) C (cg_X4_addAnswer_187 l D F a4 x0 x1 a25 a26 a27 x14 x15 x16 x17 x18 x19 k1 f0 k2 f1 ⟨by omega, by omega⟩ ⟨by omega, by omega⟩) gX6_answer_X4_addAnswer rfl (by decide +kernel) ⟨Nat.le_of_ble_eq_true rfl, Nat.le_of_ble_eq_true rfl⟩ hK hP hD hS hA hE hN [9, 10, 11] rfl (by decide) [0, 1, 2, 3, 4, 5, 6, 7, 8] rfl (by decide) (by decide) [1, 2] rfl (ci := 4) rfl rfl 9 rfl rfl hl.1 (rest := []) rfl (Nat.le_of_ble_eq_true rfl) dX6_answer_82 ⟨Nat.le_of_ble_eq_true rfl, Nat.le_of_ble_eq_true rfl⟩ (fun u H locs hq hP hD hK hS => ?_)
                obtain ⟨v_20333, v_20334, v_20335, v_20336, v_20337, g_20338, g_20339⟩ := u
                have rv_20333 := ka_rng v_20333
                have rv_20334 := ka_rng v_20334
                have rv_20335 := ka_rng v_20335
                have rv_20336 := ka_rng v_20336
                have rv_20337 := ka_rng v_20337
                have hP : va_P D vwCl [(a0, .inr (6, [.ref a1, .ref a2, .ref a3, .ref a4, .int x2, .int x3, .int x4, .int x5, .int x6])), (a3, .inr (0, [.ref a5, .ref a6, .int x7])), (a5, .inl (k0, 6, .inr (.inr (.inr (.inr (va_up (va_up (va_up (va_up (va_up (va_up (fun _ => none) 0 (some a7)) 1 (some a8)) 2 (some a9)) 3 (some a10)) 4 (some a11)) 5 (some a12))))))), (a7, .inr (2, [.ref a13, .ref a14, .int x8, va_rf o0])), (a8, .inr (2, [.ref a15, .ref a16, .int x9, va_rf o1])), (a9, .inr (2, [.ref a17, .ref a18, .int x10, va_rf o2])), (a10, .inr (2, [.ref a19, .ref a20, .int x11, va_rf o3])), (a11, .inr (2, [.ref a21, .ref a22, .int x12, va_rf o4])), (a12, .inr (2, [.ref a23, .ref a24, .int x13, va_rf o5])), (a4, .inr (4, [.ref a25, .ref a26, .ref a27, .int x14, .int v_20333, .int v_20334, .int v_20335, .int v_20336, .int v_20337])), (a25, .inl (k1, 32, .inl g_20338)), (a26, .inl (k2, 32, .inl g_20339))] H := hP
                have hD : va_D A [(a0, .inr (6, [.ref a1, .ref a2, .ref a3, .ref a4, .int x2, .int x3, .int x4, .int x5, .int x6])), (a3, .inr (0, [.ref a5, .ref a6, .int x7])), (a5, .inl (k0, 6, .inr (.inr (.inr (.inr (va_up (va_up (va_up (va_up (va_up (va_up (fun _ => none) 0 (some a7)) 1 (some a8)) 2 (some a9)) 3 (some a10)) 4 (some a11)) 5 (some a12))))))), (a7, .inr (2, [.ref a13, .ref a14, .int x8, va_rf o0])), (a8, .inr (2, [.ref a15, .ref a16, .int x9, va_rf o1])), (a9, .inr (2, [.ref a17, .ref a18, .int x10, va_rf o2])), (a10, .inr (2, [.ref a19, .ref a20, .int x11, va_rf o3])), (a11, .inr (2, [.ref a21, .ref a22, .int x12, va_rf o4])), (a12, .inr (2, [.ref a23, .ref a24, .int x13, va_rf o5])), (a4, .inr (4, [.ref a25, .ref a26, .ref a27, .int x14, .int v_20333, .int v_20334, .int v_20335, .int v_20336, .int v_20337])), (a25, .inl (k1, 32, .inl g_20338)), (a26, .inl (k2, 32, .inl g_20339))] := hD
                have hK : va_K D vwCl [(k0, .object RX2), (k1, .int), (k2, .int)] s := by simpa using hK
                refine ka_stk (w := []) rfl ?_
                refine lv_aload_n hx hb dX6_answer_85 rfl (lv_at hl 2 rfl) ?_
                refine ka_EV (n := 0) (wr := [(a5, .inl (k0, 6, .inr (.inr (.inr (.inr (va_up (va_up (va_up (va_up (va_up (va_up (fun _ => none) 0 (some a7)) 1 (some a8)) 2 (some a9)) 3 (some a10)) 4 (some a11)) 5 (some a12))))))), (a7, .inr (2, [.ref a13, .ref a14, .int x8, va_rf o0])), (a8, .inr (2, [.ref a15, .ref a16, .int x9, va_rf o1])), (a9, .inr (2, [.ref a17, .ref a18, .int x10, va_rf o2])), (a10, .inr (2, [.ref a19, .ref a20, .int x11, va_rf o3])), (a11, .inr (2, [.ref a21, .ref a22, .int x12, va_rf o4])), (a12, .inr (2, [.ref a23, .ref a24, .int x13, va_rf o5])), (a25, .inl (k1, 32, .inl g_20338)), (a26, .inl (k2, 32, .inl g_20339))]) C (cg_X6_endIfDone_184 l D F a0 a1 a2 a3 a4 x2 x3 x4 x5 x6 a5 a6 x7 a25 a26 a27 x14 v_20333 v_20334 v_20335 v_20336 v_20337 ⟨by omega, by omega⟩ ⟨by omega, by omega⟩) gX6_answer_X6_endIfDone rfl (by decide +kernel) ⟨Nat.le_of_ble_eq_true rfl, Nat.le_of_ble_eq_true rfl⟩ hK hP hD hS hA hE hN [0, 1, 9] rfl (by decide) [2, 3, 4, 5, 6, 7, 8, 10, 11] rfl (by decide) (by decide) [] rfl (ci := 6) rfl rfl 0 rfl rfl hl.1 (rest := []) rfl (Nat.le_of_ble_eq_true rfl) dX6_answer_86 ⟨Nat.le_of_ble_eq_true rfl, Nat.le_of_ble_eq_true rfl⟩ (fun u H locs hq hP hD hK hS => ?_)
                obtain ⟨v_20340, rfl⟩ : ∃ z, z = u := ⟨_, rfl⟩
                have rv_20340 := ka_rng v_20340
                have hP : va_P D vwCl [(a5, .inl (k0, 6, .inr (.inr (.inr (.inr (va_up (va_up (va_up (va_up (va_up (va_up (fun _ => none) 0 (some a7)) 1 (some a8)) 2 (some a9)) 3 (some a10)) 4 (some a11)) 5 (some a12))))))), (a7, .inr (2, [.ref a13, .ref a14, .int x8, va_rf o0])), (a8, .inr (2, [.ref a15, .ref a16, .int x9, va_rf o1])), (a9, .inr (2, [.ref a17, .ref a18, .int x10, va_rf o2])), (a10, .inr (2, [.ref a19, .ref a20, .int x11, va_rf o3])), (a11, .inr (2, [.ref a21, .ref a22, .int x12, va_rf o4])), (a12, .inr (2, [.ref a23, .ref a24, .int x13, va_rf o5])), (a25, .inl (k1, 32, .inl g_20338)), (a26, .inl (k2, 32, .inl g_20339)), (a0, .inr (6, [.ref a1, .ref a2, .ref a3, .ref a4, .int x2, .int x3, .int x4, .int x5, .int x6])), (a3, .inr (0, [.ref a5, .ref a6, .int v_20340])), (a4, .inr (4, [.ref a25, .ref a26, .ref a27, .int x14, .int v_20333, .int v_20334, .int v_20335, .int v_20336, .int v_20337]))] H := hP
                have hD : va_D A [(a5, .inl (k0, 6, .inr (.inr (.inr (.inr (va_up (va_up (va_up (va_up (va_up (va_up (fun _ => none) 0 (some a7)) 1 (some a8)) 2 (some a9)) 3 (some a10)) 4 (some a11)) 5 (some a12))))))), (a7, .inr (2, [.ref a13, .ref a14, .int x8, va_rf o0])), (a8, .inr (2, [.ref a15, .ref a16, .int x9, va_rf o1])), (a9, .inr (2, [.ref a17, .ref a18, .int x10, va_rf o2])), (a10, .inr (2, [.ref a19, .ref a20, .int x11, va_rf o3])), (a11, .inr (2, [.ref a21, .ref a22, .int x12, va_rf o4])), (a12, .inr (2, [.ref a23, .ref a24, .int x13, va_rf o5])), (a25, .inl (k1, 32, .inl g_20338)), (a26, .inl (k2, 32, .inl g_20339)), (a0, .inr (6, [.ref a1, .ref a2, .ref a3, .ref a4, .int x2, .int x3, .int x4, .int x5, .int x6])), (a3, .inr (0, [.ref a5, .ref a6, .int v_20340])), (a4, .inr (4, [.ref a25, .ref a26, .ref a27, .int x14, .int v_20333, .int v_20334, .int v_20335, .int v_20336, .int v_20337]))] := hD
                have hK : va_K D vwCl [(k0, .object RX2), (k1, .int), (k2, .int)] s := by simpa using hK
                refine ka_stk (w := []) rfl ?_
                refine lv_iload hx hb dX6_answer_89 (lv_at hl 0 rfl) ?_
                refine lv_if_eq (tgt := 98) hx hb dX6_answer_91 (by decide) (fun c_ => absurd c_ (by decide)) (fun _ => ?_)
                refine lv_iconst (v := 1) hx hb dX6_answer_94 (by decide) ?_
                refine lv_goto (tgt := 99) hx hb dX6_answer_95 (by decide) ?_
                exact ka_rEi C hr hlk (Nat.le_of_ble_eq_true rfl) (Nat.le_of_ble_eq_true rfl) hS (ka_qE (v_20340, v_20333, v_20334, v_20335, v_20336, v_20337, g_20338, g_20339, 1) rfl (show -1 ≤ ((1 : Int32)).toInt ∧ ((1 : Int32)).toInt ≤ 1 from ⟨by decide, by decide⟩) hK hP hD hS [9, 10, 0, 1, 2, 3, 4, 5, 6, 11, 7, 8] (by decide) rfl [] rfl) dX6_answer_99
            · have c_20321 : ¬ x17.toInt < 40 := by rw [ka_lt', show ((40 : Int32)).toInt = 40 from by decide] at c_20321; exact c_20321
              refine lv_iconst (v := (-1)) hx hb dX6_answer_53 (by decide) ?_
              exact ka_rEi C hr hlk (Nat.le_of_ble_eq_true rfl) (Nat.le_of_ble_eq_true rfl) hS (ka_qE (x7, x15, x16, x17, x18, x19, f0, f1, (-1)) rfl (show -1 ≤ ((-1 : Int32)).toInt ∧ ((-1 : Int32)).toInt ≤ 1 from ⟨by decide, by decide⟩) hK hP hD hS [0, 1, 2, 3, 4, 5, 6, 7, 8, 9, 10, 11] (by decide) rfl [] rfl) dX6_answer_54
      · have c_20318 : v_20317.toInt = 0 := by rw [ka_eq', show ((0 : Int32)).toInt = 0 from by decide] at c_20318; exact c_20318
        refine lv_iconst (v := (-1)) hx hb dX6_answer_30 (by decide) ?_
        exact ka_rEi C hr hlk (Nat.le_of_ble_eq_true rfl) (Nat.le_of_ble_eq_true rfl) hS (ka_qE (x7, x15, x16, x17, x18, x19, f0, f1, (-1)) rfl (show -1 ≤ ((-1 : Int32)).toInt ∧ ((-1 : Int32)).toInt ≤ 1 from ⟨by decide, by decide⟩) hK hP hD hS [0, 1, 2, 3, 4, 5, 6, 7, 8, 9, 10, 11] (by decide) rfl [] rfl) dX6_answer_31
set_option maxHeartbeats 4000000 in
set_option maxRecDepth 100000 in
theorem cg_X2_pictureAt_189 (l : Launch) (D : va_G) (F : Nat → Prop) (a0 : Nat) (x0 : Int32) (a1 : Nat) (a2 : Nat) (x1 : Int32) (o0 : Option Nat) (k0 : ClassId) (po0 : Nat → Option Nat) (hx0 : 0 ≤ x0.toInt ∧ x0.toInt ≤ 11) (hx1 : 0 ≤ x1.toInt ∧ x1.toInt ≤ 12) (ho0 : ∀ a : Nat, o0 = some a → F a) (hpo0 : ∀ (j a : Nat), po0 j = some a → F a) : ka_R l D F yX2_pictureAt wsX2_pictureAt 0 0 [.ref a0, .int x0] [(a0, .inr (2, [.ref a1, .ref a2, .int x1, va_rf o0])), (a1, .inl (k0, 12, .inr (.inr (.inr (.inr po0)))))] [(k0, .object RX1)] (fun v => ∃ o : Option Nat, v = some (va_rf o) ∧ ∀ a : Nat, o = some a → F a) := by
  refine ka_R_of (cc := cX2_pictureAt) (maxL := 2) (ret := (some (.object "AskedBack$Formula"))) (by decide) rfl (Nat.le_of_ble_eq_true rfl) ?_
  intro p e s m below meth c ls C hr hlk hP hK hE hN hl
  have hS : va_S (fun _ => False) s.heap s.heap [] := va_S.rf
  have C : CallFix p m c cX2_pictureAt 2 s [.ref a0, .int x0].toArray wsX2_pictureAt RX2 := C
  obtain ⟨hx, hb, hml, hown, hts⟩ := id C
  have hl : lv_has ls 2 [(0, .ref a0), (1, .int x0)] := hl
  have rx0 := ka_rng x0
  have rx1 := ka_rng x1
  refine lv_iload_n hx hb dX2_pictureAt_0 rfl (lv_at hl 1 rfl) ?_
  refine lv_if_lt (tgt := 30) hx hb dX2_pictureAt_1 (by decide) (fun c_ => absurd c_ (by rw [ka_lt', show ((0 : Int32)).toInt = 0 from by decide]; omega)) (fun _ => ?_)
  refine lv_iload_n hx hb dX2_pictureAt_4 rfl (lv_at hl 1 rfl) ?_
  refine lv_aload_n hx hb dX2_pictureAt_5 rfl (lv_at hl 0 rfl) ?_
  refine ka_get C lq_131 rfl hK hP 0 rfl 2 (by decide) lq_132 rfl dX2_pictureAt_6 ?_
  refine lv_icmp_ge (tgt := 30) hx hb dX2_pictureAt_9 (by decide) (fun c_20421 => ?_) (fun c_20421 => ?_)
  · have c_20421 : x1.toInt ≤ x0.toInt := by rw [ka_le'] at c_20421; exact c_20421
    refine lv_null hx hb dX2_pictureAt_30 ?_
    exact ka_rRa C hr hlk (Or.inl ⟨_, rfl⟩) (Or.inl rfl) ⟨none, rfl, (fun _ h => by cases h)⟩ dX2_pictureAt_31
  · have c_20421 : ¬ x1.toInt ≤ x0.toInt := by rw [ka_le'] at c_20421; exact c_20421
    refine lv_iload_n hx hb dX2_pictureAt_12 rfl (lv_at hl 1 rfl) ?_
    refine lv_aload_n hx hb dX2_pictureAt_13 rfl (lv_at hl 0 rfl) ?_
    refine ka_get C lq_131 rfl hK hP 0 rfl 0 (by decide) lq_133 rfl dX2_pictureAt_14 ?_
    refine va_alen hx hb hK hP 1 0 rfl (ty := .object RX1) rfl (v := 12) rfl dX2_pictureAt_17 ?_
    refine lv_icmp_ge (tgt := 30) hx hb dX2_pictureAt_18 (by decide) (fun c_ => absurd c_ (by rw [ka_le', show ((12 : Int32)).toInt = 12 from by decide]; omega)) (fun _ => ?_)
    refine lv_aload_n hx hb dX2_pictureAt_21 rfl (lv_at hl 0 rfl) ?_
    refine ka_get C lq_131 rfl hK hP 0 rfl 0 (by decide) lq_133 rfl dX2_pictureAt_22 ?_
    refine lv_iload_n hx hb dX2_pictureAt_25 rfl (lv_at hl 1 rfl) ?_
    refine va_aldq hx hb hK hP 1 0 rfl rfl (ka_in (by omega) (by omega)) dX2_pictureAt_26 ?_
    refine kb_topo (fun o_20422 eo_20422 => ?_)
    have ho_20422 : ∀ a : Nat, o_20422 = some a → F a := fun a h => hpo0 _ a (eo_20422.symm.trans h)
    refine lv_goto (tgt := 31) hx hb dX2_pictureAt_27 (by decide) ?_
    exact ka_rRa C hr hlk (Or.inl ⟨_, rfl⟩) (va_rf_or _) ⟨o_20422, rfl, ho_20422⟩ dX2_pictureAt_31
theorem lq_191 : ∀ w ∈ wsX20, w ∈ wsX6_leftOf := by decide +kernel
theorem lq_192 : Cond.fieldLink RX6 83 "AskedBack$Lesson" "pictureCount" "I" ∈ wsX6_leftOf := by decide +kernel
theorem lq_193 : ∀ w ∈ wsX60, w ∈ wsX6_leftOf := by decide +kernel
theorem lq_194 : Cond.fieldLink RX6 35 "AskedBack" "talk" "LAskedBack$Talk;" ∈ wsX6_leftOf := by decide +kernel
theorem lq_195 : ∀ w ∈ wsX10, w ∈ wsX6_leftOf := by decide +kernel
theorem lq_196 : Cond.fieldLink RX6 97 "AskedBack$Formula" "truth" "I" ∈ wsX6_leftOf := by decide +kernel
theorem lq_197 : Cond.fieldLink RX6 46 "AskedBack" "slipsLet" "I" ∈ wsX6_leftOf := by decide +kernel
set_option maxHeartbeats 4000000 in
set_option maxRecDepth 100000 in
theorem cg_X6_leftOf_190 (l : Launch) (D : va_G) (F : Nat → Prop) (a0 : Nat) (a1 : Nat) (a2 : Nat) (a3 : Nat) (a4 : Nat) (a5 : Nat) (x0 : Int32) (x1 : Int32) (x2 : Int32) (x3 : Int32) (x4 : Int32) (a6 : Nat) (a7 : Nat) (x5 : Int32) (o0 : Option Nat) (k0 : ClassId) (po0 : Nat → Option Nat) (a8 : Nat) (a9 : Nat) (a10 : Nat) (x6 : Int32) (x7 : Int32) (x8 : Int32) (x9 : Int32) (x10 : Int32) (x11 : Int32) (k1 : ClassId) (f0 : Nat → Int32) (k2 : ClassId) (f1 : Nat → Int32) (hx0 : -1 ≤ x0.toInt ∧ x0.toInt ≤ 5) (hx5 : 0 ≤ x5.toInt ∧ x5.toInt ≤ 12) (ho0 : ∀ a : Nat, o0 = some a → F a) (hpo0 : ∀ (j a : Nat), po0 j = some a → F a) (hx6 : 0 ≤ x6.toInt ∧ x6.toInt ≤ 10) : ka_R l D F yX6_leftOf wsX6_leftOf 3 66 [.ref a0, .ref a1] [(a0, .inr (6, [.ref a2, .ref a3, .ref a4, .ref a5, .int x0, .int x1, .int x2, .int x3, .int x4])), (a1, .inr (2, [.ref a6, .ref a7, .int x5, va_rf o0])), (a6, .inl (k0, 12, .inr (.inr (.inr (.inr po0))))), (a5, .inr (4, [.ref a8, .ref a9, .ref a10, .int x6, .int x7, .int x8, .int x9, .int x10, .int x11])), (a8, .inl (k1, 32, .inl f0)), (a9, .inl (k2, 32, .inl f1))] [(k0, .object RX1), (k1, .int), (k2, .int)] (fun v => ∃ x : Int32, v = some (.int x)) := by
  refine ka_R_of (cc := cX6_leftOf) (maxL := 5) (ret := (some .int)) (by decide) rfl (Nat.le_of_ble_eq_true rfl) ?_
  intro p e s m below meth c ls C hr hlk hP hK hE hN hl
  have hS : va_S (fun _ => False) s.heap s.heap [] := va_S.rf
  have C : CallFix p m c cX6_leftOf 5 s [.ref a0, .ref a1].toArray wsX6_leftOf RX6 := C
  obtain ⟨hx, hb, hml, hown, hts⟩ := id C
  have hl : lv_has ls 5 [(0, .ref a0), (1, .ref a1)] := hl
  have rx0 := ka_rng x0
  have rx1 := ka_rng x1
  have rx2 := ka_rng x2
  have rx3 := ka_rng x3
  have rx4 := ka_rng x4
  have rx5 := ka_rng x5
  have rx6 := ka_rng x6
  have rx7 := ka_rng x7
  have rx8 := ka_rng x8
  have rx9 := ka_rng x9
  have rx10 := ka_rng x10
  have rx11 := ka_rng x11
  refine lv_aload_n hx hb dX6_leftOf_0 rfl (lv_at hl 1 rfl) ?_
  refine lv_ifnonnull (tgt := 6) hx hb dX6_leftOf_1 (by decide) ?_
  refine lv_iconst (v := 0) hx hb dX6_leftOf_6 (by decide) ?_
  refine lv_istore_n (lv' := [(2, .int 0), (0, .ref a0), (1, .ref a1)]) hx hb dX6_leftOf_7 rfl hl (by decide) rfl (fun ls hl => ?_)
  refine lv_iconst (v := 0) hx hb dX6_leftOf_8 (by decide) ?_
  refine lv_istore_n (lv' := [(3, .int 0), (2, .int 0), (0, .ref a0), (1, .ref a1)]) hx hb dX6_leftOf_9 rfl hl (by decide) rfl (fun ls hl => ?_)
  have lp_20467 : ∀ (n : Nat) (i20467_2 : Int32) (i20467_3 : Int32), (0 ≤ i20467_3.toInt ∧ i20467_3.toInt ≤ 12) → (12 - i20467_3.toInt).toNat < n → ∀ (ls : Array Slot), lv_has ls 5 [(0, .ref a0), (1, .ref a1), (2, .int i20467_2), (3, .int i20467_3)] → W p l e ({ frames := 3, cells := 0, slots := 0, locals := 66 }) s m [.ref a0, .ref a1].toArray below meth c s.heap [] 0 0 (MQ below (ka_QR (fun v => ∃ x : Int32, v = some (.int x))) [.ref a0, .ref a1].toArray s 0 0 (fun _ => False)) (F0 m 10 ls []) := by
    intro n
    induction n with
    | zero =>
      intro i20467_2 i20467_3 hi20467_3 hm
      exact absurd hm (Nat.not_lt_zero _)
    | succ n ih_20467 =>
      intro i20467_2 i20467_3 hi20467_3 hm ls hl
      have ri20467_2 := ka_rng i20467_2
      have ri20467_3 := ka_rng i20467_3
      refine lv_iload_n hx hb dX6_leftOf_10 rfl (lv_at hl 3 rfl) ?_
      refine lv_aload_n hx hb dX6_leftOf_11 rfl (lv_at hl 1 rfl) ?_
      refine ka_get C lq_191 rfl hK hP 1 rfl 2 (by decide) lq_192 rfl dX6_leftOf_12 ?_
      refine lv_icmp_ge (tgt := 61) hx hb dX6_leftOf_15 (by decide) (fun c_20479 => ?_) (fun c_20479 => ?_)
      · have c_20479 : x5.toInt ≤ i20467_3.toInt := by rw [ka_le'] at c_20479; exact c_20479
        refine lv_iload_n hx hb dX6_leftOf_61 rfl (lv_at hl 2 rfl) ?_
        exact ka_rRi C hr hlk ⟨_, rfl⟩ dX6_leftOf_62
      · have c_20479 : ¬ x5.toInt ≤ i20467_3.toInt := by rw [ka_le'] at c_20479; exact c_20479
        refine lv_aload_n hx hb dX6_leftOf_18 rfl (lv_at hl 1 rfl) ?_
        refine lv_iload_n hx hb dX6_leftOf_19 rfl (lv_at hl 3 rfl) ?_
        refine ka_RV (n := 1) C (cg_X2_pictureAt_189 l D F a1 i20467_3 a6 a7 x5 o0 k0 po0 ⟨by omega, by omega⟩ ⟨by omega, by omega⟩ ho0 hpo0) gX6_leftOf_X2_pictureAt rfl (by decide +kernel) ⟨Nat.le_of_ble_eq_true rfl, Nat.le_of_ble_eq_true rfl⟩ hK hP hS hE hN [1, 2] rfl [0] rfl (ci := 2) rfl rfl 1 rfl rfl hl.1 (rest := []) rfl (Nat.le_of_ble_eq_true rfl) dX6_leftOf_20 ⟨Nat.le_of_ble_eq_true rfl, Nat.le_of_ble_eq_true rfl⟩ (fun v hv => ?_)
        obtain ⟨o_20480, rfl, ho_20480⟩ := hv
        refine ka_stk (w := [va_rf o_20480]) rfl ?_
        refine kb_astore (lv' := [(4, va_rf o_20480), (0, .ref a0), (1, .ref a1), (2, .int i20467_2), (3, .int i20467_3)]) hx hb dX6_leftOf_23 hl (by decide) (by first | rfl | simp [kb_rfc]) (fun ls hl => ?_)
        refine kb_aload hx hb dX6_leftOf_25 (lv_at hl 0 rfl) ?_
        refine kb_ifnull (tgt := 55) hx hb dX6_leftOf_27 (by decide) (fun hfa_20481 => ?_) (fun fa_20481 hfa_20481 => ?_)
        · skip
          obtain ⟨v_20482, ev_20482⟩ : ∃ y : Int32, y = i20467_3 + 1 := ⟨_, rfl⟩
          refine lv_iinc (v := v_20482) (lv' := [(3, .int v_20482), (4, va_rf o_20480), (0, .ref a0), (1, .ref a1), (2, .int i20467_2)]) hx hb dX6_leftOf_55 hl (k := 4) rfl (by rw [ev_20482]; rfl) (by decide) (by first | rfl | simp [kb_rfc]) (fun ls hl => ?_)
          have fv_20482 : v_20482.toInt = i20467_3.toInt + 1 := by rw [ev_20482]; exact ka_add (x := i20467_3.toInt) (y := 1) rfl (by decide) (by omega) (by omega)
          refine lv_goto (tgt := 10) hx hb dX6_leftOf_58 (by decide) ?_
          exact ih_20467 i20467_2 v_20482 ⟨by omega, by omega⟩ (by omega) ls (lv_sub hl [2, 3, 4, 0] rfl)
        · have Ffa_20481 : F fa_20481 := ho_20480 fa_20481 hfa_20481
          refine lv_aload_n hx hb dX6_leftOf_30 rfl (lv_at hl 1 rfl) ?_
          refine ka_get C lq_193 rfl hK hP 0 rfl 3 (by decide) lq_194 rfl dX6_leftOf_31 ?_
          refine kb_aload hx hb dX6_leftOf_34 (lv_at hl 0 rfl) ?_
          refine ka_top (w := .ref fa_20481) (by rw [hfa_20481]; rfl) ?_
          obtain ⟨tru_20483, txu_20483, kku_20483, nnu_20483, ffu_20483, hnu_20483, hPu_20483, hKu_20483, -, -⟩ := (ka_FP_kept hE.2 hS.2.1) fa_20481 Ffa_20481
          refine ka_get C lq_195 rfl hKu_20483 hPu_20483 0 rfl 0 (by decide) lq_196 rfl dX6_leftOf_36 ?_
          have rtru_20483 := ka_rng tru_20483
          refine ka_RV (n := 1) C (cg_X4_slipsOf_15 l D F a5 tru_20483 a8 a9 a10 x6 x7 x8 x9 x10 x11 k1 f0 k2 f1 ⟨by omega, by omega⟩) gX6_leftOf_X4_slipsOf rfl (by decide +kernel) ⟨Nat.le_of_ble_eq_true rfl, Nat.le_of_ble_eq_true rfl⟩ hK hP hS hE hN [3, 4, 5] rfl [1, 2] rfl (ci := 4) rfl rfl 3 rfl rfl hl.1 (rest := []) rfl (Nat.le_of_ble_eq_true rfl) dX6_leftOf_39 ⟨Nat.le_of_ble_eq_true rfl, Nat.le_of_ble_eq_true rfl⟩ (fun v hv => ?_)
          obtain ⟨v_20484, rfl⟩ := hv
          have rv_20484 := ka_rng v_20484
          refine ka_stk (w := [.int v_20484]) rfl ?_
          refine lv_aload_n hx hb dX6_leftOf_42 rfl (lv_at hl 1 rfl) ?_
          refine ka_get C lq_193 rfl hK hP 0 rfl 6 (by decide) lq_197 rfl dX6_leftOf_43 ?_
          refine lv_icmp_gt (tgt := 55) hx hb dX6_leftOf_46 (by decide) (fun c_20485 => ?_) (fun c_20485 => ?_)
          · have c_20485 : x2.toInt < v_20484.toInt := by rw [ka_lt'] at c_20485; exact c_20485
            obtain ⟨v_20486, ev_20486⟩ : ∃ y : Int32, y = i20467_3 + 1 := ⟨_, rfl⟩
            refine lv_iinc (v := v_20486) (lv' := [(3, .int v_20486), (4, va_rf o_20480), (0, .ref a0), (1, .ref a1), (2, .int i20467_2)]) hx hb dX6_leftOf_55 hl (k := 4) rfl (by rw [ev_20486]; rfl) (by decide) (by first | rfl | simp [kb_rfc]) (fun ls hl => ?_)
            have fv_20486 : v_20486.toInt = i20467_3.toInt + 1 := by rw [ev_20486]; exact ka_add (x := i20467_3.toInt) (y := 1) rfl (by decide) (by omega) (by omega)
            refine lv_goto (tgt := 10) hx hb dX6_leftOf_58 (by decide) ?_
            exact ih_20467 i20467_2 v_20486 ⟨by omega, by omega⟩ (by omega) ls (lv_sub hl [2, 3, 4, 0] rfl)
          · have c_20485 : ¬ x2.toInt < v_20484.toInt := by rw [ka_lt'] at c_20485; exact c_20485
            refine lv_iload_n hx hb dX6_leftOf_49 rfl (lv_at hl 3 rfl) ?_
            refine lv_iconst (v := 1) hx hb dX6_leftOf_50 (by decide) ?_
            refine lv_iload_n hx hb dX6_leftOf_51 rfl (lv_at hl 4 rfl) ?_
            refine lv_ishl hx hb dX6_leftOf_52 ?_
            refine lv_topi (fun v_20487 ev_20487 => ?_)
            refine lv_ior hx hb dX6_leftOf_53 ?_
            refine lv_topi (fun v_20488 ev_20488 => ?_)
            refine lv_istore_n (lv' := [(2, .int v_20488), (4, va_rf o_20480), (0, .ref a0), (1, .ref a1), (3, .int i20467_3)]) hx hb dX6_leftOf_54 rfl hl (by decide) (by first | rfl | simp [kb_rfc]) (fun ls hl => ?_)
            obtain ⟨v_20489, ev_20489⟩ : ∃ y : Int32, y = i20467_3 + 1 := ⟨_, rfl⟩
            refine lv_iinc (v := v_20489) (lv' := [(3, .int v_20489), (2, .int v_20488), (4, va_rf o_20480), (0, .ref a0), (1, .ref a1)]) hx hb dX6_leftOf_55 hl (k := 4) rfl (by rw [ev_20489]; rfl) (by decide) (by first | rfl | simp [kb_rfc]) (fun ls hl => ?_)
            have fv_20489 : v_20489.toInt = i20467_3.toInt + 1 := by rw [ev_20489]; exact ka_add (x := i20467_3.toInt) (y := 1) rfl (by decide) (by omega) (by omega)
            refine lv_goto (tgt := 10) hx hb dX6_leftOf_58 (by decide) ?_
            exact ih_20467 v_20488 v_20489 ⟨by omega, by omega⟩ (by omega) ls (lv_sub hl [3, 4, 1, 0] rfl)
  exact lp_20467 _ 0 0 ⟨by decide, by decide⟩ (Nat.lt_succ_self _) ls (lv_sub hl [2, 3, 1, 0] rfl)
theorem lq_198 : ∀ w ∈ wsX60, w ∈ wsX6_next := by decide +kernel
theorem lq_199 : Cond.fieldLink RX6 28 "AskedBack" "course" "LAskedBack$Course;" ∈ wsX6_next := by decide +kernel
theorem lq_200 : Cond.fieldLink RX6 39 "AskedBack" "begun" "I" ∈ wsX6_next := by decide +kernel
theorem lq_201 : Cond.fieldLink RX6 35 "AskedBack" "talk" "LAskedBack$Talk;" ∈ wsX6_next := by decide +kernel
theorem lq_202 : ∀ w ∈ wsX40, w ∈ wsX6_next := by decide +kernel
theorem lq_203 : Cond.fieldLink RX6 156 "AskedBack$Talk" "asked" "I" ∈ wsX6_next := by decide +kernel
set_option maxHeartbeats 4000000 in
set_option maxRecDepth 100000 in
theorem cg_X6_next_191 (l : Launch) (D : va_G) (F : Nat → Prop) (a0 : Nat) (a1 : Nat) (a2 : Nat) (a3 : Nat) (a4 : Nat) (x0 : Int32) (x1 : Int32) (x2 : Int32) (x3 : Int32) (x4 : Int32) (a5 : Nat) (a6 : Nat) (x5 : Int32) (k0 : ClassId) (a7 : Nat) (a8 : Nat) (a9 : Nat) (a10 : Nat) (a11 : Nat) (a12 : Nat) (a13 : Nat) (a14 : Nat) (x6 : Int32) (o0 : Option Nat) (k1 : ClassId) (f0 : Nat → Int32) (k2 : ClassId) (po0 : Nat → Option Nat) (a15 : Nat) (a16 : Nat) (x7 : Int32) (o1 : Option Nat) (k3 : ClassId) (f1 : Nat → Int32) (k4 : ClassId) (po1 : Nat → Option Nat) (a17 : Nat) (a18 : Nat) (x8 : Int32) (o2 : Option Nat) (k5 : ClassId) (f2 : Nat → Int32) (k6 : ClassId) (po2 : Nat → Option Nat) (a19 : Nat) (a20 : Nat) (x9 : Int32) (o3 : Option Nat) (k7 : ClassId) (f3 : Nat → Int32) (k8 : ClassId) (po3 : Nat → Option Nat) (a21 : Nat) (a22 : Nat) (x10 : Int32) (o4 : Option Nat) (k9 : ClassId) (f4 : Nat → Int32) (k10 : ClassId) (po4 : Nat → Option Nat) (a23 : Nat) (a24 : Nat) (x11 : Int32) (o5 : Option Nat) (k11 : ClassId) (f5 : Nat → Int32) (k12 : ClassId) (po5 : Nat → Option Nat) (a25 : Nat) (a26 : Nat) (a27 : Nat) (x12 : Int32) (x13 : Int32) (x14 : Int32) (x15 : Int32) (x16 : Int32) (x17 : Int32) (k13 : ClassId) (f6 : Nat → Int32) (k14 : ClassId) (f7 : Nat → Int32) (hx0 : -1 ≤ x0.toInt ∧ x0.toInt ≤ 5) (hx6 : 0 ≤ x6.toInt ∧ x6.toInt ≤ 12) (ho0 : ∀ a : Nat, o0 = some a → F a) (hpo0 : ∀ (j a : Nat), po0 j = some a → F a) (hx7 : 0 ≤ x7.toInt ∧ x7.toInt ≤ 12) (ho1 : ∀ a : Nat, o1 = some a → F a) (hpo1 : ∀ (j a : Nat), po1 j = some a → F a) (hx8 : 0 ≤ x8.toInt ∧ x8.toInt ≤ 12) (ho2 : ∀ a : Nat, o2 = some a → F a) (hpo2 : ∀ (j a : Nat), po2 j = some a → F a) (hx9 : 0 ≤ x9.toInt ∧ x9.toInt ≤ 12) (ho3 : ∀ a : Nat, o3 = some a → F a) (hpo3 : ∀ (j a : Nat), po3 j = some a → F a) (hx10 : 0 ≤ x10.toInt ∧ x10.toInt ≤ 12) (ho4 : ∀ a : Nat, o4 = some a → F a) (hpo4 : ∀ (j a : Nat), po4 j = some a → F a) (hx11 : 0 ≤ x11.toInt ∧ x11.toInt ≤ 12) (ho5 : ∀ a : Nat, o5 = some a → F a) (hpo5 : ∀ (j a : Nat), po5 j = some a → F a) (hx12 : 0 ≤ x12.toInt ∧ x12.toInt ≤ 10) : ka_R l D F yX6_next wsX6_next 4 90 [.ref a0] [(a0, .inr (6, [.ref a1, .ref a2, .ref a3, .ref a4, .int x0, .int x1, .int x2, .int x3, .int x4])), (a3, .inr (0, [.ref a5, .ref a6, .int x5])), (a5, .inl (k0, 6, .inr (.inr (.inr (.inr (va_up (va_up (va_up (va_up (va_up (va_up (fun _ => none) 0 (some a7)) 1 (some a8)) 2 (some a9)) 3 (some a10)) 4 (some a11)) 5 (some a12))))))), (a7, .inr (2, [.ref a13, .ref a14, .int x6, va_rf o0])), (a14, .inl (k1, 32, .inl f0)), (a13, .inl (k2, 12, .inr (.inr (.inr (.inr po0))))), (a8, .inr (2, [.ref a15, .ref a16, .int x7, va_rf o1])), (a16, .inl (k3, 32, .inl f1)), (a15, .inl (k4, 12, .inr (.inr (.inr (.inr po1))))), (a9, .inr (2, [.ref a17, .ref a18, .int x8, va_rf o2])), (a18, .inl (k5, 32, .inl f2)), (a17, .inl (k6, 12, .inr (.inr (.inr (.inr po2))))), (a10, .inr (2, [.ref a19, .ref a20, .int x9, va_rf o3])), (a20, .inl (k7, 32, .inl f3)), (a19, .inl (k8, 12, .inr (.inr (.inr (.inr po3))))), (a11, .inr (2, [.ref a21, .ref a22, .int x10, va_rf o4])), (a22, .inl (k9, 32, .inl f4)), (a21, .inl (k10, 12, .inr (.inr (.inr (.inr po4))))), (a12, .inr (2, [.ref a23, .ref a24, .int x11, va_rf o5])), (a24, .inl (k11, 32, .inl f5)), (a23, .inl (k12, 12, .inr (.inr (.inr (.inr po5))))), (a4, .inr (4, [.ref a25, .ref a26, .ref a27, .int x12, .int x13, .int x14, .int x15, .int x16, .int x17])), (a25, .inl (k13, 32, .inl f6)), (a26, .inl (k14, 32, .inl f7))] [(k0, .object RX2), (k1, .int), (k2, .object RX1), (k3, .int), (k4, .object RX1), (k5, .int), (k6, .object RX1), (k7, .int), (k8, .object RX1), (k9, .int), (k10, .object RX1), (k11, .int), (k12, .object RX1), (k13, .int), (k14, .int)] (fun v => ∃ x : Int32, v = some (.int x) ∧ -1 ≤ x.toInt ∧ x.toInt ≤ 31) := by
  refine ka_R_of (cc := cX6_next) (maxL := 2) (ret := (some .int)) (by decide) rfl (Nat.le_of_ble_eq_true rfl) ?_
  intro p e s m below meth c ls C hr hlk hP hK hE hN hl
  have hS : va_S (fun _ => False) s.heap s.heap [] := va_S.rf
  have C : CallFix p m c cX6_next 2 s [.ref a0].toArray wsX6_next RX6 := C
  obtain ⟨hx, hb, hml, hown, hts⟩ := id C
  have hl : lv_has ls 2 [(0, .ref a0)] := hl
  have rx0 := ka_rng x0
  have rx1 := ka_rng x1
  have rx2 := ka_rng x2
  have rx3 := ka_rng x3
  have rx4 := ka_rng x4
  have rx5 := ka_rng x5
  have rx6 := ka_rng x6
  have rx7 := ka_rng x7
  have rx8 := ka_rng x8
  have rx9 := ka_rng x9
  have rx10 := ka_rng x10
  have rx11 := ka_rng x11
  have rx12 := ka_rng x12
  have rx13 := ka_rng x13
  have rx14 := ka_rng x14
  have rx15 := ka_rng x15
  have rx16 := ka_rng x16
  have rx17 := ka_rng x17
  rcases (show x0.toInt = -1 ∨ x0.toInt = 0 ∨ x0.toInt = 1 ∨ x0.toInt = 2 ∨ x0.toInt = 3 ∨ x0.toInt = 4 ∨ x0.toInt = 5 by omega) with y_20551 | y_20551 | y_20551 | y_20551 | y_20551 | y_20551 | y_20551
  · obtain rfl : x0 = (-1) := (ka_eq' _ _).mpr (y_20551.trans (by decide))
    refine lv_aload_n hx hb dX6_next_0 rfl (lv_at hl 0 rfl) ?_
    refine ka_get C lq_198 rfl hK hP 0 rfl 2 (by decide) lq_199 rfl dX6_next_1 ?_
    refine lv_aload_n hx hb dX6_next_4 rfl (lv_at hl 0 rfl) ?_
    refine ka_get C lq_198 rfl hK hP 0 rfl 4 (by decide) lq_200 rfl dX6_next_5 ?_
    refine ka_RV (n := 1) C (cg_X0_lessonAt_161 l D F a3) gX6_next_X0_lessonAt rfl (by decide +kernel) ⟨Nat.le_of_ble_eq_true rfl, Nat.le_of_ble_eq_true rfl⟩ hK hP hS hE hN [] rfl [] rfl (ci := 0) rfl rfl 1 rfl rfl hl.1 (rest := []) rfl (Nat.le_of_ble_eq_true rfl) dX6_next_8 ⟨Nat.le_of_ble_eq_true rfl, Nat.le_of_ble_eq_true rfl⟩ (fun v hv => ?_)
    subst hv
    refine ka_stk (w := [.null]) rfl ?_
    refine lv_astore_nN (lv' := [(1, .null), (0, .ref a0)]) hx hb dX6_next_11 rfl hl (by decide) rfl (fun ls hl => ?_)
    refine lv_aload_nN hx hb dX6_next_12 rfl (lv_at hl 0 rfl) ?_
    refine lv_ifnonnullN hx hb dX6_next_13 ?_
    refine lv_iconst (v := (-1)) hx hb dX6_next_16 (by decide) ?_
    refine lv_goto (tgt := 36) hx hb dX6_next_17 (by decide) ?_
    exact ka_rRi C hr hlk ⟨_, rfl, ⟨by decide, by decide⟩⟩ dX6_next_36
  · obtain rfl : x0 = 0 := (ka_eq' _ _).mpr (y_20551.trans (by decide))
    refine lv_aload_n hx hb dX6_next_0 rfl (lv_at hl 0 rfl) ?_
    refine ka_get C lq_198 rfl hK hP 0 rfl 2 (by decide) lq_199 rfl dX6_next_1 ?_
    refine lv_aload_n hx hb dX6_next_4 rfl (lv_at hl 0 rfl) ?_
    refine ka_get C lq_198 rfl hK hP 0 rfl 4 (by decide) lq_200 rfl dX6_next_5 ?_
    refine ka_RV (n := 1) C (cg_X0_lessonAt_145 l D F a3 a5 a6 x5 k0 a7 a8 a9 a10 a11 a12) gX6_next_X0_lessonAt rfl (by decide +kernel) ⟨Nat.le_of_ble_eq_true rfl, Nat.le_of_ble_eq_true rfl⟩ hK hP hS hE hN [1, 2] rfl [0] rfl (ci := 0) rfl rfl 1 rfl rfl hl.1 (rest := []) rfl (Nat.le_of_ble_eq_true rfl) dX6_next_8 ⟨Nat.le_of_ble_eq_true rfl, Nat.le_of_ble_eq_true rfl⟩ (fun v hv => ?_)
    subst hv
    refine ka_stk (w := [.ref a7]) rfl ?_
    refine lv_astore_n (lv' := [(1, .ref a7), (0, .ref a0)]) hx hb dX6_next_11 rfl hl (by decide) rfl (fun ls hl => ?_)
    refine lv_aload_n hx hb dX6_next_12 rfl (lv_at hl 0 rfl) ?_
    refine lv_ifnonnull (tgt := 20) hx hb dX6_next_13 (by decide) ?_
    refine lv_aload_n hx hb dX6_next_20 rfl (lv_at hl 0 rfl) ?_
    refine lv_aload_n hx hb dX6_next_21 rfl (lv_at hl 1 rfl) ?_
    refine lv_aload_n hx hb dX6_next_22 rfl (lv_at hl 0 rfl) ?_
    refine ka_RV (n := 1) C (cg_X6_leftOf_190 l D F a0 a7 a1 a2 a3 a4 0 x1 x2 x3 x4 a13 a14 x6 o0 k2 po0 a25 a26 a27 x12 x13 x14 x15 x16 x17 k13 f6 k14 f7 ⟨by decide, by decide⟩ ⟨by omega, by omega⟩ ho0 hpo0 ⟨by omega, by omega⟩) gX6_next_X6_leftOf rfl (by decide +kernel) ⟨Nat.le_of_ble_eq_true rfl, Nat.le_of_ble_eq_true rfl⟩ hK hP hS hE hN [0, 3, 5, 21, 22, 23] rfl [2, 13, 14] rfl (ci := 6) rfl rfl 0 rfl rfl hl.1 (rest := [.ref a7]) rfl (Nat.le_of_ble_eq_true rfl) dX6_next_23 ⟨Nat.le_of_ble_eq_true rfl, Nat.le_of_ble_eq_true rfl⟩ (fun v hv => ?_)
    obtain ⟨v_20552, rfl⟩ := hv
    have rv_20552 := ka_rng v_20552
    refine ka_stk (w := [.int v_20552, .ref a7]) rfl ?_
    refine lv_aload_n hx hb dX6_next_26 rfl (lv_at hl 1 rfl) ?_
    refine ka_get C lq_198 rfl hK hP 0 rfl 3 (by decide) lq_201 rfl dX6_next_27 ?_
    refine ka_get C lq_202 rfl hK hP 21 rfl 4 (by decide) lq_203 rfl dX6_next_30 ?_
    refine ka_RV (n := 2) C (cg_X2_partingCase_40 l D F a7 v_20552 x13 a13 a14 x6 o0 k1 f0 ⟨by omega, by omega⟩ ho0) gX6_next_X2_partingCase rfl (by decide +kernel) ⟨Nat.le_of_ble_eq_true rfl, Nat.le_of_ble_eq_true rfl⟩ hK hP hS hE hN [3, 4] rfl [1] rfl (ci := 2) rfl rfl 3 rfl rfl hl.1 (rest := []) rfl (Nat.le_of_ble_eq_true rfl) dX6_next_33 ⟨Nat.le_of_ble_eq_true rfl, Nat.le_of_ble_eq_true rfl⟩ (fun v hv => ?_)
    obtain ⟨v_20553, rfl, hv_20553⟩ := hv
    have rv_20553 := ka_rng v_20553
    refine ka_stk (w := [.int v_20553]) rfl ?_
    exact ka_rRi C hr hlk ⟨_, rfl, ⟨by omega, by omega⟩⟩ dX6_next_36
  · obtain rfl : x0 = 1 := (ka_eq' _ _).mpr (y_20551.trans (by decide))
    refine lv_aload_n hx hb dX6_next_0 rfl (lv_at hl 0 rfl) ?_
    refine ka_get C lq_198 rfl hK hP 0 rfl 2 (by decide) lq_199 rfl dX6_next_1 ?_
    refine lv_aload_n hx hb dX6_next_4 rfl (lv_at hl 0 rfl) ?_
    refine ka_get C lq_198 rfl hK hP 0 rfl 4 (by decide) lq_200 rfl dX6_next_5 ?_
    refine ka_RV (n := 1) C (cg_X0_lessonAt_147 l D F a3 a5 a6 x5 k0 a7 a8 a9 a10 a11 a12) gX6_next_X0_lessonAt rfl (by decide +kernel) ⟨Nat.le_of_ble_eq_true rfl, Nat.le_of_ble_eq_true rfl⟩ hK hP hS hE hN [1, 2] rfl [0] rfl (ci := 0) rfl rfl 1 rfl rfl hl.1 (rest := []) rfl (Nat.le_of_ble_eq_true rfl) dX6_next_8 ⟨Nat.le_of_ble_eq_true rfl, Nat.le_of_ble_eq_true rfl⟩ (fun v hv => ?_)
    subst hv
    refine ka_stk (w := [.ref a8]) rfl ?_
    refine lv_astore_n (lv' := [(1, .ref a8), (0, .ref a0)]) hx hb dX6_next_11 rfl hl (by decide) rfl (fun ls hl => ?_)
    refine lv_aload_n hx hb dX6_next_12 rfl (lv_at hl 0 rfl) ?_
    refine lv_ifnonnull (tgt := 20) hx hb dX6_next_13 (by decide) ?_
    refine lv_aload_n hx hb dX6_next_20 rfl (lv_at hl 0 rfl) ?_
    refine lv_aload_n hx hb dX6_next_21 rfl (lv_at hl 1 rfl) ?_
    refine lv_aload_n hx hb dX6_next_22 rfl (lv_at hl 0 rfl) ?_
    refine ka_RV (n := 1) C (cg_X6_leftOf_190 l D F a0 a8 a1 a2 a3 a4 1 x1 x2 x3 x4 a15 a16 x7 o1 k4 po1 a25 a26 a27 x12 x13 x14 x15 x16 x17 k13 f6 k14 f7 ⟨by decide, by decide⟩ ⟨by omega, by omega⟩ ho1 hpo1 ⟨by omega, by omega⟩) gX6_next_X6_leftOf rfl (by decide +kernel) ⟨Nat.le_of_ble_eq_true rfl, Nat.le_of_ble_eq_true rfl⟩ hK hP hS hE hN [0, 6, 8, 21, 22, 23] rfl [4, 13, 14] rfl (ci := 6) rfl rfl 0 rfl rfl hl.1 (rest := [.ref a8]) rfl (Nat.le_of_ble_eq_true rfl) dX6_next_23 ⟨Nat.le_of_ble_eq_true rfl, Nat.le_of_ble_eq_true rfl⟩ (fun v hv => ?_)
    obtain ⟨v_20554, rfl⟩ := hv
    have rv_20554 := ka_rng v_20554
    refine ka_stk (w := [.int v_20554, .ref a8]) rfl ?_
    refine lv_aload_n hx hb dX6_next_26 rfl (lv_at hl 1 rfl) ?_
    refine ka_get C lq_198 rfl hK hP 0 rfl 3 (by decide) lq_201 rfl dX6_next_27 ?_
    refine ka_get C lq_202 rfl hK hP 21 rfl 4 (by decide) lq_203 rfl dX6_next_30 ?_
    refine ka_RV (n := 2) C (cg_X2_partingCase_40 l D F a8 v_20554 x13 a15 a16 x7 o1 k3 f1 ⟨by omega, by omega⟩ ho1) gX6_next_X2_partingCase rfl (by decide +kernel) ⟨Nat.le_of_ble_eq_true rfl, Nat.le_of_ble_eq_true rfl⟩ hK hP hS hE hN [6, 7] rfl [3] rfl (ci := 2) rfl rfl 6 rfl rfl hl.1 (rest := []) rfl (Nat.le_of_ble_eq_true rfl) dX6_next_33 ⟨Nat.le_of_ble_eq_true rfl, Nat.le_of_ble_eq_true rfl⟩ (fun v hv => ?_)
    obtain ⟨v_20555, rfl, hv_20555⟩ := hv
    have rv_20555 := ka_rng v_20555
    refine ka_stk (w := [.int v_20555]) rfl ?_
    exact ka_rRi C hr hlk ⟨_, rfl, ⟨by omega, by omega⟩⟩ dX6_next_36
  · obtain rfl : x0 = 2 := (ka_eq' _ _).mpr (y_20551.trans (by decide))
    refine lv_aload_n hx hb dX6_next_0 rfl (lv_at hl 0 rfl) ?_
    refine ka_get C lq_198 rfl hK hP 0 rfl 2 (by decide) lq_199 rfl dX6_next_1 ?_
    refine lv_aload_n hx hb dX6_next_4 rfl (lv_at hl 0 rfl) ?_
    refine ka_get C lq_198 rfl hK hP 0 rfl 4 (by decide) lq_200 rfl dX6_next_5 ?_
    refine ka_RV (n := 1) C (cg_X0_lessonAt_149 l D F a3 a5 a6 x5 k0 a7 a8 a9 a10 a11 a12) gX6_next_X0_lessonAt rfl (by decide +kernel) ⟨Nat.le_of_ble_eq_true rfl, Nat.le_of_ble_eq_true rfl⟩ hK hP hS hE hN [1, 2] rfl [0] rfl (ci := 0) rfl rfl 1 rfl rfl hl.1 (rest := []) rfl (Nat.le_of_ble_eq_true rfl) dX6_next_8 ⟨Nat.le_of_ble_eq_true rfl, Nat.le_of_ble_eq_true rfl⟩ (fun v hv => ?_)
    subst hv
    refine ka_stk (w := [.ref a9]) rfl ?_
    refine lv_astore_n (lv' := [(1, .ref a9), (0, .ref a0)]) hx hb dX6_next_11 rfl hl (by decide) rfl (fun ls hl => ?_)
    refine lv_aload_n hx hb dX6_next_12 rfl (lv_at hl 0 rfl) ?_
    refine lv_ifnonnull (tgt := 20) hx hb dX6_next_13 (by decide) ?_
    refine lv_aload_n hx hb dX6_next_20 rfl (lv_at hl 0 rfl) ?_
    refine lv_aload_n hx hb dX6_next_21 rfl (lv_at hl 1 rfl) ?_
    refine lv_aload_n hx hb dX6_next_22 rfl (lv_at hl 0 rfl) ?_
    refine ka_RV (n := 1) C (cg_X6_leftOf_190 l D F a0 a9 a1 a2 a3 a4 2 x1 x2 x3 x4 a17 a18 x8 o2 k6 po2 a25 a26 a27 x12 x13 x14 x15 x16 x17 k13 f6 k14 f7 ⟨by decide, by decide⟩ ⟨by omega, by omega⟩ ho2 hpo2 ⟨by omega, by omega⟩) gX6_next_X6_leftOf rfl (by decide +kernel) ⟨Nat.le_of_ble_eq_true rfl, Nat.le_of_ble_eq_true rfl⟩ hK hP hS hE hN [0, 9, 11, 21, 22, 23] rfl [6, 13, 14] rfl (ci := 6) rfl rfl 0 rfl rfl hl.1 (rest := [.ref a9]) rfl (Nat.le_of_ble_eq_true rfl) dX6_next_23 ⟨Nat.le_of_ble_eq_true rfl, Nat.le_of_ble_eq_true rfl⟩ (fun v hv => ?_)
    obtain ⟨v_20556, rfl⟩ := hv
    have rv_20556 := ka_rng v_20556
    refine ka_stk (w := [.int v_20556, .ref a9]) rfl ?_
    refine lv_aload_n hx hb dX6_next_26 rfl (lv_at hl 1 rfl) ?_
    refine ka_get C lq_198 rfl hK hP 0 rfl 3 (by decide) lq_201 rfl dX6_next_27 ?_
    refine ka_get C lq_202 rfl hK hP 21 rfl 4 (by decide) lq_203 rfl dX6_next_30 ?_
    refine ka_RV (n := 2) C (cg_X2_partingCase_40 l D F a9 v_20556 x13 a17 a18 x8 o2 k5 f2 ⟨by omega, by omega⟩ ho2) gX6_next_X2_partingCase rfl (by decide +kernel) ⟨Nat.le_of_ble_eq_true rfl, Nat.le_of_ble_eq_true rfl⟩ hK hP hS hE hN [9, 10] rfl [5] rfl (ci := 2) rfl rfl 9 rfl rfl hl.1 (rest := []) rfl (Nat.le_of_ble_eq_true rfl) dX6_next_33 ⟨Nat.le_of_ble_eq_true rfl, Nat.le_of_ble_eq_true rfl⟩ (fun v hv => ?_)
    obtain ⟨v_20557, rfl, hv_20557⟩ := hv
    have rv_20557 := ka_rng v_20557
    refine ka_stk (w := [.int v_20557]) rfl ?_
    exact ka_rRi C hr hlk ⟨_, rfl, ⟨by omega, by omega⟩⟩ dX6_next_36
  · obtain rfl : x0 = 3 := (ka_eq' _ _).mpr (y_20551.trans (by decide))
    refine lv_aload_n hx hb dX6_next_0 rfl (lv_at hl 0 rfl) ?_
    refine ka_get C lq_198 rfl hK hP 0 rfl 2 (by decide) lq_199 rfl dX6_next_1 ?_
    refine lv_aload_n hx hb dX6_next_4 rfl (lv_at hl 0 rfl) ?_
    refine ka_get C lq_198 rfl hK hP 0 rfl 4 (by decide) lq_200 rfl dX6_next_5 ?_
    refine ka_RV (n := 1) C (cg_X0_lessonAt_151 l D F a3 a5 a6 x5 k0 a7 a8 a9 a10 a11 a12) gX6_next_X0_lessonAt rfl (by decide +kernel) ⟨Nat.le_of_ble_eq_true rfl, Nat.le_of_ble_eq_true rfl⟩ hK hP hS hE hN [1, 2] rfl [0] rfl (ci := 0) rfl rfl 1 rfl rfl hl.1 (rest := []) rfl (Nat.le_of_ble_eq_true rfl) dX6_next_8 ⟨Nat.le_of_ble_eq_true rfl, Nat.le_of_ble_eq_true rfl⟩ (fun v hv => ?_)
    subst hv
    refine ka_stk (w := [.ref a10]) rfl ?_
    refine lv_astore_n (lv' := [(1, .ref a10), (0, .ref a0)]) hx hb dX6_next_11 rfl hl (by decide) rfl (fun ls hl => ?_)
    refine lv_aload_n hx hb dX6_next_12 rfl (lv_at hl 0 rfl) ?_
    refine lv_ifnonnull (tgt := 20) hx hb dX6_next_13 (by decide) ?_
    refine lv_aload_n hx hb dX6_next_20 rfl (lv_at hl 0 rfl) ?_
    refine lv_aload_n hx hb dX6_next_21 rfl (lv_at hl 1 rfl) ?_
    refine lv_aload_n hx hb dX6_next_22 rfl (lv_at hl 0 rfl) ?_
    refine ka_RV (n := 1) C (cg_X6_leftOf_190 l D F a0 a10 a1 a2 a3 a4 3 x1 x2 x3 x4 a19 a20 x9 o3 k8 po3 a25 a26 a27 x12 x13 x14 x15 x16 x17 k13 f6 k14 f7 ⟨by decide, by decide⟩ ⟨by omega, by omega⟩ ho3 hpo3 ⟨by omega, by omega⟩) gX6_next_X6_leftOf rfl (by decide +kernel) ⟨Nat.le_of_ble_eq_true rfl, Nat.le_of_ble_eq_true rfl⟩ hK hP hS hE hN [0, 12, 14, 21, 22, 23] rfl [8, 13, 14] rfl (ci := 6) rfl rfl 0 rfl rfl hl.1 (rest := [.ref a10]) rfl (Nat.le_of_ble_eq_true rfl) dX6_next_23 ⟨Nat.le_of_ble_eq_true rfl, Nat.le_of_ble_eq_true rfl⟩ (fun v hv => ?_)
    obtain ⟨v_20558, rfl⟩ := hv
    have rv_20558 := ka_rng v_20558
    refine ka_stk (w := [.int v_20558, .ref a10]) rfl ?_
    refine lv_aload_n hx hb dX6_next_26 rfl (lv_at hl 1 rfl) ?_
    refine ka_get C lq_198 rfl hK hP 0 rfl 3 (by decide) lq_201 rfl dX6_next_27 ?_
    refine ka_get C lq_202 rfl hK hP 21 rfl 4 (by decide) lq_203 rfl dX6_next_30 ?_
    refine ka_RV (n := 2) C (cg_X2_partingCase_40 l D F a10 v_20558 x13 a19 a20 x9 o3 k7 f3 ⟨by omega, by omega⟩ ho3) gX6_next_X2_partingCase rfl (by decide +kernel) ⟨Nat.le_of_ble_eq_true rfl, Nat.le_of_ble_eq_true rfl⟩ hK hP hS hE hN [12, 13] rfl [7] rfl (ci := 2) rfl rfl 12 rfl rfl hl.1 (rest := []) rfl (Nat.le_of_ble_eq_true rfl) dX6_next_33 ⟨Nat.le_of_ble_eq_true rfl, Nat.le_of_ble_eq_true rfl⟩ (fun v hv => ?_)
    obtain ⟨v_20559, rfl, hv_20559⟩ := hv
    have rv_20559 := ka_rng v_20559
    refine ka_stk (w := [.int v_20559]) rfl ?_
    exact ka_rRi C hr hlk ⟨_, rfl, ⟨by omega, by omega⟩⟩ dX6_next_36
  · obtain rfl : x0 = 4 := (ka_eq' _ _).mpr (y_20551.trans (by decide))
    refine lv_aload_n hx hb dX6_next_0 rfl (lv_at hl 0 rfl) ?_
    refine ka_get C lq_198 rfl hK hP 0 rfl 2 (by decide) lq_199 rfl dX6_next_1 ?_
    refine lv_aload_n hx hb dX6_next_4 rfl (lv_at hl 0 rfl) ?_
    refine ka_get C lq_198 rfl hK hP 0 rfl 4 (by decide) lq_200 rfl dX6_next_5 ?_
    refine ka_RV (n := 1) C (cg_X0_lessonAt_153 l D F a3 a5 a6 x5 k0 a7 a8 a9 a10 a11 a12) gX6_next_X0_lessonAt rfl (by decide +kernel) ⟨Nat.le_of_ble_eq_true rfl, Nat.le_of_ble_eq_true rfl⟩ hK hP hS hE hN [1, 2] rfl [0] rfl (ci := 0) rfl rfl 1 rfl rfl hl.1 (rest := []) rfl (Nat.le_of_ble_eq_true rfl) dX6_next_8 ⟨Nat.le_of_ble_eq_true rfl, Nat.le_of_ble_eq_true rfl⟩ (fun v hv => ?_)
    subst hv
    refine ka_stk (w := [.ref a11]) rfl ?_
    refine lv_astore_n (lv' := [(1, .ref a11), (0, .ref a0)]) hx hb dX6_next_11 rfl hl (by decide) rfl (fun ls hl => ?_)
    refine lv_aload_n hx hb dX6_next_12 rfl (lv_at hl 0 rfl) ?_
    refine lv_ifnonnull (tgt := 20) hx hb dX6_next_13 (by decide) ?_
    refine lv_aload_n hx hb dX6_next_20 rfl (lv_at hl 0 rfl) ?_
    refine lv_aload_n hx hb dX6_next_21 rfl (lv_at hl 1 rfl) ?_
    refine lv_aload_n hx hb dX6_next_22 rfl (lv_at hl 0 rfl) ?_
    refine ka_RV (n := 1) C (cg_X6_leftOf_190 l D F a0 a11 a1 a2 a3 a4 4 x1 x2 x3 x4 a21 a22 x10 o4 k10 po4 a25 a26 a27 x12 x13 x14 x15 x16 x17 k13 f6 k14 f7 ⟨by decide, by decide⟩ ⟨by omega, by omega⟩ ho4 hpo4 ⟨by omega, by omega⟩) gX6_next_X6_leftOf rfl (by decide +kernel) ⟨Nat.le_of_ble_eq_true rfl, Nat.le_of_ble_eq_true rfl⟩ hK hP hS hE hN [0, 15, 17, 21, 22, 23] rfl [10, 13, 14] rfl (ci := 6) rfl rfl 0 rfl rfl hl.1 (rest := [.ref a11]) rfl (Nat.le_of_ble_eq_true rfl) dX6_next_23 ⟨Nat.le_of_ble_eq_true rfl, Nat.le_of_ble_eq_true rfl⟩ (fun v hv => ?_)
    obtain ⟨v_20560, rfl⟩ := hv
    have rv_20560 := ka_rng v_20560
    refine ka_stk (w := [.int v_20560, .ref a11]) rfl ?_
    refine lv_aload_n hx hb dX6_next_26 rfl (lv_at hl 1 rfl) ?_
    refine ka_get C lq_198 rfl hK hP 0 rfl 3 (by decide) lq_201 rfl dX6_next_27 ?_
    refine ka_get C lq_202 rfl hK hP 21 rfl 4 (by decide) lq_203 rfl dX6_next_30 ?_
    refine ka_RV (n := 2) C (cg_X2_partingCase_40 l D F a11 v_20560 x13 a21 a22 x10 o4 k9 f4 ⟨by omega, by omega⟩ ho4) gX6_next_X2_partingCase rfl (by decide +kernel) ⟨Nat.le_of_ble_eq_true rfl, Nat.le_of_ble_eq_true rfl⟩ hK hP hS hE hN [15, 16] rfl [9] rfl (ci := 2) rfl rfl 15 rfl rfl hl.1 (rest := []) rfl (Nat.le_of_ble_eq_true rfl) dX6_next_33 ⟨Nat.le_of_ble_eq_true rfl, Nat.le_of_ble_eq_true rfl⟩ (fun v hv => ?_)
    obtain ⟨v_20561, rfl, hv_20561⟩ := hv
    have rv_20561 := ka_rng v_20561
    refine ka_stk (w := [.int v_20561]) rfl ?_
    exact ka_rRi C hr hlk ⟨_, rfl, ⟨by omega, by omega⟩⟩ dX6_next_36
  · obtain rfl : x0 = 5 := (ka_eq' _ _).mpr (y_20551.trans (by decide))
    refine lv_aload_n hx hb dX6_next_0 rfl (lv_at hl 0 rfl) ?_
    refine ka_get C lq_198 rfl hK hP 0 rfl 2 (by decide) lq_199 rfl dX6_next_1 ?_
    refine lv_aload_n hx hb dX6_next_4 rfl (lv_at hl 0 rfl) ?_
    refine ka_get C lq_198 rfl hK hP 0 rfl 4 (by decide) lq_200 rfl dX6_next_5 ?_
    refine ka_RV (n := 1) C (cg_X0_lessonAt_155 l D F a3 a5 a6 x5 k0 a7 a8 a9 a10 a11 a12) gX6_next_X0_lessonAt rfl (by decide +kernel) ⟨Nat.le_of_ble_eq_true rfl, Nat.le_of_ble_eq_true rfl⟩ hK hP hS hE hN [1, 2] rfl [0] rfl (ci := 0) rfl rfl 1 rfl rfl hl.1 (rest := []) rfl (Nat.le_of_ble_eq_true rfl) dX6_next_8 ⟨Nat.le_of_ble_eq_true rfl, Nat.le_of_ble_eq_true rfl⟩ (fun v hv => ?_)
    subst hv
    refine ka_stk (w := [.ref a12]) rfl ?_
    refine lv_astore_n (lv' := [(1, .ref a12), (0, .ref a0)]) hx hb dX6_next_11 rfl hl (by decide) rfl (fun ls hl => ?_)
    refine lv_aload_n hx hb dX6_next_12 rfl (lv_at hl 0 rfl) ?_
    refine lv_ifnonnull (tgt := 20) hx hb dX6_next_13 (by decide) ?_
    refine lv_aload_n hx hb dX6_next_20 rfl (lv_at hl 0 rfl) ?_
    refine lv_aload_n hx hb dX6_next_21 rfl (lv_at hl 1 rfl) ?_
    refine lv_aload_n hx hb dX6_next_22 rfl (lv_at hl 0 rfl) ?_
    refine ka_RV (n := 1) C (cg_X6_leftOf_190 l D F a0 a12 a1 a2 a3 a4 5 x1 x2 x3 x4 a23 a24 x11 o5 k12 po5 a25 a26 a27 x12 x13 x14 x15 x16 x17 k13 f6 k14 f7 ⟨by decide, by decide⟩ ⟨by omega, by omega⟩ ho5 hpo5 ⟨by omega, by omega⟩) gX6_next_X6_leftOf rfl (by decide +kernel) ⟨Nat.le_of_ble_eq_true rfl, Nat.le_of_ble_eq_true rfl⟩ hK hP hS hE hN [0, 18, 20, 21, 22, 23] rfl [12, 13, 14] rfl (ci := 6) rfl rfl 0 rfl rfl hl.1 (rest := [.ref a12]) rfl (Nat.le_of_ble_eq_true rfl) dX6_next_23 ⟨Nat.le_of_ble_eq_true rfl, Nat.le_of_ble_eq_true rfl⟩ (fun v hv => ?_)
    obtain ⟨v_20562, rfl⟩ := hv
    have rv_20562 := ka_rng v_20562
    refine ka_stk (w := [.int v_20562, .ref a12]) rfl ?_
    refine lv_aload_n hx hb dX6_next_26 rfl (lv_at hl 1 rfl) ?_
    refine ka_get C lq_198 rfl hK hP 0 rfl 3 (by decide) lq_201 rfl dX6_next_27 ?_
    refine ka_get C lq_202 rfl hK hP 21 rfl 4 (by decide) lq_203 rfl dX6_next_30 ?_
    refine ka_RV (n := 2) C (cg_X2_partingCase_40 l D F a12 v_20562 x13 a23 a24 x11 o5 k11 f5 ⟨by omega, by omega⟩ ho5) gX6_next_X2_partingCase rfl (by decide +kernel) ⟨Nat.le_of_ble_eq_true rfl, Nat.le_of_ble_eq_true rfl⟩ hK hP hS hE hN [18, 19] rfl [11] rfl (ci := 2) rfl rfl 18 rfl rfl hl.1 (rest := []) rfl (Nat.le_of_ble_eq_true rfl) dX6_next_33 ⟨Nat.le_of_ble_eq_true rfl, Nat.le_of_ble_eq_true rfl⟩ (fun v hv => ?_)
    obtain ⟨v_20563, rfl, hv_20563⟩ := hv
    have rv_20563 := ka_rng v_20563
    refine ka_stk (w := [.int v_20563]) rfl ?_
    exact ka_rRi C hr hlk ⟨_, rfl, ⟨by omega, by omega⟩⟩ dX6_next_36
set_option maxHeartbeats 4000000 in
set_option maxRecDepth 100000 in
theorem cg_X2_pathOf_192 (l : Launch) (D : va_G) (F : Nat → Prop) (a0 : Nat) (x0 : Int32) (a1 : Nat) (a2 : Nat) (x1 : Int32) (o0 : Option Nat) (k0 : ClassId) (f0 : Nat → Int32) (hx0 : 0 ≤ x0.toInt ∧ x0.toInt ≤ 11) (hx1 : 0 ≤ x1.toInt ∧ x1.toInt ≤ 12) (ho0 : ∀ a : Nat, o0 = some a → F a) : ka_R l D F yX2_pathOf wsX2_pathOf 2 49 [.ref a0, .int x0] [(a0, .inr (2, [.ref a1, .ref a2, .int x1, va_rf o0])), (a2, .inl (k0, 32, .inl f0))] [(k0, .int)] (fun v => ∃ x : Int32, v = some (.int x) ∧ 0 ≤ x.toInt ∧ x.toInt ≤ 32) := by
  refine ka_R_of (cc := cX2_pathOf) (maxL := 6) (ret := (some .int)) (by decide) rfl (Nat.le_of_ble_eq_true rfl) ?_
  intro p e s m below meth c ls C hr hlk hP hK hE hN hl
  have hS : va_S (fun _ => False) s.heap s.heap [] := va_S.rf
  have C : CallFix p m c cX2_pathOf 6 s [.ref a0, .int x0].toArray wsX2_pathOf RX2 := C
  obtain ⟨hx, hb, hml, hown, hts⟩ := id C
  have hl : lv_has ls 6 [(0, .ref a0), (1, .int x0)] := hl
  have rx0 := ka_rng x0
  have rx1 := ka_rng x1
  refine lv_iconst (v := 1) hx hb dX2_pathOf_0 (by decide) ?_
  refine lv_aload_n hx hb dX2_pathOf_1 rfl (lv_at hl 0 rfl) ?_
  refine ka_get C lq_87 rfl hK hP 0 rfl 2 (by decide) lq_88 rfl dX2_pathOf_2 ?_
  refine lv_ishl hx hb dX2_pathOf_5 ?_
  refine lv_topi (fun v_20706 ev_20706 => ?_)
  refine lv_iconst (v := 1) hx hb dX2_pathOf_6 (by decide) ?_
  refine lv_isub hx hb dX2_pathOf_7 ?_
  refine lv_topi (fun v_20707 ev_20707 => ?_)
  refine lv_istore_n (lv' := [(2, .int v_20707), (0, .ref a0), (1, .int x0)]) hx hb dX2_pathOf_8 rfl hl (by decide) rfl (fun ls hl => ?_)
  refine lv_iconst (v := 0) hx hb dX2_pathOf_9 (by decide) ?_
  refine lv_istore_n (lv' := [(3, .int 0), (2, .int v_20707), (0, .ref a0), (1, .int x0)]) hx hb dX2_pathOf_10 rfl hl (by decide) rfl (fun ls hl => ?_)
  refine lv_iconst (v := 0) hx hb dX2_pathOf_11 (by decide) ?_
  refine lv_istore (lv' := [(4, .int 0), (3, .int 0), (2, .int v_20707), (0, .ref a0), (1, .int x0)]) hx hb dX2_pathOf_12 hl (by decide) rfl (fun ls hl => ?_)
  have lp_20708 : ∀ (n : Nat) (i20708_2 : Int32) (i20708_3 : Int32) (i20708_4 : Int32), (0 ≤ i20708_4.toInt ∧ i20708_4.toInt ≤ 32) → (32 - i20708_4.toInt).toNat < n → ∀ (ls : Array Slot), lv_has ls 6 [(0, .ref a0), (1, .int x0), (2, .int i20708_2), (3, .int i20708_3), (4, .int i20708_4)] → W p l e ({ frames := 2, cells := 0, slots := 0, locals := 49 }) s m [.ref a0, .int x0].toArray below meth c s.heap [] 0 0 (MQ below (ka_QR (fun v => ∃ x : Int32, v = some (.int x) ∧ 0 ≤ x.toInt ∧ x.toInt ≤ 32)) [.ref a0, .int x0].toArray s 0 0 (fun _ => False)) (F0 m 14 ls []) := by
    intro n
    induction n with
    | zero =>
      intro i20708_2 i20708_3 i20708_4 hi20708_4 hm
      exact absurd hm (Nat.not_lt_zero _)
    | succ n ih_20708 =>
      intro i20708_2 i20708_3 i20708_4 hi20708_4 hm ls hl
      have ri20708_2 := ka_rng i20708_2
      have ri20708_3 := ka_rng i20708_3
      have ri20708_4 := ka_rng i20708_4
      refine lv_iload hx hb dX2_pathOf_14 (lv_at hl 4 rfl) ?_
      refine lv_bipush (v := 32) hx hb dX2_pathOf_16 (by decide) ?_
      refine lv_icmp_ge (tgt := 97) hx hb dX2_pathOf_18 (by decide) (fun c_20724 => ?_) (fun c_20724 => ?_)
      · have c_20724 : 32 ≤ i20708_4.toInt := by rw [ka_le', show ((32 : Int32)).toInt = 32 from by decide] at c_20724; exact c_20724
        refine lv_bipush (v := 32) hx hb dX2_pathOf_97 (by decide) ?_
        exact ka_rRi C hr hlk ⟨_, rfl, ⟨by decide, by decide⟩⟩ dX2_pathOf_99
      · have c_20724 : ¬ 32 ≤ i20708_4.toInt := by rw [ka_le', show ((32 : Int32)).toInt = 32 from by decide] at c_20724; exact c_20724
        refine lv_aload_n hx hb dX2_pathOf_21 rfl (lv_at hl 0 rfl) ?_
        refine lv_iload_n hx hb dX2_pathOf_22 rfl (lv_at hl 2 rfl) ?_
        refine lv_iload_n hx hb dX2_pathOf_23 rfl (lv_at hl 3 rfl) ?_
        refine ka_RV (n := 2) C (cg_X2_partingCase_40 l D F a0 i20708_2 i20708_3 a1 a2 x1 o0 k0 f0 ⟨by omega, by omega⟩ ho0) gX2_pathOf_X2_partingCase rfl (by decide +kernel) ⟨Nat.le_of_ble_eq_true rfl, Nat.le_of_ble_eq_true rfl⟩ hK hP hS hE hN [0, 1] rfl [0] rfl (ci := 2) rfl rfl 0 rfl rfl hl.1 (rest := []) rfl (Nat.le_of_ble_eq_true rfl) dX2_pathOf_24 ⟨Nat.le_of_ble_eq_true rfl, Nat.le_of_ble_eq_true rfl⟩ (fun v hv => ?_)
        obtain ⟨v_20725, rfl, hv_20725⟩ := hv
        have rv_20725 := ka_rng v_20725
        refine ka_stk (w := [.int v_20725]) rfl ?_
        refine lv_istore (lv' := [(5, .int v_20725), (0, .ref a0), (1, .int x0), (2, .int i20708_2), (3, .int i20708_3), (4, .int i20708_4)]) hx hb dX2_pathOf_27 hl (by decide) rfl (fun ls hl => ?_)
        refine lv_iload hx hb dX2_pathOf_29 (lv_at hl 0 rfl) ?_
        refine lv_if_lt (tgt := 44) hx hb dX2_pathOf_31 (by decide) (fun c_20726 => ?_) (fun c_20726 => ?_)
        · have c_20726 : v_20725.toInt < 0 := by rw [ka_lt', show ((0 : Int32)).toInt = 0 from by decide] at c_20726; exact c_20726
          refine lv_iload hx hb dX2_pathOf_44 (lv_at hl 5 rfl) ?_
          exact ka_rRi C hr hlk ⟨_, rfl, ⟨by omega, by omega⟩⟩ dX2_pathOf_46
        · have c_20726 : ¬ v_20725.toInt < 0 := by rw [ka_lt', show ((0 : Int32)).toInt = 0 from by decide] at c_20726; exact c_20726
          refine lv_iload hx hb dX2_pathOf_34 (lv_at hl 0 rfl) ?_
          refine lv_aload_n hx hb dX2_pathOf_36 rfl (lv_at hl 1 rfl) ?_
          refine ka_get C lq_87 rfl hK hP 0 rfl 1 (by decide) lq_89 rfl dX2_pathOf_37 ?_
          refine va_alen hx hb hK hP 1 0 rfl (ty := .int) rfl (v := 32) rfl dX2_pathOf_40 ?_
          refine lv_icmp_lt (tgt := 47) hx hb dX2_pathOf_41 (by decide) (fun _ => ?_) (fun c_ => absurd (by rw [ka_lt', show ((32 : Int32)).toInt = 32 from by decide]; omega) c_)
          refine lv_iload_n hx hb dX2_pathOf_47 rfl (lv_at hl 4 rfl) ?_
          refine lv_iconst (v := 1) hx hb dX2_pathOf_48 (by decide) ?_
          refine lv_iload hx hb dX2_pathOf_49 (lv_at hl 0 rfl) ?_
          refine lv_ishl hx hb dX2_pathOf_51 ?_
          refine lv_topi (fun v_20727 ev_20727 => ?_)
          refine lv_ior hx hb dX2_pathOf_52 ?_
          refine lv_topi (fun v_20728 ev_20728 => ?_)
          refine lv_istore_n (lv' := [(3, .int v_20728), (5, .int v_20725), (0, .ref a0), (1, .int x0), (2, .int i20708_2), (4, .int i20708_4)]) hx hb dX2_pathOf_53 rfl hl (by decide) rfl (fun ls hl => ?_)
          refine lv_iload_n hx hb dX2_pathOf_54 rfl (lv_at hl 4 rfl) ?_
          refine lv_aload_n hx hb dX2_pathOf_55 rfl (lv_at hl 2 rfl) ?_
          refine ka_get C lq_87 rfl hK hP 0 rfl 1 (by decide) lq_89 rfl dX2_pathOf_56 ?_
          refine lv_iload hx hb dX2_pathOf_59 (lv_at hl 1 rfl) ?_
          refine va_iald hx hb hK hP 1 0 rfl rfl (ka_in (by omega) (by omega)) dX2_pathOf_61 ?_
          refine lv_topi (fun v_20729 ev_20729 => ?_)
          refine lv_iload_n hx hb dX2_pathOf_62 rfl (lv_at hl 3 rfl) ?_
          refine ka_RN (n := 2) C (ka_c_bitAt l D F v_20729 x0) gX2_pathOf_X6_bitAt_n32 rfl hN.2.2.2.2.1 lq_90 lq_91 (by decide +kernel) ⟨Nat.le_of_ble_eq_true rfl, Nat.le_of_ble_eq_true rfl⟩ hK hP hS hE hN [] rfl [] rfl rfl hl.1 (rest := [.int i20708_2]) rfl (Nat.le_of_ble_eq_true rfl) dX2_pathOf_63 ⟨Nat.le_of_ble_eq_true rfl, Nat.le_of_ble_eq_true rfl⟩ (fun v hv => ?_)
          subst hv
          refine ka_stk (w := .int (ka_bit v_20729 x0) :: [.int i20708_2]) rfl ?_
          refine lv_topi (fun v_20730 ev_20730 => ?_)
          have fv_20730 := ka_bit_in v_20729 x0; rw [← ev_20730] at fv_20730
          refine lv_iconst (v := 1) hx hb dX2_pathOf_66 (by decide) ?_
          refine lv_icmp_ne (tgt := 80) hx hb dX2_pathOf_67 (by decide) (fun c_20731 => ?_) (fun c_20731 => ?_)
          · have c_20731 : ¬ v_20730.toInt = 1 := by rw [ka_eq', show ((1 : Int32)).toInt = 1 from by decide] at c_20731; exact c_20731
            refine lv_aload_n hx hb dX2_pathOf_80 rfl (lv_at hl 2 rfl) ?_
            refine ka_get C lq_87 rfl hK hP 0 rfl 1 (by decide) lq_89 rfl dX2_pathOf_81 ?_
            refine lv_iload hx hb dX2_pathOf_84 (lv_at hl 1 rfl) ?_
            refine va_iald hx hb hK hP 1 0 rfl rfl (ka_in (by omega) (by omega)) dX2_pathOf_86 ?_
            refine lv_topi (fun v_20732 ev_20732 => ?_)
            refine lv_iconst (v := (-1)) hx hb dX2_pathOf_87 (by decide) ?_
            refine lv_ixor hx hb dX2_pathOf_88 ?_
            refine lv_topi (fun v_20733 ev_20733 => ?_)
            refine lv_iand hx hb dX2_pathOf_89 ?_
            refine lv_topi (fun v_20734 ev_20734 => ?_)
            refine lv_istore_n (lv' := [(2, .int v_20734), (3, .int v_20728), (5, .int v_20725), (0, .ref a0), (1, .int x0), (4, .int i20708_4)]) hx hb dX2_pathOf_90 rfl hl (by decide) rfl (fun ls hl => ?_)
            obtain ⟨v_20735, ev_20735⟩ : ∃ y : Int32, y = i20708_4 + 1 := ⟨_, rfl⟩
            refine lv_iinc (v := v_20735) (lv' := [(4, .int v_20735), (2, .int v_20734), (3, .int v_20728), (5, .int v_20725), (0, .ref a0), (1, .int x0)]) hx hb dX2_pathOf_91 hl (k := 5) rfl (by rw [ev_20735]; rfl) (by decide) rfl (fun ls hl => ?_)
            have fv_20735 : v_20735.toInt = i20708_4.toInt + 1 := by rw [ev_20735]; exact ka_add (x := i20708_4.toInt) (y := 1) rfl (by decide) (by omega) (by omega)
            refine lv_goto (tgt := 14) hx hb dX2_pathOf_94 (by decide) ?_
            exact ih_20708 v_20734 v_20728 v_20735 ⟨by omega, by omega⟩ (by omega) ls (lv_sub hl [4, 5, 1, 2, 0] rfl)
          · have c_20731 : v_20730.toInt = 1 := by rw [ka_eq', show ((1 : Int32)).toInt = 1 from by decide] at c_20731; exact c_20731
            refine lv_aload_n hx hb dX2_pathOf_70 rfl (lv_at hl 2 rfl) ?_
            refine ka_get C lq_87 rfl hK hP 0 rfl 1 (by decide) lq_89 rfl dX2_pathOf_71 ?_
            refine lv_iload hx hb dX2_pathOf_74 (lv_at hl 1 rfl) ?_
            refine va_iald hx hb hK hP 1 0 rfl rfl (ka_in (by omega) (by omega)) dX2_pathOf_76 ?_
            refine lv_topi (fun v_20736 ev_20736 => ?_)
            refine lv_goto (tgt := 89) hx hb dX2_pathOf_77 (by decide) ?_
            refine lv_iand hx hb dX2_pathOf_89 ?_
            refine lv_topi (fun v_20737 ev_20737 => ?_)
            refine lv_istore_n (lv' := [(2, .int v_20737), (3, .int v_20728), (5, .int v_20725), (0, .ref a0), (1, .int x0), (4, .int i20708_4)]) hx hb dX2_pathOf_90 rfl hl (by decide) rfl (fun ls hl => ?_)
            obtain ⟨v_20738, ev_20738⟩ : ∃ y : Int32, y = i20708_4 + 1 := ⟨_, rfl⟩
            refine lv_iinc (v := v_20738) (lv' := [(4, .int v_20738), (2, .int v_20737), (3, .int v_20728), (5, .int v_20725), (0, .ref a0), (1, .int x0)]) hx hb dX2_pathOf_91 hl (k := 5) rfl (by rw [ev_20738]; rfl) (by decide) rfl (fun ls hl => ?_)
            have fv_20738 : v_20738.toInt = i20708_4.toInt + 1 := by rw [ev_20738]; exact ka_add (x := i20708_4.toInt) (y := 1) rfl (by decide) (by omega) (by omega)
            refine lv_goto (tgt := 14) hx hb dX2_pathOf_94 (by decide) ?_
            exact ih_20708 v_20737 v_20728 v_20738 ⟨by omega, by omega⟩ (by omega) ls (lv_sub hl [4, 5, 1, 2, 0] rfl)
  exact lp_20708 _ v_20707 0 0 ⟨by decide, by decide⟩ (Nat.lt_succ_self _) ls (lv_sub hl [3, 4, 2, 1, 0] rfl)
theorem lq_204 : ∀ w ∈ wsX60, w ∈ wsX6_longest := by decide +kernel
theorem lq_205 : Cond.fieldLink RX6 28 "AskedBack" "course" "LAskedBack$Course;" ∈ wsX6_longest := by decide +kernel
theorem lq_206 : Cond.fieldLink RX6 39 "AskedBack" "begun" "I" ∈ wsX6_longest := by decide +kernel
theorem lq_207 : ∀ w ∈ wsX20, w ∈ wsX6_longest := by decide +kernel
theorem lq_208 : Cond.fieldLink RX6 83 "AskedBack$Lesson" "pictureCount" "I" ∈ wsX6_longest := by decide +kernel
theorem lq_209 : Cond.methodLink RX6 162 Lib.Math.max.name ∈ wsX6_longest := by decide +kernel
theorem lq_210 : Cond.static Lib.Math.max.name ∈ wsX6_longest := by decide +kernel
theorem lq_211 : Cond.initialized "java/lang/Math" ∈ wsX6_longest := by decide +kernel
theorem lq_212 : Cond.code Lib.Math.max.name Lib.Math.max.code 2 (some .int) ∈ wsX6_longest := by decide +kernel
set_option maxHeartbeats 4000000 in
set_option maxRecDepth 100000 in
theorem cg_X6_longest_193 (l : Launch) (D : va_G) (F : Nat → Prop) (a0 : Nat) (a1 : Nat) (a2 : Nat) (a3 : Nat) (a4 : Nat) (x0 : Int32) (x1 : Int32) (x2 : Int32) (x3 : Int32) (x4 : Int32) (a5 : Nat) (a6 : Nat) (x5 : Int32) (k0 : ClassId) (a7 : Nat) (a8 : Nat) (a9 : Nat) (a10 : Nat) (a11 : Nat) (a12 : Nat) (a13 : Nat) (a14 : Nat) (x6 : Int32) (o0 : Option Nat) (k1 : ClassId) (f0 : Nat → Int32) (a15 : Nat) (a16 : Nat) (x7 : Int32) (o1 : Option Nat) (k2 : ClassId) (f1 : Nat → Int32) (a17 : Nat) (a18 : Nat) (x8 : Int32) (o2 : Option Nat) (k3 : ClassId) (f2 : Nat → Int32) (a19 : Nat) (a20 : Nat) (x9 : Int32) (o3 : Option Nat) (k4 : ClassId) (f3 : Nat → Int32) (a21 : Nat) (a22 : Nat) (x10 : Int32) (o4 : Option Nat) (k5 : ClassId) (f4 : Nat → Int32) (a23 : Nat) (a24 : Nat) (x11 : Int32) (o5 : Option Nat) (k6 : ClassId) (f5 : Nat → Int32) (hx0 : -1 ≤ x0.toInt ∧ x0.toInt ≤ 5) (hx6 : 0 ≤ x6.toInt ∧ x6.toInt ≤ 12) (ho0 : ∀ a : Nat, o0 = some a → F a) (hx7 : 0 ≤ x7.toInt ∧ x7.toInt ≤ 12) (ho1 : ∀ a : Nat, o1 = some a → F a) (hx8 : 0 ≤ x8.toInt ∧ x8.toInt ≤ 12) (ho2 : ∀ a : Nat, o2 = some a → F a) (hx9 : 0 ≤ x9.toInt ∧ x9.toInt ≤ 12) (ho3 : ∀ a : Nat, o3 = some a → F a) (hx10 : 0 ≤ x10.toInt ∧ x10.toInt ≤ 12) (ho4 : ∀ a : Nat, o4 = some a → F a) (hx11 : 0 ≤ x11.toInt ∧ x11.toInt ≤ 12) (ho5 : ∀ a : Nat, o5 = some a → F a) : ka_R l D F yX6_longest wsX6_longest 3 74 [.ref a0] [(a0, .inr (6, [.ref a1, .ref a2, .ref a3, .ref a4, .int x0, .int x1, .int x2, .int x3, .int x4])), (a3, .inr (0, [.ref a5, .ref a6, .int x5])), (a5, .inl (k0, 6, .inr (.inr (.inr (.inr (va_up (va_up (va_up (va_up (va_up (va_up (fun _ => none) 0 (some a7)) 1 (some a8)) 2 (some a9)) 3 (some a10)) 4 (some a11)) 5 (some a12))))))), (a7, .inr (2, [.ref a13, .ref a14, .int x6, va_rf o0])), (a14, .inl (k1, 32, .inl f0)), (a8, .inr (2, [.ref a15, .ref a16, .int x7, va_rf o1])), (a16, .inl (k2, 32, .inl f1)), (a9, .inr (2, [.ref a17, .ref a18, .int x8, va_rf o2])), (a18, .inl (k3, 32, .inl f2)), (a10, .inr (2, [.ref a19, .ref a20, .int x9, va_rf o3])), (a20, .inl (k4, 32, .inl f3)), (a11, .inr (2, [.ref a21, .ref a22, .int x10, va_rf o4])), (a22, .inl (k5, 32, .inl f4)), (a12, .inr (2, [.ref a23, .ref a24, .int x11, va_rf o5])), (a24, .inl (k6, 32, .inl f5))] [(k0, .object RX2), (k1, .int), (k2, .int), (k3, .int), (k4, .int), (k5, .int), (k6, .int)] (fun v => ∃ x : Int32, v = some (.int x)) := by
  refine ka_R_of (cc := cX6_longest) (maxL := 4) (ret := (some .int)) (by decide) rfl (Nat.le_of_ble_eq_true rfl) ?_
  intro p e s m below meth c ls C hr hlk hP hK hE hN hl
  have hS : va_S (fun _ => False) s.heap s.heap [] := va_S.rf
  have C : CallFix p m c cX6_longest 4 s [.ref a0].toArray wsX6_longest RX6 := C
  obtain ⟨hx, hb, hml, hown, hts⟩ := id C
  have hl : lv_has ls 4 [(0, .ref a0)] := hl
  have rx0 := ka_rng x0
  have rx1 := ka_rng x1
  have rx2 := ka_rng x2
  have rx3 := ka_rng x3
  have rx4 := ka_rng x4
  have rx5 := ka_rng x5
  have rx6 := ka_rng x6
  have rx7 := ka_rng x7
  have rx8 := ka_rng x8
  have rx9 := ka_rng x9
  have rx10 := ka_rng x10
  have rx11 := ka_rng x11
  rcases (show x0.toInt = -1 ∨ x0.toInt = 0 ∨ x0.toInt = 1 ∨ x0.toInt = 2 ∨ x0.toInt = 3 ∨ x0.toInt = 4 ∨ x0.toInt = 5 by omega) with y_20845 | y_20845 | y_20845 | y_20845 | y_20845 | y_20845 | y_20845
  · obtain rfl : x0 = (-1) := (ka_eq' _ _).mpr (y_20845.trans (by decide))
    refine lv_aload_n hx hb dX6_longest_0 rfl (lv_at hl 0 rfl) ?_
    refine ka_get C lq_204 rfl hK hP 0 rfl 2 (by decide) lq_205 rfl dX6_longest_1 ?_
    refine lv_aload_n hx hb dX6_longest_4 rfl (lv_at hl 0 rfl) ?_
    refine ka_get C lq_204 rfl hK hP 0 rfl 4 (by decide) lq_206 rfl dX6_longest_5 ?_
    refine ka_RV (n := 1) C (cg_X0_lessonAt_161 l D F a3) gX6_longest_X0_lessonAt rfl (by decide +kernel) ⟨Nat.le_of_ble_eq_true rfl, Nat.le_of_ble_eq_true rfl⟩ hK hP hS hE hN [] rfl [] rfl (ci := 0) rfl rfl 1 rfl rfl hl.1 (rest := []) rfl (Nat.le_of_ble_eq_true rfl) dX6_longest_8 ⟨Nat.le_of_ble_eq_true rfl, Nat.le_of_ble_eq_true rfl⟩ (fun v hv => ?_)
    subst hv
    refine ka_stk (w := [.null]) rfl ?_
    refine lv_astore_nN (lv' := [(1, .null), (0, .ref a0)]) hx hb dX6_longest_11 rfl hl (by decide) rfl (fun ls hl => ?_)
    refine lv_aload_nN hx hb dX6_longest_12 rfl (lv_at hl 0 rfl) ?_
    refine lv_ifnonnullN hx hb dX6_longest_13 ?_
    refine lv_iconst (v := (-1)) hx hb dX6_longest_16 (by decide) ?_
    exact ka_rRi C hr hlk ⟨_, rfl⟩ dX6_longest_17
  · obtain rfl : x0 = 0 := (ka_eq' _ _).mpr (y_20845.trans (by decide))
    refine lv_aload_n hx hb dX6_longest_0 rfl (lv_at hl 0 rfl) ?_
    refine ka_get C lq_204 rfl hK hP 0 rfl 2 (by decide) lq_205 rfl dX6_longest_1 ?_
    refine lv_aload_n hx hb dX6_longest_4 rfl (lv_at hl 0 rfl) ?_
    refine ka_get C lq_204 rfl hK hP 0 rfl 4 (by decide) lq_206 rfl dX6_longest_5 ?_
    refine ka_RV (n := 1) C (cg_X0_lessonAt_145 l D F a3 a5 a6 x5 k0 a7 a8 a9 a10 a11 a12) gX6_longest_X0_lessonAt rfl (by decide +kernel) ⟨Nat.le_of_ble_eq_true rfl, Nat.le_of_ble_eq_true rfl⟩ hK hP hS hE hN [1, 2] rfl [0] rfl (ci := 0) rfl rfl 1 rfl rfl hl.1 (rest := []) rfl (Nat.le_of_ble_eq_true rfl) dX6_longest_8 ⟨Nat.le_of_ble_eq_true rfl, Nat.le_of_ble_eq_true rfl⟩ (fun v hv => ?_)
    subst hv
    refine ka_stk (w := [.ref a7]) rfl ?_
    refine lv_astore_n (lv' := [(1, .ref a7), (0, .ref a0)]) hx hb dX6_longest_11 rfl hl (by decide) rfl (fun ls hl => ?_)
    refine lv_aload_n hx hb dX6_longest_12 rfl (lv_at hl 0 rfl) ?_
    refine lv_ifnonnull (tgt := 18) hx hb dX6_longest_13 (by decide) ?_
    refine lv_iconst (v := (-1)) hx hb dX6_longest_18 (by decide) ?_
    refine lv_istore_n (lv' := [(2, .int (-1)), (1, .ref a7), (0, .ref a0)]) hx hb dX6_longest_19 rfl hl (by decide) rfl (fun ls hl => ?_)
    refine lv_iconst (v := 0) hx hb dX6_longest_20 (by decide) ?_
    refine lv_istore_n (lv' := [(3, .int 0), (2, .int (-1)), (1, .ref a7), (0, .ref a0)]) hx hb dX6_longest_21 rfl hl (by decide) rfl (fun ls hl => ?_)
    have lp_20846 : ∀ (n : Nat) (i20846_2 : Int32) (i20846_3 : Int32), (0 ≤ i20846_3.toInt ∧ i20846_3.toInt ≤ 12) → (12 - i20846_3.toInt).toNat < n → ∀ (ls : Array Slot), lv_has ls 4 [(0, .ref a0), (1, .ref a7), (2, .int i20846_2), (3, .int i20846_3)] → W p l e ({ frames := 3, cells := 0, slots := 0, locals := 74 }) s m [.ref a0].toArray below meth c s.heap [] 0 0 (MQ below (ka_QR (fun v => ∃ x : Int32, v = some (.int x))) [.ref a0].toArray s 0 0 (fun _ => False)) (F0 m 22 ls []) := by
      intro n
      induction n with
      | zero =>
        intro i20846_2 i20846_3 hi20846_3 hm
        exact absurd hm (Nat.not_lt_zero _)
      | succ n ih_20846 =>
        intro i20846_2 i20846_3 hi20846_3 hm ls hl
        have ri20846_2 := ka_rng i20846_2
        have ri20846_3 := ka_rng i20846_3
        refine lv_iload_n hx hb dX6_longest_22 rfl (lv_at hl 3 rfl) ?_
        refine lv_aload_n hx hb dX6_longest_23 rfl (lv_at hl 1 rfl) ?_
        refine ka_get C lq_207 rfl hK hP 3 rfl 2 (by decide) lq_208 rfl dX6_longest_24 ?_
        refine lv_icmp_ge (tgt := 46) hx hb dX6_longest_27 (by decide) (fun c_20851 => ?_) (fun c_20851 => ?_)
        · have c_20851 : x6.toInt ≤ i20846_3.toInt := by rw [ka_le'] at c_20851; exact c_20851
          refine lv_iload_n hx hb dX6_longest_46 rfl (lv_at hl 2 rfl) ?_
          exact ka_rRi C hr hlk ⟨_, rfl⟩ dX6_longest_47
        · have c_20851 : ¬ x6.toInt ≤ i20846_3.toInt := by rw [ka_le'] at c_20851; exact c_20851
          refine lv_iload_n hx hb dX6_longest_30 rfl (lv_at hl 2 rfl) ?_
          refine lv_aload_n hx hb dX6_longest_31 rfl (lv_at hl 1 rfl) ?_
          refine lv_iload_n hx hb dX6_longest_32 rfl (lv_at hl 3 rfl) ?_
          refine ka_RV (n := 1) C (cg_X2_pathOf_192 l D F a7 i20846_3 a13 a14 x6 o0 k1 f0 ⟨by omega, by omega⟩ ⟨by omega, by omega⟩ ho0) gX6_longest_X2_pathOf rfl (by decide +kernel) ⟨Nat.le_of_ble_eq_true rfl, Nat.le_of_ble_eq_true rfl⟩ hK hP hS hE hN [3, 4] rfl [1] rfl (ci := 2) rfl rfl 3 rfl rfl hl.1 (rest := [.int i20846_2]) rfl (Nat.le_of_ble_eq_true rfl) dX6_longest_33 ⟨Nat.le_of_ble_eq_true rfl, Nat.le_of_ble_eq_true rfl⟩ (fun v hv => ?_)
          obtain ⟨v_20852, rfl, hv_20852⟩ := hv
          have rv_20852 := ka_rng v_20852
          refine ka_stk (w := [.int v_20852, .int i20846_2]) rfl ?_
          refine va_mmax hx hb (hml.trans hl.1.symm) hown (hts _ lq_209) (hts _ lq_210) (hts _ lq_211) (hts _ lq_212) (Nat.le_of_ble_eq_true rfl) (Nat.le_of_ble_eq_true rfl) (Nat.le_of_ble_eq_true rfl) (Nat.le_of_ble_eq_true rfl) dX6_longest_36 ?_
          refine lv_topi (fun v_20853 ev_20853 => ?_)
          have fv_20853 := kb_max i20846_2 v_20852; rw [← ev_20853] at fv_20853
          refine lv_istore_n (lv' := [(2, .int v_20853), (0, .ref a0), (1, .ref a7), (3, .int i20846_3)]) hx hb dX6_longest_39 rfl hl (by decide) rfl (fun ls hl => ?_)
          obtain ⟨v_20854, ev_20854⟩ : ∃ y : Int32, y = i20846_3 + 1 := ⟨_, rfl⟩
          refine lv_iinc (v := v_20854) (lv' := [(3, .int v_20854), (2, .int v_20853), (0, .ref a0), (1, .ref a7)]) hx hb dX6_longest_40 hl (k := 3) rfl (by rw [ev_20854]; rfl) (by decide) rfl (fun ls hl => ?_)
          have fv_20854 : v_20854.toInt = i20846_3.toInt + 1 := by rw [ev_20854]; exact ka_add (x := i20846_3.toInt) (y := 1) rfl (by decide) (by omega) (by omega)
          refine lv_goto (tgt := 22) hx hb dX6_longest_43 (by decide) ?_
          exact ih_20846 v_20853 v_20854 ⟨by omega, by omega⟩ (by omega) ls (lv_sub hl [2, 3, 1, 0] rfl)
    exact lp_20846 _ (-1) 0 ⟨by decide, by decide⟩ (Nat.lt_succ_self _) ls (lv_sub hl [3, 2, 1, 0] rfl)
  · obtain rfl : x0 = 1 := (ka_eq' _ _).mpr (y_20845.trans (by decide))
    refine lv_aload_n hx hb dX6_longest_0 rfl (lv_at hl 0 rfl) ?_
    refine ka_get C lq_204 rfl hK hP 0 rfl 2 (by decide) lq_205 rfl dX6_longest_1 ?_
    refine lv_aload_n hx hb dX6_longest_4 rfl (lv_at hl 0 rfl) ?_
    refine ka_get C lq_204 rfl hK hP 0 rfl 4 (by decide) lq_206 rfl dX6_longest_5 ?_
    refine ka_RV (n := 1) C (cg_X0_lessonAt_147 l D F a3 a5 a6 x5 k0 a7 a8 a9 a10 a11 a12) gX6_longest_X0_lessonAt rfl (by decide +kernel) ⟨Nat.le_of_ble_eq_true rfl, Nat.le_of_ble_eq_true rfl⟩ hK hP hS hE hN [1, 2] rfl [0] rfl (ci := 0) rfl rfl 1 rfl rfl hl.1 (rest := []) rfl (Nat.le_of_ble_eq_true rfl) dX6_longest_8 ⟨Nat.le_of_ble_eq_true rfl, Nat.le_of_ble_eq_true rfl⟩ (fun v hv => ?_)
    subst hv
    refine ka_stk (w := [.ref a8]) rfl ?_
    refine lv_astore_n (lv' := [(1, .ref a8), (0, .ref a0)]) hx hb dX6_longest_11 rfl hl (by decide) rfl (fun ls hl => ?_)
    refine lv_aload_n hx hb dX6_longest_12 rfl (lv_at hl 0 rfl) ?_
    refine lv_ifnonnull (tgt := 18) hx hb dX6_longest_13 (by decide) ?_
    refine lv_iconst (v := (-1)) hx hb dX6_longest_18 (by decide) ?_
    refine lv_istore_n (lv' := [(2, .int (-1)), (1, .ref a8), (0, .ref a0)]) hx hb dX6_longest_19 rfl hl (by decide) rfl (fun ls hl => ?_)
    refine lv_iconst (v := 0) hx hb dX6_longest_20 (by decide) ?_
    refine lv_istore_n (lv' := [(3, .int 0), (2, .int (-1)), (1, .ref a8), (0, .ref a0)]) hx hb dX6_longest_21 rfl hl (by decide) rfl (fun ls hl => ?_)
    have lp_20855 : ∀ (n : Nat) (i20855_2 : Int32) (i20855_3 : Int32), (0 ≤ i20855_3.toInt ∧ i20855_3.toInt ≤ 12) → (12 - i20855_3.toInt).toNat < n → ∀ (ls : Array Slot), lv_has ls 4 [(0, .ref a0), (1, .ref a8), (2, .int i20855_2), (3, .int i20855_3)] → W p l e ({ frames := 3, cells := 0, slots := 0, locals := 74 }) s m [.ref a0].toArray below meth c s.heap [] 0 0 (MQ below (ka_QR (fun v => ∃ x : Int32, v = some (.int x))) [.ref a0].toArray s 0 0 (fun _ => False)) (F0 m 22 ls []) := by
      intro n
      induction n with
      | zero =>
        intro i20855_2 i20855_3 hi20855_3 hm
        exact absurd hm (Nat.not_lt_zero _)
      | succ n ih_20855 =>
        intro i20855_2 i20855_3 hi20855_3 hm ls hl
        have ri20855_2 := ka_rng i20855_2
        have ri20855_3 := ka_rng i20855_3
        refine lv_iload_n hx hb dX6_longest_22 rfl (lv_at hl 3 rfl) ?_
        refine lv_aload_n hx hb dX6_longest_23 rfl (lv_at hl 1 rfl) ?_
        refine ka_get C lq_207 rfl hK hP 5 rfl 2 (by decide) lq_208 rfl dX6_longest_24 ?_
        refine lv_icmp_ge (tgt := 46) hx hb dX6_longest_27 (by decide) (fun c_20860 => ?_) (fun c_20860 => ?_)
        · have c_20860 : x7.toInt ≤ i20855_3.toInt := by rw [ka_le'] at c_20860; exact c_20860
          refine lv_iload_n hx hb dX6_longest_46 rfl (lv_at hl 2 rfl) ?_
          exact ka_rRi C hr hlk ⟨_, rfl⟩ dX6_longest_47
        · have c_20860 : ¬ x7.toInt ≤ i20855_3.toInt := by rw [ka_le'] at c_20860; exact c_20860
          refine lv_iload_n hx hb dX6_longest_30 rfl (lv_at hl 2 rfl) ?_
          refine lv_aload_n hx hb dX6_longest_31 rfl (lv_at hl 1 rfl) ?_
          refine lv_iload_n hx hb dX6_longest_32 rfl (lv_at hl 3 rfl) ?_
          refine ka_RV (n := 1) C (cg_X2_pathOf_192 l D F a8 i20855_3 a15 a16 x7 o1 k2 f1 ⟨by omega, by omega⟩ ⟨by omega, by omega⟩ ho1) gX6_longest_X2_pathOf rfl (by decide +kernel) ⟨Nat.le_of_ble_eq_true rfl, Nat.le_of_ble_eq_true rfl⟩ hK hP hS hE hN [5, 6] rfl [2] rfl (ci := 2) rfl rfl 5 rfl rfl hl.1 (rest := [.int i20855_2]) rfl (Nat.le_of_ble_eq_true rfl) dX6_longest_33 ⟨Nat.le_of_ble_eq_true rfl, Nat.le_of_ble_eq_true rfl⟩ (fun v hv => ?_)
          obtain ⟨v_20861, rfl, hv_20861⟩ := hv
          have rv_20861 := ka_rng v_20861
          refine ka_stk (w := [.int v_20861, .int i20855_2]) rfl ?_
          refine va_mmax hx hb (hml.trans hl.1.symm) hown (hts _ lq_209) (hts _ lq_210) (hts _ lq_211) (hts _ lq_212) (Nat.le_of_ble_eq_true rfl) (Nat.le_of_ble_eq_true rfl) (Nat.le_of_ble_eq_true rfl) (Nat.le_of_ble_eq_true rfl) dX6_longest_36 ?_
          refine lv_topi (fun v_20862 ev_20862 => ?_)
          have fv_20862 := kb_max i20855_2 v_20861; rw [← ev_20862] at fv_20862
          refine lv_istore_n (lv' := [(2, .int v_20862), (0, .ref a0), (1, .ref a8), (3, .int i20855_3)]) hx hb dX6_longest_39 rfl hl (by decide) rfl (fun ls hl => ?_)
          obtain ⟨v_20863, ev_20863⟩ : ∃ y : Int32, y = i20855_3 + 1 := ⟨_, rfl⟩
          refine lv_iinc (v := v_20863) (lv' := [(3, .int v_20863), (2, .int v_20862), (0, .ref a0), (1, .ref a8)]) hx hb dX6_longest_40 hl (k := 3) rfl (by rw [ev_20863]; rfl) (by decide) rfl (fun ls hl => ?_)
          have fv_20863 : v_20863.toInt = i20855_3.toInt + 1 := by rw [ev_20863]; exact ka_add (x := i20855_3.toInt) (y := 1) rfl (by decide) (by omega) (by omega)
          refine lv_goto (tgt := 22) hx hb dX6_longest_43 (by decide) ?_
          exact ih_20855 v_20862 v_20863 ⟨by omega, by omega⟩ (by omega) ls (lv_sub hl [2, 3, 1, 0] rfl)
    exact lp_20855 _ (-1) 0 ⟨by decide, by decide⟩ (Nat.lt_succ_self _) ls (lv_sub hl [3, 2, 1, 0] rfl)
  · obtain rfl : x0 = 2 := (ka_eq' _ _).mpr (y_20845.trans (by decide))
    refine lv_aload_n hx hb dX6_longest_0 rfl (lv_at hl 0 rfl) ?_
    refine ka_get C lq_204 rfl hK hP 0 rfl 2 (by decide) lq_205 rfl dX6_longest_1 ?_
    refine lv_aload_n hx hb dX6_longest_4 rfl (lv_at hl 0 rfl) ?_
    refine ka_get C lq_204 rfl hK hP 0 rfl 4 (by decide) lq_206 rfl dX6_longest_5 ?_
    refine ka_RV (n := 1) C (cg_X0_lessonAt_149 l D F a3 a5 a6 x5 k0 a7 a8 a9 a10 a11 a12) gX6_longest_X0_lessonAt rfl (by decide +kernel) ⟨Nat.le_of_ble_eq_true rfl, Nat.le_of_ble_eq_true rfl⟩ hK hP hS hE hN [1, 2] rfl [0] rfl (ci := 0) rfl rfl 1 rfl rfl hl.1 (rest := []) rfl (Nat.le_of_ble_eq_true rfl) dX6_longest_8 ⟨Nat.le_of_ble_eq_true rfl, Nat.le_of_ble_eq_true rfl⟩ (fun v hv => ?_)
    subst hv
    refine ka_stk (w := [.ref a9]) rfl ?_
    refine lv_astore_n (lv' := [(1, .ref a9), (0, .ref a0)]) hx hb dX6_longest_11 rfl hl (by decide) rfl (fun ls hl => ?_)
    refine lv_aload_n hx hb dX6_longest_12 rfl (lv_at hl 0 rfl) ?_
    refine lv_ifnonnull (tgt := 18) hx hb dX6_longest_13 (by decide) ?_
    refine lv_iconst (v := (-1)) hx hb dX6_longest_18 (by decide) ?_
    refine lv_istore_n (lv' := [(2, .int (-1)), (1, .ref a9), (0, .ref a0)]) hx hb dX6_longest_19 rfl hl (by decide) rfl (fun ls hl => ?_)
    refine lv_iconst (v := 0) hx hb dX6_longest_20 (by decide) ?_
    refine lv_istore_n (lv' := [(3, .int 0), (2, .int (-1)), (1, .ref a9), (0, .ref a0)]) hx hb dX6_longest_21 rfl hl (by decide) rfl (fun ls hl => ?_)
    have lp_20864 : ∀ (n : Nat) (i20864_2 : Int32) (i20864_3 : Int32), (0 ≤ i20864_3.toInt ∧ i20864_3.toInt ≤ 12) → (12 - i20864_3.toInt).toNat < n → ∀ (ls : Array Slot), lv_has ls 4 [(0, .ref a0), (1, .ref a9), (2, .int i20864_2), (3, .int i20864_3)] → W p l e ({ frames := 3, cells := 0, slots := 0, locals := 74 }) s m [.ref a0].toArray below meth c s.heap [] 0 0 (MQ below (ka_QR (fun v => ∃ x : Int32, v = some (.int x))) [.ref a0].toArray s 0 0 (fun _ => False)) (F0 m 22 ls []) := by
      intro n
      induction n with
      | zero =>
        intro i20864_2 i20864_3 hi20864_3 hm
        exact absurd hm (Nat.not_lt_zero _)
      | succ n ih_20864 =>
        intro i20864_2 i20864_3 hi20864_3 hm ls hl
        have ri20864_2 := ka_rng i20864_2
        have ri20864_3 := ka_rng i20864_3
        refine lv_iload_n hx hb dX6_longest_22 rfl (lv_at hl 3 rfl) ?_
        refine lv_aload_n hx hb dX6_longest_23 rfl (lv_at hl 1 rfl) ?_
        refine ka_get C lq_207 rfl hK hP 7 rfl 2 (by decide) lq_208 rfl dX6_longest_24 ?_
        refine lv_icmp_ge (tgt := 46) hx hb dX6_longest_27 (by decide) (fun c_20869 => ?_) (fun c_20869 => ?_)
        · have c_20869 : x8.toInt ≤ i20864_3.toInt := by rw [ka_le'] at c_20869; exact c_20869
          refine lv_iload_n hx hb dX6_longest_46 rfl (lv_at hl 2 rfl) ?_
          exact ka_rRi C hr hlk ⟨_, rfl⟩ dX6_longest_47
        · have c_20869 : ¬ x8.toInt ≤ i20864_3.toInt := by rw [ka_le'] at c_20869; exact c_20869
          refine lv_iload_n hx hb dX6_longest_30 rfl (lv_at hl 2 rfl) ?_
          refine lv_aload_n hx hb dX6_longest_31 rfl (lv_at hl 1 rfl) ?_
          refine lv_iload_n hx hb dX6_longest_32 rfl (lv_at hl 3 rfl) ?_
          refine ka_RV (n := 1) C (cg_X2_pathOf_192 l D F a9 i20864_3 a17 a18 x8 o2 k3 f2 ⟨by omega, by omega⟩ ⟨by omega, by omega⟩ ho2) gX6_longest_X2_pathOf rfl (by decide +kernel) ⟨Nat.le_of_ble_eq_true rfl, Nat.le_of_ble_eq_true rfl⟩ hK hP hS hE hN [7, 8] rfl [3] rfl (ci := 2) rfl rfl 7 rfl rfl hl.1 (rest := [.int i20864_2]) rfl (Nat.le_of_ble_eq_true rfl) dX6_longest_33 ⟨Nat.le_of_ble_eq_true rfl, Nat.le_of_ble_eq_true rfl⟩ (fun v hv => ?_)
          obtain ⟨v_20870, rfl, hv_20870⟩ := hv
          have rv_20870 := ka_rng v_20870
          refine ka_stk (w := [.int v_20870, .int i20864_2]) rfl ?_
          refine va_mmax hx hb (hml.trans hl.1.symm) hown (hts _ lq_209) (hts _ lq_210) (hts _ lq_211) (hts _ lq_212) (Nat.le_of_ble_eq_true rfl) (Nat.le_of_ble_eq_true rfl) (Nat.le_of_ble_eq_true rfl) (Nat.le_of_ble_eq_true rfl) dX6_longest_36 ?_
          refine lv_topi (fun v_20871 ev_20871 => ?_)
          have fv_20871 := kb_max i20864_2 v_20870; rw [← ev_20871] at fv_20871
          refine lv_istore_n (lv' := [(2, .int v_20871), (0, .ref a0), (1, .ref a9), (3, .int i20864_3)]) hx hb dX6_longest_39 rfl hl (by decide) rfl (fun ls hl => ?_)
          obtain ⟨v_20872, ev_20872⟩ : ∃ y : Int32, y = i20864_3 + 1 := ⟨_, rfl⟩
          refine lv_iinc (v := v_20872) (lv' := [(3, .int v_20872), (2, .int v_20871), (0, .ref a0), (1, .ref a9)]) hx hb dX6_longest_40 hl (k := 3) rfl (by rw [ev_20872]; rfl) (by decide) rfl (fun ls hl => ?_)
          have fv_20872 : v_20872.toInt = i20864_3.toInt + 1 := by rw [ev_20872]; exact ka_add (x := i20864_3.toInt) (y := 1) rfl (by decide) (by omega) (by omega)
          refine lv_goto (tgt := 22) hx hb dX6_longest_43 (by decide) ?_
          exact ih_20864 v_20871 v_20872 ⟨by omega, by omega⟩ (by omega) ls (lv_sub hl [2, 3, 1, 0] rfl)
    exact lp_20864 _ (-1) 0 ⟨by decide, by decide⟩ (Nat.lt_succ_self _) ls (lv_sub hl [3, 2, 1, 0] rfl)
  · obtain rfl : x0 = 3 := (ka_eq' _ _).mpr (y_20845.trans (by decide))
    refine lv_aload_n hx hb dX6_longest_0 rfl (lv_at hl 0 rfl) ?_
    refine ka_get C lq_204 rfl hK hP 0 rfl 2 (by decide) lq_205 rfl dX6_longest_1 ?_
    refine lv_aload_n hx hb dX6_longest_4 rfl (lv_at hl 0 rfl) ?_
    refine ka_get C lq_204 rfl hK hP 0 rfl 4 (by decide) lq_206 rfl dX6_longest_5 ?_
    refine ka_RV (n := 1) C (cg_X0_lessonAt_151 l D F a3 a5 a6 x5 k0 a7 a8 a9 a10 a11 a12) gX6_longest_X0_lessonAt rfl (by decide +kernel) ⟨Nat.le_of_ble_eq_true rfl, Nat.le_of_ble_eq_true rfl⟩ hK hP hS hE hN [1, 2] rfl [0] rfl (ci := 0) rfl rfl 1 rfl rfl hl.1 (rest := []) rfl (Nat.le_of_ble_eq_true rfl) dX6_longest_8 ⟨Nat.le_of_ble_eq_true rfl, Nat.le_of_ble_eq_true rfl⟩ (fun v hv => ?_)
    subst hv
    refine ka_stk (w := [.ref a10]) rfl ?_
    refine lv_astore_n (lv' := [(1, .ref a10), (0, .ref a0)]) hx hb dX6_longest_11 rfl hl (by decide) rfl (fun ls hl => ?_)
    refine lv_aload_n hx hb dX6_longest_12 rfl (lv_at hl 0 rfl) ?_
    refine lv_ifnonnull (tgt := 18) hx hb dX6_longest_13 (by decide) ?_
    refine lv_iconst (v := (-1)) hx hb dX6_longest_18 (by decide) ?_
    refine lv_istore_n (lv' := [(2, .int (-1)), (1, .ref a10), (0, .ref a0)]) hx hb dX6_longest_19 rfl hl (by decide) rfl (fun ls hl => ?_)
    refine lv_iconst (v := 0) hx hb dX6_longest_20 (by decide) ?_
    refine lv_istore_n (lv' := [(3, .int 0), (2, .int (-1)), (1, .ref a10), (0, .ref a0)]) hx hb dX6_longest_21 rfl hl (by decide) rfl (fun ls hl => ?_)
    have lp_20873 : ∀ (n : Nat) (i20873_2 : Int32) (i20873_3 : Int32), (0 ≤ i20873_3.toInt ∧ i20873_3.toInt ≤ 12) → (12 - i20873_3.toInt).toNat < n → ∀ (ls : Array Slot), lv_has ls 4 [(0, .ref a0), (1, .ref a10), (2, .int i20873_2), (3, .int i20873_3)] → W p l e ({ frames := 3, cells := 0, slots := 0, locals := 74 }) s m [.ref a0].toArray below meth c s.heap [] 0 0 (MQ below (ka_QR (fun v => ∃ x : Int32, v = some (.int x))) [.ref a0].toArray s 0 0 (fun _ => False)) (F0 m 22 ls []) := by
      intro n
      induction n with
      | zero =>
        intro i20873_2 i20873_3 hi20873_3 hm
        exact absurd hm (Nat.not_lt_zero _)
      | succ n ih_20873 =>
        intro i20873_2 i20873_3 hi20873_3 hm ls hl
        have ri20873_2 := ka_rng i20873_2
        have ri20873_3 := ka_rng i20873_3
        refine lv_iload_n hx hb dX6_longest_22 rfl (lv_at hl 3 rfl) ?_
        refine lv_aload_n hx hb dX6_longest_23 rfl (lv_at hl 1 rfl) ?_
        refine ka_get C lq_207 rfl hK hP 9 rfl 2 (by decide) lq_208 rfl dX6_longest_24 ?_
        refine lv_icmp_ge (tgt := 46) hx hb dX6_longest_27 (by decide) (fun c_20878 => ?_) (fun c_20878 => ?_)
        · have c_20878 : x9.toInt ≤ i20873_3.toInt := by rw [ka_le'] at c_20878; exact c_20878
          refine lv_iload_n hx hb dX6_longest_46 rfl (lv_at hl 2 rfl) ?_
          exact ka_rRi C hr hlk ⟨_, rfl⟩ dX6_longest_47
        · have c_20878 : ¬ x9.toInt ≤ i20873_3.toInt := by rw [ka_le'] at c_20878; exact c_20878
          refine lv_iload_n hx hb dX6_longest_30 rfl (lv_at hl 2 rfl) ?_
          refine lv_aload_n hx hb dX6_longest_31 rfl (lv_at hl 1 rfl) ?_
          refine lv_iload_n hx hb dX6_longest_32 rfl (lv_at hl 3 rfl) ?_
          refine ka_RV (n := 1) C (cg_X2_pathOf_192 l D F a10 i20873_3 a19 a20 x9 o3 k4 f3 ⟨by omega, by omega⟩ ⟨by omega, by omega⟩ ho3) gX6_longest_X2_pathOf rfl (by decide +kernel) ⟨Nat.le_of_ble_eq_true rfl, Nat.le_of_ble_eq_true rfl⟩ hK hP hS hE hN [9, 10] rfl [4] rfl (ci := 2) rfl rfl 9 rfl rfl hl.1 (rest := [.int i20873_2]) rfl (Nat.le_of_ble_eq_true rfl) dX6_longest_33 ⟨Nat.le_of_ble_eq_true rfl, Nat.le_of_ble_eq_true rfl⟩ (fun v hv => ?_)
          obtain ⟨v_20879, rfl, hv_20879⟩ := hv
          have rv_20879 := ka_rng v_20879
          refine ka_stk (w := [.int v_20879, .int i20873_2]) rfl ?_
          refine va_mmax hx hb (hml.trans hl.1.symm) hown (hts _ lq_209) (hts _ lq_210) (hts _ lq_211) (hts _ lq_212) (Nat.le_of_ble_eq_true rfl) (Nat.le_of_ble_eq_true rfl) (Nat.le_of_ble_eq_true rfl) (Nat.le_of_ble_eq_true rfl) dX6_longest_36 ?_
          refine lv_topi (fun v_20880 ev_20880 => ?_)
          have fv_20880 := kb_max i20873_2 v_20879; rw [← ev_20880] at fv_20880
          refine lv_istore_n (lv' := [(2, .int v_20880), (0, .ref a0), (1, .ref a10), (3, .int i20873_3)]) hx hb dX6_longest_39 rfl hl (by decide) rfl (fun ls hl => ?_)
          obtain ⟨v_20881, ev_20881⟩ : ∃ y : Int32, y = i20873_3 + 1 := ⟨_, rfl⟩
          refine lv_iinc (v := v_20881) (lv' := [(3, .int v_20881), (2, .int v_20880), (0, .ref a0), (1, .ref a10)]) hx hb dX6_longest_40 hl (k := 3) rfl (by rw [ev_20881]; rfl) (by decide) rfl (fun ls hl => ?_)
          have fv_20881 : v_20881.toInt = i20873_3.toInt + 1 := by rw [ev_20881]; exact ka_add (x := i20873_3.toInt) (y := 1) rfl (by decide) (by omega) (by omega)
          refine lv_goto (tgt := 22) hx hb dX6_longest_43 (by decide) ?_
          exact ih_20873 v_20880 v_20881 ⟨by omega, by omega⟩ (by omega) ls (lv_sub hl [2, 3, 1, 0] rfl)
    exact lp_20873 _ (-1) 0 ⟨by decide, by decide⟩ (Nat.lt_succ_self _) ls (lv_sub hl [3, 2, 1, 0] rfl)
  · obtain rfl : x0 = 4 := (ka_eq' _ _).mpr (y_20845.trans (by decide))
    refine lv_aload_n hx hb dX6_longest_0 rfl (lv_at hl 0 rfl) ?_
    refine ka_get C lq_204 rfl hK hP 0 rfl 2 (by decide) lq_205 rfl dX6_longest_1 ?_
    refine lv_aload_n hx hb dX6_longest_4 rfl (lv_at hl 0 rfl) ?_
    refine ka_get C lq_204 rfl hK hP 0 rfl 4 (by decide) lq_206 rfl dX6_longest_5 ?_
    refine ka_RV (n := 1) C (cg_X0_lessonAt_153 l D F a3 a5 a6 x5 k0 a7 a8 a9 a10 a11 a12) gX6_longest_X0_lessonAt rfl (by decide +kernel) ⟨Nat.le_of_ble_eq_true rfl, Nat.le_of_ble_eq_true rfl⟩ hK hP hS hE hN [1, 2] rfl [0] rfl (ci := 0) rfl rfl 1 rfl rfl hl.1 (rest := []) rfl (Nat.le_of_ble_eq_true rfl) dX6_longest_8 ⟨Nat.le_of_ble_eq_true rfl, Nat.le_of_ble_eq_true rfl⟩ (fun v hv => ?_)
    subst hv
    refine ka_stk (w := [.ref a11]) rfl ?_
    refine lv_astore_n (lv' := [(1, .ref a11), (0, .ref a0)]) hx hb dX6_longest_11 rfl hl (by decide) rfl (fun ls hl => ?_)
    refine lv_aload_n hx hb dX6_longest_12 rfl (lv_at hl 0 rfl) ?_
    refine lv_ifnonnull (tgt := 18) hx hb dX6_longest_13 (by decide) ?_
    refine lv_iconst (v := (-1)) hx hb dX6_longest_18 (by decide) ?_
    refine lv_istore_n (lv' := [(2, .int (-1)), (1, .ref a11), (0, .ref a0)]) hx hb dX6_longest_19 rfl hl (by decide) rfl (fun ls hl => ?_)
    refine lv_iconst (v := 0) hx hb dX6_longest_20 (by decide) ?_
    refine lv_istore_n (lv' := [(3, .int 0), (2, .int (-1)), (1, .ref a11), (0, .ref a0)]) hx hb dX6_longest_21 rfl hl (by decide) rfl (fun ls hl => ?_)
    have lp_20882 : ∀ (n : Nat) (i20882_2 : Int32) (i20882_3 : Int32), (0 ≤ i20882_3.toInt ∧ i20882_3.toInt ≤ 12) → (12 - i20882_3.toInt).toNat < n → ∀ (ls : Array Slot), lv_has ls 4 [(0, .ref a0), (1, .ref a11), (2, .int i20882_2), (3, .int i20882_3)] → W p l e ({ frames := 3, cells := 0, slots := 0, locals := 74 }) s m [.ref a0].toArray below meth c s.heap [] 0 0 (MQ below (ka_QR (fun v => ∃ x : Int32, v = some (.int x))) [.ref a0].toArray s 0 0 (fun _ => False)) (F0 m 22 ls []) := by
      intro n
      induction n with
      | zero =>
        intro i20882_2 i20882_3 hi20882_3 hm
        exact absurd hm (Nat.not_lt_zero _)
      | succ n ih_20882 =>
        intro i20882_2 i20882_3 hi20882_3 hm ls hl
        have ri20882_2 := ka_rng i20882_2
        have ri20882_3 := ka_rng i20882_3
        refine lv_iload_n hx hb dX6_longest_22 rfl (lv_at hl 3 rfl) ?_
        refine lv_aload_n hx hb dX6_longest_23 rfl (lv_at hl 1 rfl) ?_
        refine ka_get C lq_207 rfl hK hP 11 rfl 2 (by decide) lq_208 rfl dX6_longest_24 ?_
        refine lv_icmp_ge (tgt := 46) hx hb dX6_longest_27 (by decide) (fun c_20887 => ?_) (fun c_20887 => ?_)
        · have c_20887 : x10.toInt ≤ i20882_3.toInt := by rw [ka_le'] at c_20887; exact c_20887
          refine lv_iload_n hx hb dX6_longest_46 rfl (lv_at hl 2 rfl) ?_
          exact ka_rRi C hr hlk ⟨_, rfl⟩ dX6_longest_47
        · have c_20887 : ¬ x10.toInt ≤ i20882_3.toInt := by rw [ka_le'] at c_20887; exact c_20887
          refine lv_iload_n hx hb dX6_longest_30 rfl (lv_at hl 2 rfl) ?_
          refine lv_aload_n hx hb dX6_longest_31 rfl (lv_at hl 1 rfl) ?_
          refine lv_iload_n hx hb dX6_longest_32 rfl (lv_at hl 3 rfl) ?_
          refine ka_RV (n := 1) C (cg_X2_pathOf_192 l D F a11 i20882_3 a21 a22 x10 o4 k5 f4 ⟨by omega, by omega⟩ ⟨by omega, by omega⟩ ho4) gX6_longest_X2_pathOf rfl (by decide +kernel) ⟨Nat.le_of_ble_eq_true rfl, Nat.le_of_ble_eq_true rfl⟩ hK hP hS hE hN [11, 12] rfl [5] rfl (ci := 2) rfl rfl 11 rfl rfl hl.1 (rest := [.int i20882_2]) rfl (Nat.le_of_ble_eq_true rfl) dX6_longest_33 ⟨Nat.le_of_ble_eq_true rfl, Nat.le_of_ble_eq_true rfl⟩ (fun v hv => ?_)
          obtain ⟨v_20888, rfl, hv_20888⟩ := hv
          have rv_20888 := ka_rng v_20888
          refine ka_stk (w := [.int v_20888, .int i20882_2]) rfl ?_
          refine va_mmax hx hb (hml.trans hl.1.symm) hown (hts _ lq_209) (hts _ lq_210) (hts _ lq_211) (hts _ lq_212) (Nat.le_of_ble_eq_true rfl) (Nat.le_of_ble_eq_true rfl) (Nat.le_of_ble_eq_true rfl) (Nat.le_of_ble_eq_true rfl) dX6_longest_36 ?_
          refine lv_topi (fun v_20889 ev_20889 => ?_)
          have fv_20889 := kb_max i20882_2 v_20888; rw [← ev_20889] at fv_20889
          refine lv_istore_n (lv' := [(2, .int v_20889), (0, .ref a0), (1, .ref a11), (3, .int i20882_3)]) hx hb dX6_longest_39 rfl hl (by decide) rfl (fun ls hl => ?_)
          obtain ⟨v_20890, ev_20890⟩ : ∃ y : Int32, y = i20882_3 + 1 := ⟨_, rfl⟩
          refine lv_iinc (v := v_20890) (lv' := [(3, .int v_20890), (2, .int v_20889), (0, .ref a0), (1, .ref a11)]) hx hb dX6_longest_40 hl (k := 3) rfl (by rw [ev_20890]; rfl) (by decide) rfl (fun ls hl => ?_)
          have fv_20890 : v_20890.toInt = i20882_3.toInt + 1 := by rw [ev_20890]; exact ka_add (x := i20882_3.toInt) (y := 1) rfl (by decide) (by omega) (by omega)
          refine lv_goto (tgt := 22) hx hb dX6_longest_43 (by decide) ?_
          exact ih_20882 v_20889 v_20890 ⟨by omega, by omega⟩ (by omega) ls (lv_sub hl [2, 3, 1, 0] rfl)
    exact lp_20882 _ (-1) 0 ⟨by decide, by decide⟩ (Nat.lt_succ_self _) ls (lv_sub hl [3, 2, 1, 0] rfl)
  · obtain rfl : x0 = 5 := (ka_eq' _ _).mpr (y_20845.trans (by decide))
    refine lv_aload_n hx hb dX6_longest_0 rfl (lv_at hl 0 rfl) ?_
    refine ka_get C lq_204 rfl hK hP 0 rfl 2 (by decide) lq_205 rfl dX6_longest_1 ?_
    refine lv_aload_n hx hb dX6_longest_4 rfl (lv_at hl 0 rfl) ?_
    refine ka_get C lq_204 rfl hK hP 0 rfl 4 (by decide) lq_206 rfl dX6_longest_5 ?_
    refine ka_RV (n := 1) C (cg_X0_lessonAt_155 l D F a3 a5 a6 x5 k0 a7 a8 a9 a10 a11 a12) gX6_longest_X0_lessonAt rfl (by decide +kernel) ⟨Nat.le_of_ble_eq_true rfl, Nat.le_of_ble_eq_true rfl⟩ hK hP hS hE hN [1, 2] rfl [0] rfl (ci := 0) rfl rfl 1 rfl rfl hl.1 (rest := []) rfl (Nat.le_of_ble_eq_true rfl) dX6_longest_8 ⟨Nat.le_of_ble_eq_true rfl, Nat.le_of_ble_eq_true rfl⟩ (fun v hv => ?_)
    subst hv
    refine ka_stk (w := [.ref a12]) rfl ?_
    refine lv_astore_n (lv' := [(1, .ref a12), (0, .ref a0)]) hx hb dX6_longest_11 rfl hl (by decide) rfl (fun ls hl => ?_)
    refine lv_aload_n hx hb dX6_longest_12 rfl (lv_at hl 0 rfl) ?_
    refine lv_ifnonnull (tgt := 18) hx hb dX6_longest_13 (by decide) ?_
    refine lv_iconst (v := (-1)) hx hb dX6_longest_18 (by decide) ?_
    refine lv_istore_n (lv' := [(2, .int (-1)), (1, .ref a12), (0, .ref a0)]) hx hb dX6_longest_19 rfl hl (by decide) rfl (fun ls hl => ?_)
    refine lv_iconst (v := 0) hx hb dX6_longest_20 (by decide) ?_
    refine lv_istore_n (lv' := [(3, .int 0), (2, .int (-1)), (1, .ref a12), (0, .ref a0)]) hx hb dX6_longest_21 rfl hl (by decide) rfl (fun ls hl => ?_)
    have lp_20891 : ∀ (n : Nat) (i20891_2 : Int32) (i20891_3 : Int32), (0 ≤ i20891_3.toInt ∧ i20891_3.toInt ≤ 12) → (12 - i20891_3.toInt).toNat < n → ∀ (ls : Array Slot), lv_has ls 4 [(0, .ref a0), (1, .ref a12), (2, .int i20891_2), (3, .int i20891_3)] → W p l e ({ frames := 3, cells := 0, slots := 0, locals := 74 }) s m [.ref a0].toArray below meth c s.heap [] 0 0 (MQ below (ka_QR (fun v => ∃ x : Int32, v = some (.int x))) [.ref a0].toArray s 0 0 (fun _ => False)) (F0 m 22 ls []) := by
      intro n
      induction n with
      | zero =>
        intro i20891_2 i20891_3 hi20891_3 hm
        exact absurd hm (Nat.not_lt_zero _)
      | succ n ih_20891 =>
        intro i20891_2 i20891_3 hi20891_3 hm ls hl
        have ri20891_2 := ka_rng i20891_2
        have ri20891_3 := ka_rng i20891_3
        refine lv_iload_n hx hb dX6_longest_22 rfl (lv_at hl 3 rfl) ?_
        refine lv_aload_n hx hb dX6_longest_23 rfl (lv_at hl 1 rfl) ?_
        refine ka_get C lq_207 rfl hK hP 13 rfl 2 (by decide) lq_208 rfl dX6_longest_24 ?_
        refine lv_icmp_ge (tgt := 46) hx hb dX6_longest_27 (by decide) (fun c_20896 => ?_) (fun c_20896 => ?_)
        · have c_20896 : x11.toInt ≤ i20891_3.toInt := by rw [ka_le'] at c_20896; exact c_20896
          refine lv_iload_n hx hb dX6_longest_46 rfl (lv_at hl 2 rfl) ?_
          exact ka_rRi C hr hlk ⟨_, rfl⟩ dX6_longest_47
        · have c_20896 : ¬ x11.toInt ≤ i20891_3.toInt := by rw [ka_le'] at c_20896; exact c_20896
          refine lv_iload_n hx hb dX6_longest_30 rfl (lv_at hl 2 rfl) ?_
          refine lv_aload_n hx hb dX6_longest_31 rfl (lv_at hl 1 rfl) ?_
          refine lv_iload_n hx hb dX6_longest_32 rfl (lv_at hl 3 rfl) ?_
          refine ka_RV (n := 1) C (cg_X2_pathOf_192 l D F a12 i20891_3 a23 a24 x11 o5 k6 f5 ⟨by omega, by omega⟩ ⟨by omega, by omega⟩ ho5) gX6_longest_X2_pathOf rfl (by decide +kernel) ⟨Nat.le_of_ble_eq_true rfl, Nat.le_of_ble_eq_true rfl⟩ hK hP hS hE hN [13, 14] rfl [6] rfl (ci := 2) rfl rfl 13 rfl rfl hl.1 (rest := [.int i20891_2]) rfl (Nat.le_of_ble_eq_true rfl) dX6_longest_33 ⟨Nat.le_of_ble_eq_true rfl, Nat.le_of_ble_eq_true rfl⟩ (fun v hv => ?_)
          obtain ⟨v_20897, rfl, hv_20897⟩ := hv
          have rv_20897 := ka_rng v_20897
          refine ka_stk (w := [.int v_20897, .int i20891_2]) rfl ?_
          refine va_mmax hx hb (hml.trans hl.1.symm) hown (hts _ lq_209) (hts _ lq_210) (hts _ lq_211) (hts _ lq_212) (Nat.le_of_ble_eq_true rfl) (Nat.le_of_ble_eq_true rfl) (Nat.le_of_ble_eq_true rfl) (Nat.le_of_ble_eq_true rfl) dX6_longest_36 ?_
          refine lv_topi (fun v_20898 ev_20898 => ?_)
          have fv_20898 := kb_max i20891_2 v_20897; rw [← ev_20898] at fv_20898
          refine lv_istore_n (lv' := [(2, .int v_20898), (0, .ref a0), (1, .ref a12), (3, .int i20891_3)]) hx hb dX6_longest_39 rfl hl (by decide) rfl (fun ls hl => ?_)
          obtain ⟨v_20899, ev_20899⟩ : ∃ y : Int32, y = i20891_3 + 1 := ⟨_, rfl⟩
          refine lv_iinc (v := v_20899) (lv' := [(3, .int v_20899), (2, .int v_20898), (0, .ref a0), (1, .ref a12)]) hx hb dX6_longest_40 hl (k := 3) rfl (by rw [ev_20899]; rfl) (by decide) rfl (fun ls hl => ?_)
          have fv_20899 : v_20899.toInt = i20891_3.toInt + 1 := by rw [ev_20899]; exact ka_add (x := i20891_3.toInt) (y := 1) rfl (by decide) (by omega) (by omega)
          refine lv_goto (tgt := 22) hx hb dX6_longest_43 (by decide) ?_
          exact ih_20891 v_20898 v_20899 ⟨by omega, by omega⟩ (by omega) ls (lv_sub hl [2, 3, 1, 0] rfl)
    exact lp_20891 _ (-1) 0 ⟨by decide, by decide⟩ (Nat.lt_succ_self _) ls (lv_sub hl [3, 2, 1, 0] rfl)
theorem lq_213 : ∀ w ∈ wsX60, w ∈ wsX6_pictureOf := by decide +kernel
theorem lq_214 : Cond.fieldLink RX6 28 "AskedBack" "course" "LAskedBack$Course;" ∈ wsX6_pictureOf := by decide +kernel
theorem lq_215 : Cond.fieldLink RX6 39 "AskedBack" "begun" "I" ∈ wsX6_pictureOf := by decide +kernel
theorem lq_216 : Cond.fieldLink RX6 35 "AskedBack" "talk" "LAskedBack$Talk;" ∈ wsX6_pictureOf := by decide +kernel
theorem lq_217 : ∀ w ∈ wsX10, w ∈ wsX6_pictureOf := by decide +kernel
theorem lq_218 : Cond.fieldLink RX6 97 "AskedBack$Formula" "truth" "I" ∈ wsX6_pictureOf := by decide +kernel
theorem lq_219 : Cond.fieldLink RX6 46 "AskedBack" "slipsLet" "I" ∈ wsX6_pictureOf := by decide +kernel
set_option maxHeartbeats 4000000 in
set_option maxRecDepth 100000 in
theorem cg_X6_pictureOf_194 (l : Launch) (D : va_G) (F : Nat → Prop) (a0 : Nat) (x0 : Int32) (x1 : Int32) (a1 : Nat) (a2 : Nat) (a3 : Nat) (a4 : Nat) (x2 : Int32) (x3 : Int32) (x4 : Int32) (x5 : Int32) (x6 : Int32) (a5 : Nat) (a6 : Nat) (x7 : Int32) (k0 : ClassId) (a7 : Nat) (a8 : Nat) (a9 : Nat) (a10 : Nat) (a11 : Nat) (a12 : Nat) (a13 : Nat) (a14 : Nat) (x8 : Int32) (o0 : Option Nat) (k1 : ClassId) (f0 : Nat → Int32) (k2 : ClassId) (po0 : Nat → Option Nat) (a15 : Nat) (a16 : Nat) (x9 : Int32) (o1 : Option Nat) (k3 : ClassId) (f1 : Nat → Int32) (k4 : ClassId) (po1 : Nat → Option Nat) (a17 : Nat) (a18 : Nat) (x10 : Int32) (o2 : Option Nat) (k5 : ClassId) (f2 : Nat → Int32) (k6 : ClassId) (po2 : Nat → Option Nat) (a19 : Nat) (a20 : Nat) (x11 : Int32) (o3 : Option Nat) (k7 : ClassId) (f3 : Nat → Int32) (k8 : ClassId) (po3 : Nat → Option Nat) (a21 : Nat) (a22 : Nat) (x12 : Int32) (o4 : Option Nat) (k9 : ClassId) (f4 : Nat → Int32) (k10 : ClassId) (po4 : Nat → Option Nat) (a23 : Nat) (a24 : Nat) (x13 : Int32) (o5 : Option Nat) (k11 : ClassId) (f5 : Nat → Int32) (k12 : ClassId) (po5 : Nat → Option Nat) (a25 : Nat) (a26 : Nat) (a27 : Nat) (x14 : Int32) (x15 : Int32) (x16 : Int32) (x17 : Int32) (x18 : Int32) (x19 : Int32) (k13 : ClassId) (f6 : Nat → Int32) (k14 : ClassId) (f7 : Nat → Int32) (hx2 : -1 ≤ x2.toInt ∧ x2.toInt ≤ 5) (hx8 : 0 ≤ x8.toInt ∧ x8.toInt ≤ 12) (ho0 : ∀ a : Nat, o0 = some a → F a) (hpo0 : ∀ (j a : Nat), po0 j = some a → F a) (hx9 : 0 ≤ x9.toInt ∧ x9.toInt ≤ 12) (ho1 : ∀ a : Nat, o1 = some a → F a) (hpo1 : ∀ (j a : Nat), po1 j = some a → F a) (hx10 : 0 ≤ x10.toInt ∧ x10.toInt ≤ 12) (ho2 : ∀ a : Nat, o2 = some a → F a) (hpo2 : ∀ (j a : Nat), po2 j = some a → F a) (hx11 : 0 ≤ x11.toInt ∧ x11.toInt ≤ 12) (ho3 : ∀ a : Nat, o3 = some a → F a) (hpo3 : ∀ (j a : Nat), po3 j = some a → F a) (hx12 : 0 ≤ x12.toInt ∧ x12.toInt ≤ 12) (ho4 : ∀ a : Nat, o4 = some a → F a) (hpo4 : ∀ (j a : Nat), po4 j = some a → F a) (hx13 : 0 ≤ x13.toInt ∧ x13.toInt ≤ 12) (ho5 : ∀ a : Nat, o5 = some a → F a) (hpo5 : ∀ (j a : Nat), po5 j = some a → F a) (hx14 : 0 ≤ x14.toInt ∧ x14.toInt ≤ 10) : ka_R l D F yX6_pictureOf wsX6_pictureOf 3 74 [.ref a0, .int x0, .int x1] [(a0, .inr (6, [.ref a1, .ref a2, .ref a3, .ref a4, .int x2, .int x3, .int x4, .int x5, .int x6])), (a3, .inr (0, [.ref a5, .ref a6, .int x7])), (a5, .inl (k0, 6, .inr (.inr (.inr (.inr (va_up (va_up (va_up (va_up (va_up (va_up (fun _ => none) 0 (some a7)) 1 (some a8)) 2 (some a9)) 3 (some a10)) 4 (some a11)) 5 (some a12))))))), (a7, .inr (2, [.ref a13, .ref a14, .int x8, va_rf o0])), (a14, .inl (k1, 32, .inl f0)), (a13, .inl (k2, 12, .inr (.inr (.inr (.inr po0))))), (a8, .inr (2, [.ref a15, .ref a16, .int x9, va_rf o1])), (a16, .inl (k3, 32, .inl f1)), (a15, .inl (k4, 12, .inr (.inr (.inr (.inr po1))))), (a9, .inr (2, [.ref a17, .ref a18, .int x10, va_rf o2])), (a18, .inl (k5, 32, .inl f2)), (a17, .inl (k6, 12, .inr (.inr (.inr (.inr po2))))), (a10, .inr (2, [.ref a19, .ref a20, .int x11, va_rf o3])), (a20, .inl (k7, 32, .inl f3)), (a19, .inl (k8, 12, .inr (.inr (.inr (.inr po3))))), (a11, .inr (2, [.ref a21, .ref a22, .int x12, va_rf o4])), (a22, .inl (k9, 32, .inl f4)), (a21, .inl (k10, 12, .inr (.inr (.inr (.inr po4))))), (a12, .inr (2, [.ref a23, .ref a24, .int x13, va_rf o5])), (a24, .inl (k11, 32, .inl f5)), (a23, .inl (k12, 12, .inr (.inr (.inr (.inr po5))))), (a4, .inr (4, [.ref a25, .ref a26, .ref a27, .int x14, .int x15, .int x16, .int x17, .int x18, .int x19])), (a25, .inl (k13, 32, .inl f6)), (a26, .inl (k14, 32, .inl f7))] [(k0, .object RX2), (k1, .int), (k2, .object RX1), (k3, .int), (k4, .object RX1), (k5, .int), (k6, .object RX1), (k7, .int), (k8, .object RX1), (k9, .int), (k10, .object RX1), (k11, .int), (k12, .object RX1), (k13, .int), (k14, .int)] (fun v => ∃ x : Int32, v = some (.int x)) := by
  refine ka_R_of (cc := cX6_pictureOf) (maxL := 5) (ret := (some .int)) (by decide) rfl (Nat.le_of_ble_eq_true rfl) ?_
  intro p e s m below meth c ls C hr hlk hP hK hE hN hl
  have hS : va_S (fun _ => False) s.heap s.heap [] := va_S.rf
  have C : CallFix p m c cX6_pictureOf 5 s [.ref a0, .int x0, .int x1].toArray wsX6_pictureOf RX6 := C
  obtain ⟨hx, hb, hml, hown, hts⟩ := id C
  have hl : lv_has ls 5 [(0, .ref a0), (1, .int x0), (2, .int x1)] := hl
  have rx0 := ka_rng x0
  have rx1 := ka_rng x1
  have rx2 := ka_rng x2
  have rx3 := ka_rng x3
  have rx4 := ka_rng x4
  have rx5 := ka_rng x5
  have rx6 := ka_rng x6
  have rx7 := ka_rng x7
  have rx8 := ka_rng x8
  have rx9 := ka_rng x9
  have rx10 := ka_rng x10
  have rx11 := ka_rng x11
  have rx12 := ka_rng x12
  have rx13 := ka_rng x13
  have rx14 := ka_rng x14
  have rx15 := ka_rng x15
  have rx16 := ka_rng x16
  have rx17 := ka_rng x17
  have rx18 := ka_rng x18
  have rx19 := ka_rng x19
  rcases (show x2.toInt = -1 ∨ x2.toInt = 0 ∨ x2.toInt = 1 ∨ x2.toInt = 2 ∨ x2.toInt = 3 ∨ x2.toInt = 4 ∨ x2.toInt = 5 by omega) with y_21129 | y_21129 | y_21129 | y_21129 | y_21129 | y_21129 | y_21129
  · obtain rfl : x2 = (-1) := (ka_eq' _ _).mpr (y_21129.trans (by decide))
    rcases (show x1.toInt ≤ -1 ∨ x1.toInt = 0 ∨ x1.toInt = 1 ∨ x1.toInt = 2 ∨ 3 ≤ x1.toInt by omega) with y_21130 | y_21130 | y_21130 | y_21130 | y_21130
    · skip
      refine lv_aload_n hx hb dX6_pictureOf_0 rfl (lv_at hl 0 rfl) ?_
      refine ka_get C lq_213 rfl hK hP 0 rfl 2 (by decide) lq_214 rfl dX6_pictureOf_1 ?_
      refine lv_aload_n hx hb dX6_pictureOf_4 rfl (lv_at hl 0 rfl) ?_
      refine ka_get C lq_213 rfl hK hP 0 rfl 4 (by decide) lq_215 rfl dX6_pictureOf_5 ?_
      refine ka_RV (n := 1) C (cg_X0_lessonAt_161 l D F a3) gX6_pictureOf_X0_lessonAt rfl (by decide +kernel) ⟨Nat.le_of_ble_eq_true rfl, Nat.le_of_ble_eq_true rfl⟩ hK hP hS hE hN [] rfl [] rfl (ci := 0) rfl rfl 1 rfl rfl hl.1 (rest := []) rfl (Nat.le_of_ble_eq_true rfl) dX6_pictureOf_8 ⟨Nat.le_of_ble_eq_true rfl, Nat.le_of_ble_eq_true rfl⟩ (fun v hv => ?_)
      subst hv
      refine ka_stk (w := [.null]) rfl ?_
      refine lv_astore_nN (lv' := [(3, .null), (0, .ref a0), (1, .int x0), (2, .int x1)]) hx hb dX6_pictureOf_11 rfl hl (by decide) rfl (fun ls hl => ?_)
      refine lv_aload_nN hx hb dX6_pictureOf_12 rfl (lv_at hl 0 rfl) ?_
      refine lv_ifnonnullN hx hb dX6_pictureOf_13 ?_
      refine lv_iconst (v := (-1)) hx hb dX6_pictureOf_16 (by decide) ?_
      exact ka_rRi C hr hlk ⟨_, rfl⟩ dX6_pictureOf_17
    · obtain rfl : x1 = 0 := (ka_eq' _ _).mpr (y_21130.trans (by decide))
      refine lv_aload_n hx hb dX6_pictureOf_0 rfl (lv_at hl 0 rfl) ?_
      refine ka_get C lq_213 rfl hK hP 0 rfl 2 (by decide) lq_214 rfl dX6_pictureOf_1 ?_
      refine lv_aload_n hx hb dX6_pictureOf_4 rfl (lv_at hl 0 rfl) ?_
      refine ka_get C lq_213 rfl hK hP 0 rfl 4 (by decide) lq_215 rfl dX6_pictureOf_5 ?_
      refine ka_RV (n := 1) C (cg_X0_lessonAt_161 l D F a3) gX6_pictureOf_X0_lessonAt rfl (by decide +kernel) ⟨Nat.le_of_ble_eq_true rfl, Nat.le_of_ble_eq_true rfl⟩ hK hP hS hE hN [] rfl [] rfl (ci := 0) rfl rfl 1 rfl rfl hl.1 (rest := []) rfl (Nat.le_of_ble_eq_true rfl) dX6_pictureOf_8 ⟨Nat.le_of_ble_eq_true rfl, Nat.le_of_ble_eq_true rfl⟩ (fun v hv => ?_)
      subst hv
      refine ka_stk (w := [.null]) rfl ?_
      refine lv_astore_nN (lv' := [(3, .null), (0, .ref a0), (1, .int x0), (2, .int 0)]) hx hb dX6_pictureOf_11 rfl hl (by decide) rfl (fun ls hl => ?_)
      refine lv_aload_nN hx hb dX6_pictureOf_12 rfl (lv_at hl 0 rfl) ?_
      refine lv_ifnonnullN hx hb dX6_pictureOf_13 ?_
      refine lv_iconst (v := (-1)) hx hb dX6_pictureOf_16 (by decide) ?_
      exact ka_rRi C hr hlk ⟨_, rfl⟩ dX6_pictureOf_17
    · obtain rfl : x1 = 1 := (ka_eq' _ _).mpr (y_21130.trans (by decide))
      refine lv_aload_n hx hb dX6_pictureOf_0 rfl (lv_at hl 0 rfl) ?_
      refine ka_get C lq_213 rfl hK hP 0 rfl 2 (by decide) lq_214 rfl dX6_pictureOf_1 ?_
      refine lv_aload_n hx hb dX6_pictureOf_4 rfl (lv_at hl 0 rfl) ?_
      refine ka_get C lq_213 rfl hK hP 0 rfl 4 (by decide) lq_215 rfl dX6_pictureOf_5 ?_
      refine ka_RV (n := 1) C (cg_X0_lessonAt_161 l D F a3) gX6_pictureOf_X0_lessonAt rfl (by decide +kernel) ⟨Nat.le_of_ble_eq_true rfl, Nat.le_of_ble_eq_true rfl⟩ hK hP hS hE hN [] rfl [] rfl (ci := 0) rfl rfl 1 rfl rfl hl.1 (rest := []) rfl (Nat.le_of_ble_eq_true rfl) dX6_pictureOf_8 ⟨Nat.le_of_ble_eq_true rfl, Nat.le_of_ble_eq_true rfl⟩ (fun v hv => ?_)
      subst hv
      refine ka_stk (w := [.null]) rfl ?_
      refine lv_astore_nN (lv' := [(3, .null), (0, .ref a0), (1, .int x0), (2, .int 1)]) hx hb dX6_pictureOf_11 rfl hl (by decide) rfl (fun ls hl => ?_)
      refine lv_aload_nN hx hb dX6_pictureOf_12 rfl (lv_at hl 0 rfl) ?_
      refine lv_ifnonnullN hx hb dX6_pictureOf_13 ?_
      refine lv_iconst (v := (-1)) hx hb dX6_pictureOf_16 (by decide) ?_
      exact ka_rRi C hr hlk ⟨_, rfl⟩ dX6_pictureOf_17
    · obtain rfl : x1 = 2 := (ka_eq' _ _).mpr (y_21130.trans (by decide))
      refine lv_aload_n hx hb dX6_pictureOf_0 rfl (lv_at hl 0 rfl) ?_
      refine ka_get C lq_213 rfl hK hP 0 rfl 2 (by decide) lq_214 rfl dX6_pictureOf_1 ?_
      refine lv_aload_n hx hb dX6_pictureOf_4 rfl (lv_at hl 0 rfl) ?_
      refine ka_get C lq_213 rfl hK hP 0 rfl 4 (by decide) lq_215 rfl dX6_pictureOf_5 ?_
      refine ka_RV (n := 1) C (cg_X0_lessonAt_161 l D F a3) gX6_pictureOf_X0_lessonAt rfl (by decide +kernel) ⟨Nat.le_of_ble_eq_true rfl, Nat.le_of_ble_eq_true rfl⟩ hK hP hS hE hN [] rfl [] rfl (ci := 0) rfl rfl 1 rfl rfl hl.1 (rest := []) rfl (Nat.le_of_ble_eq_true rfl) dX6_pictureOf_8 ⟨Nat.le_of_ble_eq_true rfl, Nat.le_of_ble_eq_true rfl⟩ (fun v hv => ?_)
      subst hv
      refine ka_stk (w := [.null]) rfl ?_
      refine lv_astore_nN (lv' := [(3, .null), (0, .ref a0), (1, .int x0), (2, .int 2)]) hx hb dX6_pictureOf_11 rfl hl (by decide) rfl (fun ls hl => ?_)
      refine lv_aload_nN hx hb dX6_pictureOf_12 rfl (lv_at hl 0 rfl) ?_
      refine lv_ifnonnullN hx hb dX6_pictureOf_13 ?_
      refine lv_iconst (v := (-1)) hx hb dX6_pictureOf_16 (by decide) ?_
      exact ka_rRi C hr hlk ⟨_, rfl⟩ dX6_pictureOf_17
    · skip
      refine lv_aload_n hx hb dX6_pictureOf_0 rfl (lv_at hl 0 rfl) ?_
      refine ka_get C lq_213 rfl hK hP 0 rfl 2 (by decide) lq_214 rfl dX6_pictureOf_1 ?_
      refine lv_aload_n hx hb dX6_pictureOf_4 rfl (lv_at hl 0 rfl) ?_
      refine ka_get C lq_213 rfl hK hP 0 rfl 4 (by decide) lq_215 rfl dX6_pictureOf_5 ?_
      refine ka_RV (n := 1) C (cg_X0_lessonAt_161 l D F a3) gX6_pictureOf_X0_lessonAt rfl (by decide +kernel) ⟨Nat.le_of_ble_eq_true rfl, Nat.le_of_ble_eq_true rfl⟩ hK hP hS hE hN [] rfl [] rfl (ci := 0) rfl rfl 1 rfl rfl hl.1 (rest := []) rfl (Nat.le_of_ble_eq_true rfl) dX6_pictureOf_8 ⟨Nat.le_of_ble_eq_true rfl, Nat.le_of_ble_eq_true rfl⟩ (fun v hv => ?_)
      subst hv
      refine ka_stk (w := [.null]) rfl ?_
      refine lv_astore_nN (lv' := [(3, .null), (0, .ref a0), (1, .int x0), (2, .int x1)]) hx hb dX6_pictureOf_11 rfl hl (by decide) rfl (fun ls hl => ?_)
      refine lv_aload_nN hx hb dX6_pictureOf_12 rfl (lv_at hl 0 rfl) ?_
      refine lv_ifnonnullN hx hb dX6_pictureOf_13 ?_
      refine lv_iconst (v := (-1)) hx hb dX6_pictureOf_16 (by decide) ?_
      exact ka_rRi C hr hlk ⟨_, rfl⟩ dX6_pictureOf_17
  · obtain rfl : x2 = 0 := (ka_eq' _ _).mpr (y_21129.trans (by decide))
    rcases (show x1.toInt ≤ -1 ∨ x1.toInt = 0 ∨ x1.toInt = 1 ∨ x1.toInt = 2 ∨ 3 ≤ x1.toInt by omega) with y_21131 | y_21131 | y_21131 | y_21131 | y_21131
    · skip
      refine lv_aload_n hx hb dX6_pictureOf_0 rfl (lv_at hl 0 rfl) ?_
      refine ka_get C lq_213 rfl hK hP 0 rfl 2 (by decide) lq_214 rfl dX6_pictureOf_1 ?_
      refine lv_aload_n hx hb dX6_pictureOf_4 rfl (lv_at hl 0 rfl) ?_
      refine ka_get C lq_213 rfl hK hP 0 rfl 4 (by decide) lq_215 rfl dX6_pictureOf_5 ?_
      refine ka_RV (n := 1) C (cg_X0_lessonAt_145 l D F a3 a5 a6 x7 k0 a7 a8 a9 a10 a11 a12) gX6_pictureOf_X0_lessonAt rfl (by decide +kernel) ⟨Nat.le_of_ble_eq_true rfl, Nat.le_of_ble_eq_true rfl⟩ hK hP hS hE hN [1, 2] rfl [0] rfl (ci := 0) rfl rfl 1 rfl rfl hl.1 (rest := []) rfl (Nat.le_of_ble_eq_true rfl) dX6_pictureOf_8 ⟨Nat.le_of_ble_eq_true rfl, Nat.le_of_ble_eq_true rfl⟩ (fun v hv => ?_)
      subst hv
      refine ka_stk (w := [.ref a7]) rfl ?_
      refine lv_astore_n (lv' := [(3, .ref a7), (0, .ref a0), (1, .int x0), (2, .int x1)]) hx hb dX6_pictureOf_11 rfl hl (by decide) rfl (fun ls hl => ?_)
      refine lv_aload_n hx hb dX6_pictureOf_12 rfl (lv_at hl 0 rfl) ?_
      refine lv_ifnonnull (tgt := 18) hx hb dX6_pictureOf_13 (by decide) ?_
      refine lv_aload_n hx hb dX6_pictureOf_18 rfl (lv_at hl 0 rfl) ?_
      refine lv_iload_n hx hb dX6_pictureOf_19 rfl (lv_at hl 2 rfl) ?_
      refine ka_RV (n := 1) C (cg_X2_pictureAt_140 l D F a7 x0 a13 a14 x8 o0 k2 po0 ⟨by omega, by omega⟩ ho0 hpo0) gX6_pictureOf_X2_pictureAt rfl (by decide +kernel) ⟨Nat.le_of_ble_eq_true rfl, Nat.le_of_ble_eq_true rfl⟩ hK hP hS hE hN [3, 5] rfl [2] rfl (ci := 2) rfl rfl 3 rfl rfl hl.1 (rest := []) rfl (Nat.le_of_ble_eq_true rfl) dX6_pictureOf_20 ⟨Nat.le_of_ble_eq_true rfl, Nat.le_of_ble_eq_true rfl⟩ (fun v hv => ?_)
      obtain ⟨o_21132, rfl, ho_21132⟩ := hv
      refine ka_stk (w := [va_rf o_21132]) rfl ?_
      refine kb_astore (lv' := [(4, va_rf o_21132), (3, .ref a7), (0, .ref a0), (1, .int x0), (2, .int x1)]) hx hb dX6_pictureOf_23 hl (by decide) (by first | rfl | simp [kb_rfc]) (fun ls hl => ?_)
      refine kb_aload hx hb dX6_pictureOf_25 (lv_at hl 0 rfl) ?_
      refine kb_ifnonnull (tgt := 32) hx hb dX6_pictureOf_27 (by decide) (fun fa_21133 hfa_21133 => ?_) (fun hfa_21133 => ?_)
      · have Ffa_21133 : F fa_21133 := ho_21132 fa_21133 hfa_21133
        refine lv_iload_n hx hb dX6_pictureOf_32 rfl (lv_at hl 4 rfl) ?_
        refine lv_tableOut (tgt := 104) hx hb dX6_pictureOf_33 (by omega) (by decide) ?_
        refine lv_iconst (v := (-1)) hx hb dX6_pictureOf_104 (by decide) ?_
        exact ka_rRi C hr hlk ⟨_, rfl⟩ dX6_pictureOf_105
      · skip
        refine lv_iconst (v := (-1)) hx hb dX6_pictureOf_30 (by decide) ?_
        exact ka_rRi C hr hlk ⟨_, rfl⟩ dX6_pictureOf_31
    · obtain rfl : x1 = 0 := (ka_eq' _ _).mpr (y_21131.trans (by decide))
      refine lv_aload_n hx hb dX6_pictureOf_0 rfl (lv_at hl 0 rfl) ?_
      refine ka_get C lq_213 rfl hK hP 0 rfl 2 (by decide) lq_214 rfl dX6_pictureOf_1 ?_
      refine lv_aload_n hx hb dX6_pictureOf_4 rfl (lv_at hl 0 rfl) ?_
      refine ka_get C lq_213 rfl hK hP 0 rfl 4 (by decide) lq_215 rfl dX6_pictureOf_5 ?_
      refine ka_RV (n := 1) C (cg_X0_lessonAt_145 l D F a3 a5 a6 x7 k0 a7 a8 a9 a10 a11 a12) gX6_pictureOf_X0_lessonAt rfl (by decide +kernel) ⟨Nat.le_of_ble_eq_true rfl, Nat.le_of_ble_eq_true rfl⟩ hK hP hS hE hN [1, 2] rfl [0] rfl (ci := 0) rfl rfl 1 rfl rfl hl.1 (rest := []) rfl (Nat.le_of_ble_eq_true rfl) dX6_pictureOf_8 ⟨Nat.le_of_ble_eq_true rfl, Nat.le_of_ble_eq_true rfl⟩ (fun v hv => ?_)
      subst hv
      refine ka_stk (w := [.ref a7]) rfl ?_
      refine lv_astore_n (lv' := [(3, .ref a7), (0, .ref a0), (1, .int x0), (2, .int 0)]) hx hb dX6_pictureOf_11 rfl hl (by decide) rfl (fun ls hl => ?_)
      refine lv_aload_n hx hb dX6_pictureOf_12 rfl (lv_at hl 0 rfl) ?_
      refine lv_ifnonnull (tgt := 18) hx hb dX6_pictureOf_13 (by decide) ?_
      refine lv_aload_n hx hb dX6_pictureOf_18 rfl (lv_at hl 0 rfl) ?_
      refine lv_iload_n hx hb dX6_pictureOf_19 rfl (lv_at hl 2 rfl) ?_
      refine ka_RV (n := 1) C (cg_X2_pictureAt_140 l D F a7 x0 a13 a14 x8 o0 k2 po0 ⟨by omega, by omega⟩ ho0 hpo0) gX6_pictureOf_X2_pictureAt rfl (by decide +kernel) ⟨Nat.le_of_ble_eq_true rfl, Nat.le_of_ble_eq_true rfl⟩ hK hP hS hE hN [3, 5] rfl [2] rfl (ci := 2) rfl rfl 3 rfl rfl hl.1 (rest := []) rfl (Nat.le_of_ble_eq_true rfl) dX6_pictureOf_20 ⟨Nat.le_of_ble_eq_true rfl, Nat.le_of_ble_eq_true rfl⟩ (fun v hv => ?_)
      obtain ⟨o_21134, rfl, ho_21134⟩ := hv
      refine ka_stk (w := [va_rf o_21134]) rfl ?_
      refine kb_astore (lv' := [(4, va_rf o_21134), (3, .ref a7), (0, .ref a0), (1, .int x0), (2, .int 0)]) hx hb dX6_pictureOf_23 hl (by decide) (by first | rfl | simp [kb_rfc]) (fun ls hl => ?_)
      refine kb_aload hx hb dX6_pictureOf_25 (lv_at hl 0 rfl) ?_
      refine kb_ifnonnull (tgt := 32) hx hb dX6_pictureOf_27 (by decide) (fun fa_21135 hfa_21135 => ?_) (fun hfa_21135 => ?_)
      · have Ffa_21135 : F fa_21135 := ho_21134 fa_21135 hfa_21135
        refine lv_iload_n hx hb dX6_pictureOf_32 rfl (lv_at hl 4 rfl) ?_
        refine lv_tableIn (off := 27) (tgt := 60) hx hb dX6_pictureOf_33 (by decide) (by decide) (by decide) (by decide) ?_
        refine lv_aload_n hx hb dX6_pictureOf_60 rfl (lv_at hl 2 rfl) ?_
        refine ka_get C lq_213 rfl hK hP 0 rfl 3 (by decide) lq_216 rfl dX6_pictureOf_61 ?_
        refine kb_aload hx hb dX6_pictureOf_64 (lv_at hl 0 rfl) ?_
        refine ka_top (w := .ref fa_21135) (by rw [hfa_21135]; rfl) ?_
        obtain ⟨tru_21136, txu_21136, kku_21136, nnu_21136, ffu_21136, hnu_21136, hPu_21136, hKu_21136, -, -⟩ := (ka_FP_kept hE.2 hS.2.1) fa_21135 Ffa_21135
        refine ka_get C lq_217 rfl hKu_21136 hPu_21136 0 rfl 0 (by decide) lq_218 rfl dX6_pictureOf_66 ?_
        have rtru_21136 := ka_rng tru_21136
        refine ka_RV (n := 1) C (cg_X4_slipsOf_15 l D F a4 tru_21136 a25 a26 a27 x14 x15 x16 x17 x18 x19 k13 f6 k14 f7 ⟨by omega, by omega⟩) gX6_pictureOf_X4_slipsOf rfl (by decide +kernel) ⟨Nat.le_of_ble_eq_true rfl, Nat.le_of_ble_eq_true rfl⟩ hK hP hS hE hN [21, 22, 23] rfl [13, 14] rfl (ci := 4) rfl rfl 21 rfl rfl hl.1 (rest := []) rfl (Nat.le_of_ble_eq_true rfl) dX6_pictureOf_69 ⟨Nat.le_of_ble_eq_true rfl, Nat.le_of_ble_eq_true rfl⟩ (fun v hv => ?_)
        obtain ⟨v_21137, rfl⟩ := hv
        have rv_21137 := ka_rng v_21137
        refine ka_stk (w := [.int v_21137]) rfl ?_
        exact ka_rRi C hr hlk ⟨_, rfl⟩ dX6_pictureOf_72
      · skip
        refine lv_iconst (v := (-1)) hx hb dX6_pictureOf_30 (by decide) ?_
        exact ka_rRi C hr hlk ⟨_, rfl⟩ dX6_pictureOf_31
    · obtain rfl : x1 = 1 := (ka_eq' _ _).mpr (y_21131.trans (by decide))
      refine lv_aload_n hx hb dX6_pictureOf_0 rfl (lv_at hl 0 rfl) ?_
      refine ka_get C lq_213 rfl hK hP 0 rfl 2 (by decide) lq_214 rfl dX6_pictureOf_1 ?_
      refine lv_aload_n hx hb dX6_pictureOf_4 rfl (lv_at hl 0 rfl) ?_
      refine ka_get C lq_213 rfl hK hP 0 rfl 4 (by decide) lq_215 rfl dX6_pictureOf_5 ?_
      refine ka_RV (n := 1) C (cg_X0_lessonAt_145 l D F a3 a5 a6 x7 k0 a7 a8 a9 a10 a11 a12) gX6_pictureOf_X0_lessonAt rfl (by decide +kernel) ⟨Nat.le_of_ble_eq_true rfl, Nat.le_of_ble_eq_true rfl⟩ hK hP hS hE hN [1, 2] rfl [0] rfl (ci := 0) rfl rfl 1 rfl rfl hl.1 (rest := []) rfl (Nat.le_of_ble_eq_true rfl) dX6_pictureOf_8 ⟨Nat.le_of_ble_eq_true rfl, Nat.le_of_ble_eq_true rfl⟩ (fun v hv => ?_)
      subst hv
      refine ka_stk (w := [.ref a7]) rfl ?_
      refine lv_astore_n (lv' := [(3, .ref a7), (0, .ref a0), (1, .int x0), (2, .int 1)]) hx hb dX6_pictureOf_11 rfl hl (by decide) rfl (fun ls hl => ?_)
      refine lv_aload_n hx hb dX6_pictureOf_12 rfl (lv_at hl 0 rfl) ?_
      refine lv_ifnonnull (tgt := 18) hx hb dX6_pictureOf_13 (by decide) ?_
      refine lv_aload_n hx hb dX6_pictureOf_18 rfl (lv_at hl 0 rfl) ?_
      refine lv_iload_n hx hb dX6_pictureOf_19 rfl (lv_at hl 2 rfl) ?_
      refine ka_RV (n := 1) C (cg_X2_pictureAt_140 l D F a7 x0 a13 a14 x8 o0 k2 po0 ⟨by omega, by omega⟩ ho0 hpo0) gX6_pictureOf_X2_pictureAt rfl (by decide +kernel) ⟨Nat.le_of_ble_eq_true rfl, Nat.le_of_ble_eq_true rfl⟩ hK hP hS hE hN [3, 5] rfl [2] rfl (ci := 2) rfl rfl 3 rfl rfl hl.1 (rest := []) rfl (Nat.le_of_ble_eq_true rfl) dX6_pictureOf_20 ⟨Nat.le_of_ble_eq_true rfl, Nat.le_of_ble_eq_true rfl⟩ (fun v hv => ?_)
      obtain ⟨o_21138, rfl, ho_21138⟩ := hv
      refine ka_stk (w := [va_rf o_21138]) rfl ?_
      refine kb_astore (lv' := [(4, va_rf o_21138), (3, .ref a7), (0, .ref a0), (1, .int x0), (2, .int 1)]) hx hb dX6_pictureOf_23 hl (by decide) (by first | rfl | simp [kb_rfc]) (fun ls hl => ?_)
      refine kb_aload hx hb dX6_pictureOf_25 (lv_at hl 0 rfl) ?_
      refine kb_ifnonnull (tgt := 32) hx hb dX6_pictureOf_27 (by decide) (fun fa_21139 hfa_21139 => ?_) (fun hfa_21139 => ?_)
      · have Ffa_21139 : F fa_21139 := ho_21138 fa_21139 hfa_21139
        refine lv_iload_n hx hb dX6_pictureOf_32 rfl (lv_at hl 4 rfl) ?_
        refine lv_tableIn (off := 40) (tgt := 73) hx hb dX6_pictureOf_33 (by decide) (by decide) (by decide) (by decide) ?_
        refine lv_aload_n hx hb dX6_pictureOf_73 rfl (lv_at hl 2 rfl) ?_
        refine ka_get C lq_213 rfl hK hP 0 rfl 3 (by decide) lq_216 rfl dX6_pictureOf_74 ?_
        refine kb_aload hx hb dX6_pictureOf_77 (lv_at hl 0 rfl) ?_
        refine ka_top (w := .ref fa_21139) (by rw [hfa_21139]; rfl) ?_
        obtain ⟨tru_21140, txu_21140, kku_21140, nnu_21140, ffu_21140, hnu_21140, hPu_21140, hKu_21140, -, -⟩ := (ka_FP_kept hE.2 hS.2.1) fa_21139 Ffa_21139
        refine ka_get C lq_217 rfl hKu_21140 hPu_21140 0 rfl 0 (by decide) lq_218 rfl dX6_pictureOf_79 ?_
        have rtru_21140 := ka_rng tru_21140
        refine ka_RV (n := 1) C (cg_X4_slipsOf_15 l D F a4 tru_21140 a25 a26 a27 x14 x15 x16 x17 x18 x19 k13 f6 k14 f7 ⟨by omega, by omega⟩) gX6_pictureOf_X4_slipsOf rfl (by decide +kernel) ⟨Nat.le_of_ble_eq_true rfl, Nat.le_of_ble_eq_true rfl⟩ hK hP hS hE hN [21, 22, 23] rfl [13, 14] rfl (ci := 4) rfl rfl 21 rfl rfl hl.1 (rest := []) rfl (Nat.le_of_ble_eq_true rfl) dX6_pictureOf_82 ⟨Nat.le_of_ble_eq_true rfl, Nat.le_of_ble_eq_true rfl⟩ (fun v hv => ?_)
        obtain ⟨v_21141, rfl⟩ := hv
        have rv_21141 := ka_rng v_21141
        refine ka_stk (w := [.int v_21141]) rfl ?_
        refine lv_aload_n hx hb dX6_pictureOf_85 rfl (lv_at hl 2 rfl) ?_
        refine ka_get C lq_213 rfl hK hP 0 rfl 6 (by decide) lq_219 rfl dX6_pictureOf_86 ?_
        refine lv_icmp_gt (tgt := 96) hx hb dX6_pictureOf_89 (by decide) (fun c_21142 => ?_) (fun c_21142 => ?_)
        · have c_21142 : x4.toInt < v_21141.toInt := by rw [ka_lt'] at c_21142; exact c_21142
          refine lv_iconst (v := 0) hx hb dX6_pictureOf_96 (by decide) ?_
          exact ka_rRi C hr hlk ⟨_, rfl⟩ dX6_pictureOf_97
        · have c_21142 : ¬ x4.toInt < v_21141.toInt := by rw [ka_lt'] at c_21142; exact c_21142
          refine lv_iconst (v := 1) hx hb dX6_pictureOf_92 (by decide) ?_
          refine lv_goto (tgt := 97) hx hb dX6_pictureOf_93 (by decide) ?_
          exact ka_rRi C hr hlk ⟨_, rfl⟩ dX6_pictureOf_97
      · skip
        refine lv_iconst (v := (-1)) hx hb dX6_pictureOf_30 (by decide) ?_
        exact ka_rRi C hr hlk ⟨_, rfl⟩ dX6_pictureOf_31
    · obtain rfl : x1 = 2 := (ka_eq' _ _).mpr (y_21131.trans (by decide))
      refine lv_aload_n hx hb dX6_pictureOf_0 rfl (lv_at hl 0 rfl) ?_
      refine ka_get C lq_213 rfl hK hP 0 rfl 2 (by decide) lq_214 rfl dX6_pictureOf_1 ?_
      refine lv_aload_n hx hb dX6_pictureOf_4 rfl (lv_at hl 0 rfl) ?_
      refine ka_get C lq_213 rfl hK hP 0 rfl 4 (by decide) lq_215 rfl dX6_pictureOf_5 ?_
      refine ka_RV (n := 1) C (cg_X0_lessonAt_145 l D F a3 a5 a6 x7 k0 a7 a8 a9 a10 a11 a12) gX6_pictureOf_X0_lessonAt rfl (by decide +kernel) ⟨Nat.le_of_ble_eq_true rfl, Nat.le_of_ble_eq_true rfl⟩ hK hP hS hE hN [1, 2] rfl [0] rfl (ci := 0) rfl rfl 1 rfl rfl hl.1 (rest := []) rfl (Nat.le_of_ble_eq_true rfl) dX6_pictureOf_8 ⟨Nat.le_of_ble_eq_true rfl, Nat.le_of_ble_eq_true rfl⟩ (fun v hv => ?_)
      subst hv
      refine ka_stk (w := [.ref a7]) rfl ?_
      refine lv_astore_n (lv' := [(3, .ref a7), (0, .ref a0), (1, .int x0), (2, .int 2)]) hx hb dX6_pictureOf_11 rfl hl (by decide) rfl (fun ls hl => ?_)
      refine lv_aload_n hx hb dX6_pictureOf_12 rfl (lv_at hl 0 rfl) ?_
      refine lv_ifnonnull (tgt := 18) hx hb dX6_pictureOf_13 (by decide) ?_
      refine lv_aload_n hx hb dX6_pictureOf_18 rfl (lv_at hl 0 rfl) ?_
      refine lv_iload_n hx hb dX6_pictureOf_19 rfl (lv_at hl 2 rfl) ?_
      refine ka_RV (n := 1) C (cg_X2_pictureAt_140 l D F a7 x0 a13 a14 x8 o0 k2 po0 ⟨by omega, by omega⟩ ho0 hpo0) gX6_pictureOf_X2_pictureAt rfl (by decide +kernel) ⟨Nat.le_of_ble_eq_true rfl, Nat.le_of_ble_eq_true rfl⟩ hK hP hS hE hN [3, 5] rfl [2] rfl (ci := 2) rfl rfl 3 rfl rfl hl.1 (rest := []) rfl (Nat.le_of_ble_eq_true rfl) dX6_pictureOf_20 ⟨Nat.le_of_ble_eq_true rfl, Nat.le_of_ble_eq_true rfl⟩ (fun v hv => ?_)
      obtain ⟨o_21143, rfl, ho_21143⟩ := hv
      refine ka_stk (w := [va_rf o_21143]) rfl ?_
      refine kb_astore (lv' := [(4, va_rf o_21143), (3, .ref a7), (0, .ref a0), (1, .int x0), (2, .int 2)]) hx hb dX6_pictureOf_23 hl (by decide) (by first | rfl | simp [kb_rfc]) (fun ls hl => ?_)
      refine kb_aload hx hb dX6_pictureOf_25 (lv_at hl 0 rfl) ?_
      refine kb_ifnonnull (tgt := 32) hx hb dX6_pictureOf_27 (by decide) (fun fa_21144 hfa_21144 => ?_) (fun hfa_21144 => ?_)
      · have Ffa_21144 : F fa_21144 := ho_21143 fa_21144 hfa_21144
        refine lv_iload_n hx hb dX6_pictureOf_32 rfl (lv_at hl 4 rfl) ?_
        refine lv_tableIn (off := 65) (tgt := 98) hx hb dX6_pictureOf_33 (by decide) (by decide) (by decide) (by decide) ?_
        refine lv_aload_n hx hb dX6_pictureOf_98 rfl (lv_at hl 1 rfl) ?_
        refine lv_iload_n hx hb dX6_pictureOf_99 rfl (lv_at hl 3 rfl) ?_
        refine ka_RV (n := 1) C (cg_X2_pathOf_41 l D F a7 x0 a13 a14 x8 o0 k1 f0 ⟨by omega, by omega⟩ ho0) gX6_pictureOf_X2_pathOf rfl (by decide +kernel) ⟨Nat.le_of_ble_eq_true rfl, Nat.le_of_ble_eq_true rfl⟩ hK hP hS hE hN [3, 4] rfl [1] rfl (ci := 2) rfl rfl 3 rfl rfl hl.1 (rest := []) rfl (Nat.le_of_ble_eq_true rfl) dX6_pictureOf_100 ⟨Nat.le_of_ble_eq_true rfl, Nat.le_of_ble_eq_true rfl⟩ (fun v hv => ?_)
        obtain ⟨v_21145, rfl, hv_21145⟩ := hv
        have rv_21145 := ka_rng v_21145
        refine ka_stk (w := [.int v_21145]) rfl ?_
        exact ka_rRi C hr hlk ⟨_, rfl⟩ dX6_pictureOf_103
      · skip
        refine lv_iconst (v := (-1)) hx hb dX6_pictureOf_30 (by decide) ?_
        exact ka_rRi C hr hlk ⟨_, rfl⟩ dX6_pictureOf_31
    · skip
      refine lv_aload_n hx hb dX6_pictureOf_0 rfl (lv_at hl 0 rfl) ?_
      refine ka_get C lq_213 rfl hK hP 0 rfl 2 (by decide) lq_214 rfl dX6_pictureOf_1 ?_
      refine lv_aload_n hx hb dX6_pictureOf_4 rfl (lv_at hl 0 rfl) ?_
      refine ka_get C lq_213 rfl hK hP 0 rfl 4 (by decide) lq_215 rfl dX6_pictureOf_5 ?_
      refine ka_RV (n := 1) C (cg_X0_lessonAt_145 l D F a3 a5 a6 x7 k0 a7 a8 a9 a10 a11 a12) gX6_pictureOf_X0_lessonAt rfl (by decide +kernel) ⟨Nat.le_of_ble_eq_true rfl, Nat.le_of_ble_eq_true rfl⟩ hK hP hS hE hN [1, 2] rfl [0] rfl (ci := 0) rfl rfl 1 rfl rfl hl.1 (rest := []) rfl (Nat.le_of_ble_eq_true rfl) dX6_pictureOf_8 ⟨Nat.le_of_ble_eq_true rfl, Nat.le_of_ble_eq_true rfl⟩ (fun v hv => ?_)
      subst hv
      refine ka_stk (w := [.ref a7]) rfl ?_
      refine lv_astore_n (lv' := [(3, .ref a7), (0, .ref a0), (1, .int x0), (2, .int x1)]) hx hb dX6_pictureOf_11 rfl hl (by decide) rfl (fun ls hl => ?_)
      refine lv_aload_n hx hb dX6_pictureOf_12 rfl (lv_at hl 0 rfl) ?_
      refine lv_ifnonnull (tgt := 18) hx hb dX6_pictureOf_13 (by decide) ?_
      refine lv_aload_n hx hb dX6_pictureOf_18 rfl (lv_at hl 0 rfl) ?_
      refine lv_iload_n hx hb dX6_pictureOf_19 rfl (lv_at hl 2 rfl) ?_
      refine ka_RV (n := 1) C (cg_X2_pictureAt_140 l D F a7 x0 a13 a14 x8 o0 k2 po0 ⟨by omega, by omega⟩ ho0 hpo0) gX6_pictureOf_X2_pictureAt rfl (by decide +kernel) ⟨Nat.le_of_ble_eq_true rfl, Nat.le_of_ble_eq_true rfl⟩ hK hP hS hE hN [3, 5] rfl [2] rfl (ci := 2) rfl rfl 3 rfl rfl hl.1 (rest := []) rfl (Nat.le_of_ble_eq_true rfl) dX6_pictureOf_20 ⟨Nat.le_of_ble_eq_true rfl, Nat.le_of_ble_eq_true rfl⟩ (fun v hv => ?_)
      obtain ⟨o_21146, rfl, ho_21146⟩ := hv
      refine ka_stk (w := [va_rf o_21146]) rfl ?_
      refine kb_astore (lv' := [(4, va_rf o_21146), (3, .ref a7), (0, .ref a0), (1, .int x0), (2, .int x1)]) hx hb dX6_pictureOf_23 hl (by decide) (by first | rfl | simp [kb_rfc]) (fun ls hl => ?_)
      refine kb_aload hx hb dX6_pictureOf_25 (lv_at hl 0 rfl) ?_
      refine kb_ifnonnull (tgt := 32) hx hb dX6_pictureOf_27 (by decide) (fun fa_21147 hfa_21147 => ?_) (fun hfa_21147 => ?_)
      · have Ffa_21147 : F fa_21147 := ho_21146 fa_21147 hfa_21147
        refine lv_iload_n hx hb dX6_pictureOf_32 rfl (lv_at hl 4 rfl) ?_
        refine lv_tableOut (tgt := 104) hx hb dX6_pictureOf_33 (by omega) (by decide) ?_
        refine lv_iconst (v := (-1)) hx hb dX6_pictureOf_104 (by decide) ?_
        exact ka_rRi C hr hlk ⟨_, rfl⟩ dX6_pictureOf_105
      · skip
        refine lv_iconst (v := (-1)) hx hb dX6_pictureOf_30 (by decide) ?_
        exact ka_rRi C hr hlk ⟨_, rfl⟩ dX6_pictureOf_31
  · obtain rfl : x2 = 1 := (ka_eq' _ _).mpr (y_21129.trans (by decide))
    rcases (show x1.toInt ≤ -1 ∨ x1.toInt = 0 ∨ x1.toInt = 1 ∨ x1.toInt = 2 ∨ 3 ≤ x1.toInt by omega) with y_21148 | y_21148 | y_21148 | y_21148 | y_21148
    · skip
      refine lv_aload_n hx hb dX6_pictureOf_0 rfl (lv_at hl 0 rfl) ?_
      refine ka_get C lq_213 rfl hK hP 0 rfl 2 (by decide) lq_214 rfl dX6_pictureOf_1 ?_
      refine lv_aload_n hx hb dX6_pictureOf_4 rfl (lv_at hl 0 rfl) ?_
      refine ka_get C lq_213 rfl hK hP 0 rfl 4 (by decide) lq_215 rfl dX6_pictureOf_5 ?_
      refine ka_RV (n := 1) C (cg_X0_lessonAt_147 l D F a3 a5 a6 x7 k0 a7 a8 a9 a10 a11 a12) gX6_pictureOf_X0_lessonAt rfl (by decide +kernel) ⟨Nat.le_of_ble_eq_true rfl, Nat.le_of_ble_eq_true rfl⟩ hK hP hS hE hN [1, 2] rfl [0] rfl (ci := 0) rfl rfl 1 rfl rfl hl.1 (rest := []) rfl (Nat.le_of_ble_eq_true rfl) dX6_pictureOf_8 ⟨Nat.le_of_ble_eq_true rfl, Nat.le_of_ble_eq_true rfl⟩ (fun v hv => ?_)
      subst hv
      refine ka_stk (w := [.ref a8]) rfl ?_
      refine lv_astore_n (lv' := [(3, .ref a8), (0, .ref a0), (1, .int x0), (2, .int x1)]) hx hb dX6_pictureOf_11 rfl hl (by decide) rfl (fun ls hl => ?_)
      refine lv_aload_n hx hb dX6_pictureOf_12 rfl (lv_at hl 0 rfl) ?_
      refine lv_ifnonnull (tgt := 18) hx hb dX6_pictureOf_13 (by decide) ?_
      refine lv_aload_n hx hb dX6_pictureOf_18 rfl (lv_at hl 0 rfl) ?_
      refine lv_iload_n hx hb dX6_pictureOf_19 rfl (lv_at hl 2 rfl) ?_
      refine ka_RV (n := 1) C (cg_X2_pictureAt_140 l D F a8 x0 a15 a16 x9 o1 k4 po1 ⟨by omega, by omega⟩ ho1 hpo1) gX6_pictureOf_X2_pictureAt rfl (by decide +kernel) ⟨Nat.le_of_ble_eq_true rfl, Nat.le_of_ble_eq_true rfl⟩ hK hP hS hE hN [6, 8] rfl [4] rfl (ci := 2) rfl rfl 6 rfl rfl hl.1 (rest := []) rfl (Nat.le_of_ble_eq_true rfl) dX6_pictureOf_20 ⟨Nat.le_of_ble_eq_true rfl, Nat.le_of_ble_eq_true rfl⟩ (fun v hv => ?_)
      obtain ⟨o_21149, rfl, ho_21149⟩ := hv
      refine ka_stk (w := [va_rf o_21149]) rfl ?_
      refine kb_astore (lv' := [(4, va_rf o_21149), (3, .ref a8), (0, .ref a0), (1, .int x0), (2, .int x1)]) hx hb dX6_pictureOf_23 hl (by decide) (by first | rfl | simp [kb_rfc]) (fun ls hl => ?_)
      refine kb_aload hx hb dX6_pictureOf_25 (lv_at hl 0 rfl) ?_
      refine kb_ifnonnull (tgt := 32) hx hb dX6_pictureOf_27 (by decide) (fun fa_21150 hfa_21150 => ?_) (fun hfa_21150 => ?_)
      · have Ffa_21150 : F fa_21150 := ho_21149 fa_21150 hfa_21150
        refine lv_iload_n hx hb dX6_pictureOf_32 rfl (lv_at hl 4 rfl) ?_
        refine lv_tableOut (tgt := 104) hx hb dX6_pictureOf_33 (by omega) (by decide) ?_
        refine lv_iconst (v := (-1)) hx hb dX6_pictureOf_104 (by decide) ?_
        exact ka_rRi C hr hlk ⟨_, rfl⟩ dX6_pictureOf_105
      · skip
        refine lv_iconst (v := (-1)) hx hb dX6_pictureOf_30 (by decide) ?_
        exact ka_rRi C hr hlk ⟨_, rfl⟩ dX6_pictureOf_31
    · obtain rfl : x1 = 0 := (ka_eq' _ _).mpr (y_21148.trans (by decide))
      refine lv_aload_n hx hb dX6_pictureOf_0 rfl (lv_at hl 0 rfl) ?_
      refine ka_get C lq_213 rfl hK hP 0 rfl 2 (by decide) lq_214 rfl dX6_pictureOf_1 ?_
      refine lv_aload_n hx hb dX6_pictureOf_4 rfl (lv_at hl 0 rfl) ?_
      refine ka_get C lq_213 rfl hK hP 0 rfl 4 (by decide) lq_215 rfl dX6_pictureOf_5 ?_
      refine ka_RV (n := 1) C (cg_X0_lessonAt_147 l D F a3 a5 a6 x7 k0 a7 a8 a9 a10 a11 a12) gX6_pictureOf_X0_lessonAt rfl (by decide +kernel) ⟨Nat.le_of_ble_eq_true rfl, Nat.le_of_ble_eq_true rfl⟩ hK hP hS hE hN [1, 2] rfl [0] rfl (ci := 0) rfl rfl 1 rfl rfl hl.1 (rest := []) rfl (Nat.le_of_ble_eq_true rfl) dX6_pictureOf_8 ⟨Nat.le_of_ble_eq_true rfl, Nat.le_of_ble_eq_true rfl⟩ (fun v hv => ?_)
      subst hv
      refine ka_stk (w := [.ref a8]) rfl ?_
      refine lv_astore_n (lv' := [(3, .ref a8), (0, .ref a0), (1, .int x0), (2, .int 0)]) hx hb dX6_pictureOf_11 rfl hl (by decide) rfl (fun ls hl => ?_)
      refine lv_aload_n hx hb dX6_pictureOf_12 rfl (lv_at hl 0 rfl) ?_
      refine lv_ifnonnull (tgt := 18) hx hb dX6_pictureOf_13 (by decide) ?_
      refine lv_aload_n hx hb dX6_pictureOf_18 rfl (lv_at hl 0 rfl) ?_
      refine lv_iload_n hx hb dX6_pictureOf_19 rfl (lv_at hl 2 rfl) ?_
      refine ka_RV (n := 1) C (cg_X2_pictureAt_140 l D F a8 x0 a15 a16 x9 o1 k4 po1 ⟨by omega, by omega⟩ ho1 hpo1) gX6_pictureOf_X2_pictureAt rfl (by decide +kernel) ⟨Nat.le_of_ble_eq_true rfl, Nat.le_of_ble_eq_true rfl⟩ hK hP hS hE hN [6, 8] rfl [4] rfl (ci := 2) rfl rfl 6 rfl rfl hl.1 (rest := []) rfl (Nat.le_of_ble_eq_true rfl) dX6_pictureOf_20 ⟨Nat.le_of_ble_eq_true rfl, Nat.le_of_ble_eq_true rfl⟩ (fun v hv => ?_)
      obtain ⟨o_21151, rfl, ho_21151⟩ := hv
      refine ka_stk (w := [va_rf o_21151]) rfl ?_
      refine kb_astore (lv' := [(4, va_rf o_21151), (3, .ref a8), (0, .ref a0), (1, .int x0), (2, .int 0)]) hx hb dX6_pictureOf_23 hl (by decide) (by first | rfl | simp [kb_rfc]) (fun ls hl => ?_)
      refine kb_aload hx hb dX6_pictureOf_25 (lv_at hl 0 rfl) ?_
      refine kb_ifnonnull (tgt := 32) hx hb dX6_pictureOf_27 (by decide) (fun fa_21152 hfa_21152 => ?_) (fun hfa_21152 => ?_)
      · have Ffa_21152 : F fa_21152 := ho_21151 fa_21152 hfa_21152
        refine lv_iload_n hx hb dX6_pictureOf_32 rfl (lv_at hl 4 rfl) ?_
        refine lv_tableIn (off := 27) (tgt := 60) hx hb dX6_pictureOf_33 (by decide) (by decide) (by decide) (by decide) ?_
        refine lv_aload_n hx hb dX6_pictureOf_60 rfl (lv_at hl 2 rfl) ?_
        refine ka_get C lq_213 rfl hK hP 0 rfl 3 (by decide) lq_216 rfl dX6_pictureOf_61 ?_
        refine kb_aload hx hb dX6_pictureOf_64 (lv_at hl 0 rfl) ?_
        refine ka_top (w := .ref fa_21152) (by rw [hfa_21152]; rfl) ?_
        obtain ⟨tru_21153, txu_21153, kku_21153, nnu_21153, ffu_21153, hnu_21153, hPu_21153, hKu_21153, -, -⟩ := (ka_FP_kept hE.2 hS.2.1) fa_21152 Ffa_21152
        refine ka_get C lq_217 rfl hKu_21153 hPu_21153 0 rfl 0 (by decide) lq_218 rfl dX6_pictureOf_66 ?_
        have rtru_21153 := ka_rng tru_21153
        refine ka_RV (n := 1) C (cg_X4_slipsOf_15 l D F a4 tru_21153 a25 a26 a27 x14 x15 x16 x17 x18 x19 k13 f6 k14 f7 ⟨by omega, by omega⟩) gX6_pictureOf_X4_slipsOf rfl (by decide +kernel) ⟨Nat.le_of_ble_eq_true rfl, Nat.le_of_ble_eq_true rfl⟩ hK hP hS hE hN [21, 22, 23] rfl [13, 14] rfl (ci := 4) rfl rfl 21 rfl rfl hl.1 (rest := []) rfl (Nat.le_of_ble_eq_true rfl) dX6_pictureOf_69 ⟨Nat.le_of_ble_eq_true rfl, Nat.le_of_ble_eq_true rfl⟩ (fun v hv => ?_)
        obtain ⟨v_21154, rfl⟩ := hv
        have rv_21154 := ka_rng v_21154
        refine ka_stk (w := [.int v_21154]) rfl ?_
        exact ka_rRi C hr hlk ⟨_, rfl⟩ dX6_pictureOf_72
      · skip
        refine lv_iconst (v := (-1)) hx hb dX6_pictureOf_30 (by decide) ?_
        exact ka_rRi C hr hlk ⟨_, rfl⟩ dX6_pictureOf_31
    · obtain rfl : x1 = 1 := (ka_eq' _ _).mpr (y_21148.trans (by decide))
      refine lv_aload_n hx hb dX6_pictureOf_0 rfl (lv_at hl 0 rfl) ?_
      refine ka_get C lq_213 rfl hK hP 0 rfl 2 (by decide) lq_214 rfl dX6_pictureOf_1 ?_
      refine lv_aload_n hx hb dX6_pictureOf_4 rfl (lv_at hl 0 rfl) ?_
      refine ka_get C lq_213 rfl hK hP 0 rfl 4 (by decide) lq_215 rfl dX6_pictureOf_5 ?_
      refine ka_RV (n := 1) C (cg_X0_lessonAt_147 l D F a3 a5 a6 x7 k0 a7 a8 a9 a10 a11 a12) gX6_pictureOf_X0_lessonAt rfl (by decide +kernel) ⟨Nat.le_of_ble_eq_true rfl, Nat.le_of_ble_eq_true rfl⟩ hK hP hS hE hN [1, 2] rfl [0] rfl (ci := 0) rfl rfl 1 rfl rfl hl.1 (rest := []) rfl (Nat.le_of_ble_eq_true rfl) dX6_pictureOf_8 ⟨Nat.le_of_ble_eq_true rfl, Nat.le_of_ble_eq_true rfl⟩ (fun v hv => ?_)
      subst hv
      refine ka_stk (w := [.ref a8]) rfl ?_
      refine lv_astore_n (lv' := [(3, .ref a8), (0, .ref a0), (1, .int x0), (2, .int 1)]) hx hb dX6_pictureOf_11 rfl hl (by decide) rfl (fun ls hl => ?_)
      refine lv_aload_n hx hb dX6_pictureOf_12 rfl (lv_at hl 0 rfl) ?_
      refine lv_ifnonnull (tgt := 18) hx hb dX6_pictureOf_13 (by decide) ?_
      refine lv_aload_n hx hb dX6_pictureOf_18 rfl (lv_at hl 0 rfl) ?_
      refine lv_iload_n hx hb dX6_pictureOf_19 rfl (lv_at hl 2 rfl) ?_
      refine ka_RV (n := 1) C (cg_X2_pictureAt_140 l D F a8 x0 a15 a16 x9 o1 k4 po1 ⟨by omega, by omega⟩ ho1 hpo1) gX6_pictureOf_X2_pictureAt rfl (by decide +kernel) ⟨Nat.le_of_ble_eq_true rfl, Nat.le_of_ble_eq_true rfl⟩ hK hP hS hE hN [6, 8] rfl [4] rfl (ci := 2) rfl rfl 6 rfl rfl hl.1 (rest := []) rfl (Nat.le_of_ble_eq_true rfl) dX6_pictureOf_20 ⟨Nat.le_of_ble_eq_true rfl, Nat.le_of_ble_eq_true rfl⟩ (fun v hv => ?_)
      obtain ⟨o_21155, rfl, ho_21155⟩ := hv
      refine ka_stk (w := [va_rf o_21155]) rfl ?_
      refine kb_astore (lv' := [(4, va_rf o_21155), (3, .ref a8), (0, .ref a0), (1, .int x0), (2, .int 1)]) hx hb dX6_pictureOf_23 hl (by decide) (by first | rfl | simp [kb_rfc]) (fun ls hl => ?_)
      refine kb_aload hx hb dX6_pictureOf_25 (lv_at hl 0 rfl) ?_
      refine kb_ifnonnull (tgt := 32) hx hb dX6_pictureOf_27 (by decide) (fun fa_21156 hfa_21156 => ?_) (fun hfa_21156 => ?_)
      · have Ffa_21156 : F fa_21156 := ho_21155 fa_21156 hfa_21156
        refine lv_iload_n hx hb dX6_pictureOf_32 rfl (lv_at hl 4 rfl) ?_
        refine lv_tableIn (off := 40) (tgt := 73) hx hb dX6_pictureOf_33 (by decide) (by decide) (by decide) (by decide) ?_
        refine lv_aload_n hx hb dX6_pictureOf_73 rfl (lv_at hl 2 rfl) ?_
        refine ka_get C lq_213 rfl hK hP 0 rfl 3 (by decide) lq_216 rfl dX6_pictureOf_74 ?_
        refine kb_aload hx hb dX6_pictureOf_77 (lv_at hl 0 rfl) ?_
        refine ka_top (w := .ref fa_21156) (by rw [hfa_21156]; rfl) ?_
        obtain ⟨tru_21157, txu_21157, kku_21157, nnu_21157, ffu_21157, hnu_21157, hPu_21157, hKu_21157, -, -⟩ := (ka_FP_kept hE.2 hS.2.1) fa_21156 Ffa_21156
        refine ka_get C lq_217 rfl hKu_21157 hPu_21157 0 rfl 0 (by decide) lq_218 rfl dX6_pictureOf_79 ?_
        have rtru_21157 := ka_rng tru_21157
        refine ka_RV (n := 1) C (cg_X4_slipsOf_15 l D F a4 tru_21157 a25 a26 a27 x14 x15 x16 x17 x18 x19 k13 f6 k14 f7 ⟨by omega, by omega⟩) gX6_pictureOf_X4_slipsOf rfl (by decide +kernel) ⟨Nat.le_of_ble_eq_true rfl, Nat.le_of_ble_eq_true rfl⟩ hK hP hS hE hN [21, 22, 23] rfl [13, 14] rfl (ci := 4) rfl rfl 21 rfl rfl hl.1 (rest := []) rfl (Nat.le_of_ble_eq_true rfl) dX6_pictureOf_82 ⟨Nat.le_of_ble_eq_true rfl, Nat.le_of_ble_eq_true rfl⟩ (fun v hv => ?_)
        obtain ⟨v_21158, rfl⟩ := hv
        have rv_21158 := ka_rng v_21158
        refine ka_stk (w := [.int v_21158]) rfl ?_
        refine lv_aload_n hx hb dX6_pictureOf_85 rfl (lv_at hl 2 rfl) ?_
        refine ka_get C lq_213 rfl hK hP 0 rfl 6 (by decide) lq_219 rfl dX6_pictureOf_86 ?_
        refine lv_icmp_gt (tgt := 96) hx hb dX6_pictureOf_89 (by decide) (fun c_21159 => ?_) (fun c_21159 => ?_)
        · have c_21159 : x4.toInt < v_21158.toInt := by rw [ka_lt'] at c_21159; exact c_21159
          refine lv_iconst (v := 0) hx hb dX6_pictureOf_96 (by decide) ?_
          exact ka_rRi C hr hlk ⟨_, rfl⟩ dX6_pictureOf_97
        · have c_21159 : ¬ x4.toInt < v_21158.toInt := by rw [ka_lt'] at c_21159; exact c_21159
          refine lv_iconst (v := 1) hx hb dX6_pictureOf_92 (by decide) ?_
          refine lv_goto (tgt := 97) hx hb dX6_pictureOf_93 (by decide) ?_
          exact ka_rRi C hr hlk ⟨_, rfl⟩ dX6_pictureOf_97
      · skip
        refine lv_iconst (v := (-1)) hx hb dX6_pictureOf_30 (by decide) ?_
        exact ka_rRi C hr hlk ⟨_, rfl⟩ dX6_pictureOf_31
    · obtain rfl : x1 = 2 := (ka_eq' _ _).mpr (y_21148.trans (by decide))
      refine lv_aload_n hx hb dX6_pictureOf_0 rfl (lv_at hl 0 rfl) ?_
      refine ka_get C lq_213 rfl hK hP 0 rfl 2 (by decide) lq_214 rfl dX6_pictureOf_1 ?_
      refine lv_aload_n hx hb dX6_pictureOf_4 rfl (lv_at hl 0 rfl) ?_
      refine ka_get C lq_213 rfl hK hP 0 rfl 4 (by decide) lq_215 rfl dX6_pictureOf_5 ?_
      refine ka_RV (n := 1) C (cg_X0_lessonAt_147 l D F a3 a5 a6 x7 k0 a7 a8 a9 a10 a11 a12) gX6_pictureOf_X0_lessonAt rfl (by decide +kernel) ⟨Nat.le_of_ble_eq_true rfl, Nat.le_of_ble_eq_true rfl⟩ hK hP hS hE hN [1, 2] rfl [0] rfl (ci := 0) rfl rfl 1 rfl rfl hl.1 (rest := []) rfl (Nat.le_of_ble_eq_true rfl) dX6_pictureOf_8 ⟨Nat.le_of_ble_eq_true rfl, Nat.le_of_ble_eq_true rfl⟩ (fun v hv => ?_)
      subst hv
      refine ka_stk (w := [.ref a8]) rfl ?_
      refine lv_astore_n (lv' := [(3, .ref a8), (0, .ref a0), (1, .int x0), (2, .int 2)]) hx hb dX6_pictureOf_11 rfl hl (by decide) rfl (fun ls hl => ?_)
      refine lv_aload_n hx hb dX6_pictureOf_12 rfl (lv_at hl 0 rfl) ?_
      refine lv_ifnonnull (tgt := 18) hx hb dX6_pictureOf_13 (by decide) ?_
      refine lv_aload_n hx hb dX6_pictureOf_18 rfl (lv_at hl 0 rfl) ?_
      refine lv_iload_n hx hb dX6_pictureOf_19 rfl (lv_at hl 2 rfl) ?_
      refine ka_RV (n := 1) C (cg_X2_pictureAt_140 l D F a8 x0 a15 a16 x9 o1 k4 po1 ⟨by omega, by omega⟩ ho1 hpo1) gX6_pictureOf_X2_pictureAt rfl (by decide +kernel) ⟨Nat.le_of_ble_eq_true rfl, Nat.le_of_ble_eq_true rfl⟩ hK hP hS hE hN [6, 8] rfl [4] rfl (ci := 2) rfl rfl 6 rfl rfl hl.1 (rest := []) rfl (Nat.le_of_ble_eq_true rfl) dX6_pictureOf_20 ⟨Nat.le_of_ble_eq_true rfl, Nat.le_of_ble_eq_true rfl⟩ (fun v hv => ?_)
      obtain ⟨o_21160, rfl, ho_21160⟩ := hv
      refine ka_stk (w := [va_rf o_21160]) rfl ?_
      refine kb_astore (lv' := [(4, va_rf o_21160), (3, .ref a8), (0, .ref a0), (1, .int x0), (2, .int 2)]) hx hb dX6_pictureOf_23 hl (by decide) (by first | rfl | simp [kb_rfc]) (fun ls hl => ?_)
      refine kb_aload hx hb dX6_pictureOf_25 (lv_at hl 0 rfl) ?_
      refine kb_ifnonnull (tgt := 32) hx hb dX6_pictureOf_27 (by decide) (fun fa_21161 hfa_21161 => ?_) (fun hfa_21161 => ?_)
      · have Ffa_21161 : F fa_21161 := ho_21160 fa_21161 hfa_21161
        refine lv_iload_n hx hb dX6_pictureOf_32 rfl (lv_at hl 4 rfl) ?_
        refine lv_tableIn (off := 65) (tgt := 98) hx hb dX6_pictureOf_33 (by decide) (by decide) (by decide) (by decide) ?_
        refine lv_aload_n hx hb dX6_pictureOf_98 rfl (lv_at hl 1 rfl) ?_
        refine lv_iload_n hx hb dX6_pictureOf_99 rfl (lv_at hl 3 rfl) ?_
        refine ka_RV (n := 1) C (cg_X2_pathOf_41 l D F a8 x0 a15 a16 x9 o1 k3 f1 ⟨by omega, by omega⟩ ho1) gX6_pictureOf_X2_pathOf rfl (by decide +kernel) ⟨Nat.le_of_ble_eq_true rfl, Nat.le_of_ble_eq_true rfl⟩ hK hP hS hE hN [6, 7] rfl [3] rfl (ci := 2) rfl rfl 6 rfl rfl hl.1 (rest := []) rfl (Nat.le_of_ble_eq_true rfl) dX6_pictureOf_100 ⟨Nat.le_of_ble_eq_true rfl, Nat.le_of_ble_eq_true rfl⟩ (fun v hv => ?_)
        obtain ⟨v_21162, rfl, hv_21162⟩ := hv
        have rv_21162 := ka_rng v_21162
        refine ka_stk (w := [.int v_21162]) rfl ?_
        exact ka_rRi C hr hlk ⟨_, rfl⟩ dX6_pictureOf_103
      · skip
        refine lv_iconst (v := (-1)) hx hb dX6_pictureOf_30 (by decide) ?_
        exact ka_rRi C hr hlk ⟨_, rfl⟩ dX6_pictureOf_31
    · skip
      refine lv_aload_n hx hb dX6_pictureOf_0 rfl (lv_at hl 0 rfl) ?_
      refine ka_get C lq_213 rfl hK hP 0 rfl 2 (by decide) lq_214 rfl dX6_pictureOf_1 ?_
      refine lv_aload_n hx hb dX6_pictureOf_4 rfl (lv_at hl 0 rfl) ?_
      refine ka_get C lq_213 rfl hK hP 0 rfl 4 (by decide) lq_215 rfl dX6_pictureOf_5 ?_
      refine ka_RV (n := 1) C (cg_X0_lessonAt_147 l D F a3 a5 a6 x7 k0 a7 a8 a9 a10 a11 a12) gX6_pictureOf_X0_lessonAt rfl (by decide +kernel) ⟨Nat.le_of_ble_eq_true rfl, Nat.le_of_ble_eq_true rfl⟩ hK hP hS hE hN [1, 2] rfl [0] rfl (ci := 0) rfl rfl 1 rfl rfl hl.1 (rest := []) rfl (Nat.le_of_ble_eq_true rfl) dX6_pictureOf_8 ⟨Nat.le_of_ble_eq_true rfl, Nat.le_of_ble_eq_true rfl⟩ (fun v hv => ?_)
      subst hv
      refine ka_stk (w := [.ref a8]) rfl ?_
      refine lv_astore_n (lv' := [(3, .ref a8), (0, .ref a0), (1, .int x0), (2, .int x1)]) hx hb dX6_pictureOf_11 rfl hl (by decide) rfl (fun ls hl => ?_)
      refine lv_aload_n hx hb dX6_pictureOf_12 rfl (lv_at hl 0 rfl) ?_
      refine lv_ifnonnull (tgt := 18) hx hb dX6_pictureOf_13 (by decide) ?_
      refine lv_aload_n hx hb dX6_pictureOf_18 rfl (lv_at hl 0 rfl) ?_
      refine lv_iload_n hx hb dX6_pictureOf_19 rfl (lv_at hl 2 rfl) ?_
      refine ka_RV (n := 1) C (cg_X2_pictureAt_140 l D F a8 x0 a15 a16 x9 o1 k4 po1 ⟨by omega, by omega⟩ ho1 hpo1) gX6_pictureOf_X2_pictureAt rfl (by decide +kernel) ⟨Nat.le_of_ble_eq_true rfl, Nat.le_of_ble_eq_true rfl⟩ hK hP hS hE hN [6, 8] rfl [4] rfl (ci := 2) rfl rfl 6 rfl rfl hl.1 (rest := []) rfl (Nat.le_of_ble_eq_true rfl) dX6_pictureOf_20 ⟨Nat.le_of_ble_eq_true rfl, Nat.le_of_ble_eq_true rfl⟩ (fun v hv => ?_)
      obtain ⟨o_21163, rfl, ho_21163⟩ := hv
      refine ka_stk (w := [va_rf o_21163]) rfl ?_
      refine kb_astore (lv' := [(4, va_rf o_21163), (3, .ref a8), (0, .ref a0), (1, .int x0), (2, .int x1)]) hx hb dX6_pictureOf_23 hl (by decide) (by first | rfl | simp [kb_rfc]) (fun ls hl => ?_)
      refine kb_aload hx hb dX6_pictureOf_25 (lv_at hl 0 rfl) ?_
      refine kb_ifnonnull (tgt := 32) hx hb dX6_pictureOf_27 (by decide) (fun fa_21164 hfa_21164 => ?_) (fun hfa_21164 => ?_)
      · have Ffa_21164 : F fa_21164 := ho_21163 fa_21164 hfa_21164
        refine lv_iload_n hx hb dX6_pictureOf_32 rfl (lv_at hl 4 rfl) ?_
        refine lv_tableOut (tgt := 104) hx hb dX6_pictureOf_33 (by omega) (by decide) ?_
        refine lv_iconst (v := (-1)) hx hb dX6_pictureOf_104 (by decide) ?_
        exact ka_rRi C hr hlk ⟨_, rfl⟩ dX6_pictureOf_105
      · skip
        refine lv_iconst (v := (-1)) hx hb dX6_pictureOf_30 (by decide) ?_
        exact ka_rRi C hr hlk ⟨_, rfl⟩ dX6_pictureOf_31
  · obtain rfl : x2 = 2 := (ka_eq' _ _).mpr (y_21129.trans (by decide))
    rcases (show x1.toInt ≤ -1 ∨ x1.toInt = 0 ∨ x1.toInt = 1 ∨ x1.toInt = 2 ∨ 3 ≤ x1.toInt by omega) with y_21165 | y_21165 | y_21165 | y_21165 | y_21165
    · skip
      refine lv_aload_n hx hb dX6_pictureOf_0 rfl (lv_at hl 0 rfl) ?_
      refine ka_get C lq_213 rfl hK hP 0 rfl 2 (by decide) lq_214 rfl dX6_pictureOf_1 ?_
      refine lv_aload_n hx hb dX6_pictureOf_4 rfl (lv_at hl 0 rfl) ?_
      refine ka_get C lq_213 rfl hK hP 0 rfl 4 (by decide) lq_215 rfl dX6_pictureOf_5 ?_
      refine ka_RV (n := 1) C (cg_X0_lessonAt_149 l D F a3 a5 a6 x7 k0 a7 a8 a9 a10 a11 a12) gX6_pictureOf_X0_lessonAt rfl (by decide +kernel) ⟨Nat.le_of_ble_eq_true rfl, Nat.le_of_ble_eq_true rfl⟩ hK hP hS hE hN [1, 2] rfl [0] rfl (ci := 0) rfl rfl 1 rfl rfl hl.1 (rest := []) rfl (Nat.le_of_ble_eq_true rfl) dX6_pictureOf_8 ⟨Nat.le_of_ble_eq_true rfl, Nat.le_of_ble_eq_true rfl⟩ (fun v hv => ?_)
      subst hv
      refine ka_stk (w := [.ref a9]) rfl ?_
      refine lv_astore_n (lv' := [(3, .ref a9), (0, .ref a0), (1, .int x0), (2, .int x1)]) hx hb dX6_pictureOf_11 rfl hl (by decide) rfl (fun ls hl => ?_)
      refine lv_aload_n hx hb dX6_pictureOf_12 rfl (lv_at hl 0 rfl) ?_
      refine lv_ifnonnull (tgt := 18) hx hb dX6_pictureOf_13 (by decide) ?_
      refine lv_aload_n hx hb dX6_pictureOf_18 rfl (lv_at hl 0 rfl) ?_
      refine lv_iload_n hx hb dX6_pictureOf_19 rfl (lv_at hl 2 rfl) ?_
      refine ka_RV (n := 1) C (cg_X2_pictureAt_140 l D F a9 x0 a17 a18 x10 o2 k6 po2 ⟨by omega, by omega⟩ ho2 hpo2) gX6_pictureOf_X2_pictureAt rfl (by decide +kernel) ⟨Nat.le_of_ble_eq_true rfl, Nat.le_of_ble_eq_true rfl⟩ hK hP hS hE hN [9, 11] rfl [6] rfl (ci := 2) rfl rfl 9 rfl rfl hl.1 (rest := []) rfl (Nat.le_of_ble_eq_true rfl) dX6_pictureOf_20 ⟨Nat.le_of_ble_eq_true rfl, Nat.le_of_ble_eq_true rfl⟩ (fun v hv => ?_)
      obtain ⟨o_21166, rfl, ho_21166⟩ := hv
      refine ka_stk (w := [va_rf o_21166]) rfl ?_
      refine kb_astore (lv' := [(4, va_rf o_21166), (3, .ref a9), (0, .ref a0), (1, .int x0), (2, .int x1)]) hx hb dX6_pictureOf_23 hl (by decide) (by first | rfl | simp [kb_rfc]) (fun ls hl => ?_)
      refine kb_aload hx hb dX6_pictureOf_25 (lv_at hl 0 rfl) ?_
      refine kb_ifnonnull (tgt := 32) hx hb dX6_pictureOf_27 (by decide) (fun fa_21167 hfa_21167 => ?_) (fun hfa_21167 => ?_)
      · have Ffa_21167 : F fa_21167 := ho_21166 fa_21167 hfa_21167
        refine lv_iload_n hx hb dX6_pictureOf_32 rfl (lv_at hl 4 rfl) ?_
        refine lv_tableOut (tgt := 104) hx hb dX6_pictureOf_33 (by omega) (by decide) ?_
        refine lv_iconst (v := (-1)) hx hb dX6_pictureOf_104 (by decide) ?_
        exact ka_rRi C hr hlk ⟨_, rfl⟩ dX6_pictureOf_105
      · skip
        refine lv_iconst (v := (-1)) hx hb dX6_pictureOf_30 (by decide) ?_
        exact ka_rRi C hr hlk ⟨_, rfl⟩ dX6_pictureOf_31
    · obtain rfl : x1 = 0 := (ka_eq' _ _).mpr (y_21165.trans (by decide))
      refine lv_aload_n hx hb dX6_pictureOf_0 rfl (lv_at hl 0 rfl) ?_
      refine ka_get C lq_213 rfl hK hP 0 rfl 2 (by decide) lq_214 rfl dX6_pictureOf_1 ?_
      refine lv_aload_n hx hb dX6_pictureOf_4 rfl (lv_at hl 0 rfl) ?_
      refine ka_get C lq_213 rfl hK hP 0 rfl 4 (by decide) lq_215 rfl dX6_pictureOf_5 ?_
      refine ka_RV (n := 1) C (cg_X0_lessonAt_149 l D F a3 a5 a6 x7 k0 a7 a8 a9 a10 a11 a12) gX6_pictureOf_X0_lessonAt rfl (by decide +kernel) ⟨Nat.le_of_ble_eq_true rfl, Nat.le_of_ble_eq_true rfl⟩ hK hP hS hE hN [1, 2] rfl [0] rfl (ci := 0) rfl rfl 1 rfl rfl hl.1 (rest := []) rfl (Nat.le_of_ble_eq_true rfl) dX6_pictureOf_8 ⟨Nat.le_of_ble_eq_true rfl, Nat.le_of_ble_eq_true rfl⟩ (fun v hv => ?_)
      subst hv
      refine ka_stk (w := [.ref a9]) rfl ?_
      refine lv_astore_n (lv' := [(3, .ref a9), (0, .ref a0), (1, .int x0), (2, .int 0)]) hx hb dX6_pictureOf_11 rfl hl (by decide) rfl (fun ls hl => ?_)
      refine lv_aload_n hx hb dX6_pictureOf_12 rfl (lv_at hl 0 rfl) ?_
      refine lv_ifnonnull (tgt := 18) hx hb dX6_pictureOf_13 (by decide) ?_
      refine lv_aload_n hx hb dX6_pictureOf_18 rfl (lv_at hl 0 rfl) ?_
      refine lv_iload_n hx hb dX6_pictureOf_19 rfl (lv_at hl 2 rfl) ?_
      refine ka_RV (n := 1) C (cg_X2_pictureAt_140 l D F a9 x0 a17 a18 x10 o2 k6 po2 ⟨by omega, by omega⟩ ho2 hpo2) gX6_pictureOf_X2_pictureAt rfl (by decide +kernel) ⟨Nat.le_of_ble_eq_true rfl, Nat.le_of_ble_eq_true rfl⟩ hK hP hS hE hN [9, 11] rfl [6] rfl (ci := 2) rfl rfl 9 rfl rfl hl.1 (rest := []) rfl (Nat.le_of_ble_eq_true rfl) dX6_pictureOf_20 ⟨Nat.le_of_ble_eq_true rfl, Nat.le_of_ble_eq_true rfl⟩ (fun v hv => ?_)
      obtain ⟨o_21168, rfl, ho_21168⟩ := hv
      refine ka_stk (w := [va_rf o_21168]) rfl ?_
      refine kb_astore (lv' := [(4, va_rf o_21168), (3, .ref a9), (0, .ref a0), (1, .int x0), (2, .int 0)]) hx hb dX6_pictureOf_23 hl (by decide) (by first | rfl | simp [kb_rfc]) (fun ls hl => ?_)
      refine kb_aload hx hb dX6_pictureOf_25 (lv_at hl 0 rfl) ?_
      refine kb_ifnonnull (tgt := 32) hx hb dX6_pictureOf_27 (by decide) (fun fa_21169 hfa_21169 => ?_) (fun hfa_21169 => ?_)
      · have Ffa_21169 : F fa_21169 := ho_21168 fa_21169 hfa_21169
        refine lv_iload_n hx hb dX6_pictureOf_32 rfl (lv_at hl 4 rfl) ?_
        refine lv_tableIn (off := 27) (tgt := 60) hx hb dX6_pictureOf_33 (by decide) (by decide) (by decide) (by decide) ?_
        refine lv_aload_n hx hb dX6_pictureOf_60 rfl (lv_at hl 2 rfl) ?_
        refine ka_get C lq_213 rfl hK hP 0 rfl 3 (by decide) lq_216 rfl dX6_pictureOf_61 ?_
        refine kb_aload hx hb dX6_pictureOf_64 (lv_at hl 0 rfl) ?_
        refine ka_top (w := .ref fa_21169) (by rw [hfa_21169]; rfl) ?_
        obtain ⟨tru_21170, txu_21170, kku_21170, nnu_21170, ffu_21170, hnu_21170, hPu_21170, hKu_21170, -, -⟩ := (ka_FP_kept hE.2 hS.2.1) fa_21169 Ffa_21169
        refine ka_get C lq_217 rfl hKu_21170 hPu_21170 0 rfl 0 (by decide) lq_218 rfl dX6_pictureOf_66 ?_
        have rtru_21170 := ka_rng tru_21170
        refine ka_RV (n := 1) C (cg_X4_slipsOf_15 l D F a4 tru_21170 a25 a26 a27 x14 x15 x16 x17 x18 x19 k13 f6 k14 f7 ⟨by omega, by omega⟩) gX6_pictureOf_X4_slipsOf rfl (by decide +kernel) ⟨Nat.le_of_ble_eq_true rfl, Nat.le_of_ble_eq_true rfl⟩ hK hP hS hE hN [21, 22, 23] rfl [13, 14] rfl (ci := 4) rfl rfl 21 rfl rfl hl.1 (rest := []) rfl (Nat.le_of_ble_eq_true rfl) dX6_pictureOf_69 ⟨Nat.le_of_ble_eq_true rfl, Nat.le_of_ble_eq_true rfl⟩ (fun v hv => ?_)
        obtain ⟨v_21171, rfl⟩ := hv
        have rv_21171 := ka_rng v_21171
        refine ka_stk (w := [.int v_21171]) rfl ?_
        exact ka_rRi C hr hlk ⟨_, rfl⟩ dX6_pictureOf_72
      · skip
        refine lv_iconst (v := (-1)) hx hb dX6_pictureOf_30 (by decide) ?_
        exact ka_rRi C hr hlk ⟨_, rfl⟩ dX6_pictureOf_31
    · obtain rfl : x1 = 1 := (ka_eq' _ _).mpr (y_21165.trans (by decide))
      refine lv_aload_n hx hb dX6_pictureOf_0 rfl (lv_at hl 0 rfl) ?_
      refine ka_get C lq_213 rfl hK hP 0 rfl 2 (by decide) lq_214 rfl dX6_pictureOf_1 ?_
      refine lv_aload_n hx hb dX6_pictureOf_4 rfl (lv_at hl 0 rfl) ?_
      refine ka_get C lq_213 rfl hK hP 0 rfl 4 (by decide) lq_215 rfl dX6_pictureOf_5 ?_
      refine ka_RV (n := 1) C (cg_X0_lessonAt_149 l D F a3 a5 a6 x7 k0 a7 a8 a9 a10 a11 a12) gX6_pictureOf_X0_lessonAt rfl (by decide +kernel) ⟨Nat.le_of_ble_eq_true rfl, Nat.le_of_ble_eq_true rfl⟩ hK hP hS hE hN [1, 2] rfl [0] rfl (ci := 0) rfl rfl 1 rfl rfl hl.1 (rest := []) rfl (Nat.le_of_ble_eq_true rfl) dX6_pictureOf_8 ⟨Nat.le_of_ble_eq_true rfl, Nat.le_of_ble_eq_true rfl⟩ (fun v hv => ?_)
      subst hv
      refine ka_stk (w := [.ref a9]) rfl ?_
      refine lv_astore_n (lv' := [(3, .ref a9), (0, .ref a0), (1, .int x0), (2, .int 1)]) hx hb dX6_pictureOf_11 rfl hl (by decide) rfl (fun ls hl => ?_)
      refine lv_aload_n hx hb dX6_pictureOf_12 rfl (lv_at hl 0 rfl) ?_
      refine lv_ifnonnull (tgt := 18) hx hb dX6_pictureOf_13 (by decide) ?_
      refine lv_aload_n hx hb dX6_pictureOf_18 rfl (lv_at hl 0 rfl) ?_
      refine lv_iload_n hx hb dX6_pictureOf_19 rfl (lv_at hl 2 rfl) ?_
      refine ka_RV (n := 1) C (cg_X2_pictureAt_140 l D F a9 x0 a17 a18 x10 o2 k6 po2 ⟨by omega, by omega⟩ ho2 hpo2) gX6_pictureOf_X2_pictureAt rfl (by decide +kernel) ⟨Nat.le_of_ble_eq_true rfl, Nat.le_of_ble_eq_true rfl⟩ hK hP hS hE hN [9, 11] rfl [6] rfl (ci := 2) rfl rfl 9 rfl rfl hl.1 (rest := []) rfl (Nat.le_of_ble_eq_true rfl) dX6_pictureOf_20 ⟨Nat.le_of_ble_eq_true rfl, Nat.le_of_ble_eq_true rfl⟩ (fun v hv => ?_)
      obtain ⟨o_21172, rfl, ho_21172⟩ := hv
      refine ka_stk (w := [va_rf o_21172]) rfl ?_
      refine kb_astore (lv' := [(4, va_rf o_21172), (3, .ref a9), (0, .ref a0), (1, .int x0), (2, .int 1)]) hx hb dX6_pictureOf_23 hl (by decide) (by first | rfl | simp [kb_rfc]) (fun ls hl => ?_)
      refine kb_aload hx hb dX6_pictureOf_25 (lv_at hl 0 rfl) ?_
      refine kb_ifnonnull (tgt := 32) hx hb dX6_pictureOf_27 (by decide) (fun fa_21173 hfa_21173 => ?_) (fun hfa_21173 => ?_)
      · have Ffa_21173 : F fa_21173 := ho_21172 fa_21173 hfa_21173
        refine lv_iload_n hx hb dX6_pictureOf_32 rfl (lv_at hl 4 rfl) ?_
        refine lv_tableIn (off := 40) (tgt := 73) hx hb dX6_pictureOf_33 (by decide) (by decide) (by decide) (by decide) ?_
        refine lv_aload_n hx hb dX6_pictureOf_73 rfl (lv_at hl 2 rfl) ?_
        refine ka_get C lq_213 rfl hK hP 0 rfl 3 (by decide) lq_216 rfl dX6_pictureOf_74 ?_
        refine kb_aload hx hb dX6_pictureOf_77 (lv_at hl 0 rfl) ?_
        refine ka_top (w := .ref fa_21173) (by rw [hfa_21173]; rfl) ?_
        obtain ⟨tru_21174, txu_21174, kku_21174, nnu_21174, ffu_21174, hnu_21174, hPu_21174, hKu_21174, -, -⟩ := (ka_FP_kept hE.2 hS.2.1) fa_21173 Ffa_21173
        refine ka_get C lq_217 rfl hKu_21174 hPu_21174 0 rfl 0 (by decide) lq_218 rfl dX6_pictureOf_79 ?_
        have rtru_21174 := ka_rng tru_21174
        refine ka_RV (n := 1) C (cg_X4_slipsOf_15 l D F a4 tru_21174 a25 a26 a27 x14 x15 x16 x17 x18 x19 k13 f6 k14 f7 ⟨by omega, by omega⟩) gX6_pictureOf_X4_slipsOf rfl (by decide +kernel) ⟨Nat.le_of_ble_eq_true rfl, Nat.le_of_ble_eq_true rfl⟩ hK hP hS hE hN [21, 22, 23] rfl [13, 14] rfl (ci := 4) rfl rfl 21 rfl rfl hl.1 (rest := []) rfl (Nat.le_of_ble_eq_true rfl) dX6_pictureOf_82 ⟨Nat.le_of_ble_eq_true rfl, Nat.le_of_ble_eq_true rfl⟩ (fun v hv => ?_)
        obtain ⟨v_21175, rfl⟩ := hv
        have rv_21175 := ka_rng v_21175
        refine ka_stk (w := [.int v_21175]) rfl ?_
        refine lv_aload_n hx hb dX6_pictureOf_85 rfl (lv_at hl 2 rfl) ?_
        refine ka_get C lq_213 rfl hK hP 0 rfl 6 (by decide) lq_219 rfl dX6_pictureOf_86 ?_
        refine lv_icmp_gt (tgt := 96) hx hb dX6_pictureOf_89 (by decide) (fun c_21176 => ?_) (fun c_21176 => ?_)
        · have c_21176 : x4.toInt < v_21175.toInt := by rw [ka_lt'] at c_21176; exact c_21176
          refine lv_iconst (v := 0) hx hb dX6_pictureOf_96 (by decide) ?_
          exact ka_rRi C hr hlk ⟨_, rfl⟩ dX6_pictureOf_97
        · have c_21176 : ¬ x4.toInt < v_21175.toInt := by rw [ka_lt'] at c_21176; exact c_21176
          refine lv_iconst (v := 1) hx hb dX6_pictureOf_92 (by decide) ?_
          refine lv_goto (tgt := 97) hx hb dX6_pictureOf_93 (by decide) ?_
          exact ka_rRi C hr hlk ⟨_, rfl⟩ dX6_pictureOf_97
      · skip
        refine lv_iconst (v := (-1)) hx hb dX6_pictureOf_30 (by decide) ?_
        exact ka_rRi C hr hlk ⟨_, rfl⟩ dX6_pictureOf_31
    · obtain rfl : x1 = 2 := (ka_eq' _ _).mpr (y_21165.trans (by decide))
      refine lv_aload_n hx hb dX6_pictureOf_0 rfl (lv_at hl 0 rfl) ?_
      refine ka_get C lq_213 rfl hK hP 0 rfl 2 (by decide) lq_214 rfl dX6_pictureOf_1 ?_
      refine lv_aload_n hx hb dX6_pictureOf_4 rfl (lv_at hl 0 rfl) ?_
      refine ka_get C lq_213 rfl hK hP 0 rfl 4 (by decide) lq_215 rfl dX6_pictureOf_5 ?_
      refine ka_RV (n := 1) C (cg_X0_lessonAt_149 l D F a3 a5 a6 x7 k0 a7 a8 a9 a10 a11 a12) gX6_pictureOf_X0_lessonAt rfl (by decide +kernel) ⟨Nat.le_of_ble_eq_true rfl, Nat.le_of_ble_eq_true rfl⟩ hK hP hS hE hN [1, 2] rfl [0] rfl (ci := 0) rfl rfl 1 rfl rfl hl.1 (rest := []) rfl (Nat.le_of_ble_eq_true rfl) dX6_pictureOf_8 ⟨Nat.le_of_ble_eq_true rfl, Nat.le_of_ble_eq_true rfl⟩ (fun v hv => ?_)
      subst hv
      refine ka_stk (w := [.ref a9]) rfl ?_
      refine lv_astore_n (lv' := [(3, .ref a9), (0, .ref a0), (1, .int x0), (2, .int 2)]) hx hb dX6_pictureOf_11 rfl hl (by decide) rfl (fun ls hl => ?_)
      refine lv_aload_n hx hb dX6_pictureOf_12 rfl (lv_at hl 0 rfl) ?_
      refine lv_ifnonnull (tgt := 18) hx hb dX6_pictureOf_13 (by decide) ?_
      refine lv_aload_n hx hb dX6_pictureOf_18 rfl (lv_at hl 0 rfl) ?_
      refine lv_iload_n hx hb dX6_pictureOf_19 rfl (lv_at hl 2 rfl) ?_
      refine ka_RV (n := 1) C (cg_X2_pictureAt_140 l D F a9 x0 a17 a18 x10 o2 k6 po2 ⟨by omega, by omega⟩ ho2 hpo2) gX6_pictureOf_X2_pictureAt rfl (by decide +kernel) ⟨Nat.le_of_ble_eq_true rfl, Nat.le_of_ble_eq_true rfl⟩ hK hP hS hE hN [9, 11] rfl [6] rfl (ci := 2) rfl rfl 9 rfl rfl hl.1 (rest := []) rfl (Nat.le_of_ble_eq_true rfl) dX6_pictureOf_20 ⟨Nat.le_of_ble_eq_true rfl, Nat.le_of_ble_eq_true rfl⟩ (fun v hv => ?_)
      obtain ⟨o_21177, rfl, ho_21177⟩ := hv
      refine ka_stk (w := [va_rf o_21177]) rfl ?_
      refine kb_astore (lv' := [(4, va_rf o_21177), (3, .ref a9), (0, .ref a0), (1, .int x0), (2, .int 2)]) hx hb dX6_pictureOf_23 hl (by decide) (by first | rfl | simp [kb_rfc]) (fun ls hl => ?_)
      refine kb_aload hx hb dX6_pictureOf_25 (lv_at hl 0 rfl) ?_
      refine kb_ifnonnull (tgt := 32) hx hb dX6_pictureOf_27 (by decide) (fun fa_21178 hfa_21178 => ?_) (fun hfa_21178 => ?_)
      · have Ffa_21178 : F fa_21178 := ho_21177 fa_21178 hfa_21178
        refine lv_iload_n hx hb dX6_pictureOf_32 rfl (lv_at hl 4 rfl) ?_
        refine lv_tableIn (off := 65) (tgt := 98) hx hb dX6_pictureOf_33 (by decide) (by decide) (by decide) (by decide) ?_
        refine lv_aload_n hx hb dX6_pictureOf_98 rfl (lv_at hl 1 rfl) ?_
        refine lv_iload_n hx hb dX6_pictureOf_99 rfl (lv_at hl 3 rfl) ?_
        refine ka_RV (n := 1) C (cg_X2_pathOf_41 l D F a9 x0 a17 a18 x10 o2 k5 f2 ⟨by omega, by omega⟩ ho2) gX6_pictureOf_X2_pathOf rfl (by decide +kernel) ⟨Nat.le_of_ble_eq_true rfl, Nat.le_of_ble_eq_true rfl⟩ hK hP hS hE hN [9, 10] rfl [5] rfl (ci := 2) rfl rfl 9 rfl rfl hl.1 (rest := []) rfl (Nat.le_of_ble_eq_true rfl) dX6_pictureOf_100 ⟨Nat.le_of_ble_eq_true rfl, Nat.le_of_ble_eq_true rfl⟩ (fun v hv => ?_)
        obtain ⟨v_21179, rfl, hv_21179⟩ := hv
        have rv_21179 := ka_rng v_21179
        refine ka_stk (w := [.int v_21179]) rfl ?_
        exact ka_rRi C hr hlk ⟨_, rfl⟩ dX6_pictureOf_103
      · skip
        refine lv_iconst (v := (-1)) hx hb dX6_pictureOf_30 (by decide) ?_
        exact ka_rRi C hr hlk ⟨_, rfl⟩ dX6_pictureOf_31
    · skip
      refine lv_aload_n hx hb dX6_pictureOf_0 rfl (lv_at hl 0 rfl) ?_
      refine ka_get C lq_213 rfl hK hP 0 rfl 2 (by decide) lq_214 rfl dX6_pictureOf_1 ?_
      refine lv_aload_n hx hb dX6_pictureOf_4 rfl (lv_at hl 0 rfl) ?_
      refine ka_get C lq_213 rfl hK hP 0 rfl 4 (by decide) lq_215 rfl dX6_pictureOf_5 ?_
      refine ka_RV (n := 1) C (cg_X0_lessonAt_149 l D F a3 a5 a6 x7 k0 a7 a8 a9 a10 a11 a12) gX6_pictureOf_X0_lessonAt rfl (by decide +kernel) ⟨Nat.le_of_ble_eq_true rfl, Nat.le_of_ble_eq_true rfl⟩ hK hP hS hE hN [1, 2] rfl [0] rfl (ci := 0) rfl rfl 1 rfl rfl hl.1 (rest := []) rfl (Nat.le_of_ble_eq_true rfl) dX6_pictureOf_8 ⟨Nat.le_of_ble_eq_true rfl, Nat.le_of_ble_eq_true rfl⟩ (fun v hv => ?_)
      subst hv
      refine ka_stk (w := [.ref a9]) rfl ?_
      refine lv_astore_n (lv' := [(3, .ref a9), (0, .ref a0), (1, .int x0), (2, .int x1)]) hx hb dX6_pictureOf_11 rfl hl (by decide) rfl (fun ls hl => ?_)
      refine lv_aload_n hx hb dX6_pictureOf_12 rfl (lv_at hl 0 rfl) ?_
      refine lv_ifnonnull (tgt := 18) hx hb dX6_pictureOf_13 (by decide) ?_
      refine lv_aload_n hx hb dX6_pictureOf_18 rfl (lv_at hl 0 rfl) ?_
      refine lv_iload_n hx hb dX6_pictureOf_19 rfl (lv_at hl 2 rfl) ?_
      refine ka_RV (n := 1) C (cg_X2_pictureAt_140 l D F a9 x0 a17 a18 x10 o2 k6 po2 ⟨by omega, by omega⟩ ho2 hpo2) gX6_pictureOf_X2_pictureAt rfl (by decide +kernel) ⟨Nat.le_of_ble_eq_true rfl, Nat.le_of_ble_eq_true rfl⟩ hK hP hS hE hN [9, 11] rfl [6] rfl (ci := 2) rfl rfl 9 rfl rfl hl.1 (rest := []) rfl (Nat.le_of_ble_eq_true rfl) dX6_pictureOf_20 ⟨Nat.le_of_ble_eq_true rfl, Nat.le_of_ble_eq_true rfl⟩ (fun v hv => ?_)
      obtain ⟨o_21180, rfl, ho_21180⟩ := hv
      refine ka_stk (w := [va_rf o_21180]) rfl ?_
      refine kb_astore (lv' := [(4, va_rf o_21180), (3, .ref a9), (0, .ref a0), (1, .int x0), (2, .int x1)]) hx hb dX6_pictureOf_23 hl (by decide) (by first | rfl | simp [kb_rfc]) (fun ls hl => ?_)
      refine kb_aload hx hb dX6_pictureOf_25 (lv_at hl 0 rfl) ?_
      refine kb_ifnonnull (tgt := 32) hx hb dX6_pictureOf_27 (by decide) (fun fa_21181 hfa_21181 => ?_) (fun hfa_21181 => ?_)
      · have Ffa_21181 : F fa_21181 := ho_21180 fa_21181 hfa_21181
        refine lv_iload_n hx hb dX6_pictureOf_32 rfl (lv_at hl 4 rfl) ?_
        refine lv_tableOut (tgt := 104) hx hb dX6_pictureOf_33 (by omega) (by decide) ?_
        refine lv_iconst (v := (-1)) hx hb dX6_pictureOf_104 (by decide) ?_
        exact ka_rRi C hr hlk ⟨_, rfl⟩ dX6_pictureOf_105
      · skip
        refine lv_iconst (v := (-1)) hx hb dX6_pictureOf_30 (by decide) ?_
        exact ka_rRi C hr hlk ⟨_, rfl⟩ dX6_pictureOf_31
  · obtain rfl : x2 = 3 := (ka_eq' _ _).mpr (y_21129.trans (by decide))
    rcases (show x1.toInt ≤ -1 ∨ x1.toInt = 0 ∨ x1.toInt = 1 ∨ x1.toInt = 2 ∨ 3 ≤ x1.toInt by omega) with y_21182 | y_21182 | y_21182 | y_21182 | y_21182
    · skip
      refine lv_aload_n hx hb dX6_pictureOf_0 rfl (lv_at hl 0 rfl) ?_
      refine ka_get C lq_213 rfl hK hP 0 rfl 2 (by decide) lq_214 rfl dX6_pictureOf_1 ?_
      refine lv_aload_n hx hb dX6_pictureOf_4 rfl (lv_at hl 0 rfl) ?_
      refine ka_get C lq_213 rfl hK hP 0 rfl 4 (by decide) lq_215 rfl dX6_pictureOf_5 ?_
      refine ka_RV (n := 1) C (cg_X0_lessonAt_151 l D F a3 a5 a6 x7 k0 a7 a8 a9 a10 a11 a12) gX6_pictureOf_X0_lessonAt rfl (by decide +kernel) ⟨Nat.le_of_ble_eq_true rfl, Nat.le_of_ble_eq_true rfl⟩ hK hP hS hE hN [1, 2] rfl [0] rfl (ci := 0) rfl rfl 1 rfl rfl hl.1 (rest := []) rfl (Nat.le_of_ble_eq_true rfl) dX6_pictureOf_8 ⟨Nat.le_of_ble_eq_true rfl, Nat.le_of_ble_eq_true rfl⟩ (fun v hv => ?_)
      subst hv
      refine ka_stk (w := [.ref a10]) rfl ?_
      refine lv_astore_n (lv' := [(3, .ref a10), (0, .ref a0), (1, .int x0), (2, .int x1)]) hx hb dX6_pictureOf_11 rfl hl (by decide) rfl (fun ls hl => ?_)
      refine lv_aload_n hx hb dX6_pictureOf_12 rfl (lv_at hl 0 rfl) ?_
      refine lv_ifnonnull (tgt := 18) hx hb dX6_pictureOf_13 (by decide) ?_
      refine lv_aload_n hx hb dX6_pictureOf_18 rfl (lv_at hl 0 rfl) ?_
      refine lv_iload_n hx hb dX6_pictureOf_19 rfl (lv_at hl 2 rfl) ?_
      refine ka_RV (n := 1) C (cg_X2_pictureAt_140 l D F a10 x0 a19 a20 x11 o3 k8 po3 ⟨by omega, by omega⟩ ho3 hpo3) gX6_pictureOf_X2_pictureAt rfl (by decide +kernel) ⟨Nat.le_of_ble_eq_true rfl, Nat.le_of_ble_eq_true rfl⟩ hK hP hS hE hN [12, 14] rfl [8] rfl (ci := 2) rfl rfl 12 rfl rfl hl.1 (rest := []) rfl (Nat.le_of_ble_eq_true rfl) dX6_pictureOf_20 ⟨Nat.le_of_ble_eq_true rfl, Nat.le_of_ble_eq_true rfl⟩ (fun v hv => ?_)
      obtain ⟨o_21183, rfl, ho_21183⟩ := hv
      refine ka_stk (w := [va_rf o_21183]) rfl ?_
      refine kb_astore (lv' := [(4, va_rf o_21183), (3, .ref a10), (0, .ref a0), (1, .int x0), (2, .int x1)]) hx hb dX6_pictureOf_23 hl (by decide) (by first | rfl | simp [kb_rfc]) (fun ls hl => ?_)
      refine kb_aload hx hb dX6_pictureOf_25 (lv_at hl 0 rfl) ?_
      refine kb_ifnonnull (tgt := 32) hx hb dX6_pictureOf_27 (by decide) (fun fa_21184 hfa_21184 => ?_) (fun hfa_21184 => ?_)
      · have Ffa_21184 : F fa_21184 := ho_21183 fa_21184 hfa_21184
        refine lv_iload_n hx hb dX6_pictureOf_32 rfl (lv_at hl 4 rfl) ?_
        refine lv_tableOut (tgt := 104) hx hb dX6_pictureOf_33 (by omega) (by decide) ?_
        refine lv_iconst (v := (-1)) hx hb dX6_pictureOf_104 (by decide) ?_
        exact ka_rRi C hr hlk ⟨_, rfl⟩ dX6_pictureOf_105
      · skip
        refine lv_iconst (v := (-1)) hx hb dX6_pictureOf_30 (by decide) ?_
        exact ka_rRi C hr hlk ⟨_, rfl⟩ dX6_pictureOf_31
    · obtain rfl : x1 = 0 := (ka_eq' _ _).mpr (y_21182.trans (by decide))
      refine lv_aload_n hx hb dX6_pictureOf_0 rfl (lv_at hl 0 rfl) ?_
      refine ka_get C lq_213 rfl hK hP 0 rfl 2 (by decide) lq_214 rfl dX6_pictureOf_1 ?_
      refine lv_aload_n hx hb dX6_pictureOf_4 rfl (lv_at hl 0 rfl) ?_
      refine ka_get C lq_213 rfl hK hP 0 rfl 4 (by decide) lq_215 rfl dX6_pictureOf_5 ?_
      refine ka_RV (n := 1) C (cg_X0_lessonAt_151 l D F a3 a5 a6 x7 k0 a7 a8 a9 a10 a11 a12) gX6_pictureOf_X0_lessonAt rfl (by decide +kernel) ⟨Nat.le_of_ble_eq_true rfl, Nat.le_of_ble_eq_true rfl⟩ hK hP hS hE hN [1, 2] rfl [0] rfl (ci := 0) rfl rfl 1 rfl rfl hl.1 (rest := []) rfl (Nat.le_of_ble_eq_true rfl) dX6_pictureOf_8 ⟨Nat.le_of_ble_eq_true rfl, Nat.le_of_ble_eq_true rfl⟩ (fun v hv => ?_)
      subst hv
      refine ka_stk (w := [.ref a10]) rfl ?_
      refine lv_astore_n (lv' := [(3, .ref a10), (0, .ref a0), (1, .int x0), (2, .int 0)]) hx hb dX6_pictureOf_11 rfl hl (by decide) rfl (fun ls hl => ?_)
      refine lv_aload_n hx hb dX6_pictureOf_12 rfl (lv_at hl 0 rfl) ?_
      refine lv_ifnonnull (tgt := 18) hx hb dX6_pictureOf_13 (by decide) ?_
      refine lv_aload_n hx hb dX6_pictureOf_18 rfl (lv_at hl 0 rfl) ?_
      refine lv_iload_n hx hb dX6_pictureOf_19 rfl (lv_at hl 2 rfl) ?_
      refine ka_RV (n := 1) C (cg_X2_pictureAt_140 l D F a10 x0 a19 a20 x11 o3 k8 po3 ⟨by omega, by omega⟩ ho3 hpo3) gX6_pictureOf_X2_pictureAt rfl (by decide +kernel) ⟨Nat.le_of_ble_eq_true rfl, Nat.le_of_ble_eq_true rfl⟩ hK hP hS hE hN [12, 14] rfl [8] rfl (ci := 2) rfl rfl 12 rfl rfl hl.1 (rest := []) rfl (Nat.le_of_ble_eq_true rfl) dX6_pictureOf_20 ⟨Nat.le_of_ble_eq_true rfl, Nat.le_of_ble_eq_true rfl⟩ (fun v hv => ?_)
      obtain ⟨o_21185, rfl, ho_21185⟩ := hv
      refine ka_stk (w := [va_rf o_21185]) rfl ?_
      refine kb_astore (lv' := [(4, va_rf o_21185), (3, .ref a10), (0, .ref a0), (1, .int x0), (2, .int 0)]) hx hb dX6_pictureOf_23 hl (by decide) (by first | rfl | simp [kb_rfc]) (fun ls hl => ?_)
      refine kb_aload hx hb dX6_pictureOf_25 (lv_at hl 0 rfl) ?_
      refine kb_ifnonnull (tgt := 32) hx hb dX6_pictureOf_27 (by decide) (fun fa_21186 hfa_21186 => ?_) (fun hfa_21186 => ?_)
      · have Ffa_21186 : F fa_21186 := ho_21185 fa_21186 hfa_21186
        refine lv_iload_n hx hb dX6_pictureOf_32 rfl (lv_at hl 4 rfl) ?_
        refine lv_tableIn (off := 27) (tgt := 60) hx hb dX6_pictureOf_33 (by decide) (by decide) (by decide) (by decide) ?_
        refine lv_aload_n hx hb dX6_pictureOf_60 rfl (lv_at hl 2 rfl) ?_
        refine ka_get C lq_213 rfl hK hP 0 rfl 3 (by decide) lq_216 rfl dX6_pictureOf_61 ?_
        refine kb_aload hx hb dX6_pictureOf_64 (lv_at hl 0 rfl) ?_
        refine ka_top (w := .ref fa_21186) (by rw [hfa_21186]; rfl) ?_
        obtain ⟨tru_21187, txu_21187, kku_21187, nnu_21187, ffu_21187, hnu_21187, hPu_21187, hKu_21187, -, -⟩ := (ka_FP_kept hE.2 hS.2.1) fa_21186 Ffa_21186
        refine ka_get C lq_217 rfl hKu_21187 hPu_21187 0 rfl 0 (by decide) lq_218 rfl dX6_pictureOf_66 ?_
        have rtru_21187 := ka_rng tru_21187
        refine ka_RV (n := 1) C (cg_X4_slipsOf_15 l D F a4 tru_21187 a25 a26 a27 x14 x15 x16 x17 x18 x19 k13 f6 k14 f7 ⟨by omega, by omega⟩) gX6_pictureOf_X4_slipsOf rfl (by decide +kernel) ⟨Nat.le_of_ble_eq_true rfl, Nat.le_of_ble_eq_true rfl⟩ hK hP hS hE hN [21, 22, 23] rfl [13, 14] rfl (ci := 4) rfl rfl 21 rfl rfl hl.1 (rest := []) rfl (Nat.le_of_ble_eq_true rfl) dX6_pictureOf_69 ⟨Nat.le_of_ble_eq_true rfl, Nat.le_of_ble_eq_true rfl⟩ (fun v hv => ?_)
        obtain ⟨v_21188, rfl⟩ := hv
        have rv_21188 := ka_rng v_21188
        refine ka_stk (w := [.int v_21188]) rfl ?_
        exact ka_rRi C hr hlk ⟨_, rfl⟩ dX6_pictureOf_72
      · skip
        refine lv_iconst (v := (-1)) hx hb dX6_pictureOf_30 (by decide) ?_
        exact ka_rRi C hr hlk ⟨_, rfl⟩ dX6_pictureOf_31
    · obtain rfl : x1 = 1 := (ka_eq' _ _).mpr (y_21182.trans (by decide))
      refine lv_aload_n hx hb dX6_pictureOf_0 rfl (lv_at hl 0 rfl) ?_
      refine ka_get C lq_213 rfl hK hP 0 rfl 2 (by decide) lq_214 rfl dX6_pictureOf_1 ?_
      refine lv_aload_n hx hb dX6_pictureOf_4 rfl (lv_at hl 0 rfl) ?_
      refine ka_get C lq_213 rfl hK hP 0 rfl 4 (by decide) lq_215 rfl dX6_pictureOf_5 ?_
      refine ka_RV (n := 1) C (cg_X0_lessonAt_151 l D F a3 a5 a6 x7 k0 a7 a8 a9 a10 a11 a12) gX6_pictureOf_X0_lessonAt rfl (by decide +kernel) ⟨Nat.le_of_ble_eq_true rfl, Nat.le_of_ble_eq_true rfl⟩ hK hP hS hE hN [1, 2] rfl [0] rfl (ci := 0) rfl rfl 1 rfl rfl hl.1 (rest := []) rfl (Nat.le_of_ble_eq_true rfl) dX6_pictureOf_8 ⟨Nat.le_of_ble_eq_true rfl, Nat.le_of_ble_eq_true rfl⟩ (fun v hv => ?_)
      subst hv
      refine ka_stk (w := [.ref a10]) rfl ?_
      refine lv_astore_n (lv' := [(3, .ref a10), (0, .ref a0), (1, .int x0), (2, .int 1)]) hx hb dX6_pictureOf_11 rfl hl (by decide) rfl (fun ls hl => ?_)
      refine lv_aload_n hx hb dX6_pictureOf_12 rfl (lv_at hl 0 rfl) ?_
      refine lv_ifnonnull (tgt := 18) hx hb dX6_pictureOf_13 (by decide) ?_
      refine lv_aload_n hx hb dX6_pictureOf_18 rfl (lv_at hl 0 rfl) ?_
      refine lv_iload_n hx hb dX6_pictureOf_19 rfl (lv_at hl 2 rfl) ?_
      refine ka_RV (n := 1) C (cg_X2_pictureAt_140 l D F a10 x0 a19 a20 x11 o3 k8 po3 ⟨by omega, by omega⟩ ho3 hpo3) gX6_pictureOf_X2_pictureAt rfl (by decide +kernel) ⟨Nat.le_of_ble_eq_true rfl, Nat.le_of_ble_eq_true rfl⟩ hK hP hS hE hN [12, 14] rfl [8] rfl (ci := 2) rfl rfl 12 rfl rfl hl.1 (rest := []) rfl (Nat.le_of_ble_eq_true rfl) dX6_pictureOf_20 ⟨Nat.le_of_ble_eq_true rfl, Nat.le_of_ble_eq_true rfl⟩ (fun v hv => ?_)
      obtain ⟨o_21189, rfl, ho_21189⟩ := hv
      refine ka_stk (w := [va_rf o_21189]) rfl ?_
      refine kb_astore (lv' := [(4, va_rf o_21189), (3, .ref a10), (0, .ref a0), (1, .int x0), (2, .int 1)]) hx hb dX6_pictureOf_23 hl (by decide) (by first | rfl | simp [kb_rfc]) (fun ls hl => ?_)
      refine kb_aload hx hb dX6_pictureOf_25 (lv_at hl 0 rfl) ?_
      refine kb_ifnonnull (tgt := 32) hx hb dX6_pictureOf_27 (by decide) (fun fa_21190 hfa_21190 => ?_) (fun hfa_21190 => ?_)
      · have Ffa_21190 : F fa_21190 := ho_21189 fa_21190 hfa_21190
        refine lv_iload_n hx hb dX6_pictureOf_32 rfl (lv_at hl 4 rfl) ?_
        refine lv_tableIn (off := 40) (tgt := 73) hx hb dX6_pictureOf_33 (by decide) (by decide) (by decide) (by decide) ?_
        refine lv_aload_n hx hb dX6_pictureOf_73 rfl (lv_at hl 2 rfl) ?_
        refine ka_get C lq_213 rfl hK hP 0 rfl 3 (by decide) lq_216 rfl dX6_pictureOf_74 ?_
        refine kb_aload hx hb dX6_pictureOf_77 (lv_at hl 0 rfl) ?_
        refine ka_top (w := .ref fa_21190) (by rw [hfa_21190]; rfl) ?_
        obtain ⟨tru_21191, txu_21191, kku_21191, nnu_21191, ffu_21191, hnu_21191, hPu_21191, hKu_21191, -, -⟩ := (ka_FP_kept hE.2 hS.2.1) fa_21190 Ffa_21190
        refine ka_get C lq_217 rfl hKu_21191 hPu_21191 0 rfl 0 (by decide) lq_218 rfl dX6_pictureOf_79 ?_
        have rtru_21191 := ka_rng tru_21191
        refine ka_RV (n := 1) C (cg_X4_slipsOf_15 l D F a4 tru_21191 a25 a26 a27 x14 x15 x16 x17 x18 x19 k13 f6 k14 f7 ⟨by omega, by omega⟩) gX6_pictureOf_X4_slipsOf rfl (by decide +kernel) ⟨Nat.le_of_ble_eq_true rfl, Nat.le_of_ble_eq_true rfl⟩ hK hP hS hE hN [21, 22, 23] rfl [13, 14] rfl (ci := 4) rfl rfl 21 rfl rfl hl.1 (rest := []) rfl (Nat.le_of_ble_eq_true rfl) dX6_pictureOf_82 ⟨Nat.le_of_ble_eq_true rfl, Nat.le_of_ble_eq_true rfl⟩ (fun v hv => ?_)
        obtain ⟨v_21192, rfl⟩ := hv
        have rv_21192 := ka_rng v_21192
        refine ka_stk (w := [.int v_21192]) rfl ?_
        refine lv_aload_n hx hb dX6_pictureOf_85 rfl (lv_at hl 2 rfl) ?_
        refine ka_get C lq_213 rfl hK hP 0 rfl 6 (by decide) lq_219 rfl dX6_pictureOf_86 ?_
        refine lv_icmp_gt (tgt := 96) hx hb dX6_pictureOf_89 (by decide) (fun c_21193 => ?_) (fun c_21193 => ?_)
        · have c_21193 : x4.toInt < v_21192.toInt := by rw [ka_lt'] at c_21193; exact c_21193
          refine lv_iconst (v := 0) hx hb dX6_pictureOf_96 (by decide) ?_
          exact ka_rRi C hr hlk ⟨_, rfl⟩ dX6_pictureOf_97
        · have c_21193 : ¬ x4.toInt < v_21192.toInt := by rw [ka_lt'] at c_21193; exact c_21193
          refine lv_iconst (v := 1) hx hb dX6_pictureOf_92 (by decide) ?_
          refine lv_goto (tgt := 97) hx hb dX6_pictureOf_93 (by decide) ?_
          exact ka_rRi C hr hlk ⟨_, rfl⟩ dX6_pictureOf_97
      · skip
        refine lv_iconst (v := (-1)) hx hb dX6_pictureOf_30 (by decide) ?_
        exact ka_rRi C hr hlk ⟨_, rfl⟩ dX6_pictureOf_31
    · obtain rfl : x1 = 2 := (ka_eq' _ _).mpr (y_21182.trans (by decide))
      refine lv_aload_n hx hb dX6_pictureOf_0 rfl (lv_at hl 0 rfl) ?_
      refine ka_get C lq_213 rfl hK hP 0 rfl 2 (by decide) lq_214 rfl dX6_pictureOf_1 ?_
      refine lv_aload_n hx hb dX6_pictureOf_4 rfl (lv_at hl 0 rfl) ?_
      refine ka_get C lq_213 rfl hK hP 0 rfl 4 (by decide) lq_215 rfl dX6_pictureOf_5 ?_
      refine ka_RV (n := 1) C (cg_X0_lessonAt_151 l D F a3 a5 a6 x7 k0 a7 a8 a9 a10 a11 a12) gX6_pictureOf_X0_lessonAt rfl (by decide +kernel) ⟨Nat.le_of_ble_eq_true rfl, Nat.le_of_ble_eq_true rfl⟩ hK hP hS hE hN [1, 2] rfl [0] rfl (ci := 0) rfl rfl 1 rfl rfl hl.1 (rest := []) rfl (Nat.le_of_ble_eq_true rfl) dX6_pictureOf_8 ⟨Nat.le_of_ble_eq_true rfl, Nat.le_of_ble_eq_true rfl⟩ (fun v hv => ?_)
      subst hv
      refine ka_stk (w := [.ref a10]) rfl ?_
      refine lv_astore_n (lv' := [(3, .ref a10), (0, .ref a0), (1, .int x0), (2, .int 2)]) hx hb dX6_pictureOf_11 rfl hl (by decide) rfl (fun ls hl => ?_)
      refine lv_aload_n hx hb dX6_pictureOf_12 rfl (lv_at hl 0 rfl) ?_
      refine lv_ifnonnull (tgt := 18) hx hb dX6_pictureOf_13 (by decide) ?_
      refine lv_aload_n hx hb dX6_pictureOf_18 rfl (lv_at hl 0 rfl) ?_
      refine lv_iload_n hx hb dX6_pictureOf_19 rfl (lv_at hl 2 rfl) ?_
      refine ka_RV (n := 1) C (cg_X2_pictureAt_140 l D F a10 x0 a19 a20 x11 o3 k8 po3 ⟨by omega, by omega⟩ ho3 hpo3) gX6_pictureOf_X2_pictureAt rfl (by decide +kernel) ⟨Nat.le_of_ble_eq_true rfl, Nat.le_of_ble_eq_true rfl⟩ hK hP hS hE hN [12, 14] rfl [8] rfl (ci := 2) rfl rfl 12 rfl rfl hl.1 (rest := []) rfl (Nat.le_of_ble_eq_true rfl) dX6_pictureOf_20 ⟨Nat.le_of_ble_eq_true rfl, Nat.le_of_ble_eq_true rfl⟩ (fun v hv => ?_)
      obtain ⟨o_21194, rfl, ho_21194⟩ := hv
      refine ka_stk (w := [va_rf o_21194]) rfl ?_
      refine kb_astore (lv' := [(4, va_rf o_21194), (3, .ref a10), (0, .ref a0), (1, .int x0), (2, .int 2)]) hx hb dX6_pictureOf_23 hl (by decide) (by first | rfl | simp [kb_rfc]) (fun ls hl => ?_)
      refine kb_aload hx hb dX6_pictureOf_25 (lv_at hl 0 rfl) ?_
      refine kb_ifnonnull (tgt := 32) hx hb dX6_pictureOf_27 (by decide) (fun fa_21195 hfa_21195 => ?_) (fun hfa_21195 => ?_)
      · have Ffa_21195 : F fa_21195 := ho_21194 fa_21195 hfa_21195
        refine lv_iload_n hx hb dX6_pictureOf_32 rfl (lv_at hl 4 rfl) ?_
        refine lv_tableIn (off := 65) (tgt := 98) hx hb dX6_pictureOf_33 (by decide) (by decide) (by decide) (by decide) ?_
        refine lv_aload_n hx hb dX6_pictureOf_98 rfl (lv_at hl 1 rfl) ?_
        refine lv_iload_n hx hb dX6_pictureOf_99 rfl (lv_at hl 3 rfl) ?_
        refine ka_RV (n := 1) C (cg_X2_pathOf_41 l D F a10 x0 a19 a20 x11 o3 k7 f3 ⟨by omega, by omega⟩ ho3) gX6_pictureOf_X2_pathOf rfl (by decide +kernel) ⟨Nat.le_of_ble_eq_true rfl, Nat.le_of_ble_eq_true rfl⟩ hK hP hS hE hN [12, 13] rfl [7] rfl (ci := 2) rfl rfl 12 rfl rfl hl.1 (rest := []) rfl (Nat.le_of_ble_eq_true rfl) dX6_pictureOf_100 ⟨Nat.le_of_ble_eq_true rfl, Nat.le_of_ble_eq_true rfl⟩ (fun v hv => ?_)
        obtain ⟨v_21196, rfl, hv_21196⟩ := hv
        have rv_21196 := ka_rng v_21196
        refine ka_stk (w := [.int v_21196]) rfl ?_
        exact ka_rRi C hr hlk ⟨_, rfl⟩ dX6_pictureOf_103
      · skip
        refine lv_iconst (v := (-1)) hx hb dX6_pictureOf_30 (by decide) ?_
        exact ka_rRi C hr hlk ⟨_, rfl⟩ dX6_pictureOf_31
    · skip
      refine lv_aload_n hx hb dX6_pictureOf_0 rfl (lv_at hl 0 rfl) ?_
      refine ka_get C lq_213 rfl hK hP 0 rfl 2 (by decide) lq_214 rfl dX6_pictureOf_1 ?_
      refine lv_aload_n hx hb dX6_pictureOf_4 rfl (lv_at hl 0 rfl) ?_
      refine ka_get C lq_213 rfl hK hP 0 rfl 4 (by decide) lq_215 rfl dX6_pictureOf_5 ?_
      refine ka_RV (n := 1) C (cg_X0_lessonAt_151 l D F a3 a5 a6 x7 k0 a7 a8 a9 a10 a11 a12) gX6_pictureOf_X0_lessonAt rfl (by decide +kernel) ⟨Nat.le_of_ble_eq_true rfl, Nat.le_of_ble_eq_true rfl⟩ hK hP hS hE hN [1, 2] rfl [0] rfl (ci := 0) rfl rfl 1 rfl rfl hl.1 (rest := []) rfl (Nat.le_of_ble_eq_true rfl) dX6_pictureOf_8 ⟨Nat.le_of_ble_eq_true rfl, Nat.le_of_ble_eq_true rfl⟩ (fun v hv => ?_)
      subst hv
      refine ka_stk (w := [.ref a10]) rfl ?_
      refine lv_astore_n (lv' := [(3, .ref a10), (0, .ref a0), (1, .int x0), (2, .int x1)]) hx hb dX6_pictureOf_11 rfl hl (by decide) rfl (fun ls hl => ?_)
      refine lv_aload_n hx hb dX6_pictureOf_12 rfl (lv_at hl 0 rfl) ?_
      refine lv_ifnonnull (tgt := 18) hx hb dX6_pictureOf_13 (by decide) ?_
      refine lv_aload_n hx hb dX6_pictureOf_18 rfl (lv_at hl 0 rfl) ?_
      refine lv_iload_n hx hb dX6_pictureOf_19 rfl (lv_at hl 2 rfl) ?_
      refine ka_RV (n := 1) C (cg_X2_pictureAt_140 l D F a10 x0 a19 a20 x11 o3 k8 po3 ⟨by omega, by omega⟩ ho3 hpo3) gX6_pictureOf_X2_pictureAt rfl (by decide +kernel) ⟨Nat.le_of_ble_eq_true rfl, Nat.le_of_ble_eq_true rfl⟩ hK hP hS hE hN [12, 14] rfl [8] rfl (ci := 2) rfl rfl 12 rfl rfl hl.1 (rest := []) rfl (Nat.le_of_ble_eq_true rfl) dX6_pictureOf_20 ⟨Nat.le_of_ble_eq_true rfl, Nat.le_of_ble_eq_true rfl⟩ (fun v hv => ?_)
      obtain ⟨o_21197, rfl, ho_21197⟩ := hv
      refine ka_stk (w := [va_rf o_21197]) rfl ?_
      refine kb_astore (lv' := [(4, va_rf o_21197), (3, .ref a10), (0, .ref a0), (1, .int x0), (2, .int x1)]) hx hb dX6_pictureOf_23 hl (by decide) (by first | rfl | simp [kb_rfc]) (fun ls hl => ?_)
      refine kb_aload hx hb dX6_pictureOf_25 (lv_at hl 0 rfl) ?_
      refine kb_ifnonnull (tgt := 32) hx hb dX6_pictureOf_27 (by decide) (fun fa_21198 hfa_21198 => ?_) (fun hfa_21198 => ?_)
      · have Ffa_21198 : F fa_21198 := ho_21197 fa_21198 hfa_21198
        refine lv_iload_n hx hb dX6_pictureOf_32 rfl (lv_at hl 4 rfl) ?_
        refine lv_tableOut (tgt := 104) hx hb dX6_pictureOf_33 (by omega) (by decide) ?_
        refine lv_iconst (v := (-1)) hx hb dX6_pictureOf_104 (by decide) ?_
        exact ka_rRi C hr hlk ⟨_, rfl⟩ dX6_pictureOf_105
      · skip
        refine lv_iconst (v := (-1)) hx hb dX6_pictureOf_30 (by decide) ?_
        exact ka_rRi C hr hlk ⟨_, rfl⟩ dX6_pictureOf_31
  · obtain rfl : x2 = 4 := (ka_eq' _ _).mpr (y_21129.trans (by decide))
    rcases (show x1.toInt ≤ -1 ∨ x1.toInt = 0 ∨ x1.toInt = 1 ∨ x1.toInt = 2 ∨ 3 ≤ x1.toInt by omega) with y_21199 | y_21199 | y_21199 | y_21199 | y_21199
    · skip
      refine lv_aload_n hx hb dX6_pictureOf_0 rfl (lv_at hl 0 rfl) ?_
      refine ka_get C lq_213 rfl hK hP 0 rfl 2 (by decide) lq_214 rfl dX6_pictureOf_1 ?_
      refine lv_aload_n hx hb dX6_pictureOf_4 rfl (lv_at hl 0 rfl) ?_
      refine ka_get C lq_213 rfl hK hP 0 rfl 4 (by decide) lq_215 rfl dX6_pictureOf_5 ?_
      refine ka_RV (n := 1) C (cg_X0_lessonAt_153 l D F a3 a5 a6 x7 k0 a7 a8 a9 a10 a11 a12) gX6_pictureOf_X0_lessonAt rfl (by decide +kernel) ⟨Nat.le_of_ble_eq_true rfl, Nat.le_of_ble_eq_true rfl⟩ hK hP hS hE hN [1, 2] rfl [0] rfl (ci := 0) rfl rfl 1 rfl rfl hl.1 (rest := []) rfl (Nat.le_of_ble_eq_true rfl) dX6_pictureOf_8 ⟨Nat.le_of_ble_eq_true rfl, Nat.le_of_ble_eq_true rfl⟩ (fun v hv => ?_)
      subst hv
      refine ka_stk (w := [.ref a11]) rfl ?_
      refine lv_astore_n (lv' := [(3, .ref a11), (0, .ref a0), (1, .int x0), (2, .int x1)]) hx hb dX6_pictureOf_11 rfl hl (by decide) rfl (fun ls hl => ?_)
      refine lv_aload_n hx hb dX6_pictureOf_12 rfl (lv_at hl 0 rfl) ?_
      refine lv_ifnonnull (tgt := 18) hx hb dX6_pictureOf_13 (by decide) ?_
      refine lv_aload_n hx hb dX6_pictureOf_18 rfl (lv_at hl 0 rfl) ?_
      refine lv_iload_n hx hb dX6_pictureOf_19 rfl (lv_at hl 2 rfl) ?_
      refine ka_RV (n := 1) C (cg_X2_pictureAt_140 l D F a11 x0 a21 a22 x12 o4 k10 po4 ⟨by omega, by omega⟩ ho4 hpo4) gX6_pictureOf_X2_pictureAt rfl (by decide +kernel) ⟨Nat.le_of_ble_eq_true rfl, Nat.le_of_ble_eq_true rfl⟩ hK hP hS hE hN [15, 17] rfl [10] rfl (ci := 2) rfl rfl 15 rfl rfl hl.1 (rest := []) rfl (Nat.le_of_ble_eq_true rfl) dX6_pictureOf_20 ⟨Nat.le_of_ble_eq_true rfl, Nat.le_of_ble_eq_true rfl⟩ (fun v hv => ?_)
      obtain ⟨o_21200, rfl, ho_21200⟩ := hv
      refine ka_stk (w := [va_rf o_21200]) rfl ?_
      refine kb_astore (lv' := [(4, va_rf o_21200), (3, .ref a11), (0, .ref a0), (1, .int x0), (2, .int x1)]) hx hb dX6_pictureOf_23 hl (by decide) (by first | rfl | simp [kb_rfc]) (fun ls hl => ?_)
      refine kb_aload hx hb dX6_pictureOf_25 (lv_at hl 0 rfl) ?_
      refine kb_ifnonnull (tgt := 32) hx hb dX6_pictureOf_27 (by decide) (fun fa_21201 hfa_21201 => ?_) (fun hfa_21201 => ?_)
      · have Ffa_21201 : F fa_21201 := ho_21200 fa_21201 hfa_21201
        refine lv_iload_n hx hb dX6_pictureOf_32 rfl (lv_at hl 4 rfl) ?_
        refine lv_tableOut (tgt := 104) hx hb dX6_pictureOf_33 (by omega) (by decide) ?_
        refine lv_iconst (v := (-1)) hx hb dX6_pictureOf_104 (by decide) ?_
        exact ka_rRi C hr hlk ⟨_, rfl⟩ dX6_pictureOf_105
      · skip
        refine lv_iconst (v := (-1)) hx hb dX6_pictureOf_30 (by decide) ?_
        exact ka_rRi C hr hlk ⟨_, rfl⟩ dX6_pictureOf_31
    · obtain rfl : x1 = 0 := (ka_eq' _ _).mpr (y_21199.trans (by decide))
      refine lv_aload_n hx hb dX6_pictureOf_0 rfl (lv_at hl 0 rfl) ?_
      refine ka_get C lq_213 rfl hK hP 0 rfl 2 (by decide) lq_214 rfl dX6_pictureOf_1 ?_
      refine lv_aload_n hx hb dX6_pictureOf_4 rfl (lv_at hl 0 rfl) ?_
      refine ka_get C lq_213 rfl hK hP 0 rfl 4 (by decide) lq_215 rfl dX6_pictureOf_5 ?_
      refine ka_RV (n := 1) C (cg_X0_lessonAt_153 l D F a3 a5 a6 x7 k0 a7 a8 a9 a10 a11 a12) gX6_pictureOf_X0_lessonAt rfl (by decide +kernel) ⟨Nat.le_of_ble_eq_true rfl, Nat.le_of_ble_eq_true rfl⟩ hK hP hS hE hN [1, 2] rfl [0] rfl (ci := 0) rfl rfl 1 rfl rfl hl.1 (rest := []) rfl (Nat.le_of_ble_eq_true rfl) dX6_pictureOf_8 ⟨Nat.le_of_ble_eq_true rfl, Nat.le_of_ble_eq_true rfl⟩ (fun v hv => ?_)
      subst hv
      refine ka_stk (w := [.ref a11]) rfl ?_
      refine lv_astore_n (lv' := [(3, .ref a11), (0, .ref a0), (1, .int x0), (2, .int 0)]) hx hb dX6_pictureOf_11 rfl hl (by decide) rfl (fun ls hl => ?_)
      refine lv_aload_n hx hb dX6_pictureOf_12 rfl (lv_at hl 0 rfl) ?_
      refine lv_ifnonnull (tgt := 18) hx hb dX6_pictureOf_13 (by decide) ?_
      refine lv_aload_n hx hb dX6_pictureOf_18 rfl (lv_at hl 0 rfl) ?_
      refine lv_iload_n hx hb dX6_pictureOf_19 rfl (lv_at hl 2 rfl) ?_
      refine ka_RV (n := 1) C (cg_X2_pictureAt_140 l D F a11 x0 a21 a22 x12 o4 k10 po4 ⟨by omega, by omega⟩ ho4 hpo4) gX6_pictureOf_X2_pictureAt rfl (by decide +kernel) ⟨Nat.le_of_ble_eq_true rfl, Nat.le_of_ble_eq_true rfl⟩ hK hP hS hE hN [15, 17] rfl [10] rfl (ci := 2) rfl rfl 15 rfl rfl hl.1 (rest := []) rfl (Nat.le_of_ble_eq_true rfl) dX6_pictureOf_20 ⟨Nat.le_of_ble_eq_true rfl, Nat.le_of_ble_eq_true rfl⟩ (fun v hv => ?_)
      obtain ⟨o_21202, rfl, ho_21202⟩ := hv
      refine ka_stk (w := [va_rf o_21202]) rfl ?_
      refine kb_astore (lv' := [(4, va_rf o_21202), (3, .ref a11), (0, .ref a0), (1, .int x0), (2, .int 0)]) hx hb dX6_pictureOf_23 hl (by decide) (by first | rfl | simp [kb_rfc]) (fun ls hl => ?_)
      refine kb_aload hx hb dX6_pictureOf_25 (lv_at hl 0 rfl) ?_
      refine kb_ifnonnull (tgt := 32) hx hb dX6_pictureOf_27 (by decide) (fun fa_21203 hfa_21203 => ?_) (fun hfa_21203 => ?_)
      · have Ffa_21203 : F fa_21203 := ho_21202 fa_21203 hfa_21203
        refine lv_iload_n hx hb dX6_pictureOf_32 rfl (lv_at hl 4 rfl) ?_
        refine lv_tableIn (off := 27) (tgt := 60) hx hb dX6_pictureOf_33 (by decide) (by decide) (by decide) (by decide) ?_
        refine lv_aload_n hx hb dX6_pictureOf_60 rfl (lv_at hl 2 rfl) ?_
        refine ka_get C lq_213 rfl hK hP 0 rfl 3 (by decide) lq_216 rfl dX6_pictureOf_61 ?_
        refine kb_aload hx hb dX6_pictureOf_64 (lv_at hl 0 rfl) ?_
        refine ka_top (w := .ref fa_21203) (by rw [hfa_21203]; rfl) ?_
        obtain ⟨tru_21204, txu_21204, kku_21204, nnu_21204, ffu_21204, hnu_21204, hPu_21204, hKu_21204, -, -⟩ := (ka_FP_kept hE.2 hS.2.1) fa_21203 Ffa_21203
        refine ka_get C lq_217 rfl hKu_21204 hPu_21204 0 rfl 0 (by decide) lq_218 rfl dX6_pictureOf_66 ?_
        have rtru_21204 := ka_rng tru_21204
        refine ka_RV (n := 1) C (cg_X4_slipsOf_15 l D F a4 tru_21204 a25 a26 a27 x14 x15 x16 x17 x18 x19 k13 f6 k14 f7 ⟨by omega, by omega⟩) gX6_pictureOf_X4_slipsOf rfl (by decide +kernel) ⟨Nat.le_of_ble_eq_true rfl, Nat.le_of_ble_eq_true rfl⟩ hK hP hS hE hN [21, 22, 23] rfl [13, 14] rfl (ci := 4) rfl rfl 21 rfl rfl hl.1 (rest := []) rfl (Nat.le_of_ble_eq_true rfl) dX6_pictureOf_69 ⟨Nat.le_of_ble_eq_true rfl, Nat.le_of_ble_eq_true rfl⟩ (fun v hv => ?_)
        obtain ⟨v_21205, rfl⟩ := hv
        have rv_21205 := ka_rng v_21205
        refine ka_stk (w := [.int v_21205]) rfl ?_
        exact ka_rRi C hr hlk ⟨_, rfl⟩ dX6_pictureOf_72
      · skip
        refine lv_iconst (v := (-1)) hx hb dX6_pictureOf_30 (by decide) ?_
        exact ka_rRi C hr hlk ⟨_, rfl⟩ dX6_pictureOf_31
    · obtain rfl : x1 = 1 := (ka_eq' _ _).mpr (y_21199.trans (by decide))
      refine lv_aload_n hx hb dX6_pictureOf_0 rfl (lv_at hl 0 rfl) ?_
      refine ka_get C lq_213 rfl hK hP 0 rfl 2 (by decide) lq_214 rfl dX6_pictureOf_1 ?_
      refine lv_aload_n hx hb dX6_pictureOf_4 rfl (lv_at hl 0 rfl) ?_
      refine ka_get C lq_213 rfl hK hP 0 rfl 4 (by decide) lq_215 rfl dX6_pictureOf_5 ?_
      refine ka_RV (n := 1) C (cg_X0_lessonAt_153 l D F a3 a5 a6 x7 k0 a7 a8 a9 a10 a11 a12) gX6_pictureOf_X0_lessonAt rfl (by decide +kernel) ⟨Nat.le_of_ble_eq_true rfl, Nat.le_of_ble_eq_true rfl⟩ hK hP hS hE hN [1, 2] rfl [0] rfl (ci := 0) rfl rfl 1 rfl rfl hl.1 (rest := []) rfl (Nat.le_of_ble_eq_true rfl) dX6_pictureOf_8 ⟨Nat.le_of_ble_eq_true rfl, Nat.le_of_ble_eq_true rfl⟩ (fun v hv => ?_)
      subst hv
      refine ka_stk (w := [.ref a11]) rfl ?_
      refine lv_astore_n (lv' := [(3, .ref a11), (0, .ref a0), (1, .int x0), (2, .int 1)]) hx hb dX6_pictureOf_11 rfl hl (by decide) rfl (fun ls hl => ?_)
      refine lv_aload_n hx hb dX6_pictureOf_12 rfl (lv_at hl 0 rfl) ?_
      refine lv_ifnonnull (tgt := 18) hx hb dX6_pictureOf_13 (by decide) ?_
      refine lv_aload_n hx hb dX6_pictureOf_18 rfl (lv_at hl 0 rfl) ?_
      refine lv_iload_n hx hb dX6_pictureOf_19 rfl (lv_at hl 2 rfl) ?_
      refine ka_RV (n := 1) C (cg_X2_pictureAt_140 l D F a11 x0 a21 a22 x12 o4 k10 po4 ⟨by omega, by omega⟩ ho4 hpo4) gX6_pictureOf_X2_pictureAt rfl (by decide +kernel) ⟨Nat.le_of_ble_eq_true rfl, Nat.le_of_ble_eq_true rfl⟩ hK hP hS hE hN [15, 17] rfl [10] rfl (ci := 2) rfl rfl 15 rfl rfl hl.1 (rest := []) rfl (Nat.le_of_ble_eq_true rfl) dX6_pictureOf_20 ⟨Nat.le_of_ble_eq_true rfl, Nat.le_of_ble_eq_true rfl⟩ (fun v hv => ?_)
      obtain ⟨o_21206, rfl, ho_21206⟩ := hv
      refine ka_stk (w := [va_rf o_21206]) rfl ?_
      refine kb_astore (lv' := [(4, va_rf o_21206), (3, .ref a11), (0, .ref a0), (1, .int x0), (2, .int 1)]) hx hb dX6_pictureOf_23 hl (by decide) (by first | rfl | simp [kb_rfc]) (fun ls hl => ?_)
      refine kb_aload hx hb dX6_pictureOf_25 (lv_at hl 0 rfl) ?_
      refine kb_ifnonnull (tgt := 32) hx hb dX6_pictureOf_27 (by decide) (fun fa_21207 hfa_21207 => ?_) (fun hfa_21207 => ?_)
      · have Ffa_21207 : F fa_21207 := ho_21206 fa_21207 hfa_21207
        refine lv_iload_n hx hb dX6_pictureOf_32 rfl (lv_at hl 4 rfl) ?_
        refine lv_tableIn (off := 40) (tgt := 73) hx hb dX6_pictureOf_33 (by decide) (by decide) (by decide) (by decide) ?_
        refine lv_aload_n hx hb dX6_pictureOf_73 rfl (lv_at hl 2 rfl) ?_
        refine ka_get C lq_213 rfl hK hP 0 rfl 3 (by decide) lq_216 rfl dX6_pictureOf_74 ?_
        refine kb_aload hx hb dX6_pictureOf_77 (lv_at hl 0 rfl) ?_
        refine ka_top (w := .ref fa_21207) (by rw [hfa_21207]; rfl) ?_
        obtain ⟨tru_21208, txu_21208, kku_21208, nnu_21208, ffu_21208, hnu_21208, hPu_21208, hKu_21208, -, -⟩ := (ka_FP_kept hE.2 hS.2.1) fa_21207 Ffa_21207
        refine ka_get C lq_217 rfl hKu_21208 hPu_21208 0 rfl 0 (by decide) lq_218 rfl dX6_pictureOf_79 ?_
        have rtru_21208 := ka_rng tru_21208
        refine ka_RV (n := 1) C (cg_X4_slipsOf_15 l D F a4 tru_21208 a25 a26 a27 x14 x15 x16 x17 x18 x19 k13 f6 k14 f7 ⟨by omega, by omega⟩) gX6_pictureOf_X4_slipsOf rfl (by decide +kernel) ⟨Nat.le_of_ble_eq_true rfl, Nat.le_of_ble_eq_true rfl⟩ hK hP hS hE hN [21, 22, 23] rfl [13, 14] rfl (ci := 4) rfl rfl 21 rfl rfl hl.1 (rest := []) rfl (Nat.le_of_ble_eq_true rfl) dX6_pictureOf_82 ⟨Nat.le_of_ble_eq_true rfl, Nat.le_of_ble_eq_true rfl⟩ (fun v hv => ?_)
        obtain ⟨v_21209, rfl⟩ := hv
        have rv_21209 := ka_rng v_21209
        refine ka_stk (w := [.int v_21209]) rfl ?_
        refine lv_aload_n hx hb dX6_pictureOf_85 rfl (lv_at hl 2 rfl) ?_
        refine ka_get C lq_213 rfl hK hP 0 rfl 6 (by decide) lq_219 rfl dX6_pictureOf_86 ?_
        refine lv_icmp_gt (tgt := 96) hx hb dX6_pictureOf_89 (by decide) (fun c_21210 => ?_) (fun c_21210 => ?_)
        · have c_21210 : x4.toInt < v_21209.toInt := by rw [ka_lt'] at c_21210; exact c_21210
          refine lv_iconst (v := 0) hx hb dX6_pictureOf_96 (by decide) ?_
          exact ka_rRi C hr hlk ⟨_, rfl⟩ dX6_pictureOf_97
        · have c_21210 : ¬ x4.toInt < v_21209.toInt := by rw [ka_lt'] at c_21210; exact c_21210
          refine lv_iconst (v := 1) hx hb dX6_pictureOf_92 (by decide) ?_
          refine lv_goto (tgt := 97) hx hb dX6_pictureOf_93 (by decide) ?_
          exact ka_rRi C hr hlk ⟨_, rfl⟩ dX6_pictureOf_97
      · skip
        refine lv_iconst (v := (-1)) hx hb dX6_pictureOf_30 (by decide) ?_
        exact ka_rRi C hr hlk ⟨_, rfl⟩ dX6_pictureOf_31
    · obtain rfl : x1 = 2 := (ka_eq' _ _).mpr (y_21199.trans (by decide))
      refine lv_aload_n hx hb dX6_pictureOf_0 rfl (lv_at hl 0 rfl) ?_
      refine ka_get C lq_213 rfl hK hP 0 rfl 2 (by decide) lq_214 rfl dX6_pictureOf_1 ?_
      refine lv_aload_n hx hb dX6_pictureOf_4 rfl (lv_at hl 0 rfl) ?_
      refine ka_get C lq_213 rfl hK hP 0 rfl 4 (by decide) lq_215 rfl dX6_pictureOf_5 ?_
      refine ka_RV (n := 1) C (cg_X0_lessonAt_153 l D F a3 a5 a6 x7 k0 a7 a8 a9 a10 a11 a12) gX6_pictureOf_X0_lessonAt rfl (by decide +kernel) ⟨Nat.le_of_ble_eq_true rfl, Nat.le_of_ble_eq_true rfl⟩ hK hP hS hE hN [1, 2] rfl [0] rfl (ci := 0) rfl rfl 1 rfl rfl hl.1 (rest := []) rfl (Nat.le_of_ble_eq_true rfl) dX6_pictureOf_8 ⟨Nat.le_of_ble_eq_true rfl, Nat.le_of_ble_eq_true rfl⟩ (fun v hv => ?_)
      subst hv
      refine ka_stk (w := [.ref a11]) rfl ?_
      refine lv_astore_n (lv' := [(3, .ref a11), (0, .ref a0), (1, .int x0), (2, .int 2)]) hx hb dX6_pictureOf_11 rfl hl (by decide) rfl (fun ls hl => ?_)
      refine lv_aload_n hx hb dX6_pictureOf_12 rfl (lv_at hl 0 rfl) ?_
      refine lv_ifnonnull (tgt := 18) hx hb dX6_pictureOf_13 (by decide) ?_
      refine lv_aload_n hx hb dX6_pictureOf_18 rfl (lv_at hl 0 rfl) ?_
      refine lv_iload_n hx hb dX6_pictureOf_19 rfl (lv_at hl 2 rfl) ?_
      refine ka_RV (n := 1) C (cg_X2_pictureAt_140 l D F a11 x0 a21 a22 x12 o4 k10 po4 ⟨by omega, by omega⟩ ho4 hpo4) gX6_pictureOf_X2_pictureAt rfl (by decide +kernel) ⟨Nat.le_of_ble_eq_true rfl, Nat.le_of_ble_eq_true rfl⟩ hK hP hS hE hN [15, 17] rfl [10] rfl (ci := 2) rfl rfl 15 rfl rfl hl.1 (rest := []) rfl (Nat.le_of_ble_eq_true rfl) dX6_pictureOf_20 ⟨Nat.le_of_ble_eq_true rfl, Nat.le_of_ble_eq_true rfl⟩ (fun v hv => ?_)
      obtain ⟨o_21211, rfl, ho_21211⟩ := hv
      refine ka_stk (w := [va_rf o_21211]) rfl ?_
      refine kb_astore (lv' := [(4, va_rf o_21211), (3, .ref a11), (0, .ref a0), (1, .int x0), (2, .int 2)]) hx hb dX6_pictureOf_23 hl (by decide) (by first | rfl | simp [kb_rfc]) (fun ls hl => ?_)
      refine kb_aload hx hb dX6_pictureOf_25 (lv_at hl 0 rfl) ?_
      refine kb_ifnonnull (tgt := 32) hx hb dX6_pictureOf_27 (by decide) (fun fa_21212 hfa_21212 => ?_) (fun hfa_21212 => ?_)
      · have Ffa_21212 : F fa_21212 := ho_21211 fa_21212 hfa_21212
        refine lv_iload_n hx hb dX6_pictureOf_32 rfl (lv_at hl 4 rfl) ?_
        refine lv_tableIn (off := 65) (tgt := 98) hx hb dX6_pictureOf_33 (by decide) (by decide) (by decide) (by decide) ?_
        refine lv_aload_n hx hb dX6_pictureOf_98 rfl (lv_at hl 1 rfl) ?_
        refine lv_iload_n hx hb dX6_pictureOf_99 rfl (lv_at hl 3 rfl) ?_
        refine ka_RV (n := 1) C (cg_X2_pathOf_41 l D F a11 x0 a21 a22 x12 o4 k9 f4 ⟨by omega, by omega⟩ ho4) gX6_pictureOf_X2_pathOf rfl (by decide +kernel) ⟨Nat.le_of_ble_eq_true rfl, Nat.le_of_ble_eq_true rfl⟩ hK hP hS hE hN [15, 16] rfl [9] rfl (ci := 2) rfl rfl 15 rfl rfl hl.1 (rest := []) rfl (Nat.le_of_ble_eq_true rfl) dX6_pictureOf_100 ⟨Nat.le_of_ble_eq_true rfl, Nat.le_of_ble_eq_true rfl⟩ (fun v hv => ?_)
        obtain ⟨v_21213, rfl, hv_21213⟩ := hv
        have rv_21213 := ka_rng v_21213
        refine ka_stk (w := [.int v_21213]) rfl ?_
        exact ka_rRi C hr hlk ⟨_, rfl⟩ dX6_pictureOf_103
      · skip
        refine lv_iconst (v := (-1)) hx hb dX6_pictureOf_30 (by decide) ?_
        exact ka_rRi C hr hlk ⟨_, rfl⟩ dX6_pictureOf_31
    · skip
      refine lv_aload_n hx hb dX6_pictureOf_0 rfl (lv_at hl 0 rfl) ?_
      refine ka_get C lq_213 rfl hK hP 0 rfl 2 (by decide) lq_214 rfl dX6_pictureOf_1 ?_
      refine lv_aload_n hx hb dX6_pictureOf_4 rfl (lv_at hl 0 rfl) ?_
      refine ka_get C lq_213 rfl hK hP 0 rfl 4 (by decide) lq_215 rfl dX6_pictureOf_5 ?_
      refine ka_RV (n := 1) C (cg_X0_lessonAt_153 l D F a3 a5 a6 x7 k0 a7 a8 a9 a10 a11 a12) gX6_pictureOf_X0_lessonAt rfl (by decide +kernel) ⟨Nat.le_of_ble_eq_true rfl, Nat.le_of_ble_eq_true rfl⟩ hK hP hS hE hN [1, 2] rfl [0] rfl (ci := 0) rfl rfl 1 rfl rfl hl.1 (rest := []) rfl (Nat.le_of_ble_eq_true rfl) dX6_pictureOf_8 ⟨Nat.le_of_ble_eq_true rfl, Nat.le_of_ble_eq_true rfl⟩ (fun v hv => ?_)
      subst hv
      refine ka_stk (w := [.ref a11]) rfl ?_
      refine lv_astore_n (lv' := [(3, .ref a11), (0, .ref a0), (1, .int x0), (2, .int x1)]) hx hb dX6_pictureOf_11 rfl hl (by decide) rfl (fun ls hl => ?_)
      refine lv_aload_n hx hb dX6_pictureOf_12 rfl (lv_at hl 0 rfl) ?_
      refine lv_ifnonnull (tgt := 18) hx hb dX6_pictureOf_13 (by decide) ?_
      refine lv_aload_n hx hb dX6_pictureOf_18 rfl (lv_at hl 0 rfl) ?_
      refine lv_iload_n hx hb dX6_pictureOf_19 rfl (lv_at hl 2 rfl) ?_
      refine ka_RV (n := 1) C (cg_X2_pictureAt_140 l D F a11 x0 a21 a22 x12 o4 k10 po4 ⟨by omega, by omega⟩ ho4 hpo4) gX6_pictureOf_X2_pictureAt rfl (by decide +kernel) ⟨Nat.le_of_ble_eq_true rfl, Nat.le_of_ble_eq_true rfl⟩ hK hP hS hE hN [15, 17] rfl [10] rfl (ci := 2) rfl rfl 15 rfl rfl hl.1 (rest := []) rfl (Nat.le_of_ble_eq_true rfl) dX6_pictureOf_20 ⟨Nat.le_of_ble_eq_true rfl, Nat.le_of_ble_eq_true rfl⟩ (fun v hv => ?_)
      obtain ⟨o_21214, rfl, ho_21214⟩ := hv
      refine ka_stk (w := [va_rf o_21214]) rfl ?_
      refine kb_astore (lv' := [(4, va_rf o_21214), (3, .ref a11), (0, .ref a0), (1, .int x0), (2, .int x1)]) hx hb dX6_pictureOf_23 hl (by decide) (by first | rfl | simp [kb_rfc]) (fun ls hl => ?_)
      refine kb_aload hx hb dX6_pictureOf_25 (lv_at hl 0 rfl) ?_
      refine kb_ifnonnull (tgt := 32) hx hb dX6_pictureOf_27 (by decide) (fun fa_21215 hfa_21215 => ?_) (fun hfa_21215 => ?_)
      · have Ffa_21215 : F fa_21215 := ho_21214 fa_21215 hfa_21215
        refine lv_iload_n hx hb dX6_pictureOf_32 rfl (lv_at hl 4 rfl) ?_
        refine lv_tableOut (tgt := 104) hx hb dX6_pictureOf_33 (by omega) (by decide) ?_
        refine lv_iconst (v := (-1)) hx hb dX6_pictureOf_104 (by decide) ?_
        exact ka_rRi C hr hlk ⟨_, rfl⟩ dX6_pictureOf_105
      · skip
        refine lv_iconst (v := (-1)) hx hb dX6_pictureOf_30 (by decide) ?_
        exact ka_rRi C hr hlk ⟨_, rfl⟩ dX6_pictureOf_31
  · obtain rfl : x2 = 5 := (ka_eq' _ _).mpr (y_21129.trans (by decide))
    rcases (show x1.toInt ≤ -1 ∨ x1.toInt = 0 ∨ x1.toInt = 1 ∨ x1.toInt = 2 ∨ 3 ≤ x1.toInt by omega) with y_21216 | y_21216 | y_21216 | y_21216 | y_21216
    · skip
      refine lv_aload_n hx hb dX6_pictureOf_0 rfl (lv_at hl 0 rfl) ?_
      refine ka_get C lq_213 rfl hK hP 0 rfl 2 (by decide) lq_214 rfl dX6_pictureOf_1 ?_
      refine lv_aload_n hx hb dX6_pictureOf_4 rfl (lv_at hl 0 rfl) ?_
      refine ka_get C lq_213 rfl hK hP 0 rfl 4 (by decide) lq_215 rfl dX6_pictureOf_5 ?_
      refine ka_RV (n := 1) C (cg_X0_lessonAt_155 l D F a3 a5 a6 x7 k0 a7 a8 a9 a10 a11 a12) gX6_pictureOf_X0_lessonAt rfl (by decide +kernel) ⟨Nat.le_of_ble_eq_true rfl, Nat.le_of_ble_eq_true rfl⟩ hK hP hS hE hN [1, 2] rfl [0] rfl (ci := 0) rfl rfl 1 rfl rfl hl.1 (rest := []) rfl (Nat.le_of_ble_eq_true rfl) dX6_pictureOf_8 ⟨Nat.le_of_ble_eq_true rfl, Nat.le_of_ble_eq_true rfl⟩ (fun v hv => ?_)
      subst hv
      refine ka_stk (w := [.ref a12]) rfl ?_
      refine lv_astore_n (lv' := [(3, .ref a12), (0, .ref a0), (1, .int x0), (2, .int x1)]) hx hb dX6_pictureOf_11 rfl hl (by decide) rfl (fun ls hl => ?_)
      refine lv_aload_n hx hb dX6_pictureOf_12 rfl (lv_at hl 0 rfl) ?_
      refine lv_ifnonnull (tgt := 18) hx hb dX6_pictureOf_13 (by decide) ?_
      refine lv_aload_n hx hb dX6_pictureOf_18 rfl (lv_at hl 0 rfl) ?_
      refine lv_iload_n hx hb dX6_pictureOf_19 rfl (lv_at hl 2 rfl) ?_
      refine ka_RV (n := 1) C (cg_X2_pictureAt_140 l D F a12 x0 a23 a24 x13 o5 k12 po5 ⟨by omega, by omega⟩ ho5 hpo5) gX6_pictureOf_X2_pictureAt rfl (by decide +kernel) ⟨Nat.le_of_ble_eq_true rfl, Nat.le_of_ble_eq_true rfl⟩ hK hP hS hE hN [18, 20] rfl [12] rfl (ci := 2) rfl rfl 18 rfl rfl hl.1 (rest := []) rfl (Nat.le_of_ble_eq_true rfl) dX6_pictureOf_20 ⟨Nat.le_of_ble_eq_true rfl, Nat.le_of_ble_eq_true rfl⟩ (fun v hv => ?_)
      obtain ⟨o_21217, rfl, ho_21217⟩ := hv
      refine ka_stk (w := [va_rf o_21217]) rfl ?_
      refine kb_astore (lv' := [(4, va_rf o_21217), (3, .ref a12), (0, .ref a0), (1, .int x0), (2, .int x1)]) hx hb dX6_pictureOf_23 hl (by decide) (by first | rfl | simp [kb_rfc]) (fun ls hl => ?_)
      refine kb_aload hx hb dX6_pictureOf_25 (lv_at hl 0 rfl) ?_
      refine kb_ifnonnull (tgt := 32) hx hb dX6_pictureOf_27 (by decide) (fun fa_21218 hfa_21218 => ?_) (fun hfa_21218 => ?_)
      · have Ffa_21218 : F fa_21218 := ho_21217 fa_21218 hfa_21218
        refine lv_iload_n hx hb dX6_pictureOf_32 rfl (lv_at hl 4 rfl) ?_
        refine lv_tableOut (tgt := 104) hx hb dX6_pictureOf_33 (by omega) (by decide) ?_
        refine lv_iconst (v := (-1)) hx hb dX6_pictureOf_104 (by decide) ?_
        exact ka_rRi C hr hlk ⟨_, rfl⟩ dX6_pictureOf_105
      · skip
        refine lv_iconst (v := (-1)) hx hb dX6_pictureOf_30 (by decide) ?_
        exact ka_rRi C hr hlk ⟨_, rfl⟩ dX6_pictureOf_31
    · obtain rfl : x1 = 0 := (ka_eq' _ _).mpr (y_21216.trans (by decide))
      refine lv_aload_n hx hb dX6_pictureOf_0 rfl (lv_at hl 0 rfl) ?_
      refine ka_get C lq_213 rfl hK hP 0 rfl 2 (by decide) lq_214 rfl dX6_pictureOf_1 ?_
      refine lv_aload_n hx hb dX6_pictureOf_4 rfl (lv_at hl 0 rfl) ?_
      refine ka_get C lq_213 rfl hK hP 0 rfl 4 (by decide) lq_215 rfl dX6_pictureOf_5 ?_
      refine ka_RV (n := 1) C (cg_X0_lessonAt_155 l D F a3 a5 a6 x7 k0 a7 a8 a9 a10 a11 a12) gX6_pictureOf_X0_lessonAt rfl (by decide +kernel) ⟨Nat.le_of_ble_eq_true rfl, Nat.le_of_ble_eq_true rfl⟩ hK hP hS hE hN [1, 2] rfl [0] rfl (ci := 0) rfl rfl 1 rfl rfl hl.1 (rest := []) rfl (Nat.le_of_ble_eq_true rfl) dX6_pictureOf_8 ⟨Nat.le_of_ble_eq_true rfl, Nat.le_of_ble_eq_true rfl⟩ (fun v hv => ?_)
      subst hv
      refine ka_stk (w := [.ref a12]) rfl ?_
      refine lv_astore_n (lv' := [(3, .ref a12), (0, .ref a0), (1, .int x0), (2, .int 0)]) hx hb dX6_pictureOf_11 rfl hl (by decide) rfl (fun ls hl => ?_)
      refine lv_aload_n hx hb dX6_pictureOf_12 rfl (lv_at hl 0 rfl) ?_
      refine lv_ifnonnull (tgt := 18) hx hb dX6_pictureOf_13 (by decide) ?_
      refine lv_aload_n hx hb dX6_pictureOf_18 rfl (lv_at hl 0 rfl) ?_
      refine lv_iload_n hx hb dX6_pictureOf_19 rfl (lv_at hl 2 rfl) ?_
      refine ka_RV (n := 1) C (cg_X2_pictureAt_140 l D F a12 x0 a23 a24 x13 o5 k12 po5 ⟨by omega, by omega⟩ ho5 hpo5) gX6_pictureOf_X2_pictureAt rfl (by decide +kernel) ⟨Nat.le_of_ble_eq_true rfl, Nat.le_of_ble_eq_true rfl⟩ hK hP hS hE hN [18, 20] rfl [12] rfl (ci := 2) rfl rfl 18 rfl rfl hl.1 (rest := []) rfl (Nat.le_of_ble_eq_true rfl) dX6_pictureOf_20 ⟨Nat.le_of_ble_eq_true rfl, Nat.le_of_ble_eq_true rfl⟩ (fun v hv => ?_)
      obtain ⟨o_21219, rfl, ho_21219⟩ := hv
      refine ka_stk (w := [va_rf o_21219]) rfl ?_
      refine kb_astore (lv' := [(4, va_rf o_21219), (3, .ref a12), (0, .ref a0), (1, .int x0), (2, .int 0)]) hx hb dX6_pictureOf_23 hl (by decide) (by first | rfl | simp [kb_rfc]) (fun ls hl => ?_)
      refine kb_aload hx hb dX6_pictureOf_25 (lv_at hl 0 rfl) ?_
      refine kb_ifnonnull (tgt := 32) hx hb dX6_pictureOf_27 (by decide) (fun fa_21220 hfa_21220 => ?_) (fun hfa_21220 => ?_)
      · have Ffa_21220 : F fa_21220 := ho_21219 fa_21220 hfa_21220
        refine lv_iload_n hx hb dX6_pictureOf_32 rfl (lv_at hl 4 rfl) ?_
        refine lv_tableIn (off := 27) (tgt := 60) hx hb dX6_pictureOf_33 (by decide) (by decide) (by decide) (by decide) ?_
        refine lv_aload_n hx hb dX6_pictureOf_60 rfl (lv_at hl 2 rfl) ?_
        refine ka_get C lq_213 rfl hK hP 0 rfl 3 (by decide) lq_216 rfl dX6_pictureOf_61 ?_
        refine kb_aload hx hb dX6_pictureOf_64 (lv_at hl 0 rfl) ?_
        refine ka_top (w := .ref fa_21220) (by rw [hfa_21220]; rfl) ?_
        obtain ⟨tru_21221, txu_21221, kku_21221, nnu_21221, ffu_21221, hnu_21221, hPu_21221, hKu_21221, -, -⟩ := (ka_FP_kept hE.2 hS.2.1) fa_21220 Ffa_21220
        refine ka_get C lq_217 rfl hKu_21221 hPu_21221 0 rfl 0 (by decide) lq_218 rfl dX6_pictureOf_66 ?_
        have rtru_21221 := ka_rng tru_21221
        refine ka_RV (n := 1) C (cg_X4_slipsOf_15 l D F a4 tru_21221 a25 a26 a27 x14 x15 x16 x17 x18 x19 k13 f6 k14 f7 ⟨by omega, by omega⟩) gX6_pictureOf_X4_slipsOf rfl (by decide +kernel) ⟨Nat.le_of_ble_eq_true rfl, Nat.le_of_ble_eq_true rfl⟩ hK hP hS hE hN [21, 22, 23] rfl [13, 14] rfl (ci := 4) rfl rfl 21 rfl rfl hl.1 (rest := []) rfl (Nat.le_of_ble_eq_true rfl) dX6_pictureOf_69 ⟨Nat.le_of_ble_eq_true rfl, Nat.le_of_ble_eq_true rfl⟩ (fun v hv => ?_)
        obtain ⟨v_21222, rfl⟩ := hv
        have rv_21222 := ka_rng v_21222
        refine ka_stk (w := [.int v_21222]) rfl ?_
        exact ka_rRi C hr hlk ⟨_, rfl⟩ dX6_pictureOf_72
      · skip
        refine lv_iconst (v := (-1)) hx hb dX6_pictureOf_30 (by decide) ?_
        exact ka_rRi C hr hlk ⟨_, rfl⟩ dX6_pictureOf_31
    · obtain rfl : x1 = 1 := (ka_eq' _ _).mpr (y_21216.trans (by decide))
      refine lv_aload_n hx hb dX6_pictureOf_0 rfl (lv_at hl 0 rfl) ?_
      refine ka_get C lq_213 rfl hK hP 0 rfl 2 (by decide) lq_214 rfl dX6_pictureOf_1 ?_
      refine lv_aload_n hx hb dX6_pictureOf_4 rfl (lv_at hl 0 rfl) ?_
      refine ka_get C lq_213 rfl hK hP 0 rfl 4 (by decide) lq_215 rfl dX6_pictureOf_5 ?_
      refine ka_RV (n := 1) C (cg_X0_lessonAt_155 l D F a3 a5 a6 x7 k0 a7 a8 a9 a10 a11 a12) gX6_pictureOf_X0_lessonAt rfl (by decide +kernel) ⟨Nat.le_of_ble_eq_true rfl, Nat.le_of_ble_eq_true rfl⟩ hK hP hS hE hN [1, 2] rfl [0] rfl (ci := 0) rfl rfl 1 rfl rfl hl.1 (rest := []) rfl (Nat.le_of_ble_eq_true rfl) dX6_pictureOf_8 ⟨Nat.le_of_ble_eq_true rfl, Nat.le_of_ble_eq_true rfl⟩ (fun v hv => ?_)
      subst hv
      refine ka_stk (w := [.ref a12]) rfl ?_
      refine lv_astore_n (lv' := [(3, .ref a12), (0, .ref a0), (1, .int x0), (2, .int 1)]) hx hb dX6_pictureOf_11 rfl hl (by decide) rfl (fun ls hl => ?_)
      refine lv_aload_n hx hb dX6_pictureOf_12 rfl (lv_at hl 0 rfl) ?_
      refine lv_ifnonnull (tgt := 18) hx hb dX6_pictureOf_13 (by decide) ?_
      refine lv_aload_n hx hb dX6_pictureOf_18 rfl (lv_at hl 0 rfl) ?_
      refine lv_iload_n hx hb dX6_pictureOf_19 rfl (lv_at hl 2 rfl) ?_
      refine ka_RV (n := 1) C (cg_X2_pictureAt_140 l D F a12 x0 a23 a24 x13 o5 k12 po5 ⟨by omega, by omega⟩ ho5 hpo5) gX6_pictureOf_X2_pictureAt rfl (by decide +kernel) ⟨Nat.le_of_ble_eq_true rfl, Nat.le_of_ble_eq_true rfl⟩ hK hP hS hE hN [18, 20] rfl [12] rfl (ci := 2) rfl rfl 18 rfl rfl hl.1 (rest := []) rfl (Nat.le_of_ble_eq_true rfl) dX6_pictureOf_20 ⟨Nat.le_of_ble_eq_true rfl, Nat.le_of_ble_eq_true rfl⟩ (fun v hv => ?_)
      obtain ⟨o_21223, rfl, ho_21223⟩ := hv
      refine ka_stk (w := [va_rf o_21223]) rfl ?_
      refine kb_astore (lv' := [(4, va_rf o_21223), (3, .ref a12), (0, .ref a0), (1, .int x0), (2, .int 1)]) hx hb dX6_pictureOf_23 hl (by decide) (by first | rfl | simp [kb_rfc]) (fun ls hl => ?_)
      refine kb_aload hx hb dX6_pictureOf_25 (lv_at hl 0 rfl) ?_
      refine kb_ifnonnull (tgt := 32) hx hb dX6_pictureOf_27 (by decide) (fun fa_21224 hfa_21224 => ?_) (fun hfa_21224 => ?_)
      · have Ffa_21224 : F fa_21224 := ho_21223 fa_21224 hfa_21224
        refine lv_iload_n hx hb dX6_pictureOf_32 rfl (lv_at hl 4 rfl) ?_
        refine lv_tableIn (off := 40) (tgt := 73) hx hb dX6_pictureOf_33 (by decide) (by decide) (by decide) (by decide) ?_
        refine lv_aload_n hx hb dX6_pictureOf_73 rfl (lv_at hl 2 rfl) ?_
        refine ka_get C lq_213 rfl hK hP 0 rfl 3 (by decide) lq_216 rfl dX6_pictureOf_74 ?_
        refine kb_aload hx hb dX6_pictureOf_77 (lv_at hl 0 rfl) ?_
        refine ka_top (w := .ref fa_21224) (by rw [hfa_21224]; rfl) ?_
        obtain ⟨tru_21225, txu_21225, kku_21225, nnu_21225, ffu_21225, hnu_21225, hPu_21225, hKu_21225, -, -⟩ := (ka_FP_kept hE.2 hS.2.1) fa_21224 Ffa_21224
        refine ka_get C lq_217 rfl hKu_21225 hPu_21225 0 rfl 0 (by decide) lq_218 rfl dX6_pictureOf_79 ?_
        have rtru_21225 := ka_rng tru_21225
        refine ka_RV (n := 1) C (cg_X4_slipsOf_15 l D F a4 tru_21225 a25 a26 a27 x14 x15 x16 x17 x18 x19 k13 f6 k14 f7 ⟨by omega, by omega⟩) gX6_pictureOf_X4_slipsOf rfl (by decide +kernel) ⟨Nat.le_of_ble_eq_true rfl, Nat.le_of_ble_eq_true rfl⟩ hK hP hS hE hN [21, 22, 23] rfl [13, 14] rfl (ci := 4) rfl rfl 21 rfl rfl hl.1 (rest := []) rfl (Nat.le_of_ble_eq_true rfl) dX6_pictureOf_82 ⟨Nat.le_of_ble_eq_true rfl, Nat.le_of_ble_eq_true rfl⟩ (fun v hv => ?_)
        obtain ⟨v_21226, rfl⟩ := hv
        have rv_21226 := ka_rng v_21226
        refine ka_stk (w := [.int v_21226]) rfl ?_
        refine lv_aload_n hx hb dX6_pictureOf_85 rfl (lv_at hl 2 rfl) ?_
        refine ka_get C lq_213 rfl hK hP 0 rfl 6 (by decide) lq_219 rfl dX6_pictureOf_86 ?_
        refine lv_icmp_gt (tgt := 96) hx hb dX6_pictureOf_89 (by decide) (fun c_21227 => ?_) (fun c_21227 => ?_)
        · have c_21227 : x4.toInt < v_21226.toInt := by rw [ka_lt'] at c_21227; exact c_21227
          refine lv_iconst (v := 0) hx hb dX6_pictureOf_96 (by decide) ?_
          exact ka_rRi C hr hlk ⟨_, rfl⟩ dX6_pictureOf_97
        · have c_21227 : ¬ x4.toInt < v_21226.toInt := by rw [ka_lt'] at c_21227; exact c_21227
          refine lv_iconst (v := 1) hx hb dX6_pictureOf_92 (by decide) ?_
          refine lv_goto (tgt := 97) hx hb dX6_pictureOf_93 (by decide) ?_
          exact ka_rRi C hr hlk ⟨_, rfl⟩ dX6_pictureOf_97
      · skip
        refine lv_iconst (v := (-1)) hx hb dX6_pictureOf_30 (by decide) ?_
        exact ka_rRi C hr hlk ⟨_, rfl⟩ dX6_pictureOf_31
    · obtain rfl : x1 = 2 := (ka_eq' _ _).mpr (y_21216.trans (by decide))
      refine lv_aload_n hx hb dX6_pictureOf_0 rfl (lv_at hl 0 rfl) ?_
      refine ka_get C lq_213 rfl hK hP 0 rfl 2 (by decide) lq_214 rfl dX6_pictureOf_1 ?_
      refine lv_aload_n hx hb dX6_pictureOf_4 rfl (lv_at hl 0 rfl) ?_
      refine ka_get C lq_213 rfl hK hP 0 rfl 4 (by decide) lq_215 rfl dX6_pictureOf_5 ?_
      refine ka_RV (n := 1) C (cg_X0_lessonAt_155 l D F a3 a5 a6 x7 k0 a7 a8 a9 a10 a11 a12) gX6_pictureOf_X0_lessonAt rfl (by decide +kernel) ⟨Nat.le_of_ble_eq_true rfl, Nat.le_of_ble_eq_true rfl⟩ hK hP hS hE hN [1, 2] rfl [0] rfl (ci := 0) rfl rfl 1 rfl rfl hl.1 (rest := []) rfl (Nat.le_of_ble_eq_true rfl) dX6_pictureOf_8 ⟨Nat.le_of_ble_eq_true rfl, Nat.le_of_ble_eq_true rfl⟩ (fun v hv => ?_)
      subst hv
      refine ka_stk (w := [.ref a12]) rfl ?_
      refine lv_astore_n (lv' := [(3, .ref a12), (0, .ref a0), (1, .int x0), (2, .int 2)]) hx hb dX6_pictureOf_11 rfl hl (by decide) rfl (fun ls hl => ?_)
      refine lv_aload_n hx hb dX6_pictureOf_12 rfl (lv_at hl 0 rfl) ?_
      refine lv_ifnonnull (tgt := 18) hx hb dX6_pictureOf_13 (by decide) ?_
      refine lv_aload_n hx hb dX6_pictureOf_18 rfl (lv_at hl 0 rfl) ?_
      refine lv_iload_n hx hb dX6_pictureOf_19 rfl (lv_at hl 2 rfl) ?_
      refine ka_RV (n := 1) C (cg_X2_pictureAt_140 l D F a12 x0 a23 a24 x13 o5 k12 po5 ⟨by omega, by omega⟩ ho5 hpo5) gX6_pictureOf_X2_pictureAt rfl (by decide +kernel) ⟨Nat.le_of_ble_eq_true rfl, Nat.le_of_ble_eq_true rfl⟩ hK hP hS hE hN [18, 20] rfl [12] rfl (ci := 2) rfl rfl 18 rfl rfl hl.1 (rest := []) rfl (Nat.le_of_ble_eq_true rfl) dX6_pictureOf_20 ⟨Nat.le_of_ble_eq_true rfl, Nat.le_of_ble_eq_true rfl⟩ (fun v hv => ?_)
      obtain ⟨o_21228, rfl, ho_21228⟩ := hv
      refine ka_stk (w := [va_rf o_21228]) rfl ?_
      refine kb_astore (lv' := [(4, va_rf o_21228), (3, .ref a12), (0, .ref a0), (1, .int x0), (2, .int 2)]) hx hb dX6_pictureOf_23 hl (by decide) (by first | rfl | simp [kb_rfc]) (fun ls hl => ?_)
      refine kb_aload hx hb dX6_pictureOf_25 (lv_at hl 0 rfl) ?_
      refine kb_ifnonnull (tgt := 32) hx hb dX6_pictureOf_27 (by decide) (fun fa_21229 hfa_21229 => ?_) (fun hfa_21229 => ?_)
      · have Ffa_21229 : F fa_21229 := ho_21228 fa_21229 hfa_21229
        refine lv_iload_n hx hb dX6_pictureOf_32 rfl (lv_at hl 4 rfl) ?_
        refine lv_tableIn (off := 65) (tgt := 98) hx hb dX6_pictureOf_33 (by decide) (by decide) (by decide) (by decide) ?_
        refine lv_aload_n hx hb dX6_pictureOf_98 rfl (lv_at hl 1 rfl) ?_
        refine lv_iload_n hx hb dX6_pictureOf_99 rfl (lv_at hl 3 rfl) ?_
        refine ka_RV (n := 1) C (cg_X2_pathOf_41 l D F a12 x0 a23 a24 x13 o5 k11 f5 ⟨by omega, by omega⟩ ho5) gX6_pictureOf_X2_pathOf rfl (by decide +kernel) ⟨Nat.le_of_ble_eq_true rfl, Nat.le_of_ble_eq_true rfl⟩ hK hP hS hE hN [18, 19] rfl [11] rfl (ci := 2) rfl rfl 18 rfl rfl hl.1 (rest := []) rfl (Nat.le_of_ble_eq_true rfl) dX6_pictureOf_100 ⟨Nat.le_of_ble_eq_true rfl, Nat.le_of_ble_eq_true rfl⟩ (fun v hv => ?_)
        obtain ⟨v_21230, rfl, hv_21230⟩ := hv
        have rv_21230 := ka_rng v_21230
        refine ka_stk (w := [.int v_21230]) rfl ?_
        exact ka_rRi C hr hlk ⟨_, rfl⟩ dX6_pictureOf_103
      · skip
        refine lv_iconst (v := (-1)) hx hb dX6_pictureOf_30 (by decide) ?_
        exact ka_rRi C hr hlk ⟨_, rfl⟩ dX6_pictureOf_31
    · skip
      refine lv_aload_n hx hb dX6_pictureOf_0 rfl (lv_at hl 0 rfl) ?_
      refine ka_get C lq_213 rfl hK hP 0 rfl 2 (by decide) lq_214 rfl dX6_pictureOf_1 ?_
      refine lv_aload_n hx hb dX6_pictureOf_4 rfl (lv_at hl 0 rfl) ?_
      refine ka_get C lq_213 rfl hK hP 0 rfl 4 (by decide) lq_215 rfl dX6_pictureOf_5 ?_
      refine ka_RV (n := 1) C (cg_X0_lessonAt_155 l D F a3 a5 a6 x7 k0 a7 a8 a9 a10 a11 a12) gX6_pictureOf_X0_lessonAt rfl (by decide +kernel) ⟨Nat.le_of_ble_eq_true rfl, Nat.le_of_ble_eq_true rfl⟩ hK hP hS hE hN [1, 2] rfl [0] rfl (ci := 0) rfl rfl 1 rfl rfl hl.1 (rest := []) rfl (Nat.le_of_ble_eq_true rfl) dX6_pictureOf_8 ⟨Nat.le_of_ble_eq_true rfl, Nat.le_of_ble_eq_true rfl⟩ (fun v hv => ?_)
      subst hv
      refine ka_stk (w := [.ref a12]) rfl ?_
      refine lv_astore_n (lv' := [(3, .ref a12), (0, .ref a0), (1, .int x0), (2, .int x1)]) hx hb dX6_pictureOf_11 rfl hl (by decide) rfl (fun ls hl => ?_)
      refine lv_aload_n hx hb dX6_pictureOf_12 rfl (lv_at hl 0 rfl) ?_
      refine lv_ifnonnull (tgt := 18) hx hb dX6_pictureOf_13 (by decide) ?_
      refine lv_aload_n hx hb dX6_pictureOf_18 rfl (lv_at hl 0 rfl) ?_
      refine lv_iload_n hx hb dX6_pictureOf_19 rfl (lv_at hl 2 rfl) ?_
      refine ka_RV (n := 1) C (cg_X2_pictureAt_140 l D F a12 x0 a23 a24 x13 o5 k12 po5 ⟨by omega, by omega⟩ ho5 hpo5) gX6_pictureOf_X2_pictureAt rfl (by decide +kernel) ⟨Nat.le_of_ble_eq_true rfl, Nat.le_of_ble_eq_true rfl⟩ hK hP hS hE hN [18, 20] rfl [12] rfl (ci := 2) rfl rfl 18 rfl rfl hl.1 (rest := []) rfl (Nat.le_of_ble_eq_true rfl) dX6_pictureOf_20 ⟨Nat.le_of_ble_eq_true rfl, Nat.le_of_ble_eq_true rfl⟩ (fun v hv => ?_)
      obtain ⟨o_21231, rfl, ho_21231⟩ := hv
      refine ka_stk (w := [va_rf o_21231]) rfl ?_
      refine kb_astore (lv' := [(4, va_rf o_21231), (3, .ref a12), (0, .ref a0), (1, .int x0), (2, .int x1)]) hx hb dX6_pictureOf_23 hl (by decide) (by first | rfl | simp [kb_rfc]) (fun ls hl => ?_)
      refine kb_aload hx hb dX6_pictureOf_25 (lv_at hl 0 rfl) ?_
      refine kb_ifnonnull (tgt := 32) hx hb dX6_pictureOf_27 (by decide) (fun fa_21232 hfa_21232 => ?_) (fun hfa_21232 => ?_)
      · have Ffa_21232 : F fa_21232 := ho_21231 fa_21232 hfa_21232
        refine lv_iload_n hx hb dX6_pictureOf_32 rfl (lv_at hl 4 rfl) ?_
        refine lv_tableOut (tgt := 104) hx hb dX6_pictureOf_33 (by omega) (by decide) ?_
        refine lv_iconst (v := (-1)) hx hb dX6_pictureOf_104 (by decide) ?_
        exact ka_rRi C hr hlk ⟨_, rfl⟩ dX6_pictureOf_105
      · skip
        refine lv_iconst (v := (-1)) hx hb dX6_pictureOf_30 (by decide) ?_
        exact ka_rRi C hr hlk ⟨_, rfl⟩ dX6_pictureOf_31
set_option maxHeartbeats 4000000 in
set_option maxRecDepth 100000 in
theorem cg_X4_firstUnlikeFirst_195 (l : Launch) (D : va_G) (F : Nat → Prop) (a0 : Nat) (x0 : Int32) (a1 : Nat) (a2 : Nat) (a3 : Nat) (x1 : Int32) (x2 : Int32) (x3 : Int32) (x4 : Int32) (x5 : Int32) (x6 : Int32) (k0 : ClassId) (f0 : Nat → Int32) (hx0 : 0 ≤ x0.toInt ∧ x0.toInt ≤ 31) (hx1 : 0 ≤ x1.toInt ∧ x1.toInt ≤ 10) : ka_R l D F yX4_firstUnlikeFirst wsX4_firstUnlikeFirst 1 21 [.ref a0, .int x0] [(a0, .inr (4, [.ref a1, .ref a2, .ref a3, .int x1, .int x2, .int x3, .int x4, .int x5, .int x6])), (a3, .inl (k0, 10, .inl f0))] [(k0, .int)] (fun v => ∃ x : Int32, v = some (.int x) ∧ -1 ≤ x.toInt ∧ x.toInt ≤ 9) := by
  refine ka_R_of (cc := cX4_firstUnlikeFirst) (maxL := 3) (ret := (some .int)) (by decide) rfl (Nat.le_of_ble_eq_true rfl) ?_
  intro p e s m below meth c ls C hr hlk hP hK hE hN hl
  have hS : va_S (fun _ => False) s.heap s.heap [] := va_S.rf
  have C : CallFix p m c cX4_firstUnlikeFirst 3 s [.ref a0, .int x0].toArray wsX4_firstUnlikeFirst RX4 := C
  obtain ⟨hx, hb, hml, hown, hts⟩ := id C
  have hl : lv_has ls 3 [(0, .ref a0), (1, .int x0)] := hl
  have rx0 := ka_rng x0
  have rx1 := ka_rng x1
  have rx2 := ka_rng x2
  have rx3 := ka_rng x3
  have rx4 := ka_rng x4
  have rx5 := ka_rng x5
  have rx6 := ka_rng x6
  refine lv_iconst (v := 1) hx hb dX4_firstUnlikeFirst_0 (by decide) ?_
  refine lv_istore_n (lv' := [(2, .int 1), (0, .ref a0), (1, .int x0)]) hx hb dX4_firstUnlikeFirst_1 rfl hl (by decide) rfl (fun ls hl => ?_)
  have lp_21365 : ∀ (n : Nat) (i21365_2 : Int32), (1 ≤ i21365_2.toInt ∧ i21365_2.toInt ≤ 10) → (10 - i21365_2.toInt).toNat < n → ∀ (ls : Array Slot), lv_has ls 3 [(0, .ref a0), (1, .int x0), (2, .int i21365_2)] → W p l e ({ frames := 1, cells := 0, slots := 0, locals := 21 }) s m [.ref a0, .int x0].toArray below meth c s.heap [] 0 0 (MQ below (ka_QR (fun v => ∃ x : Int32, v = some (.int x) ∧ -1 ≤ x.toInt ∧ x.toInt ≤ 9)) [.ref a0, .int x0].toArray s 0 0 (fun _ => False)) (F0 m 2 ls []) := by
    intro n
    induction n with
    | zero =>
      intro i21365_2 hi21365_2 hm
      exact absurd hm (Nat.not_lt_zero _)
    | succ n ih_21365 =>
      intro i21365_2 hi21365_2 hm ls hl
      have ri21365_2 := ka_rng i21365_2
      refine lv_iload_n hx hb dX4_firstUnlikeFirst_2 rfl (lv_at hl 2 rfl) ?_
      refine lv_aload_n hx hb dX4_firstUnlikeFirst_3 rfl (lv_at hl 0 rfl) ?_
      refine ka_get C lq_34 rfl hK hP 0 rfl 3 (by decide) lq_35 rfl dX4_firstUnlikeFirst_4 ?_
      refine lv_icmp_ge (tgt := 48) hx hb dX4_firstUnlikeFirst_7 (by decide) (fun c_21373 => ?_) (fun c_21373 => ?_)
      · have c_21373 : x1.toInt ≤ i21365_2.toInt := by rw [ka_le'] at c_21373; exact c_21373
        refine lv_iconst (v := (-1)) hx hb dX4_firstUnlikeFirst_48 (by decide) ?_
        exact ka_rRi C hr hlk ⟨_, rfl, ⟨by decide, by decide⟩⟩ dX4_firstUnlikeFirst_49
      · have c_21373 : ¬ x1.toInt ≤ i21365_2.toInt := by rw [ka_le'] at c_21373; exact c_21373
        refine lv_iload_n hx hb dX4_firstUnlikeFirst_10 rfl (lv_at hl 2 rfl) ?_
        refine lv_aload_n hx hb dX4_firstUnlikeFirst_11 rfl (lv_at hl 0 rfl) ?_
        refine ka_get C lq_34 rfl hK hP 0 rfl 2 (by decide) lq_36 rfl dX4_firstUnlikeFirst_12 ?_
        refine va_alen hx hb hK hP 1 0 rfl (ty := .int) rfl (v := 10) rfl dX4_firstUnlikeFirst_15 ?_
        refine lv_icmp_ge (tgt := 48) hx hb dX4_firstUnlikeFirst_16 (by decide) (fun c_ => absurd c_ (by rw [ka_le', show ((10 : Int32)).toInt = 10 from by decide]; omega)) (fun _ => ?_)
        refine lv_aload_n hx hb dX4_firstUnlikeFirst_19 rfl (lv_at hl 0 rfl) ?_
        refine ka_get C lq_34 rfl hK hP 0 rfl 2 (by decide) lq_36 rfl dX4_firstUnlikeFirst_20 ?_
        refine lv_iconst (v := 0) hx hb dX4_firstUnlikeFirst_23 (by decide) ?_
        refine va_iald hx hb hK hP 1 0 rfl rfl (ka_in (by decide) (by decide)) dX4_firstUnlikeFirst_24 ?_
        refine lv_topi (fun v_21374 ev_21374 => ?_)
        refine lv_aload_n hx hb dX4_firstUnlikeFirst_25 rfl (lv_at hl 0 rfl) ?_
        refine ka_get C lq_34 rfl hK hP 0 rfl 2 (by decide) lq_36 rfl dX4_firstUnlikeFirst_26 ?_
        refine lv_iload_n hx hb dX4_firstUnlikeFirst_29 rfl (lv_at hl 2 rfl) ?_
        refine va_iald hx hb hK hP 1 0 rfl rfl (ka_in (by omega) (by omega)) dX4_firstUnlikeFirst_30 ?_
        refine lv_topi (fun v_21375 ev_21375 => ?_)
        refine lv_ixor hx hb dX4_firstUnlikeFirst_31 ?_
        refine lv_topi (fun v_21376 ev_21376 => ?_)
        refine lv_iload_n hx hb dX4_firstUnlikeFirst_32 rfl (lv_at hl 1 rfl) ?_
        refine ka_RN (n := 2) C (ka_c_bitAt l D F v_21376 x0) gX4_firstUnlikeFirst_X6_bitAt_n50 rfl hN.2.2.2.2.2.2.1 lq_37 lq_38 (by decide +kernel) ⟨Nat.le_of_ble_eq_true rfl, Nat.le_of_ble_eq_true rfl⟩ hK hP hS hE hN [] rfl [] rfl rfl hl.1 (rest := []) rfl (Nat.le_of_ble_eq_true rfl) dX4_firstUnlikeFirst_33 ⟨Nat.le_of_ble_eq_true rfl, Nat.le_of_ble_eq_true rfl⟩ (fun v hv => ?_)
        subst hv
        refine ka_stk (w := .int (ka_bit v_21376 x0) :: []) rfl ?_
        refine lv_topi (fun v_21377 ev_21377 => ?_)
        have fv_21377 := ka_bit_in v_21376 x0; rw [← ev_21377] at fv_21377
        refine lv_iconst (v := 1) hx hb dX4_firstUnlikeFirst_36 (by decide) ?_
        refine lv_icmp_ne (tgt := 42) hx hb dX4_firstUnlikeFirst_37 (by decide) (fun c_21378 => ?_) (fun c_21378 => ?_)
        · have c_21378 : ¬ v_21377.toInt = 1 := by rw [ka_eq', show ((1 : Int32)).toInt = 1 from by decide] at c_21378; exact c_21378
          obtain ⟨v_21379, ev_21379⟩ : ∃ y : Int32, y = i21365_2 + 1 := ⟨_, rfl⟩
          refine lv_iinc (v := v_21379) (lv' := [(2, .int v_21379), (0, .ref a0), (1, .int x0)]) hx hb dX4_firstUnlikeFirst_42 hl (k := 2) rfl (by rw [ev_21379]; rfl) (by decide) rfl (fun ls hl => ?_)
          have fv_21379 : v_21379.toInt = i21365_2.toInt + 1 := by rw [ev_21379]; exact ka_add (x := i21365_2.toInt) (y := 1) rfl (by decide) (by omega) (by omega)
          refine lv_goto (tgt := 2) hx hb dX4_firstUnlikeFirst_45 (by decide) ?_
          exact ih_21365 v_21379 ⟨by omega, by omega⟩ (by omega) ls (lv_sub hl [1, 2, 0] rfl)
        · have c_21378 : v_21377.toInt = 1 := by rw [ka_eq', show ((1 : Int32)).toInt = 1 from by decide] at c_21378; exact c_21378
          refine lv_iload_n hx hb dX4_firstUnlikeFirst_40 rfl (lv_at hl 2 rfl) ?_
          exact ka_rRi C hr hlk ⟨_, rfl, ⟨by omega, by omega⟩⟩ dX4_firstUnlikeFirst_41
  exact lp_21365 _ 1 ⟨by decide, by decide⟩ (Nat.lt_succ_self _) ls (lv_sub hl [1, 2, 0] rfl)
theorem lq_220 : ∀ w ∈ wsX60, w ∈ wsX6_clash := by decide +kernel
theorem lq_221 : Cond.fieldLink RX6 35 "AskedBack" "talk" "LAskedBack$Talk;" ∈ wsX6_clash := by decide +kernel
set_option maxHeartbeats 4000000 in
set_option maxRecDepth 100000 in
theorem cg_X6_clash_196 (l : Launch) (D : va_G) (F : Nat → Prop) (a0 : Nat) (x0 : Int32) (a1 : Nat) (a2 : Nat) (a3 : Nat) (a4 : Nat) (x1 : Int32) (x2 : Int32) (x3 : Int32) (x4 : Int32) (x5 : Int32) (a5 : Nat) (a6 : Nat) (a7 : Nat) (x6 : Int32) (x7 : Int32) (x8 : Int32) (x9 : Int32) (x10 : Int32) (x11 : Int32) (k0 : ClassId) (f0 : Nat → Int32) (hx1 : -1 ≤ x1.toInt ∧ x1.toInt ≤ 5) (hx6 : 0 ≤ x6.toInt ∧ x6.toInt ≤ 10) : ka_R l D F yX6_clash wsX6_clash 2 43 [.ref a0, .int x0] [(a0, .inr (6, [.ref a1, .ref a2, .ref a3, .ref a4, .int x1, .int x2, .int x3, .int x4, .int x5])), (a4, .inr (4, [.ref a5, .ref a6, .ref a7, .int x6, .int x7, .int x8, .int x9, .int x10, .int x11])), (a7, .inl (k0, 10, .inl f0))] [(k0, .int)] (fun v => ∃ x : Int32, v = some (.int x) ∧ -1 ≤ x.toInt ∧ x.toInt ≤ 31) := by
  refine ka_R_of (cc := cX6_clash) (maxL := 5) (ret := (some .int)) (by decide) rfl (Nat.le_of_ble_eq_true rfl) ?_
  intro p e s m below meth c ls C hr hlk hP hK hE hN hl
  have hS : va_S (fun _ => False) s.heap s.heap [] := va_S.rf
  have C : CallFix p m c cX6_clash 5 s [.ref a0, .int x0].toArray wsX6_clash RX6 := C
  obtain ⟨hx, hb, hml, hown, hts⟩ := id C
  have hl : lv_has ls 5 [(0, .ref a0), (1, .int x0)] := hl
  have rx0 := ka_rng x0
  have rx1 := ka_rng x1
  have rx2 := ka_rng x2
  have rx3 := ka_rng x3
  have rx4 := ka_rng x4
  have rx5 := ka_rng x5
  have rx6 := ka_rng x6
  have rx7 := ka_rng x7
  have rx8 := ka_rng x8
  have rx9 := ka_rng x9
  have rx10 := ka_rng x10
  have rx11 := ka_rng x11
  rcases (show x0.toInt ≤ -1 ∨ x0.toInt = 0 ∨ x0.toInt = 1 ∨ x0.toInt = 2 ∨ 3 ≤ x0.toInt by omega) with y_21424 | y_21424 | y_21424 | y_21424 | y_21424
  · skip
    refine lv_aload_n hx hb dX6_clash_0 rfl (lv_at hl 0 rfl) ?_
    refine ka_get C lq_220 rfl hK hP 0 rfl 3 (by decide) lq_221 rfl dX6_clash_1 ?_
    refine ka_RV (n := 0) C (cg_X4_saidApart_11 l D F a4 a5 a6 a7 x6 x7 x8 x9 x10 x11 k0 f0 ⟨by omega, by omega⟩) gX6_clash_X4_saidApart rfl (by decide +kernel) ⟨Nat.le_of_ble_eq_true rfl, Nat.le_of_ble_eq_true rfl⟩ hK hP hS hE hN [1, 2] rfl [0] rfl (ci := 4) rfl rfl 1 rfl rfl hl.1 (rest := []) rfl (Nat.le_of_ble_eq_true rfl) dX6_clash_4 ⟨Nat.le_of_ble_eq_true rfl, Nat.le_of_ble_eq_true rfl⟩ (fun v hv => ?_)
    obtain ⟨v_21425, rfl⟩ := hv
    have rv_21425 := ka_rng v_21425
    refine ka_stk (w := [.int v_21425]) rfl ?_
    refine lv_istore_n (lv' := [(2, .int v_21425), (0, .ref a0), (1, .int x0)]) hx hb dX6_clash_7 rfl hl (by decide) rfl (fun ls hl => ?_)
    refine lv_iload_n hx hb dX6_clash_8 rfl (lv_at hl 0 rfl) ?_
    refine lv_if_eq (tgt := 16) hx hb dX6_clash_9 (by decide) (fun c_21426 => ?_) (fun c_21426 => ?_)
    · have c_21426 : v_21425.toInt = 0 := by rw [ka_eq', show ((0 : Int32)).toInt = 0 from by decide] at c_21426; exact c_21426
      refine lv_iconst (v := 0) hx hb dX6_clash_16 (by decide) ?_
      refine lv_istore_n (lv' := [(3, .int 0), (2, .int v_21425), (0, .ref a0), (1, .int x0)]) hx hb dX6_clash_17 rfl hl (by decide) rfl (fun ls hl => ?_)
      refine lv_iload_n hx hb dX6_clash_18 rfl (lv_at hl 0 rfl) ?_
      refine lv_if_ne (tgt := 30) hx hb dX6_clash_19 (by decide) (fun c_ => absurd (by decide) c_) (fun _ => ?_)
      refine lv_aload_n hx hb dX6_clash_22 rfl (lv_at hl 2 rfl) ?_
      refine ka_get C lq_220 rfl hK hP 0 rfl 3 (by decide) lq_221 rfl dX6_clash_23 ?_
      refine ka_RV (n := 0) C (cg_X4_saidUnlikeAnswers_12 l D F a4 a5 a6 a7 x6 x7 x8 x9 x10 x11 k0 f0 ⟨by omega, by omega⟩) gX6_clash_X4_saidUnlikeAnswers rfl (by decide +kernel) ⟨Nat.le_of_ble_eq_true rfl, Nat.le_of_ble_eq_true rfl⟩ hK hP hS hE hN [1, 2] rfl [0] rfl (ci := 4) rfl rfl 1 rfl rfl hl.1 (rest := []) rfl (Nat.le_of_ble_eq_true rfl) dX6_clash_26 ⟨Nat.le_of_ble_eq_true rfl, Nat.le_of_ble_eq_true rfl⟩ (fun v hv => ?_)
      obtain ⟨v_21427, rfl⟩ := hv
      have rv_21427 := ka_rng v_21427
      refine ka_stk (w := [.int v_21427]) rfl ?_
      refine lv_istore_n (lv' := [(2, .int v_21427), (3, .int 0), (0, .ref a0), (1, .int x0)]) hx hb dX6_clash_29 rfl hl (by decide) rfl (fun ls hl => ?_)
      refine lv_iload_n hx hb dX6_clash_30 rfl (lv_at hl 0 rfl) ?_
      refine ka_RS (n := 1) C (cg_X6_leastBit_20 l D F v_21427) gX6_clash_X6_leastBit rfl (by decide +kernel) ⟨Nat.le_of_ble_eq_true rfl, Nat.le_of_ble_eq_true rfl⟩ hK hP hS hE hN [] rfl [] rfl rfl hl.1 (rest := []) rfl (Nat.le_of_ble_eq_true rfl) dX6_clash_31 ⟨Nat.le_of_ble_eq_true rfl, Nat.le_of_ble_eq_true rfl⟩ (fun v hv => ?_)
      obtain ⟨v_21428, rfl, hv_21428⟩ := hv
      have rv_21428 := ka_rng v_21428
      refine ka_stk (w := [.int v_21428]) rfl ?_
      refine lv_istore (lv' := [(4, .int v_21428), (2, .int v_21427), (3, .int 0), (0, .ref a0), (1, .int x0)]) hx hb dX6_clash_34 hl (by decide) rfl (fun ls hl => ?_)
      refine lv_iload hx hb dX6_clash_36 (lv_at hl 0 rfl) ?_
      refine lv_iconst (v := (-1)) hx hb dX6_clash_38 (by decide) ?_
      refine lv_icmp_ne (tgt := 44) hx hb dX6_clash_39 (by decide) (fun c_21429 => ?_) (fun c_21429 => ?_)
      · have c_21429 : ¬ v_21428.toInt = -1 := by rw [ka_eq', show ((-1 : Int32)).toInt = -1 from by decide] at c_21429; exact c_21429
        refine lv_iload_n hx hb dX6_clash_44 rfl (lv_at hl 4 rfl) ?_
        refine lv_tableOut (tgt := 95) hx hb dX6_clash_45 (by omega) (by decide) ?_
        refine lv_iconst (v := (-1)) hx hb dX6_clash_95 (by decide) ?_
        exact ka_rRi C hr hlk ⟨_, rfl, ⟨by decide, by decide⟩⟩ dX6_clash_96
      · have c_21429 : v_21428.toInt = -1 := by rw [ka_eq', show ((-1 : Int32)).toInt = -1 from by decide] at c_21429; exact c_21429
        refine lv_iconst (v := (-1)) hx hb dX6_clash_42 (by decide) ?_
        exact ka_rRi C hr hlk ⟨_, rfl, ⟨by decide, by decide⟩⟩ dX6_clash_43
    · have c_21426 : ¬ v_21425.toInt = 0 := by rw [ka_eq', show ((0 : Int32)).toInt = 0 from by decide] at c_21426; exact c_21426
      refine lv_iconst (v := 1) hx hb dX6_clash_12 (by decide) ?_
      refine lv_goto (tgt := 17) hx hb dX6_clash_13 (by decide) ?_
      refine lv_istore_n (lv' := [(3, .int 1), (2, .int v_21425), (0, .ref a0), (1, .int x0)]) hx hb dX6_clash_17 rfl hl (by decide) rfl (fun ls hl => ?_)
      refine lv_iload_n hx hb dX6_clash_18 rfl (lv_at hl 0 rfl) ?_
      refine lv_if_ne (tgt := 30) hx hb dX6_clash_19 (by decide) (fun _ => ?_) (fun c_ => absurd c_ (by decide))
      refine lv_iload_n hx hb dX6_clash_30 rfl (lv_at hl 1 rfl) ?_
      refine ka_RS (n := 1) C (cg_X6_leastBit_20 l D F v_21425) gX6_clash_X6_leastBit rfl (by decide +kernel) ⟨Nat.le_of_ble_eq_true rfl, Nat.le_of_ble_eq_true rfl⟩ hK hP hS hE hN [] rfl [] rfl rfl hl.1 (rest := []) rfl (Nat.le_of_ble_eq_true rfl) dX6_clash_31 ⟨Nat.le_of_ble_eq_true rfl, Nat.le_of_ble_eq_true rfl⟩ (fun v hv => ?_)
      obtain ⟨v_21430, rfl, hv_21430⟩ := hv
      have rv_21430 := ka_rng v_21430
      refine ka_stk (w := [.int v_21430]) rfl ?_
      refine lv_istore (lv' := [(4, .int v_21430), (3, .int 1), (2, .int v_21425), (0, .ref a0), (1, .int x0)]) hx hb dX6_clash_34 hl (by decide) rfl (fun ls hl => ?_)
      refine lv_iload hx hb dX6_clash_36 (lv_at hl 0 rfl) ?_
      refine lv_iconst (v := (-1)) hx hb dX6_clash_38 (by decide) ?_
      refine lv_icmp_ne (tgt := 44) hx hb dX6_clash_39 (by decide) (fun c_21431 => ?_) (fun c_21431 => ?_)
      · have c_21431 : ¬ v_21430.toInt = -1 := by rw [ka_eq', show ((-1 : Int32)).toInt = -1 from by decide] at c_21431; exact c_21431
        refine lv_iload_n hx hb dX6_clash_44 rfl (lv_at hl 4 rfl) ?_
        refine lv_tableOut (tgt := 95) hx hb dX6_clash_45 (by omega) (by decide) ?_
        refine lv_iconst (v := (-1)) hx hb dX6_clash_95 (by decide) ?_
        exact ka_rRi C hr hlk ⟨_, rfl, ⟨by decide, by decide⟩⟩ dX6_clash_96
      · have c_21431 : v_21430.toInt = -1 := by rw [ka_eq', show ((-1 : Int32)).toInt = -1 from by decide] at c_21431; exact c_21431
        refine lv_iconst (v := (-1)) hx hb dX6_clash_42 (by decide) ?_
        exact ka_rRi C hr hlk ⟨_, rfl, ⟨by decide, by decide⟩⟩ dX6_clash_43
  · obtain rfl : x0 = 0 := (ka_eq' _ _).mpr (y_21424.trans (by decide))
    refine lv_aload_n hx hb dX6_clash_0 rfl (lv_at hl 0 rfl) ?_
    refine ka_get C lq_220 rfl hK hP 0 rfl 3 (by decide) lq_221 rfl dX6_clash_1 ?_
    refine ka_RV (n := 0) C (cg_X4_saidApart_11 l D F a4 a5 a6 a7 x6 x7 x8 x9 x10 x11 k0 f0 ⟨by omega, by omega⟩) gX6_clash_X4_saidApart rfl (by decide +kernel) ⟨Nat.le_of_ble_eq_true rfl, Nat.le_of_ble_eq_true rfl⟩ hK hP hS hE hN [1, 2] rfl [0] rfl (ci := 4) rfl rfl 1 rfl rfl hl.1 (rest := []) rfl (Nat.le_of_ble_eq_true rfl) dX6_clash_4 ⟨Nat.le_of_ble_eq_true rfl, Nat.le_of_ble_eq_true rfl⟩ (fun v hv => ?_)
    obtain ⟨v_21432, rfl⟩ := hv
    have rv_21432 := ka_rng v_21432
    refine ka_stk (w := [.int v_21432]) rfl ?_
    refine lv_istore_n (lv' := [(2, .int v_21432), (0, .ref a0), (1, .int 0)]) hx hb dX6_clash_7 rfl hl (by decide) rfl (fun ls hl => ?_)
    refine lv_iload_n hx hb dX6_clash_8 rfl (lv_at hl 0 rfl) ?_
    refine lv_if_eq (tgt := 16) hx hb dX6_clash_9 (by decide) (fun c_21433 => ?_) (fun c_21433 => ?_)
    · have c_21433 : v_21432.toInt = 0 := by rw [ka_eq', show ((0 : Int32)).toInt = 0 from by decide] at c_21433; exact c_21433
      refine lv_iconst (v := 0) hx hb dX6_clash_16 (by decide) ?_
      refine lv_istore_n (lv' := [(3, .int 0), (2, .int v_21432), (0, .ref a0), (1, .int 0)]) hx hb dX6_clash_17 rfl hl (by decide) rfl (fun ls hl => ?_)
      refine lv_iload_n hx hb dX6_clash_18 rfl (lv_at hl 0 rfl) ?_
      refine lv_if_ne (tgt := 30) hx hb dX6_clash_19 (by decide) (fun c_ => absurd (by decide) c_) (fun _ => ?_)
      refine lv_aload_n hx hb dX6_clash_22 rfl (lv_at hl 2 rfl) ?_
      refine ka_get C lq_220 rfl hK hP 0 rfl 3 (by decide) lq_221 rfl dX6_clash_23 ?_
      refine ka_RV (n := 0) C (cg_X4_saidUnlikeAnswers_12 l D F a4 a5 a6 a7 x6 x7 x8 x9 x10 x11 k0 f0 ⟨by omega, by omega⟩) gX6_clash_X4_saidUnlikeAnswers rfl (by decide +kernel) ⟨Nat.le_of_ble_eq_true rfl, Nat.le_of_ble_eq_true rfl⟩ hK hP hS hE hN [1, 2] rfl [0] rfl (ci := 4) rfl rfl 1 rfl rfl hl.1 (rest := []) rfl (Nat.le_of_ble_eq_true rfl) dX6_clash_26 ⟨Nat.le_of_ble_eq_true rfl, Nat.le_of_ble_eq_true rfl⟩ (fun v hv => ?_)
      obtain ⟨v_21434, rfl⟩ := hv
      have rv_21434 := ka_rng v_21434
      refine ka_stk (w := [.int v_21434]) rfl ?_
      refine lv_istore_n (lv' := [(2, .int v_21434), (3, .int 0), (0, .ref a0), (1, .int 0)]) hx hb dX6_clash_29 rfl hl (by decide) rfl (fun ls hl => ?_)
      refine lv_iload_n hx hb dX6_clash_30 rfl (lv_at hl 0 rfl) ?_
      refine ka_RS (n := 1) C (cg_X6_leastBit_20 l D F v_21434) gX6_clash_X6_leastBit rfl (by decide +kernel) ⟨Nat.le_of_ble_eq_true rfl, Nat.le_of_ble_eq_true rfl⟩ hK hP hS hE hN [] rfl [] rfl rfl hl.1 (rest := []) rfl (Nat.le_of_ble_eq_true rfl) dX6_clash_31 ⟨Nat.le_of_ble_eq_true rfl, Nat.le_of_ble_eq_true rfl⟩ (fun v hv => ?_)
      obtain ⟨v_21435, rfl, hv_21435⟩ := hv
      have rv_21435 := ka_rng v_21435
      refine ka_stk (w := [.int v_21435]) rfl ?_
      refine lv_istore (lv' := [(4, .int v_21435), (2, .int v_21434), (3, .int 0), (0, .ref a0), (1, .int 0)]) hx hb dX6_clash_34 hl (by decide) rfl (fun ls hl => ?_)
      refine lv_iload hx hb dX6_clash_36 (lv_at hl 0 rfl) ?_
      refine lv_iconst (v := (-1)) hx hb dX6_clash_38 (by decide) ?_
      refine lv_icmp_ne (tgt := 44) hx hb dX6_clash_39 (by decide) (fun c_21436 => ?_) (fun c_21436 => ?_)
      · have c_21436 : ¬ v_21435.toInt = -1 := by rw [ka_eq', show ((-1 : Int32)).toInt = -1 from by decide] at c_21436; exact c_21436
        refine lv_iload_n hx hb dX6_clash_44 rfl (lv_at hl 4 rfl) ?_
        refine lv_tableIn (off := 27) (tgt := 72) hx hb dX6_clash_45 (by decide) (by decide) (by decide) (by decide) ?_
        refine lv_iload hx hb dX6_clash_72 (lv_at hl 0 rfl) ?_
        exact ka_rRi C hr hlk ⟨_, rfl, ⟨by omega, by omega⟩⟩ dX6_clash_74
      · have c_21436 : v_21435.toInt = -1 := by rw [ka_eq', show ((-1 : Int32)).toInt = -1 from by decide] at c_21436; exact c_21436
        refine lv_iconst (v := (-1)) hx hb dX6_clash_42 (by decide) ?_
        exact ka_rRi C hr hlk ⟨_, rfl, ⟨by decide, by decide⟩⟩ dX6_clash_43
    · have c_21433 : ¬ v_21432.toInt = 0 := by rw [ka_eq', show ((0 : Int32)).toInt = 0 from by decide] at c_21433; exact c_21433
      refine lv_iconst (v := 1) hx hb dX6_clash_12 (by decide) ?_
      refine lv_goto (tgt := 17) hx hb dX6_clash_13 (by decide) ?_
      refine lv_istore_n (lv' := [(3, .int 1), (2, .int v_21432), (0, .ref a0), (1, .int 0)]) hx hb dX6_clash_17 rfl hl (by decide) rfl (fun ls hl => ?_)
      refine lv_iload_n hx hb dX6_clash_18 rfl (lv_at hl 0 rfl) ?_
      refine lv_if_ne (tgt := 30) hx hb dX6_clash_19 (by decide) (fun _ => ?_) (fun c_ => absurd c_ (by decide))
      refine lv_iload_n hx hb dX6_clash_30 rfl (lv_at hl 1 rfl) ?_
      refine ka_RS (n := 1) C (cg_X6_leastBit_20 l D F v_21432) gX6_clash_X6_leastBit rfl (by decide +kernel) ⟨Nat.le_of_ble_eq_true rfl, Nat.le_of_ble_eq_true rfl⟩ hK hP hS hE hN [] rfl [] rfl rfl hl.1 (rest := []) rfl (Nat.le_of_ble_eq_true rfl) dX6_clash_31 ⟨Nat.le_of_ble_eq_true rfl, Nat.le_of_ble_eq_true rfl⟩ (fun v hv => ?_)
      obtain ⟨v_21437, rfl, hv_21437⟩ := hv
      have rv_21437 := ka_rng v_21437
      refine ka_stk (w := [.int v_21437]) rfl ?_
      refine lv_istore (lv' := [(4, .int v_21437), (3, .int 1), (2, .int v_21432), (0, .ref a0), (1, .int 0)]) hx hb dX6_clash_34 hl (by decide) rfl (fun ls hl => ?_)
      refine lv_iload hx hb dX6_clash_36 (lv_at hl 0 rfl) ?_
      refine lv_iconst (v := (-1)) hx hb dX6_clash_38 (by decide) ?_
      refine lv_icmp_ne (tgt := 44) hx hb dX6_clash_39 (by decide) (fun c_21438 => ?_) (fun c_21438 => ?_)
      · have c_21438 : ¬ v_21437.toInt = -1 := by rw [ka_eq', show ((-1 : Int32)).toInt = -1 from by decide] at c_21438; exact c_21438
        refine lv_iload_n hx hb dX6_clash_44 rfl (lv_at hl 4 rfl) ?_
        refine lv_tableIn (off := 27) (tgt := 72) hx hb dX6_clash_45 (by decide) (by decide) (by decide) (by decide) ?_
        refine lv_iload hx hb dX6_clash_72 (lv_at hl 0 rfl) ?_
        exact ka_rRi C hr hlk ⟨_, rfl, ⟨by omega, by omega⟩⟩ dX6_clash_74
      · have c_21438 : v_21437.toInt = -1 := by rw [ka_eq', show ((-1 : Int32)).toInt = -1 from by decide] at c_21438; exact c_21438
        refine lv_iconst (v := (-1)) hx hb dX6_clash_42 (by decide) ?_
        exact ka_rRi C hr hlk ⟨_, rfl, ⟨by decide, by decide⟩⟩ dX6_clash_43
  · obtain rfl : x0 = 1 := (ka_eq' _ _).mpr (y_21424.trans (by decide))
    refine lv_aload_n hx hb dX6_clash_0 rfl (lv_at hl 0 rfl) ?_
    refine ka_get C lq_220 rfl hK hP 0 rfl 3 (by decide) lq_221 rfl dX6_clash_1 ?_
    refine ka_RV (n := 0) C (cg_X4_saidApart_11 l D F a4 a5 a6 a7 x6 x7 x8 x9 x10 x11 k0 f0 ⟨by omega, by omega⟩) gX6_clash_X4_saidApart rfl (by decide +kernel) ⟨Nat.le_of_ble_eq_true rfl, Nat.le_of_ble_eq_true rfl⟩ hK hP hS hE hN [1, 2] rfl [0] rfl (ci := 4) rfl rfl 1 rfl rfl hl.1 (rest := []) rfl (Nat.le_of_ble_eq_true rfl) dX6_clash_4 ⟨Nat.le_of_ble_eq_true rfl, Nat.le_of_ble_eq_true rfl⟩ (fun v hv => ?_)
    obtain ⟨v_21439, rfl⟩ := hv
    have rv_21439 := ka_rng v_21439
    refine ka_stk (w := [.int v_21439]) rfl ?_
    refine lv_istore_n (lv' := [(2, .int v_21439), (0, .ref a0), (1, .int 1)]) hx hb dX6_clash_7 rfl hl (by decide) rfl (fun ls hl => ?_)
    refine lv_iload_n hx hb dX6_clash_8 rfl (lv_at hl 0 rfl) ?_
    refine lv_if_eq (tgt := 16) hx hb dX6_clash_9 (by decide) (fun c_21440 => ?_) (fun c_21440 => ?_)
    · have c_21440 : v_21439.toInt = 0 := by rw [ka_eq', show ((0 : Int32)).toInt = 0 from by decide] at c_21440; exact c_21440
      refine lv_iconst (v := 0) hx hb dX6_clash_16 (by decide) ?_
      refine lv_istore_n (lv' := [(3, .int 0), (2, .int v_21439), (0, .ref a0), (1, .int 1)]) hx hb dX6_clash_17 rfl hl (by decide) rfl (fun ls hl => ?_)
      refine lv_iload_n hx hb dX6_clash_18 rfl (lv_at hl 0 rfl) ?_
      refine lv_if_ne (tgt := 30) hx hb dX6_clash_19 (by decide) (fun c_ => absurd (by decide) c_) (fun _ => ?_)
      refine lv_aload_n hx hb dX6_clash_22 rfl (lv_at hl 2 rfl) ?_
      refine ka_get C lq_220 rfl hK hP 0 rfl 3 (by decide) lq_221 rfl dX6_clash_23 ?_
      refine ka_RV (n := 0) C (cg_X4_saidUnlikeAnswers_12 l D F a4 a5 a6 a7 x6 x7 x8 x9 x10 x11 k0 f0 ⟨by omega, by omega⟩) gX6_clash_X4_saidUnlikeAnswers rfl (by decide +kernel) ⟨Nat.le_of_ble_eq_true rfl, Nat.le_of_ble_eq_true rfl⟩ hK hP hS hE hN [1, 2] rfl [0] rfl (ci := 4) rfl rfl 1 rfl rfl hl.1 (rest := []) rfl (Nat.le_of_ble_eq_true rfl) dX6_clash_26 ⟨Nat.le_of_ble_eq_true rfl, Nat.le_of_ble_eq_true rfl⟩ (fun v hv => ?_)
      obtain ⟨v_21441, rfl⟩ := hv
      have rv_21441 := ka_rng v_21441
      refine ka_stk (w := [.int v_21441]) rfl ?_
      refine lv_istore_n (lv' := [(2, .int v_21441), (3, .int 0), (0, .ref a0), (1, .int 1)]) hx hb dX6_clash_29 rfl hl (by decide) rfl (fun ls hl => ?_)
      refine lv_iload_n hx hb dX6_clash_30 rfl (lv_at hl 0 rfl) ?_
      refine ka_RS (n := 1) C (cg_X6_leastBit_20 l D F v_21441) gX6_clash_X6_leastBit rfl (by decide +kernel) ⟨Nat.le_of_ble_eq_true rfl, Nat.le_of_ble_eq_true rfl⟩ hK hP hS hE hN [] rfl [] rfl rfl hl.1 (rest := []) rfl (Nat.le_of_ble_eq_true rfl) dX6_clash_31 ⟨Nat.le_of_ble_eq_true rfl, Nat.le_of_ble_eq_true rfl⟩ (fun v hv => ?_)
      obtain ⟨v_21442, rfl, hv_21442⟩ := hv
      have rv_21442 := ka_rng v_21442
      refine ka_stk (w := [.int v_21442]) rfl ?_
      refine lv_istore (lv' := [(4, .int v_21442), (2, .int v_21441), (3, .int 0), (0, .ref a0), (1, .int 1)]) hx hb dX6_clash_34 hl (by decide) rfl (fun ls hl => ?_)
      refine lv_iload hx hb dX6_clash_36 (lv_at hl 0 rfl) ?_
      refine lv_iconst (v := (-1)) hx hb dX6_clash_38 (by decide) ?_
      refine lv_icmp_ne (tgt := 44) hx hb dX6_clash_39 (by decide) (fun c_21443 => ?_) (fun c_21443 => ?_)
      · have c_21443 : ¬ v_21442.toInt = -1 := by rw [ka_eq', show ((-1 : Int32)).toInt = -1 from by decide] at c_21443; exact c_21443
        refine lv_iload_n hx hb dX6_clash_44 rfl (lv_at hl 4 rfl) ?_
        refine lv_tableIn (off := 30) (tgt := 75) hx hb dX6_clash_45 (by decide) (by decide) (by decide) (by decide) ?_
        refine lv_iconst (v := 0) hx hb dX6_clash_75 (by decide) ?_
        exact ka_rRi C hr hlk ⟨_, rfl, ⟨by decide, by decide⟩⟩ dX6_clash_76
      · have c_21443 : v_21442.toInt = -1 := by rw [ka_eq', show ((-1 : Int32)).toInt = -1 from by decide] at c_21443; exact c_21443
        refine lv_iconst (v := (-1)) hx hb dX6_clash_42 (by decide) ?_
        exact ka_rRi C hr hlk ⟨_, rfl, ⟨by decide, by decide⟩⟩ dX6_clash_43
    · have c_21440 : ¬ v_21439.toInt = 0 := by rw [ka_eq', show ((0 : Int32)).toInt = 0 from by decide] at c_21440; exact c_21440
      refine lv_iconst (v := 1) hx hb dX6_clash_12 (by decide) ?_
      refine lv_goto (tgt := 17) hx hb dX6_clash_13 (by decide) ?_
      refine lv_istore_n (lv' := [(3, .int 1), (2, .int v_21439), (0, .ref a0), (1, .int 1)]) hx hb dX6_clash_17 rfl hl (by decide) rfl (fun ls hl => ?_)
      refine lv_iload_n hx hb dX6_clash_18 rfl (lv_at hl 0 rfl) ?_
      refine lv_if_ne (tgt := 30) hx hb dX6_clash_19 (by decide) (fun _ => ?_) (fun c_ => absurd c_ (by decide))
      refine lv_iload_n hx hb dX6_clash_30 rfl (lv_at hl 1 rfl) ?_
      refine ka_RS (n := 1) C (cg_X6_leastBit_20 l D F v_21439) gX6_clash_X6_leastBit rfl (by decide +kernel) ⟨Nat.le_of_ble_eq_true rfl, Nat.le_of_ble_eq_true rfl⟩ hK hP hS hE hN [] rfl [] rfl rfl hl.1 (rest := []) rfl (Nat.le_of_ble_eq_true rfl) dX6_clash_31 ⟨Nat.le_of_ble_eq_true rfl, Nat.le_of_ble_eq_true rfl⟩ (fun v hv => ?_)
      obtain ⟨v_21444, rfl, hv_21444⟩ := hv
      have rv_21444 := ka_rng v_21444
      refine ka_stk (w := [.int v_21444]) rfl ?_
      refine lv_istore (lv' := [(4, .int v_21444), (3, .int 1), (2, .int v_21439), (0, .ref a0), (1, .int 1)]) hx hb dX6_clash_34 hl (by decide) rfl (fun ls hl => ?_)
      refine lv_iload hx hb dX6_clash_36 (lv_at hl 0 rfl) ?_
      refine lv_iconst (v := (-1)) hx hb dX6_clash_38 (by decide) ?_
      refine lv_icmp_ne (tgt := 44) hx hb dX6_clash_39 (by decide) (fun c_21445 => ?_) (fun c_21445 => ?_)
      · have c_21445 : ¬ v_21444.toInt = -1 := by rw [ka_eq', show ((-1 : Int32)).toInt = -1 from by decide] at c_21445; exact c_21445
        refine lv_iload_n hx hb dX6_clash_44 rfl (lv_at hl 4 rfl) ?_
        refine lv_tableIn (off := 30) (tgt := 75) hx hb dX6_clash_45 (by decide) (by decide) (by decide) (by decide) ?_
        refine lv_iconst (v := 0) hx hb dX6_clash_75 (by decide) ?_
        exact ka_rRi C hr hlk ⟨_, rfl, ⟨by decide, by decide⟩⟩ dX6_clash_76
      · have c_21445 : v_21444.toInt = -1 := by rw [ka_eq', show ((-1 : Int32)).toInt = -1 from by decide] at c_21445; exact c_21445
        refine lv_iconst (v := (-1)) hx hb dX6_clash_42 (by decide) ?_
        exact ka_rRi C hr hlk ⟨_, rfl, ⟨by decide, by decide⟩⟩ dX6_clash_43
  · obtain rfl : x0 = 2 := (ka_eq' _ _).mpr (y_21424.trans (by decide))
    refine lv_aload_n hx hb dX6_clash_0 rfl (lv_at hl 0 rfl) ?_
    refine ka_get C lq_220 rfl hK hP 0 rfl 3 (by decide) lq_221 rfl dX6_clash_1 ?_
    refine ka_RV (n := 0) C (cg_X4_saidApart_11 l D F a4 a5 a6 a7 x6 x7 x8 x9 x10 x11 k0 f0 ⟨by omega, by omega⟩) gX6_clash_X4_saidApart rfl (by decide +kernel) ⟨Nat.le_of_ble_eq_true rfl, Nat.le_of_ble_eq_true rfl⟩ hK hP hS hE hN [1, 2] rfl [0] rfl (ci := 4) rfl rfl 1 rfl rfl hl.1 (rest := []) rfl (Nat.le_of_ble_eq_true rfl) dX6_clash_4 ⟨Nat.le_of_ble_eq_true rfl, Nat.le_of_ble_eq_true rfl⟩ (fun v hv => ?_)
    obtain ⟨v_21446, rfl⟩ := hv
    have rv_21446 := ka_rng v_21446
    refine ka_stk (w := [.int v_21446]) rfl ?_
    refine lv_istore_n (lv' := [(2, .int v_21446), (0, .ref a0), (1, .int 2)]) hx hb dX6_clash_7 rfl hl (by decide) rfl (fun ls hl => ?_)
    refine lv_iload_n hx hb dX6_clash_8 rfl (lv_at hl 0 rfl) ?_
    refine lv_if_eq (tgt := 16) hx hb dX6_clash_9 (by decide) (fun c_21447 => ?_) (fun c_21447 => ?_)
    · have c_21447 : v_21446.toInt = 0 := by rw [ka_eq', show ((0 : Int32)).toInt = 0 from by decide] at c_21447; exact c_21447
      refine lv_iconst (v := 0) hx hb dX6_clash_16 (by decide) ?_
      refine lv_istore_n (lv' := [(3, .int 0), (2, .int v_21446), (0, .ref a0), (1, .int 2)]) hx hb dX6_clash_17 rfl hl (by decide) rfl (fun ls hl => ?_)
      refine lv_iload_n hx hb dX6_clash_18 rfl (lv_at hl 0 rfl) ?_
      refine lv_if_ne (tgt := 30) hx hb dX6_clash_19 (by decide) (fun c_ => absurd (by decide) c_) (fun _ => ?_)
      refine lv_aload_n hx hb dX6_clash_22 rfl (lv_at hl 2 rfl) ?_
      refine ka_get C lq_220 rfl hK hP 0 rfl 3 (by decide) lq_221 rfl dX6_clash_23 ?_
      refine ka_RV (n := 0) C (cg_X4_saidUnlikeAnswers_12 l D F a4 a5 a6 a7 x6 x7 x8 x9 x10 x11 k0 f0 ⟨by omega, by omega⟩) gX6_clash_X4_saidUnlikeAnswers rfl (by decide +kernel) ⟨Nat.le_of_ble_eq_true rfl, Nat.le_of_ble_eq_true rfl⟩ hK hP hS hE hN [1, 2] rfl [0] rfl (ci := 4) rfl rfl 1 rfl rfl hl.1 (rest := []) rfl (Nat.le_of_ble_eq_true rfl) dX6_clash_26 ⟨Nat.le_of_ble_eq_true rfl, Nat.le_of_ble_eq_true rfl⟩ (fun v hv => ?_)
      obtain ⟨v_21448, rfl⟩ := hv
      have rv_21448 := ka_rng v_21448
      refine ka_stk (w := [.int v_21448]) rfl ?_
      refine lv_istore_n (lv' := [(2, .int v_21448), (3, .int 0), (0, .ref a0), (1, .int 2)]) hx hb dX6_clash_29 rfl hl (by decide) rfl (fun ls hl => ?_)
      refine lv_iload_n hx hb dX6_clash_30 rfl (lv_at hl 0 rfl) ?_
      refine ka_RS (n := 1) C (cg_X6_leastBit_20 l D F v_21448) gX6_clash_X6_leastBit rfl (by decide +kernel) ⟨Nat.le_of_ble_eq_true rfl, Nat.le_of_ble_eq_true rfl⟩ hK hP hS hE hN [] rfl [] rfl rfl hl.1 (rest := []) rfl (Nat.le_of_ble_eq_true rfl) dX6_clash_31 ⟨Nat.le_of_ble_eq_true rfl, Nat.le_of_ble_eq_true rfl⟩ (fun v hv => ?_)
      obtain ⟨v_21449, rfl, hv_21449⟩ := hv
      have rv_21449 := ka_rng v_21449
      refine ka_stk (w := [.int v_21449]) rfl ?_
      refine lv_istore (lv' := [(4, .int v_21449), (2, .int v_21448), (3, .int 0), (0, .ref a0), (1, .int 2)]) hx hb dX6_clash_34 hl (by decide) rfl (fun ls hl => ?_)
      refine lv_iload hx hb dX6_clash_36 (lv_at hl 0 rfl) ?_
      refine lv_iconst (v := (-1)) hx hb dX6_clash_38 (by decide) ?_
      refine lv_icmp_ne (tgt := 44) hx hb dX6_clash_39 (by decide) (fun c_21450 => ?_) (fun c_21450 => ?_)
      · have c_21450 : ¬ v_21449.toInt = -1 := by rw [ka_eq', show ((-1 : Int32)).toInt = -1 from by decide] at c_21450; exact c_21450
        refine lv_iload_n hx hb dX6_clash_44 rfl (lv_at hl 4 rfl) ?_
        refine lv_tableIn (off := 32) (tgt := 77) hx hb dX6_clash_45 (by decide) (by decide) (by decide) (by decide) ?_
        refine lv_iload_n hx hb dX6_clash_77 rfl (lv_at hl 2 rfl) ?_
        refine lv_if_eq (tgt := 93) hx hb dX6_clash_78 (by decide) (fun _ => ?_) (fun c_ => absurd (by decide) c_)
        refine lv_iconst (v := (-1)) hx hb dX6_clash_93 (by decide) ?_
        exact ka_rRi C hr hlk ⟨_, rfl, ⟨by decide, by decide⟩⟩ dX6_clash_94
      · have c_21450 : v_21449.toInt = -1 := by rw [ka_eq', show ((-1 : Int32)).toInt = -1 from by decide] at c_21450; exact c_21450
        refine lv_iconst (v := (-1)) hx hb dX6_clash_42 (by decide) ?_
        exact ka_rRi C hr hlk ⟨_, rfl, ⟨by decide, by decide⟩⟩ dX6_clash_43
    · have c_21447 : ¬ v_21446.toInt = 0 := by rw [ka_eq', show ((0 : Int32)).toInt = 0 from by decide] at c_21447; exact c_21447
      refine lv_iconst (v := 1) hx hb dX6_clash_12 (by decide) ?_
      refine lv_goto (tgt := 17) hx hb dX6_clash_13 (by decide) ?_
      refine lv_istore_n (lv' := [(3, .int 1), (2, .int v_21446), (0, .ref a0), (1, .int 2)]) hx hb dX6_clash_17 rfl hl (by decide) rfl (fun ls hl => ?_)
      refine lv_iload_n hx hb dX6_clash_18 rfl (lv_at hl 0 rfl) ?_
      refine lv_if_ne (tgt := 30) hx hb dX6_clash_19 (by decide) (fun _ => ?_) (fun c_ => absurd c_ (by decide))
      refine lv_iload_n hx hb dX6_clash_30 rfl (lv_at hl 1 rfl) ?_
      refine ka_RS (n := 1) C (cg_X6_leastBit_20 l D F v_21446) gX6_clash_X6_leastBit rfl (by decide +kernel) ⟨Nat.le_of_ble_eq_true rfl, Nat.le_of_ble_eq_true rfl⟩ hK hP hS hE hN [] rfl [] rfl rfl hl.1 (rest := []) rfl (Nat.le_of_ble_eq_true rfl) dX6_clash_31 ⟨Nat.le_of_ble_eq_true rfl, Nat.le_of_ble_eq_true rfl⟩ (fun v hv => ?_)
      obtain ⟨v_21451, rfl, hv_21451⟩ := hv
      have rv_21451 := ka_rng v_21451
      refine ka_stk (w := [.int v_21451]) rfl ?_
      refine lv_istore (lv' := [(4, .int v_21451), (3, .int 1), (2, .int v_21446), (0, .ref a0), (1, .int 2)]) hx hb dX6_clash_34 hl (by decide) rfl (fun ls hl => ?_)
      refine lv_iload hx hb dX6_clash_36 (lv_at hl 0 rfl) ?_
      refine lv_iconst (v := (-1)) hx hb dX6_clash_38 (by decide) ?_
      refine lv_icmp_ne (tgt := 44) hx hb dX6_clash_39 (by decide) (fun c_21452 => ?_) (fun c_21452 => ?_)
      · have c_21452 : ¬ v_21451.toInt = -1 := by rw [ka_eq', show ((-1 : Int32)).toInt = -1 from by decide] at c_21452; exact c_21452
        refine lv_iload_n hx hb dX6_clash_44 rfl (lv_at hl 4 rfl) ?_
        refine lv_tableIn (off := 32) (tgt := 77) hx hb dX6_clash_45 (by decide) (by decide) (by decide) (by decide) ?_
        refine lv_iload_n hx hb dX6_clash_77 rfl (lv_at hl 1 rfl) ?_
        refine lv_if_eq (tgt := 93) hx hb dX6_clash_78 (by decide) (fun c_ => absurd c_ (by decide)) (fun _ => ?_)
        refine lv_aload_n hx hb dX6_clash_81 rfl (lv_at hl 3 rfl) ?_
        refine ka_get C lq_220 rfl hK hP 0 rfl 3 (by decide) lq_221 rfl dX6_clash_82 ?_
        refine lv_iload hx hb dX6_clash_85 (lv_at hl 0 rfl) ?_
        refine ka_RV (n := 1) C (cg_X4_firstUnlikeFirst_195 l D F a4 v_21451 a5 a6 a7 x6 x7 x8 x9 x10 x11 k0 f0 ⟨by omega, by omega⟩ ⟨by omega, by omega⟩) gX6_clash_X4_firstUnlikeFirst rfl (by decide +kernel) ⟨Nat.le_of_ble_eq_true rfl, Nat.le_of_ble_eq_true rfl⟩ hK hP hS hE hN [1, 2] rfl [0] rfl (ci := 4) rfl rfl 1 rfl rfl hl.1 (rest := []) rfl (Nat.le_of_ble_eq_true rfl) dX6_clash_87 ⟨Nat.le_of_ble_eq_true rfl, Nat.le_of_ble_eq_true rfl⟩ (fun v hv => ?_)
        obtain ⟨v_21453, rfl, hv_21453⟩ := hv
        have rv_21453 := ka_rng v_21453
        refine ka_stk (w := [.int v_21453]) rfl ?_
        refine lv_goto (tgt := 94) hx hb dX6_clash_90 (by decide) ?_
        exact ka_rRi C hr hlk ⟨_, rfl, ⟨by omega, by omega⟩⟩ dX6_clash_94
      · have c_21452 : v_21451.toInt = -1 := by rw [ka_eq', show ((-1 : Int32)).toInt = -1 from by decide] at c_21452; exact c_21452
        refine lv_iconst (v := (-1)) hx hb dX6_clash_42 (by decide) ?_
        exact ka_rRi C hr hlk ⟨_, rfl, ⟨by decide, by decide⟩⟩ dX6_clash_43
  · skip
    refine lv_aload_n hx hb dX6_clash_0 rfl (lv_at hl 0 rfl) ?_
    refine ka_get C lq_220 rfl hK hP 0 rfl 3 (by decide) lq_221 rfl dX6_clash_1 ?_
    refine ka_RV (n := 0) C (cg_X4_saidApart_11 l D F a4 a5 a6 a7 x6 x7 x8 x9 x10 x11 k0 f0 ⟨by omega, by omega⟩) gX6_clash_X4_saidApart rfl (by decide +kernel) ⟨Nat.le_of_ble_eq_true rfl, Nat.le_of_ble_eq_true rfl⟩ hK hP hS hE hN [1, 2] rfl [0] rfl (ci := 4) rfl rfl 1 rfl rfl hl.1 (rest := []) rfl (Nat.le_of_ble_eq_true rfl) dX6_clash_4 ⟨Nat.le_of_ble_eq_true rfl, Nat.le_of_ble_eq_true rfl⟩ (fun v hv => ?_)
    obtain ⟨v_21454, rfl⟩ := hv
    have rv_21454 := ka_rng v_21454
    refine ka_stk (w := [.int v_21454]) rfl ?_
    refine lv_istore_n (lv' := [(2, .int v_21454), (0, .ref a0), (1, .int x0)]) hx hb dX6_clash_7 rfl hl (by decide) rfl (fun ls hl => ?_)
    refine lv_iload_n hx hb dX6_clash_8 rfl (lv_at hl 0 rfl) ?_
    refine lv_if_eq (tgt := 16) hx hb dX6_clash_9 (by decide) (fun c_21455 => ?_) (fun c_21455 => ?_)
    · have c_21455 : v_21454.toInt = 0 := by rw [ka_eq', show ((0 : Int32)).toInt = 0 from by decide] at c_21455; exact c_21455
      refine lv_iconst (v := 0) hx hb dX6_clash_16 (by decide) ?_
      refine lv_istore_n (lv' := [(3, .int 0), (2, .int v_21454), (0, .ref a0), (1, .int x0)]) hx hb dX6_clash_17 rfl hl (by decide) rfl (fun ls hl => ?_)
      refine lv_iload_n hx hb dX6_clash_18 rfl (lv_at hl 0 rfl) ?_
      refine lv_if_ne (tgt := 30) hx hb dX6_clash_19 (by decide) (fun c_ => absurd (by decide) c_) (fun _ => ?_)
      refine lv_aload_n hx hb dX6_clash_22 rfl (lv_at hl 2 rfl) ?_
      refine ka_get C lq_220 rfl hK hP 0 rfl 3 (by decide) lq_221 rfl dX6_clash_23 ?_
      refine ka_RV (n := 0) C (cg_X4_saidUnlikeAnswers_12 l D F a4 a5 a6 a7 x6 x7 x8 x9 x10 x11 k0 f0 ⟨by omega, by omega⟩) gX6_clash_X4_saidUnlikeAnswers rfl (by decide +kernel) ⟨Nat.le_of_ble_eq_true rfl, Nat.le_of_ble_eq_true rfl⟩ hK hP hS hE hN [1, 2] rfl [0] rfl (ci := 4) rfl rfl 1 rfl rfl hl.1 (rest := []) rfl (Nat.le_of_ble_eq_true rfl) dX6_clash_26 ⟨Nat.le_of_ble_eq_true rfl, Nat.le_of_ble_eq_true rfl⟩ (fun v hv => ?_)
      obtain ⟨v_21456, rfl⟩ := hv
      have rv_21456 := ka_rng v_21456
      refine ka_stk (w := [.int v_21456]) rfl ?_
      refine lv_istore_n (lv' := [(2, .int v_21456), (3, .int 0), (0, .ref a0), (1, .int x0)]) hx hb dX6_clash_29 rfl hl (by decide) rfl (fun ls hl => ?_)
      refine lv_iload_n hx hb dX6_clash_30 rfl (lv_at hl 0 rfl) ?_
      refine ka_RS (n := 1) C (cg_X6_leastBit_20 l D F v_21456) gX6_clash_X6_leastBit rfl (by decide +kernel) ⟨Nat.le_of_ble_eq_true rfl, Nat.le_of_ble_eq_true rfl⟩ hK hP hS hE hN [] rfl [] rfl rfl hl.1 (rest := []) rfl (Nat.le_of_ble_eq_true rfl) dX6_clash_31 ⟨Nat.le_of_ble_eq_true rfl, Nat.le_of_ble_eq_true rfl⟩ (fun v hv => ?_)
      obtain ⟨v_21457, rfl, hv_21457⟩ := hv
      have rv_21457 := ka_rng v_21457
      refine ka_stk (w := [.int v_21457]) rfl ?_
      refine lv_istore (lv' := [(4, .int v_21457), (2, .int v_21456), (3, .int 0), (0, .ref a0), (1, .int x0)]) hx hb dX6_clash_34 hl (by decide) rfl (fun ls hl => ?_)
      refine lv_iload hx hb dX6_clash_36 (lv_at hl 0 rfl) ?_
      refine lv_iconst (v := (-1)) hx hb dX6_clash_38 (by decide) ?_
      refine lv_icmp_ne (tgt := 44) hx hb dX6_clash_39 (by decide) (fun c_21458 => ?_) (fun c_21458 => ?_)
      · have c_21458 : ¬ v_21457.toInt = -1 := by rw [ka_eq', show ((-1 : Int32)).toInt = -1 from by decide] at c_21458; exact c_21458
        refine lv_iload_n hx hb dX6_clash_44 rfl (lv_at hl 4 rfl) ?_
        refine lv_tableOut (tgt := 95) hx hb dX6_clash_45 (by omega) (by decide) ?_
        refine lv_iconst (v := (-1)) hx hb dX6_clash_95 (by decide) ?_
        exact ka_rRi C hr hlk ⟨_, rfl, ⟨by decide, by decide⟩⟩ dX6_clash_96
      · have c_21458 : v_21457.toInt = -1 := by rw [ka_eq', show ((-1 : Int32)).toInt = -1 from by decide] at c_21458; exact c_21458
        refine lv_iconst (v := (-1)) hx hb dX6_clash_42 (by decide) ?_
        exact ka_rRi C hr hlk ⟨_, rfl, ⟨by decide, by decide⟩⟩ dX6_clash_43
    · have c_21455 : ¬ v_21454.toInt = 0 := by rw [ka_eq', show ((0 : Int32)).toInt = 0 from by decide] at c_21455; exact c_21455
      refine lv_iconst (v := 1) hx hb dX6_clash_12 (by decide) ?_
      refine lv_goto (tgt := 17) hx hb dX6_clash_13 (by decide) ?_
      refine lv_istore_n (lv' := [(3, .int 1), (2, .int v_21454), (0, .ref a0), (1, .int x0)]) hx hb dX6_clash_17 rfl hl (by decide) rfl (fun ls hl => ?_)
      refine lv_iload_n hx hb dX6_clash_18 rfl (lv_at hl 0 rfl) ?_
      refine lv_if_ne (tgt := 30) hx hb dX6_clash_19 (by decide) (fun _ => ?_) (fun c_ => absurd c_ (by decide))
      refine lv_iload_n hx hb dX6_clash_30 rfl (lv_at hl 1 rfl) ?_
      refine ka_RS (n := 1) C (cg_X6_leastBit_20 l D F v_21454) gX6_clash_X6_leastBit rfl (by decide +kernel) ⟨Nat.le_of_ble_eq_true rfl, Nat.le_of_ble_eq_true rfl⟩ hK hP hS hE hN [] rfl [] rfl rfl hl.1 (rest := []) rfl (Nat.le_of_ble_eq_true rfl) dX6_clash_31 ⟨Nat.le_of_ble_eq_true rfl, Nat.le_of_ble_eq_true rfl⟩ (fun v hv => ?_)
      obtain ⟨v_21459, rfl, hv_21459⟩ := hv
      have rv_21459 := ka_rng v_21459
      refine ka_stk (w := [.int v_21459]) rfl ?_
      refine lv_istore (lv' := [(4, .int v_21459), (3, .int 1), (2, .int v_21454), (0, .ref a0), (1, .int x0)]) hx hb dX6_clash_34 hl (by decide) rfl (fun ls hl => ?_)
      refine lv_iload hx hb dX6_clash_36 (lv_at hl 0 rfl) ?_
      refine lv_iconst (v := (-1)) hx hb dX6_clash_38 (by decide) ?_
      refine lv_icmp_ne (tgt := 44) hx hb dX6_clash_39 (by decide) (fun c_21460 => ?_) (fun c_21460 => ?_)
      · have c_21460 : ¬ v_21459.toInt = -1 := by rw [ka_eq', show ((-1 : Int32)).toInt = -1 from by decide] at c_21460; exact c_21460
        refine lv_iload_n hx hb dX6_clash_44 rfl (lv_at hl 4 rfl) ?_
        refine lv_tableOut (tgt := 95) hx hb dX6_clash_45 (by omega) (by decide) ?_
        refine lv_iconst (v := (-1)) hx hb dX6_clash_95 (by decide) ?_
        exact ka_rRi C hr hlk ⟨_, rfl, ⟨by decide, by decide⟩⟩ dX6_clash_96
      · have c_21460 : v_21459.toInt = -1 := by rw [ka_eq', show ((-1 : Int32)).toInt = -1 from by decide] at c_21460; exact c_21460
        refine lv_iconst (v := (-1)) hx hb dX6_clash_42 (by decide) ?_
        exact ka_rRi C hr hlk ⟨_, rfl, ⟨by decide, by decide⟩⟩ dX6_clash_43
set_option maxHeartbeats 4000000 in
set_option maxRecDepth 100000 in
theorem cg_X2_nearestToldAsLaw_197 (l : Launch) (D : va_G) (F : Nat → Prop) (a0 : Nat) (x0 : Int32) (x1 : Int32) (x2 : Int32) (a1 : Nat) (a2 : Nat) (x3 : Int32) (o0 : Option Nat) (k0 : ClassId) (f0 : Nat → Int32) (hx0 : 0 ≤ x0.toInt ∧ x0.toInt ≤ 31) (hx3 : 0 ≤ x3.toInt ∧ x3.toInt ≤ 12) (ho0 : ∀ a : Nat, o0 = some a → F a) : ka_R l D F yX2_nearestToldAsLaw wsX2_nearestToldAsLaw 2 44 [.ref a0, .int x0, .int x1, .int x2] [(a0, .inr (2, [.ref a1, .ref a2, .int x3, va_rf o0])), (a2, .inl (k0, 32, .inl f0))] [(k0, .int)] (fun v => ∃ x : Int32, v = some (.int x) ∧ -1 ≤ x.toInt ∧ x.toInt ≤ 31) := by
  refine ka_R_of (cc := cX2_nearestToldAsLaw) (maxL := 8) (ret := (some .int)) (by decide) rfl (Nat.le_of_ble_eq_true rfl) ?_
  intro p e s m below meth c ls C hr hlk hP hK hE hN hl
  have hS : va_S (fun _ => False) s.heap s.heap [] := va_S.rf
  have C : CallFix p m c cX2_nearestToldAsLaw 8 s [.ref a0, .int x0, .int x1, .int x2].toArray wsX2_nearestToldAsLaw RX2 := C
  obtain ⟨hx, hb, hml, hown, hts⟩ := id C
  have hl : lv_has ls 8 [(0, .ref a0), (1, .int x0), (2, .int x1), (3, .int x2)] := hl
  have rx0 := ka_rng x0
  have rx1 := ka_rng x1
  have rx2 := ka_rng x2
  have rx3 := ka_rng x3
  refine lv_bipush (v := 32) hx hb dX2_nearestToldAsLaw_0 (by decide) ?_
  refine lv_istore (lv' := [(4, .int 32), (0, .ref a0), (1, .int x0), (2, .int x1), (3, .int x2)]) hx hb dX2_nearestToldAsLaw_2 hl (by decide) rfl (fun ls hl => ?_)
  refine lv_iconst (v := (-1)) hx hb dX2_nearestToldAsLaw_4 (by decide) ?_
  refine lv_istore (lv' := [(5, .int (-1)), (4, .int 32), (0, .ref a0), (1, .int x0), (2, .int x1), (3, .int x2)]) hx hb dX2_nearestToldAsLaw_5 hl (by decide) rfl (fun ls hl => ?_)
  refine lv_iconst (v := 0) hx hb dX2_nearestToldAsLaw_7 (by decide) ?_
  refine lv_istore (lv' := [(6, .int 0), (5, .int (-1)), (4, .int 32), (0, .ref a0), (1, .int x0), (2, .int x1), (3, .int x2)]) hx hb dX2_nearestToldAsLaw_8 hl (by decide) rfl (fun ls hl => ?_)
  have lp_21586 : ∀ (n : Nat) (i21586_4 : Int32) (i21586_5 : Int32) (i21586_6 : Int32), (-1 ≤ i21586_5.toInt ∧ i21586_5.toInt ≤ 31) → (0 ≤ i21586_6.toInt ∧ i21586_6.toInt ≤ 32) → (32 - i21586_6.toInt).toNat < n → ∀ (ls : Array Slot), lv_has ls 8 [(0, .ref a0), (1, .int x0), (2, .int x1), (3, .int x2), (4, .int i21586_4), (5, .int i21586_5), (6, .int i21586_6)] → W p l e ({ frames := 2, cells := 0, slots := 0, locals := 44 }) s m [.ref a0, .int x0, .int x1, .int x2].toArray below meth c s.heap [] 0 0 (MQ below (ka_QR (fun v => ∃ x : Int32, v = some (.int x) ∧ -1 ≤ x.toInt ∧ x.toInt ≤ 31)) [.ref a0, .int x0, .int x1, .int x2].toArray s 0 0 (fun _ => False)) (F0 m 10 ls []) := by
    intro n
    induction n with
    | zero =>
      intro i21586_4 i21586_5 i21586_6 hi21586_5 hi21586_6 hm
      exact absurd hm (Nat.not_lt_zero _)
    | succ n ih_21586 =>
      intro i21586_4 i21586_5 i21586_6 hi21586_5 hi21586_6 hm ls hl
      have ri21586_4 := ka_rng i21586_4
      have ri21586_5 := ka_rng i21586_5
      have ri21586_6 := ka_rng i21586_6
      refine lv_iload hx hb dX2_nearestToldAsLaw_10 (lv_at hl 6 rfl) ?_
      refine lv_bipush (v := 32) hx hb dX2_nearestToldAsLaw_12 (by decide) ?_
      refine lv_icmp_ge (tgt := 66) hx hb dX2_nearestToldAsLaw_14 (by decide) (fun c_21599 => ?_) (fun c_21599 => ?_)
      · have c_21599 : 32 ≤ i21586_6.toInt := by rw [ka_le', show ((32 : Int32)).toInt = 32 from by decide] at c_21599; exact c_21599
        refine lv_iload hx hb dX2_nearestToldAsLaw_66 (lv_at hl 5 rfl) ?_
        exact ka_rRi C hr hlk ⟨_, rfl, ⟨by omega, by omega⟩⟩ dX2_nearestToldAsLaw_68
      · have c_21599 : ¬ 32 ≤ i21586_6.toInt := by rw [ka_le', show ((32 : Int32)).toInt = 32 from by decide] at c_21599; exact c_21599
        refine lv_iload hx hb dX2_nearestToldAsLaw_17 (lv_at hl 6 rfl) ?_
        refine lv_iload_n hx hb dX2_nearestToldAsLaw_19 rfl (lv_at hl 1 rfl) ?_
        refine lv_ixor hx hb dX2_nearestToldAsLaw_20 ?_
        refine lv_topi (fun v_21600 ev_21600 => ?_)
        refine ka_RS (n := 1) C (cg_J6_bitCount_0f7a4_39 l D F v_21600) gX2_nearestToldAsLaw_J6_bitCount_0f7a4 rfl (by decide +kernel) ⟨Nat.le_of_ble_eq_true rfl, Nat.le_of_ble_eq_true rfl⟩ hK hP hS hE hN [] rfl [] rfl rfl hl.1 (rest := []) rfl (Nat.le_of_ble_eq_true rfl) dX2_nearestToldAsLaw_21 ⟨Nat.le_of_ble_eq_true rfl, Nat.le_of_ble_eq_true rfl⟩ (fun v hv => ?_)
        obtain ⟨v_21601, rfl⟩ := hv
        have rv_21601 := ka_rng v_21601
        refine ka_stk (w := [.int v_21601]) rfl ?_
        refine lv_istore (lv' := [(7, .int v_21601), (0, .ref a0), (1, .int x0), (2, .int x1), (3, .int x2), (4, .int i21586_4), (5, .int i21586_5), (6, .int i21586_6)]) hx hb dX2_nearestToldAsLaw_24 hl (by decide) rfl (fun ls hl => ?_)
        refine lv_iload_n hx hb dX2_nearestToldAsLaw_26 rfl (lv_at hl 4 rfl) ?_
        refine lv_iload hx hb dX2_nearestToldAsLaw_27 (lv_at hl 7 rfl) ?_
        refine ka_RN (n := 2) C (ka_c_bitAt l D F x2 i21586_6) gX2_nearestToldAsLaw_X6_bitAt_n32 rfl hN.2.2.2.2.1 lq_141 lq_142 (by decide +kernel) ⟨Nat.le_of_ble_eq_true rfl, Nat.le_of_ble_eq_true rfl⟩ hK hP hS hE hN [] rfl [] rfl rfl hl.1 (rest := []) rfl (Nat.le_of_ble_eq_true rfl) dX2_nearestToldAsLaw_29 ⟨Nat.le_of_ble_eq_true rfl, Nat.le_of_ble_eq_true rfl⟩ (fun v hv => ?_)
        subst hv
        refine ka_stk (w := .int (ka_bit x2 i21586_6) :: []) rfl ?_
        refine lv_topi (fun v_21602 ev_21602 => ?_)
        have fv_21602 := ka_bit_in x2 i21586_6; rw [← ev_21602] at fv_21602
        refine lv_if_ne (tgt := 60) hx hb dX2_nearestToldAsLaw_32 (by decide) (fun c_21603 => ?_) (fun c_21603 => ?_)
        · have c_21603 : ¬ v_21602.toInt = 0 := by rw [ka_eq', show ((0 : Int32)).toInt = 0 from by decide] at c_21603; exact c_21603
          obtain ⟨v_21604, ev_21604⟩ : ∃ y : Int32, y = i21586_6 + 1 := ⟨_, rfl⟩
          refine lv_iinc (v := v_21604) (lv' := [(6, .int v_21604), (7, .int v_21601), (0, .ref a0), (1, .int x0), (2, .int x1), (3, .int x2), (4, .int i21586_4), (5, .int i21586_5)]) hx hb dX2_nearestToldAsLaw_60 hl (k := 7) rfl (by rw [ev_21604]; rfl) (by decide) rfl (fun ls hl => ?_)
          have fv_21604 : v_21604.toInt = i21586_6.toInt + 1 := by rw [ev_21604]; exact ka_add (x := i21586_6.toInt) (y := 1) rfl (by decide) (by omega) (by omega)
          refine lv_goto (tgt := 10) hx hb dX2_nearestToldAsLaw_63 (by decide) ?_
          exact ih_21586 i21586_4 i21586_5 v_21604 ⟨by omega, by omega⟩ ⟨by omega, by omega⟩ (by omega) ls (lv_sub hl [2, 3, 4, 5, 6, 7, 0] rfl)
        · have c_21603 : v_21602.toInt = 0 := by rw [ka_eq', show ((0 : Int32)).toInt = 0 from by decide] at c_21603; exact c_21603
          refine lv_iload hx hb dX2_nearestToldAsLaw_35 (lv_at hl 0 rfl) ?_
          refine lv_iload hx hb dX2_nearestToldAsLaw_37 (lv_at hl 5 rfl) ?_
          refine lv_icmp_ge (tgt := 60) hx hb dX2_nearestToldAsLaw_39 (by decide) (fun c_21605 => ?_) (fun c_21605 => ?_)
          · have c_21605 : i21586_4.toInt ≤ v_21601.toInt := by rw [ka_le'] at c_21605; exact c_21605
            obtain ⟨v_21606, ev_21606⟩ : ∃ y : Int32, y = i21586_6 + 1 := ⟨_, rfl⟩
            refine lv_iinc (v := v_21606) (lv' := [(6, .int v_21606), (7, .int v_21601), (0, .ref a0), (1, .int x0), (2, .int x1), (3, .int x2), (4, .int i21586_4), (5, .int i21586_5)]) hx hb dX2_nearestToldAsLaw_60 hl (k := 7) rfl (by rw [ev_21606]; rfl) (by decide) rfl (fun ls hl => ?_)
            have fv_21606 : v_21606.toInt = i21586_6.toInt + 1 := by rw [ev_21606]; exact ka_add (x := i21586_6.toInt) (y := 1) rfl (by decide) (by omega) (by omega)
            refine lv_goto (tgt := 10) hx hb dX2_nearestToldAsLaw_63 (by decide) ?_
            exact ih_21586 i21586_4 i21586_5 v_21606 ⟨by omega, by omega⟩ ⟨by omega, by omega⟩ (by omega) ls (lv_sub hl [2, 3, 4, 5, 6, 7, 0] rfl)
          · have c_21605 : ¬ i21586_4.toInt ≤ v_21601.toInt := by rw [ka_le'] at c_21605; exact c_21605
            refine lv_aload_n hx hb dX2_nearestToldAsLaw_42 rfl (lv_at hl 1 rfl) ?_
            refine lv_iload hx hb dX2_nearestToldAsLaw_43 (lv_at hl 7 rfl) ?_
            refine lv_iload_n hx hb dX2_nearestToldAsLaw_45 rfl (lv_at hl 3 rfl) ?_
            refine ka_RV (n := 2) C (cg_X2_allTellAsLaw_142 l D F a0 i21586_6 x1 a1 a2 x3 o0 k0 f0 ⟨by omega, by omega⟩ ⟨by omega, by omega⟩ ho0) gX2_nearestToldAsLaw_X2_allTellAsLaw rfl (by decide +kernel) ⟨Nat.le_of_ble_eq_true rfl, Nat.le_of_ble_eq_true rfl⟩ hK hP hS hE hN [0, 1] rfl [0] rfl (ci := 2) rfl rfl 0 rfl rfl hl.1 (rest := []) rfl (Nat.le_of_ble_eq_true rfl) dX2_nearestToldAsLaw_46 ⟨Nat.le_of_ble_eq_true rfl, Nat.le_of_ble_eq_true rfl⟩ (fun v hv => ?_)
            obtain ⟨v_21607, rfl, hv_21607⟩ := hv
            have rv_21607 := ka_rng v_21607
            refine ka_stk (w := [.int v_21607]) rfl ?_
            refine lv_if_eq (tgt := 60) hx hb dX2_nearestToldAsLaw_49 (by decide) (fun c_21608 => ?_) (fun c_21608 => ?_)
            · have c_21608 : v_21607.toInt = 0 := by rw [ka_eq', show ((0 : Int32)).toInt = 0 from by decide] at c_21608; exact c_21608
              obtain ⟨v_21609, ev_21609⟩ : ∃ y : Int32, y = i21586_6 + 1 := ⟨_, rfl⟩
              refine lv_iinc (v := v_21609) (lv' := [(6, .int v_21609), (7, .int v_21601), (0, .ref a0), (1, .int x0), (2, .int x1), (3, .int x2), (4, .int i21586_4), (5, .int i21586_5)]) hx hb dX2_nearestToldAsLaw_60 hl (k := 7) rfl (by rw [ev_21609]; rfl) (by decide) rfl (fun ls hl => ?_)
              have fv_21609 : v_21609.toInt = i21586_6.toInt + 1 := by rw [ev_21609]; exact ka_add (x := i21586_6.toInt) (y := 1) rfl (by decide) (by omega) (by omega)
              refine lv_goto (tgt := 10) hx hb dX2_nearestToldAsLaw_63 (by decide) ?_
              exact ih_21586 i21586_4 i21586_5 v_21609 ⟨by omega, by omega⟩ ⟨by omega, by omega⟩ (by omega) ls (lv_sub hl [2, 3, 4, 5, 6, 7, 0] rfl)
            · have c_21608 : ¬ v_21607.toInt = 0 := by rw [ka_eq', show ((0 : Int32)).toInt = 0 from by decide] at c_21608; exact c_21608
              refine lv_iload hx hb dX2_nearestToldAsLaw_52 (lv_at hl 0 rfl) ?_
              refine lv_istore (lv' := [(4, .int v_21601), (7, .int v_21601), (0, .ref a0), (1, .int x0), (2, .int x1), (3, .int x2), (5, .int i21586_5), (6, .int i21586_6)]) hx hb dX2_nearestToldAsLaw_54 hl (by decide) rfl (fun ls hl => ?_)
              refine lv_iload hx hb dX2_nearestToldAsLaw_56 (lv_at hl 7 rfl) ?_
              refine lv_istore (lv' := [(5, .int i21586_6), (4, .int v_21601), (7, .int v_21601), (0, .ref a0), (1, .int x0), (2, .int x1), (3, .int x2), (6, .int i21586_6)]) hx hb dX2_nearestToldAsLaw_58 hl (by decide) rfl (fun ls hl => ?_)
              obtain ⟨v_21610, ev_21610⟩ : ∃ y : Int32, y = i21586_6 + 1 := ⟨_, rfl⟩
              refine lv_iinc (v := v_21610) (lv' := [(6, .int v_21610), (5, .int i21586_6), (4, .int v_21601), (7, .int v_21601), (0, .ref a0), (1, .int x0), (2, .int x1), (3, .int x2)]) hx hb dX2_nearestToldAsLaw_60 hl (k := 7) rfl (by rw [ev_21610]; rfl) (by decide) rfl (fun ls hl => ?_)
              have fv_21610 : v_21610.toInt = i21586_6.toInt + 1 := by rw [ev_21610]; exact ka_add (x := i21586_6.toInt) (y := 1) rfl (by decide) (by omega) (by omega)
              refine lv_goto (tgt := 10) hx hb dX2_nearestToldAsLaw_63 (by decide) ?_
              exact ih_21586 v_21601 i21586_6 v_21610 ⟨by omega, by omega⟩ ⟨by omega, by omega⟩ (by omega) ls (lv_sub hl [4, 5, 6, 7, 2, 1, 0] rfl)
  exact lp_21586 _ 32 (-1) 0 ⟨by decide, by decide⟩ ⟨by decide, by decide⟩ (Nat.lt_succ_self _) ls (lv_sub hl [3, 4, 5, 6, 2, 1, 0] rfl)
theorem lq_222 : ∀ w ∈ wsX60, w ∈ wsX6_bridge := by decide +kernel
theorem lq_223 : Cond.fieldLink RX6 28 "AskedBack" "course" "LAskedBack$Course;" ∈ wsX6_bridge := by decide +kernel
theorem lq_224 : Cond.fieldLink RX6 39 "AskedBack" "begun" "I" ∈ wsX6_bridge := by decide +kernel
theorem lq_225 : Cond.fieldLink RX6 35 "AskedBack" "talk" "LAskedBack$Talk;" ∈ wsX6_bridge := by decide +kernel
theorem lq_226 : ∀ w ∈ wsX40, w ∈ wsX6_bridge := by decide +kernel
theorem lq_227 : Cond.fieldLink RX6 156 "AskedBack$Talk" "asked" "I" ∈ wsX6_bridge := by decide +kernel
set_option maxHeartbeats 4000000 in
set_option maxRecDepth 100000 in
theorem cg_X6_bridge_198 (l : Launch) (D : va_G) (F : Nat → Prop) (a0 : Nat) (x0 : Int32) (a1 : Nat) (a2 : Nat) (a3 : Nat) (a4 : Nat) (x1 : Int32) (x2 : Int32) (x3 : Int32) (x4 : Int32) (x5 : Int32) (a5 : Nat) (a6 : Nat) (x6 : Int32) (k0 : ClassId) (a7 : Nat) (a8 : Nat) (a9 : Nat) (a10 : Nat) (a11 : Nat) (a12 : Nat) (a13 : Nat) (a14 : Nat) (x7 : Int32) (o0 : Option Nat) (k1 : ClassId) (f0 : Nat → Int32) (k2 : ClassId) (po0 : Nat → Option Nat) (a15 : Nat) (a16 : Nat) (x8 : Int32) (o1 : Option Nat) (k3 : ClassId) (f1 : Nat → Int32) (k4 : ClassId) (po1 : Nat → Option Nat) (a17 : Nat) (a18 : Nat) (x9 : Int32) (o2 : Option Nat) (k5 : ClassId) (f2 : Nat → Int32) (k6 : ClassId) (po2 : Nat → Option Nat) (a19 : Nat) (a20 : Nat) (x10 : Int32) (o3 : Option Nat) (k7 : ClassId) (f3 : Nat → Int32) (k8 : ClassId) (po3 : Nat → Option Nat) (a21 : Nat) (a22 : Nat) (x11 : Int32) (o4 : Option Nat) (k9 : ClassId) (f4 : Nat → Int32) (k10 : ClassId) (po4 : Nat → Option Nat) (a23 : Nat) (a24 : Nat) (x12 : Int32) (o5 : Option Nat) (k11 : ClassId) (f5 : Nat → Int32) (k12 : ClassId) (po5 : Nat → Option Nat) (a25 : Nat) (a26 : Nat) (a27 : Nat) (x13 : Int32) (x14 : Int32) (x15 : Int32) (x16 : Int32) (x17 : Int32) (x18 : Int32) (k13 : ClassId) (f6 : Nat → Int32) (k14 : ClassId) (f7 : Nat → Int32) (hx1 : -1 ≤ x1.toInt ∧ x1.toInt ≤ 5) (hx7 : 0 ≤ x7.toInt ∧ x7.toInt ≤ 12) (ho0 : ∀ a : Nat, o0 = some a → F a) (hpo0 : ∀ (j a : Nat), po0 j = some a → F a) (hx8 : 0 ≤ x8.toInt ∧ x8.toInt ≤ 12) (ho1 : ∀ a : Nat, o1 = some a → F a) (hpo1 : ∀ (j a : Nat), po1 j = some a → F a) (hx9 : 0 ≤ x9.toInt ∧ x9.toInt ≤ 12) (ho2 : ∀ a : Nat, o2 = some a → F a) (hpo2 : ∀ (j a : Nat), po2 j = some a → F a) (hx10 : 0 ≤ x10.toInt ∧ x10.toInt ≤ 12) (ho3 : ∀ a : Nat, o3 = some a → F a) (hpo3 : ∀ (j a : Nat), po3 j = some a → F a) (hx11 : 0 ≤ x11.toInt ∧ x11.toInt ≤ 12) (ho4 : ∀ a : Nat, o4 = some a → F a) (hpo4 : ∀ (j a : Nat), po4 j = some a → F a) (hx12 : 0 ≤ x12.toInt ∧ x12.toInt ≤ 12) (ho5 : ∀ a : Nat, o5 = some a → F a) (hpo5 : ∀ (j a : Nat), po5 j = some a → F a) (hx13 : 0 ≤ x13.toInt ∧ x13.toInt ≤ 10) : ka_R l D F yX6_bridge wsX6_bridge 4 90 [.ref a0, .int x0] [(a0, .inr (6, [.ref a1, .ref a2, .ref a3, .ref a4, .int x1, .int x2, .int x3, .int x4, .int x5])), (a3, .inr (0, [.ref a5, .ref a6, .int x6])), (a5, .inl (k0, 6, .inr (.inr (.inr (.inr (va_up (va_up (va_up (va_up (va_up (va_up (fun _ => none) 0 (some a7)) 1 (some a8)) 2 (some a9)) 3 (some a10)) 4 (some a11)) 5 (some a12))))))), (a7, .inr (2, [.ref a13, .ref a14, .int x7, va_rf o0])), (a14, .inl (k1, 32, .inl f0)), (a13, .inl (k2, 12, .inr (.inr (.inr (.inr po0))))), (a8, .inr (2, [.ref a15, .ref a16, .int x8, va_rf o1])), (a16, .inl (k3, 32, .inl f1)), (a15, .inl (k4, 12, .inr (.inr (.inr (.inr po1))))), (a9, .inr (2, [.ref a17, .ref a18, .int x9, va_rf o2])), (a18, .inl (k5, 32, .inl f2)), (a17, .inl (k6, 12, .inr (.inr (.inr (.inr po2))))), (a10, .inr (2, [.ref a19, .ref a20, .int x10, va_rf o3])), (a20, .inl (k7, 32, .inl f3)), (a19, .inl (k8, 12, .inr (.inr (.inr (.inr po3))))), (a11, .inr (2, [.ref a21, .ref a22, .int x11, va_rf o4])), (a22, .inl (k9, 32, .inl f4)), (a21, .inl (k10, 12, .inr (.inr (.inr (.inr po4))))), (a12, .inr (2, [.ref a23, .ref a24, .int x12, va_rf o5])), (a24, .inl (k11, 32, .inl f5)), (a23, .inl (k12, 12, .inr (.inr (.inr (.inr po5))))), (a4, .inr (4, [.ref a25, .ref a26, .ref a27, .int x13, .int x14, .int x15, .int x16, .int x17, .int x18])), (a25, .inl (k13, 32, .inl f6)), (a26, .inl (k14, 32, .inl f7))] [(k0, .object RX2), (k1, .int), (k2, .object RX1), (k3, .int), (k4, .object RX1), (k5, .int), (k6, .object RX1), (k7, .int), (k8, .object RX1), (k9, .int), (k10, .object RX1), (k11, .int), (k12, .object RX1), (k13, .int), (k14, .int)] (fun v => ∃ x : Int32, v = some (.int x) ∧ -1 ≤ x.toInt ∧ x.toInt ≤ 31) := by
  refine ka_R_of (cc := cX6_bridge) (maxL := 3) (ret := (some .int)) (by decide) rfl (Nat.le_of_ble_eq_true rfl) ?_
  intro p e s m below meth c ls C hr hlk hP hK hE hN hl
  have hS : va_S (fun _ => False) s.heap s.heap [] := va_S.rf
  have C : CallFix p m c cX6_bridge 3 s [.ref a0, .int x0].toArray wsX6_bridge RX6 := C
  obtain ⟨hx, hb, hml, hown, hts⟩ := id C
  have hl : lv_has ls 3 [(0, .ref a0), (1, .int x0)] := hl
  have rx0 := ka_rng x0
  have rx1 := ka_rng x1
  have rx2 := ka_rng x2
  have rx3 := ka_rng x3
  have rx4 := ka_rng x4
  have rx5 := ka_rng x5
  have rx6 := ka_rng x6
  have rx7 := ka_rng x7
  have rx8 := ka_rng x8
  have rx9 := ka_rng x9
  have rx10 := ka_rng x10
  have rx11 := ka_rng x11
  have rx12 := ka_rng x12
  have rx13 := ka_rng x13
  have rx14 := ka_rng x14
  have rx15 := ka_rng x15
  have rx16 := ka_rng x16
  have rx17 := ka_rng x17
  have rx18 := ka_rng x18
  rcases (show x1.toInt = -1 ∨ x1.toInt = 0 ∨ x1.toInt = 1 ∨ x1.toInt = 2 ∨ x1.toInt = 3 ∨ x1.toInt = 4 ∨ x1.toInt = 5 by omega) with y_21634 | y_21634 | y_21634 | y_21634 | y_21634 | y_21634 | y_21634
  · obtain rfl : x1 = (-1) := (ka_eq' _ _).mpr (y_21634.trans (by decide))
    rcases (show x0.toInt ≤ -1 ∨ (0 ≤ x0.toInt ∧ x0.toInt ≤ 31) ∨ 32 ≤ x0.toInt by omega) with y_21635 | y_21635 | y_21635
    · skip
      refine lv_aload_n hx hb dX6_bridge_0 rfl (lv_at hl 0 rfl) ?_
      refine ka_get C lq_222 rfl hK hP 0 rfl 2 (by decide) lq_223 rfl dX6_bridge_1 ?_
      refine lv_aload_n hx hb dX6_bridge_4 rfl (lv_at hl 0 rfl) ?_
      refine ka_get C lq_222 rfl hK hP 0 rfl 4 (by decide) lq_224 rfl dX6_bridge_5 ?_
      refine ka_RV (n := 1) C (cg_X0_lessonAt_161 l D F a3) gX6_bridge_X0_lessonAt rfl (by decide +kernel) ⟨Nat.le_of_ble_eq_true rfl, Nat.le_of_ble_eq_true rfl⟩ hK hP hS hE hN [] rfl [] rfl (ci := 0) rfl rfl 1 rfl rfl hl.1 (rest := []) rfl (Nat.le_of_ble_eq_true rfl) dX6_bridge_8 ⟨Nat.le_of_ble_eq_true rfl, Nat.le_of_ble_eq_true rfl⟩ (fun v hv => ?_)
      subst hv
      refine ka_stk (w := [.null]) rfl ?_
      refine lv_astore_nN (lv' := [(2, .null), (0, .ref a0), (1, .int x0)]) hx hb dX6_bridge_11 rfl hl (by decide) rfl (fun ls hl => ?_)
      refine lv_aload_nN hx hb dX6_bridge_12 rfl (lv_at hl 0 rfl) ?_
      refine lv_ifnullN (tgt := 23) hx hb dX6_bridge_13 (by decide) ?_
      refine lv_iconst (v := (-1)) hx hb dX6_bridge_23 (by decide) ?_
      exact ka_rRi C hr hlk ⟨_, rfl, ⟨by decide, by decide⟩⟩ dX6_bridge_24
    · skip
      refine lv_aload_n hx hb dX6_bridge_0 rfl (lv_at hl 0 rfl) ?_
      refine ka_get C lq_222 rfl hK hP 0 rfl 2 (by decide) lq_223 rfl dX6_bridge_1 ?_
      refine lv_aload_n hx hb dX6_bridge_4 rfl (lv_at hl 0 rfl) ?_
      refine ka_get C lq_222 rfl hK hP 0 rfl 4 (by decide) lq_224 rfl dX6_bridge_5 ?_
      refine ka_RV (n := 1) C (cg_X0_lessonAt_161 l D F a3) gX6_bridge_X0_lessonAt rfl (by decide +kernel) ⟨Nat.le_of_ble_eq_true rfl, Nat.le_of_ble_eq_true rfl⟩ hK hP hS hE hN [] rfl [] rfl (ci := 0) rfl rfl 1 rfl rfl hl.1 (rest := []) rfl (Nat.le_of_ble_eq_true rfl) dX6_bridge_8 ⟨Nat.le_of_ble_eq_true rfl, Nat.le_of_ble_eq_true rfl⟩ (fun v hv => ?_)
      subst hv
      refine ka_stk (w := [.null]) rfl ?_
      refine lv_astore_nN (lv' := [(2, .null), (0, .ref a0), (1, .int x0)]) hx hb dX6_bridge_11 rfl hl (by decide) rfl (fun ls hl => ?_)
      refine lv_aload_nN hx hb dX6_bridge_12 rfl (lv_at hl 0 rfl) ?_
      refine lv_ifnullN (tgt := 23) hx hb dX6_bridge_13 (by decide) ?_
      refine lv_iconst (v := (-1)) hx hb dX6_bridge_23 (by decide) ?_
      exact ka_rRi C hr hlk ⟨_, rfl, ⟨by decide, by decide⟩⟩ dX6_bridge_24
    · skip
      refine lv_aload_n hx hb dX6_bridge_0 rfl (lv_at hl 0 rfl) ?_
      refine ka_get C lq_222 rfl hK hP 0 rfl 2 (by decide) lq_223 rfl dX6_bridge_1 ?_
      refine lv_aload_n hx hb dX6_bridge_4 rfl (lv_at hl 0 rfl) ?_
      refine ka_get C lq_222 rfl hK hP 0 rfl 4 (by decide) lq_224 rfl dX6_bridge_5 ?_
      refine ka_RV (n := 1) C (cg_X0_lessonAt_161 l D F a3) gX6_bridge_X0_lessonAt rfl (by decide +kernel) ⟨Nat.le_of_ble_eq_true rfl, Nat.le_of_ble_eq_true rfl⟩ hK hP hS hE hN [] rfl [] rfl (ci := 0) rfl rfl 1 rfl rfl hl.1 (rest := []) rfl (Nat.le_of_ble_eq_true rfl) dX6_bridge_8 ⟨Nat.le_of_ble_eq_true rfl, Nat.le_of_ble_eq_true rfl⟩ (fun v hv => ?_)
      subst hv
      refine ka_stk (w := [.null]) rfl ?_
      refine lv_astore_nN (lv' := [(2, .null), (0, .ref a0), (1, .int x0)]) hx hb dX6_bridge_11 rfl hl (by decide) rfl (fun ls hl => ?_)
      refine lv_aload_nN hx hb dX6_bridge_12 rfl (lv_at hl 0 rfl) ?_
      refine lv_ifnullN (tgt := 23) hx hb dX6_bridge_13 (by decide) ?_
      refine lv_iconst (v := (-1)) hx hb dX6_bridge_23 (by decide) ?_
      exact ka_rRi C hr hlk ⟨_, rfl, ⟨by decide, by decide⟩⟩ dX6_bridge_24
  · obtain rfl : x1 = 0 := (ka_eq' _ _).mpr (y_21634.trans (by decide))
    rcases (show x0.toInt ≤ -1 ∨ (0 ≤ x0.toInt ∧ x0.toInt ≤ 31) ∨ 32 ≤ x0.toInt by omega) with y_21636 | y_21636 | y_21636
    · skip
      refine lv_aload_n hx hb dX6_bridge_0 rfl (lv_at hl 0 rfl) ?_
      refine ka_get C lq_222 rfl hK hP 0 rfl 2 (by decide) lq_223 rfl dX6_bridge_1 ?_
      refine lv_aload_n hx hb dX6_bridge_4 rfl (lv_at hl 0 rfl) ?_
      refine ka_get C lq_222 rfl hK hP 0 rfl 4 (by decide) lq_224 rfl dX6_bridge_5 ?_
      refine ka_RV (n := 1) C (cg_X0_lessonAt_145 l D F a3 a5 a6 x6 k0 a7 a8 a9 a10 a11 a12) gX6_bridge_X0_lessonAt rfl (by decide +kernel) ⟨Nat.le_of_ble_eq_true rfl, Nat.le_of_ble_eq_true rfl⟩ hK hP hS hE hN [1, 2] rfl [0] rfl (ci := 0) rfl rfl 1 rfl rfl hl.1 (rest := []) rfl (Nat.le_of_ble_eq_true rfl) dX6_bridge_8 ⟨Nat.le_of_ble_eq_true rfl, Nat.le_of_ble_eq_true rfl⟩ (fun v hv => ?_)
      subst hv
      refine ka_stk (w := [.ref a7]) rfl ?_
      refine lv_astore_n (lv' := [(2, .ref a7), (0, .ref a0), (1, .int x0)]) hx hb dX6_bridge_11 rfl hl (by decide) rfl (fun ls hl => ?_)
      refine lv_aload_n hx hb dX6_bridge_12 rfl (lv_at hl 0 rfl) ?_
      refine lv_ifnull hx hb dX6_bridge_13 ?_
      refine lv_iload_n hx hb dX6_bridge_16 rfl (lv_at hl 2 rfl) ?_
      refine ka_RS (n := 1) C (cg_X6_isCase_5 l D F x0 (by omega)) gX6_bridge_X6_isCase rfl (by decide +kernel) ⟨Nat.le_of_ble_eq_true rfl, Nat.le_of_ble_eq_true rfl⟩ hK hP hS hE hN [] rfl [] rfl rfl hl.1 (rest := []) rfl (Nat.le_of_ble_eq_true rfl) dX6_bridge_17 ⟨Nat.le_of_ble_eq_true rfl, Nat.le_of_ble_eq_true rfl⟩ (fun v hv => ?_)
      subst hv
      refine ka_stk (w := [.int 0]) rfl ?_
      refine lv_if_ne (tgt := 25) hx hb dX6_bridge_20 (by decide) (fun c_ => absurd (by decide) c_) (fun _ => ?_)
      refine lv_iconst (v := (-1)) hx hb dX6_bridge_23 (by decide) ?_
      exact ka_rRi C hr hlk ⟨_, rfl, ⟨by decide, by decide⟩⟩ dX6_bridge_24
    · skip
      refine lv_aload_n hx hb dX6_bridge_0 rfl (lv_at hl 0 rfl) ?_
      refine ka_get C lq_222 rfl hK hP 0 rfl 2 (by decide) lq_223 rfl dX6_bridge_1 ?_
      refine lv_aload_n hx hb dX6_bridge_4 rfl (lv_at hl 0 rfl) ?_
      refine ka_get C lq_222 rfl hK hP 0 rfl 4 (by decide) lq_224 rfl dX6_bridge_5 ?_
      refine ka_RV (n := 1) C (cg_X0_lessonAt_145 l D F a3 a5 a6 x6 k0 a7 a8 a9 a10 a11 a12) gX6_bridge_X0_lessonAt rfl (by decide +kernel) ⟨Nat.le_of_ble_eq_true rfl, Nat.le_of_ble_eq_true rfl⟩ hK hP hS hE hN [1, 2] rfl [0] rfl (ci := 0) rfl rfl 1 rfl rfl hl.1 (rest := []) rfl (Nat.le_of_ble_eq_true rfl) dX6_bridge_8 ⟨Nat.le_of_ble_eq_true rfl, Nat.le_of_ble_eq_true rfl⟩ (fun v hv => ?_)
      subst hv
      refine ka_stk (w := [.ref a7]) rfl ?_
      refine lv_astore_n (lv' := [(2, .ref a7), (0, .ref a0), (1, .int x0)]) hx hb dX6_bridge_11 rfl hl (by decide) rfl (fun ls hl => ?_)
      refine lv_aload_n hx hb dX6_bridge_12 rfl (lv_at hl 0 rfl) ?_
      refine lv_ifnull hx hb dX6_bridge_13 ?_
      refine lv_iload_n hx hb dX6_bridge_16 rfl (lv_at hl 2 rfl) ?_
      refine ka_RS (n := 1) C (cg_X6_isCase_6 l D F x0 ⟨by omega, by omega⟩) gX6_bridge_X6_isCase rfl (by decide +kernel) ⟨Nat.le_of_ble_eq_true rfl, Nat.le_of_ble_eq_true rfl⟩ hK hP hS hE hN [] rfl [] rfl rfl hl.1 (rest := []) rfl (Nat.le_of_ble_eq_true rfl) dX6_bridge_17 ⟨Nat.le_of_ble_eq_true rfl, Nat.le_of_ble_eq_true rfl⟩ (fun v hv => ?_)
      subst hv
      refine ka_stk (w := [.int 1]) rfl ?_
      refine lv_if_ne (tgt := 25) hx hb dX6_bridge_20 (by decide) (fun _ => ?_) (fun c_ => absurd c_ (by decide))
      refine lv_aload_n hx hb dX6_bridge_25 rfl (lv_at hl 0 rfl) ?_
      refine lv_iload_n hx hb dX6_bridge_26 rfl (lv_at hl 2 rfl) ?_
      refine lv_aload_n hx hb dX6_bridge_27 rfl (lv_at hl 1 rfl) ?_
      refine lv_aload_n hx hb dX6_bridge_28 rfl (lv_at hl 0 rfl) ?_
      refine ka_RV (n := 1) C (cg_X6_leftOf_190 l D F a0 a7 a1 a2 a3 a4 0 x2 x3 x4 x5 a13 a14 x7 o0 k2 po0 a25 a26 a27 x13 x14 x15 x16 x17 x18 k13 f6 k14 f7 ⟨by decide, by decide⟩ ⟨by omega, by omega⟩ ho0 hpo0 ⟨by omega, by omega⟩) gX6_bridge_X6_leftOf rfl (by decide +kernel) ⟨Nat.le_of_ble_eq_true rfl, Nat.le_of_ble_eq_true rfl⟩ hK hP hS hE hN [0, 3, 5, 21, 22, 23] rfl [2, 13, 14] rfl (ci := 6) rfl rfl 0 rfl rfl hl.1 (rest := [.int x0, .ref a7]) rfl (Nat.le_of_ble_eq_true rfl) dX6_bridge_29 ⟨Nat.le_of_ble_eq_true rfl, Nat.le_of_ble_eq_true rfl⟩ (fun v hv => ?_)
      obtain ⟨v_21637, rfl⟩ := hv
      have rv_21637 := ka_rng v_21637
      refine ka_stk (w := [.int v_21637, .int x0, .ref a7]) rfl ?_
      refine lv_aload_n hx hb dX6_bridge_32 rfl (lv_at hl 1 rfl) ?_
      refine ka_get C lq_222 rfl hK hP 0 rfl 3 (by decide) lq_225 rfl dX6_bridge_33 ?_
      refine ka_get C lq_226 rfl hK hP 21 rfl 4 (by decide) lq_227 rfl dX6_bridge_36 ?_
      refine ka_RV (n := 3) C (cg_X2_nearestToldAsLaw_197 l D F a7 x0 v_21637 x14 a13 a14 x7 o0 k1 f0 ⟨by omega, by omega⟩ ⟨by omega, by omega⟩ ho0) gX6_bridge_X2_nearestToldAsLaw rfl (by decide +kernel) ⟨Nat.le_of_ble_eq_true rfl, Nat.le_of_ble_eq_true rfl⟩ hK hP hS hE hN [3, 4] rfl [1] rfl (ci := 2) rfl rfl 3 rfl rfl hl.1 (rest := []) rfl (Nat.le_of_ble_eq_true rfl) dX6_bridge_39 ⟨Nat.le_of_ble_eq_true rfl, Nat.le_of_ble_eq_true rfl⟩ (fun v hv => ?_)
      obtain ⟨v_21638, rfl, hv_21638⟩ := hv
      have rv_21638 := ka_rng v_21638
      refine ka_stk (w := [.int v_21638]) rfl ?_
      exact ka_rRi C hr hlk ⟨_, rfl, ⟨by omega, by omega⟩⟩ dX6_bridge_42
    · skip
      refine lv_aload_n hx hb dX6_bridge_0 rfl (lv_at hl 0 rfl) ?_
      refine ka_get C lq_222 rfl hK hP 0 rfl 2 (by decide) lq_223 rfl dX6_bridge_1 ?_
      refine lv_aload_n hx hb dX6_bridge_4 rfl (lv_at hl 0 rfl) ?_
      refine ka_get C lq_222 rfl hK hP 0 rfl 4 (by decide) lq_224 rfl dX6_bridge_5 ?_
      refine ka_RV (n := 1) C (cg_X0_lessonAt_145 l D F a3 a5 a6 x6 k0 a7 a8 a9 a10 a11 a12) gX6_bridge_X0_lessonAt rfl (by decide +kernel) ⟨Nat.le_of_ble_eq_true rfl, Nat.le_of_ble_eq_true rfl⟩ hK hP hS hE hN [1, 2] rfl [0] rfl (ci := 0) rfl rfl 1 rfl rfl hl.1 (rest := []) rfl (Nat.le_of_ble_eq_true rfl) dX6_bridge_8 ⟨Nat.le_of_ble_eq_true rfl, Nat.le_of_ble_eq_true rfl⟩ (fun v hv => ?_)
      subst hv
      refine ka_stk (w := [.ref a7]) rfl ?_
      refine lv_astore_n (lv' := [(2, .ref a7), (0, .ref a0), (1, .int x0)]) hx hb dX6_bridge_11 rfl hl (by decide) rfl (fun ls hl => ?_)
      refine lv_aload_n hx hb dX6_bridge_12 rfl (lv_at hl 0 rfl) ?_
      refine lv_ifnull hx hb dX6_bridge_13 ?_
      refine lv_iload_n hx hb dX6_bridge_16 rfl (lv_at hl 2 rfl) ?_
      refine ka_RS (n := 1) C (cg_X6_isCase_7 l D F x0 (by omega)) gX6_bridge_X6_isCase rfl (by decide +kernel) ⟨Nat.le_of_ble_eq_true rfl, Nat.le_of_ble_eq_true rfl⟩ hK hP hS hE hN [] rfl [] rfl rfl hl.1 (rest := []) rfl (Nat.le_of_ble_eq_true rfl) dX6_bridge_17 ⟨Nat.le_of_ble_eq_true rfl, Nat.le_of_ble_eq_true rfl⟩ (fun v hv => ?_)
      subst hv
      refine ka_stk (w := [.int 0]) rfl ?_
      refine lv_if_ne (tgt := 25) hx hb dX6_bridge_20 (by decide) (fun c_ => absurd (by decide) c_) (fun _ => ?_)
      refine lv_iconst (v := (-1)) hx hb dX6_bridge_23 (by decide) ?_
      exact ka_rRi C hr hlk ⟨_, rfl, ⟨by decide, by decide⟩⟩ dX6_bridge_24
  · obtain rfl : x1 = 1 := (ka_eq' _ _).mpr (y_21634.trans (by decide))
    rcases (show x0.toInt ≤ -1 ∨ (0 ≤ x0.toInt ∧ x0.toInt ≤ 31) ∨ 32 ≤ x0.toInt by omega) with y_21639 | y_21639 | y_21639
    · skip
      refine lv_aload_n hx hb dX6_bridge_0 rfl (lv_at hl 0 rfl) ?_
      refine ka_get C lq_222 rfl hK hP 0 rfl 2 (by decide) lq_223 rfl dX6_bridge_1 ?_
      refine lv_aload_n hx hb dX6_bridge_4 rfl (lv_at hl 0 rfl) ?_
      refine ka_get C lq_222 rfl hK hP 0 rfl 4 (by decide) lq_224 rfl dX6_bridge_5 ?_
      refine ka_RV (n := 1) C (cg_X0_lessonAt_147 l D F a3 a5 a6 x6 k0 a7 a8 a9 a10 a11 a12) gX6_bridge_X0_lessonAt rfl (by decide +kernel) ⟨Nat.le_of_ble_eq_true rfl, Nat.le_of_ble_eq_true rfl⟩ hK hP hS hE hN [1, 2] rfl [0] rfl (ci := 0) rfl rfl 1 rfl rfl hl.1 (rest := []) rfl (Nat.le_of_ble_eq_true rfl) dX6_bridge_8 ⟨Nat.le_of_ble_eq_true rfl, Nat.le_of_ble_eq_true rfl⟩ (fun v hv => ?_)
      subst hv
      refine ka_stk (w := [.ref a8]) rfl ?_
      refine lv_astore_n (lv' := [(2, .ref a8), (0, .ref a0), (1, .int x0)]) hx hb dX6_bridge_11 rfl hl (by decide) rfl (fun ls hl => ?_)
      refine lv_aload_n hx hb dX6_bridge_12 rfl (lv_at hl 0 rfl) ?_
      refine lv_ifnull hx hb dX6_bridge_13 ?_
      refine lv_iload_n hx hb dX6_bridge_16 rfl (lv_at hl 2 rfl) ?_
      refine ka_RS (n := 1) C (cg_X6_isCase_5 l D F x0 (by omega)) gX6_bridge_X6_isCase rfl (by decide +kernel) ⟨Nat.le_of_ble_eq_true rfl, Nat.le_of_ble_eq_true rfl⟩ hK hP hS hE hN [] rfl [] rfl rfl hl.1 (rest := []) rfl (Nat.le_of_ble_eq_true rfl) dX6_bridge_17 ⟨Nat.le_of_ble_eq_true rfl, Nat.le_of_ble_eq_true rfl⟩ (fun v hv => ?_)
      subst hv
      refine ka_stk (w := [.int 0]) rfl ?_
      refine lv_if_ne (tgt := 25) hx hb dX6_bridge_20 (by decide) (fun c_ => absurd (by decide) c_) (fun _ => ?_)
      refine lv_iconst (v := (-1)) hx hb dX6_bridge_23 (by decide) ?_
      exact ka_rRi C hr hlk ⟨_, rfl, ⟨by decide, by decide⟩⟩ dX6_bridge_24
    · skip
      refine lv_aload_n hx hb dX6_bridge_0 rfl (lv_at hl 0 rfl) ?_
      refine ka_get C lq_222 rfl hK hP 0 rfl 2 (by decide) lq_223 rfl dX6_bridge_1 ?_
      refine lv_aload_n hx hb dX6_bridge_4 rfl (lv_at hl 0 rfl) ?_
      refine ka_get C lq_222 rfl hK hP 0 rfl 4 (by decide) lq_224 rfl dX6_bridge_5 ?_
      refine ka_RV (n := 1) C (cg_X0_lessonAt_147 l D F a3 a5 a6 x6 k0 a7 a8 a9 a10 a11 a12) gX6_bridge_X0_lessonAt rfl (by decide +kernel) ⟨Nat.le_of_ble_eq_true rfl, Nat.le_of_ble_eq_true rfl⟩ hK hP hS hE hN [1, 2] rfl [0] rfl (ci := 0) rfl rfl 1 rfl rfl hl.1 (rest := []) rfl (Nat.le_of_ble_eq_true rfl) dX6_bridge_8 ⟨Nat.le_of_ble_eq_true rfl, Nat.le_of_ble_eq_true rfl⟩ (fun v hv => ?_)
      subst hv
      refine ka_stk (w := [.ref a8]) rfl ?_
      refine lv_astore_n (lv' := [(2, .ref a8), (0, .ref a0), (1, .int x0)]) hx hb dX6_bridge_11 rfl hl (by decide) rfl (fun ls hl => ?_)
      refine lv_aload_n hx hb dX6_bridge_12 rfl (lv_at hl 0 rfl) ?_
      refine lv_ifnull hx hb dX6_bridge_13 ?_
      refine lv_iload_n hx hb dX6_bridge_16 rfl (lv_at hl 2 rfl) ?_
      refine ka_RS (n := 1) C (cg_X6_isCase_6 l D F x0 ⟨by omega, by omega⟩) gX6_bridge_X6_isCase rfl (by decide +kernel) ⟨Nat.le_of_ble_eq_true rfl, Nat.le_of_ble_eq_true rfl⟩ hK hP hS hE hN [] rfl [] rfl rfl hl.1 (rest := []) rfl (Nat.le_of_ble_eq_true rfl) dX6_bridge_17 ⟨Nat.le_of_ble_eq_true rfl, Nat.le_of_ble_eq_true rfl⟩ (fun v hv => ?_)
      subst hv
      refine ka_stk (w := [.int 1]) rfl ?_
      refine lv_if_ne (tgt := 25) hx hb dX6_bridge_20 (by decide) (fun _ => ?_) (fun c_ => absurd c_ (by decide))
      refine lv_aload_n hx hb dX6_bridge_25 rfl (lv_at hl 0 rfl) ?_
      refine lv_iload_n hx hb dX6_bridge_26 rfl (lv_at hl 2 rfl) ?_
      refine lv_aload_n hx hb dX6_bridge_27 rfl (lv_at hl 1 rfl) ?_
      refine lv_aload_n hx hb dX6_bridge_28 rfl (lv_at hl 0 rfl) ?_
      refine ka_RV (n := 1) C (cg_X6_leftOf_190 l D F a0 a8 a1 a2 a3 a4 1 x2 x3 x4 x5 a15 a16 x8 o1 k4 po1 a25 a26 a27 x13 x14 x15 x16 x17 x18 k13 f6 k14 f7 ⟨by decide, by decide⟩ ⟨by omega, by omega⟩ ho1 hpo1 ⟨by omega, by omega⟩) gX6_bridge_X6_leftOf rfl (by decide +kernel) ⟨Nat.le_of_ble_eq_true rfl, Nat.le_of_ble_eq_true rfl⟩ hK hP hS hE hN [0, 6, 8, 21, 22, 23] rfl [4, 13, 14] rfl (ci := 6) rfl rfl 0 rfl rfl hl.1 (rest := [.int x0, .ref a8]) rfl (Nat.le_of_ble_eq_true rfl) dX6_bridge_29 ⟨Nat.le_of_ble_eq_true rfl, Nat.le_of_ble_eq_true rfl⟩ (fun v hv => ?_)
      obtain ⟨v_21640, rfl⟩ := hv
      have rv_21640 := ka_rng v_21640
      refine ka_stk (w := [.int v_21640, .int x0, .ref a8]) rfl ?_
      refine lv_aload_n hx hb dX6_bridge_32 rfl (lv_at hl 1 rfl) ?_
      refine ka_get C lq_222 rfl hK hP 0 rfl 3 (by decide) lq_225 rfl dX6_bridge_33 ?_
      refine ka_get C lq_226 rfl hK hP 21 rfl 4 (by decide) lq_227 rfl dX6_bridge_36 ?_
      refine ka_RV (n := 3) C (cg_X2_nearestToldAsLaw_197 l D F a8 x0 v_21640 x14 a15 a16 x8 o1 k3 f1 ⟨by omega, by omega⟩ ⟨by omega, by omega⟩ ho1) gX6_bridge_X2_nearestToldAsLaw rfl (by decide +kernel) ⟨Nat.le_of_ble_eq_true rfl, Nat.le_of_ble_eq_true rfl⟩ hK hP hS hE hN [6, 7] rfl [3] rfl (ci := 2) rfl rfl 6 rfl rfl hl.1 (rest := []) rfl (Nat.le_of_ble_eq_true rfl) dX6_bridge_39 ⟨Nat.le_of_ble_eq_true rfl, Nat.le_of_ble_eq_true rfl⟩ (fun v hv => ?_)
      obtain ⟨v_21641, rfl, hv_21641⟩ := hv
      have rv_21641 := ka_rng v_21641
      refine ka_stk (w := [.int v_21641]) rfl ?_
      exact ka_rRi C hr hlk ⟨_, rfl, ⟨by omega, by omega⟩⟩ dX6_bridge_42
    · skip
      refine lv_aload_n hx hb dX6_bridge_0 rfl (lv_at hl 0 rfl) ?_
      refine ka_get C lq_222 rfl hK hP 0 rfl 2 (by decide) lq_223 rfl dX6_bridge_1 ?_
      refine lv_aload_n hx hb dX6_bridge_4 rfl (lv_at hl 0 rfl) ?_
      refine ka_get C lq_222 rfl hK hP 0 rfl 4 (by decide) lq_224 rfl dX6_bridge_5 ?_
      refine ka_RV (n := 1) C (cg_X0_lessonAt_147 l D F a3 a5 a6 x6 k0 a7 a8 a9 a10 a11 a12) gX6_bridge_X0_lessonAt rfl (by decide +kernel) ⟨Nat.le_of_ble_eq_true rfl, Nat.le_of_ble_eq_true rfl⟩ hK hP hS hE hN [1, 2] rfl [0] rfl (ci := 0) rfl rfl 1 rfl rfl hl.1 (rest := []) rfl (Nat.le_of_ble_eq_true rfl) dX6_bridge_8 ⟨Nat.le_of_ble_eq_true rfl, Nat.le_of_ble_eq_true rfl⟩ (fun v hv => ?_)
      subst hv
      refine ka_stk (w := [.ref a8]) rfl ?_
      refine lv_astore_n (lv' := [(2, .ref a8), (0, .ref a0), (1, .int x0)]) hx hb dX6_bridge_11 rfl hl (by decide) rfl (fun ls hl => ?_)
      refine lv_aload_n hx hb dX6_bridge_12 rfl (lv_at hl 0 rfl) ?_
      refine lv_ifnull hx hb dX6_bridge_13 ?_
      refine lv_iload_n hx hb dX6_bridge_16 rfl (lv_at hl 2 rfl) ?_
      refine ka_RS (n := 1) C (cg_X6_isCase_7 l D F x0 (by omega)) gX6_bridge_X6_isCase rfl (by decide +kernel) ⟨Nat.le_of_ble_eq_true rfl, Nat.le_of_ble_eq_true rfl⟩ hK hP hS hE hN [] rfl [] rfl rfl hl.1 (rest := []) rfl (Nat.le_of_ble_eq_true rfl) dX6_bridge_17 ⟨Nat.le_of_ble_eq_true rfl, Nat.le_of_ble_eq_true rfl⟩ (fun v hv => ?_)
      subst hv
      refine ka_stk (w := [.int 0]) rfl ?_
      refine lv_if_ne (tgt := 25) hx hb dX6_bridge_20 (by decide) (fun c_ => absurd (by decide) c_) (fun _ => ?_)
      refine lv_iconst (v := (-1)) hx hb dX6_bridge_23 (by decide) ?_
      exact ka_rRi C hr hlk ⟨_, rfl, ⟨by decide, by decide⟩⟩ dX6_bridge_24
  · obtain rfl : x1 = 2 := (ka_eq' _ _).mpr (y_21634.trans (by decide))
    rcases (show x0.toInt ≤ -1 ∨ (0 ≤ x0.toInt ∧ x0.toInt ≤ 31) ∨ 32 ≤ x0.toInt by omega) with y_21642 | y_21642 | y_21642
    · skip
      refine lv_aload_n hx hb dX6_bridge_0 rfl (lv_at hl 0 rfl) ?_
      refine ka_get C lq_222 rfl hK hP 0 rfl 2 (by decide) lq_223 rfl dX6_bridge_1 ?_
      refine lv_aload_n hx hb dX6_bridge_4 rfl (lv_at hl 0 rfl) ?_
      refine ka_get C lq_222 rfl hK hP 0 rfl 4 (by decide) lq_224 rfl dX6_bridge_5 ?_
      refine ka_RV (n := 1) C (cg_X0_lessonAt_149 l D F a3 a5 a6 x6 k0 a7 a8 a9 a10 a11 a12) gX6_bridge_X0_lessonAt rfl (by decide +kernel) ⟨Nat.le_of_ble_eq_true rfl, Nat.le_of_ble_eq_true rfl⟩ hK hP hS hE hN [1, 2] rfl [0] rfl (ci := 0) rfl rfl 1 rfl rfl hl.1 (rest := []) rfl (Nat.le_of_ble_eq_true rfl) dX6_bridge_8 ⟨Nat.le_of_ble_eq_true rfl, Nat.le_of_ble_eq_true rfl⟩ (fun v hv => ?_)
      subst hv
      refine ka_stk (w := [.ref a9]) rfl ?_
      refine lv_astore_n (lv' := [(2, .ref a9), (0, .ref a0), (1, .int x0)]) hx hb dX6_bridge_11 rfl hl (by decide) rfl (fun ls hl => ?_)
      refine lv_aload_n hx hb dX6_bridge_12 rfl (lv_at hl 0 rfl) ?_
      refine lv_ifnull hx hb dX6_bridge_13 ?_
      refine lv_iload_n hx hb dX6_bridge_16 rfl (lv_at hl 2 rfl) ?_
      refine ka_RS (n := 1) C (cg_X6_isCase_5 l D F x0 (by omega)) gX6_bridge_X6_isCase rfl (by decide +kernel) ⟨Nat.le_of_ble_eq_true rfl, Nat.le_of_ble_eq_true rfl⟩ hK hP hS hE hN [] rfl [] rfl rfl hl.1 (rest := []) rfl (Nat.le_of_ble_eq_true rfl) dX6_bridge_17 ⟨Nat.le_of_ble_eq_true rfl, Nat.le_of_ble_eq_true rfl⟩ (fun v hv => ?_)
      subst hv
      refine ka_stk (w := [.int 0]) rfl ?_
      refine lv_if_ne (tgt := 25) hx hb dX6_bridge_20 (by decide) (fun c_ => absurd (by decide) c_) (fun _ => ?_)
      refine lv_iconst (v := (-1)) hx hb dX6_bridge_23 (by decide) ?_
      exact ka_rRi C hr hlk ⟨_, rfl, ⟨by decide, by decide⟩⟩ dX6_bridge_24
    · skip
      refine lv_aload_n hx hb dX6_bridge_0 rfl (lv_at hl 0 rfl) ?_
      refine ka_get C lq_222 rfl hK hP 0 rfl 2 (by decide) lq_223 rfl dX6_bridge_1 ?_
      refine lv_aload_n hx hb dX6_bridge_4 rfl (lv_at hl 0 rfl) ?_
      refine ka_get C lq_222 rfl hK hP 0 rfl 4 (by decide) lq_224 rfl dX6_bridge_5 ?_
      refine ka_RV (n := 1) C (cg_X0_lessonAt_149 l D F a3 a5 a6 x6 k0 a7 a8 a9 a10 a11 a12) gX6_bridge_X0_lessonAt rfl (by decide +kernel) ⟨Nat.le_of_ble_eq_true rfl, Nat.le_of_ble_eq_true rfl⟩ hK hP hS hE hN [1, 2] rfl [0] rfl (ci := 0) rfl rfl 1 rfl rfl hl.1 (rest := []) rfl (Nat.le_of_ble_eq_true rfl) dX6_bridge_8 ⟨Nat.le_of_ble_eq_true rfl, Nat.le_of_ble_eq_true rfl⟩ (fun v hv => ?_)
      subst hv
      refine ka_stk (w := [.ref a9]) rfl ?_
      refine lv_astore_n (lv' := [(2, .ref a9), (0, .ref a0), (1, .int x0)]) hx hb dX6_bridge_11 rfl hl (by decide) rfl (fun ls hl => ?_)
      refine lv_aload_n hx hb dX6_bridge_12 rfl (lv_at hl 0 rfl) ?_
      refine lv_ifnull hx hb dX6_bridge_13 ?_
      refine lv_iload_n hx hb dX6_bridge_16 rfl (lv_at hl 2 rfl) ?_
      refine ka_RS (n := 1) C (cg_X6_isCase_6 l D F x0 ⟨by omega, by omega⟩) gX6_bridge_X6_isCase rfl (by decide +kernel) ⟨Nat.le_of_ble_eq_true rfl, Nat.le_of_ble_eq_true rfl⟩ hK hP hS hE hN [] rfl [] rfl rfl hl.1 (rest := []) rfl (Nat.le_of_ble_eq_true rfl) dX6_bridge_17 ⟨Nat.le_of_ble_eq_true rfl, Nat.le_of_ble_eq_true rfl⟩ (fun v hv => ?_)
      subst hv
      refine ka_stk (w := [.int 1]) rfl ?_
      refine lv_if_ne (tgt := 25) hx hb dX6_bridge_20 (by decide) (fun _ => ?_) (fun c_ => absurd c_ (by decide))
      refine lv_aload_n hx hb dX6_bridge_25 rfl (lv_at hl 0 rfl) ?_
      refine lv_iload_n hx hb dX6_bridge_26 rfl (lv_at hl 2 rfl) ?_
      refine lv_aload_n hx hb dX6_bridge_27 rfl (lv_at hl 1 rfl) ?_
      refine lv_aload_n hx hb dX6_bridge_28 rfl (lv_at hl 0 rfl) ?_
      refine ka_RV (n := 1) C (cg_X6_leftOf_190 l D F a0 a9 a1 a2 a3 a4 2 x2 x3 x4 x5 a17 a18 x9 o2 k6 po2 a25 a26 a27 x13 x14 x15 x16 x17 x18 k13 f6 k14 f7 ⟨by decide, by decide⟩ ⟨by omega, by omega⟩ ho2 hpo2 ⟨by omega, by omega⟩) gX6_bridge_X6_leftOf rfl (by decide +kernel) ⟨Nat.le_of_ble_eq_true rfl, Nat.le_of_ble_eq_true rfl⟩ hK hP hS hE hN [0, 9, 11, 21, 22, 23] rfl [6, 13, 14] rfl (ci := 6) rfl rfl 0 rfl rfl hl.1 (rest := [.int x0, .ref a9]) rfl (Nat.le_of_ble_eq_true rfl) dX6_bridge_29 ⟨Nat.le_of_ble_eq_true rfl, Nat.le_of_ble_eq_true rfl⟩ (fun v hv => ?_)
      obtain ⟨v_21643, rfl⟩ := hv
      have rv_21643 := ka_rng v_21643
      refine ka_stk (w := [.int v_21643, .int x0, .ref a9]) rfl ?_
      refine lv_aload_n hx hb dX6_bridge_32 rfl (lv_at hl 1 rfl) ?_
      refine ka_get C lq_222 rfl hK hP 0 rfl 3 (by decide) lq_225 rfl dX6_bridge_33 ?_
      refine ka_get C lq_226 rfl hK hP 21 rfl 4 (by decide) lq_227 rfl dX6_bridge_36 ?_
      refine ka_RV (n := 3) C (cg_X2_nearestToldAsLaw_197 l D F a9 x0 v_21643 x14 a17 a18 x9 o2 k5 f2 ⟨by omega, by omega⟩ ⟨by omega, by omega⟩ ho2) gX6_bridge_X2_nearestToldAsLaw rfl (by decide +kernel) ⟨Nat.le_of_ble_eq_true rfl, Nat.le_of_ble_eq_true rfl⟩ hK hP hS hE hN [9, 10] rfl [5] rfl (ci := 2) rfl rfl 9 rfl rfl hl.1 (rest := []) rfl (Nat.le_of_ble_eq_true rfl) dX6_bridge_39 ⟨Nat.le_of_ble_eq_true rfl, Nat.le_of_ble_eq_true rfl⟩ (fun v hv => ?_)
      obtain ⟨v_21644, rfl, hv_21644⟩ := hv
      have rv_21644 := ka_rng v_21644
      refine ka_stk (w := [.int v_21644]) rfl ?_
      exact ka_rRi C hr hlk ⟨_, rfl, ⟨by omega, by omega⟩⟩ dX6_bridge_42
    · skip
      refine lv_aload_n hx hb dX6_bridge_0 rfl (lv_at hl 0 rfl) ?_
      refine ka_get C lq_222 rfl hK hP 0 rfl 2 (by decide) lq_223 rfl dX6_bridge_1 ?_
      refine lv_aload_n hx hb dX6_bridge_4 rfl (lv_at hl 0 rfl) ?_
      refine ka_get C lq_222 rfl hK hP 0 rfl 4 (by decide) lq_224 rfl dX6_bridge_5 ?_
      refine ka_RV (n := 1) C (cg_X0_lessonAt_149 l D F a3 a5 a6 x6 k0 a7 a8 a9 a10 a11 a12) gX6_bridge_X0_lessonAt rfl (by decide +kernel) ⟨Nat.le_of_ble_eq_true rfl, Nat.le_of_ble_eq_true rfl⟩ hK hP hS hE hN [1, 2] rfl [0] rfl (ci := 0) rfl rfl 1 rfl rfl hl.1 (rest := []) rfl (Nat.le_of_ble_eq_true rfl) dX6_bridge_8 ⟨Nat.le_of_ble_eq_true rfl, Nat.le_of_ble_eq_true rfl⟩ (fun v hv => ?_)
      subst hv
      refine ka_stk (w := [.ref a9]) rfl ?_
      refine lv_astore_n (lv' := [(2, .ref a9), (0, .ref a0), (1, .int x0)]) hx hb dX6_bridge_11 rfl hl (by decide) rfl (fun ls hl => ?_)
      refine lv_aload_n hx hb dX6_bridge_12 rfl (lv_at hl 0 rfl) ?_
      refine lv_ifnull hx hb dX6_bridge_13 ?_
      refine lv_iload_n hx hb dX6_bridge_16 rfl (lv_at hl 2 rfl) ?_
      refine ka_RS (n := 1) C (cg_X6_isCase_7 l D F x0 (by omega)) gX6_bridge_X6_isCase rfl (by decide +kernel) ⟨Nat.le_of_ble_eq_true rfl, Nat.le_of_ble_eq_true rfl⟩ hK hP hS hE hN [] rfl [] rfl rfl hl.1 (rest := []) rfl (Nat.le_of_ble_eq_true rfl) dX6_bridge_17 ⟨Nat.le_of_ble_eq_true rfl, Nat.le_of_ble_eq_true rfl⟩ (fun v hv => ?_)
      subst hv
      refine ka_stk (w := [.int 0]) rfl ?_
      refine lv_if_ne (tgt := 25) hx hb dX6_bridge_20 (by decide) (fun c_ => absurd (by decide) c_) (fun _ => ?_)
      refine lv_iconst (v := (-1)) hx hb dX6_bridge_23 (by decide) ?_
      exact ka_rRi C hr hlk ⟨_, rfl, ⟨by decide, by decide⟩⟩ dX6_bridge_24
  · obtain rfl : x1 = 3 := (ka_eq' _ _).mpr (y_21634.trans (by decide))
    rcases (show x0.toInt ≤ -1 ∨ (0 ≤ x0.toInt ∧ x0.toInt ≤ 31) ∨ 32 ≤ x0.toInt by omega) with y_21645 | y_21645 | y_21645
    · skip
      refine lv_aload_n hx hb dX6_bridge_0 rfl (lv_at hl 0 rfl) ?_
      refine ka_get C lq_222 rfl hK hP 0 rfl 2 (by decide) lq_223 rfl dX6_bridge_1 ?_
      refine lv_aload_n hx hb dX6_bridge_4 rfl (lv_at hl 0 rfl) ?_
      refine ka_get C lq_222 rfl hK hP 0 rfl 4 (by decide) lq_224 rfl dX6_bridge_5 ?_
      refine ka_RV (n := 1) C (cg_X0_lessonAt_151 l D F a3 a5 a6 x6 k0 a7 a8 a9 a10 a11 a12) gX6_bridge_X0_lessonAt rfl (by decide +kernel) ⟨Nat.le_of_ble_eq_true rfl, Nat.le_of_ble_eq_true rfl⟩ hK hP hS hE hN [1, 2] rfl [0] rfl (ci := 0) rfl rfl 1 rfl rfl hl.1 (rest := []) rfl (Nat.le_of_ble_eq_true rfl) dX6_bridge_8 ⟨Nat.le_of_ble_eq_true rfl, Nat.le_of_ble_eq_true rfl⟩ (fun v hv => ?_)
      subst hv
      refine ka_stk (w := [.ref a10]) rfl ?_
      refine lv_astore_n (lv' := [(2, .ref a10), (0, .ref a0), (1, .int x0)]) hx hb dX6_bridge_11 rfl hl (by decide) rfl (fun ls hl => ?_)
      refine lv_aload_n hx hb dX6_bridge_12 rfl (lv_at hl 0 rfl) ?_
      refine lv_ifnull hx hb dX6_bridge_13 ?_
      refine lv_iload_n hx hb dX6_bridge_16 rfl (lv_at hl 2 rfl) ?_
      refine ka_RS (n := 1) C (cg_X6_isCase_5 l D F x0 (by omega)) gX6_bridge_X6_isCase rfl (by decide +kernel) ⟨Nat.le_of_ble_eq_true rfl, Nat.le_of_ble_eq_true rfl⟩ hK hP hS hE hN [] rfl [] rfl rfl hl.1 (rest := []) rfl (Nat.le_of_ble_eq_true rfl) dX6_bridge_17 ⟨Nat.le_of_ble_eq_true rfl, Nat.le_of_ble_eq_true rfl⟩ (fun v hv => ?_)
      subst hv
      refine ka_stk (w := [.int 0]) rfl ?_
      refine lv_if_ne (tgt := 25) hx hb dX6_bridge_20 (by decide) (fun c_ => absurd (by decide) c_) (fun _ => ?_)
      refine lv_iconst (v := (-1)) hx hb dX6_bridge_23 (by decide) ?_
      exact ka_rRi C hr hlk ⟨_, rfl, ⟨by decide, by decide⟩⟩ dX6_bridge_24
    · skip
      refine lv_aload_n hx hb dX6_bridge_0 rfl (lv_at hl 0 rfl) ?_
      refine ka_get C lq_222 rfl hK hP 0 rfl 2 (by decide) lq_223 rfl dX6_bridge_1 ?_
      refine lv_aload_n hx hb dX6_bridge_4 rfl (lv_at hl 0 rfl) ?_
      refine ka_get C lq_222 rfl hK hP 0 rfl 4 (by decide) lq_224 rfl dX6_bridge_5 ?_
      refine ka_RV (n := 1) C (cg_X0_lessonAt_151 l D F a3 a5 a6 x6 k0 a7 a8 a9 a10 a11 a12) gX6_bridge_X0_lessonAt rfl (by decide +kernel) ⟨Nat.le_of_ble_eq_true rfl, Nat.le_of_ble_eq_true rfl⟩ hK hP hS hE hN [1, 2] rfl [0] rfl (ci := 0) rfl rfl 1 rfl rfl hl.1 (rest := []) rfl (Nat.le_of_ble_eq_true rfl) dX6_bridge_8 ⟨Nat.le_of_ble_eq_true rfl, Nat.le_of_ble_eq_true rfl⟩ (fun v hv => ?_)
      subst hv
      refine ka_stk (w := [.ref a10]) rfl ?_
      refine lv_astore_n (lv' := [(2, .ref a10), (0, .ref a0), (1, .int x0)]) hx hb dX6_bridge_11 rfl hl (by decide) rfl (fun ls hl => ?_)
      refine lv_aload_n hx hb dX6_bridge_12 rfl (lv_at hl 0 rfl) ?_
      refine lv_ifnull hx hb dX6_bridge_13 ?_
      refine lv_iload_n hx hb dX6_bridge_16 rfl (lv_at hl 2 rfl) ?_
      refine ka_RS (n := 1) C (cg_X6_isCase_6 l D F x0 ⟨by omega, by omega⟩) gX6_bridge_X6_isCase rfl (by decide +kernel) ⟨Nat.le_of_ble_eq_true rfl, Nat.le_of_ble_eq_true rfl⟩ hK hP hS hE hN [] rfl [] rfl rfl hl.1 (rest := []) rfl (Nat.le_of_ble_eq_true rfl) dX6_bridge_17 ⟨Nat.le_of_ble_eq_true rfl, Nat.le_of_ble_eq_true rfl⟩ (fun v hv => ?_)
      subst hv
      refine ka_stk (w := [.int 1]) rfl ?_
      refine lv_if_ne (tgt := 25) hx hb dX6_bridge_20 (by decide) (fun _ => ?_) (fun c_ => absurd c_ (by decide))
      refine lv_aload_n hx hb dX6_bridge_25 rfl (lv_at hl 0 rfl) ?_
      refine lv_iload_n hx hb dX6_bridge_26 rfl (lv_at hl 2 rfl) ?_
      refine lv_aload_n hx hb dX6_bridge_27 rfl (lv_at hl 1 rfl) ?_
      refine lv_aload_n hx hb dX6_bridge_28 rfl (lv_at hl 0 rfl) ?_
      refine ka_RV (n := 1) C (cg_X6_leftOf_190 l D F a0 a10 a1 a2 a3 a4 3 x2 x3 x4 x5 a19 a20 x10 o3 k8 po3 a25 a26 a27 x13 x14 x15 x16 x17 x18 k13 f6 k14 f7 ⟨by decide, by decide⟩ ⟨by omega, by omega⟩ ho3 hpo3 ⟨by omega, by omega⟩) gX6_bridge_X6_leftOf rfl (by decide +kernel) ⟨Nat.le_of_ble_eq_true rfl, Nat.le_of_ble_eq_true rfl⟩ hK hP hS hE hN [0, 12, 14, 21, 22, 23] rfl [8, 13, 14] rfl (ci := 6) rfl rfl 0 rfl rfl hl.1 (rest := [.int x0, .ref a10]) rfl (Nat.le_of_ble_eq_true rfl) dX6_bridge_29 ⟨Nat.le_of_ble_eq_true rfl, Nat.le_of_ble_eq_true rfl⟩ (fun v hv => ?_)
      obtain ⟨v_21646, rfl⟩ := hv
      have rv_21646 := ka_rng v_21646
      refine ka_stk (w := [.int v_21646, .int x0, .ref a10]) rfl ?_
      refine lv_aload_n hx hb dX6_bridge_32 rfl (lv_at hl 1 rfl) ?_
      refine ka_get C lq_222 rfl hK hP 0 rfl 3 (by decide) lq_225 rfl dX6_bridge_33 ?_
      refine ka_get C lq_226 rfl hK hP 21 rfl 4 (by decide) lq_227 rfl dX6_bridge_36 ?_
      refine ka_RV (n := 3) C (cg_X2_nearestToldAsLaw_197 l D F a10 x0 v_21646 x14 a19 a20 x10 o3 k7 f3 ⟨by omega, by omega⟩ ⟨by omega, by omega⟩ ho3) gX6_bridge_X2_nearestToldAsLaw rfl (by decide +kernel) ⟨Nat.le_of_ble_eq_true rfl, Nat.le_of_ble_eq_true rfl⟩ hK hP hS hE hN [12, 13] rfl [7] rfl (ci := 2) rfl rfl 12 rfl rfl hl.1 (rest := []) rfl (Nat.le_of_ble_eq_true rfl) dX6_bridge_39 ⟨Nat.le_of_ble_eq_true rfl, Nat.le_of_ble_eq_true rfl⟩ (fun v hv => ?_)
      obtain ⟨v_21647, rfl, hv_21647⟩ := hv
      have rv_21647 := ka_rng v_21647
      refine ka_stk (w := [.int v_21647]) rfl ?_
      exact ka_rRi C hr hlk ⟨_, rfl, ⟨by omega, by omega⟩⟩ dX6_bridge_42
    · skip
      refine lv_aload_n hx hb dX6_bridge_0 rfl (lv_at hl 0 rfl) ?_
      refine ka_get C lq_222 rfl hK hP 0 rfl 2 (by decide) lq_223 rfl dX6_bridge_1 ?_
      refine lv_aload_n hx hb dX6_bridge_4 rfl (lv_at hl 0 rfl) ?_
      refine ka_get C lq_222 rfl hK hP 0 rfl 4 (by decide) lq_224 rfl dX6_bridge_5 ?_
      refine ka_RV (n := 1) C (cg_X0_lessonAt_151 l D F a3 a5 a6 x6 k0 a7 a8 a9 a10 a11 a12) gX6_bridge_X0_lessonAt rfl (by decide +kernel) ⟨Nat.le_of_ble_eq_true rfl, Nat.le_of_ble_eq_true rfl⟩ hK hP hS hE hN [1, 2] rfl [0] rfl (ci := 0) rfl rfl 1 rfl rfl hl.1 (rest := []) rfl (Nat.le_of_ble_eq_true rfl) dX6_bridge_8 ⟨Nat.le_of_ble_eq_true rfl, Nat.le_of_ble_eq_true rfl⟩ (fun v hv => ?_)
      subst hv
      refine ka_stk (w := [.ref a10]) rfl ?_
      refine lv_astore_n (lv' := [(2, .ref a10), (0, .ref a0), (1, .int x0)]) hx hb dX6_bridge_11 rfl hl (by decide) rfl (fun ls hl => ?_)
      refine lv_aload_n hx hb dX6_bridge_12 rfl (lv_at hl 0 rfl) ?_
      refine lv_ifnull hx hb dX6_bridge_13 ?_
      refine lv_iload_n hx hb dX6_bridge_16 rfl (lv_at hl 2 rfl) ?_
      refine ka_RS (n := 1) C (cg_X6_isCase_7 l D F x0 (by omega)) gX6_bridge_X6_isCase rfl (by decide +kernel) ⟨Nat.le_of_ble_eq_true rfl, Nat.le_of_ble_eq_true rfl⟩ hK hP hS hE hN [] rfl [] rfl rfl hl.1 (rest := []) rfl (Nat.le_of_ble_eq_true rfl) dX6_bridge_17 ⟨Nat.le_of_ble_eq_true rfl, Nat.le_of_ble_eq_true rfl⟩ (fun v hv => ?_)
      subst hv
      refine ka_stk (w := [.int 0]) rfl ?_
      refine lv_if_ne (tgt := 25) hx hb dX6_bridge_20 (by decide) (fun c_ => absurd (by decide) c_) (fun _ => ?_)
      refine lv_iconst (v := (-1)) hx hb dX6_bridge_23 (by decide) ?_
      exact ka_rRi C hr hlk ⟨_, rfl, ⟨by decide, by decide⟩⟩ dX6_bridge_24
  · obtain rfl : x1 = 4 := (ka_eq' _ _).mpr (y_21634.trans (by decide))
    rcases (show x0.toInt ≤ -1 ∨ (0 ≤ x0.toInt ∧ x0.toInt ≤ 31) ∨ 32 ≤ x0.toInt by omega) with y_21648 | y_21648 | y_21648
    · skip
      refine lv_aload_n hx hb dX6_bridge_0 rfl (lv_at hl 0 rfl) ?_
      refine ka_get C lq_222 rfl hK hP 0 rfl 2 (by decide) lq_223 rfl dX6_bridge_1 ?_
      refine lv_aload_n hx hb dX6_bridge_4 rfl (lv_at hl 0 rfl) ?_
      refine ka_get C lq_222 rfl hK hP 0 rfl 4 (by decide) lq_224 rfl dX6_bridge_5 ?_
      refine ka_RV (n := 1) C (cg_X0_lessonAt_153 l D F a3 a5 a6 x6 k0 a7 a8 a9 a10 a11 a12) gX6_bridge_X0_lessonAt rfl (by decide +kernel) ⟨Nat.le_of_ble_eq_true rfl, Nat.le_of_ble_eq_true rfl⟩ hK hP hS hE hN [1, 2] rfl [0] rfl (ci := 0) rfl rfl 1 rfl rfl hl.1 (rest := []) rfl (Nat.le_of_ble_eq_true rfl) dX6_bridge_8 ⟨Nat.le_of_ble_eq_true rfl, Nat.le_of_ble_eq_true rfl⟩ (fun v hv => ?_)
      subst hv
      refine ka_stk (w := [.ref a11]) rfl ?_
      refine lv_astore_n (lv' := [(2, .ref a11), (0, .ref a0), (1, .int x0)]) hx hb dX6_bridge_11 rfl hl (by decide) rfl (fun ls hl => ?_)
      refine lv_aload_n hx hb dX6_bridge_12 rfl (lv_at hl 0 rfl) ?_
      refine lv_ifnull hx hb dX6_bridge_13 ?_
      refine lv_iload_n hx hb dX6_bridge_16 rfl (lv_at hl 2 rfl) ?_
      refine ka_RS (n := 1) C (cg_X6_isCase_5 l D F x0 (by omega)) gX6_bridge_X6_isCase rfl (by decide +kernel) ⟨Nat.le_of_ble_eq_true rfl, Nat.le_of_ble_eq_true rfl⟩ hK hP hS hE hN [] rfl [] rfl rfl hl.1 (rest := []) rfl (Nat.le_of_ble_eq_true rfl) dX6_bridge_17 ⟨Nat.le_of_ble_eq_true rfl, Nat.le_of_ble_eq_true rfl⟩ (fun v hv => ?_)
      subst hv
      refine ka_stk (w := [.int 0]) rfl ?_
      refine lv_if_ne (tgt := 25) hx hb dX6_bridge_20 (by decide) (fun c_ => absurd (by decide) c_) (fun _ => ?_)
      refine lv_iconst (v := (-1)) hx hb dX6_bridge_23 (by decide) ?_
      exact ka_rRi C hr hlk ⟨_, rfl, ⟨by decide, by decide⟩⟩ dX6_bridge_24
    · skip
      refine lv_aload_n hx hb dX6_bridge_0 rfl (lv_at hl 0 rfl) ?_
      refine ka_get C lq_222 rfl hK hP 0 rfl 2 (by decide) lq_223 rfl dX6_bridge_1 ?_
      refine lv_aload_n hx hb dX6_bridge_4 rfl (lv_at hl 0 rfl) ?_
      refine ka_get C lq_222 rfl hK hP 0 rfl 4 (by decide) lq_224 rfl dX6_bridge_5 ?_
      refine ka_RV (n := 1) C (cg_X0_lessonAt_153 l D F a3 a5 a6 x6 k0 a7 a8 a9 a10 a11 a12) gX6_bridge_X0_lessonAt rfl (by decide +kernel) ⟨Nat.le_of_ble_eq_true rfl, Nat.le_of_ble_eq_true rfl⟩ hK hP hS hE hN [1, 2] rfl [0] rfl (ci := 0) rfl rfl 1 rfl rfl hl.1 (rest := []) rfl (Nat.le_of_ble_eq_true rfl) dX6_bridge_8 ⟨Nat.le_of_ble_eq_true rfl, Nat.le_of_ble_eq_true rfl⟩ (fun v hv => ?_)
      subst hv
      refine ka_stk (w := [.ref a11]) rfl ?_
      refine lv_astore_n (lv' := [(2, .ref a11), (0, .ref a0), (1, .int x0)]) hx hb dX6_bridge_11 rfl hl (by decide) rfl (fun ls hl => ?_)
      refine lv_aload_n hx hb dX6_bridge_12 rfl (lv_at hl 0 rfl) ?_
      refine lv_ifnull hx hb dX6_bridge_13 ?_
      refine lv_iload_n hx hb dX6_bridge_16 rfl (lv_at hl 2 rfl) ?_
      refine ka_RS (n := 1) C (cg_X6_isCase_6 l D F x0 ⟨by omega, by omega⟩) gX6_bridge_X6_isCase rfl (by decide +kernel) ⟨Nat.le_of_ble_eq_true rfl, Nat.le_of_ble_eq_true rfl⟩ hK hP hS hE hN [] rfl [] rfl rfl hl.1 (rest := []) rfl (Nat.le_of_ble_eq_true rfl) dX6_bridge_17 ⟨Nat.le_of_ble_eq_true rfl, Nat.le_of_ble_eq_true rfl⟩ (fun v hv => ?_)
      subst hv
      refine ka_stk (w := [.int 1]) rfl ?_
      refine lv_if_ne (tgt := 25) hx hb dX6_bridge_20 (by decide) (fun _ => ?_) (fun c_ => absurd c_ (by decide))
      refine lv_aload_n hx hb dX6_bridge_25 rfl (lv_at hl 0 rfl) ?_
      refine lv_iload_n hx hb dX6_bridge_26 rfl (lv_at hl 2 rfl) ?_
      refine lv_aload_n hx hb dX6_bridge_27 rfl (lv_at hl 1 rfl) ?_
      refine lv_aload_n hx hb dX6_bridge_28 rfl (lv_at hl 0 rfl) ?_
      refine ka_RV (n := 1) C (cg_X6_leftOf_190 l D F a0 a11 a1 a2 a3 a4 4 x2 x3 x4 x5 a21 a22 x11 o4 k10 po4 a25 a26 a27 x13 x14 x15 x16 x17 x18 k13 f6 k14 f7 ⟨by decide, by decide⟩ ⟨by omega, by omega⟩ ho4 hpo4 ⟨by omega, by omega⟩) gX6_bridge_X6_leftOf rfl (by decide +kernel) ⟨Nat.le_of_ble_eq_true rfl, Nat.le_of_ble_eq_true rfl⟩ hK hP hS hE hN [0, 15, 17, 21, 22, 23] rfl [10, 13, 14] rfl (ci := 6) rfl rfl 0 rfl rfl hl.1 (rest := [.int x0, .ref a11]) rfl (Nat.le_of_ble_eq_true rfl) dX6_bridge_29 ⟨Nat.le_of_ble_eq_true rfl, Nat.le_of_ble_eq_true rfl⟩ (fun v hv => ?_)
      obtain ⟨v_21649, rfl⟩ := hv
      have rv_21649 := ka_rng v_21649
      refine ka_stk (w := [.int v_21649, .int x0, .ref a11]) rfl ?_
      refine lv_aload_n hx hb dX6_bridge_32 rfl (lv_at hl 1 rfl) ?_
      refine ka_get C lq_222 rfl hK hP 0 rfl 3 (by decide) lq_225 rfl dX6_bridge_33 ?_
      refine ka_get C lq_226 rfl hK hP 21 rfl 4 (by decide) lq_227 rfl dX6_bridge_36 ?_
      refine ka_RV (n := 3) C (cg_X2_nearestToldAsLaw_197 l D F a11 x0 v_21649 x14 a21 a22 x11 o4 k9 f4 ⟨by omega, by omega⟩ ⟨by omega, by omega⟩ ho4) gX6_bridge_X2_nearestToldAsLaw rfl (by decide +kernel) ⟨Nat.le_of_ble_eq_true rfl, Nat.le_of_ble_eq_true rfl⟩ hK hP hS hE hN [15, 16] rfl [9] rfl (ci := 2) rfl rfl 15 rfl rfl hl.1 (rest := []) rfl (Nat.le_of_ble_eq_true rfl) dX6_bridge_39 ⟨Nat.le_of_ble_eq_true rfl, Nat.le_of_ble_eq_true rfl⟩ (fun v hv => ?_)
      obtain ⟨v_21650, rfl, hv_21650⟩ := hv
      have rv_21650 := ka_rng v_21650
      refine ka_stk (w := [.int v_21650]) rfl ?_
      exact ka_rRi C hr hlk ⟨_, rfl, ⟨by omega, by omega⟩⟩ dX6_bridge_42
    · skip
      refine lv_aload_n hx hb dX6_bridge_0 rfl (lv_at hl 0 rfl) ?_
      refine ka_get C lq_222 rfl hK hP 0 rfl 2 (by decide) lq_223 rfl dX6_bridge_1 ?_
      refine lv_aload_n hx hb dX6_bridge_4 rfl (lv_at hl 0 rfl) ?_
      refine ka_get C lq_222 rfl hK hP 0 rfl 4 (by decide) lq_224 rfl dX6_bridge_5 ?_
      refine ka_RV (n := 1) C (cg_X0_lessonAt_153 l D F a3 a5 a6 x6 k0 a7 a8 a9 a10 a11 a12) gX6_bridge_X0_lessonAt rfl (by decide +kernel) ⟨Nat.le_of_ble_eq_true rfl, Nat.le_of_ble_eq_true rfl⟩ hK hP hS hE hN [1, 2] rfl [0] rfl (ci := 0) rfl rfl 1 rfl rfl hl.1 (rest := []) rfl (Nat.le_of_ble_eq_true rfl) dX6_bridge_8 ⟨Nat.le_of_ble_eq_true rfl, Nat.le_of_ble_eq_true rfl⟩ (fun v hv => ?_)
      subst hv
      refine ka_stk (w := [.ref a11]) rfl ?_
      refine lv_astore_n (lv' := [(2, .ref a11), (0, .ref a0), (1, .int x0)]) hx hb dX6_bridge_11 rfl hl (by decide) rfl (fun ls hl => ?_)
      refine lv_aload_n hx hb dX6_bridge_12 rfl (lv_at hl 0 rfl) ?_
      refine lv_ifnull hx hb dX6_bridge_13 ?_
      refine lv_iload_n hx hb dX6_bridge_16 rfl (lv_at hl 2 rfl) ?_
      refine ka_RS (n := 1) C (cg_X6_isCase_7 l D F x0 (by omega)) gX6_bridge_X6_isCase rfl (by decide +kernel) ⟨Nat.le_of_ble_eq_true rfl, Nat.le_of_ble_eq_true rfl⟩ hK hP hS hE hN [] rfl [] rfl rfl hl.1 (rest := []) rfl (Nat.le_of_ble_eq_true rfl) dX6_bridge_17 ⟨Nat.le_of_ble_eq_true rfl, Nat.le_of_ble_eq_true rfl⟩ (fun v hv => ?_)
      subst hv
      refine ka_stk (w := [.int 0]) rfl ?_
      refine lv_if_ne (tgt := 25) hx hb dX6_bridge_20 (by decide) (fun c_ => absurd (by decide) c_) (fun _ => ?_)
      refine lv_iconst (v := (-1)) hx hb dX6_bridge_23 (by decide) ?_
      exact ka_rRi C hr hlk ⟨_, rfl, ⟨by decide, by decide⟩⟩ dX6_bridge_24
  · obtain rfl : x1 = 5 := (ka_eq' _ _).mpr (y_21634.trans (by decide))
    rcases (show x0.toInt ≤ -1 ∨ (0 ≤ x0.toInt ∧ x0.toInt ≤ 31) ∨ 32 ≤ x0.toInt by omega) with y_21651 | y_21651 | y_21651
    · skip
      refine lv_aload_n hx hb dX6_bridge_0 rfl (lv_at hl 0 rfl) ?_
      refine ka_get C lq_222 rfl hK hP 0 rfl 2 (by decide) lq_223 rfl dX6_bridge_1 ?_
      refine lv_aload_n hx hb dX6_bridge_4 rfl (lv_at hl 0 rfl) ?_
      refine ka_get C lq_222 rfl hK hP 0 rfl 4 (by decide) lq_224 rfl dX6_bridge_5 ?_
      refine ka_RV (n := 1) C (cg_X0_lessonAt_155 l D F a3 a5 a6 x6 k0 a7 a8 a9 a10 a11 a12) gX6_bridge_X0_lessonAt rfl (by decide +kernel) ⟨Nat.le_of_ble_eq_true rfl, Nat.le_of_ble_eq_true rfl⟩ hK hP hS hE hN [1, 2] rfl [0] rfl (ci := 0) rfl rfl 1 rfl rfl hl.1 (rest := []) rfl (Nat.le_of_ble_eq_true rfl) dX6_bridge_8 ⟨Nat.le_of_ble_eq_true rfl, Nat.le_of_ble_eq_true rfl⟩ (fun v hv => ?_)
      subst hv
      refine ka_stk (w := [.ref a12]) rfl ?_
      refine lv_astore_n (lv' := [(2, .ref a12), (0, .ref a0), (1, .int x0)]) hx hb dX6_bridge_11 rfl hl (by decide) rfl (fun ls hl => ?_)
      refine lv_aload_n hx hb dX6_bridge_12 rfl (lv_at hl 0 rfl) ?_
      refine lv_ifnull hx hb dX6_bridge_13 ?_
      refine lv_iload_n hx hb dX6_bridge_16 rfl (lv_at hl 2 rfl) ?_
      refine ka_RS (n := 1) C (cg_X6_isCase_5 l D F x0 (by omega)) gX6_bridge_X6_isCase rfl (by decide +kernel) ⟨Nat.le_of_ble_eq_true rfl, Nat.le_of_ble_eq_true rfl⟩ hK hP hS hE hN [] rfl [] rfl rfl hl.1 (rest := []) rfl (Nat.le_of_ble_eq_true rfl) dX6_bridge_17 ⟨Nat.le_of_ble_eq_true rfl, Nat.le_of_ble_eq_true rfl⟩ (fun v hv => ?_)
      subst hv
      refine ka_stk (w := [.int 0]) rfl ?_
      refine lv_if_ne (tgt := 25) hx hb dX6_bridge_20 (by decide) (fun c_ => absurd (by decide) c_) (fun _ => ?_)
      refine lv_iconst (v := (-1)) hx hb dX6_bridge_23 (by decide) ?_
      exact ka_rRi C hr hlk ⟨_, rfl, ⟨by decide, by decide⟩⟩ dX6_bridge_24
    · skip
      refine lv_aload_n hx hb dX6_bridge_0 rfl (lv_at hl 0 rfl) ?_
      refine ka_get C lq_222 rfl hK hP 0 rfl 2 (by decide) lq_223 rfl dX6_bridge_1 ?_
      refine lv_aload_n hx hb dX6_bridge_4 rfl (lv_at hl 0 rfl) ?_
      refine ka_get C lq_222 rfl hK hP 0 rfl 4 (by decide) lq_224 rfl dX6_bridge_5 ?_
      refine ka_RV (n := 1) C (cg_X0_lessonAt_155 l D F a3 a5 a6 x6 k0 a7 a8 a9 a10 a11 a12) gX6_bridge_X0_lessonAt rfl (by decide +kernel) ⟨Nat.le_of_ble_eq_true rfl, Nat.le_of_ble_eq_true rfl⟩ hK hP hS hE hN [1, 2] rfl [0] rfl (ci := 0) rfl rfl 1 rfl rfl hl.1 (rest := []) rfl (Nat.le_of_ble_eq_true rfl) dX6_bridge_8 ⟨Nat.le_of_ble_eq_true rfl, Nat.le_of_ble_eq_true rfl⟩ (fun v hv => ?_)
      subst hv
      refine ka_stk (w := [.ref a12]) rfl ?_
      refine lv_astore_n (lv' := [(2, .ref a12), (0, .ref a0), (1, .int x0)]) hx hb dX6_bridge_11 rfl hl (by decide) rfl (fun ls hl => ?_)
      refine lv_aload_n hx hb dX6_bridge_12 rfl (lv_at hl 0 rfl) ?_
      refine lv_ifnull hx hb dX6_bridge_13 ?_
      refine lv_iload_n hx hb dX6_bridge_16 rfl (lv_at hl 2 rfl) ?_
      refine ka_RS (n := 1) C (cg_X6_isCase_6 l D F x0 ⟨by omega, by omega⟩) gX6_bridge_X6_isCase rfl (by decide +kernel) ⟨Nat.le_of_ble_eq_true rfl, Nat.le_of_ble_eq_true rfl⟩ hK hP hS hE hN [] rfl [] rfl rfl hl.1 (rest := []) rfl (Nat.le_of_ble_eq_true rfl) dX6_bridge_17 ⟨Nat.le_of_ble_eq_true rfl, Nat.le_of_ble_eq_true rfl⟩ (fun v hv => ?_)
      subst hv
      refine ka_stk (w := [.int 1]) rfl ?_
      refine lv_if_ne (tgt := 25) hx hb dX6_bridge_20 (by decide) (fun _ => ?_) (fun c_ => absurd c_ (by decide))
      refine lv_aload_n hx hb dX6_bridge_25 rfl (lv_at hl 0 rfl) ?_
      refine lv_iload_n hx hb dX6_bridge_26 rfl (lv_at hl 2 rfl) ?_
      refine lv_aload_n hx hb dX6_bridge_27 rfl (lv_at hl 1 rfl) ?_
      refine lv_aload_n hx hb dX6_bridge_28 rfl (lv_at hl 0 rfl) ?_
      refine ka_RV (n := 1) C (cg_X6_leftOf_190 l D F a0 a12 a1 a2 a3 a4 5 x2 x3 x4 x5 a23 a24 x12 o5 k12 po5 a25 a26 a27 x13 x14 x15 x16 x17 x18 k13 f6 k14 f7 ⟨by decide, by decide⟩ ⟨by omega, by omega⟩ ho5 hpo5 ⟨by omega, by omega⟩) gX6_bridge_X6_leftOf rfl (by decide +kernel) ⟨Nat.le_of_ble_eq_true rfl, Nat.le_of_ble_eq_true rfl⟩ hK hP hS hE hN [0, 18, 20, 21, 22, 23] rfl [12, 13, 14] rfl (ci := 6) rfl rfl 0 rfl rfl hl.1 (rest := [.int x0, .ref a12]) rfl (Nat.le_of_ble_eq_true rfl) dX6_bridge_29 ⟨Nat.le_of_ble_eq_true rfl, Nat.le_of_ble_eq_true rfl⟩ (fun v hv => ?_)
      obtain ⟨v_21652, rfl⟩ := hv
      have rv_21652 := ka_rng v_21652
      refine ka_stk (w := [.int v_21652, .int x0, .ref a12]) rfl ?_
      refine lv_aload_n hx hb dX6_bridge_32 rfl (lv_at hl 1 rfl) ?_
      refine ka_get C lq_222 rfl hK hP 0 rfl 3 (by decide) lq_225 rfl dX6_bridge_33 ?_
      refine ka_get C lq_226 rfl hK hP 21 rfl 4 (by decide) lq_227 rfl dX6_bridge_36 ?_
      refine ka_RV (n := 3) C (cg_X2_nearestToldAsLaw_197 l D F a12 x0 v_21652 x14 a23 a24 x12 o5 k11 f5 ⟨by omega, by omega⟩ ⟨by omega, by omega⟩ ho5) gX6_bridge_X2_nearestToldAsLaw rfl (by decide +kernel) ⟨Nat.le_of_ble_eq_true rfl, Nat.le_of_ble_eq_true rfl⟩ hK hP hS hE hN [18, 19] rfl [11] rfl (ci := 2) rfl rfl 18 rfl rfl hl.1 (rest := []) rfl (Nat.le_of_ble_eq_true rfl) dX6_bridge_39 ⟨Nat.le_of_ble_eq_true rfl, Nat.le_of_ble_eq_true rfl⟩ (fun v hv => ?_)
      obtain ⟨v_21653, rfl, hv_21653⟩ := hv
      have rv_21653 := ka_rng v_21653
      refine ka_stk (w := [.int v_21653]) rfl ?_
      exact ka_rRi C hr hlk ⟨_, rfl, ⟨by omega, by omega⟩⟩ dX6_bridge_42
    · skip
      refine lv_aload_n hx hb dX6_bridge_0 rfl (lv_at hl 0 rfl) ?_
      refine ka_get C lq_222 rfl hK hP 0 rfl 2 (by decide) lq_223 rfl dX6_bridge_1 ?_
      refine lv_aload_n hx hb dX6_bridge_4 rfl (lv_at hl 0 rfl) ?_
      refine ka_get C lq_222 rfl hK hP 0 rfl 4 (by decide) lq_224 rfl dX6_bridge_5 ?_
      refine ka_RV (n := 1) C (cg_X0_lessonAt_155 l D F a3 a5 a6 x6 k0 a7 a8 a9 a10 a11 a12) gX6_bridge_X0_lessonAt rfl (by decide +kernel) ⟨Nat.le_of_ble_eq_true rfl, Nat.le_of_ble_eq_true rfl⟩ hK hP hS hE hN [1, 2] rfl [0] rfl (ci := 0) rfl rfl 1 rfl rfl hl.1 (rest := []) rfl (Nat.le_of_ble_eq_true rfl) dX6_bridge_8 ⟨Nat.le_of_ble_eq_true rfl, Nat.le_of_ble_eq_true rfl⟩ (fun v hv => ?_)
      subst hv
      refine ka_stk (w := [.ref a12]) rfl ?_
      refine lv_astore_n (lv' := [(2, .ref a12), (0, .ref a0), (1, .int x0)]) hx hb dX6_bridge_11 rfl hl (by decide) rfl (fun ls hl => ?_)
      refine lv_aload_n hx hb dX6_bridge_12 rfl (lv_at hl 0 rfl) ?_
      refine lv_ifnull hx hb dX6_bridge_13 ?_
      refine lv_iload_n hx hb dX6_bridge_16 rfl (lv_at hl 2 rfl) ?_
      refine ka_RS (n := 1) C (cg_X6_isCase_7 l D F x0 (by omega)) gX6_bridge_X6_isCase rfl (by decide +kernel) ⟨Nat.le_of_ble_eq_true rfl, Nat.le_of_ble_eq_true rfl⟩ hK hP hS hE hN [] rfl [] rfl rfl hl.1 (rest := []) rfl (Nat.le_of_ble_eq_true rfl) dX6_bridge_17 ⟨Nat.le_of_ble_eq_true rfl, Nat.le_of_ble_eq_true rfl⟩ (fun v hv => ?_)
      subst hv
      refine ka_stk (w := [.int 0]) rfl ?_
      refine lv_if_ne (tgt := 25) hx hb dX6_bridge_20 (by decide) (fun c_ => absurd (by decide) c_) (fun _ => ?_)
      refine lv_iconst (v := (-1)) hx hb dX6_bridge_23 (by decide) ?_
      exact ka_rRi C hr hlk ⟨_, rfl, ⟨by decide, by decide⟩⟩ dX6_bridge_24
theorem lq_228 : ∀ w ∈ wsX60, w ∈ wsX6_reveal := by decide +kernel
theorem lq_229 : Cond.fieldLink RX6 35 "AskedBack" "talk" "LAskedBack$Talk;" ∈ wsX6_reveal := by decide +kernel
theorem lq_230 : ∀ w ∈ wsX10, w ∈ wsX6_reveal := by decide +kernel
theorem lq_231 : Cond.fieldLink RX6 97 "AskedBack$Formula" "truth" "I" ∈ wsX6_reveal := by decide +kernel
theorem lq_232 : Cond.fieldLink RX6 49 "AskedBack" "wrongAhead" "I" ∈ wsX6_reveal := by decide +kernel
set_option maxHeartbeats 4000000 in
set_option maxRecDepth 100000 in
theorem cg_X6_reveal_199 (l : Launch) (D : va_G) (F : Nat → Prop) (a0 : Nat) (x0 : Int32) (a1 : Nat) (a2 : Nat) (a3 : Nat) (a4 : Nat) (x1 : Int32) (x2 : Int32) (x3 : Int32) (x4 : Int32) (x5 : Int32) (a5 : Nat) (a6 : Nat) (x6 : Int32) (k0 : ClassId) (a7 : Nat) (a8 : Nat) (a9 : Nat) (a10 : Nat) (a11 : Nat) (a12 : Nat) (a13 : Nat) (a14 : Nat) (x7 : Int32) (o0 : Option Nat) (a15 : Nat) (a16 : Nat) (x8 : Int32) (o1 : Option Nat) (a17 : Nat) (a18 : Nat) (x9 : Int32) (o2 : Option Nat) (a19 : Nat) (a20 : Nat) (x10 : Int32) (o3 : Option Nat) (a21 : Nat) (a22 : Nat) (x11 : Int32) (o4 : Option Nat) (a23 : Nat) (a24 : Nat) (x12 : Int32) (o5 : Option Nat) (a25 : Nat) (a26 : Nat) (a27 : Nat) (x13 : Int32) (x14 : Int32) (x15 : Int32) (x16 : Int32) (x17 : Int32) (x18 : Int32) (k1 : ClassId) (f0 : Nat → Int32) (k2 : ClassId) (f1 : Nat → Int32) (hx1 : -1 ≤ x1.toInt ∧ x1.toInt ≤ 5) (hx7 : 0 ≤ x7.toInt ∧ x7.toInt ≤ 12) (ho0 : ∀ a : Nat, o0 = some a → F a) (hx8 : 0 ≤ x8.toInt ∧ x8.toInt ≤ 12) (ho1 : ∀ a : Nat, o1 = some a → F a) (hx9 : 0 ≤ x9.toInt ∧ x9.toInt ≤ 12) (ho2 : ∀ a : Nat, o2 = some a → F a) (hx10 : 0 ≤ x10.toInt ∧ x10.toInt ≤ 12) (ho3 : ∀ a : Nat, o3 = some a → F a) (hx11 : 0 ≤ x11.toInt ∧ x11.toInt ≤ 12) (ho4 : ∀ a : Nat, o4 = some a → F a) (hx12 : 0 ≤ x12.toInt ∧ x12.toInt ≤ 12) (ho5 : ∀ a : Nat, o5 = some a → F a) (hx13 : 0 ≤ x13.toInt ∧ x13.toInt ≤ 10) : ka_R l D F yX6_reveal wsX6_reveal 4 84 [.ref a0, .int x0] [(a0, .inr (6, [.ref a1, .ref a2, .ref a3, .ref a4, .int x1, .int x2, .int x3, .int x4, .int x5])), (a3, .inr (0, [.ref a5, .ref a6, .int x6])), (a5, .inl (k0, 6, .inr (.inr (.inr (.inr (va_up (va_up (va_up (va_up (va_up (va_up (fun _ => none) 0 (some a7)) 1 (some a8)) 2 (some a9)) 3 (some a10)) 4 (some a11)) 5 (some a12))))))), (a7, .inr (2, [.ref a13, .ref a14, .int x7, va_rf o0])), (a8, .inr (2, [.ref a15, .ref a16, .int x8, va_rf o1])), (a9, .inr (2, [.ref a17, .ref a18, .int x9, va_rf o2])), (a10, .inr (2, [.ref a19, .ref a20, .int x10, va_rf o3])), (a11, .inr (2, [.ref a21, .ref a22, .int x11, va_rf o4])), (a12, .inr (2, [.ref a23, .ref a24, .int x12, va_rf o5])), (a4, .inr (4, [.ref a25, .ref a26, .ref a27, .int x13, .int x14, .int x15, .int x16, .int x17, .int x18])), (a25, .inl (k1, 32, .inl f0)), (a26, .inl (k2, 32, .inl f1))] [(k0, .object RX2), (k1, .int), (k2, .int)] (fun v => ∃ x : Int32, v = some (.int x) ∧ -1 ≤ x.toInt ∧ x.toInt ≤ 1) := by
  refine ka_R_of (cc := cX6_reveal) (maxL := 3) (ret := (some .int)) (by decide) rfl (Nat.le_of_ble_eq_true rfl) ?_
  intro p e s m below meth c ls C hr hlk hP hK hE hN hl
  have hS : va_S (fun _ => False) s.heap s.heap [] := va_S.rf
  have C : CallFix p m c cX6_reveal 3 s [.ref a0, .int x0].toArray wsX6_reveal RX6 := C
  obtain ⟨hx, hb, hml, hown, hts⟩ := id C
  have hl : lv_has ls 3 [(0, .ref a0), (1, .int x0)] := hl
  have rx0 := ka_rng x0
  have rx1 := ka_rng x1
  have rx2 := ka_rng x2
  have rx3 := ka_rng x3
  have rx4 := ka_rng x4
  have rx5 := ka_rng x5
  have rx6 := ka_rng x6
  have rx7 := ka_rng x7
  have rx8 := ka_rng x8
  have rx9 := ka_rng x9
  have rx10 := ka_rng x10
  have rx11 := ka_rng x11
  have rx12 := ka_rng x12
  have rx13 := ka_rng x13
  have rx14 := ka_rng x14
  have rx15 := ka_rng x15
  have rx16 := ka_rng x16
  have rx17 := ka_rng x17
  have rx18 := ka_rng x18
  refine lv_aload_n hx hb dX6_reveal_0 rfl (lv_at hl 0 rfl) ?_
  refine ka_RV (n := 0) C (cg_X6_begunLaw_169 l D F a0 a1 a2 a3 a4 x1 x2 x3 x4 x5 a5 a6 x6 k0 a7 a8 a9 a10 a11 a12 a13 a14 x7 o0 a15 a16 x8 o1 a17 a18 x9 o2 a19 a20 x10 o3 a21 a22 x11 o4 a23 a24 x12 o5 ⟨by omega, by omega⟩ ⟨by omega, by omega⟩ ho0 ⟨by omega, by omega⟩ ho1 ⟨by omega, by omega⟩ ho2 ⟨by omega, by omega⟩ ho3 ⟨by omega, by omega⟩ ho4 ⟨by omega, by omega⟩ ho5) gX6_reveal_X6_begunLaw rfl (by decide +kernel) ⟨Nat.le_of_ble_eq_true rfl, Nat.le_of_ble_eq_true rfl⟩ hK hP hS hE hN [0, 1, 2, 3, 4, 5, 6, 7, 8] rfl [0] rfl (ci := 6) rfl rfl 0 rfl rfl hl.1 (rest := []) rfl (Nat.le_of_ble_eq_true rfl) dX6_reveal_1 ⟨Nat.le_of_ble_eq_true rfl, Nat.le_of_ble_eq_true rfl⟩ (fun v hv => ?_)
  obtain ⟨o_21707, rfl, ho_21707⟩ := hv
  refine ka_stk (w := [va_rf o_21707]) rfl ?_
  refine kb_astore_n (lv' := [(2, va_rf o_21707), (0, .ref a0), (1, .int x0)]) hx hb dX6_reveal_4 rfl hl (by decide) (by first | rfl | simp [kb_rfc]) (fun ls hl => ?_)
  refine kb_aload_n hx hb dX6_reveal_5 rfl (lv_at hl 0 rfl) ?_
  refine kb_ifnull (tgt := 35) hx hb dX6_reveal_6 (by decide) (fun hfa_21708 => ?_) (fun fa_21708 hfa_21708 => ?_)
  · skip
    refine lv_iconst (v := (-1)) hx hb dX6_reveal_35 (by decide) ?_
    exact ka_rRi C hr hlk ⟨_, rfl, ⟨by decide, by decide⟩⟩ dX6_reveal_36
  · have Ffa_21708 : F fa_21708 := ho_21707 fa_21708 hfa_21708
    refine lv_iload_n hx hb dX6_reveal_9 rfl (lv_at hl 2 rfl) ?_
    refine ka_RS (n := 1) C (cg_X6_isCase_171 l D F x0) gX6_reveal_X6_isCase rfl (by decide +kernel) ⟨Nat.le_of_ble_eq_true rfl, Nat.le_of_ble_eq_true rfl⟩ hK hP hS hE hN [] rfl [] rfl rfl hl.1 (rest := []) rfl (Nat.le_of_ble_eq_true rfl) dX6_reveal_10 ⟨Nat.le_of_ble_eq_true rfl, Nat.le_of_ble_eq_true rfl⟩ (fun v hv => ?_)
    obtain ⟨v_21709, rfl, hv_21709⟩ := hv
    have rv_21709 := ka_rng v_21709
    refine ka_stk (w := [.int v_21709]) rfl ?_
    refine lv_if_eq (tgt := 35) hx hb dX6_reveal_13 (by decide) (fun c_21710 => ?_) (fun c_21710 => ?_)
    · have c_21710 : v_21709.toInt = 0 := by rw [ka_eq', show ((0 : Int32)).toInt = 0 from by decide] at c_21710; exact c_21710
      refine lv_iconst (v := (-1)) hx hb dX6_reveal_35 (by decide) ?_
      exact ka_rRi C hr hlk ⟨_, rfl, ⟨by decide, by decide⟩⟩ dX6_reveal_36
    · have c_21710 : ¬ v_21709.toInt = 0 := by rw [ka_eq', show ((0 : Int32)).toInt = 0 from by decide] at c_21710; exact c_21710
      refine lv_aload_n hx hb dX6_reveal_16 rfl (lv_at hl 1 rfl) ?_
      refine ka_get C lq_228 rfl hK hP 0 rfl 3 (by decide) lq_229 rfl dX6_reveal_17 ?_
      refine lv_iload_n hx hb dX6_reveal_20 rfl (lv_at hl 2 rfl) ?_
      refine kb_aload_n hx hb dX6_reveal_21 rfl (lv_at hl 0 rfl) ?_
      refine ka_top (w := .ref fa_21708) (by rw [hfa_21708]; rfl) ?_
      obtain ⟨tru_21711, txu_21711, kku_21711, nnu_21711, ffu_21711, hnu_21711, hPu_21711, hKu_21711, -, -⟩ := (ka_FP_kept hE.2 hS.2.1) fa_21708 Ffa_21708
      refine ka_get C lq_230 rfl hKu_21711 hPu_21711 0 rfl 0 (by decide) lq_231 rfl dX6_reveal_22 ?_
      have rtru_21711 := ka_rng tru_21711
      refine ka_RV (n := 2) C (cg_X4_wrongOf_8 l D F a4 x0 tru_21711 a25 a26 a27 x13 x14 x15 x16 x17 x18 k1 f0 k2 f1 ⟨by omega, by omega⟩) gX6_reveal_X4_wrongOf rfl (by decide +kernel) ⟨Nat.le_of_ble_eq_true rfl, Nat.le_of_ble_eq_true rfl⟩ hK hP hS hE hN [9, 10, 11] rfl [1, 2] rfl (ci := 4) rfl rfl 9 rfl rfl hl.1 (rest := []) rfl (Nat.le_of_ble_eq_true rfl) dX6_reveal_25 ⟨Nat.le_of_ble_eq_true rfl, Nat.le_of_ble_eq_true rfl⟩ (fun v hv => ?_)
      obtain ⟨v_21712, rfl⟩ := hv
      have rv_21712 := ka_rng v_21712
      refine ka_stk (w := [.int v_21712]) rfl ?_
      refine lv_aload_n hx hb dX6_reveal_28 rfl (lv_at hl 1 rfl) ?_
      refine ka_get C lq_228 rfl hK hP 0 rfl 7 (by decide) lq_232 rfl dX6_reveal_29 ?_
      refine lv_icmp_ge (tgt := 37) hx hb dX6_reveal_32 (by decide) (fun c_21713 => ?_) (fun c_21713 => ?_)
      · have c_21713 : x4.toInt ≤ v_21712.toInt := by rw [ka_le'] at c_21713; exact c_21713
        refine kb_aload_n hx hb dX6_reveal_37 rfl (lv_at hl 0 rfl) ?_
        refine ka_top (w := .ref fa_21708) (by rw [hfa_21708]; rfl) ?_
        refine ka_get C lq_230 rfl hKu_21711 hPu_21711 0 rfl 0 (by decide) lq_231 rfl dX6_reveal_38 ?_
        refine lv_iload_n hx hb dX6_reveal_41 rfl (lv_at hl 2 rfl) ?_
        refine ka_RS (n := 2) C (ka_c_bitAt l D F tru_21711 x0) gX6_reveal_X6_bitAt rfl (by decide +kernel) ⟨Nat.le_of_ble_eq_true rfl, Nat.le_of_ble_eq_true rfl⟩ hK hP hS hE hN [] rfl [] rfl rfl hl.1 (rest := []) rfl (Nat.le_of_ble_eq_true rfl) dX6_reveal_42 ⟨Nat.le_of_ble_eq_true rfl, Nat.le_of_ble_eq_true rfl⟩ (fun v hv => ?_)
        subst hv
        refine ka_stk (w := .int (ka_bit tru_21711 x0) :: []) rfl ?_
        refine lv_topi (fun v_21714 ev_21714 => ?_)
        have fv_21714 := ka_bit_in tru_21711 x0; rw [← ev_21714] at fv_21714
        exact ka_rRi C hr hlk ⟨_, rfl, ⟨by omega, by omega⟩⟩ dX6_reveal_45
      · have c_21713 : ¬ x4.toInt ≤ v_21712.toInt := by rw [ka_le'] at c_21713; exact c_21713
        refine lv_iconst (v := (-1)) hx hb dX6_reveal_35 (by decide) ?_
        exact ka_rRi C hr hlk ⟨_, rfl, ⟨by decide, by decide⟩⟩ dX6_reveal_36
theorem lq_233 : ∀ w ∈ wsX60, w ∈ wsX6_caseOf := by decide +kernel
theorem lq_234 : Cond.fieldLink RX6 35 "AskedBack" "talk" "LAskedBack$Talk;" ∈ wsX6_caseOf := by decide +kernel
theorem lq_235 : ∀ w ∈ wsX10, w ∈ wsX6_caseOf := by decide +kernel
theorem lq_236 : Cond.fieldLink RX6 97 "AskedBack$Formula" "truth" "I" ∈ wsX6_caseOf := by decide +kernel
set_option maxHeartbeats 4000000 in
set_option maxRecDepth 100000 in
theorem cg_X6_caseOf_200 (l : Launch) (D : va_G) (F : Nat → Prop) (a0 : Nat) (x0 : Int32) (x1 : Int32) (a1 : Nat) (a2 : Nat) (a3 : Nat) (a4 : Nat) (x2 : Int32) (x3 : Int32) (x4 : Int32) (x5 : Int32) (x6 : Int32) (a5 : Nat) (a6 : Nat) (x7 : Int32) (k0 : ClassId) (a7 : Nat) (a8 : Nat) (a9 : Nat) (a10 : Nat) (a11 : Nat) (a12 : Nat) (a13 : Nat) (a14 : Nat) (x8 : Int32) (o0 : Option Nat) (a15 : Nat) (a16 : Nat) (x9 : Int32) (o1 : Option Nat) (a17 : Nat) (a18 : Nat) (x10 : Int32) (o2 : Option Nat) (a19 : Nat) (a20 : Nat) (x11 : Int32) (o3 : Option Nat) (a21 : Nat) (a22 : Nat) (x12 : Int32) (o4 : Option Nat) (a23 : Nat) (a24 : Nat) (x13 : Int32) (o5 : Option Nat) (a25 : Nat) (a26 : Nat) (a27 : Nat) (x14 : Int32) (x15 : Int32) (x16 : Int32) (x17 : Int32) (x18 : Int32) (x19 : Int32) (k1 : ClassId) (f0 : Nat → Int32) (k2 : ClassId) (f1 : Nat → Int32) (hx2 : -1 ≤ x2.toInt ∧ x2.toInt ≤ 5) (hx8 : 0 ≤ x8.toInt ∧ x8.toInt ≤ 12) (ho0 : ∀ a : Nat, o0 = some a → F a) (hx9 : 0 ≤ x9.toInt ∧ x9.toInt ≤ 12) (ho1 : ∀ a : Nat, o1 = some a → F a) (hx10 : 0 ≤ x10.toInt ∧ x10.toInt ≤ 12) (ho2 : ∀ a : Nat, o2 = some a → F a) (hx11 : 0 ≤ x11.toInt ∧ x11.toInt ≤ 12) (ho3 : ∀ a : Nat, o3 = some a → F a) (hx12 : 0 ≤ x12.toInt ∧ x12.toInt ≤ 12) (ho4 : ∀ a : Nat, o4 = some a → F a) (hx13 : 0 ≤ x13.toInt ∧ x13.toInt ≤ 12) (ho5 : ∀ a : Nat, o5 = some a → F a) (hx14 : 0 ≤ x14.toInt ∧ x14.toInt ≤ 10) : ka_R l D F yX6_caseOf wsX6_caseOf 4 84 [.ref a0, .int x0, .int x1] [(a0, .inr (6, [.ref a1, .ref a2, .ref a3, .ref a4, .int x2, .int x3, .int x4, .int x5, .int x6])), (a3, .inr (0, [.ref a5, .ref a6, .int x7])), (a5, .inl (k0, 6, .inr (.inr (.inr (.inr (va_up (va_up (va_up (va_up (va_up (va_up (fun _ => none) 0 (some a7)) 1 (some a8)) 2 (some a9)) 3 (some a10)) 4 (some a11)) 5 (some a12))))))), (a7, .inr (2, [.ref a13, .ref a14, .int x8, va_rf o0])), (a8, .inr (2, [.ref a15, .ref a16, .int x9, va_rf o1])), (a9, .inr (2, [.ref a17, .ref a18, .int x10, va_rf o2])), (a10, .inr (2, [.ref a19, .ref a20, .int x11, va_rf o3])), (a11, .inr (2, [.ref a21, .ref a22, .int x12, va_rf o4])), (a12, .inr (2, [.ref a23, .ref a24, .int x13, va_rf o5])), (a4, .inr (4, [.ref a25, .ref a26, .ref a27, .int x14, .int x15, .int x16, .int x17, .int x18, .int x19])), (a25, .inl (k1, 32, .inl f0)), (a26, .inl (k2, 32, .inl f1))] [(k0, .object RX2), (k1, .int), (k2, .int)] (fun v => ∃ x : Int32, v = some (.int x)) := by
  refine ka_R_of (cc := cX6_caseOf) (maxL := 4) (ret := (some .int)) (by decide) rfl (Nat.le_of_ble_eq_true rfl) ?_
  intro p e s m below meth c ls C hr hlk hP hK hE hN hl
  have hS : va_S (fun _ => False) s.heap s.heap [] := va_S.rf
  have C : CallFix p m c cX6_caseOf 4 s [.ref a0, .int x0, .int x1].toArray wsX6_caseOf RX6 := C
  obtain ⟨hx, hb, hml, hown, hts⟩ := id C
  have hl : lv_has ls 4 [(0, .ref a0), (1, .int x0), (2, .int x1)] := hl
  have rx0 := ka_rng x0
  have rx1 := ka_rng x1
  have rx2 := ka_rng x2
  have rx3 := ka_rng x3
  have rx4 := ka_rng x4
  have rx5 := ka_rng x5
  have rx6 := ka_rng x6
  have rx7 := ka_rng x7
  have rx8 := ka_rng x8
  have rx9 := ka_rng x9
  have rx10 := ka_rng x10
  have rx11 := ka_rng x11
  have rx12 := ka_rng x12
  have rx13 := ka_rng x13
  have rx14 := ka_rng x14
  have rx15 := ka_rng x15
  have rx16 := ka_rng x16
  have rx17 := ka_rng x17
  have rx18 := ka_rng x18
  have rx19 := ka_rng x19
  rcases (show x1.toInt ≤ -1 ∨ x1.toInt = 0 ∨ x1.toInt = 1 ∨ x1.toInt = 2 ∨ 3 ≤ x1.toInt by omega) with y_21800 | y_21800 | y_21800 | y_21800 | y_21800
  · skip
    refine lv_aload_n hx hb dX6_caseOf_0 rfl (lv_at hl 0 rfl) ?_
    refine ka_RV (n := 0) C (cg_X6_begunLaw_169 l D F a0 a1 a2 a3 a4 x2 x3 x4 x5 x6 a5 a6 x7 k0 a7 a8 a9 a10 a11 a12 a13 a14 x8 o0 a15 a16 x9 o1 a17 a18 x10 o2 a19 a20 x11 o3 a21 a22 x12 o4 a23 a24 x13 o5 ⟨by omega, by omega⟩ ⟨by omega, by omega⟩ ho0 ⟨by omega, by omega⟩ ho1 ⟨by omega, by omega⟩ ho2 ⟨by omega, by omega⟩ ho3 ⟨by omega, by omega⟩ ho4 ⟨by omega, by omega⟩ ho5) gX6_caseOf_X6_begunLaw rfl (by decide +kernel) ⟨Nat.le_of_ble_eq_true rfl, Nat.le_of_ble_eq_true rfl⟩ hK hP hS hE hN [0, 1, 2, 3, 4, 5, 6, 7, 8] rfl [0] rfl (ci := 6) rfl rfl 0 rfl rfl hl.1 (rest := []) rfl (Nat.le_of_ble_eq_true rfl) dX6_caseOf_1 ⟨Nat.le_of_ble_eq_true rfl, Nat.le_of_ble_eq_true rfl⟩ (fun v hv => ?_)
    obtain ⟨o_21801, rfl, ho_21801⟩ := hv
    refine ka_stk (w := [va_rf o_21801]) rfl ?_
    refine kb_astore_n (lv' := [(3, va_rf o_21801), (0, .ref a0), (1, .int x0), (2, .int x1)]) hx hb dX6_caseOf_4 rfl hl (by decide) (by first | rfl | simp [kb_rfc]) (fun ls hl => ?_)
    refine kb_aload_n hx hb dX6_caseOf_5 rfl (lv_at hl 0 rfl) ?_
    refine kb_ifnull (tgt := 16) hx hb dX6_caseOf_6 (by decide) (fun hfa_21802 => ?_) (fun fa_21802 hfa_21802 => ?_)
    · skip
      refine lv_iconst (v := (-1)) hx hb dX6_caseOf_16 (by decide) ?_
      exact ka_rRi C hr hlk ⟨_, rfl⟩ dX6_caseOf_17
    · have Ffa_21802 : F fa_21802 := ho_21801 fa_21802 hfa_21802
      refine lv_iload_n hx hb dX6_caseOf_9 rfl (lv_at hl 2 rfl) ?_
      refine ka_RS (n := 1) C (cg_X6_isCase_171 l D F x0) gX6_caseOf_X6_isCase rfl (by decide +kernel) ⟨Nat.le_of_ble_eq_true rfl, Nat.le_of_ble_eq_true rfl⟩ hK hP hS hE hN [] rfl [] rfl rfl hl.1 (rest := []) rfl (Nat.le_of_ble_eq_true rfl) dX6_caseOf_10 ⟨Nat.le_of_ble_eq_true rfl, Nat.le_of_ble_eq_true rfl⟩ (fun v hv => ?_)
      obtain ⟨v_21803, rfl, hv_21803⟩ := hv
      have rv_21803 := ka_rng v_21803
      refine ka_stk (w := [.int v_21803]) rfl ?_
      refine lv_if_ne (tgt := 18) hx hb dX6_caseOf_13 (by decide) (fun c_21804 => ?_) (fun c_21804 => ?_)
      · have c_21804 : ¬ v_21803.toInt = 0 := by rw [ka_eq', show ((0 : Int32)).toInt = 0 from by decide] at c_21804; exact c_21804
        refine lv_iload_n hx hb dX6_caseOf_18 rfl (lv_at hl 3 rfl) ?_
        refine lv_tableOut (tgt := 75) hx hb dX6_caseOf_19 (by omega) (by decide) ?_
        refine lv_iconst (v := (-1)) hx hb dX6_caseOf_75 (by decide) ?_
        exact ka_rRi C hr hlk ⟨_, rfl⟩ dX6_caseOf_76
      · have c_21804 : v_21803.toInt = 0 := by rw [ka_eq', show ((0 : Int32)).toInt = 0 from by decide] at c_21804; exact c_21804
        refine lv_iconst (v := (-1)) hx hb dX6_caseOf_16 (by decide) ?_
        exact ka_rRi C hr hlk ⟨_, rfl⟩ dX6_caseOf_17
  · obtain rfl : x1 = 0 := (ka_eq' _ _).mpr (y_21800.trans (by decide))
    refine lv_aload_n hx hb dX6_caseOf_0 rfl (lv_at hl 0 rfl) ?_
    refine ka_RV (n := 0) C (cg_X6_begunLaw_169 l D F a0 a1 a2 a3 a4 x2 x3 x4 x5 x6 a5 a6 x7 k0 a7 a8 a9 a10 a11 a12 a13 a14 x8 o0 a15 a16 x9 o1 a17 a18 x10 o2 a19 a20 x11 o3 a21 a22 x12 o4 a23 a24 x13 o5 ⟨by omega, by omega⟩ ⟨by omega, by omega⟩ ho0 ⟨by omega, by omega⟩ ho1 ⟨by omega, by omega⟩ ho2 ⟨by omega, by omega⟩ ho3 ⟨by omega, by omega⟩ ho4 ⟨by omega, by omega⟩ ho5) gX6_caseOf_X6_begunLaw rfl (by decide +kernel) ⟨Nat.le_of_ble_eq_true rfl, Nat.le_of_ble_eq_true rfl⟩ hK hP hS hE hN [0, 1, 2, 3, 4, 5, 6, 7, 8] rfl [0] rfl (ci := 6) rfl rfl 0 rfl rfl hl.1 (rest := []) rfl (Nat.le_of_ble_eq_true rfl) dX6_caseOf_1 ⟨Nat.le_of_ble_eq_true rfl, Nat.le_of_ble_eq_true rfl⟩ (fun v hv => ?_)
    obtain ⟨o_21805, rfl, ho_21805⟩ := hv
    refine ka_stk (w := [va_rf o_21805]) rfl ?_
    refine kb_astore_n (lv' := [(3, va_rf o_21805), (0, .ref a0), (1, .int x0), (2, .int 0)]) hx hb dX6_caseOf_4 rfl hl (by decide) (by first | rfl | simp [kb_rfc]) (fun ls hl => ?_)
    refine kb_aload_n hx hb dX6_caseOf_5 rfl (lv_at hl 0 rfl) ?_
    refine kb_ifnull (tgt := 16) hx hb dX6_caseOf_6 (by decide) (fun hfa_21806 => ?_) (fun fa_21806 hfa_21806 => ?_)
    · skip
      refine lv_iconst (v := (-1)) hx hb dX6_caseOf_16 (by decide) ?_
      exact ka_rRi C hr hlk ⟨_, rfl⟩ dX6_caseOf_17
    · have Ffa_21806 : F fa_21806 := ho_21805 fa_21806 hfa_21806
      refine lv_iload_n hx hb dX6_caseOf_9 rfl (lv_at hl 2 rfl) ?_
      refine ka_RS (n := 1) C (cg_X6_isCase_171 l D F x0) gX6_caseOf_X6_isCase rfl (by decide +kernel) ⟨Nat.le_of_ble_eq_true rfl, Nat.le_of_ble_eq_true rfl⟩ hK hP hS hE hN [] rfl [] rfl rfl hl.1 (rest := []) rfl (Nat.le_of_ble_eq_true rfl) dX6_caseOf_10 ⟨Nat.le_of_ble_eq_true rfl, Nat.le_of_ble_eq_true rfl⟩ (fun v hv => ?_)
      obtain ⟨v_21807, rfl, hv_21807⟩ := hv
      have rv_21807 := ka_rng v_21807
      refine ka_stk (w := [.int v_21807]) rfl ?_
      refine lv_if_ne (tgt := 18) hx hb dX6_caseOf_13 (by decide) (fun c_21808 => ?_) (fun c_21808 => ?_)
      · have c_21808 : ¬ v_21807.toInt = 0 := by rw [ka_eq', show ((0 : Int32)).toInt = 0 from by decide] at c_21808; exact c_21808
        refine lv_iload_n hx hb dX6_caseOf_18 rfl (lv_at hl 3 rfl) ?_
        refine lv_tableIn (off := 25) (tgt := 44) hx hb dX6_caseOf_19 (by decide) (by decide) (by decide) (by decide) ?_
        refine lv_aload_n hx hb dX6_caseOf_44 rfl (lv_at hl 1 rfl) ?_
        refine ka_get C lq_233 rfl hK hP 0 rfl 3 (by decide) lq_234 rfl dX6_caseOf_45 ?_
        refine lv_iload_n hx hb dX6_caseOf_48 rfl (lv_at hl 2 rfl) ?_
        refine ka_RV (n := 1) C (cg_X4_timesAsked_9 l D F a4 x0 a25 a26 a27 x14 x15 x16 x17 x18 x19 k1 f0 k2 f1 ⟨by omega, by omega⟩) gX6_caseOf_X4_timesAsked rfl (by decide +kernel) ⟨Nat.le_of_ble_eq_true rfl, Nat.le_of_ble_eq_true rfl⟩ hK hP hS hE hN [9, 10, 11] rfl [1, 2] rfl (ci := 4) rfl rfl 9 rfl rfl hl.1 (rest := []) rfl (Nat.le_of_ble_eq_true rfl) dX6_caseOf_49 ⟨Nat.le_of_ble_eq_true rfl, Nat.le_of_ble_eq_true rfl⟩ (fun v hv => ?_)
        obtain ⟨v_21809, rfl⟩ := hv
        have rv_21809 := ka_rng v_21809
        refine ka_stk (w := [.int v_21809]) rfl ?_
        exact ka_rRi C hr hlk ⟨_, rfl⟩ dX6_caseOf_52
      · have c_21808 : v_21807.toInt = 0 := by rw [ka_eq', show ((0 : Int32)).toInt = 0 from by decide] at c_21808; exact c_21808
        refine lv_iconst (v := (-1)) hx hb dX6_caseOf_16 (by decide) ?_
        exact ka_rRi C hr hlk ⟨_, rfl⟩ dX6_caseOf_17
  · obtain rfl : x1 = 1 := (ka_eq' _ _).mpr (y_21800.trans (by decide))
    refine lv_aload_n hx hb dX6_caseOf_0 rfl (lv_at hl 0 rfl) ?_
    refine ka_RV (n := 0) C (cg_X6_begunLaw_169 l D F a0 a1 a2 a3 a4 x2 x3 x4 x5 x6 a5 a6 x7 k0 a7 a8 a9 a10 a11 a12 a13 a14 x8 o0 a15 a16 x9 o1 a17 a18 x10 o2 a19 a20 x11 o3 a21 a22 x12 o4 a23 a24 x13 o5 ⟨by omega, by omega⟩ ⟨by omega, by omega⟩ ho0 ⟨by omega, by omega⟩ ho1 ⟨by omega, by omega⟩ ho2 ⟨by omega, by omega⟩ ho3 ⟨by omega, by omega⟩ ho4 ⟨by omega, by omega⟩ ho5) gX6_caseOf_X6_begunLaw rfl (by decide +kernel) ⟨Nat.le_of_ble_eq_true rfl, Nat.le_of_ble_eq_true rfl⟩ hK hP hS hE hN [0, 1, 2, 3, 4, 5, 6, 7, 8] rfl [0] rfl (ci := 6) rfl rfl 0 rfl rfl hl.1 (rest := []) rfl (Nat.le_of_ble_eq_true rfl) dX6_caseOf_1 ⟨Nat.le_of_ble_eq_true rfl, Nat.le_of_ble_eq_true rfl⟩ (fun v hv => ?_)
    obtain ⟨o_21810, rfl, ho_21810⟩ := hv
    refine ka_stk (w := [va_rf o_21810]) rfl ?_
    refine kb_astore_n (lv' := [(3, va_rf o_21810), (0, .ref a0), (1, .int x0), (2, .int 1)]) hx hb dX6_caseOf_4 rfl hl (by decide) (by first | rfl | simp [kb_rfc]) (fun ls hl => ?_)
    refine kb_aload_n hx hb dX6_caseOf_5 rfl (lv_at hl 0 rfl) ?_
    refine kb_ifnull (tgt := 16) hx hb dX6_caseOf_6 (by decide) (fun hfa_21811 => ?_) (fun fa_21811 hfa_21811 => ?_)
    · skip
      refine lv_iconst (v := (-1)) hx hb dX6_caseOf_16 (by decide) ?_
      exact ka_rRi C hr hlk ⟨_, rfl⟩ dX6_caseOf_17
    · have Ffa_21811 : F fa_21811 := ho_21810 fa_21811 hfa_21811
      refine lv_iload_n hx hb dX6_caseOf_9 rfl (lv_at hl 2 rfl) ?_
      refine ka_RS (n := 1) C (cg_X6_isCase_171 l D F x0) gX6_caseOf_X6_isCase rfl (by decide +kernel) ⟨Nat.le_of_ble_eq_true rfl, Nat.le_of_ble_eq_true rfl⟩ hK hP hS hE hN [] rfl [] rfl rfl hl.1 (rest := []) rfl (Nat.le_of_ble_eq_true rfl) dX6_caseOf_10 ⟨Nat.le_of_ble_eq_true rfl, Nat.le_of_ble_eq_true rfl⟩ (fun v hv => ?_)
      obtain ⟨v_21812, rfl, hv_21812⟩ := hv
      have rv_21812 := ka_rng v_21812
      refine ka_stk (w := [.int v_21812]) rfl ?_
      refine lv_if_ne (tgt := 18) hx hb dX6_caseOf_13 (by decide) (fun c_21813 => ?_) (fun c_21813 => ?_)
      · have c_21813 : ¬ v_21812.toInt = 0 := by rw [ka_eq', show ((0 : Int32)).toInt = 0 from by decide] at c_21813; exact c_21813
        refine lv_iload_n hx hb dX6_caseOf_18 rfl (lv_at hl 3 rfl) ?_
        refine lv_tableIn (off := 34) (tgt := 53) hx hb dX6_caseOf_19 (by decide) (by decide) (by decide) (by decide) ?_
        refine lv_aload_n hx hb dX6_caseOf_53 rfl (lv_at hl 1 rfl) ?_
        refine ka_get C lq_233 rfl hK hP 0 rfl 3 (by decide) lq_234 rfl dX6_caseOf_54 ?_
        refine lv_iload_n hx hb dX6_caseOf_57 rfl (lv_at hl 2 rfl) ?_
        refine kb_aload_n hx hb dX6_caseOf_58 rfl (lv_at hl 0 rfl) ?_
        refine ka_top (w := .ref fa_21811) (by rw [hfa_21811]; rfl) ?_
        obtain ⟨tru_21814, txu_21814, kku_21814, nnu_21814, ffu_21814, hnu_21814, hPu_21814, hKu_21814, -, -⟩ := (ka_FP_kept hE.2 hS.2.1) fa_21811 Ffa_21811
        refine ka_get C lq_235 rfl hKu_21814 hPu_21814 0 rfl 0 (by decide) lq_236 rfl dX6_caseOf_59 ?_
        have rtru_21814 := ka_rng tru_21814
        refine ka_RV (n := 2) C (cg_X4_wrongOf_8 l D F a4 x0 tru_21814 a25 a26 a27 x14 x15 x16 x17 x18 x19 k1 f0 k2 f1 ⟨by omega, by omega⟩) gX6_caseOf_X4_wrongOf rfl (by decide +kernel) ⟨Nat.le_of_ble_eq_true rfl, Nat.le_of_ble_eq_true rfl⟩ hK hP hS hE hN [9, 10, 11] rfl [1, 2] rfl (ci := 4) rfl rfl 9 rfl rfl hl.1 (rest := []) rfl (Nat.le_of_ble_eq_true rfl) dX6_caseOf_62 ⟨Nat.le_of_ble_eq_true rfl, Nat.le_of_ble_eq_true rfl⟩ (fun v hv => ?_)
        obtain ⟨v_21815, rfl⟩ := hv
        have rv_21815 := ka_rng v_21815
        refine ka_stk (w := [.int v_21815]) rfl ?_
        exact ka_rRi C hr hlk ⟨_, rfl⟩ dX6_caseOf_65
      · have c_21813 : v_21812.toInt = 0 := by rw [ka_eq', show ((0 : Int32)).toInt = 0 from by decide] at c_21813; exact c_21813
        refine lv_iconst (v := (-1)) hx hb dX6_caseOf_16 (by decide) ?_
        exact ka_rRi C hr hlk ⟨_, rfl⟩ dX6_caseOf_17
  · obtain rfl : x1 = 2 := (ka_eq' _ _).mpr (y_21800.trans (by decide))
    refine lv_aload_n hx hb dX6_caseOf_0 rfl (lv_at hl 0 rfl) ?_
    refine ka_RV (n := 0) C (cg_X6_begunLaw_169 l D F a0 a1 a2 a3 a4 x2 x3 x4 x5 x6 a5 a6 x7 k0 a7 a8 a9 a10 a11 a12 a13 a14 x8 o0 a15 a16 x9 o1 a17 a18 x10 o2 a19 a20 x11 o3 a21 a22 x12 o4 a23 a24 x13 o5 ⟨by omega, by omega⟩ ⟨by omega, by omega⟩ ho0 ⟨by omega, by omega⟩ ho1 ⟨by omega, by omega⟩ ho2 ⟨by omega, by omega⟩ ho3 ⟨by omega, by omega⟩ ho4 ⟨by omega, by omega⟩ ho5) gX6_caseOf_X6_begunLaw rfl (by decide +kernel) ⟨Nat.le_of_ble_eq_true rfl, Nat.le_of_ble_eq_true rfl⟩ hK hP hS hE hN [0, 1, 2, 3, 4, 5, 6, 7, 8] rfl [0] rfl (ci := 6) rfl rfl 0 rfl rfl hl.1 (rest := []) rfl (Nat.le_of_ble_eq_true rfl) dX6_caseOf_1 ⟨Nat.le_of_ble_eq_true rfl, Nat.le_of_ble_eq_true rfl⟩ (fun v hv => ?_)
    obtain ⟨o_21816, rfl, ho_21816⟩ := hv
    refine ka_stk (w := [va_rf o_21816]) rfl ?_
    refine kb_astore_n (lv' := [(3, va_rf o_21816), (0, .ref a0), (1, .int x0), (2, .int 2)]) hx hb dX6_caseOf_4 rfl hl (by decide) (by first | rfl | simp [kb_rfc]) (fun ls hl => ?_)
    refine kb_aload_n hx hb dX6_caseOf_5 rfl (lv_at hl 0 rfl) ?_
    refine kb_ifnull (tgt := 16) hx hb dX6_caseOf_6 (by decide) (fun hfa_21817 => ?_) (fun fa_21817 hfa_21817 => ?_)
    · skip
      refine lv_iconst (v := (-1)) hx hb dX6_caseOf_16 (by decide) ?_
      exact ka_rRi C hr hlk ⟨_, rfl⟩ dX6_caseOf_17
    · have Ffa_21817 : F fa_21817 := ho_21816 fa_21817 hfa_21817
      refine lv_iload_n hx hb dX6_caseOf_9 rfl (lv_at hl 2 rfl) ?_
      refine ka_RS (n := 1) C (cg_X6_isCase_171 l D F x0) gX6_caseOf_X6_isCase rfl (by decide +kernel) ⟨Nat.le_of_ble_eq_true rfl, Nat.le_of_ble_eq_true rfl⟩ hK hP hS hE hN [] rfl [] rfl rfl hl.1 (rest := []) rfl (Nat.le_of_ble_eq_true rfl) dX6_caseOf_10 ⟨Nat.le_of_ble_eq_true rfl, Nat.le_of_ble_eq_true rfl⟩ (fun v hv => ?_)
      obtain ⟨v_21818, rfl, hv_21818⟩ := hv
      have rv_21818 := ka_rng v_21818
      refine ka_stk (w := [.int v_21818]) rfl ?_
      refine lv_if_ne (tgt := 18) hx hb dX6_caseOf_13 (by decide) (fun c_21819 => ?_) (fun c_21819 => ?_)
      · have c_21819 : ¬ v_21818.toInt = 0 := by rw [ka_eq', show ((0 : Int32)).toInt = 0 from by decide] at c_21819; exact c_21819
        refine lv_iload_n hx hb dX6_caseOf_18 rfl (lv_at hl 3 rfl) ?_
        refine lv_tableIn (off := 47) (tgt := 66) hx hb dX6_caseOf_19 (by decide) (by decide) (by decide) (by decide) ?_
        refine lv_aload_n hx hb dX6_caseOf_66 rfl (lv_at hl 1 rfl) ?_
        refine ka_get C lq_233 rfl hK hP 0 rfl 3 (by decide) lq_234 rfl dX6_caseOf_67 ?_
        refine lv_iload_n hx hb dX6_caseOf_70 rfl (lv_at hl 2 rfl) ?_
        refine ka_RV (n := 1) C (cg_X4_latestOf_10 l D F a4 x0 a25 a26 a27 x14 x15 x16 x17 x18 x19 ⟨by omega, by omega⟩) gX6_caseOf_X4_latestOf rfl (by decide +kernel) ⟨Nat.le_of_ble_eq_true rfl, Nat.le_of_ble_eq_true rfl⟩ hK hP hS hE hN [9] rfl [] rfl (ci := 4) rfl rfl 9 rfl rfl hl.1 (rest := []) rfl (Nat.le_of_ble_eq_true rfl) dX6_caseOf_71 ⟨Nat.le_of_ble_eq_true rfl, Nat.le_of_ble_eq_true rfl⟩ (fun v hv => ?_)
        obtain ⟨v_21820, rfl, hv_21820⟩ := hv
        have rv_21820 := ka_rng v_21820
        refine ka_stk (w := [.int v_21820]) rfl ?_
        exact ka_rRi C hr hlk ⟨_, rfl⟩ dX6_caseOf_74
      · have c_21819 : v_21818.toInt = 0 := by rw [ka_eq', show ((0 : Int32)).toInt = 0 from by decide] at c_21819; exact c_21819
        refine lv_iconst (v := (-1)) hx hb dX6_caseOf_16 (by decide) ?_
        exact ka_rRi C hr hlk ⟨_, rfl⟩ dX6_caseOf_17
  · skip
    refine lv_aload_n hx hb dX6_caseOf_0 rfl (lv_at hl 0 rfl) ?_
    refine ka_RV (n := 0) C (cg_X6_begunLaw_169 l D F a0 a1 a2 a3 a4 x2 x3 x4 x5 x6 a5 a6 x7 k0 a7 a8 a9 a10 a11 a12 a13 a14 x8 o0 a15 a16 x9 o1 a17 a18 x10 o2 a19 a20 x11 o3 a21 a22 x12 o4 a23 a24 x13 o5 ⟨by omega, by omega⟩ ⟨by omega, by omega⟩ ho0 ⟨by omega, by omega⟩ ho1 ⟨by omega, by omega⟩ ho2 ⟨by omega, by omega⟩ ho3 ⟨by omega, by omega⟩ ho4 ⟨by omega, by omega⟩ ho5) gX6_caseOf_X6_begunLaw rfl (by decide +kernel) ⟨Nat.le_of_ble_eq_true rfl, Nat.le_of_ble_eq_true rfl⟩ hK hP hS hE hN [0, 1, 2, 3, 4, 5, 6, 7, 8] rfl [0] rfl (ci := 6) rfl rfl 0 rfl rfl hl.1 (rest := []) rfl (Nat.le_of_ble_eq_true rfl) dX6_caseOf_1 ⟨Nat.le_of_ble_eq_true rfl, Nat.le_of_ble_eq_true rfl⟩ (fun v hv => ?_)
    obtain ⟨o_21821, rfl, ho_21821⟩ := hv
    refine ka_stk (w := [va_rf o_21821]) rfl ?_
    refine kb_astore_n (lv' := [(3, va_rf o_21821), (0, .ref a0), (1, .int x0), (2, .int x1)]) hx hb dX6_caseOf_4 rfl hl (by decide) (by first | rfl | simp [kb_rfc]) (fun ls hl => ?_)
    refine kb_aload_n hx hb dX6_caseOf_5 rfl (lv_at hl 0 rfl) ?_
    refine kb_ifnull (tgt := 16) hx hb dX6_caseOf_6 (by decide) (fun hfa_21822 => ?_) (fun fa_21822 hfa_21822 => ?_)
    · skip
      refine lv_iconst (v := (-1)) hx hb dX6_caseOf_16 (by decide) ?_
      exact ka_rRi C hr hlk ⟨_, rfl⟩ dX6_caseOf_17
    · have Ffa_21822 : F fa_21822 := ho_21821 fa_21822 hfa_21822
      refine lv_iload_n hx hb dX6_caseOf_9 rfl (lv_at hl 2 rfl) ?_
      refine ka_RS (n := 1) C (cg_X6_isCase_171 l D F x0) gX6_caseOf_X6_isCase rfl (by decide +kernel) ⟨Nat.le_of_ble_eq_true rfl, Nat.le_of_ble_eq_true rfl⟩ hK hP hS hE hN [] rfl [] rfl rfl hl.1 (rest := []) rfl (Nat.le_of_ble_eq_true rfl) dX6_caseOf_10 ⟨Nat.le_of_ble_eq_true rfl, Nat.le_of_ble_eq_true rfl⟩ (fun v hv => ?_)
      obtain ⟨v_21823, rfl, hv_21823⟩ := hv
      have rv_21823 := ka_rng v_21823
      refine ka_stk (w := [.int v_21823]) rfl ?_
      refine lv_if_ne (tgt := 18) hx hb dX6_caseOf_13 (by decide) (fun c_21824 => ?_) (fun c_21824 => ?_)
      · have c_21824 : ¬ v_21823.toInt = 0 := by rw [ka_eq', show ((0 : Int32)).toInt = 0 from by decide] at c_21824; exact c_21824
        refine lv_iload_n hx hb dX6_caseOf_18 rfl (lv_at hl 3 rfl) ?_
        refine lv_tableOut (tgt := 75) hx hb dX6_caseOf_19 (by omega) (by decide) ?_
        refine lv_iconst (v := (-1)) hx hb dX6_caseOf_75 (by decide) ?_
        exact ka_rRi C hr hlk ⟨_, rfl⟩ dX6_caseOf_76
      · have c_21824 : v_21823.toInt = 0 := by rw [ka_eq', show ((0 : Int32)).toInt = 0 from by decide] at c_21824; exact c_21824
        refine lv_iconst (v := (-1)) hx hb dX6_caseOf_16 (by decide) ?_
        exact ka_rRi C hr hlk ⟨_, rfl⟩ dX6_caseOf_17
set_option maxHeartbeats 4000000 in
set_option maxRecDepth 100000 in
theorem cg_X6_leftOf_201 (l : Launch) (D : va_G) (F : Nat → Prop) (a0 : Nat) : ka_R l D F yX6_leftOf wsX6_leftOf 0 0 [.ref a0, .null] [] [] (fun v => v = some (.int 0)) := by
  refine ka_R_of (cc := cX6_leftOf) (maxL := 5) (ret := (some .int)) (by decide) rfl (Nat.le_of_ble_eq_true rfl) ?_
  intro p e s m below meth c ls C hr hlk hP hK hE hN hl
  have hS : va_S (fun _ => False) s.heap s.heap [] := va_S.rf
  have C : CallFix p m c cX6_leftOf 5 s [.ref a0, .null].toArray wsX6_leftOf RX6 := C
  obtain ⟨hx, hb, hml, hown, hts⟩ := id C
  have hl : lv_has ls 5 [(0, .ref a0), (1, .null)] := hl
  refine lv_aload_nN hx hb dX6_leftOf_0 rfl (lv_at hl 1 rfl) ?_
  refine lv_ifnonnullN hx hb dX6_leftOf_1 ?_
  refine lv_iconst (v := 0) hx hb dX6_leftOf_4 (by decide) ?_
  exact ka_rRi C hr hlk rfl dX6_leftOf_5
set_option maxHeartbeats 4000000 in
set_option maxRecDepth 100000 in
theorem cg_J6_bitCount_0f7a4_202 (l : Launch) (D : va_G) (F : Nat → Prop) : ka_R l D F yJ6_bitCount_0f7a4 wsJ6_bitCount_0f7a4 0 0 [.int 0] [] [] (fun v => v = some (.int 0)) := by
  refine ka_R_of (cc := cJ6_bitCount_0f7a4) (maxL := 1) (ret := (some .int)) (by decide) rfl (Nat.le_of_ble_eq_true rfl) ?_
  intro p e s m below meth c ls C hr hlk hP hK hE hN hl
  have hS : va_S (fun _ => False) s.heap s.heap [] := va_S.rf
  have C : CallFix p m c cJ6_bitCount_0f7a4 1 s [.int 0].toArray wsJ6_bitCount_0f7a4 RJ6 := C
  obtain ⟨hx, hb, hml, hown, hts⟩ := id C
  have hl : lv_has ls 1 [(0, .int 0)] := hl
  refine lv_iload_n hx hb dJ6_bitCount_0f7a4_0 rfl (lv_at hl 0 rfl) ?_
  refine lv_iload_n hx hb dJ6_bitCount_0f7a4_1 rfl (lv_at hl 0 rfl) ?_
  refine lv_iconst (v := 1) hx hb dJ6_bitCount_0f7a4_2 (by decide) ?_
  refine lv_iushr (v := 0) hx hb dJ6_bitCount_0f7a4_3 (by decide) ?_
  refine lv_ldcw (v := 1431655765) hx hb hown (hts _ lq_76) dJ6_bitCount_0f7a4_4 ?_
  refine lv_iand hx hb dJ6_bitCount_0f7a4_7 ?_
  refine ka_top (w := .int 0) (congrArg Value.int (by decide)) ?_
  refine lv_isub hx hb dJ6_bitCount_0f7a4_8 ?_
  refine ka_top (w := .int 0) (congrArg Value.int (by decide)) ?_
  refine lv_istore_n (lv' := [(0, .int 0)]) hx hb dJ6_bitCount_0f7a4_9 rfl hl (by decide) rfl (fun ls hl => ?_)
  refine lv_iload_n hx hb dJ6_bitCount_0f7a4_10 rfl (lv_at hl 0 rfl) ?_
  refine lv_ldcw (v := 858993459) hx hb hown (hts _ lq_77) dJ6_bitCount_0f7a4_11 ?_
  refine lv_iand hx hb dJ6_bitCount_0f7a4_14 ?_
  refine ka_top (w := .int 0) (congrArg Value.int (by decide)) ?_
  refine lv_iload_n hx hb dJ6_bitCount_0f7a4_15 rfl (lv_at hl 0 rfl) ?_
  refine lv_iconst (v := 2) hx hb dJ6_bitCount_0f7a4_16 (by decide) ?_
  refine lv_iushr (v := 0) hx hb dJ6_bitCount_0f7a4_17 (by decide) ?_
  refine lv_ldcw (v := 858993459) hx hb hown (hts _ lq_77) dJ6_bitCount_0f7a4_18 ?_
  refine lv_iand hx hb dJ6_bitCount_0f7a4_21 ?_
  refine ka_top (w := .int 0) (congrArg Value.int (by decide)) ?_
  refine lv_iadd hx hb dJ6_bitCount_0f7a4_22 ?_
  refine ka_top (w := .int 0) (congrArg Value.int (by decide)) ?_
  refine lv_istore_n (lv' := [(0, .int 0)]) hx hb dJ6_bitCount_0f7a4_23 rfl hl (by decide) rfl (fun ls hl => ?_)
  refine lv_iload_n hx hb dJ6_bitCount_0f7a4_24 rfl (lv_at hl 0 rfl) ?_
  refine lv_iload_n hx hb dJ6_bitCount_0f7a4_25 rfl (lv_at hl 0 rfl) ?_
  refine lv_iconst (v := 4) hx hb dJ6_bitCount_0f7a4_26 (by decide) ?_
  refine lv_iushr (v := 0) hx hb dJ6_bitCount_0f7a4_27 (by decide) ?_
  refine lv_iadd hx hb dJ6_bitCount_0f7a4_28 ?_
  refine ka_top (w := .int 0) (congrArg Value.int (by decide)) ?_
  refine lv_ldcw (v := 252645135) hx hb hown (hts _ lq_78) dJ6_bitCount_0f7a4_29 ?_
  refine lv_iand hx hb dJ6_bitCount_0f7a4_32 ?_
  refine ka_top (w := .int 0) (congrArg Value.int (by decide)) ?_
  refine lv_istore_n (lv' := [(0, .int 0)]) hx hb dJ6_bitCount_0f7a4_33 rfl hl (by decide) rfl (fun ls hl => ?_)
  refine lv_iload_n hx hb dJ6_bitCount_0f7a4_34 rfl (lv_at hl 0 rfl) ?_
  refine lv_iload_n hx hb dJ6_bitCount_0f7a4_35 rfl (lv_at hl 0 rfl) ?_
  refine lv_bipush (v := 8) hx hb dJ6_bitCount_0f7a4_36 (by decide) ?_
  refine lv_iushr (v := 0) hx hb dJ6_bitCount_0f7a4_38 (by decide) ?_
  refine lv_iadd hx hb dJ6_bitCount_0f7a4_39 ?_
  refine ka_top (w := .int 0) (congrArg Value.int (by decide)) ?_
  refine lv_istore_n (lv' := [(0, .int 0)]) hx hb dJ6_bitCount_0f7a4_40 rfl hl (by decide) rfl (fun ls hl => ?_)
  refine lv_iload_n hx hb dJ6_bitCount_0f7a4_41 rfl (lv_at hl 0 rfl) ?_
  refine lv_iload_n hx hb dJ6_bitCount_0f7a4_42 rfl (lv_at hl 0 rfl) ?_
  refine lv_bipush (v := 16) hx hb dJ6_bitCount_0f7a4_43 (by decide) ?_
  refine lv_iushr (v := 0) hx hb dJ6_bitCount_0f7a4_45 (by decide) ?_
  refine lv_iadd hx hb dJ6_bitCount_0f7a4_46 ?_
  refine ka_top (w := .int 0) (congrArg Value.int (by decide)) ?_
  refine lv_istore_n (lv' := [(0, .int 0)]) hx hb dJ6_bitCount_0f7a4_47 rfl hl (by decide) rfl (fun ls hl => ?_)
  refine lv_iload_n hx hb dJ6_bitCount_0f7a4_48 rfl (lv_at hl 0 rfl) ?_
  refine lv_bipush (v := 63) hx hb dJ6_bitCount_0f7a4_49 (by decide) ?_
  refine lv_iand hx hb dJ6_bitCount_0f7a4_51 ?_
  refine ka_top (w := .int 0) (congrArg Value.int (by decide)) ?_
  exact ka_rRi C hr hlk rfl dJ6_bitCount_0f7a4_52
set_option maxHeartbeats 4000000 in
set_option maxRecDepth 100000 in
theorem cg_X0_isDone_203 (l : Launch) (D : va_G) (F : Nat → Prop) (a0 : Nat) : ka_R l D F yX0_isDone wsX0_isDone 1 20 [.ref a0, .int (-1)] [] [] (fun v => v = some (.int 0)) := by
  refine ka_R_of (cc := cX0_isDone) (maxL := 2) (ret := (some .boolean)) (by decide) rfl (Nat.le_of_ble_eq_true rfl) ?_
  intro p e s m below meth c ls C hr hlk hP hK hE hN hl
  have hS : va_S (fun _ => False) s.heap s.heap [] := va_S.rf
  have C : CallFix p m c cX0_isDone 2 s [.ref a0, .int (-1)].toArray wsX0_isDone RX0 := C
  obtain ⟨hx, hb, hml, hown, hts⟩ := id C
  have hl : lv_has ls 2 [(0, .ref a0), (1, .int (-1))] := hl
  refine lv_iload_n hx hb dX0_isDone_0 rfl (lv_at hl 1 rfl) ?_
  refine ka_RS (n := 1) C (cg_X0_isLesson_160 l D F ) gX0_isDone_X0_isLesson rfl (by decide +kernel) ⟨Nat.le_of_ble_eq_true rfl, Nat.le_of_ble_eq_true rfl⟩ hK hP hS hE hN [] rfl [] rfl rfl hl.1 (rest := []) rfl (Nat.le_of_ble_eq_true rfl) dX0_isDone_1 ⟨Nat.le_of_ble_eq_true rfl, Nat.le_of_ble_eq_true rfl⟩ (fun v hv => ?_)
  subst hv
  refine ka_stk (w := [.int 0]) rfl ?_
  refine lv_if_eq (tgt := 23) hx hb dX0_isDone_4 (by decide) (fun _ => ?_) (fun c_ => absurd (by decide) c_)
  refine lv_iconst (v := 0) hx hb dX0_isDone_23 (by decide) ?_
  exact ka_rRz C hr hlk rfl rfl dX0_isDone_24
theorem lq_237 : ∀ w ∈ wsX60, w ∈ wsX6_count := by decide +kernel
theorem lq_238 : Cond.fieldLink RX6 39 "AskedBack" "begun" "I" ∈ wsX6_count := by decide +kernel
theorem lq_239 : Cond.fieldLink RX6 35 "AskedBack" "talk" "LAskedBack$Talk;" ∈ wsX6_count := by decide +kernel
theorem lq_240 : ∀ w ∈ wsX40, w ∈ wsX6_count := by decide +kernel
theorem lq_241 : Cond.fieldLink RX6 132 "AskedBack$Talk" "answers" "I" ∈ wsX6_count := by decide +kernel
theorem lq_242 : Cond.fieldLink RX6 204 "AskedBack$Talk" "rightAnswers" "I" ∈ wsX6_count := by decide +kernel
theorem lq_243 : Cond.fieldLink RX6 167 "AskedBack$Talk" "saidCount" "I" ∈ wsX6_count := by decide +kernel
theorem lq_244 : Cond.fieldLink RX6 28 "AskedBack" "course" "LAskedBack$Course;" ∈ wsX6_count := by decide +kernel
theorem lq_245 : ∀ w ∈ wsX00, w ∈ wsX6_count := by decide +kernel
theorem lq_246 : Cond.fieldLink RX6 207 "AskedBack$Course" "done" "I" ∈ wsX6_count := by decide +kernel
theorem lq_247 : Cond.fieldLink RX6 10 "AskedBack" "tape" "LAskedBack$Tape;" ∈ wsX6_count := by decide +kernel
theorem lq_248 : ∀ w ∈ wsX50, w ∈ wsX6_count := by decide +kernel
theorem lq_249 : Cond.fieldLink RX6 55 "AskedBack$Tape" "length" "I" ∈ wsX6_count := by decide +kernel
set_option maxHeartbeats 4000000 in
set_option maxRecDepth 100000 in
theorem cg_X6_count_204 (l : Launch) (D : va_G) (F : Nat → Prop) (a0 : Nat) (x0 : Int32) (a1 : Nat) (a2 : Nat) (a3 : Nat) (a4 : Nat) (x1 : Int32) (x2 : Int32) (x3 : Int32) (x4 : Int32) (x5 : Int32) (a5 : Nat) (x6 : Int32) (a6 : Nat) (a7 : Nat) (x7 : Int32) (k0 : ClassId) (a8 : Nat) (a9 : Nat) (a10 : Nat) (a11 : Nat) (a12 : Nat) (a13 : Nat) (a14 : Nat) (a15 : Nat) (x8 : Int32) (o0 : Option Nat) (k1 : ClassId) (po0 : Nat → Option Nat) (a16 : Nat) (a17 : Nat) (x9 : Int32) (o1 : Option Nat) (k2 : ClassId) (po1 : Nat → Option Nat) (a18 : Nat) (a19 : Nat) (x10 : Int32) (o2 : Option Nat) (k3 : ClassId) (po2 : Nat → Option Nat) (a20 : Nat) (a21 : Nat) (x11 : Int32) (o3 : Option Nat) (k4 : ClassId) (po3 : Nat → Option Nat) (a22 : Nat) (a23 : Nat) (x12 : Int32) (o4 : Option Nat) (k5 : ClassId) (po4 : Nat → Option Nat) (a24 : Nat) (a25 : Nat) (x13 : Int32) (o5 : Option Nat) (k6 : ClassId) (po5 : Nat → Option Nat) (a26 : Nat) (a27 : Nat) (a28 : Nat) (x14 : Int32) (x15 : Int32) (x16 : Int32) (x17 : Int32) (x18 : Int32) (x19 : Int32) (k7 : ClassId) (f0 : Nat → Int32) (k8 : ClassId) (f1 : Nat → Int32) (hx1 : -1 ≤ x1.toInt ∧ x1.toInt ≤ 5) (hx6 : 0 ≤ x6.toInt ∧ x6.toInt ≤ 80) (hx8 : 0 ≤ x8.toInt ∧ x8.toInt ≤ 12) (ho0 : ∀ a : Nat, o0 = some a → F a) (hpo0 : ∀ (j a : Nat), po0 j = some a → F a) (hx9 : 0 ≤ x9.toInt ∧ x9.toInt ≤ 12) (ho1 : ∀ a : Nat, o1 = some a → F a) (hpo1 : ∀ (j a : Nat), po1 j = some a → F a) (hx10 : 0 ≤ x10.toInt ∧ x10.toInt ≤ 12) (ho2 : ∀ a : Nat, o2 = some a → F a) (hpo2 : ∀ (j a : Nat), po2 j = some a → F a) (hx11 : 0 ≤ x11.toInt ∧ x11.toInt ≤ 12) (ho3 : ∀ a : Nat, o3 = some a → F a) (hpo3 : ∀ (j a : Nat), po3 j = some a → F a) (hx12 : 0 ≤ x12.toInt ∧ x12.toInt ≤ 12) (ho4 : ∀ a : Nat, o4 = some a → F a) (hpo4 : ∀ (j a : Nat), po4 j = some a → F a) (hx13 : 0 ≤ x13.toInt ∧ x13.toInt ≤ 12) (ho5 : ∀ a : Nat, o5 = some a → F a) (hpo5 : ∀ (j a : Nat), po5 j = some a → F a) (hx14 : 0 ≤ x14.toInt ∧ x14.toInt ≤ 10) : ka_R l D F yX6_count wsX6_count 4 90 [.ref a0, .int x0] [(a0, .inr (6, [.ref a1, .ref a2, .ref a3, .ref a4, .int x1, .int x2, .int x3, .int x4, .int x5])), (a1, .inr (5, [.ref a5, .int x6])), (a3, .inr (0, [.ref a6, .ref a7, .int x7])), (a6, .inl (k0, 6, .inr (.inr (.inr (.inr (va_up (va_up (va_up (va_up (va_up (va_up (fun _ => none) 0 (some a8)) 1 (some a9)) 2 (some a10)) 3 (some a11)) 4 (some a12)) 5 (some a13))))))), (a8, .inr (2, [.ref a14, .ref a15, .int x8, va_rf o0])), (a14, .inl (k1, 12, .inr (.inr (.inr (.inr po0))))), (a9, .inr (2, [.ref a16, .ref a17, .int x9, va_rf o1])), (a16, .inl (k2, 12, .inr (.inr (.inr (.inr po1))))), (a10, .inr (2, [.ref a18, .ref a19, .int x10, va_rf o2])), (a18, .inl (k3, 12, .inr (.inr (.inr (.inr po2))))), (a11, .inr (2, [.ref a20, .ref a21, .int x11, va_rf o3])), (a20, .inl (k4, 12, .inr (.inr (.inr (.inr po3))))), (a12, .inr (2, [.ref a22, .ref a23, .int x12, va_rf o4])), (a22, .inl (k5, 12, .inr (.inr (.inr (.inr po4))))), (a13, .inr (2, [.ref a24, .ref a25, .int x13, va_rf o5])), (a24, .inl (k6, 12, .inr (.inr (.inr (.inr po5))))), (a4, .inr (4, [.ref a26, .ref a27, .ref a28, .int x14, .int x15, .int x16, .int x17, .int x18, .int x19])), (a26, .inl (k7, 32, .inl f0)), (a27, .inl (k8, 32, .inl f1))] [(k0, .object RX2), (k1, .object RX1), (k2, .object RX1), (k3, .object RX1), (k4, .object RX1), (k5, .object RX1), (k6, .object RX1), (k7, .int), (k8, .int)] (fun v => ∃ x : Int32, v = some (.int x)) := by
  refine ka_R_of (cc := cX6_count) (maxL := 2) (ret := (some .int)) (by decide) rfl (Nat.le_of_ble_eq_true rfl) ?_
  intro p e s m below meth c ls C hr hlk hP hK hE hN hl
  have hS : va_S (fun _ => False) s.heap s.heap [] := va_S.rf
  have C : CallFix p m c cX6_count 2 s [.ref a0, .int x0].toArray wsX6_count RX6 := C
  obtain ⟨hx, hb, hml, hown, hts⟩ := id C
  have hl : lv_has ls 2 [(0, .ref a0), (1, .int x0)] := hl
  have rx0 := ka_rng x0
  have rx1 := ka_rng x1
  have rx2 := ka_rng x2
  have rx3 := ka_rng x3
  have rx4 := ka_rng x4
  have rx5 := ka_rng x5
  have rx6 := ka_rng x6
  have rx7 := ka_rng x7
  have rx8 := ka_rng x8
  have rx9 := ka_rng x9
  have rx10 := ka_rng x10
  have rx11 := ka_rng x11
  have rx12 := ka_rng x12
  have rx13 := ka_rng x13
  have rx14 := ka_rng x14
  have rx15 := ka_rng x15
  have rx16 := ka_rng x16
  have rx17 := ka_rng x17
  have rx18 := ka_rng x18
  have rx19 := ka_rng x19
  rcases (show x0.toInt ≤ -1 ∨ x0.toInt = 0 ∨ x0.toInt = 1 ∨ x0.toInt = 2 ∨ x0.toInt = 3 ∨ x0.toInt = 4 ∨ x0.toInt = 5 ∨ x0.toInt = 6 ∨ x0.toInt = 7 ∨ 8 ≤ x0.toInt by omega) with y_22021 | y_22021 | y_22021 | y_22021 | y_22021 | y_22021 | y_22021 | y_22021 | y_22021 | y_22021
  · skip
    rcases (show x1.toInt = -1 ∨ x1.toInt = 0 ∨ x1.toInt = 1 ∨ x1.toInt = 2 ∨ x1.toInt = 3 ∨ x1.toInt = 4 ∨ x1.toInt = 5 by omega) with y_22022 | y_22022 | y_22022 | y_22022 | y_22022 | y_22022 | y_22022
    · obtain rfl : x1 = (-1) := (ka_eq' _ _).mpr (y_22022.trans (by decide))
      refine lv_iload_n hx hb dX6_count_0 rfl (lv_at hl 1 rfl) ?_
      refine lv_tableOut (tgt := 132) hx hb dX6_count_1 (by omega) (by decide) ?_
      refine lv_iconst (v := (-1)) hx hb dX6_count_132 (by decide) ?_
      exact ka_rRi C hr hlk ⟨_, rfl⟩ dX6_count_133
    · obtain rfl : x1 = 0 := (ka_eq' _ _).mpr (y_22022.trans (by decide))
      refine lv_iload_n hx hb dX6_count_0 rfl (lv_at hl 1 rfl) ?_
      refine lv_tableOut (tgt := 132) hx hb dX6_count_1 (by omega) (by decide) ?_
      refine lv_iconst (v := (-1)) hx hb dX6_count_132 (by decide) ?_
      exact ka_rRi C hr hlk ⟨_, rfl⟩ dX6_count_133
    · obtain rfl : x1 = 1 := (ka_eq' _ _).mpr (y_22022.trans (by decide))
      refine lv_iload_n hx hb dX6_count_0 rfl (lv_at hl 1 rfl) ?_
      refine lv_tableOut (tgt := 132) hx hb dX6_count_1 (by omega) (by decide) ?_
      refine lv_iconst (v := (-1)) hx hb dX6_count_132 (by decide) ?_
      exact ka_rRi C hr hlk ⟨_, rfl⟩ dX6_count_133
    · obtain rfl : x1 = 2 := (ka_eq' _ _).mpr (y_22022.trans (by decide))
      refine lv_iload_n hx hb dX6_count_0 rfl (lv_at hl 1 rfl) ?_
      refine lv_tableOut (tgt := 132) hx hb dX6_count_1 (by omega) (by decide) ?_
      refine lv_iconst (v := (-1)) hx hb dX6_count_132 (by decide) ?_
      exact ka_rRi C hr hlk ⟨_, rfl⟩ dX6_count_133
    · obtain rfl : x1 = 3 := (ka_eq' _ _).mpr (y_22022.trans (by decide))
      refine lv_iload_n hx hb dX6_count_0 rfl (lv_at hl 1 rfl) ?_
      refine lv_tableOut (tgt := 132) hx hb dX6_count_1 (by omega) (by decide) ?_
      refine lv_iconst (v := (-1)) hx hb dX6_count_132 (by decide) ?_
      exact ka_rRi C hr hlk ⟨_, rfl⟩ dX6_count_133
    · obtain rfl : x1 = 4 := (ka_eq' _ _).mpr (y_22022.trans (by decide))
      refine lv_iload_n hx hb dX6_count_0 rfl (lv_at hl 1 rfl) ?_
      refine lv_tableOut (tgt := 132) hx hb dX6_count_1 (by omega) (by decide) ?_
      refine lv_iconst (v := (-1)) hx hb dX6_count_132 (by decide) ?_
      exact ka_rRi C hr hlk ⟨_, rfl⟩ dX6_count_133
    · obtain rfl : x1 = 5 := (ka_eq' _ _).mpr (y_22022.trans (by decide))
      refine lv_iload_n hx hb dX6_count_0 rfl (lv_at hl 1 rfl) ?_
      refine lv_tableOut (tgt := 132) hx hb dX6_count_1 (by omega) (by decide) ?_
      refine lv_iconst (v := (-1)) hx hb dX6_count_132 (by decide) ?_
      exact ka_rRi C hr hlk ⟨_, rfl⟩ dX6_count_133
  · obtain rfl : x0 = 0 := (ka_eq' _ _).mpr (y_22021.trans (by decide))
    rcases (show x1.toInt = -1 ∨ x1.toInt = 0 ∨ x1.toInt = 1 ∨ x1.toInt = 2 ∨ x1.toInt = 3 ∨ x1.toInt = 4 ∨ x1.toInt = 5 by omega) with y_22023 | y_22023 | y_22023 | y_22023 | y_22023 | y_22023 | y_22023
    · obtain rfl : x1 = (-1) := (ka_eq' _ _).mpr (y_22023.trans (by decide))
      refine lv_iload_n hx hb dX6_count_0 rfl (lv_at hl 1 rfl) ?_
      refine lv_tableIn (off := 47) (tgt := 48) hx hb dX6_count_1 (by decide) (by decide) (by decide) (by decide) ?_
      refine lv_aload_n hx hb dX6_count_48 rfl (lv_at hl 0 rfl) ?_
      refine ka_get C lq_237 rfl hK hP 0 rfl 4 (by decide) lq_238 rfl dX6_count_49 ?_
      exact ka_rRi C hr hlk ⟨_, rfl⟩ dX6_count_52
    · obtain rfl : x1 = 0 := (ka_eq' _ _).mpr (y_22023.trans (by decide))
      refine lv_iload_n hx hb dX6_count_0 rfl (lv_at hl 1 rfl) ?_
      refine lv_tableIn (off := 47) (tgt := 48) hx hb dX6_count_1 (by decide) (by decide) (by decide) (by decide) ?_
      refine lv_aload_n hx hb dX6_count_48 rfl (lv_at hl 0 rfl) ?_
      refine ka_get C lq_237 rfl hK hP 0 rfl 4 (by decide) lq_238 rfl dX6_count_49 ?_
      exact ka_rRi C hr hlk ⟨_, rfl⟩ dX6_count_52
    · obtain rfl : x1 = 1 := (ka_eq' _ _).mpr (y_22023.trans (by decide))
      refine lv_iload_n hx hb dX6_count_0 rfl (lv_at hl 1 rfl) ?_
      refine lv_tableIn (off := 47) (tgt := 48) hx hb dX6_count_1 (by decide) (by decide) (by decide) (by decide) ?_
      refine lv_aload_n hx hb dX6_count_48 rfl (lv_at hl 0 rfl) ?_
      refine ka_get C lq_237 rfl hK hP 0 rfl 4 (by decide) lq_238 rfl dX6_count_49 ?_
      exact ka_rRi C hr hlk ⟨_, rfl⟩ dX6_count_52
    · obtain rfl : x1 = 2 := (ka_eq' _ _).mpr (y_22023.trans (by decide))
      refine lv_iload_n hx hb dX6_count_0 rfl (lv_at hl 1 rfl) ?_
      refine lv_tableIn (off := 47) (tgt := 48) hx hb dX6_count_1 (by decide) (by decide) (by decide) (by decide) ?_
      refine lv_aload_n hx hb dX6_count_48 rfl (lv_at hl 0 rfl) ?_
      refine ka_get C lq_237 rfl hK hP 0 rfl 4 (by decide) lq_238 rfl dX6_count_49 ?_
      exact ka_rRi C hr hlk ⟨_, rfl⟩ dX6_count_52
    · obtain rfl : x1 = 3 := (ka_eq' _ _).mpr (y_22023.trans (by decide))
      refine lv_iload_n hx hb dX6_count_0 rfl (lv_at hl 1 rfl) ?_
      refine lv_tableIn (off := 47) (tgt := 48) hx hb dX6_count_1 (by decide) (by decide) (by decide) (by decide) ?_
      refine lv_aload_n hx hb dX6_count_48 rfl (lv_at hl 0 rfl) ?_
      refine ka_get C lq_237 rfl hK hP 0 rfl 4 (by decide) lq_238 rfl dX6_count_49 ?_
      exact ka_rRi C hr hlk ⟨_, rfl⟩ dX6_count_52
    · obtain rfl : x1 = 4 := (ka_eq' _ _).mpr (y_22023.trans (by decide))
      refine lv_iload_n hx hb dX6_count_0 rfl (lv_at hl 1 rfl) ?_
      refine lv_tableIn (off := 47) (tgt := 48) hx hb dX6_count_1 (by decide) (by decide) (by decide) (by decide) ?_
      refine lv_aload_n hx hb dX6_count_48 rfl (lv_at hl 0 rfl) ?_
      refine ka_get C lq_237 rfl hK hP 0 rfl 4 (by decide) lq_238 rfl dX6_count_49 ?_
      exact ka_rRi C hr hlk ⟨_, rfl⟩ dX6_count_52
    · obtain rfl : x1 = 5 := (ka_eq' _ _).mpr (y_22023.trans (by decide))
      refine lv_iload_n hx hb dX6_count_0 rfl (lv_at hl 1 rfl) ?_
      refine lv_tableIn (off := 47) (tgt := 48) hx hb dX6_count_1 (by decide) (by decide) (by decide) (by decide) ?_
      refine lv_aload_n hx hb dX6_count_48 rfl (lv_at hl 0 rfl) ?_
      refine ka_get C lq_237 rfl hK hP 0 rfl 4 (by decide) lq_238 rfl dX6_count_49 ?_
      exact ka_rRi C hr hlk ⟨_, rfl⟩ dX6_count_52
  · obtain rfl : x0 = 1 := (ka_eq' _ _).mpr (y_22021.trans (by decide))
    rcases (show x1.toInt = -1 ∨ x1.toInt = 0 ∨ x1.toInt = 1 ∨ x1.toInt = 2 ∨ x1.toInt = 3 ∨ x1.toInt = 4 ∨ x1.toInt = 5 by omega) with y_22024 | y_22024 | y_22024 | y_22024 | y_22024 | y_22024 | y_22024
    · obtain rfl : x1 = (-1) := (ka_eq' _ _).mpr (y_22024.trans (by decide))
      refine lv_iload_n hx hb dX6_count_0 rfl (lv_at hl 1 rfl) ?_
      refine lv_tableIn (off := 52) (tgt := 53) hx hb dX6_count_1 (by decide) (by decide) (by decide) (by decide) ?_
      refine lv_aload_n hx hb dX6_count_53 rfl (lv_at hl 0 rfl) ?_
      refine ka_get C lq_237 rfl hK hP 0 rfl 3 (by decide) lq_239 rfl dX6_count_54 ?_
      refine ka_get C lq_240 rfl hK hP 16 rfl 6 (by decide) lq_241 rfl dX6_count_57 ?_
      exact ka_rRi C hr hlk ⟨_, rfl⟩ dX6_count_60
    · obtain rfl : x1 = 0 := (ka_eq' _ _).mpr (y_22024.trans (by decide))
      refine lv_iload_n hx hb dX6_count_0 rfl (lv_at hl 1 rfl) ?_
      refine lv_tableIn (off := 52) (tgt := 53) hx hb dX6_count_1 (by decide) (by decide) (by decide) (by decide) ?_
      refine lv_aload_n hx hb dX6_count_53 rfl (lv_at hl 0 rfl) ?_
      refine ka_get C lq_237 rfl hK hP 0 rfl 3 (by decide) lq_239 rfl dX6_count_54 ?_
      refine ka_get C lq_240 rfl hK hP 16 rfl 6 (by decide) lq_241 rfl dX6_count_57 ?_
      exact ka_rRi C hr hlk ⟨_, rfl⟩ dX6_count_60
    · obtain rfl : x1 = 1 := (ka_eq' _ _).mpr (y_22024.trans (by decide))
      refine lv_iload_n hx hb dX6_count_0 rfl (lv_at hl 1 rfl) ?_
      refine lv_tableIn (off := 52) (tgt := 53) hx hb dX6_count_1 (by decide) (by decide) (by decide) (by decide) ?_
      refine lv_aload_n hx hb dX6_count_53 rfl (lv_at hl 0 rfl) ?_
      refine ka_get C lq_237 rfl hK hP 0 rfl 3 (by decide) lq_239 rfl dX6_count_54 ?_
      refine ka_get C lq_240 rfl hK hP 16 rfl 6 (by decide) lq_241 rfl dX6_count_57 ?_
      exact ka_rRi C hr hlk ⟨_, rfl⟩ dX6_count_60
    · obtain rfl : x1 = 2 := (ka_eq' _ _).mpr (y_22024.trans (by decide))
      refine lv_iload_n hx hb dX6_count_0 rfl (lv_at hl 1 rfl) ?_
      refine lv_tableIn (off := 52) (tgt := 53) hx hb dX6_count_1 (by decide) (by decide) (by decide) (by decide) ?_
      refine lv_aload_n hx hb dX6_count_53 rfl (lv_at hl 0 rfl) ?_
      refine ka_get C lq_237 rfl hK hP 0 rfl 3 (by decide) lq_239 rfl dX6_count_54 ?_
      refine ka_get C lq_240 rfl hK hP 16 rfl 6 (by decide) lq_241 rfl dX6_count_57 ?_
      exact ka_rRi C hr hlk ⟨_, rfl⟩ dX6_count_60
    · obtain rfl : x1 = 3 := (ka_eq' _ _).mpr (y_22024.trans (by decide))
      refine lv_iload_n hx hb dX6_count_0 rfl (lv_at hl 1 rfl) ?_
      refine lv_tableIn (off := 52) (tgt := 53) hx hb dX6_count_1 (by decide) (by decide) (by decide) (by decide) ?_
      refine lv_aload_n hx hb dX6_count_53 rfl (lv_at hl 0 rfl) ?_
      refine ka_get C lq_237 rfl hK hP 0 rfl 3 (by decide) lq_239 rfl dX6_count_54 ?_
      refine ka_get C lq_240 rfl hK hP 16 rfl 6 (by decide) lq_241 rfl dX6_count_57 ?_
      exact ka_rRi C hr hlk ⟨_, rfl⟩ dX6_count_60
    · obtain rfl : x1 = 4 := (ka_eq' _ _).mpr (y_22024.trans (by decide))
      refine lv_iload_n hx hb dX6_count_0 rfl (lv_at hl 1 rfl) ?_
      refine lv_tableIn (off := 52) (tgt := 53) hx hb dX6_count_1 (by decide) (by decide) (by decide) (by decide) ?_
      refine lv_aload_n hx hb dX6_count_53 rfl (lv_at hl 0 rfl) ?_
      refine ka_get C lq_237 rfl hK hP 0 rfl 3 (by decide) lq_239 rfl dX6_count_54 ?_
      refine ka_get C lq_240 rfl hK hP 16 rfl 6 (by decide) lq_241 rfl dX6_count_57 ?_
      exact ka_rRi C hr hlk ⟨_, rfl⟩ dX6_count_60
    · obtain rfl : x1 = 5 := (ka_eq' _ _).mpr (y_22024.trans (by decide))
      refine lv_iload_n hx hb dX6_count_0 rfl (lv_at hl 1 rfl) ?_
      refine lv_tableIn (off := 52) (tgt := 53) hx hb dX6_count_1 (by decide) (by decide) (by decide) (by decide) ?_
      refine lv_aload_n hx hb dX6_count_53 rfl (lv_at hl 0 rfl) ?_
      refine ka_get C lq_237 rfl hK hP 0 rfl 3 (by decide) lq_239 rfl dX6_count_54 ?_
      refine ka_get C lq_240 rfl hK hP 16 rfl 6 (by decide) lq_241 rfl dX6_count_57 ?_
      exact ka_rRi C hr hlk ⟨_, rfl⟩ dX6_count_60
  · obtain rfl : x0 = 2 := (ka_eq' _ _).mpr (y_22021.trans (by decide))
    rcases (show x1.toInt = -1 ∨ x1.toInt = 0 ∨ x1.toInt = 1 ∨ x1.toInt = 2 ∨ x1.toInt = 3 ∨ x1.toInt = 4 ∨ x1.toInt = 5 by omega) with y_22025 | y_22025 | y_22025 | y_22025 | y_22025 | y_22025 | y_22025
    · obtain rfl : x1 = (-1) := (ka_eq' _ _).mpr (y_22025.trans (by decide))
      refine lv_iload_n hx hb dX6_count_0 rfl (lv_at hl 1 rfl) ?_
      refine lv_tableIn (off := 60) (tgt := 61) hx hb dX6_count_1 (by decide) (by decide) (by decide) (by decide) ?_
      refine lv_aload_n hx hb dX6_count_61 rfl (lv_at hl 0 rfl) ?_
      refine ka_get C lq_237 rfl hK hP 0 rfl 3 (by decide) lq_239 rfl dX6_count_62 ?_
      refine ka_get C lq_240 rfl hK hP 16 rfl 7 (by decide) lq_242 rfl dX6_count_65 ?_
      exact ka_rRi C hr hlk ⟨_, rfl⟩ dX6_count_68
    · obtain rfl : x1 = 0 := (ka_eq' _ _).mpr (y_22025.trans (by decide))
      refine lv_iload_n hx hb dX6_count_0 rfl (lv_at hl 1 rfl) ?_
      refine lv_tableIn (off := 60) (tgt := 61) hx hb dX6_count_1 (by decide) (by decide) (by decide) (by decide) ?_
      refine lv_aload_n hx hb dX6_count_61 rfl (lv_at hl 0 rfl) ?_
      refine ka_get C lq_237 rfl hK hP 0 rfl 3 (by decide) lq_239 rfl dX6_count_62 ?_
      refine ka_get C lq_240 rfl hK hP 16 rfl 7 (by decide) lq_242 rfl dX6_count_65 ?_
      exact ka_rRi C hr hlk ⟨_, rfl⟩ dX6_count_68
    · obtain rfl : x1 = 1 := (ka_eq' _ _).mpr (y_22025.trans (by decide))
      refine lv_iload_n hx hb dX6_count_0 rfl (lv_at hl 1 rfl) ?_
      refine lv_tableIn (off := 60) (tgt := 61) hx hb dX6_count_1 (by decide) (by decide) (by decide) (by decide) ?_
      refine lv_aload_n hx hb dX6_count_61 rfl (lv_at hl 0 rfl) ?_
      refine ka_get C lq_237 rfl hK hP 0 rfl 3 (by decide) lq_239 rfl dX6_count_62 ?_
      refine ka_get C lq_240 rfl hK hP 16 rfl 7 (by decide) lq_242 rfl dX6_count_65 ?_
      exact ka_rRi C hr hlk ⟨_, rfl⟩ dX6_count_68
    · obtain rfl : x1 = 2 := (ka_eq' _ _).mpr (y_22025.trans (by decide))
      refine lv_iload_n hx hb dX6_count_0 rfl (lv_at hl 1 rfl) ?_
      refine lv_tableIn (off := 60) (tgt := 61) hx hb dX6_count_1 (by decide) (by decide) (by decide) (by decide) ?_
      refine lv_aload_n hx hb dX6_count_61 rfl (lv_at hl 0 rfl) ?_
      refine ka_get C lq_237 rfl hK hP 0 rfl 3 (by decide) lq_239 rfl dX6_count_62 ?_
      refine ka_get C lq_240 rfl hK hP 16 rfl 7 (by decide) lq_242 rfl dX6_count_65 ?_
      exact ka_rRi C hr hlk ⟨_, rfl⟩ dX6_count_68
    · obtain rfl : x1 = 3 := (ka_eq' _ _).mpr (y_22025.trans (by decide))
      refine lv_iload_n hx hb dX6_count_0 rfl (lv_at hl 1 rfl) ?_
      refine lv_tableIn (off := 60) (tgt := 61) hx hb dX6_count_1 (by decide) (by decide) (by decide) (by decide) ?_
      refine lv_aload_n hx hb dX6_count_61 rfl (lv_at hl 0 rfl) ?_
      refine ka_get C lq_237 rfl hK hP 0 rfl 3 (by decide) lq_239 rfl dX6_count_62 ?_
      refine ka_get C lq_240 rfl hK hP 16 rfl 7 (by decide) lq_242 rfl dX6_count_65 ?_
      exact ka_rRi C hr hlk ⟨_, rfl⟩ dX6_count_68
    · obtain rfl : x1 = 4 := (ka_eq' _ _).mpr (y_22025.trans (by decide))
      refine lv_iload_n hx hb dX6_count_0 rfl (lv_at hl 1 rfl) ?_
      refine lv_tableIn (off := 60) (tgt := 61) hx hb dX6_count_1 (by decide) (by decide) (by decide) (by decide) ?_
      refine lv_aload_n hx hb dX6_count_61 rfl (lv_at hl 0 rfl) ?_
      refine ka_get C lq_237 rfl hK hP 0 rfl 3 (by decide) lq_239 rfl dX6_count_62 ?_
      refine ka_get C lq_240 rfl hK hP 16 rfl 7 (by decide) lq_242 rfl dX6_count_65 ?_
      exact ka_rRi C hr hlk ⟨_, rfl⟩ dX6_count_68
    · obtain rfl : x1 = 5 := (ka_eq' _ _).mpr (y_22025.trans (by decide))
      refine lv_iload_n hx hb dX6_count_0 rfl (lv_at hl 1 rfl) ?_
      refine lv_tableIn (off := 60) (tgt := 61) hx hb dX6_count_1 (by decide) (by decide) (by decide) (by decide) ?_
      refine lv_aload_n hx hb dX6_count_61 rfl (lv_at hl 0 rfl) ?_
      refine ka_get C lq_237 rfl hK hP 0 rfl 3 (by decide) lq_239 rfl dX6_count_62 ?_
      refine ka_get C lq_240 rfl hK hP 16 rfl 7 (by decide) lq_242 rfl dX6_count_65 ?_
      exact ka_rRi C hr hlk ⟨_, rfl⟩ dX6_count_68
  · obtain rfl : x0 = 3 := (ka_eq' _ _).mpr (y_22021.trans (by decide))
    rcases (show x1.toInt = -1 ∨ x1.toInt = 0 ∨ x1.toInt = 1 ∨ x1.toInt = 2 ∨ x1.toInt = 3 ∨ x1.toInt = 4 ∨ x1.toInt = 5 by omega) with y_22026 | y_22026 | y_22026 | y_22026 | y_22026 | y_22026 | y_22026
    · obtain rfl : x1 = (-1) := (ka_eq' _ _).mpr (y_22026.trans (by decide))
      refine lv_iload_n hx hb dX6_count_0 rfl (lv_at hl 1 rfl) ?_
      refine lv_tableIn (off := 68) (tgt := 69) hx hb dX6_count_1 (by decide) (by decide) (by decide) (by decide) ?_
      refine lv_aload_n hx hb dX6_count_69 rfl (lv_at hl 0 rfl) ?_
      refine ka_get C lq_237 rfl hK hP 0 rfl 3 (by decide) lq_239 rfl dX6_count_70 ?_
      refine ka_get C lq_240 rfl hK hP 16 rfl 3 (by decide) lq_243 rfl dX6_count_73 ?_
      exact ka_rRi C hr hlk ⟨_, rfl⟩ dX6_count_76
    · obtain rfl : x1 = 0 := (ka_eq' _ _).mpr (y_22026.trans (by decide))
      refine lv_iload_n hx hb dX6_count_0 rfl (lv_at hl 1 rfl) ?_
      refine lv_tableIn (off := 68) (tgt := 69) hx hb dX6_count_1 (by decide) (by decide) (by decide) (by decide) ?_
      refine lv_aload_n hx hb dX6_count_69 rfl (lv_at hl 0 rfl) ?_
      refine ka_get C lq_237 rfl hK hP 0 rfl 3 (by decide) lq_239 rfl dX6_count_70 ?_
      refine ka_get C lq_240 rfl hK hP 16 rfl 3 (by decide) lq_243 rfl dX6_count_73 ?_
      exact ka_rRi C hr hlk ⟨_, rfl⟩ dX6_count_76
    · obtain rfl : x1 = 1 := (ka_eq' _ _).mpr (y_22026.trans (by decide))
      refine lv_iload_n hx hb dX6_count_0 rfl (lv_at hl 1 rfl) ?_
      refine lv_tableIn (off := 68) (tgt := 69) hx hb dX6_count_1 (by decide) (by decide) (by decide) (by decide) ?_
      refine lv_aload_n hx hb dX6_count_69 rfl (lv_at hl 0 rfl) ?_
      refine ka_get C lq_237 rfl hK hP 0 rfl 3 (by decide) lq_239 rfl dX6_count_70 ?_
      refine ka_get C lq_240 rfl hK hP 16 rfl 3 (by decide) lq_243 rfl dX6_count_73 ?_
      exact ka_rRi C hr hlk ⟨_, rfl⟩ dX6_count_76
    · obtain rfl : x1 = 2 := (ka_eq' _ _).mpr (y_22026.trans (by decide))
      refine lv_iload_n hx hb dX6_count_0 rfl (lv_at hl 1 rfl) ?_
      refine lv_tableIn (off := 68) (tgt := 69) hx hb dX6_count_1 (by decide) (by decide) (by decide) (by decide) ?_
      refine lv_aload_n hx hb dX6_count_69 rfl (lv_at hl 0 rfl) ?_
      refine ka_get C lq_237 rfl hK hP 0 rfl 3 (by decide) lq_239 rfl dX6_count_70 ?_
      refine ka_get C lq_240 rfl hK hP 16 rfl 3 (by decide) lq_243 rfl dX6_count_73 ?_
      exact ka_rRi C hr hlk ⟨_, rfl⟩ dX6_count_76
    · obtain rfl : x1 = 3 := (ka_eq' _ _).mpr (y_22026.trans (by decide))
      refine lv_iload_n hx hb dX6_count_0 rfl (lv_at hl 1 rfl) ?_
      refine lv_tableIn (off := 68) (tgt := 69) hx hb dX6_count_1 (by decide) (by decide) (by decide) (by decide) ?_
      refine lv_aload_n hx hb dX6_count_69 rfl (lv_at hl 0 rfl) ?_
      refine ka_get C lq_237 rfl hK hP 0 rfl 3 (by decide) lq_239 rfl dX6_count_70 ?_
      refine ka_get C lq_240 rfl hK hP 16 rfl 3 (by decide) lq_243 rfl dX6_count_73 ?_
      exact ka_rRi C hr hlk ⟨_, rfl⟩ dX6_count_76
    · obtain rfl : x1 = 4 := (ka_eq' _ _).mpr (y_22026.trans (by decide))
      refine lv_iload_n hx hb dX6_count_0 rfl (lv_at hl 1 rfl) ?_
      refine lv_tableIn (off := 68) (tgt := 69) hx hb dX6_count_1 (by decide) (by decide) (by decide) (by decide) ?_
      refine lv_aload_n hx hb dX6_count_69 rfl (lv_at hl 0 rfl) ?_
      refine ka_get C lq_237 rfl hK hP 0 rfl 3 (by decide) lq_239 rfl dX6_count_70 ?_
      refine ka_get C lq_240 rfl hK hP 16 rfl 3 (by decide) lq_243 rfl dX6_count_73 ?_
      exact ka_rRi C hr hlk ⟨_, rfl⟩ dX6_count_76
    · obtain rfl : x1 = 5 := (ka_eq' _ _).mpr (y_22026.trans (by decide))
      refine lv_iload_n hx hb dX6_count_0 rfl (lv_at hl 1 rfl) ?_
      refine lv_tableIn (off := 68) (tgt := 69) hx hb dX6_count_1 (by decide) (by decide) (by decide) (by decide) ?_
      refine lv_aload_n hx hb dX6_count_69 rfl (lv_at hl 0 rfl) ?_
      refine ka_get C lq_237 rfl hK hP 0 rfl 3 (by decide) lq_239 rfl dX6_count_70 ?_
      refine ka_get C lq_240 rfl hK hP 16 rfl 3 (by decide) lq_243 rfl dX6_count_73 ?_
      exact ka_rRi C hr hlk ⟨_, rfl⟩ dX6_count_76
  · obtain rfl : x0 = 4 := (ka_eq' _ _).mpr (y_22021.trans (by decide))
    rcases (show x1.toInt = -1 ∨ x1.toInt = 0 ∨ x1.toInt = 1 ∨ x1.toInt = 2 ∨ x1.toInt = 3 ∨ x1.toInt = 4 ∨ x1.toInt = 5 by omega) with y_22027 | y_22027 | y_22027 | y_22027 | y_22027 | y_22027 | y_22027
    · obtain rfl : x1 = (-1) := (ka_eq' _ _).mpr (y_22027.trans (by decide))
      refine lv_iload_n hx hb dX6_count_0 rfl (lv_at hl 1 rfl) ?_
      refine lv_tableIn (off := 76) (tgt := 77) hx hb dX6_count_1 (by decide) (by decide) (by decide) (by decide) ?_
      refine lv_aload_n hx hb dX6_count_77 rfl (lv_at hl 0 rfl) ?_
      refine lv_aload_n hx hb dX6_count_78 rfl (lv_at hl 0 rfl) ?_
      refine ka_get C lq_237 rfl hK hP 0 rfl 2 (by decide) lq_244 rfl dX6_count_79 ?_
      refine lv_aload_n hx hb dX6_count_82 rfl (lv_at hl 0 rfl) ?_
      refine ka_get C lq_237 rfl hK hP 0 rfl 4 (by decide) lq_238 rfl dX6_count_83 ?_
      refine ka_RV (n := 1) C (cg_X0_lessonAt_161 l D F a3) gX6_count_X0_lessonAt rfl (by decide +kernel) ⟨Nat.le_of_ble_eq_true rfl, Nat.le_of_ble_eq_true rfl⟩ hK hP hS hE hN [] rfl [] rfl (ci := 0) rfl rfl 2 rfl rfl hl.1 (rest := [.ref a0]) rfl (Nat.le_of_ble_eq_true rfl) dX6_count_86 ⟨Nat.le_of_ble_eq_true rfl, Nat.le_of_ble_eq_true rfl⟩ (fun v hv => ?_)
      subst hv
      refine ka_stk (w := [.null, .ref a0]) rfl ?_
      refine ka_RV (n := 1) C (cg_X6_leftOf_201 l D F a0) gX6_count_X6_leftOf rfl (by decide +kernel) ⟨Nat.le_of_ble_eq_true rfl, Nat.le_of_ble_eq_true rfl⟩ hK hP hS hE hN [] rfl [] rfl (ci := 6) rfl rfl 0 rfl rfl hl.1 (rest := []) rfl (Nat.le_of_ble_eq_true rfl) dX6_count_89 ⟨Nat.le_of_ble_eq_true rfl, Nat.le_of_ble_eq_true rfl⟩ (fun v hv => ?_)
      subst hv
      refine ka_stk (w := [.int 0]) rfl ?_
      refine ka_RS (n := 1) C (cg_J6_bitCount_0f7a4_202 l D F ) gX6_count_J6_bitCount_0f7a4 rfl (by decide +kernel) ⟨Nat.le_of_ble_eq_true rfl, Nat.le_of_ble_eq_true rfl⟩ hK hP hS hE hN [] rfl [] rfl rfl hl.1 (rest := []) rfl (Nat.le_of_ble_eq_true rfl) dX6_count_92 ⟨Nat.le_of_ble_eq_true rfl, Nat.le_of_ble_eq_true rfl⟩ (fun v hv => ?_)
      subst hv
      refine ka_stk (w := [.int 0]) rfl ?_
      exact ka_rRi C hr hlk ⟨_, rfl⟩ dX6_count_95
    · obtain rfl : x1 = 0 := (ka_eq' _ _).mpr (y_22027.trans (by decide))
      refine lv_iload_n hx hb dX6_count_0 rfl (lv_at hl 1 rfl) ?_
      refine lv_tableIn (off := 76) (tgt := 77) hx hb dX6_count_1 (by decide) (by decide) (by decide) (by decide) ?_
      refine lv_aload_n hx hb dX6_count_77 rfl (lv_at hl 0 rfl) ?_
      refine lv_aload_n hx hb dX6_count_78 rfl (lv_at hl 0 rfl) ?_
      refine ka_get C lq_237 rfl hK hP 0 rfl 2 (by decide) lq_244 rfl dX6_count_79 ?_
      refine lv_aload_n hx hb dX6_count_82 rfl (lv_at hl 0 rfl) ?_
      refine ka_get C lq_237 rfl hK hP 0 rfl 4 (by decide) lq_238 rfl dX6_count_83 ?_
      refine ka_RV (n := 1) C (cg_X0_lessonAt_145 l D F a3 a6 a7 x7 k0 a8 a9 a10 a11 a12 a13) gX6_count_X0_lessonAt rfl (by decide +kernel) ⟨Nat.le_of_ble_eq_true rfl, Nat.le_of_ble_eq_true rfl⟩ hK hP hS hE hN [2, 3] rfl [0] rfl (ci := 0) rfl rfl 2 rfl rfl hl.1 (rest := [.ref a0]) rfl (Nat.le_of_ble_eq_true rfl) dX6_count_86 ⟨Nat.le_of_ble_eq_true rfl, Nat.le_of_ble_eq_true rfl⟩ (fun v hv => ?_)
      subst hv
      refine ka_stk (w := [.ref a8, .ref a0]) rfl ?_
      refine ka_RV (n := 1) C (cg_X6_leftOf_190 l D F a0 a8 a1 a2 a3 a4 0 x2 x3 x4 x5 a14 a15 x8 o0 k1 po0 a26 a27 a28 x14 x15 x16 x17 x18 x19 k7 f0 k8 f1 ⟨by decide, by decide⟩ ⟨by omega, by omega⟩ ho0 hpo0 ⟨by omega, by omega⟩) gX6_count_X6_leftOf rfl (by decide +kernel) ⟨Nat.le_of_ble_eq_true rfl, Nat.le_of_ble_eq_true rfl⟩ hK hP hS hE hN [0, 4, 5, 16, 17, 18] rfl [1, 7, 8] rfl (ci := 6) rfl rfl 0 rfl rfl hl.1 (rest := []) rfl (Nat.le_of_ble_eq_true rfl) dX6_count_89 ⟨Nat.le_of_ble_eq_true rfl, Nat.le_of_ble_eq_true rfl⟩ (fun v hv => ?_)
      obtain ⟨v_22028, rfl⟩ := hv
      have rv_22028 := ka_rng v_22028
      refine ka_stk (w := [.int v_22028]) rfl ?_
      refine ka_RS (n := 1) C (cg_J6_bitCount_0f7a4_39 l D F v_22028) gX6_count_J6_bitCount_0f7a4 rfl (by decide +kernel) ⟨Nat.le_of_ble_eq_true rfl, Nat.le_of_ble_eq_true rfl⟩ hK hP hS hE hN [] rfl [] rfl rfl hl.1 (rest := []) rfl (Nat.le_of_ble_eq_true rfl) dX6_count_92 ⟨Nat.le_of_ble_eq_true rfl, Nat.le_of_ble_eq_true rfl⟩ (fun v hv => ?_)
      obtain ⟨v_22029, rfl⟩ := hv
      have rv_22029 := ka_rng v_22029
      refine ka_stk (w := [.int v_22029]) rfl ?_
      exact ka_rRi C hr hlk ⟨_, rfl⟩ dX6_count_95
    · obtain rfl : x1 = 1 := (ka_eq' _ _).mpr (y_22027.trans (by decide))
      refine lv_iload_n hx hb dX6_count_0 rfl (lv_at hl 1 rfl) ?_
      refine lv_tableIn (off := 76) (tgt := 77) hx hb dX6_count_1 (by decide) (by decide) (by decide) (by decide) ?_
      refine lv_aload_n hx hb dX6_count_77 rfl (lv_at hl 0 rfl) ?_
      refine lv_aload_n hx hb dX6_count_78 rfl (lv_at hl 0 rfl) ?_
      refine ka_get C lq_237 rfl hK hP 0 rfl 2 (by decide) lq_244 rfl dX6_count_79 ?_
      refine lv_aload_n hx hb dX6_count_82 rfl (lv_at hl 0 rfl) ?_
      refine ka_get C lq_237 rfl hK hP 0 rfl 4 (by decide) lq_238 rfl dX6_count_83 ?_
      refine ka_RV (n := 1) C (cg_X0_lessonAt_147 l D F a3 a6 a7 x7 k0 a8 a9 a10 a11 a12 a13) gX6_count_X0_lessonAt rfl (by decide +kernel) ⟨Nat.le_of_ble_eq_true rfl, Nat.le_of_ble_eq_true rfl⟩ hK hP hS hE hN [2, 3] rfl [0] rfl (ci := 0) rfl rfl 2 rfl rfl hl.1 (rest := [.ref a0]) rfl (Nat.le_of_ble_eq_true rfl) dX6_count_86 ⟨Nat.le_of_ble_eq_true rfl, Nat.le_of_ble_eq_true rfl⟩ (fun v hv => ?_)
      subst hv
      refine ka_stk (w := [.ref a9, .ref a0]) rfl ?_
      refine ka_RV (n := 1) C (cg_X6_leftOf_190 l D F a0 a9 a1 a2 a3 a4 1 x2 x3 x4 x5 a16 a17 x9 o1 k2 po1 a26 a27 a28 x14 x15 x16 x17 x18 x19 k7 f0 k8 f1 ⟨by decide, by decide⟩ ⟨by omega, by omega⟩ ho1 hpo1 ⟨by omega, by omega⟩) gX6_count_X6_leftOf rfl (by decide +kernel) ⟨Nat.le_of_ble_eq_true rfl, Nat.le_of_ble_eq_true rfl⟩ hK hP hS hE hN [0, 6, 7, 16, 17, 18] rfl [2, 7, 8] rfl (ci := 6) rfl rfl 0 rfl rfl hl.1 (rest := []) rfl (Nat.le_of_ble_eq_true rfl) dX6_count_89 ⟨Nat.le_of_ble_eq_true rfl, Nat.le_of_ble_eq_true rfl⟩ (fun v hv => ?_)
      obtain ⟨v_22030, rfl⟩ := hv
      have rv_22030 := ka_rng v_22030
      refine ka_stk (w := [.int v_22030]) rfl ?_
      refine ka_RS (n := 1) C (cg_J6_bitCount_0f7a4_39 l D F v_22030) gX6_count_J6_bitCount_0f7a4 rfl (by decide +kernel) ⟨Nat.le_of_ble_eq_true rfl, Nat.le_of_ble_eq_true rfl⟩ hK hP hS hE hN [] rfl [] rfl rfl hl.1 (rest := []) rfl (Nat.le_of_ble_eq_true rfl) dX6_count_92 ⟨Nat.le_of_ble_eq_true rfl, Nat.le_of_ble_eq_true rfl⟩ (fun v hv => ?_)
      obtain ⟨v_22031, rfl⟩ := hv
      have rv_22031 := ka_rng v_22031
      refine ka_stk (w := [.int v_22031]) rfl ?_
      exact ka_rRi C hr hlk ⟨_, rfl⟩ dX6_count_95
    · obtain rfl : x1 = 2 := (ka_eq' _ _).mpr (y_22027.trans (by decide))
      refine lv_iload_n hx hb dX6_count_0 rfl (lv_at hl 1 rfl) ?_
      refine lv_tableIn (off := 76) (tgt := 77) hx hb dX6_count_1 (by decide) (by decide) (by decide) (by decide) ?_
      refine lv_aload_n hx hb dX6_count_77 rfl (lv_at hl 0 rfl) ?_
      refine lv_aload_n hx hb dX6_count_78 rfl (lv_at hl 0 rfl) ?_
      refine ka_get C lq_237 rfl hK hP 0 rfl 2 (by decide) lq_244 rfl dX6_count_79 ?_
      refine lv_aload_n hx hb dX6_count_82 rfl (lv_at hl 0 rfl) ?_
      refine ka_get C lq_237 rfl hK hP 0 rfl 4 (by decide) lq_238 rfl dX6_count_83 ?_
      refine ka_RV (n := 1) C (cg_X0_lessonAt_149 l D F a3 a6 a7 x7 k0 a8 a9 a10 a11 a12 a13) gX6_count_X0_lessonAt rfl (by decide +kernel) ⟨Nat.le_of_ble_eq_true rfl, Nat.le_of_ble_eq_true rfl⟩ hK hP hS hE hN [2, 3] rfl [0] rfl (ci := 0) rfl rfl 2 rfl rfl hl.1 (rest := [.ref a0]) rfl (Nat.le_of_ble_eq_true rfl) dX6_count_86 ⟨Nat.le_of_ble_eq_true rfl, Nat.le_of_ble_eq_true rfl⟩ (fun v hv => ?_)
      subst hv
      refine ka_stk (w := [.ref a10, .ref a0]) rfl ?_
      refine ka_RV (n := 1) C (cg_X6_leftOf_190 l D F a0 a10 a1 a2 a3 a4 2 x2 x3 x4 x5 a18 a19 x10 o2 k3 po2 a26 a27 a28 x14 x15 x16 x17 x18 x19 k7 f0 k8 f1 ⟨by decide, by decide⟩ ⟨by omega, by omega⟩ ho2 hpo2 ⟨by omega, by omega⟩) gX6_count_X6_leftOf rfl (by decide +kernel) ⟨Nat.le_of_ble_eq_true rfl, Nat.le_of_ble_eq_true rfl⟩ hK hP hS hE hN [0, 8, 9, 16, 17, 18] rfl [3, 7, 8] rfl (ci := 6) rfl rfl 0 rfl rfl hl.1 (rest := []) rfl (Nat.le_of_ble_eq_true rfl) dX6_count_89 ⟨Nat.le_of_ble_eq_true rfl, Nat.le_of_ble_eq_true rfl⟩ (fun v hv => ?_)
      obtain ⟨v_22032, rfl⟩ := hv
      have rv_22032 := ka_rng v_22032
      refine ka_stk (w := [.int v_22032]) rfl ?_
      refine ka_RS (n := 1) C (cg_J6_bitCount_0f7a4_39 l D F v_22032) gX6_count_J6_bitCount_0f7a4 rfl (by decide +kernel) ⟨Nat.le_of_ble_eq_true rfl, Nat.le_of_ble_eq_true rfl⟩ hK hP hS hE hN [] rfl [] rfl rfl hl.1 (rest := []) rfl (Nat.le_of_ble_eq_true rfl) dX6_count_92 ⟨Nat.le_of_ble_eq_true rfl, Nat.le_of_ble_eq_true rfl⟩ (fun v hv => ?_)
      obtain ⟨v_22033, rfl⟩ := hv
      have rv_22033 := ka_rng v_22033
      refine ka_stk (w := [.int v_22033]) rfl ?_
      exact ka_rRi C hr hlk ⟨_, rfl⟩ dX6_count_95
    · obtain rfl : x1 = 3 := (ka_eq' _ _).mpr (y_22027.trans (by decide))
      refine lv_iload_n hx hb dX6_count_0 rfl (lv_at hl 1 rfl) ?_
      refine lv_tableIn (off := 76) (tgt := 77) hx hb dX6_count_1 (by decide) (by decide) (by decide) (by decide) ?_
      refine lv_aload_n hx hb dX6_count_77 rfl (lv_at hl 0 rfl) ?_
      refine lv_aload_n hx hb dX6_count_78 rfl (lv_at hl 0 rfl) ?_
      refine ka_get C lq_237 rfl hK hP 0 rfl 2 (by decide) lq_244 rfl dX6_count_79 ?_
      refine lv_aload_n hx hb dX6_count_82 rfl (lv_at hl 0 rfl) ?_
      refine ka_get C lq_237 rfl hK hP 0 rfl 4 (by decide) lq_238 rfl dX6_count_83 ?_
      refine ka_RV (n := 1) C (cg_X0_lessonAt_151 l D F a3 a6 a7 x7 k0 a8 a9 a10 a11 a12 a13) gX6_count_X0_lessonAt rfl (by decide +kernel) ⟨Nat.le_of_ble_eq_true rfl, Nat.le_of_ble_eq_true rfl⟩ hK hP hS hE hN [2, 3] rfl [0] rfl (ci := 0) rfl rfl 2 rfl rfl hl.1 (rest := [.ref a0]) rfl (Nat.le_of_ble_eq_true rfl) dX6_count_86 ⟨Nat.le_of_ble_eq_true rfl, Nat.le_of_ble_eq_true rfl⟩ (fun v hv => ?_)
      subst hv
      refine ka_stk (w := [.ref a11, .ref a0]) rfl ?_
      refine ka_RV (n := 1) C (cg_X6_leftOf_190 l D F a0 a11 a1 a2 a3 a4 3 x2 x3 x4 x5 a20 a21 x11 o3 k4 po3 a26 a27 a28 x14 x15 x16 x17 x18 x19 k7 f0 k8 f1 ⟨by decide, by decide⟩ ⟨by omega, by omega⟩ ho3 hpo3 ⟨by omega, by omega⟩) gX6_count_X6_leftOf rfl (by decide +kernel) ⟨Nat.le_of_ble_eq_true rfl, Nat.le_of_ble_eq_true rfl⟩ hK hP hS hE hN [0, 10, 11, 16, 17, 18] rfl [4, 7, 8] rfl (ci := 6) rfl rfl 0 rfl rfl hl.1 (rest := []) rfl (Nat.le_of_ble_eq_true rfl) dX6_count_89 ⟨Nat.le_of_ble_eq_true rfl, Nat.le_of_ble_eq_true rfl⟩ (fun v hv => ?_)
      obtain ⟨v_22034, rfl⟩ := hv
      have rv_22034 := ka_rng v_22034
      refine ka_stk (w := [.int v_22034]) rfl ?_
      refine ka_RS (n := 1) C (cg_J6_bitCount_0f7a4_39 l D F v_22034) gX6_count_J6_bitCount_0f7a4 rfl (by decide +kernel) ⟨Nat.le_of_ble_eq_true rfl, Nat.le_of_ble_eq_true rfl⟩ hK hP hS hE hN [] rfl [] rfl rfl hl.1 (rest := []) rfl (Nat.le_of_ble_eq_true rfl) dX6_count_92 ⟨Nat.le_of_ble_eq_true rfl, Nat.le_of_ble_eq_true rfl⟩ (fun v hv => ?_)
      obtain ⟨v_22035, rfl⟩ := hv
      have rv_22035 := ka_rng v_22035
      refine ka_stk (w := [.int v_22035]) rfl ?_
      exact ka_rRi C hr hlk ⟨_, rfl⟩ dX6_count_95
    · obtain rfl : x1 = 4 := (ka_eq' _ _).mpr (y_22027.trans (by decide))
      refine lv_iload_n hx hb dX6_count_0 rfl (lv_at hl 1 rfl) ?_
      refine lv_tableIn (off := 76) (tgt := 77) hx hb dX6_count_1 (by decide) (by decide) (by decide) (by decide) ?_
      refine lv_aload_n hx hb dX6_count_77 rfl (lv_at hl 0 rfl) ?_
      refine lv_aload_n hx hb dX6_count_78 rfl (lv_at hl 0 rfl) ?_
      refine ka_get C lq_237 rfl hK hP 0 rfl 2 (by decide) lq_244 rfl dX6_count_79 ?_
      refine lv_aload_n hx hb dX6_count_82 rfl (lv_at hl 0 rfl) ?_
      refine ka_get C lq_237 rfl hK hP 0 rfl 4 (by decide) lq_238 rfl dX6_count_83 ?_
      refine ka_RV (n := 1) C (cg_X0_lessonAt_153 l D F a3 a6 a7 x7 k0 a8 a9 a10 a11 a12 a13) gX6_count_X0_lessonAt rfl (by decide +kernel) ⟨Nat.le_of_ble_eq_true rfl, Nat.le_of_ble_eq_true rfl⟩ hK hP hS hE hN [2, 3] rfl [0] rfl (ci := 0) rfl rfl 2 rfl rfl hl.1 (rest := [.ref a0]) rfl (Nat.le_of_ble_eq_true rfl) dX6_count_86 ⟨Nat.le_of_ble_eq_true rfl, Nat.le_of_ble_eq_true rfl⟩ (fun v hv => ?_)
      subst hv
      refine ka_stk (w := [.ref a12, .ref a0]) rfl ?_
      refine ka_RV (n := 1) C (cg_X6_leftOf_190 l D F a0 a12 a1 a2 a3 a4 4 x2 x3 x4 x5 a22 a23 x12 o4 k5 po4 a26 a27 a28 x14 x15 x16 x17 x18 x19 k7 f0 k8 f1 ⟨by decide, by decide⟩ ⟨by omega, by omega⟩ ho4 hpo4 ⟨by omega, by omega⟩) gX6_count_X6_leftOf rfl (by decide +kernel) ⟨Nat.le_of_ble_eq_true rfl, Nat.le_of_ble_eq_true rfl⟩ hK hP hS hE hN [0, 12, 13, 16, 17, 18] rfl [5, 7, 8] rfl (ci := 6) rfl rfl 0 rfl rfl hl.1 (rest := []) rfl (Nat.le_of_ble_eq_true rfl) dX6_count_89 ⟨Nat.le_of_ble_eq_true rfl, Nat.le_of_ble_eq_true rfl⟩ (fun v hv => ?_)
      obtain ⟨v_22036, rfl⟩ := hv
      have rv_22036 := ka_rng v_22036
      refine ka_stk (w := [.int v_22036]) rfl ?_
      refine ka_RS (n := 1) C (cg_J6_bitCount_0f7a4_39 l D F v_22036) gX6_count_J6_bitCount_0f7a4 rfl (by decide +kernel) ⟨Nat.le_of_ble_eq_true rfl, Nat.le_of_ble_eq_true rfl⟩ hK hP hS hE hN [] rfl [] rfl rfl hl.1 (rest := []) rfl (Nat.le_of_ble_eq_true rfl) dX6_count_92 ⟨Nat.le_of_ble_eq_true rfl, Nat.le_of_ble_eq_true rfl⟩ (fun v hv => ?_)
      obtain ⟨v_22037, rfl⟩ := hv
      have rv_22037 := ka_rng v_22037
      refine ka_stk (w := [.int v_22037]) rfl ?_
      exact ka_rRi C hr hlk ⟨_, rfl⟩ dX6_count_95
    · obtain rfl : x1 = 5 := (ka_eq' _ _).mpr (y_22027.trans (by decide))
      refine lv_iload_n hx hb dX6_count_0 rfl (lv_at hl 1 rfl) ?_
      refine lv_tableIn (off := 76) (tgt := 77) hx hb dX6_count_1 (by decide) (by decide) (by decide) (by decide) ?_
      refine lv_aload_n hx hb dX6_count_77 rfl (lv_at hl 0 rfl) ?_
      refine lv_aload_n hx hb dX6_count_78 rfl (lv_at hl 0 rfl) ?_
      refine ka_get C lq_237 rfl hK hP 0 rfl 2 (by decide) lq_244 rfl dX6_count_79 ?_
      refine lv_aload_n hx hb dX6_count_82 rfl (lv_at hl 0 rfl) ?_
      refine ka_get C lq_237 rfl hK hP 0 rfl 4 (by decide) lq_238 rfl dX6_count_83 ?_
      refine ka_RV (n := 1) C (cg_X0_lessonAt_155 l D F a3 a6 a7 x7 k0 a8 a9 a10 a11 a12 a13) gX6_count_X0_lessonAt rfl (by decide +kernel) ⟨Nat.le_of_ble_eq_true rfl, Nat.le_of_ble_eq_true rfl⟩ hK hP hS hE hN [2, 3] rfl [0] rfl (ci := 0) rfl rfl 2 rfl rfl hl.1 (rest := [.ref a0]) rfl (Nat.le_of_ble_eq_true rfl) dX6_count_86 ⟨Nat.le_of_ble_eq_true rfl, Nat.le_of_ble_eq_true rfl⟩ (fun v hv => ?_)
      subst hv
      refine ka_stk (w := [.ref a13, .ref a0]) rfl ?_
      refine ka_RV (n := 1) C (cg_X6_leftOf_190 l D F a0 a13 a1 a2 a3 a4 5 x2 x3 x4 x5 a24 a25 x13 o5 k6 po5 a26 a27 a28 x14 x15 x16 x17 x18 x19 k7 f0 k8 f1 ⟨by decide, by decide⟩ ⟨by omega, by omega⟩ ho5 hpo5 ⟨by omega, by omega⟩) gX6_count_X6_leftOf rfl (by decide +kernel) ⟨Nat.le_of_ble_eq_true rfl, Nat.le_of_ble_eq_true rfl⟩ hK hP hS hE hN [0, 14, 15, 16, 17, 18] rfl [6, 7, 8] rfl (ci := 6) rfl rfl 0 rfl rfl hl.1 (rest := []) rfl (Nat.le_of_ble_eq_true rfl) dX6_count_89 ⟨Nat.le_of_ble_eq_true rfl, Nat.le_of_ble_eq_true rfl⟩ (fun v hv => ?_)
      obtain ⟨v_22038, rfl⟩ := hv
      have rv_22038 := ka_rng v_22038
      refine ka_stk (w := [.int v_22038]) rfl ?_
      refine ka_RS (n := 1) C (cg_J6_bitCount_0f7a4_39 l D F v_22038) gX6_count_J6_bitCount_0f7a4 rfl (by decide +kernel) ⟨Nat.le_of_ble_eq_true rfl, Nat.le_of_ble_eq_true rfl⟩ hK hP hS hE hN [] rfl [] rfl rfl hl.1 (rest := []) rfl (Nat.le_of_ble_eq_true rfl) dX6_count_92 ⟨Nat.le_of_ble_eq_true rfl, Nat.le_of_ble_eq_true rfl⟩ (fun v hv => ?_)
      obtain ⟨v_22039, rfl⟩ := hv
      have rv_22039 := ka_rng v_22039
      refine ka_stk (w := [.int v_22039]) rfl ?_
      exact ka_rRi C hr hlk ⟨_, rfl⟩ dX6_count_95
  · obtain rfl : x0 = 5 := (ka_eq' _ _).mpr (y_22021.trans (by decide))
    rcases (show x1.toInt = -1 ∨ x1.toInt = 0 ∨ x1.toInt = 1 ∨ x1.toInt = 2 ∨ x1.toInt = 3 ∨ x1.toInt = 4 ∨ x1.toInt = 5 by omega) with y_22040 | y_22040 | y_22040 | y_22040 | y_22040 | y_22040 | y_22040
    · obtain rfl : x1 = (-1) := (ka_eq' _ _).mpr (y_22040.trans (by decide))
      refine lv_iload_n hx hb dX6_count_0 rfl (lv_at hl 1 rfl) ?_
      refine lv_tableIn (off := 95) (tgt := 96) hx hb dX6_count_1 (by decide) (by decide) (by decide) (by decide) ?_
      refine lv_aload_n hx hb dX6_count_96 rfl (lv_at hl 0 rfl) ?_
      refine ka_get C lq_237 rfl hK hP 0 rfl 2 (by decide) lq_244 rfl dX6_count_97 ?_
      refine lv_aload_n hx hb dX6_count_100 rfl (lv_at hl 0 rfl) ?_
      refine ka_get C lq_237 rfl hK hP 0 rfl 4 (by decide) lq_238 rfl dX6_count_101 ?_
      refine ka_RV (n := 1) C (cg_X0_isDone_203 l D F a3) gX6_count_X0_isDone rfl (by decide +kernel) ⟨Nat.le_of_ble_eq_true rfl, Nat.le_of_ble_eq_true rfl⟩ hK hP hS hE hN [] rfl [] rfl (ci := 0) rfl rfl 2 rfl rfl hl.1 (rest := []) rfl (Nat.le_of_ble_eq_true rfl) dX6_count_104 ⟨Nat.le_of_ble_eq_true rfl, Nat.le_of_ble_eq_true rfl⟩ (fun v hv => ?_)
      subst hv
      refine ka_stk (w := [.int 0]) rfl ?_
      refine lv_if_eq (tgt := 114) hx hb dX6_count_107 (by decide) (fun _ => ?_) (fun c_ => absurd (by decide) c_)
      refine lv_iconst (v := 0) hx hb dX6_count_114 (by decide) ?_
      exact ka_rRi C hr hlk ⟨_, rfl⟩ dX6_count_115
    · obtain rfl : x1 = 0 := (ka_eq' _ _).mpr (y_22040.trans (by decide))
      refine lv_iload_n hx hb dX6_count_0 rfl (lv_at hl 1 rfl) ?_
      refine lv_tableIn (off := 95) (tgt := 96) hx hb dX6_count_1 (by decide) (by decide) (by decide) (by decide) ?_
      refine lv_aload_n hx hb dX6_count_96 rfl (lv_at hl 0 rfl) ?_
      refine ka_get C lq_237 rfl hK hP 0 rfl 2 (by decide) lq_244 rfl dX6_count_97 ?_
      refine lv_aload_n hx hb dX6_count_100 rfl (lv_at hl 0 rfl) ?_
      refine ka_get C lq_237 rfl hK hP 0 rfl 4 (by decide) lq_238 rfl dX6_count_101 ?_
      refine ka_RV (n := 1) C (cg_X0_isDone_146 l D F a3 a6 a7 x7) gX6_count_X0_isDone rfl (by decide +kernel) ⟨Nat.le_of_ble_eq_true rfl, Nat.le_of_ble_eq_true rfl⟩ hK hP hS hE hN [2] rfl [] rfl (ci := 0) rfl rfl 2 rfl rfl hl.1 (rest := []) rfl (Nat.le_of_ble_eq_true rfl) dX6_count_104 ⟨Nat.le_of_ble_eq_true rfl, Nat.le_of_ble_eq_true rfl⟩ (fun v hv => ?_)
      obtain ⟨v_22041, rfl, hv_22041⟩ := hv
      have rv_22041 := ka_rng v_22041
      refine ka_stk (w := [.int v_22041]) rfl ?_
      refine lv_if_eq (tgt := 114) hx hb dX6_count_107 (by decide) (fun c_22042 => ?_) (fun c_22042 => ?_)
      · have c_22042 : v_22041.toInt = 0 := by rw [ka_eq', show ((0 : Int32)).toInt = 0 from by decide] at c_22042; exact c_22042
        refine lv_iconst (v := 0) hx hb dX6_count_114 (by decide) ?_
        exact ka_rRi C hr hlk ⟨_, rfl⟩ dX6_count_115
      · have c_22042 : ¬ v_22041.toInt = 0 := by rw [ka_eq', show ((0 : Int32)).toInt = 0 from by decide] at c_22042; exact c_22042
        refine lv_iconst (v := 1) hx hb dX6_count_110 (by decide) ?_
        refine lv_goto (tgt := 115) hx hb dX6_count_111 (by decide) ?_
        exact ka_rRi C hr hlk ⟨_, rfl⟩ dX6_count_115
    · obtain rfl : x1 = 1 := (ka_eq' _ _).mpr (y_22040.trans (by decide))
      refine lv_iload_n hx hb dX6_count_0 rfl (lv_at hl 1 rfl) ?_
      refine lv_tableIn (off := 95) (tgt := 96) hx hb dX6_count_1 (by decide) (by decide) (by decide) (by decide) ?_
      refine lv_aload_n hx hb dX6_count_96 rfl (lv_at hl 0 rfl) ?_
      refine ka_get C lq_237 rfl hK hP 0 rfl 2 (by decide) lq_244 rfl dX6_count_97 ?_
      refine lv_aload_n hx hb dX6_count_100 rfl (lv_at hl 0 rfl) ?_
      refine ka_get C lq_237 rfl hK hP 0 rfl 4 (by decide) lq_238 rfl dX6_count_101 ?_
      refine ka_RV (n := 1) C (cg_X0_isDone_148 l D F a3 a6 a7 x7) gX6_count_X0_isDone rfl (by decide +kernel) ⟨Nat.le_of_ble_eq_true rfl, Nat.le_of_ble_eq_true rfl⟩ hK hP hS hE hN [2] rfl [] rfl (ci := 0) rfl rfl 2 rfl rfl hl.1 (rest := []) rfl (Nat.le_of_ble_eq_true rfl) dX6_count_104 ⟨Nat.le_of_ble_eq_true rfl, Nat.le_of_ble_eq_true rfl⟩ (fun v hv => ?_)
      obtain ⟨v_22043, rfl, hv_22043⟩ := hv
      have rv_22043 := ka_rng v_22043
      refine ka_stk (w := [.int v_22043]) rfl ?_
      refine lv_if_eq (tgt := 114) hx hb dX6_count_107 (by decide) (fun c_22044 => ?_) (fun c_22044 => ?_)
      · have c_22044 : v_22043.toInt = 0 := by rw [ka_eq', show ((0 : Int32)).toInt = 0 from by decide] at c_22044; exact c_22044
        refine lv_iconst (v := 0) hx hb dX6_count_114 (by decide) ?_
        exact ka_rRi C hr hlk ⟨_, rfl⟩ dX6_count_115
      · have c_22044 : ¬ v_22043.toInt = 0 := by rw [ka_eq', show ((0 : Int32)).toInt = 0 from by decide] at c_22044; exact c_22044
        refine lv_iconst (v := 1) hx hb dX6_count_110 (by decide) ?_
        refine lv_goto (tgt := 115) hx hb dX6_count_111 (by decide) ?_
        exact ka_rRi C hr hlk ⟨_, rfl⟩ dX6_count_115
    · obtain rfl : x1 = 2 := (ka_eq' _ _).mpr (y_22040.trans (by decide))
      refine lv_iload_n hx hb dX6_count_0 rfl (lv_at hl 1 rfl) ?_
      refine lv_tableIn (off := 95) (tgt := 96) hx hb dX6_count_1 (by decide) (by decide) (by decide) (by decide) ?_
      refine lv_aload_n hx hb dX6_count_96 rfl (lv_at hl 0 rfl) ?_
      refine ka_get C lq_237 rfl hK hP 0 rfl 2 (by decide) lq_244 rfl dX6_count_97 ?_
      refine lv_aload_n hx hb dX6_count_100 rfl (lv_at hl 0 rfl) ?_
      refine ka_get C lq_237 rfl hK hP 0 rfl 4 (by decide) lq_238 rfl dX6_count_101 ?_
      refine ka_RV (n := 1) C (cg_X0_isDone_150 l D F a3 a6 a7 x7) gX6_count_X0_isDone rfl (by decide +kernel) ⟨Nat.le_of_ble_eq_true rfl, Nat.le_of_ble_eq_true rfl⟩ hK hP hS hE hN [2] rfl [] rfl (ci := 0) rfl rfl 2 rfl rfl hl.1 (rest := []) rfl (Nat.le_of_ble_eq_true rfl) dX6_count_104 ⟨Nat.le_of_ble_eq_true rfl, Nat.le_of_ble_eq_true rfl⟩ (fun v hv => ?_)
      obtain ⟨v_22045, rfl, hv_22045⟩ := hv
      have rv_22045 := ka_rng v_22045
      refine ka_stk (w := [.int v_22045]) rfl ?_
      refine lv_if_eq (tgt := 114) hx hb dX6_count_107 (by decide) (fun c_22046 => ?_) (fun c_22046 => ?_)
      · have c_22046 : v_22045.toInt = 0 := by rw [ka_eq', show ((0 : Int32)).toInt = 0 from by decide] at c_22046; exact c_22046
        refine lv_iconst (v := 0) hx hb dX6_count_114 (by decide) ?_
        exact ka_rRi C hr hlk ⟨_, rfl⟩ dX6_count_115
      · have c_22046 : ¬ v_22045.toInt = 0 := by rw [ka_eq', show ((0 : Int32)).toInt = 0 from by decide] at c_22046; exact c_22046
        refine lv_iconst (v := 1) hx hb dX6_count_110 (by decide) ?_
        refine lv_goto (tgt := 115) hx hb dX6_count_111 (by decide) ?_
        exact ka_rRi C hr hlk ⟨_, rfl⟩ dX6_count_115
    · obtain rfl : x1 = 3 := (ka_eq' _ _).mpr (y_22040.trans (by decide))
      refine lv_iload_n hx hb dX6_count_0 rfl (lv_at hl 1 rfl) ?_
      refine lv_tableIn (off := 95) (tgt := 96) hx hb dX6_count_1 (by decide) (by decide) (by decide) (by decide) ?_
      refine lv_aload_n hx hb dX6_count_96 rfl (lv_at hl 0 rfl) ?_
      refine ka_get C lq_237 rfl hK hP 0 rfl 2 (by decide) lq_244 rfl dX6_count_97 ?_
      refine lv_aload_n hx hb dX6_count_100 rfl (lv_at hl 0 rfl) ?_
      refine ka_get C lq_237 rfl hK hP 0 rfl 4 (by decide) lq_238 rfl dX6_count_101 ?_
      refine ka_RV (n := 1) C (cg_X0_isDone_152 l D F a3 a6 a7 x7) gX6_count_X0_isDone rfl (by decide +kernel) ⟨Nat.le_of_ble_eq_true rfl, Nat.le_of_ble_eq_true rfl⟩ hK hP hS hE hN [2] rfl [] rfl (ci := 0) rfl rfl 2 rfl rfl hl.1 (rest := []) rfl (Nat.le_of_ble_eq_true rfl) dX6_count_104 ⟨Nat.le_of_ble_eq_true rfl, Nat.le_of_ble_eq_true rfl⟩ (fun v hv => ?_)
      obtain ⟨v_22047, rfl, hv_22047⟩ := hv
      have rv_22047 := ka_rng v_22047
      refine ka_stk (w := [.int v_22047]) rfl ?_
      refine lv_if_eq (tgt := 114) hx hb dX6_count_107 (by decide) (fun c_22048 => ?_) (fun c_22048 => ?_)
      · have c_22048 : v_22047.toInt = 0 := by rw [ka_eq', show ((0 : Int32)).toInt = 0 from by decide] at c_22048; exact c_22048
        refine lv_iconst (v := 0) hx hb dX6_count_114 (by decide) ?_
        exact ka_rRi C hr hlk ⟨_, rfl⟩ dX6_count_115
      · have c_22048 : ¬ v_22047.toInt = 0 := by rw [ka_eq', show ((0 : Int32)).toInt = 0 from by decide] at c_22048; exact c_22048
        refine lv_iconst (v := 1) hx hb dX6_count_110 (by decide) ?_
        refine lv_goto (tgt := 115) hx hb dX6_count_111 (by decide) ?_
        exact ka_rRi C hr hlk ⟨_, rfl⟩ dX6_count_115
    · obtain rfl : x1 = 4 := (ka_eq' _ _).mpr (y_22040.trans (by decide))
      refine lv_iload_n hx hb dX6_count_0 rfl (lv_at hl 1 rfl) ?_
      refine lv_tableIn (off := 95) (tgt := 96) hx hb dX6_count_1 (by decide) (by decide) (by decide) (by decide) ?_
      refine lv_aload_n hx hb dX6_count_96 rfl (lv_at hl 0 rfl) ?_
      refine ka_get C lq_237 rfl hK hP 0 rfl 2 (by decide) lq_244 rfl dX6_count_97 ?_
      refine lv_aload_n hx hb dX6_count_100 rfl (lv_at hl 0 rfl) ?_
      refine ka_get C lq_237 rfl hK hP 0 rfl 4 (by decide) lq_238 rfl dX6_count_101 ?_
      refine ka_RV (n := 1) C (cg_X0_isDone_154 l D F a3 a6 a7 x7) gX6_count_X0_isDone rfl (by decide +kernel) ⟨Nat.le_of_ble_eq_true rfl, Nat.le_of_ble_eq_true rfl⟩ hK hP hS hE hN [2] rfl [] rfl (ci := 0) rfl rfl 2 rfl rfl hl.1 (rest := []) rfl (Nat.le_of_ble_eq_true rfl) dX6_count_104 ⟨Nat.le_of_ble_eq_true rfl, Nat.le_of_ble_eq_true rfl⟩ (fun v hv => ?_)
      obtain ⟨v_22049, rfl, hv_22049⟩ := hv
      have rv_22049 := ka_rng v_22049
      refine ka_stk (w := [.int v_22049]) rfl ?_
      refine lv_if_eq (tgt := 114) hx hb dX6_count_107 (by decide) (fun c_22050 => ?_) (fun c_22050 => ?_)
      · have c_22050 : v_22049.toInt = 0 := by rw [ka_eq', show ((0 : Int32)).toInt = 0 from by decide] at c_22050; exact c_22050
        refine lv_iconst (v := 0) hx hb dX6_count_114 (by decide) ?_
        exact ka_rRi C hr hlk ⟨_, rfl⟩ dX6_count_115
      · have c_22050 : ¬ v_22049.toInt = 0 := by rw [ka_eq', show ((0 : Int32)).toInt = 0 from by decide] at c_22050; exact c_22050
        refine lv_iconst (v := 1) hx hb dX6_count_110 (by decide) ?_
        refine lv_goto (tgt := 115) hx hb dX6_count_111 (by decide) ?_
        exact ka_rRi C hr hlk ⟨_, rfl⟩ dX6_count_115
    · obtain rfl : x1 = 5 := (ka_eq' _ _).mpr (y_22040.trans (by decide))
      refine lv_iload_n hx hb dX6_count_0 rfl (lv_at hl 1 rfl) ?_
      refine lv_tableIn (off := 95) (tgt := 96) hx hb dX6_count_1 (by decide) (by decide) (by decide) (by decide) ?_
      refine lv_aload_n hx hb dX6_count_96 rfl (lv_at hl 0 rfl) ?_
      refine ka_get C lq_237 rfl hK hP 0 rfl 2 (by decide) lq_244 rfl dX6_count_97 ?_
      refine lv_aload_n hx hb dX6_count_100 rfl (lv_at hl 0 rfl) ?_
      refine ka_get C lq_237 rfl hK hP 0 rfl 4 (by decide) lq_238 rfl dX6_count_101 ?_
      refine ka_RV (n := 1) C (cg_X0_isDone_156 l D F a3 a6 a7 x7) gX6_count_X0_isDone rfl (by decide +kernel) ⟨Nat.le_of_ble_eq_true rfl, Nat.le_of_ble_eq_true rfl⟩ hK hP hS hE hN [2] rfl [] rfl (ci := 0) rfl rfl 2 rfl rfl hl.1 (rest := []) rfl (Nat.le_of_ble_eq_true rfl) dX6_count_104 ⟨Nat.le_of_ble_eq_true rfl, Nat.le_of_ble_eq_true rfl⟩ (fun v hv => ?_)
      obtain ⟨v_22051, rfl, hv_22051⟩ := hv
      have rv_22051 := ka_rng v_22051
      refine ka_stk (w := [.int v_22051]) rfl ?_
      refine lv_if_eq (tgt := 114) hx hb dX6_count_107 (by decide) (fun c_22052 => ?_) (fun c_22052 => ?_)
      · have c_22052 : v_22051.toInt = 0 := by rw [ka_eq', show ((0 : Int32)).toInt = 0 from by decide] at c_22052; exact c_22052
        refine lv_iconst (v := 0) hx hb dX6_count_114 (by decide) ?_
        exact ka_rRi C hr hlk ⟨_, rfl⟩ dX6_count_115
      · have c_22052 : ¬ v_22051.toInt = 0 := by rw [ka_eq', show ((0 : Int32)).toInt = 0 from by decide] at c_22052; exact c_22052
        refine lv_iconst (v := 1) hx hb dX6_count_110 (by decide) ?_
        refine lv_goto (tgt := 115) hx hb dX6_count_111 (by decide) ?_
        exact ka_rRi C hr hlk ⟨_, rfl⟩ dX6_count_115
  · obtain rfl : x0 = 6 := (ka_eq' _ _).mpr (y_22021.trans (by decide))
    rcases (show x1.toInt = -1 ∨ x1.toInt = 0 ∨ x1.toInt = 1 ∨ x1.toInt = 2 ∨ x1.toInt = 3 ∨ x1.toInt = 4 ∨ x1.toInt = 5 by omega) with y_22053 | y_22053 | y_22053 | y_22053 | y_22053 | y_22053 | y_22053
    · obtain rfl : x1 = (-1) := (ka_eq' _ _).mpr (y_22053.trans (by decide))
      refine lv_iload_n hx hb dX6_count_0 rfl (lv_at hl 1 rfl) ?_
      refine lv_tableIn (off := 115) (tgt := 116) hx hb dX6_count_1 (by decide) (by decide) (by decide) (by decide) ?_
      refine lv_aload_n hx hb dX6_count_116 rfl (lv_at hl 0 rfl) ?_
      refine ka_get C lq_237 rfl hK hP 0 rfl 2 (by decide) lq_244 rfl dX6_count_117 ?_
      refine ka_get C lq_245 rfl hK hP 2 rfl 2 (by decide) lq_246 rfl dX6_count_120 ?_
      exact ka_rRi C hr hlk ⟨_, rfl⟩ dX6_count_123
    · obtain rfl : x1 = 0 := (ka_eq' _ _).mpr (y_22053.trans (by decide))
      refine lv_iload_n hx hb dX6_count_0 rfl (lv_at hl 1 rfl) ?_
      refine lv_tableIn (off := 115) (tgt := 116) hx hb dX6_count_1 (by decide) (by decide) (by decide) (by decide) ?_
      refine lv_aload_n hx hb dX6_count_116 rfl (lv_at hl 0 rfl) ?_
      refine ka_get C lq_237 rfl hK hP 0 rfl 2 (by decide) lq_244 rfl dX6_count_117 ?_
      refine ka_get C lq_245 rfl hK hP 2 rfl 2 (by decide) lq_246 rfl dX6_count_120 ?_
      exact ka_rRi C hr hlk ⟨_, rfl⟩ dX6_count_123
    · obtain rfl : x1 = 1 := (ka_eq' _ _).mpr (y_22053.trans (by decide))
      refine lv_iload_n hx hb dX6_count_0 rfl (lv_at hl 1 rfl) ?_
      refine lv_tableIn (off := 115) (tgt := 116) hx hb dX6_count_1 (by decide) (by decide) (by decide) (by decide) ?_
      refine lv_aload_n hx hb dX6_count_116 rfl (lv_at hl 0 rfl) ?_
      refine ka_get C lq_237 rfl hK hP 0 rfl 2 (by decide) lq_244 rfl dX6_count_117 ?_
      refine ka_get C lq_245 rfl hK hP 2 rfl 2 (by decide) lq_246 rfl dX6_count_120 ?_
      exact ka_rRi C hr hlk ⟨_, rfl⟩ dX6_count_123
    · obtain rfl : x1 = 2 := (ka_eq' _ _).mpr (y_22053.trans (by decide))
      refine lv_iload_n hx hb dX6_count_0 rfl (lv_at hl 1 rfl) ?_
      refine lv_tableIn (off := 115) (tgt := 116) hx hb dX6_count_1 (by decide) (by decide) (by decide) (by decide) ?_
      refine lv_aload_n hx hb dX6_count_116 rfl (lv_at hl 0 rfl) ?_
      refine ka_get C lq_237 rfl hK hP 0 rfl 2 (by decide) lq_244 rfl dX6_count_117 ?_
      refine ka_get C lq_245 rfl hK hP 2 rfl 2 (by decide) lq_246 rfl dX6_count_120 ?_
      exact ka_rRi C hr hlk ⟨_, rfl⟩ dX6_count_123
    · obtain rfl : x1 = 3 := (ka_eq' _ _).mpr (y_22053.trans (by decide))
      refine lv_iload_n hx hb dX6_count_0 rfl (lv_at hl 1 rfl) ?_
      refine lv_tableIn (off := 115) (tgt := 116) hx hb dX6_count_1 (by decide) (by decide) (by decide) (by decide) ?_
      refine lv_aload_n hx hb dX6_count_116 rfl (lv_at hl 0 rfl) ?_
      refine ka_get C lq_237 rfl hK hP 0 rfl 2 (by decide) lq_244 rfl dX6_count_117 ?_
      refine ka_get C lq_245 rfl hK hP 2 rfl 2 (by decide) lq_246 rfl dX6_count_120 ?_
      exact ka_rRi C hr hlk ⟨_, rfl⟩ dX6_count_123
    · obtain rfl : x1 = 4 := (ka_eq' _ _).mpr (y_22053.trans (by decide))
      refine lv_iload_n hx hb dX6_count_0 rfl (lv_at hl 1 rfl) ?_
      refine lv_tableIn (off := 115) (tgt := 116) hx hb dX6_count_1 (by decide) (by decide) (by decide) (by decide) ?_
      refine lv_aload_n hx hb dX6_count_116 rfl (lv_at hl 0 rfl) ?_
      refine ka_get C lq_237 rfl hK hP 0 rfl 2 (by decide) lq_244 rfl dX6_count_117 ?_
      refine ka_get C lq_245 rfl hK hP 2 rfl 2 (by decide) lq_246 rfl dX6_count_120 ?_
      exact ka_rRi C hr hlk ⟨_, rfl⟩ dX6_count_123
    · obtain rfl : x1 = 5 := (ka_eq' _ _).mpr (y_22053.trans (by decide))
      refine lv_iload_n hx hb dX6_count_0 rfl (lv_at hl 1 rfl) ?_
      refine lv_tableIn (off := 115) (tgt := 116) hx hb dX6_count_1 (by decide) (by decide) (by decide) (by decide) ?_
      refine lv_aload_n hx hb dX6_count_116 rfl (lv_at hl 0 rfl) ?_
      refine ka_get C lq_237 rfl hK hP 0 rfl 2 (by decide) lq_244 rfl dX6_count_117 ?_
      refine ka_get C lq_245 rfl hK hP 2 rfl 2 (by decide) lq_246 rfl dX6_count_120 ?_
      exact ka_rRi C hr hlk ⟨_, rfl⟩ dX6_count_123
  · obtain rfl : x0 = 7 := (ka_eq' _ _).mpr (y_22021.trans (by decide))
    rcases (show x1.toInt = -1 ∨ x1.toInt = 0 ∨ x1.toInt = 1 ∨ x1.toInt = 2 ∨ x1.toInt = 3 ∨ x1.toInt = 4 ∨ x1.toInt = 5 by omega) with y_22054 | y_22054 | y_22054 | y_22054 | y_22054 | y_22054 | y_22054
    · obtain rfl : x1 = (-1) := (ka_eq' _ _).mpr (y_22054.trans (by decide))
      refine lv_iload_n hx hb dX6_count_0 rfl (lv_at hl 1 rfl) ?_
      refine lv_tableIn (off := 123) (tgt := 124) hx hb dX6_count_1 (by decide) (by decide) (by decide) (by decide) ?_
      refine lv_aload_n hx hb dX6_count_124 rfl (lv_at hl 0 rfl) ?_
      refine ka_get C lq_237 rfl hK hP 0 rfl 0 (by decide) lq_247 rfl dX6_count_125 ?_
      refine ka_get C lq_248 rfl hK hP 1 rfl 1 (by decide) lq_249 rfl dX6_count_128 ?_
      exact ka_rRi C hr hlk ⟨_, rfl⟩ dX6_count_131
    · obtain rfl : x1 = 0 := (ka_eq' _ _).mpr (y_22054.trans (by decide))
      refine lv_iload_n hx hb dX6_count_0 rfl (lv_at hl 1 rfl) ?_
      refine lv_tableIn (off := 123) (tgt := 124) hx hb dX6_count_1 (by decide) (by decide) (by decide) (by decide) ?_
      refine lv_aload_n hx hb dX6_count_124 rfl (lv_at hl 0 rfl) ?_
      refine ka_get C lq_237 rfl hK hP 0 rfl 0 (by decide) lq_247 rfl dX6_count_125 ?_
      refine ka_get C lq_248 rfl hK hP 1 rfl 1 (by decide) lq_249 rfl dX6_count_128 ?_
      exact ka_rRi C hr hlk ⟨_, rfl⟩ dX6_count_131
    · obtain rfl : x1 = 1 := (ka_eq' _ _).mpr (y_22054.trans (by decide))
      refine lv_iload_n hx hb dX6_count_0 rfl (lv_at hl 1 rfl) ?_
      refine lv_tableIn (off := 123) (tgt := 124) hx hb dX6_count_1 (by decide) (by decide) (by decide) (by decide) ?_
      refine lv_aload_n hx hb dX6_count_124 rfl (lv_at hl 0 rfl) ?_
      refine ka_get C lq_237 rfl hK hP 0 rfl 0 (by decide) lq_247 rfl dX6_count_125 ?_
      refine ka_get C lq_248 rfl hK hP 1 rfl 1 (by decide) lq_249 rfl dX6_count_128 ?_
      exact ka_rRi C hr hlk ⟨_, rfl⟩ dX6_count_131
    · obtain rfl : x1 = 2 := (ka_eq' _ _).mpr (y_22054.trans (by decide))
      refine lv_iload_n hx hb dX6_count_0 rfl (lv_at hl 1 rfl) ?_
      refine lv_tableIn (off := 123) (tgt := 124) hx hb dX6_count_1 (by decide) (by decide) (by decide) (by decide) ?_
      refine lv_aload_n hx hb dX6_count_124 rfl (lv_at hl 0 rfl) ?_
      refine ka_get C lq_237 rfl hK hP 0 rfl 0 (by decide) lq_247 rfl dX6_count_125 ?_
      refine ka_get C lq_248 rfl hK hP 1 rfl 1 (by decide) lq_249 rfl dX6_count_128 ?_
      exact ka_rRi C hr hlk ⟨_, rfl⟩ dX6_count_131
    · obtain rfl : x1 = 3 := (ka_eq' _ _).mpr (y_22054.trans (by decide))
      refine lv_iload_n hx hb dX6_count_0 rfl (lv_at hl 1 rfl) ?_
      refine lv_tableIn (off := 123) (tgt := 124) hx hb dX6_count_1 (by decide) (by decide) (by decide) (by decide) ?_
      refine lv_aload_n hx hb dX6_count_124 rfl (lv_at hl 0 rfl) ?_
      refine ka_get C lq_237 rfl hK hP 0 rfl 0 (by decide) lq_247 rfl dX6_count_125 ?_
      refine ka_get C lq_248 rfl hK hP 1 rfl 1 (by decide) lq_249 rfl dX6_count_128 ?_
      exact ka_rRi C hr hlk ⟨_, rfl⟩ dX6_count_131
    · obtain rfl : x1 = 4 := (ka_eq' _ _).mpr (y_22054.trans (by decide))
      refine lv_iload_n hx hb dX6_count_0 rfl (lv_at hl 1 rfl) ?_
      refine lv_tableIn (off := 123) (tgt := 124) hx hb dX6_count_1 (by decide) (by decide) (by decide) (by decide) ?_
      refine lv_aload_n hx hb dX6_count_124 rfl (lv_at hl 0 rfl) ?_
      refine ka_get C lq_237 rfl hK hP 0 rfl 0 (by decide) lq_247 rfl dX6_count_125 ?_
      refine ka_get C lq_248 rfl hK hP 1 rfl 1 (by decide) lq_249 rfl dX6_count_128 ?_
      exact ka_rRi C hr hlk ⟨_, rfl⟩ dX6_count_131
    · obtain rfl : x1 = 5 := (ka_eq' _ _).mpr (y_22054.trans (by decide))
      refine lv_iload_n hx hb dX6_count_0 rfl (lv_at hl 1 rfl) ?_
      refine lv_tableIn (off := 123) (tgt := 124) hx hb dX6_count_1 (by decide) (by decide) (by decide) (by decide) ?_
      refine lv_aload_n hx hb dX6_count_124 rfl (lv_at hl 0 rfl) ?_
      refine ka_get C lq_237 rfl hK hP 0 rfl 0 (by decide) lq_247 rfl dX6_count_125 ?_
      refine ka_get C lq_248 rfl hK hP 1 rfl 1 (by decide) lq_249 rfl dX6_count_128 ?_
      exact ka_rRi C hr hlk ⟨_, rfl⟩ dX6_count_131
  · skip
    rcases (show x1.toInt = -1 ∨ x1.toInt = 0 ∨ x1.toInt = 1 ∨ x1.toInt = 2 ∨ x1.toInt = 3 ∨ x1.toInt = 4 ∨ x1.toInt = 5 by omega) with y_22055 | y_22055 | y_22055 | y_22055 | y_22055 | y_22055 | y_22055
    · obtain rfl : x1 = (-1) := (ka_eq' _ _).mpr (y_22055.trans (by decide))
      refine lv_iload_n hx hb dX6_count_0 rfl (lv_at hl 1 rfl) ?_
      refine lv_tableOut (tgt := 132) hx hb dX6_count_1 (by omega) (by decide) ?_
      refine lv_iconst (v := (-1)) hx hb dX6_count_132 (by decide) ?_
      exact ka_rRi C hr hlk ⟨_, rfl⟩ dX6_count_133
    · obtain rfl : x1 = 0 := (ka_eq' _ _).mpr (y_22055.trans (by decide))
      refine lv_iload_n hx hb dX6_count_0 rfl (lv_at hl 1 rfl) ?_
      refine lv_tableOut (tgt := 132) hx hb dX6_count_1 (by omega) (by decide) ?_
      refine lv_iconst (v := (-1)) hx hb dX6_count_132 (by decide) ?_
      exact ka_rRi C hr hlk ⟨_, rfl⟩ dX6_count_133
    · obtain rfl : x1 = 1 := (ka_eq' _ _).mpr (y_22055.trans (by decide))
      refine lv_iload_n hx hb dX6_count_0 rfl (lv_at hl 1 rfl) ?_
      refine lv_tableOut (tgt := 132) hx hb dX6_count_1 (by omega) (by decide) ?_
      refine lv_iconst (v := (-1)) hx hb dX6_count_132 (by decide) ?_
      exact ka_rRi C hr hlk ⟨_, rfl⟩ dX6_count_133
    · obtain rfl : x1 = 2 := (ka_eq' _ _).mpr (y_22055.trans (by decide))
      refine lv_iload_n hx hb dX6_count_0 rfl (lv_at hl 1 rfl) ?_
      refine lv_tableOut (tgt := 132) hx hb dX6_count_1 (by omega) (by decide) ?_
      refine lv_iconst (v := (-1)) hx hb dX6_count_132 (by decide) ?_
      exact ka_rRi C hr hlk ⟨_, rfl⟩ dX6_count_133
    · obtain rfl : x1 = 3 := (ka_eq' _ _).mpr (y_22055.trans (by decide))
      refine lv_iload_n hx hb dX6_count_0 rfl (lv_at hl 1 rfl) ?_
      refine lv_tableOut (tgt := 132) hx hb dX6_count_1 (by omega) (by decide) ?_
      refine lv_iconst (v := (-1)) hx hb dX6_count_132 (by decide) ?_
      exact ka_rRi C hr hlk ⟨_, rfl⟩ dX6_count_133
    · obtain rfl : x1 = 4 := (ka_eq' _ _).mpr (y_22055.trans (by decide))
      refine lv_iload_n hx hb dX6_count_0 rfl (lv_at hl 1 rfl) ?_
      refine lv_tableOut (tgt := 132) hx hb dX6_count_1 (by omega) (by decide) ?_
      refine lv_iconst (v := (-1)) hx hb dX6_count_132 (by decide) ?_
      exact ka_rRi C hr hlk ⟨_, rfl⟩ dX6_count_133
    · obtain rfl : x1 = 5 := (ka_eq' _ _).mpr (y_22055.trans (by decide))
      refine lv_iload_n hx hb dX6_count_0 rfl (lv_at hl 1 rfl) ?_
      refine lv_tableOut (tgt := 132) hx hb dX6_count_1 (by omega) (by decide) ?_
      refine lv_iconst (v := (-1)) hx hb dX6_count_132 (by decide) ?_
      exact ka_rRi C hr hlk ⟨_, rfl⟩ dX6_count_133
theorem lq_250 : ∀ w ∈ wsX60, w ∈ wsX6_readTape := by decide +kernel
theorem lq_251 : Cond.fieldLink RX6 21 "AskedBack" "reader" "LAskedBack$Reader;" ∈ wsX6_readTape := by decide +kernel
theorem lq_252 : Cond.fieldLink RX6 43 "AskedBack" "latestFault" "I" ∈ wsX6_readTape := by decide +kernel
theorem lq_253 : Cond.fieldLink RX6 10 "AskedBack" "tape" "LAskedBack$Tape;" ∈ wsX6_readTape := by decide +kernel
set_option maxHeartbeats 4000000 in
set_option maxRecDepth 100000 in
theorem cg_X6_readTape_205 (l : Launch) (D : va_G) (F : Nat → Prop) (a0 : Nat) (x0 : Int32) (a1 : Nat) (a2 : Nat) (a3 : Nat) (a4 : Nat) (x1 : Int32) (x2 : Int32) (x3 : Int32) (x4 : Int32) (x5 : Int32) (a5 : Nat) (x6 : Int32) (k0 : ClassId) (f0 : Nat → Int32) (a6 : Nat) (x7 : Int32) (x8 : Int32) (x9 : Int32) (x10 : Int32) (x11 : Int32) (x12 : Int32) (k1 : ClassId) (f1 : Nat → Int32) (hx1 : -1 ≤ x1.toInt ∧ x1.toInt ≤ 5) (hx6 : 0 ≤ x6.toInt ∧ x6.toInt ≤ 80) (hf0 : sb_Fit f0) (hx7 : 0 ≤ x7.toInt ∧ x7.toInt ≤ 120) (hf1 : sb_Fit f1) : ka_E l D F yX6_readTape wsX6_readTape 83 2002 0 0 [.ref a0, .int x0] [(a0, .inr (6, [.ref a1, .ref a2, .ref a3, .ref a4, .int x1, .int x2, .int x3, .int x4, .int x5])), (a1, .inr (5, [.ref a5, .int x6])), (a5, .inl (k0, 80, .inl f0)), (a2, .inr (3, [.ref a1, .ref a6, .int x7, .int x8, .int x9, .int x10, .int x11, .int x12])), (a6, .inl (k1, 120, .inl f1))] [(k0, .byte), (k1, .byte)] (fun (u : (Int32) × (Int32) × (Int32) × (Int32) × (Int32) × (Int32) × (Nat → Int32) × (Int32)) => some (.int (u.2.2.2.2.2.2.2))) (fun (u : (Int32) × (Int32) × (Int32) × (Int32) × (Int32) × (Int32) × (Nat → Int32) × (Int32)) => (0 ≤ (u.2.1).toInt ∧ (u.2.1).toInt ≤ 120) ∧ (sb_Fit (u.2.2.2.2.2.2.1)) ∧ (0 ≤ (u.2.2.2.2.2.2.2).toInt ∧ (u.2.2.2.2.2.2.2).toInt ≤ 1)) (fun (u : (Int32) × (Int32) × (Int32) × (Int32) × (Int32) × (Int32) × (Nat → Int32) × (Int32)) => [(a0, .inr (6, [.ref a1, .ref a2, .ref a3, .ref a4, .int x1, .int (u.1), .int x3, .int x4, .int x5])), (a1, .inr (5, [.ref a5, .int 0])), (a5, .inl (k0, 80, .inl f0)), (a2, .inr (3, [.ref a1, .ref a6, .int (u.2.1), .int x0, .int (u.2.2.1), .int (u.2.2.2.1), .int (u.2.2.2.2.1), .int (u.2.2.2.2.2.1)])), (a6, .inl (k1, 120, .inl (u.2.2.2.2.2.2.1)))]) (fun (u : (Int32) × (Int32) × (Int32) × (Int32) × (Int32) × (Int32) × (Nat → Int32) × (Int32)) => []) := by
  refine ka_E_of (cc := cX6_readTape) (maxL := 2) (ret := (some .boolean)) (by decide) rfl (Nat.le_of_ble_eq_true rfl) ?_
  intro p e s m below meth c ls A C hr hlk hin hP hK hD hS hA hE hN hl
  have C : CallFix p m c cX6_readTape 2 s [.ref a0, .int x0].toArray wsX6_readTape RX6 := C
  obtain ⟨hx, hb, hml, hown, hts⟩ := id C
  have hl : lv_has ls 2 [(0, .ref a0), (1, .int x0)] := hl
  have rx0 := ka_rng x0
  have rx1 := ka_rng x1
  have rx2 := ka_rng x2
  have rx3 := ka_rng x3
  have rx4 := ka_rng x4
  have rx5 := ka_rng x5
  have rx6 := ka_rng x6
  have rx7 := ka_rng x7
  have rx8 := ka_rng x8
  have rx9 := ka_rng x9
  have rx10 := ka_rng x10
  have rx11 := ka_rng x11
  have rx12 := ka_rng x12
  refine lv_aload_n hx hb dX6_readTape_0 rfl (lv_at hl 0 rfl) ?_
  refine lv_aload_n hx hb dX6_readTape_1 rfl (lv_at hl 0 rfl) ?_
  refine ka_get C lq_250 rfl hK hP 0 rfl 1 (by decide) lq_251 rfl dX6_readTape_2 ?_
  refine lv_iload_n hx hb dX6_readTape_5 rfl (lv_at hl 1 rfl) ?_
  refine ka_EV (n := 1) (wr := [(a0, .inr (6, [.ref a1, .ref a2, .ref a3, .ref a4, .int x1, .int x2, .int x3, .int x4, .int x5]))]) C (cg_X3_readText_139 l D F a2 x0 a1 a5 x6 k0 f0 a6 x7 x8 x9 x10 x11 x12 k1 f1 ⟨by omega, by omega⟩ hf0 ⟨by omega, by omega⟩ hf1) gX6_readTape_X3_readText rfl (by decide +kernel) ⟨Nat.le_of_ble_eq_true rfl, Nat.le_of_ble_eq_true rfl⟩ hK hP hD hS hA hE hN [1, 2, 3, 4] rfl (by decide) [0] rfl (by decide) (by decide) [0, 1] rfl (ci := 3) rfl rfl 3 rfl rfl hl.1 (rest := [.ref a0]) rfl (Nat.le_of_ble_eq_true rfl) dX6_readTape_6 ⟨Nat.le_of_ble_eq_true rfl, Nat.le_of_ble_eq_true rfl⟩ (fun u H locs hq hP hD hK hS => ?_)
  obtain ⟨v_22109, v_22110, v_22111, v_22112, v_22113, g_22114, v_22115⟩ := u
  have hq : (0 ≤ v_22109.toInt ∧ v_22109.toInt ≤ 120) ∧ (sb_Fit g_22114) := hq
  obtain ⟨hv_22109, hg_22114⟩ := hq
  have rv_22109 := ka_rng v_22109
  have rv_22110 := ka_rng v_22110
  have rv_22111 := ka_rng v_22111
  have rv_22112 := ka_rng v_22112
  have rv_22113 := ka_rng v_22113
  have rv_22115 := ka_rng v_22115
  have hP : va_P D vwCl [(a0, .inr (6, [.ref a1, .ref a2, .ref a3, .ref a4, .int x1, .int x2, .int x3, .int x4, .int x5])), (a1, .inr (5, [.ref a5, .int x6])), (a5, .inl (k0, 80, .inl f0)), (a2, .inr (3, [.ref a1, .ref a6, .int v_22109, .int x0, .int v_22110, .int v_22111, .int v_22112, .int v_22113])), (a6, .inl (k1, 120, .inl g_22114))] H := hP
  have hD : va_D A [(a0, .inr (6, [.ref a1, .ref a2, .ref a3, .ref a4, .int x1, .int x2, .int x3, .int x4, .int x5])), (a1, .inr (5, [.ref a5, .int x6])), (a5, .inl (k0, 80, .inl f0)), (a2, .inr (3, [.ref a1, .ref a6, .int v_22109, .int x0, .int v_22110, .int v_22111, .int v_22112, .int v_22113])), (a6, .inl (k1, 120, .inl g_22114))] := hD
  have hK : va_K D vwCl [(k0, .byte), (k1, .byte)] s := by simpa using hK
  refine ka_stk (w := [.int v_22115, .ref a0]) rfl ?_
  refine ka_put C lq_250 tyX6 tyX6_ok nmX6 rfl hK hP hD hS 0 rfl 5 (by decide) lq_252 rfl rfl rfl (Nat.le_of_ble_eq_true rfl) dX6_readTape_9 (fun H locs hP hD hS => ?_)
  have hP : va_P D vwCl [(a0, .inr (6, [.ref a1, .ref a2, .ref a3, .ref a4, .int x1, .int v_22115, .int x3, .int x4, .int x5])), (a1, .inr (5, [.ref a5, .int x6])), (a5, .inl (k0, 80, .inl f0)), (a2, .inr (3, [.ref a1, .ref a6, .int v_22109, .int x0, .int v_22110, .int v_22111, .int v_22112, .int v_22113])), (a6, .inl (k1, 120, .inl g_22114))] H := hP
  have hD : va_D A [(a0, .inr (6, [.ref a1, .ref a2, .ref a3, .ref a4, .int x1, .int v_22115, .int x3, .int x4, .int x5])), (a1, .inr (5, [.ref a5, .int x6])), (a5, .inl (k0, 80, .inl f0)), (a2, .inr (3, [.ref a1, .ref a6, .int v_22109, .int x0, .int v_22110, .int v_22111, .int v_22112, .int v_22113])), (a6, .inl (k1, 120, .inl g_22114))] := hD
  refine lv_aload_n hx hb dX6_readTape_12 rfl (lv_at hl 0 rfl) ?_
  refine ka_get C lq_250 rfl hK hP 0 rfl 0 (by decide) lq_253 rfl dX6_readTape_13 ?_
  refine ka_EV (n := 0) (wr := [(a0, .inr (6, [.ref a1, .ref a2, .ref a3, .ref a4, .int x1, .int v_22115, .int x3, .int x4, .int x5])), (a5, .inl (k0, 80, .inl f0)), (a2, .inr (3, [.ref a1, .ref a6, .int v_22109, .int x0, .int v_22110, .int v_22111, .int v_22112, .int v_22113])), (a6, .inl (k1, 120, .inl g_22114))]) C (cg_X5_clear_4 l D F a1 a5 x6 ⟨by omega, by omega⟩) gX6_readTape_X5_clear rfl (by decide +kernel) ⟨Nat.le_of_ble_eq_true rfl, Nat.le_of_ble_eq_true rfl⟩ hK hP hD hS hA hE hN [1] rfl (by decide) [0, 2, 3, 4] rfl (by decide) (by decide) [] rfl (ci := 5) rfl rfl 1 rfl rfl hl.1 (rest := []) rfl (Nat.le_of_ble_eq_true rfl) dX6_readTape_16 ⟨Nat.le_of_ble_eq_true rfl, Nat.le_of_ble_eq_true rfl⟩ (fun u H locs hq hP hD hK hS => ?_)
  have hP : va_P D vwCl [(a0, .inr (6, [.ref a1, .ref a2, .ref a3, .ref a4, .int x1, .int v_22115, .int x3, .int x4, .int x5])), (a5, .inl (k0, 80, .inl f0)), (a2, .inr (3, [.ref a1, .ref a6, .int v_22109, .int x0, .int v_22110, .int v_22111, .int v_22112, .int v_22113])), (a6, .inl (k1, 120, .inl g_22114)), (a1, .inr (5, [.ref a5, .int 0]))] H := hP
  have hD : va_D A [(a0, .inr (6, [.ref a1, .ref a2, .ref a3, .ref a4, .int x1, .int v_22115, .int x3, .int x4, .int x5])), (a5, .inl (k0, 80, .inl f0)), (a2, .inr (3, [.ref a1, .ref a6, .int v_22109, .int x0, .int v_22110, .int v_22111, .int v_22112, .int v_22113])), (a6, .inl (k1, 120, .inl g_22114)), (a1, .inr (5, [.ref a5, .int 0]))] := hD
  have hK : va_K D vwCl [(k0, .byte), (k1, .byte)] s := by simpa using hK
  refine ka_stk (w := []) rfl ?_
  refine lv_aload_n hx hb dX6_readTape_19 rfl (lv_at hl 0 rfl) ?_
  refine ka_get C lq_250 rfl hK hP 0 rfl 5 (by decide) lq_252 rfl dX6_readTape_20 ?_
  refine lv_iconst (v := (-1)) hx hb dX6_readTape_23 (by decide) ?_
  refine lv_icmp_ne (tgt := 31) hx hb dX6_readTape_24 (by decide) (fun c_22116 => ?_) (fun c_22116 => ?_)
  · have c_22116 : ¬ v_22115.toInt = -1 := by rw [ka_eq', show ((-1 : Int32)).toInt = -1 from by decide] at c_22116; exact c_22116
    refine lv_iconst (v := 0) hx hb dX6_readTape_31 (by decide) ?_
    exact ka_rEz C hr hlk rfl (Nat.le_of_ble_eq_true rfl) (Nat.le_of_ble_eq_true rfl) hS (ka_qE (v_22115, v_22109, v_22110, v_22111, v_22112, v_22113, g_22114, 0) rfl ⟨(show 0 ≤ v_22109.toInt ∧ v_22109.toInt ≤ 120 from ⟨by omega, by omega⟩), hg_22114, (show 0 ≤ ((0 : Int32)).toInt ∧ ((0 : Int32)).toInt ≤ 1 from ⟨by decide, by decide⟩)⟩ hK hP hD hS [0, 4, 1, 2, 3] (by decide) rfl [] rfl) dX6_readTape_32
  · have c_22116 : v_22115.toInt = -1 := by rw [ka_eq', show ((-1 : Int32)).toInt = -1 from by decide] at c_22116; exact c_22116
    refine lv_iconst (v := 1) hx hb dX6_readTape_27 (by decide) ?_
    refine lv_goto (tgt := 32) hx hb dX6_readTape_28 (by decide) ?_
    exact ka_rEz C hr hlk rfl (Nat.le_of_ble_eq_true rfl) (Nat.le_of_ble_eq_true rfl) hS (ka_qE (v_22115, v_22109, v_22110, v_22111, v_22112, v_22113, g_22114, 1) rfl ⟨(show 0 ≤ v_22109.toInt ∧ v_22109.toInt ≤ 120 from ⟨by omega, by omega⟩), hg_22114, (show 0 ≤ ((1 : Int32)).toInt ∧ ((1 : Int32)).toInt ≤ 1 from ⟨by decide, by decide⟩)⟩ hK hP hD hS [0, 4, 1, 2, 3] (by decide) rfl [] rfl) dX6_readTape_32
theorem lq_254 : ∀ w ∈ wsX60, w ∈ wsX6_say := by decide +kernel
theorem lq_255 : Cond.fieldLink RX6 35 "AskedBack" "talk" "LAskedBack$Talk;" ∈ wsX6_say := by decide +kernel
theorem lq_256 : ∀ w ∈ wsX40, w ∈ wsX6_say := by decide +kernel
theorem lq_257 : Cond.fieldLink RX6 167 "AskedBack$Talk" "saidCount" "I" ∈ wsX6_say := by decide +kernel
theorem lq_258 : Cond.fieldLink RX6 10 "AskedBack" "tape" "LAskedBack$Tape;" ∈ wsX6_say := by decide +kernel
theorem lq_259 : Cond.fieldLink RX6 21 "AskedBack" "reader" "LAskedBack$Reader;" ∈ wsX6_say := by decide +kernel
theorem lq_260 : ∀ w ∈ wsX30, w ∈ wsX6_say := by decide +kernel
theorem lq_261 : Cond.fieldLink RX6 170 "AskedBack$Reader" "truth" "I" ∈ wsX6_say := by decide +kernel
set_option maxHeartbeats 4000000 in
set_option maxRecDepth 100000 in
theorem cg_X6_say_206 (l : Launch) (D : va_G) (F : Nat → Prop) (a0 : Nat) (x0 : Int32) (a1 : Nat) (a2 : Nat) (a3 : Nat) (a4 : Nat) (x1 : Int32) (x2 : Int32) (x3 : Int32) (x4 : Int32) (x5 : Int32) (a5 : Nat) (x6 : Int32) (k0 : ClassId) (f0 : Nat → Int32) (a6 : Nat) (x7 : Int32) (x8 : Int32) (x9 : Int32) (x10 : Int32) (x11 : Int32) (x12 : Int32) (k1 : ClassId) (f1 : Nat → Int32) (a7 : Nat) (a8 : Nat) (x13 : Int32) (k2 : ClassId) (a9 : Nat) (a10 : Nat) (a11 : Nat) (a12 : Nat) (a13 : Nat) (a14 : Nat) (a15 : Nat) (a16 : Nat) (x14 : Int32) (o0 : Option Nat) (a17 : Nat) (a18 : Nat) (x15 : Int32) (o1 : Option Nat) (a19 : Nat) (a20 : Nat) (x16 : Int32) (o2 : Option Nat) (a21 : Nat) (a22 : Nat) (x17 : Int32) (o3 : Option Nat) (a23 : Nat) (a24 : Nat) (x18 : Int32) (o4 : Option Nat) (a25 : Nat) (a26 : Nat) (x19 : Int32) (o5 : Option Nat) (a27 : Nat) (a28 : Nat) (a29 : Nat) (x20 : Int32) (x21 : Int32) (x22 : Int32) (x23 : Int32) (x24 : Int32) (x25 : Int32) (k3 : ClassId) (f2 : Nat → Int32) (hx1 : -1 ≤ x1.toInt ∧ x1.toInt ≤ 5) (hx6 : 0 ≤ x6.toInt ∧ x6.toInt ≤ 80) (hf0 : sb_Fit f0) (hx7 : 0 ≤ x7.toInt ∧ x7.toInt ≤ 120) (hf1 : sb_Fit f1) (hx14 : 0 ≤ x14.toInt ∧ x14.toInt ≤ 12) (ho0 : ∀ a : Nat, o0 = some a → F a) (hx15 : 0 ≤ x15.toInt ∧ x15.toInt ≤ 12) (ho1 : ∀ a : Nat, o1 = some a → F a) (hx16 : 0 ≤ x16.toInt ∧ x16.toInt ≤ 12) (ho2 : ∀ a : Nat, o2 = some a → F a) (hx17 : 0 ≤ x17.toInt ∧ x17.toInt ≤ 12) (ho3 : ∀ a : Nat, o3 = some a → F a) (hx18 : 0 ≤ x18.toInt ∧ x18.toInt ≤ 12) (ho4 : ∀ a : Nat, o4 = some a → F a) (hx19 : 0 ≤ x19.toInt ∧ x19.toInt ≤ 12) (ho5 : ∀ a : Nat, o5 = some a → F a) (hx20 : 0 ≤ x20.toInt ∧ x20.toInt ≤ 10) : ka_E l D F yX6_say wsX6_say 84 2023 0 0 [.ref a0, .int x0] [(a0, .inr (6, [.ref a1, .ref a2, .ref a3, .ref a4, .int x1, .int x2, .int x3, .int x4, .int x5])), (a1, .inr (5, [.ref a5, .int x6])), (a5, .inl (k0, 80, .inl f0)), (a2, .inr (3, [.ref a1, .ref a6, .int x7, .int x8, .int x9, .int x10, .int x11, .int x12])), (a6, .inl (k1, 120, .inl f1)), (a3, .inr (0, [.ref a7, .ref a8, .int x13])), (a7, .inl (k2, 6, .inr (.inr (.inr (.inr (va_up (va_up (va_up (va_up (va_up (va_up (fun _ => none) 0 (some a9)) 1 (some a10)) 2 (some a11)) 3 (some a12)) 4 (some a13)) 5 (some a14))))))), (a9, .inr (2, [.ref a15, .ref a16, .int x14, va_rf o0])), (a10, .inr (2, [.ref a17, .ref a18, .int x15, va_rf o1])), (a11, .inr (2, [.ref a19, .ref a20, .int x16, va_rf o2])), (a12, .inr (2, [.ref a21, .ref a22, .int x17, va_rf o3])), (a13, .inr (2, [.ref a23, .ref a24, .int x18, va_rf o4])), (a14, .inr (2, [.ref a25, .ref a26, .int x19, va_rf o5])), (a4, .inr (4, [.ref a27, .ref a28, .ref a29, .int x20, .int x21, .int x22, .int x23, .int x24, .int x25])), (a29, .inl (k3, 10, .inl f2))] [(k0, .byte), (k1, .byte), (k2, .object RX2), (k3, .int)] (fun (u : (Int32) × (Int32) × (Int32) × (Int32) × (Int32) × (Int32) × (Int32) × (Int32) × (Nat → Int32) × (Int32) × (Nat → Int32) × (Int32)) => some (.int (u.2.2.2.2.2.2.2.2.2.2.2))) (fun (u : (Int32) × (Int32) × (Int32) × (Int32) × (Int32) × (Int32) × (Int32) × (Int32) × (Nat → Int32) × (Int32) × (Nat → Int32) × (Int32)) => (0 ≤ (u.2.1).toInt ∧ (u.2.1).toInt ≤ 80) ∧ (0 ≤ (u.2.2.1).toInt ∧ (u.2.2.1).toInt ≤ 120) ∧ (sb_Fit (u.2.2.2.2.2.2.2.2.1)) ∧ (0 ≤ (u.2.2.2.2.2.2.2.2.2.1).toInt ∧ (u.2.2.2.2.2.2.2.2.2.1).toInt ≤ 10) ∧ (-2 ≤ (u.2.2.2.2.2.2.2.2.2.2.2).toInt ∧ (u.2.2.2.2.2.2.2.2.2.2.2).toInt ≤ 9)) (fun (u : (Int32) × (Int32) × (Int32) × (Int32) × (Int32) × (Int32) × (Int32) × (Int32) × (Nat → Int32) × (Int32) × (Nat → Int32) × (Int32)) => [(a0, .inr (6, [.ref a1, .ref a2, .ref a3, .ref a4, .int x1, .int (u.1), .int x3, .int x4, .int x5])), (a1, .inr (5, [.ref a5, .int (u.2.1)])), (a5, .inl (k0, 80, .inl f0)), (a2, .inr (3, [.ref a1, .ref a6, .int (u.2.2.1), .int (u.2.2.2.1), .int (u.2.2.2.2.1), .int (u.2.2.2.2.2.1), .int (u.2.2.2.2.2.2.1), .int (u.2.2.2.2.2.2.2.1)])), (a6, .inl (k1, 120, .inl (u.2.2.2.2.2.2.2.2.1))), (a3, .inr (0, [.ref a7, .ref a8, .int x13])), (a7, .inl (k2, 6, .inr (.inr (.inr (.inr (va_up (va_up (va_up (va_up (va_up (va_up (fun _ => none) 0 (some a9)) 1 (some a10)) 2 (some a11)) 3 (some a12)) 4 (some a13)) 5 (some a14))))))), (a9, .inr (2, [.ref a15, .ref a16, .int x14, va_rf o0])), (a10, .inr (2, [.ref a17, .ref a18, .int x15, va_rf o1])), (a11, .inr (2, [.ref a19, .ref a20, .int x16, va_rf o2])), (a12, .inr (2, [.ref a21, .ref a22, .int x17, va_rf o3])), (a13, .inr (2, [.ref a23, .ref a24, .int x18, va_rf o4])), (a14, .inr (2, [.ref a25, .ref a26, .int x19, va_rf o5])), (a4, .inr (4, [.ref a27, .ref a28, .ref a29, .int (u.2.2.2.2.2.2.2.2.2.1), .int x21, .int x22, .int x23, .int x24, .int x25])), (a29, .inl (k3, 10, .inl (u.2.2.2.2.2.2.2.2.2.2.1)))]) (fun (u : (Int32) × (Int32) × (Int32) × (Int32) × (Int32) × (Int32) × (Int32) × (Int32) × (Nat → Int32) × (Int32) × (Nat → Int32) × (Int32)) => []) := by
  refine ka_E_of (cc := cX6_say) (maxL := 2) (ret := (some .int)) (by decide) rfl (Nat.le_of_ble_eq_true rfl) ?_
  intro p e s m below meth c ls A C hr hlk hin hP hK hD hS hA hE hN hl
  have C : CallFix p m c cX6_say 2 s [.ref a0, .int x0].toArray wsX6_say RX6 := C
  obtain ⟨hx, hb, hml, hown, hts⟩ := id C
  have hl : lv_has ls 2 [(0, .ref a0), (1, .int x0)] := hl
  have rx0 := ka_rng x0
  have rx1 := ka_rng x1
  have rx2 := ka_rng x2
  have rx3 := ka_rng x3
  have rx4 := ka_rng x4
  have rx5 := ka_rng x5
  have rx6 := ka_rng x6
  have rx7 := ka_rng x7
  have rx8 := ka_rng x8
  have rx9 := ka_rng x9
  have rx10 := ka_rng x10
  have rx11 := ka_rng x11
  have rx12 := ka_rng x12
  have rx13 := ka_rng x13
  have rx14 := ka_rng x14
  have rx15 := ka_rng x15
  have rx16 := ka_rng x16
  have rx17 := ka_rng x17
  have rx18 := ka_rng x18
  have rx19 := ka_rng x19
  have rx20 := ka_rng x20
  have rx21 := ka_rng x21
  have rx22 := ka_rng x22
  have rx23 := ka_rng x23
  have rx24 := ka_rng x24
  have rx25 := ka_rng x25
  refine lv_aload_n hx hb dX6_say_0 rfl (lv_at hl 0 rfl) ?_
  refine ka_RV (n := 0) C (cg_X6_begunLaw_169 l D F a0 a1 a2 a3 a4 x1 x2 x3 x4 x5 a7 a8 x13 k2 a9 a10 a11 a12 a13 a14 a15 a16 x14 o0 a17 a18 x15 o1 a19 a20 x16 o2 a21 a22 x17 o3 a23 a24 x18 o4 a25 a26 x19 o5 ⟨by omega, by omega⟩ ⟨by omega, by omega⟩ ho0 ⟨by omega, by omega⟩ ho1 ⟨by omega, by omega⟩ ho2 ⟨by omega, by omega⟩ ho3 ⟨by omega, by omega⟩ ho4 ⟨by omega, by omega⟩ ho5) gX6_say_X6_begunLaw rfl (by decide +kernel) ⟨Nat.le_of_ble_eq_true rfl, Nat.le_of_ble_eq_true rfl⟩ hK hP hS hE hN [0, 5, 6, 7, 8, 9, 10, 11, 12] rfl [2] rfl (ci := 6) rfl rfl 0 rfl rfl hl.1 (rest := []) rfl (Nat.le_of_ble_eq_true rfl) dX6_say_1 ⟨Nat.le_of_ble_eq_true rfl, Nat.le_of_ble_eq_true rfl⟩ (fun v hv => ?_)
  obtain ⟨o_22188, rfl, ho_22188⟩ := hv
  refine ka_stk (w := [va_rf o_22188]) rfl ?_
  refine kb_ifnull (tgt := 30) hx hb dX6_say_4 (by decide) (fun hfa_22189 => ?_) (fun fa_22189 hfa_22189 => ?_)
  · skip
    refine lv_bipush (v := (-2)) hx hb dX6_say_30 (by decide) ?_
    exact ka_rEi C hr hlk (Nat.le_of_ble_eq_true rfl) (Nat.le_of_ble_eq_true rfl) hS (ka_qE (x2, x6, x7, x8, x9, x10, x11, x12, f1, x20, f2, (-2)) rfl ⟨(show 0 ≤ x6.toInt ∧ x6.toInt ≤ 80 from ⟨by omega, by omega⟩), (show 0 ≤ x7.toInt ∧ x7.toInt ≤ 120 from ⟨by omega, by omega⟩), hf1, (show 0 ≤ x20.toInt ∧ x20.toInt ≤ 10 from ⟨by omega, by omega⟩), (show -2 ≤ ((-2 : Int32)).toInt ∧ ((-2 : Int32)).toInt ≤ 9 from ⟨by decide, by decide⟩)⟩ hK hP hD hS [0, 1, 2, 3, 4, 5, 6, 7, 8, 9, 10, 11, 12, 13, 14] (by decide) rfl [] rfl) dX6_say_32
  · have Ffa_22189 : F fa_22189 := ho_22188 fa_22189 hfa_22189
    refine lv_aload_n hx hb dX6_say_7 rfl (lv_at hl 0 rfl) ?_
    refine ka_get C lq_254 rfl hK hP 0 rfl 3 (by decide) lq_255 rfl dX6_say_8 ?_
    refine ka_get C lq_256 rfl hK hP 13 rfl 3 (by decide) lq_257 rfl dX6_say_11 ?_
    refine lv_bipush (v := 10) hx hb dX6_say_14 (by decide) ?_
    refine lv_icmp_ge (tgt := 30) hx hb dX6_say_16 (by decide) (fun c_22190 => ?_) (fun c_22190 => ?_)
    · have c_22190 : 10 ≤ x20.toInt := by rw [ka_le', show ((10 : Int32)).toInt = 10 from by decide] at c_22190; exact c_22190
      refine lv_bipush (v := (-2)) hx hb dX6_say_30 (by decide) ?_
      exact ka_rEi C hr hlk (Nat.le_of_ble_eq_true rfl) (Nat.le_of_ble_eq_true rfl) hS (ka_qE (x2, x6, x7, x8, x9, x10, x11, x12, f1, x20, f2, (-2)) rfl ⟨(show 0 ≤ x6.toInt ∧ x6.toInt ≤ 80 from ⟨by omega, by omega⟩), (show 0 ≤ x7.toInt ∧ x7.toInt ≤ 120 from ⟨by omega, by omega⟩), hf1, (show 0 ≤ x20.toInt ∧ x20.toInt ≤ 10 from ⟨by omega, by omega⟩), (show -2 ≤ ((-2 : Int32)).toInt ∧ ((-2 : Int32)).toInt ≤ 9 from ⟨by decide, by decide⟩)⟩ hK hP hD hS [0, 1, 2, 3, 4, 5, 6, 7, 8, 9, 10, 11, 12, 13, 14] (by decide) rfl [] rfl) dX6_say_32
    · have c_22190 : ¬ 10 ≤ x20.toInt := by rw [ka_le', show ((10 : Int32)).toInt = 10 from by decide] at c_22190; exact c_22190
      refine lv_aload_n hx hb dX6_say_19 rfl (lv_at hl 0 rfl) ?_
      refine ka_get C lq_254 rfl hK hP 0 rfl 0 (by decide) lq_258 rfl dX6_say_20 ?_
      refine lv_iload_n hx hb dX6_say_23 rfl (lv_at hl 1 rfl) ?_
      refine ka_RV (n := 1) C (cg_X5_offers_2 l D F a1 x0 a5 x6 ⟨by omega, by omega⟩) gX6_say_X5_offers rfl (by decide +kernel) ⟨Nat.le_of_ble_eq_true rfl, Nat.le_of_ble_eq_true rfl⟩ hK hP hS hE hN [1] rfl [] rfl (ci := 5) rfl rfl 1 rfl rfl hl.1 (rest := []) rfl (Nat.le_of_ble_eq_true rfl) dX6_say_24 ⟨Nat.le_of_ble_eq_true rfl, Nat.le_of_ble_eq_true rfl⟩ (fun v hv => ?_)
      obtain ⟨v_22191, rfl, hv_22191⟩ := hv
      have rv_22191 := ka_rng v_22191
      refine ka_stk (w := [.int v_22191]) rfl ?_
      refine lv_if_ne (tgt := 33) hx hb dX6_say_27 (by decide) (fun c_22192 => ?_) (fun c_22192 => ?_)
      · have c_22192 : ¬ v_22191.toInt = 0 := by rw [ka_eq', show ((0 : Int32)).toInt = 0 from by decide] at c_22192; exact c_22192
        refine lv_aload_n hx hb dX6_say_33 rfl (lv_at hl 0 rfl) ?_
        refine lv_iload_n hx hb dX6_say_34 rfl (lv_at hl 1 rfl) ?_
        refine ka_EV (n := 1) (wr := [(a3, .inr (0, [.ref a7, .ref a8, .int x13])), (a7, .inl (k2, 6, .inr (.inr (.inr (.inr (va_up (va_up (va_up (va_up (va_up (va_up (fun _ => none) 0 (some a9)) 1 (some a10)) 2 (some a11)) 3 (some a12)) 4 (some a13)) 5 (some a14))))))), (a9, .inr (2, [.ref a15, .ref a16, .int x14, va_rf o0])), (a10, .inr (2, [.ref a17, .ref a18, .int x15, va_rf o1])), (a11, .inr (2, [.ref a19, .ref a20, .int x16, va_rf o2])), (a12, .inr (2, [.ref a21, .ref a22, .int x17, va_rf o3])), (a13, .inr (2, [.ref a23, .ref a24, .int x18, va_rf o4])), (a14, .inr (2, [.ref a25, .ref a26, .int x19, va_rf o5])), (a4, .inr (4, [.ref a27, .ref a28, .ref a29, .int x20, .int x21, .int x22, .int x23, .int x24, .int x25])), (a29, .inl (k3, 10, .inl f2))]) C (cg_X6_readTape_205 l D F a0 x0 a1 a2 a3 a4 x1 x2 x3 x4 x5 a5 x6 k0 f0 a6 x7 x8 x9 x10 x11 x12 k1 f1 ⟨by omega, by omega⟩ ⟨by omega, by omega⟩ hf0 ⟨by omega, by omega⟩ hf1) gX6_say_X6_readTape rfl (by decide +kernel) ⟨Nat.le_of_ble_eq_true rfl, Nat.le_of_ble_eq_true rfl⟩ hK hP hD hS hA hE hN [0, 1, 2, 3, 4] rfl (by decide) [5, 6, 7, 8, 9, 10, 11, 12, 13, 14] rfl (by decide) (by decide) [0, 1] rfl (ci := 6) rfl rfl 0 rfl rfl hl.1 (rest := []) rfl (Nat.le_of_ble_eq_true rfl) dX6_say_35 ⟨Nat.le_of_ble_eq_true rfl, Nat.le_of_ble_eq_true rfl⟩ (fun u H locs hq hP hD hK hS => ?_)
        obtain ⟨v_22193, v_22194, v_22195, v_22196, v_22197, v_22198, g_22199, v_22200⟩ := u
        have hq : (0 ≤ v_22194.toInt ∧ v_22194.toInt ≤ 120) ∧ (sb_Fit g_22199) ∧ (0 ≤ v_22200.toInt ∧ v_22200.toInt ≤ 1) := hq
        obtain ⟨hv_22194, hg_22199, hv_22200⟩ := hq
        have rv_22193 := ka_rng v_22193
        have rv_22194 := ka_rng v_22194
        have rv_22195 := ka_rng v_22195
        have rv_22196 := ka_rng v_22196
        have rv_22197 := ka_rng v_22197
        have rv_22198 := ka_rng v_22198
        have rv_22200 := ka_rng v_22200
        have hP : va_P D vwCl [(a3, .inr (0, [.ref a7, .ref a8, .int x13])), (a7, .inl (k2, 6, .inr (.inr (.inr (.inr (va_up (va_up (va_up (va_up (va_up (va_up (fun _ => none) 0 (some a9)) 1 (some a10)) 2 (some a11)) 3 (some a12)) 4 (some a13)) 5 (some a14))))))), (a9, .inr (2, [.ref a15, .ref a16, .int x14, va_rf o0])), (a10, .inr (2, [.ref a17, .ref a18, .int x15, va_rf o1])), (a11, .inr (2, [.ref a19, .ref a20, .int x16, va_rf o2])), (a12, .inr (2, [.ref a21, .ref a22, .int x17, va_rf o3])), (a13, .inr (2, [.ref a23, .ref a24, .int x18, va_rf o4])), (a14, .inr (2, [.ref a25, .ref a26, .int x19, va_rf o5])), (a4, .inr (4, [.ref a27, .ref a28, .ref a29, .int x20, .int x21, .int x22, .int x23, .int x24, .int x25])), (a29, .inl (k3, 10, .inl f2)), (a0, .inr (6, [.ref a1, .ref a2, .ref a3, .ref a4, .int x1, .int v_22193, .int x3, .int x4, .int x5])), (a1, .inr (5, [.ref a5, .int 0])), (a5, .inl (k0, 80, .inl f0)), (a2, .inr (3, [.ref a1, .ref a6, .int v_22194, .int x0, .int v_22195, .int v_22196, .int v_22197, .int v_22198])), (a6, .inl (k1, 120, .inl g_22199))] H := hP
        have hD : va_D A [(a3, .inr (0, [.ref a7, .ref a8, .int x13])), (a7, .inl (k2, 6, .inr (.inr (.inr (.inr (va_up (va_up (va_up (va_up (va_up (va_up (fun _ => none) 0 (some a9)) 1 (some a10)) 2 (some a11)) 3 (some a12)) 4 (some a13)) 5 (some a14))))))), (a9, .inr (2, [.ref a15, .ref a16, .int x14, va_rf o0])), (a10, .inr (2, [.ref a17, .ref a18, .int x15, va_rf o1])), (a11, .inr (2, [.ref a19, .ref a20, .int x16, va_rf o2])), (a12, .inr (2, [.ref a21, .ref a22, .int x17, va_rf o3])), (a13, .inr (2, [.ref a23, .ref a24, .int x18, va_rf o4])), (a14, .inr (2, [.ref a25, .ref a26, .int x19, va_rf o5])), (a4, .inr (4, [.ref a27, .ref a28, .ref a29, .int x20, .int x21, .int x22, .int x23, .int x24, .int x25])), (a29, .inl (k3, 10, .inl f2)), (a0, .inr (6, [.ref a1, .ref a2, .ref a3, .ref a4, .int x1, .int v_22193, .int x3, .int x4, .int x5])), (a1, .inr (5, [.ref a5, .int 0])), (a5, .inl (k0, 80, .inl f0)), (a2, .inr (3, [.ref a1, .ref a6, .int v_22194, .int x0, .int v_22195, .int v_22196, .int v_22197, .int v_22198])), (a6, .inl (k1, 120, .inl g_22199))] := hD
        have hK : va_K D vwCl [(k0, .byte), (k1, .byte), (k2, .object RX2), (k3, .int)] s := by simpa using hK
        refine ka_stk (w := [.int v_22200]) rfl ?_
        refine lv_if_eq (tgt := 58) hx hb dX6_say_38 (by decide) (fun c_22201 => ?_) (fun c_22201 => ?_)
        · have c_22201 : v_22200.toInt = 0 := by rw [ka_eq', show ((0 : Int32)).toInt = 0 from by decide] at c_22201; exact c_22201
          refine lv_iconst (v := (-1)) hx hb dX6_say_58 (by decide) ?_
          exact ka_rEi C hr hlk (Nat.le_of_ble_eq_true rfl) (Nat.le_of_ble_eq_true rfl) hS (ka_qE (v_22193, 0, v_22194, x0, v_22195, v_22196, v_22197, v_22198, g_22199, x20, f2, (-1)) rfl ⟨(show 0 ≤ ((0 : Int32)).toInt ∧ ((0 : Int32)).toInt ≤ 80 from ⟨by decide, by decide⟩), (show 0 ≤ v_22194.toInt ∧ v_22194.toInt ≤ 120 from ⟨by omega, by omega⟩), hg_22199, (show 0 ≤ x20.toInt ∧ x20.toInt ≤ 10 from ⟨by omega, by omega⟩), (show -2 ≤ ((-1 : Int32)).toInt ∧ ((-1 : Int32)).toInt ≤ 9 from ⟨by decide, by decide⟩)⟩ hK hP hD hS [10, 11, 12, 13, 14, 0, 1, 2, 3, 4, 5, 6, 7, 8, 9] (by decide) rfl [] rfl) dX6_say_59
        · have c_22201 : ¬ v_22200.toInt = 0 := by rw [ka_eq', show ((0 : Int32)).toInt = 0 from by decide] at c_22201; exact c_22201
          refine lv_aload_n hx hb dX6_say_41 rfl (lv_at hl 0 rfl) ?_
          refine ka_get C lq_254 rfl hK hP 10 rfl 3 (by decide) lq_255 rfl dX6_say_42 ?_
          refine lv_aload_n hx hb dX6_say_45 rfl (lv_at hl 0 rfl) ?_
          refine ka_get C lq_254 rfl hK hP 10 rfl 1 (by decide) lq_259 rfl dX6_say_46 ?_
          refine ka_get C lq_260 rfl hK hP 13 rfl 7 (by decide) lq_261 rfl dX6_say_49 ?_
          refine ka_EV (n := 1) (wr := [(a3, .inr (0, [.ref a7, .ref a8, .int x13])), (a7, .inl (k2, 6, .inr (.inr (.inr (.inr (va_up (va_up (va_up (va_up (va_up (va_up (fun _ => none) 0 (some a9)) 1 (some a10)) 2 (some a11)) 3 (some a12)) 4 (some a13)) 5 (some a14))))))), (a9, .inr (2, [.ref a15, .ref a16, .int x14, va_rf o0])), (a10, .inr (2, [.ref a17, .ref a18, .int x15, va_rf o1])), (a11, .inr (2, [.ref a19, .ref a20, .int x16, va_rf o2])), (a12, .inr (2, [.ref a21, .ref a22, .int x17, va_rf o3])), (a13, .inr (2, [.ref a23, .ref a24, .int x18, va_rf o4])), (a14, .inr (2, [.ref a25, .ref a26, .int x19, va_rf o5])), (a0, .inr (6, [.ref a1, .ref a2, .ref a3, .ref a4, .int x1, .int v_22193, .int x3, .int x4, .int x5])), (a1, .inr (5, [.ref a5, .int 0])), (a5, .inl (k0, 80, .inl f0)), (a2, .inr (3, [.ref a1, .ref a6, .int v_22194, .int x0, .int v_22195, .int v_22196, .int v_22197, .int v_22198])), (a6, .inl (k1, 120, .inl g_22199))]) C (cg_X4_addSaid_16 l D F a4 v_22198 a27 a28 a29 x20 x21 x22 x23 x24 x25 k3 f2 ⟨by omega, by omega⟩) gX6_say_X4_addSaid rfl (by decide +kernel) ⟨Nat.le_of_ble_eq_true rfl, Nat.le_of_ble_eq_true rfl⟩ hK hP hD hS hA hE hN [8, 9] rfl (by decide) [0, 1, 2, 3, 4, 5, 6, 7, 10, 11, 12, 13, 14] rfl (by decide) (by decide) [3] rfl (ci := 4) rfl rfl 8 rfl rfl hl.1 (rest := []) rfl (Nat.le_of_ble_eq_true rfl) dX6_say_52 ⟨Nat.le_of_ble_eq_true rfl, Nat.le_of_ble_eq_true rfl⟩ (fun u H locs hq hP hD hK hS => ?_)
          obtain ⟨v_22202, g_22203, v_22204⟩ := u
          have hq : (0 ≤ v_22202.toInt ∧ v_22202.toInt ≤ 10) ∧ (-1 ≤ v_22204.toInt ∧ v_22204.toInt ≤ 9) := hq
          obtain ⟨hv_22202, hv_22204⟩ := hq
          have rv_22202 := ka_rng v_22202
          have rv_22204 := ka_rng v_22204
          have hP : va_P D vwCl [(a3, .inr (0, [.ref a7, .ref a8, .int x13])), (a7, .inl (k2, 6, .inr (.inr (.inr (.inr (va_up (va_up (va_up (va_up (va_up (va_up (fun _ => none) 0 (some a9)) 1 (some a10)) 2 (some a11)) 3 (some a12)) 4 (some a13)) 5 (some a14))))))), (a9, .inr (2, [.ref a15, .ref a16, .int x14, va_rf o0])), (a10, .inr (2, [.ref a17, .ref a18, .int x15, va_rf o1])), (a11, .inr (2, [.ref a19, .ref a20, .int x16, va_rf o2])), (a12, .inr (2, [.ref a21, .ref a22, .int x17, va_rf o3])), (a13, .inr (2, [.ref a23, .ref a24, .int x18, va_rf o4])), (a14, .inr (2, [.ref a25, .ref a26, .int x19, va_rf o5])), (a0, .inr (6, [.ref a1, .ref a2, .ref a3, .ref a4, .int x1, .int v_22193, .int x3, .int x4, .int x5])), (a1, .inr (5, [.ref a5, .int 0])), (a5, .inl (k0, 80, .inl f0)), (a2, .inr (3, [.ref a1, .ref a6, .int v_22194, .int x0, .int v_22195, .int v_22196, .int v_22197, .int v_22198])), (a6, .inl (k1, 120, .inl g_22199)), (a4, .inr (4, [.ref a27, .ref a28, .ref a29, .int v_22202, .int x21, .int x22, .int x23, .int x24, .int x25])), (a29, .inl (k3, 10, .inl g_22203))] H := hP
          have hD : va_D A [(a3, .inr (0, [.ref a7, .ref a8, .int x13])), (a7, .inl (k2, 6, .inr (.inr (.inr (.inr (va_up (va_up (va_up (va_up (va_up (va_up (fun _ => none) 0 (some a9)) 1 (some a10)) 2 (some a11)) 3 (some a12)) 4 (some a13)) 5 (some a14))))))), (a9, .inr (2, [.ref a15, .ref a16, .int x14, va_rf o0])), (a10, .inr (2, [.ref a17, .ref a18, .int x15, va_rf o1])), (a11, .inr (2, [.ref a19, .ref a20, .int x16, va_rf o2])), (a12, .inr (2, [.ref a21, .ref a22, .int x17, va_rf o3])), (a13, .inr (2, [.ref a23, .ref a24, .int x18, va_rf o4])), (a14, .inr (2, [.ref a25, .ref a26, .int x19, va_rf o5])), (a0, .inr (6, [.ref a1, .ref a2, .ref a3, .ref a4, .int x1, .int v_22193, .int x3, .int x4, .int x5])), (a1, .inr (5, [.ref a5, .int 0])), (a5, .inl (k0, 80, .inl f0)), (a2, .inr (3, [.ref a1, .ref a6, .int v_22194, .int x0, .int v_22195, .int v_22196, .int v_22197, .int v_22198])), (a6, .inl (k1, 120, .inl g_22199)), (a4, .inr (4, [.ref a27, .ref a28, .ref a29, .int v_22202, .int x21, .int x22, .int x23, .int x24, .int x25])), (a29, .inl (k3, 10, .inl g_22203))] := hD
          have hK : va_K D vwCl [(k0, .byte), (k1, .byte), (k2, .object RX2), (k3, .int)] s := by simpa using hK
          refine ka_stk (w := [.int v_22204]) rfl ?_
          refine lv_goto (tgt := 59) hx hb dX6_say_55 (by decide) ?_
          exact ka_rEi C hr hlk (Nat.le_of_ble_eq_true rfl) (Nat.le_of_ble_eq_true rfl) hS (ka_qE (v_22193, 0, v_22194, x0, v_22195, v_22196, v_22197, v_22198, g_22199, v_22202, g_22203, v_22204) rfl ⟨(show 0 ≤ ((0 : Int32)).toInt ∧ ((0 : Int32)).toInt ≤ 80 from ⟨by decide, by decide⟩), (show 0 ≤ v_22194.toInt ∧ v_22194.toInt ≤ 120 from ⟨by omega, by omega⟩), hg_22199, (show 0 ≤ v_22202.toInt ∧ v_22202.toInt ≤ 10 from ⟨by omega, by omega⟩), (show -2 ≤ v_22204.toInt ∧ v_22204.toInt ≤ 9 from ⟨by omega, by omega⟩)⟩ hK hP hD hS [8, 9, 10, 11, 12, 0, 1, 2, 3, 4, 5, 6, 7, 13, 14] (by decide) rfl [] rfl) dX6_say_59
      · have c_22192 : v_22191.toInt = 0 := by rw [ka_eq', show ((0 : Int32)).toInt = 0 from by decide] at c_22192; exact c_22192
        refine lv_bipush (v := (-2)) hx hb dX6_say_30 (by decide) ?_
        exact ka_rEi C hr hlk (Nat.le_of_ble_eq_true rfl) (Nat.le_of_ble_eq_true rfl) hS (ka_qE (x2, x6, x7, x8, x9, x10, x11, x12, f1, x20, f2, (-2)) rfl ⟨(show 0 ≤ x6.toInt ∧ x6.toInt ≤ 80 from ⟨by omega, by omega⟩), (show 0 ≤ x7.toInt ∧ x7.toInt ≤ 120 from ⟨by omega, by omega⟩), hf1, (show 0 ≤ x20.toInt ∧ x20.toInt ≤ 10 from ⟨by omega, by omega⟩), (show -2 ≤ ((-2 : Int32)).toInt ∧ ((-2 : Int32)).toInt ≤ 9 from ⟨by decide, by decide⟩)⟩ hK hP hD hS [0, 1, 2, 3, 4, 5, 6, 7, 8, 9, 10, 11, 12, 13, 14] (by decide) rfl [] rfl) dX6_say_32
theorem lq_262 : ∀ w ∈ wsX60, w ∈ wsX6_judge := by decide +kernel
theorem lq_263 : Cond.fieldLink RX6 10 "AskedBack" "tape" "LAskedBack$Tape;" ∈ wsX6_judge := by decide +kernel
theorem lq_264 : Cond.fieldLink RX6 21 "AskedBack" "reader" "LAskedBack$Reader;" ∈ wsX6_judge := by decide +kernel
theorem lq_265 : ∀ w ∈ wsX30, w ∈ wsX6_judge := by decide +kernel
theorem lq_266 : Cond.fieldLink RX6 170 "AskedBack$Reader" "truth" "I" ∈ wsX6_judge := by decide +kernel
theorem lq_267 : ∀ w ∈ wsX10, w ∈ wsX6_judge := by decide +kernel
theorem lq_268 : Cond.fieldLink RX6 97 "AskedBack$Formula" "truth" "I" ∈ wsX6_judge := by decide +kernel
set_option maxHeartbeats 4000000 in
set_option maxRecDepth 100000 in
theorem cg_X6_judge_207 (l : Launch) (D : va_G) (F : Nat → Prop) (a0 : Nat) (x0 : Int32) (a1 : Nat) (a2 : Nat) (a3 : Nat) (a4 : Nat) (x1 : Int32) (x2 : Int32) (x3 : Int32) (x4 : Int32) (x5 : Int32) (a5 : Nat) (x6 : Int32) (k0 : ClassId) (f0 : Nat → Int32) (a6 : Nat) (x7 : Int32) (x8 : Int32) (x9 : Int32) (x10 : Int32) (x11 : Int32) (x12 : Int32) (k1 : ClassId) (f1 : Nat → Int32) (a7 : Nat) (a8 : Nat) (x13 : Int32) (k2 : ClassId) (a9 : Nat) (a10 : Nat) (a11 : Nat) (a12 : Nat) (a13 : Nat) (a14 : Nat) (a15 : Nat) (a16 : Nat) (x14 : Int32) (o0 : Option Nat) (a17 : Nat) (a18 : Nat) (x15 : Int32) (o1 : Option Nat) (a19 : Nat) (a20 : Nat) (x16 : Int32) (o2 : Option Nat) (a21 : Nat) (a22 : Nat) (x17 : Int32) (o3 : Option Nat) (a23 : Nat) (a24 : Nat) (x18 : Int32) (o4 : Option Nat) (a25 : Nat) (a26 : Nat) (x19 : Int32) (o5 : Option Nat) (hx1 : -1 ≤ x1.toInt ∧ x1.toInt ≤ 5) (hx6 : 0 ≤ x6.toInt ∧ x6.toInt ≤ 80) (hf0 : sb_Fit f0) (hx7 : 0 ≤ x7.toInt ∧ x7.toInt ≤ 120) (hf1 : sb_Fit f1) (hx14 : 0 ≤ x14.toInt ∧ x14.toInt ≤ 12) (ho0 : ∀ a : Nat, o0 = some a → F a) (hx15 : 0 ≤ x15.toInt ∧ x15.toInt ≤ 12) (ho1 : ∀ a : Nat, o1 = some a → F a) (hx16 : 0 ≤ x16.toInt ∧ x16.toInt ≤ 12) (ho2 : ∀ a : Nat, o2 = some a → F a) (hx17 : 0 ≤ x17.toInt ∧ x17.toInt ≤ 12) (ho3 : ∀ a : Nat, o3 = some a → F a) (hx18 : 0 ≤ x18.toInt ∧ x18.toInt ≤ 12) (ho4 : ∀ a : Nat, o4 = some a → F a) (hx19 : 0 ≤ x19.toInt ∧ x19.toInt ≤ 12) (ho5 : ∀ a : Nat, o5 = some a → F a) : ka_E l D F yX6_judge wsX6_judge 84 2023 0 0 [.ref a0, .int x0] [(a0, .inr (6, [.ref a1, .ref a2, .ref a3, .ref a4, .int x1, .int x2, .int x3, .int x4, .int x5])), (a1, .inr (5, [.ref a5, .int x6])), (a5, .inl (k0, 80, .inl f0)), (a2, .inr (3, [.ref a1, .ref a6, .int x7, .int x8, .int x9, .int x10, .int x11, .int x12])), (a6, .inl (k1, 120, .inl f1)), (a3, .inr (0, [.ref a7, .ref a8, .int x13])), (a7, .inl (k2, 6, .inr (.inr (.inr (.inr (va_up (va_up (va_up (va_up (va_up (va_up (fun _ => none) 0 (some a9)) 1 (some a10)) 2 (some a11)) 3 (some a12)) 4 (some a13)) 5 (some a14))))))), (a9, .inr (2, [.ref a15, .ref a16, .int x14, va_rf o0])), (a10, .inr (2, [.ref a17, .ref a18, .int x15, va_rf o1])), (a11, .inr (2, [.ref a19, .ref a20, .int x16, va_rf o2])), (a12, .inr (2, [.ref a21, .ref a22, .int x17, va_rf o3])), (a13, .inr (2, [.ref a23, .ref a24, .int x18, va_rf o4])), (a14, .inr (2, [.ref a25, .ref a26, .int x19, va_rf o5]))] [(k0, .byte), (k1, .byte), (k2, .object RX2)] (fun (u : (Int32) × (Int32) × (Int32) × (Int32) × (Int32) × (Int32) × (Int32) × (Int32) × (Nat → Int32) × (Int32)) => some (.int (u.2.2.2.2.2.2.2.2.2))) (fun (u : (Int32) × (Int32) × (Int32) × (Int32) × (Int32) × (Int32) × (Int32) × (Int32) × (Nat → Int32) × (Int32)) => (0 ≤ (u.2.1).toInt ∧ (u.2.1).toInt ≤ 80) ∧ (0 ≤ (u.2.2.1).toInt ∧ (u.2.2.1).toInt ≤ 120) ∧ (sb_Fit (u.2.2.2.2.2.2.2.2.1))) (fun (u : (Int32) × (Int32) × (Int32) × (Int32) × (Int32) × (Int32) × (Int32) × (Int32) × (Nat → Int32) × (Int32)) => [(a0, .inr (6, [.ref a1, .ref a2, .ref a3, .ref a4, .int x1, .int (u.1), .int x3, .int x4, .int x5])), (a1, .inr (5, [.ref a5, .int (u.2.1)])), (a5, .inl (k0, 80, .inl f0)), (a2, .inr (3, [.ref a1, .ref a6, .int (u.2.2.1), .int (u.2.2.2.1), .int (u.2.2.2.2.1), .int (u.2.2.2.2.2.1), .int (u.2.2.2.2.2.2.1), .int (u.2.2.2.2.2.2.2.1)])), (a6, .inl (k1, 120, .inl (u.2.2.2.2.2.2.2.2.1))), (a3, .inr (0, [.ref a7, .ref a8, .int x13])), (a7, .inl (k2, 6, .inr (.inr (.inr (.inr (va_up (va_up (va_up (va_up (va_up (va_up (fun _ => none) 0 (some a9)) 1 (some a10)) 2 (some a11)) 3 (some a12)) 4 (some a13)) 5 (some a14))))))), (a9, .inr (2, [.ref a15, .ref a16, .int x14, va_rf o0])), (a10, .inr (2, [.ref a17, .ref a18, .int x15, va_rf o1])), (a11, .inr (2, [.ref a19, .ref a20, .int x16, va_rf o2])), (a12, .inr (2, [.ref a21, .ref a22, .int x17, va_rf o3])), (a13, .inr (2, [.ref a23, .ref a24, .int x18, va_rf o4])), (a14, .inr (2, [.ref a25, .ref a26, .int x19, va_rf o5]))]) (fun (u : (Int32) × (Int32) × (Int32) × (Int32) × (Int32) × (Int32) × (Int32) × (Int32) × (Nat → Int32) × (Int32)) => []) := by
  refine ka_E_of (cc := cX6_judge) (maxL := 3) (ret := (some .int)) (by decide) rfl (Nat.le_of_ble_eq_true rfl) ?_
  intro p e s m below meth c ls A C hr hlk hin hP hK hD hS hA hE hN hl
  have C : CallFix p m c cX6_judge 3 s [.ref a0, .int x0].toArray wsX6_judge RX6 := C
  obtain ⟨hx, hb, hml, hown, hts⟩ := id C
  have hl : lv_has ls 3 [(0, .ref a0), (1, .int x0)] := hl
  have rx0 := ka_rng x0
  have rx1 := ka_rng x1
  have rx2 := ka_rng x2
  have rx3 := ka_rng x3
  have rx4 := ka_rng x4
  have rx5 := ka_rng x5
  have rx6 := ka_rng x6
  have rx7 := ka_rng x7
  have rx8 := ka_rng x8
  have rx9 := ka_rng x9
  have rx10 := ka_rng x10
  have rx11 := ka_rng x11
  have rx12 := ka_rng x12
  have rx13 := ka_rng x13
  have rx14 := ka_rng x14
  have rx15 := ka_rng x15
  have rx16 := ka_rng x16
  have rx17 := ka_rng x17
  have rx18 := ka_rng x18
  have rx19 := ka_rng x19
  refine lv_aload_n hx hb dX6_judge_0 rfl (lv_at hl 0 rfl) ?_
  refine ka_RV (n := 0) C (cg_X6_begunLaw_169 l D F a0 a1 a2 a3 a4 x1 x2 x3 x4 x5 a7 a8 x13 k2 a9 a10 a11 a12 a13 a14 a15 a16 x14 o0 a17 a18 x15 o1 a19 a20 x16 o2 a21 a22 x17 o3 a23 a24 x18 o4 a25 a26 x19 o5 ⟨by omega, by omega⟩ ⟨by omega, by omega⟩ ho0 ⟨by omega, by omega⟩ ho1 ⟨by omega, by omega⟩ ho2 ⟨by omega, by omega⟩ ho3 ⟨by omega, by omega⟩ ho4 ⟨by omega, by omega⟩ ho5) gX6_judge_X6_begunLaw rfl (by decide +kernel) ⟨Nat.le_of_ble_eq_true rfl, Nat.le_of_ble_eq_true rfl⟩ hK hP hS hE hN [0, 5, 6, 7, 8, 9, 10, 11, 12] rfl [2] rfl (ci := 6) rfl rfl 0 rfl rfl hl.1 (rest := []) rfl (Nat.le_of_ble_eq_true rfl) dX6_judge_1 ⟨Nat.le_of_ble_eq_true rfl, Nat.le_of_ble_eq_true rfl⟩ (fun v hv => ?_)
  obtain ⟨o_22274, rfl, ho_22274⟩ := hv
  refine ka_stk (w := [va_rf o_22274]) rfl ?_
  refine kb_astore_n (lv' := [(2, va_rf o_22274), (0, .ref a0), (1, .int x0)]) hx hb dX6_judge_4 rfl hl (by decide) (by first | rfl | simp [kb_rfc]) (fun ls hl => ?_)
  refine kb_aload_n hx hb dX6_judge_5 rfl (lv_at hl 0 rfl) ?_
  refine kb_ifnull (tgt := 20) hx hb dX6_judge_6 (by decide) (fun hfa_22275 => ?_) (fun fa_22275 hfa_22275 => ?_)
  · skip
    refine lv_bipush (v := (-2)) hx hb dX6_judge_20 (by decide) ?_
    exact ka_rEi C hr hlk (Nat.le_of_ble_eq_true rfl) (Nat.le_of_ble_eq_true rfl) hS (ka_qE (x2, x6, x7, x8, x9, x10, x11, x12, f1, (-2)) rfl ⟨(show 0 ≤ x6.toInt ∧ x6.toInt ≤ 80 from ⟨by omega, by omega⟩), (show 0 ≤ x7.toInt ∧ x7.toInt ≤ 120 from ⟨by omega, by omega⟩), hf1⟩ hK hP hD hS [0, 1, 2, 3, 4, 5, 6, 7, 8, 9, 10, 11, 12] (by decide) rfl [] rfl) dX6_judge_22
  · have Ffa_22275 : F fa_22275 := ho_22274 fa_22275 hfa_22275
    refine lv_aload_n hx hb dX6_judge_9 rfl (lv_at hl 1 rfl) ?_
    refine ka_get C lq_262 rfl hK hP 0 rfl 0 (by decide) lq_263 rfl dX6_judge_10 ?_
    refine lv_iload_n hx hb dX6_judge_13 rfl (lv_at hl 2 rfl) ?_
    refine ka_RV (n := 1) C (cg_X5_offers_2 l D F a1 x0 a5 x6 ⟨by omega, by omega⟩) gX6_judge_X5_offers rfl (by decide +kernel) ⟨Nat.le_of_ble_eq_true rfl, Nat.le_of_ble_eq_true rfl⟩ hK hP hS hE hN [1] rfl [] rfl (ci := 5) rfl rfl 1 rfl rfl hl.1 (rest := []) rfl (Nat.le_of_ble_eq_true rfl) dX6_judge_14 ⟨Nat.le_of_ble_eq_true rfl, Nat.le_of_ble_eq_true rfl⟩ (fun v hv => ?_)
    obtain ⟨v_22276, rfl, hv_22276⟩ := hv
    have rv_22276 := ka_rng v_22276
    refine ka_stk (w := [.int v_22276]) rfl ?_
    refine lv_if_ne (tgt := 23) hx hb dX6_judge_17 (by decide) (fun c_22277 => ?_) (fun c_22277 => ?_)
    · have c_22277 : ¬ v_22276.toInt = 0 := by rw [ka_eq', show ((0 : Int32)).toInt = 0 from by decide] at c_22277; exact c_22277
      refine lv_aload_n hx hb dX6_judge_23 rfl (lv_at hl 1 rfl) ?_
      refine lv_iload_n hx hb dX6_judge_24 rfl (lv_at hl 2 rfl) ?_
      refine ka_EV (n := 1) (wr := [(a3, .inr (0, [.ref a7, .ref a8, .int x13])), (a7, .inl (k2, 6, .inr (.inr (.inr (.inr (va_up (va_up (va_up (va_up (va_up (va_up (fun _ => none) 0 (some a9)) 1 (some a10)) 2 (some a11)) 3 (some a12)) 4 (some a13)) 5 (some a14))))))), (a9, .inr (2, [.ref a15, .ref a16, .int x14, va_rf o0])), (a10, .inr (2, [.ref a17, .ref a18, .int x15, va_rf o1])), (a11, .inr (2, [.ref a19, .ref a20, .int x16, va_rf o2])), (a12, .inr (2, [.ref a21, .ref a22, .int x17, va_rf o3])), (a13, .inr (2, [.ref a23, .ref a24, .int x18, va_rf o4])), (a14, .inr (2, [.ref a25, .ref a26, .int x19, va_rf o5]))]) C (cg_X6_readTape_205 l D F a0 x0 a1 a2 a3 a4 x1 x2 x3 x4 x5 a5 x6 k0 f0 a6 x7 x8 x9 x10 x11 x12 k1 f1 ⟨by omega, by omega⟩ ⟨by omega, by omega⟩ hf0 ⟨by omega, by omega⟩ hf1) gX6_judge_X6_readTape rfl (by decide +kernel) ⟨Nat.le_of_ble_eq_true rfl, Nat.le_of_ble_eq_true rfl⟩ hK hP hD hS hA hE hN [0, 1, 2, 3, 4] rfl (by decide) [5, 6, 7, 8, 9, 10, 11, 12] rfl (by decide) (by decide) [0, 1] rfl (ci := 6) rfl rfl 0 rfl rfl hl.1 (rest := []) rfl (Nat.le_of_ble_eq_true rfl) dX6_judge_25 ⟨Nat.le_of_ble_eq_true rfl, Nat.le_of_ble_eq_true rfl⟩ (fun u H locs hq hP hD hK hS => ?_)
      obtain ⟨v_22278, v_22279, v_22280, v_22281, v_22282, v_22283, g_22284, v_22285⟩ := u
      have hq : (0 ≤ v_22279.toInt ∧ v_22279.toInt ≤ 120) ∧ (sb_Fit g_22284) ∧ (0 ≤ v_22285.toInt ∧ v_22285.toInt ≤ 1) := hq
      obtain ⟨hv_22279, hg_22284, hv_22285⟩ := hq
      have rv_22278 := ka_rng v_22278
      have rv_22279 := ka_rng v_22279
      have rv_22280 := ka_rng v_22280
      have rv_22281 := ka_rng v_22281
      have rv_22282 := ka_rng v_22282
      have rv_22283 := ka_rng v_22283
      have rv_22285 := ka_rng v_22285
      have hP : va_P D vwCl [(a3, .inr (0, [.ref a7, .ref a8, .int x13])), (a7, .inl (k2, 6, .inr (.inr (.inr (.inr (va_up (va_up (va_up (va_up (va_up (va_up (fun _ => none) 0 (some a9)) 1 (some a10)) 2 (some a11)) 3 (some a12)) 4 (some a13)) 5 (some a14))))))), (a9, .inr (2, [.ref a15, .ref a16, .int x14, va_rf o0])), (a10, .inr (2, [.ref a17, .ref a18, .int x15, va_rf o1])), (a11, .inr (2, [.ref a19, .ref a20, .int x16, va_rf o2])), (a12, .inr (2, [.ref a21, .ref a22, .int x17, va_rf o3])), (a13, .inr (2, [.ref a23, .ref a24, .int x18, va_rf o4])), (a14, .inr (2, [.ref a25, .ref a26, .int x19, va_rf o5])), (a0, .inr (6, [.ref a1, .ref a2, .ref a3, .ref a4, .int x1, .int v_22278, .int x3, .int x4, .int x5])), (a1, .inr (5, [.ref a5, .int 0])), (a5, .inl (k0, 80, .inl f0)), (a2, .inr (3, [.ref a1, .ref a6, .int v_22279, .int x0, .int v_22280, .int v_22281, .int v_22282, .int v_22283])), (a6, .inl (k1, 120, .inl g_22284))] H := hP
      have hD : va_D A [(a3, .inr (0, [.ref a7, .ref a8, .int x13])), (a7, .inl (k2, 6, .inr (.inr (.inr (.inr (va_up (va_up (va_up (va_up (va_up (va_up (fun _ => none) 0 (some a9)) 1 (some a10)) 2 (some a11)) 3 (some a12)) 4 (some a13)) 5 (some a14))))))), (a9, .inr (2, [.ref a15, .ref a16, .int x14, va_rf o0])), (a10, .inr (2, [.ref a17, .ref a18, .int x15, va_rf o1])), (a11, .inr (2, [.ref a19, .ref a20, .int x16, va_rf o2])), (a12, .inr (2, [.ref a21, .ref a22, .int x17, va_rf o3])), (a13, .inr (2, [.ref a23, .ref a24, .int x18, va_rf o4])), (a14, .inr (2, [.ref a25, .ref a26, .int x19, va_rf o5])), (a0, .inr (6, [.ref a1, .ref a2, .ref a3, .ref a4, .int x1, .int v_22278, .int x3, .int x4, .int x5])), (a1, .inr (5, [.ref a5, .int 0])), (a5, .inl (k0, 80, .inl f0)), (a2, .inr (3, [.ref a1, .ref a6, .int v_22279, .int x0, .int v_22280, .int v_22281, .int v_22282, .int v_22283])), (a6, .inl (k1, 120, .inl g_22284))] := hD
      have hK : va_K D vwCl [(k0, .byte), (k1, .byte), (k2, .object RX2)] s := by simpa using hK
      refine ka_stk (w := [.int v_22285]) rfl ?_
      refine lv_if_eq (tgt := 49) hx hb dX6_judge_28 (by decide) (fun c_22286 => ?_) (fun c_22286 => ?_)
      · have c_22286 : v_22285.toInt = 0 := by rw [ka_eq', show ((0 : Int32)).toInt = 0 from by decide] at c_22286; exact c_22286
        refine lv_iconst (v := (-1)) hx hb dX6_judge_49 (by decide) ?_
        exact ka_rEi C hr hlk (Nat.le_of_ble_eq_true rfl) (Nat.le_of_ble_eq_true rfl) hS (ka_qE (v_22278, 0, v_22279, x0, v_22280, v_22281, v_22282, v_22283, g_22284, (-1)) rfl ⟨(show 0 ≤ ((0 : Int32)).toInt ∧ ((0 : Int32)).toInt ≤ 80 from ⟨by decide, by decide⟩), (show 0 ≤ v_22279.toInt ∧ v_22279.toInt ≤ 120 from ⟨by omega, by omega⟩), hg_22284⟩ hK hP hD hS [8, 9, 10, 11, 12, 0, 1, 2, 3, 4, 5, 6, 7] (by decide) rfl [] rfl) dX6_judge_50
      · have c_22286 : ¬ v_22285.toInt = 0 := by rw [ka_eq', show ((0 : Int32)).toInt = 0 from by decide] at c_22286; exact c_22286
        refine lv_aload_n hx hb dX6_judge_31 rfl (lv_at hl 1 rfl) ?_
        refine ka_get C lq_262 rfl hK hP 8 rfl 1 (by decide) lq_264 rfl dX6_judge_32 ?_
        refine ka_get C lq_265 rfl hK hP 11 rfl 7 (by decide) lq_266 rfl dX6_judge_35 ?_
        refine kb_aload_n hx hb dX6_judge_38 rfl (lv_at hl 0 rfl) ?_
        refine ka_top (w := .ref fa_22275) (by rw [hfa_22275]; rfl) ?_
        obtain ⟨tru_22287, txu_22287, kku_22287, nnu_22287, ffu_22287, hnu_22287, hPu_22287, hKu_22287, -, -⟩ := (ka_FP_kept hE.2 hS.2.1) fa_22275 Ffa_22275
        refine ka_get C lq_267 rfl hKu_22287 hPu_22287 0 rfl 0 (by decide) lq_268 rfl dX6_judge_39 ?_
        have rtru_22287 := ka_rng tru_22287
        refine lv_ixor hx hb dX6_judge_42 ?_
        refine lv_topi (fun v_22288 ev_22288 => ?_)
        refine ka_RS (n := 1) C (cg_J6_bitCount_0f7a4_39 l D F v_22288) gX6_judge_J6_bitCount_0f7a4 rfl (by decide +kernel) ⟨Nat.le_of_ble_eq_true rfl, Nat.le_of_ble_eq_true rfl⟩ hK hP hS hE hN [] rfl [] rfl rfl hl.1 (rest := []) rfl (Nat.le_of_ble_eq_true rfl) dX6_judge_43 ⟨Nat.le_of_ble_eq_true rfl, Nat.le_of_ble_eq_true rfl⟩ (fun v hv => ?_)
        obtain ⟨v_22289, rfl⟩ := hv
        have rv_22289 := ka_rng v_22289
        refine ka_stk (w := [.int v_22289]) rfl ?_
        refine lv_goto (tgt := 50) hx hb dX6_judge_46 (by decide) ?_
        exact ka_rEi C hr hlk (Nat.le_of_ble_eq_true rfl) (Nat.le_of_ble_eq_true rfl) hS (ka_qE (v_22278, 0, v_22279, x0, v_22280, v_22281, v_22282, v_22283, g_22284, v_22289) rfl ⟨(show 0 ≤ ((0 : Int32)).toInt ∧ ((0 : Int32)).toInt ≤ 80 from ⟨by decide, by decide⟩), (show 0 ≤ v_22279.toInt ∧ v_22279.toInt ≤ 120 from ⟨by omega, by omega⟩), hg_22284⟩ hK hP hD hS [8, 9, 10, 11, 12, 0, 1, 2, 3, 4, 5, 6, 7] (by decide) rfl [] rfl) dX6_judge_50
    · have c_22277 : v_22276.toInt = 0 := by rw [ka_eq', show ((0 : Int32)).toInt = 0 from by decide] at c_22277; exact c_22277
      refine lv_bipush (v := (-2)) hx hb dX6_judge_20 (by decide) ?_
      exact ka_rEi C hr hlk (Nat.le_of_ble_eq_true rfl) (Nat.le_of_ble_eq_true rfl) hS (ka_qE (x2, x6, x7, x8, x9, x10, x11, x12, f1, (-2)) rfl ⟨(show 0 ≤ x6.toInt ∧ x6.toInt ≤ 80 from ⟨by omega, by omega⟩), (show 0 ≤ x7.toInt ∧ x7.toInt ≤ 120 from ⟨by omega, by omega⟩), hf1⟩ hK hP hD hS [0, 1, 2, 3, 4, 5, 6, 7, 8, 9, 10, 11, 12] (by decide) rfl [] rfl) dX6_judge_22
