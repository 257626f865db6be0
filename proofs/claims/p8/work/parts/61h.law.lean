set_option maxHeartbeats 8000000 in
set_option maxRecDepth 100000 in
theorem lc_19 {p : Program} {l : Launch} {e : Env} {s : State} {m : MethodId} {below : List Frame} {meth : Method} {c : Code} {b L : Nat} {xs : Nat → Int32} {D : va_G} {A : Nat → Prop} {qh : Nat} {qtp : Nat} {qby : Nat} {qkby : ClassId} {qrd : Nat} {qou : Nat} {qkou : ClassId} {qco : Nat} {qls : Nat} {qkls : ClassId} {qnd : Nat} {qknd : ClassId} {qL0 : Nat} {qt0 : Nat} {qkt0 : ClassId} {qp0 : Nat} {qkp0 : ClassId} {qL1 : Nat} {qt1 : Nat} {qkt1 : ClassId} {qp1 : Nat} {qkp1 : ClassId} {qL2 : Nat} {qt2 : Nat} {qkt2 : ClassId} {qp2 : Nat} {qkp2 : ClassId} {qL3 : Nat} {qt3 : Nat} {qkt3 : ClassId} {qp3 : Nat} {qkp3 : ClassId} {qL4 : Nat} {qt4 : Nat} {qkt4 : ClassId} {qp4 : Nat} {qkp4 : ClassId} {qL5 : Nat} {qt5 : Nat} {qkt5 : ClassId} {qp5 : Nat} {qkp5 : ClassId} {qtk : Nat} {qzo : Nat} {qkzo : ClassId} {qon : Nat} {qkon : ClassId} {qsd : Nat} {qksd : ClassId} {qm : Nat} {qm0 : Nat} {qkm0 : ClassId} {qm2 : Nat} {qkm2 : ClassId} {qm3 : Nat} {qkm3 : ClassId} {qm4 : Nat} {qkm4 : ClassId} {qm5 : Nat} {qkm5 : ClassId} {qm6 : Nat} {qkm6 : ClassId} {qm7 : Nat} {qkm7 : ClassId} {qm8 : Nat} {qkm8 : ClassId} {qm16 : Nat} {qkm16 : ClassId} {qm17 : Nat} {qkm17 : ClassId} {qm18 : Nat} {qkm18 : ClassId} {qm19 : Nat} {qkm19 : ClassId} {qm20 : Nat} {qkm20 : ClassId} {qm21 : Nat} {qkm21 : ClassId} {i : Int32} {iN cells slots : Nat} (C : CallFix p m c cL_law 4 s #[Value.ref b] wsL_law RL) (hr : meth.sig.returnType = ret) (hlk : meth.locks = false) (hX : va_X b L xs s s.heap) (hbl : b < s.heap.size) (hAe : A = fun q => s.heap.size ≤ q) (hE : ka_SE D (fun _ => False) A s s.heap) (hN : ka_NW s) (hi : i.toInt = (iN : Int)) (hiL : iN + 6 ≤ L) (hLL : L ≤ 3072) (hcs : cells + 2 ≤ 600000 ∧ slots + 122 ≤ 7302250) (kk : ky_J p l e s m below meth c b D A qh qtp qby qkby qrd qou qkou qco qls qkls qnd qknd qL0 qt0 qkt0 qp0 qkp0 qL1 qt1 qkt1 qp1 qkp1 qL2 qt2 qkt2 qp2 qkp2 qL3 qt3 qkt3 qp3 qkp3 qL4 qt4 qkt4 qp4 qkp4 qL5 qt5 qkt5 qp5 qkp5 qtk qzo qkzo qon qkon qsd qksd qm qm0 qkm0 qm2 qkm2 qm3 qkm3 qm4 qkm4 qm5 qkm5 qm6 qkm6 qm7 qkm7 qm8 qkm8 qm16 qkm16 qm17 qkm17 qm18 qkm18 qm19 qkm19 qm20 qkm20 qm21 qkm21 i (cells + 2) (slots + 122) 725) : ky_J p l e s m below meth c b D A qh qtp qby qkby qrd qou qkou qco qls qkls qnd qknd qL0 qt0 qkt0 qp0 qkp0 qL1 qt1 qkt1 qp1 qkp1 qL2 qt2 qkt2 qp2 qkp2 qL3 qt3 qkt3 qp3 qkp3 qL4 qt4 qkt4 qp4 qkp4 qL5 qt5 qkt5 qp5 qkp5 qtk qzo qkzo qon qkon qsd qksd qm qm0 qkm0 qm2 qkm2 qm3 qkm3 qm4 qkm4 qm5 qkm5 qm6 qkm6 qm7 qkm7 qm8 qkm8 qm16 qkm16 qm17 qkm17 qm18 qkm18 qm19 qkm19 qm20 qkm20 qm21 qkm21 i cells slots 669 := by
  intro qzh_4 qzh_5 qzh_6 qzh_7 qzh_8 qztp_1 qfby qzrd_2 qzrd_3 qzrd_4 qzrd_5 qzrd_6 qzrd_7 qfou qzco_2 qfnd qzL0_2 qoL0 qft0 qpo0 qzL1_2 qoL1 qft1 qpo1 qzL2_2 qoL2 qft2 qpo2 qzL3_2 qoL3 qft3 qpo3 qzL4_2 qoL4 qft4 qpo4 qzL5_2 qoL5 qft5 qpo5 qztk_3 qztk_4 qztk_5 qztk_6 qztk_7 qztk_8 qfzo qfon qfsd qzm_1 qzm_9 qzm_10 qzm_11 qzm_12 qzm_13 qzm_14 qzm_15 qzm_22 qzm_23 qzm_24 qzm_25 qzm_26 qzm_27 qfm0 qfm2 qfm3 qfm4 qfm5 qfm6 qfm7 qfm8 qfm16 qfm17 qfm18 qfm19 qfm20 qfm21 Z tz hqzh_4 hqztp_1 hqfby hqzrd_2 hqfou hqzL0_2 hqoL0 hqpo0 hqzL1_2 hqoL1 hqpo1 hqzL2_2 hqoL2 hqpo2 hqzL3_2 hqoL3 hqpo3 hqzL4_2 hqoL4 hqpo4 hqzL5_2 hqoL5 hqpo5 hqztk_3 hqzm_1 hqzm_9 hqzm_12 hqzm_13 hqzm_15 hqzm_22 hqzm_23 hqzm_24 hqzm_25 hqzm_27 hqfm0 hqfm3 hqfm4 hqfm8 hrel H locs hP hD hK hS ls hl
  obtain ⟨hx, hb, hml, hown, hts⟩ := id C
  have hA : ∀ q, s.heap.size ≤ q → A q := fun q h => by rw [hAe]; exact h
  have hbA : ¬ A b := by rw [hAe]; exact Nat.not_le.mpr hbl
  obtain ⟨z1, ez1⟩ : ∃ y : Int32, y = xs (iN + 1) := ⟨_, rfl⟩
  obtain ⟨z2, ez2⟩ : ∃ y : Int32, y = xs (iN + 2) := ⟨_, rfl⟩
  obtain ⟨z3, ez3⟩ : ∃ y : Int32, y = xs (iN + 3) := ⟨_, rfl⟩
  obtain ⟨z4, ez4⟩ : ∃ y : Int32, y = xs (iN + 4) := ⟨_, rfl⟩
  obtain ⟨z5, ez5⟩ : ∃ y : Int32, y = xs (iN + 5) := ⟨_, rfl⟩
  refine lv_aload_n hx hb dL_law_669 rfl (lv_at hl 2 rfl) ?_
  refine lv_aload_n hx hb dL_law_670 rfl (lv_at hl 3 rfl) ?_
  refine lv_iload_n hx hb dL_law_671 rfl (lv_at hl 0 rfl) ?_
  refine lv_iconst (v := 1) hx hb dL_law_672 (by decide) ?_
  refine lv_iadd hx hb dL_law_673 ?_
  refine lv_topi (fun v_35555 ev_35555 => ?_)
  have fv_35555 : v_35555.toInt = i.toInt + 1 := by rw [ev_35555]; exact ka_add (x := i.toInt) (y := 1) rfl (by decide) (by omega) (by omega)
  refine va_sld hx hb hX hbl hbA hS (ka_in (by omega) (by omega)) dL_law_674 ?_
  refine ka_top (w := .int z1) (congrArg Value.int (by rw [kp_cl (n := iN + 1) (by omega)]; exact ez1.symm)) ?_
  refine lv_aload_n hx hb dL_law_675 rfl (lv_at hl 3 rfl) ?_
  refine lv_iload_n hx hb dL_law_676 rfl (lv_at hl 0 rfl) ?_
  refine lv_iconst (v := 2) hx hb dL_law_677 (by decide) ?_
  refine lv_iadd hx hb dL_law_678 ?_
  refine lv_topi (fun v_35556 ev_35556 => ?_)
  have fv_35556 : v_35556.toInt = i.toInt + 2 := by rw [ev_35556]; exact ka_add (x := i.toInt) (y := 2) rfl (by decide) (by omega) (by omega)
  refine va_sld hx hb hX hbl hbA hS (ka_in (by omega) (by omega)) dL_law_679 ?_
  refine ka_top (w := .int z2) (congrArg Value.int (by rw [kp_cl (n := iN + 2) (by omega)]; exact ez2.symm)) ?_
  refine kz_RV (n := 2) C (cg_X6_caseOf_200 l D (kz_F Z tz) qh z1 z2 qtp qrd qco qtk qzh_4 qzh_5 qzh_6 qzh_7 qzh_8 qls qnd qzco_2 qkls qL0 qL1 qL2 qL3 qL4 qL5 qp0 qt0 qzL0_2 qoL0 qp1 qt1 qzL1_2 qoL1 qp2 qt2 qzL2_2 qoL2 qp3 qt3 qzL3_2 qoL3 qp4 qt4 qzL4_2 qoL4 qp5 qt5 qzL5_2 qoL5 qzo qon qsd qztk_3 qztk_4 qztk_5 qztk_6 qztk_7 qztk_8 qkzo qfzo qkon qfon ⟨by omega, by omega⟩ ⟨by omega, by omega⟩ hqoL0 ⟨by omega, by omega⟩ hqoL1 ⟨by omega, by omega⟩ hqoL2 ⟨by omega, by omega⟩ hqoL3 ⟨by omega, by omega⟩ hqoL4 ⟨by omega, by omega⟩ hqoL5 ⟨by omega, by omega⟩) gL_law_X6_caseOf rfl (by decide +kernel) ⟨Nat.le_of_ble_eq_true rfl, Nat.le_of_ble_eq_true rfl⟩ hK hP hD hS hE hN [0, 5, 6, 8, 11, 14, 17, 20, 23, 26, 27, 28] rfl [2, 16, 17] rfl (ci := 6) rfl rfl 0 rfl rfl hl.1 (rest := []) rfl (Nat.le_of_ble_eq_true rfl) dL_law_680 ⟨show cells ≤ 600000 by omega, show slots ≤ 7302250 by omega⟩ (fun v hv => ?_)
  obtain ⟨v_35557, rfl⟩ := hv
  refine ka_stk (w := [.int v_35557]) rfl ?_
  refine lv_pop hx hb dL_law_683 rfl ?_
  refine lv_aload_n hx hb dL_law_684 rfl (lv_at hl 1 rfl) ?_
  refine lv_aload_n hx hb dL_law_685 rfl (lv_at hl 3 rfl) ?_
  refine lv_iload_n hx hb dL_law_686 rfl (lv_at hl 0 rfl) ?_
  refine lv_iconst (v := 1) hx hb dL_law_687 (by decide) ?_
  refine lv_iadd hx hb dL_law_688 ?_
  refine lv_topi (fun v_35558 ev_35558 => ?_)
  have fv_35558 : v_35558.toInt = i.toInt + 1 := by rw [ev_35558]; exact ka_add (x := i.toInt) (y := 1) rfl (by decide) (by omega) (by omega)
  refine va_sld hx hb hX hbl hbA hS (ka_in (by omega) (by omega)) dL_law_689 ?_
  refine ka_top (w := .int z1) (congrArg Value.int (by rw [kp_cl (n := iN + 1) (by omega)]; exact ez1.symm)) ?_
  refine lv_aload_n hx hb dL_law_690 rfl (lv_at hl 3 rfl) ?_
  refine lv_iload_n hx hb dL_law_691 rfl (lv_at hl 0 rfl) ?_
  refine lv_iconst (v := 2) hx hb dL_law_692 (by decide) ?_
  refine lv_iadd hx hb dL_law_693 ?_
  refine lv_topi (fun v_35559 ev_35559 => ?_)
  have fv_35559 : v_35559.toInt = i.toInt + 2 := by rw [ev_35559]; exact ka_add (x := i.toInt) (y := 2) rfl (by decide) (by omega) (by omega)
  refine va_sld hx hb hX hbl hbA hS (ka_in (by omega) (by omega)) dL_law_694 ?_
  refine ka_top (w := .int z2) (congrArg Value.int (by rw [kp_cl (n := iN + 2) (by omega)]; exact ez2.symm)) ?_
  refine kz_RV (n := 2) C (cg_X7_caseOf_278 l D (kz_F Z tz) qm z1 z2 qm0 qzm_1 qm2 qm3 qm4 qm5 qm6 qm7 qm8 qzm_9 qzm_10 qzm_11 qzm_12 qzm_13 qzm_14 qzm_15 qm16 qm17 qm18 qm19 qm20 qm21 qzm_22 qzm_23 qzm_24 qzm_25 qzm_26 qzm_27 qkm2 qfm2 qkm16 qfm16 qkm17 qfm17 ⟨by omega, by omega⟩ ⟨by omega, by omega⟩ ⟨by omega, by omega⟩ ⟨by omega, by omega⟩ ⟨by omega, by omega⟩ ⟨by omega, by omega⟩ ⟨by omega, by omega⟩ ⟨by omega, by omega⟩ ⟨by omega, by omega⟩ ⟨by omega, by omega⟩) gL_law_X7_caseOf rfl (by decide +kernel) ⟨Nat.le_of_ble_eq_true rfl, Nat.le_of_ble_eq_true rfl⟩ hK hP hD hS hE hN [30, 32, 39, 40] rfl [20, 27, 28] rfl (ci := 7) rfl rfl 30 rfl rfl hl.1 (rest := []) rfl (Nat.le_of_ble_eq_true rfl) dL_law_695 ⟨show cells ≤ 600000 by omega, show slots ≤ 7302250 by omega⟩ (fun v hv => ?_)
  obtain ⟨v_35560, rfl⟩ := hv
  refine ka_stk (w := [.int v_35560]) rfl ?_
  refine lv_pop hx hb dL_law_698 rfl ?_
  refine lv_goto (tgt := 725) hx hb dL_law_699 (by decide) ?_
  refine W.widen (k := cells + 2) (n := slots + 122) (show cells ≤ cells + 2 by omega) (show slots ≤ slots + 122 by omega) ?_
  exact kk qzh_4 qzh_5 qzh_6 qzh_7 qzh_8 qztp_1 qfby qzrd_2 qzrd_3 qzrd_4 qzrd_5 qzrd_6 qzrd_7 qfou qzco_2 qfnd qzL0_2 qoL0 qft0 qpo0 qzL1_2 qoL1 qft1 qpo1 qzL2_2 qoL2 qft2 qpo2 qzL3_2 qoL3 qft3 qpo3 qzL4_2 qoL4 qft4 qpo4 qzL5_2 qoL5 qft5 qpo5 qztk_3 qztk_4 qztk_5 qztk_6 qztk_7 qztk_8 qfzo qfon qfsd qzm_1 qzm_9 qzm_10 qzm_11 qzm_12 qzm_13 qzm_14 qzm_15 qzm_22 qzm_23 qzm_24 qzm_25 qzm_26 qzm_27 qfm0 qfm2 qfm3 qfm4 qfm5 qfm6 qfm7 qfm8 qfm16 qfm17 qfm18 qfm19 qfm20 qfm21 Z tz ⟨by omega, by omega⟩ ⟨by omega, by omega⟩ hqfby ⟨by omega, by omega⟩ hqfou ⟨by omega, by omega⟩ hqoL0 hqpo0 ⟨by omega, by omega⟩ hqoL1 hqpo1 ⟨by omega, by omega⟩ hqoL2 hqpo2 ⟨by omega, by omega⟩ hqoL3 hqpo3 ⟨by omega, by omega⟩ hqoL4 hqpo4 ⟨by omega, by omega⟩ hqoL5 hqpo5 ⟨by omega, by omega⟩ ⟨by omega, by omega⟩ ⟨by omega, by omega⟩ ⟨by omega, by omega⟩ ⟨by omega, by omega⟩ ⟨by omega, by omega⟩ ⟨by omega, by omega⟩ ⟨by omega, by omega⟩ ⟨by omega, by omega⟩ ⟨by omega, by omega⟩ ⟨by omega, by omega⟩ hqfm0 hqfm3 hqfm4 hqfm8 hrel H locs (kz_subP hP [0, 1, 2, 3, 4, 5, 6, 7, 8, 9, 10, 11, 12, 13, 14, 15, 16, 17, 18, 19, 20, 21, 22, 23, 24, 25, 26, 27, 28, 29, 30, 31, 32, 33, 34, 35, 36, 37, 38, 39, 40, 41, 42, 43, 44] rfl) (kz_subD hD [0, 1, 2, 3, 4, 5, 6, 7, 8, 9, 10, 11, 12, 13, 14, 15, 16, 17, 18, 19, 20, 21, 22, 23, 24, 25, 26, 27, 28, 29, 30, 31, 32, 33, 34, 35, 36, 37, 38, 39, 40, 41, 42, 43, 44] (by decide) rfl) hK hS ls (lv_sub hl [0, 1, 2, 3] rfl)
set_option maxHeartbeats 8000000 in
set_option maxRecDepth 100000 in
theorem lc_20 {p : Program} {l : Launch} {e : Env} {s : State} {m : MethodId} {below : List Frame} {meth : Method} {c : Code} {b L : Nat} {xs : Nat → Int32} {D : va_G} {A : Nat → Prop} {qh : Nat} {qtp : Nat} {qby : Nat} {qkby : ClassId} {qrd : Nat} {qou : Nat} {qkou : ClassId} {qco : Nat} {qls : Nat} {qkls : ClassId} {qnd : Nat} {qknd : ClassId} {qL0 : Nat} {qt0 : Nat} {qkt0 : ClassId} {qp0 : Nat} {qkp0 : ClassId} {qL1 : Nat} {qt1 : Nat} {qkt1 : ClassId} {qp1 : Nat} {qkp1 : ClassId} {qL2 : Nat} {qt2 : Nat} {qkt2 : ClassId} {qp2 : Nat} {qkp2 : ClassId} {qL3 : Nat} {qt3 : Nat} {qkt3 : ClassId} {qp3 : Nat} {qkp3 : ClassId} {qL4 : Nat} {qt4 : Nat} {qkt4 : ClassId} {qp4 : Nat} {qkp4 : ClassId} {qL5 : Nat} {qt5 : Nat} {qkt5 : ClassId} {qp5 : Nat} {qkp5 : ClassId} {qtk : Nat} {qzo : Nat} {qkzo : ClassId} {qon : Nat} {qkon : ClassId} {qsd : Nat} {qksd : ClassId} {qm : Nat} {qm0 : Nat} {qkm0 : ClassId} {qm2 : Nat} {qkm2 : ClassId} {qm3 : Nat} {qkm3 : ClassId} {qm4 : Nat} {qkm4 : ClassId} {qm5 : Nat} {qkm5 : ClassId} {qm6 : Nat} {qkm6 : ClassId} {qm7 : Nat} {qkm7 : ClassId} {qm8 : Nat} {qkm8 : ClassId} {qm16 : Nat} {qkm16 : ClassId} {qm17 : Nat} {qkm17 : ClassId} {qm18 : Nat} {qkm18 : ClassId} {qm19 : Nat} {qkm19 : ClassId} {qm20 : Nat} {qkm20 : ClassId} {qm21 : Nat} {qkm21 : ClassId} {i : Int32} {iN cells slots : Nat} (C : CallFix p m c cL_law 4 s #[Value.ref b] wsL_law RL) (hr : meth.sig.returnType = ret) (hlk : meth.locks = false) (hX : va_X b L xs s s.heap) (hbl : b < s.heap.size) (hAe : A = fun q => s.heap.size ≤ q) (hE : ka_SE D (fun _ => False) A s s.heap) (hN : ka_NW s) (hi : i.toInt = (iN : Int)) (hiL : iN + 6 ≤ L) (hLL : L ≤ 3072) (hcs : cells + 2 ≤ 600000 ∧ slots + 122 ≤ 7302250) (kk : ky_J p l e s m below meth c b D A qh qtp qby qkby qrd qou qkou qco qls qkls qnd qknd qL0 qt0 qkt0 qp0 qkp0 qL1 qt1 qkt1 qp1 qkp1 qL2 qt2 qkt2 qp2 qkp2 qL3 qt3 qkt3 qp3 qkp3 qL4 qt4 qkt4 qp4 qkp4 qL5 qt5 qkt5 qp5 qkp5 qtk qzo qkzo qon qkon qsd qksd qm qm0 qkm0 qm2 qkm2 qm3 qkm3 qm4 qkm4 qm5 qkm5 qm6 qkm6 qm7 qkm7 qm8 qkm8 qm16 qkm16 qm17 qkm17 qm18 qkm18 qm19 qkm19 qm20 qkm20 qm21 qkm21 i (cells + 2) (slots + 122) 725) : ky_J p l e s m below meth c b D A qh qtp qby qkby qrd qou qkou qco qls qkls qnd qknd qL0 qt0 qkt0 qp0 qkp0 qL1 qt1 qkt1 qp1 qkp1 qL2 qt2 qkt2 qp2 qkp2 qL3 qt3 qkt3 qp3 qkp3 qL4 qt4 qkt4 qp4 qkp4 qL5 qt5 qkt5 qp5 qkp5 qtk qzo qkzo qon qkon qsd qksd qm qm0 qkm0 qm2 qkm2 qm3 qkm3 qm4 qkm4 qm5 qkm5 qm6 qkm6 qm7 qkm7 qm8 qkm8 qm16 qkm16 qm17 qkm17 qm18 qkm18 qm19 qkm19 qm20 qkm20 qm21 qkm21 i cells slots 702 := by
  intro qzh_4 qzh_5 qzh_6 qzh_7 qzh_8 qztp_1 qfby qzrd_2 qzrd_3 qzrd_4 qzrd_5 qzrd_6 qzrd_7 qfou qzco_2 qfnd qzL0_2 qoL0 qft0 qpo0 qzL1_2 qoL1 qft1 qpo1 qzL2_2 qoL2 qft2 qpo2 qzL3_2 qoL3 qft3 qpo3 qzL4_2 qoL4 qft4 qpo4 qzL5_2 qoL5 qft5 qpo5 qztk_3 qztk_4 qztk_5 qztk_6 qztk_7 qztk_8 qfzo qfon qfsd qzm_1 qzm_9 qzm_10 qzm_11 qzm_12 qzm_13 qzm_14 qzm_15 qzm_22 qzm_23 qzm_24 qzm_25 qzm_26 qzm_27 qfm0 qfm2 qfm3 qfm4 qfm5 qfm6 qfm7 qfm8 qfm16 qfm17 qfm18 qfm19 qfm20 qfm21 Z tz hqzh_4 hqztp_1 hqfby hqzrd_2 hqfou hqzL0_2 hqoL0 hqpo0 hqzL1_2 hqoL1 hqpo1 hqzL2_2 hqoL2 hqpo2 hqzL3_2 hqoL3 hqpo3 hqzL4_2 hqoL4 hqpo4 hqzL5_2 hqoL5 hqpo5 hqztk_3 hqzm_1 hqzm_9 hqzm_12 hqzm_13 hqzm_15 hqzm_22 hqzm_23 hqzm_24 hqzm_25 hqzm_27 hqfm0 hqfm3 hqfm4 hqfm8 hrel H locs hP hD hK hS ls hl
  obtain ⟨hx, hb, hml, hown, hts⟩ := id C
  have hA : ∀ q, s.heap.size ≤ q → A q := fun q h => by rw [hAe]; exact h
  have hbA : ¬ A b := by rw [hAe]; exact Nat.not_le.mpr hbl
  obtain ⟨z1, ez1⟩ : ∃ y : Int32, y = xs (iN + 1) := ⟨_, rfl⟩
  obtain ⟨z2, ez2⟩ : ∃ y : Int32, y = xs (iN + 2) := ⟨_, rfl⟩
  obtain ⟨z3, ez3⟩ : ∃ y : Int32, y = xs (iN + 3) := ⟨_, rfl⟩
  obtain ⟨z4, ez4⟩ : ∃ y : Int32, y = xs (iN + 4) := ⟨_, rfl⟩
  obtain ⟨z5, ez5⟩ : ∃ y : Int32, y = xs (iN + 5) := ⟨_, rfl⟩
  refine lv_aload_n hx hb dL_law_702 rfl (lv_at hl 2 rfl) ?_
  refine lv_aload_n hx hb dL_law_703 rfl (lv_at hl 3 rfl) ?_
  refine lv_iload_n hx hb dL_law_704 rfl (lv_at hl 0 rfl) ?_
  refine lv_iconst (v := 1) hx hb dL_law_705 (by decide) ?_
  refine lv_iadd hx hb dL_law_706 ?_
  refine lv_topi (fun v_35561 ev_35561 => ?_)
  have fv_35561 : v_35561.toInt = i.toInt + 1 := by rw [ev_35561]; exact ka_add (x := i.toInt) (y := 1) rfl (by decide) (by omega) (by omega)
  refine va_sld hx hb hX hbl hbA hS (ka_in (by omega) (by omega)) dL_law_707 ?_
  refine ka_top (w := .int z1) (congrArg Value.int (by rw [kp_cl (n := iN + 1) (by omega)]; exact ez1.symm)) ?_
  refine kz_RV (n := 1) C (cg_X6_count_204 l D (kz_F Z tz) qh z1 qtp qrd qco qtk qzh_4 qzh_5 qzh_6 qzh_7 qzh_8 qby qztp_1 qls qnd qzco_2 qkls qL0 qL1 qL2 qL3 qL4 qL5 qp0 qt0 qzL0_2 qoL0 qkp0 qpo0 qp1 qt1 qzL1_2 qoL1 qkp1 qpo1 qp2 qt2 qzL2_2 qoL2 qkp2 qpo2 qp3 qt3 qzL3_2 qoL3 qkp3 qpo3 qp4 qt4 qzL4_2 qoL4 qkp4 qpo4 qp5 qt5 qzL5_2 qoL5 qkp5 qpo5 qzo qon qsd qztk_3 qztk_4 qztk_5 qztk_6 qztk_7 qztk_8 qkzo qfzo qkon qfon ⟨by omega, by omega⟩ ⟨by omega, by omega⟩ ⟨by omega, by omega⟩ hqoL0 hqpo0 ⟨by omega, by omega⟩ hqoL1 hqpo1 ⟨by omega, by omega⟩ hqoL2 hqpo2 ⟨by omega, by omega⟩ hqoL3 hqpo3 ⟨by omega, by omega⟩ hqoL4 hqpo4 ⟨by omega, by omega⟩ hqoL5 hqpo5 ⟨by omega, by omega⟩) gL_law_X6_count rfl (by decide +kernel) ⟨Nat.le_of_ble_eq_true rfl, Nat.le_of_ble_eq_true rfl⟩ hK hP hD hS hE hN [0, 1, 5, 6, 8, 10, 11, 13, 14, 16, 17, 19, 20, 22, 23, 25, 26, 27, 28] rfl [2, 5, 7, 9, 11, 13, 15, 16, 17] rfl (ci := 6) rfl rfl 0 rfl rfl hl.1 (rest := []) rfl (Nat.le_of_ble_eq_true rfl) dL_law_708 ⟨show cells ≤ 600000 by omega, show slots ≤ 7302250 by omega⟩ (fun v hv => ?_)
  obtain ⟨v_35562, rfl⟩ := hv
  refine ka_stk (w := [.int v_35562]) rfl ?_
  refine lv_pop hx hb dL_law_711 rfl ?_
  refine lv_aload_n hx hb dL_law_712 rfl (lv_at hl 1 rfl) ?_
  refine lv_aload_n hx hb dL_law_713 rfl (lv_at hl 3 rfl) ?_
  refine lv_iload_n hx hb dL_law_714 rfl (lv_at hl 0 rfl) ?_
  refine lv_iconst (v := 1) hx hb dL_law_715 (by decide) ?_
  refine lv_iadd hx hb dL_law_716 ?_
  refine lv_topi (fun v_35563 ev_35563 => ?_)
  have fv_35563 : v_35563.toInt = i.toInt + 1 := by rw [ev_35563]; exact ka_add (x := i.toInt) (y := 1) rfl (by decide) (by omega) (by omega)
  refine va_sld hx hb hX hbl hbA hS (ka_in (by omega) (by omega)) dL_law_717 ?_
  refine ka_top (w := .int z1) (congrArg Value.int (by rw [kp_cl (n := iN + 1) (by omega)]; exact ez1.symm)) ?_
  refine kz_RV (n := 1) C (cg_X7_count_280 l D (kz_F Z tz) qm z1 qm0 qzm_1 qm2 qm3 qm4 qm5 qm6 qm7 qm8 qzm_9 qzm_10 qzm_11 qzm_12 qzm_13 qzm_14 qzm_15 qm16 qm17 qm18 qm19 qm20 qm21 qzm_22 qzm_23 qzm_24 qzm_25 qzm_26 qzm_27 qkm2 qfm2 qkm6 qfm6 qkm8 qfm8 qkm16 qfm16 qkm17 qfm17 ⟨by omega, by omega⟩ ⟨by omega, by omega⟩ ⟨by omega, by omega⟩ ⟨by omega, by omega⟩ ⟨by omega, by omega⟩ ⟨by omega, by omega⟩ ⟨by omega, by omega⟩ ⟨by omega, by omega⟩ ⟨by omega, by omega⟩ ⟨by omega, by omega⟩ hqfm8) gL_law_X7_count rfl (by decide +kernel) ⟨Nat.le_of_ble_eq_true rfl, Nat.le_of_ble_eq_true rfl⟩ hK hP hD hS hE hN [30, 32, 36, 38, 39, 40] rfl [20, 24, 26, 27, 28] rfl (ci := 7) rfl rfl 30 rfl rfl hl.1 (rest := []) rfl (Nat.le_of_ble_eq_true rfl) dL_law_718 ⟨show cells ≤ 600000 by omega, show slots ≤ 7302250 by omega⟩ (fun v hv => ?_)
  obtain ⟨v_35564, rfl⟩ := hv
  refine ka_stk (w := [.int v_35564]) rfl ?_
  refine lv_pop hx hb dL_law_721 rfl ?_
  refine lv_goto (tgt := 725) hx hb dL_law_722 (by decide) ?_
  refine W.widen (k := cells + 2) (n := slots + 122) (show cells ≤ cells + 2 by omega) (show slots ≤ slots + 122 by omega) ?_
  exact kk qzh_4 qzh_5 qzh_6 qzh_7 qzh_8 qztp_1 qfby qzrd_2 qzrd_3 qzrd_4 qzrd_5 qzrd_6 qzrd_7 qfou qzco_2 qfnd qzL0_2 qoL0 qft0 qpo0 qzL1_2 qoL1 qft1 qpo1 qzL2_2 qoL2 qft2 qpo2 qzL3_2 qoL3 qft3 qpo3 qzL4_2 qoL4 qft4 qpo4 qzL5_2 qoL5 qft5 qpo5 qztk_3 qztk_4 qztk_5 qztk_6 qztk_7 qztk_8 qfzo qfon qfsd qzm_1 qzm_9 qzm_10 qzm_11 qzm_12 qzm_13 qzm_14 qzm_15 qzm_22 qzm_23 qzm_24 qzm_25 qzm_26 qzm_27 qfm0 qfm2 qfm3 qfm4 qfm5 qfm6 qfm7 qfm8 qfm16 qfm17 qfm18 qfm19 qfm20 qfm21 Z tz ⟨by omega, by omega⟩ ⟨by omega, by omega⟩ hqfby ⟨by omega, by omega⟩ hqfou ⟨by omega, by omega⟩ hqoL0 hqpo0 ⟨by omega, by omega⟩ hqoL1 hqpo1 ⟨by omega, by omega⟩ hqoL2 hqpo2 ⟨by omega, by omega⟩ hqoL3 hqpo3 ⟨by omega, by omega⟩ hqoL4 hqpo4 ⟨by omega, by omega⟩ hqoL5 hqpo5 ⟨by omega, by omega⟩ ⟨by omega, by omega⟩ ⟨by omega, by omega⟩ ⟨by omega, by omega⟩ ⟨by omega, by omega⟩ ⟨by omega, by omega⟩ ⟨by omega, by omega⟩ ⟨by omega, by omega⟩ ⟨by omega, by omega⟩ ⟨by omega, by omega⟩ ⟨by omega, by omega⟩ hqfm0 hqfm3 hqfm4 hqfm8 hrel H locs (kz_subP hP [0, 1, 2, 3, 4, 5, 6, 7, 8, 9, 10, 11, 12, 13, 14, 15, 16, 17, 18, 19, 20, 21, 22, 23, 24, 25, 26, 27, 28, 29, 30, 31, 32, 33, 34, 35, 36, 37, 38, 39, 40, 41, 42, 43, 44] rfl) (kz_subD hD [0, 1, 2, 3, 4, 5, 6, 7, 8, 9, 10, 11, 12, 13, 14, 15, 16, 17, 18, 19, 20, 21, 22, 23, 24, 25, 26, 27, 28, 29, 30, 31, 32, 33, 34, 35, 36, 37, 38, 39, 40, 41, 42, 43, 44] (by decide) rfl) hK hS ls (lv_sub hl [0, 1, 2, 3] rfl)
