theorem lq_327 : Cond.instantiable RX0 3 ∈ wsL_law := by decide +kernel
theorem lq_328 : Cond.instantiable RX2 4 ∈ wsL_law := by decide +kernel
theorem lq_329 : Cond.instantiable RX3 8 ∈ wsL_law := by decide +kernel
theorem lq_330 : Cond.instantiable RX4 9 ∈ wsL_law := by decide +kernel
theorem lq_331 : Cond.instantiable RX5 2 ∈ wsL_law := by decide +kernel
theorem lq_332 : Cond.instantiable RX1 2 ∈ wsL_law := by decide +kernel
set_option maxHeartbeats 8000000 in
set_option maxRecDepth 100000 in
theorem whole_start {p : Program} {e : Env} {s : State} {m : MethodId} {below : List Frame} {meth : Method} {c : Code} (l : Launch) {b L : Nat} {xs : Nat → Int32} (hL : L ≤ 6) (C0 : lw_At p s m meth c b L xs) : W p l e room_1 s m #[Value.ref b] below meth c s.heap [] 0 0 (lw_Z below #[Value.ref b] s) (entryFrame m ([Value.ref b] : List Value).toArray 4) := by
  obtain ⟨hx, hb, hr, hml, hown, hts, hX, hbl, hlk, hgv⟩ := id C0
  obtain ⟨A, hAe⟩ : ∃ A : Nat → Prop, A = fun q => s.heap.size ≤ q := ⟨_, rfl⟩
  have hA : ∀ q, s.heap.size ≤ q → A q := fun q h => by rw [hAe]; exact h
  have hnA : ∀ q, q < s.heap.size → ¬ A q := fun q h => by rw [hAe]; exact Nat.not_le.mpr h
  have hbA : ¬ A b := hnA b hbl
  have hE : ka_SE A s s.heap := ka_SE_start hts hgv hnA
  have hN : ka_NW s := ka_NW_start hts
  have hts : ∀ w ∈ wsL_law, w.before #[Value.ref b] s = true := fun w h => hts w (wsL_law_in w h)
  obtain ⟨c0, iS0, hKn0⟩ := u_known (C := RX0) (T := TX0) (N := 3) (n := 3) hts inlX0 (hts _ lq_327)
  obtain ⟨c2, iS2, hKn2⟩ := u_known (C := RX2) (T := TX2) (N := 4) (n := 4) hts inlX2 (hts _ lq_328)
  obtain ⟨c3, iS3, hKn3⟩ := u_known (C := RX3) (T := TX3) (N := 8) (n := 8) hts inlX3 (hts _ lq_329)
  obtain ⟨c4, iS4, hKn4⟩ := u_known (C := RX4) (T := TX4) (N := 9) (n := 9) hts inlX4 (hts _ lq_330)
  obtain ⟨c5, iS5, hKn5⟩ := u_known (C := RX5) (T := TX5) (N := 2) (n := 2) hts inlX5 (hts _ lq_331)
  obtain ⟨c6, iS6, hKn6⟩ := u_known (C := RX6) (T := TX6) (N := 9) (n := 9) hts inlX6 (hts _ lq_9)
  obtain ⟨c7, iS7, hKn7⟩ := u_known (C := RX7) (T := TX7) (N := 28) (n := 28) hts inlX7 (hts _ lq_106)
  obtain ⟨c1, iS1, hKn1⟩ := u_known (C := RX1) (T := TX1) (N := 2) (n := 2) hts inlX1 (hts _ lq_332)
  obtain ⟨D, hKc⟩ : ∃ D : va_G, ∀ (k : Nat) (q : vw_C), vwCl[k]? = some q → u_Kn s q.1 q.2.1 q.2.2 (D.1 k) (D.2 k) := by
    refine ⟨(fun k => match k with | 0 => c0 | 1 => c1 | 2 => c2 | 3 => c3 | 4 => c4 | 5 => c5 | 6 => c6 | _ => c7, fun k => match k with | 0 => iS0 | 1 => iS1 | 2 => iS2 | 3 => iS3 | 4 => iS4 | 5 => iS5 | 6 => iS6 | _ => iS7), ?_⟩
    intro k q hq
    match k, hq with
    | 0, hq => cases hq; exact hKn0
    | 1, hq => cases hq; exact hKn1
    | 2, hq => cases hq; exact hKn2
    | 3, hq => cases hq; exact hKn3
    | 4, hq => cases hq; exact hKn4
    | 5, hq => cases hq; exact hKn5
    | 6, hq => cases hq; exact hKn6
    | 7, hq => cases hq; exact hKn7
    | k + 8, hq => simp [vwCl] at hq
  have hS : va_S A s.heap s.heap [] := va_S.rf
  have hK : va_K D vwCl [] s := ⟨hKc, fun k q h => by simp at h⟩
  have hP : va_P D vwCl [] s.heap := fun k q h => by simp at h
  have hD : va_D A [] := ⟨fun i j p q h => by simp at h, fun k q h => by simp at h⟩
  have hl := lv_entry ([.ref b]) (n := 4) (Nat.le_of_ble_eq_true rfl)
  rw [lg_entry_eq]
  generalize (lg_sl ([.ref b]) ++ List.replicate (4 - (lg_sl ([.ref b])).length) Slot.unset).toArray = ls at hl ⊢
  have hl : lv_has ls 4 [(0, .ref b)] := hl
  have C : CallFix p m c cL_law 4 s #[Value.ref b] wsL_law RL := ⟨hx, hb, hml, hown, hts⟩
  refine va_new (ci := 6) (fs := [.null, .null, .null, .null, .int 0, .int 0, .int 0, .int 0, .int 0]) (C := RX6) (T := TX6) (N := 9) hx hb hts inlX6 tyX6 tyX6_ok hown (hts _ lq_8) (hts _ lq_9) (hts _ lq_10) hK hP hD hS hA rfl (fun j hj => by rcases (show j = 0 ∨ j = 1 ∨ j = 2 ∨ j = 3 ∨ j = 4 ∨ j = 5 ∨ j = 6 ∨ j = 7 ∨ j = 8 by omega) with rfl | rfl | rfl | rfl | rfl | rfl | rfl | rfl | rfl <;> rfl) (Nat.le_of_ble_eq_true rfl) (Nat.le_of_ble_eq_true rfl) dL_law_0 (fun q_1 H hP hD hS => ?_)
  have hP : va_P D vwCl [(q_1, .inr (6, [.null, .null, .null, .null, .int 0, .int 0, .int 0, .int 0, .int 0]))] H := hP
  have hD : va_D A [(q_1, .inr (6, [.null, .null, .null, .null, .int 0, .int 0, .int 0, .int 0, .int 0]))] := hD
  refine lv_dup hx hb dL_law_3 rfl ?_
  refine ka_EI (n := 0) (wr := []) C (ct_X6_init_6 l D q_1) gL_law_X6_init rfl lq_10 lq_103 lq_104 rfl (by decide +kernel) ⟨Nat.le_of_ble_eq_true rfl, Nat.le_of_ble_eq_true rfl⟩ hK hP hD hS hA hE hN [0] rfl (by decide) [] rfl (by decide) (by decide) [] rfl rfl hl.1 (rest := [.ref q_1]) rfl (Nat.le_of_ble_eq_true rfl) dL_law_4 ⟨Nat.le_of_ble_eq_true rfl, Nat.le_of_ble_eq_true rfl⟩ (fun u H locs _ hP hD hK hS => ?_)
  obtain ⟨q_386, q_387, q_388, q_389, q_390, k_391, q_392, q_393, q_394, k_395, q_396, q_397, q_398, q_399, q_400, q_401, k_402, q_403, q_404, q_405, q_406, q_407, q_408, q_409, q_410, q_411, q_412, q_413, q_414, q_415, q_416, q_417⟩ := u
  have hP : va_P D vwCl [(q_1, .inr (6, [.ref q_386, .ref q_387, .ref q_388, .ref q_389, .int (-1), .int (-1), .int 0, .int 3, .int 3])), (q_386, .inr (5, [.ref q_390, .int 0])), (q_390, .inl (k_391, 80, .inl (fun _ => 0))), (q_387, .inr (3, [.ref q_386, .ref q_392, .int 0, .int 0, .int 0, .int (-1), .int 3, .int 0])), (q_388, .inr (0, [.ref q_393, .ref q_394, .int 0])), (q_393, .inl (k_395, 6, .inr (.inr (.inr (.inr (va_up (va_up (va_up (va_up (va_up (va_up (fun _ => none) 0 (some q_396)) 1 (some q_397)) 2 (some q_398)) 3 (some q_399)) 4 (some q_400)) 5 (some q_401))))))), (q_394, .inl (k_402, 6, .inl (fun _ => 0))), (q_396, .inr (2, [.ref q_403, .ref q_404, .int 0, .null])), (q_397, .inr (2, [.ref q_405, .ref q_406, .int 0, .null])), (q_398, .inr (2, [.ref q_407, .ref q_408, .int 0, .null])), (q_399, .inr (2, [.ref q_409, .ref q_410, .int 0, .null])), (q_400, .inr (2, [.ref q_411, .ref q_412, .int 0, .null])), (q_401, .inr (2, [.ref q_413, .ref q_414, .int 0, .null])), (q_389, .inr (4, [.ref q_415, .ref q_416, .ref q_417, .int 0, .int 0, .int 0, .int 0, .int 0, .int 0]))] H := hP
  have hD : va_D A [(q_1, .inr (6, [.ref q_386, .ref q_387, .ref q_388, .ref q_389, .int (-1), .int (-1), .int 0, .int 3, .int 3])), (q_386, .inr (5, [.ref q_390, .int 0])), (q_390, .inl (k_391, 80, .inl (fun _ => 0))), (q_387, .inr (3, [.ref q_386, .ref q_392, .int 0, .int 0, .int 0, .int (-1), .int 3, .int 0])), (q_388, .inr (0, [.ref q_393, .ref q_394, .int 0])), (q_393, .inl (k_395, 6, .inr (.inr (.inr (.inr (va_up (va_up (va_up (va_up (va_up (va_up (fun _ => none) 0 (some q_396)) 1 (some q_397)) 2 (some q_398)) 3 (some q_399)) 4 (some q_400)) 5 (some q_401))))))), (q_394, .inl (k_402, 6, .inl (fun _ => 0))), (q_396, .inr (2, [.ref q_403, .ref q_404, .int 0, .null])), (q_397, .inr (2, [.ref q_405, .ref q_406, .int 0, .null])), (q_398, .inr (2, [.ref q_407, .ref q_408, .int 0, .null])), (q_399, .inr (2, [.ref q_409, .ref q_410, .int 0, .null])), (q_400, .inr (2, [.ref q_411, .ref q_412, .int 0, .null])), (q_401, .inr (2, [.ref q_413, .ref q_414, .int 0, .null])), (q_389, .inr (4, [.ref q_415, .ref q_416, .ref q_417, .int 0, .int 0, .int 0, .int 0, .int 0, .int 0]))] := hD
  have hK : va_K D vwCl [(k_391, .byte), (k_395, .object RX2), (k_402, .int)] s := hK
  refine ka_stk (w := [.ref q_1]) rfl ?_
  refine lv_astore_n (lv' := [(1, .ref q_1), (0, .ref b)]) hx hb dL_law_7 rfl hl (by decide) rfl (fun ls hl => ?_)
  refine va_new (ci := 7) (fs := [.null, .int 0, .null, .null, .null, .null, .null, .null, .null, .int 0, .int 0, .int 0, .int 0, .int 0, .int 0, .int 0, .null, .null, .null, .null, .null, .null, .int 0, .int 0, .int 0, .int 0, .int 0, .int 0]) (C := RX7) (T := TX7) (N := 28) hx hb hts inlX7 tyX7 tyX7_ok hown (hts _ lq_105) (hts _ lq_106) (hts _ lq_107) hK hP hD hS hA rfl (fun j hj => by rcases (show j = 0 ∨ j = 1 ∨ j = 2 ∨ j = 3 ∨ j = 4 ∨ j = 5 ∨ j = 6 ∨ j = 7 ∨ j = 8 ∨ j = 9 ∨ j = 10 ∨ j = 11 ∨ j = 12 ∨ j = 13 ∨ j = 14 ∨ j = 15 ∨ j = 16 ∨ j = 17 ∨ j = 18 ∨ j = 19 ∨ j = 20 ∨ j = 21 ∨ j = 22 ∨ j = 23 ∨ j = 24 ∨ j = 25 ∨ j = 26 ∨ j = 27 by omega) with rfl | rfl | rfl | rfl | rfl | rfl | rfl | rfl | rfl | rfl | rfl | rfl | rfl | rfl | rfl | rfl | rfl | rfl | rfl | rfl | rfl | rfl | rfl | rfl | rfl | rfl | rfl | rfl <;> rfl) (Nat.le_of_ble_eq_true rfl) (Nat.le_of_ble_eq_true rfl) dL_law_8 (fun q_418 H hP hD hS => ?_)
  have hP : va_P D vwCl [(q_1, .inr (6, [.ref q_386, .ref q_387, .ref q_388, .ref q_389, .int (-1), .int (-1), .int 0, .int 3, .int 3])), (q_386, .inr (5, [.ref q_390, .int 0])), (q_390, .inl (k_391, 80, .inl (fun _ => 0))), (q_387, .inr (3, [.ref q_386, .ref q_392, .int 0, .int 0, .int 0, .int (-1), .int 3, .int 0])), (q_388, .inr (0, [.ref q_393, .ref q_394, .int 0])), (q_393, .inl (k_395, 6, .inr (.inr (.inr (.inr (va_up (va_up (va_up (va_up (va_up (va_up (fun _ => none) 0 (some q_396)) 1 (some q_397)) 2 (some q_398)) 3 (some q_399)) 4 (some q_400)) 5 (some q_401))))))), (q_394, .inl (k_402, 6, .inl (fun _ => 0))), (q_396, .inr (2, [.ref q_403, .ref q_404, .int 0, .null])), (q_397, .inr (2, [.ref q_405, .ref q_406, .int 0, .null])), (q_398, .inr (2, [.ref q_407, .ref q_408, .int 0, .null])), (q_399, .inr (2, [.ref q_409, .ref q_410, .int 0, .null])), (q_400, .inr (2, [.ref q_411, .ref q_412, .int 0, .null])), (q_401, .inr (2, [.ref q_413, .ref q_414, .int 0, .null])), (q_389, .inr (4, [.ref q_415, .ref q_416, .ref q_417, .int 0, .int 0, .int 0, .int 0, .int 0, .int 0])), (q_418, .inr (7, [.null, .int 0, .null, .null, .null, .null, .null, .null, .null, .int 0, .int 0, .int 0, .int 0, .int 0, .int 0, .int 0, .null, .null, .null, .null, .null, .null, .int 0, .int 0, .int 0, .int 0, .int 0, .int 0]))] H := hP
  have hD : va_D A [(q_1, .inr (6, [.ref q_386, .ref q_387, .ref q_388, .ref q_389, .int (-1), .int (-1), .int 0, .int 3, .int 3])), (q_386, .inr (5, [.ref q_390, .int 0])), (q_390, .inl (k_391, 80, .inl (fun _ => 0))), (q_387, .inr (3, [.ref q_386, .ref q_392, .int 0, .int 0, .int 0, .int (-1), .int 3, .int 0])), (q_388, .inr (0, [.ref q_393, .ref q_394, .int 0])), (q_393, .inl (k_395, 6, .inr (.inr (.inr (.inr (va_up (va_up (va_up (va_up (va_up (va_up (fun _ => none) 0 (some q_396)) 1 (some q_397)) 2 (some q_398)) 3 (some q_399)) 4 (some q_400)) 5 (some q_401))))))), (q_394, .inl (k_402, 6, .inl (fun _ => 0))), (q_396, .inr (2, [.ref q_403, .ref q_404, .int 0, .null])), (q_397, .inr (2, [.ref q_405, .ref q_406, .int 0, .null])), (q_398, .inr (2, [.ref q_407, .ref q_408, .int 0, .null])), (q_399, .inr (2, [.ref q_409, .ref q_410, .int 0, .null])), (q_400, .inr (2, [.ref q_411, .ref q_412, .int 0, .null])), (q_401, .inr (2, [.ref q_413, .ref q_414, .int 0, .null])), (q_389, .inr (4, [.ref q_415, .ref q_416, .ref q_417, .int 0, .int 0, .int 0, .int 0, .int 0, .int 0])), (q_418, .inr (7, [.null, .int 0, .null, .null, .null, .null, .null, .null, .null, .int 0, .int 0, .int 0, .int 0, .int 0, .int 0, .int 0, .null, .null, .null, .null, .null, .null, .int 0, .int 0, .int 0, .int 0, .int 0, .int 0]))] := hD
  refine lv_dup hx hb dL_law_11 rfl ?_
  refine ka_EI (n := 0) (wr := [(q_1, .inr (6, [.ref q_386, .ref q_387, .ref q_388, .ref q_389, .int (-1), .int (-1), .int 0, .int 3, .int 3])), (q_386, .inr (5, [.ref q_390, .int 0])), (q_390, .inl (k_391, 80, .inl (fun _ => 0))), (q_387, .inr (3, [.ref q_386, .ref q_392, .int 0, .int 0, .int 0, .int (-1), .int 3, .int 0])), (q_388, .inr (0, [.ref q_393, .ref q_394, .int 0])), (q_393, .inl (k_395, 6, .inr (.inr (.inr (.inr (va_up (va_up (va_up (va_up (va_up (va_up (fun _ => none) 0 (some q_396)) 1 (some q_397)) 2 (some q_398)) 3 (some q_399)) 4 (some q_400)) 5 (some q_401))))))), (q_394, .inl (k_402, 6, .inl (fun _ => 0))), (q_396, .inr (2, [.ref q_403, .ref q_404, .int 0, .null])), (q_397, .inr (2, [.ref q_405, .ref q_406, .int 0, .null])), (q_398, .inr (2, [.ref q_407, .ref q_408, .int 0, .null])), (q_399, .inr (2, [.ref q_409, .ref q_410, .int 0, .null])), (q_400, .inr (2, [.ref q_411, .ref q_412, .int 0, .null])), (q_401, .inr (2, [.ref q_413, .ref q_414, .int 0, .null])), (q_389, .inr (4, [.ref q_415, .ref q_416, .ref q_417, .int 0, .int 0, .int 0, .int 0, .int 0, .int 0]))]) C (ct_X7_init_7 l D q_418) gL_law_X7_init rfl lq_107 lq_133 lq_134 rfl (by decide +kernel) ⟨Nat.le_of_ble_eq_true rfl, Nat.le_of_ble_eq_true rfl⟩ hK hP hD hS hA hE hN [14] rfl (by decide) [0, 1, 2, 3, 4, 5, 6, 7, 8, 9, 10, 11, 12, 13] rfl (by decide) (by decide) [] rfl rfl hl.1 (rest := [.ref q_418]) rfl (Nat.le_of_ble_eq_true rfl) dL_law_12 ⟨Nat.le_of_ble_eq_true rfl, Nat.le_of_ble_eq_true rfl⟩ (fun u H locs _ hP hD hK hS => ?_)
  obtain ⟨q_503, q_504, q_505, q_506, q_507, q_508, q_509, q_510, q_511, q_512, q_513, q_514, q_515, q_516, k_517, k_518, k_519, k_520, k_521⟩ := u
  have hP : va_P D vwCl [(q_1, .inr (6, [.ref q_386, .ref q_387, .ref q_388, .ref q_389, .int (-1), .int (-1), .int 0, .int 3, .int 3])), (q_386, .inr (5, [.ref q_390, .int 0])), (q_390, .inl (k_391, 80, .inl (fun _ => 0))), (q_387, .inr (3, [.ref q_386, .ref q_392, .int 0, .int 0, .int 0, .int (-1), .int 3, .int 0])), (q_388, .inr (0, [.ref q_393, .ref q_394, .int 0])), (q_393, .inl (k_395, 6, .inr (.inr (.inr (.inr (va_up (va_up (va_up (va_up (va_up (va_up (fun _ => none) 0 (some q_396)) 1 (some q_397)) 2 (some q_398)) 3 (some q_399)) 4 (some q_400)) 5 (some q_401))))))), (q_394, .inl (k_402, 6, .inl (fun _ => 0))), (q_396, .inr (2, [.ref q_403, .ref q_404, .int 0, .null])), (q_397, .inr (2, [.ref q_405, .ref q_406, .int 0, .null])), (q_398, .inr (2, [.ref q_407, .ref q_408, .int 0, .null])), (q_399, .inr (2, [.ref q_409, .ref q_410, .int 0, .null])), (q_400, .inr (2, [.ref q_411, .ref q_412, .int 0, .null])), (q_401, .inr (2, [.ref q_413, .ref q_414, .int 0, .null])), (q_389, .inr (4, [.ref q_415, .ref q_416, .ref q_417, .int 0, .int 0, .int 0, .int 0, .int 0, .int 0])), (q_418, .inr (7, [.ref q_503, .int 0, .ref q_504, .ref q_505, .ref q_506, .ref q_507, .ref q_508, .ref q_509, .ref q_510, .int (-1), .int 0, .int 3, .int 3, .int 0, .int 0, .int 0, .ref q_511, .ref q_512, .ref q_513, .ref q_514, .ref q_515, .ref q_516, .int 0, .int 0, .int 0, .int 0, .int (-1), .int 0])), (q_503, .inl (k_517, 80, .inl (fun _ => 0))), (q_507, .inl (k_518, 6, .inl (fun _ => 0))), (q_508, .inl (k_519, 6, .inl (fun _ => 0))), (q_509, .inl (k_520, 36, .inl (fun _ => 0))), (q_510, .inl (k_521, 6, .inl (fun _ => 0)))] H := hP
  have hD : va_D A [(q_1, .inr (6, [.ref q_386, .ref q_387, .ref q_388, .ref q_389, .int (-1), .int (-1), .int 0, .int 3, .int 3])), (q_386, .inr (5, [.ref q_390, .int 0])), (q_390, .inl (k_391, 80, .inl (fun _ => 0))), (q_387, .inr (3, [.ref q_386, .ref q_392, .int 0, .int 0, .int 0, .int (-1), .int 3, .int 0])), (q_388, .inr (0, [.ref q_393, .ref q_394, .int 0])), (q_393, .inl (k_395, 6, .inr (.inr (.inr (.inr (va_up (va_up (va_up (va_up (va_up (va_up (fun _ => none) 0 (some q_396)) 1 (some q_397)) 2 (some q_398)) 3 (some q_399)) 4 (some q_400)) 5 (some q_401))))))), (q_394, .inl (k_402, 6, .inl (fun _ => 0))), (q_396, .inr (2, [.ref q_403, .ref q_404, .int 0, .null])), (q_397, .inr (2, [.ref q_405, .ref q_406, .int 0, .null])), (q_398, .inr (2, [.ref q_407, .ref q_408, .int 0, .null])), (q_399, .inr (2, [.ref q_409, .ref q_410, .int 0, .null])), (q_400, .inr (2, [.ref q_411, .ref q_412, .int 0, .null])), (q_401, .inr (2, [.ref q_413, .ref q_414, .int 0, .null])), (q_389, .inr (4, [.ref q_415, .ref q_416, .ref q_417, .int 0, .int 0, .int 0, .int 0, .int 0, .int 0])), (q_418, .inr (7, [.ref q_503, .int 0, .ref q_504, .ref q_505, .ref q_506, .ref q_507, .ref q_508, .ref q_509, .ref q_510, .int (-1), .int 0, .int 3, .int 3, .int 0, .int 0, .int 0, .ref q_511, .ref q_512, .ref q_513, .ref q_514, .ref q_515, .ref q_516, .int 0, .int 0, .int 0, .int 0, .int (-1), .int 0])), (q_503, .inl (k_517, 80, .inl (fun _ => 0))), (q_507, .inl (k_518, 6, .inl (fun _ => 0))), (q_508, .inl (k_519, 6, .inl (fun _ => 0))), (q_509, .inl (k_520, 36, .inl (fun _ => 0))), (q_510, .inl (k_521, 6, .inl (fun _ => 0)))] := hD
  have hK : va_K D vwCl [(k_391, .byte), (k_395, .object RX2), (k_402, .int), (k_517, .byte), (k_518, .boolean), (k_519, .boolean), (k_520, .boolean), (k_521, .int)] s := hK
  refine ka_stk (w := [.ref q_418]) rfl ?_
  refine lv_astore_n (lv' := [(2, .ref q_418), (1, .ref q_1), (0, .ref b)]) hx hb dL_law_15 rfl hl (by decide) rfl (fun ls hl => ?_)
  refine lv_iconst (v := 0) hx hb dL_law_16 (by decide) ?_
  refine lv_istore_n (lv' := [(3, .int 0), (2, .ref q_418), (1, .ref q_1), (0, .ref b)]) hx hb dL_law_17 rfl hl (by decide) rfl (fun ls hl => ?_)
  refine W.widen (k := 45) (n := 6605) (Nat.le_of_ble_eq_true rfl) (Nat.le_of_ble_eq_true rfl) ?_
  rcases (show L < 6 ∨ L = 6 by omega) with hL6 | rfl
  · obtain ⟨zl, ezl⟩ : ∃ y : Int32, y = Int32.ofNat L := ⟨_, rfl⟩
    have fzl : zl.toInt = L := by rw [ezl]; exact nI_toInt (by omega)
    refine lv_iload_n hx hb dL_law_18 rfl (lv_at hl 0 rfl) ?_
    refine lv_aload_n hx hb dL_law_19 rfl (lv_at hl 3 rfl) ?_
    refine va_slen hx hb hX hbl hbA hS dL_law_20 ?_
    refine ka_top (w := .int zl) (congrArg Value.int ezl.symm) ?_
    refine lv_bipush (v := 6) hx hb dL_law_21 (by decide) ?_
    refine lv_isub hx hb dL_law_23 ?_
    refine lv_topi (fun v_522 ev_522 => ?_)
    have fv_522 : v_522.toInt = zl.toInt - 6 := by rw [ev_522]; exact ka_sub (x := zl.toInt) (y := 6) rfl (by decide) (by omega) (by omega)
    refine lv_icmp_gt (tgt := 731) hx hb dL_law_24 (by decide) (fun _ => ?_) (fun c_ => absurd (by rw [ka_lt', show ((0 : Int32)).toInt = 0 from by decide]; omega) c_)
    refine lv_iconst (v := 1) hx hb dL_law_731 (by decide) ?_
    refine va_forget (fun q hq => by have h9 := hS.2.2 q hq; rw [hAe] at h9; exact h9) ?_
    refine W.widen (k := 600000) (n := 7302250) (Nat.le_of_ble_eq_true rfl) (Nat.le_of_ble_eq_true rfl) ?_
    exact lw_ret hx hb hr hlk dL_law_732
  · obtain ⟨z0, ez0⟩ : ∃ y : Int32, y = xs 0 := ⟨_, rfl⟩
    refine lv_iload_n hx hb dL_law_18 rfl (lv_at hl 0 rfl) ?_
    refine lv_aload_n hx hb dL_law_19 rfl (lv_at hl 3 rfl) ?_
    refine va_slen hx hb hX hbl hbA hS dL_law_20 ?_
    refine ka_top (w := .int 6) (congrArg Value.int rfl) ?_
    refine lv_bipush (v := 6) hx hb dL_law_21 (by decide) ?_
    refine lv_isub hx hb dL_law_23 ?_
    refine ka_top (w := .int 0) (congrArg Value.int (by decide)) ?_
    refine lv_icmp_gt (tgt := 731) hx hb dL_law_24 (by decide) (fun c_ => absurd c_ (by decide)) (fun _ => ?_)
    refine lv_aload_n hx hb dL_law_27 rfl (lv_at hl 3 rfl) ?_
    refine lv_iload_n hx hb dL_law_28 rfl (lv_at hl 0 rfl) ?_
    refine va_sld hx hb hX hbl hbA hS (ka_in (by decide) (by decide)) dL_law_29 ?_
    refine ka_top (w := .int z0) (congrArg Value.int ez0.symm) ?_
    refine lv_bipush (v := 31) hx hb dL_law_30 (by decide) ?_
    refine lv_iand hx hb dL_law_32 ?_
    refine lv_topi (fun v_523 ev_523 => ?_)
    have fv_523 : 0 ≤ v_523.toInt ∧ v_523.toInt ≤ 31 := by rw [ev_523]; exact ka_and31 z0
    rcases (show v_523.toInt = 0 ∨ v_523.toInt = 1 ∨ v_523.toInt = 2 ∨ v_523.toInt = 3 ∨ v_523.toInt = 4 ∨ v_523.toInt = 5 ∨ v_523.toInt = 6 ∨ v_523.toInt = 7 ∨ v_523.toInt = 8 ∨ v_523.toInt = 9 ∨ v_523.toInt = 10 ∨ v_523.toInt = 11 ∨ v_523.toInt = 12 ∨ v_523.toInt = 13 ∨ v_523.toInt = 14 ∨ v_523.toInt = 15 ∨ v_523.toInt = 16 ∨ v_523.toInt = 17 ∨ v_523.toInt = 18 ∨ v_523.toInt = 19 ∨ v_523.toInt = 20 ∨ 21 ≤ v_523.toInt by omega) with hsw | hsw | hsw | hsw | hsw | hsw | hsw | hsw | hsw | hsw | hsw | hsw | hsw | hsw | hsw | hsw | hsw | hsw | hsw | hsw | hsw | hsw
    · obtain rfl : v_523 = 0 := (ka_eq' _ _).mpr (hsw.trans (by decide))
      refine lv_tableIn (off := 99) (tgt := 132) hx hb dL_law_33 (by decide) (by decide) (by decide) (by decide) ?_
      exact lc_0 C hr hlk hX hbl hAe hK hP hD hS hE hN hl
    · obtain rfl : v_523 = 1 := (ka_eq' _ _).mpr (hsw.trans (by decide))
      refine lv_tableIn (off := 162) (tgt := 195) hx hb dL_law_33 (by decide) (by decide) (by decide) (by decide) ?_
      exact lc_1 C hr hlk hX hbl hAe hK hP hD hS hE hN hl
    · obtain rfl : v_523 = 2 := (ka_eq' _ _).mpr (hsw.trans (by decide))
      refine lv_tableIn (off := 195) (tgt := 228) hx hb dL_law_33 (by decide) (by decide) (by decide) (by decide) ?_
      exact lc_2 C hr hlk hX hbl hAe hK hP hD hS hE hN hl
    · obtain rfl : v_523 = 3 := (ka_eq' _ _).mpr (hsw.trans (by decide))
      refine lv_tableIn (off := 228) (tgt := 261) hx hb dL_law_33 (by decide) (by decide) (by decide) (by decide) ?_
      exact lc_3 C hr hlk hX hbl hAe hK hP hD hS hE hN hl
    · obtain rfl : v_523 = 4 := (ka_eq' _ _).mpr (hsw.trans (by decide))
      refine lv_tableIn (off := 241) (tgt := 274) hx hb dL_law_33 (by decide) (by decide) (by decide) (by decide) ?_
      exact lc_4 C hr hlk hX hbl hAe hK hP hD hS hE hN hl
    · obtain rfl : v_523 = 5 := (ka_eq' _ _).mpr (hsw.trans (by decide))
      refine lv_tableIn (off := 284) (tgt := 317) hx hb dL_law_33 (by decide) (by decide) (by decide) (by decide) ?_
      exact lc_5 C hr hlk hX hbl hAe hK hP hD hS hE hN hl
    · obtain rfl : v_523 = 6 := (ka_eq' _ _).mpr (hsw.trans (by decide))
      refine lv_tableIn (off := 327) (tgt := 360) hx hb dL_law_33 (by decide) (by decide) (by decide) (by decide) ?_
      exact lc_6 C hr hlk hX hbl hAe hK hP hD hS hE hN hl
    · obtain rfl : v_523 = 7 := (ka_eq' _ _).mpr (hsw.trans (by decide))
      refine lv_tableIn (off := 360) (tgt := 393) hx hb dL_law_33 (by decide) (by decide) (by decide) (by decide) ?_
      exact lc_7 C hr hlk hX hbl hAe hK hP hD hS hE hN hl
    · obtain rfl : v_523 = 8 := (ka_eq' _ _).mpr (hsw.trans (by decide))
      refine lv_tableIn (off := 373) (tgt := 406) hx hb dL_law_33 (by decide) (by decide) (by decide) (by decide) ?_
      exact lc_8 C hr hlk hX hbl hAe hK hP hD hS hE hN hl
    · obtain rfl : v_523 = 9 := (ka_eq' _ _).mpr (hsw.trans (by decide))
      refine lv_tableIn (off := 396) (tgt := 429) hx hb dL_law_33 (by decide) (by decide) (by decide) (by decide) ?_
      exact lc_9 C hr hlk hX hbl hAe hK hP hD hS hE hN hl
    · obtain rfl : v_523 = 10 := (ka_eq' _ _).mpr (hsw.trans (by decide))
      refine lv_tableIn (off := 429) (tgt := 462) hx hb dL_law_33 (by decide) (by decide) (by decide) (by decide) ?_
      exact lc_10 C hr hlk hX hbl hAe hK hP hD hS hE hN hl
    · obtain rfl : v_523 = 11 := (ka_eq' _ _).mpr (hsw.trans (by decide))
      refine lv_tableIn (off := 462) (tgt := 495) hx hb dL_law_33 (by decide) (by decide) (by decide) (by decide) ?_
      exact lc_11 C hr hlk hX hbl hAe hK hP hD hS hE hN hl
    · obtain rfl : v_523 = 12 := (ka_eq' _ _).mpr (hsw.trans (by decide))
      refine lv_tableIn (off := 495) (tgt := 528) hx hb dL_law_33 (by decide) (by decide) (by decide) (by decide) ?_
      exact lc_12 C hr hlk hX hbl hAe hK hP hD hS hE hN hl
    · obtain rfl : v_523 = 13 := (ka_eq' _ _).mpr (hsw.trans (by decide))
      refine lv_tableIn (off := 508) (tgt := 541) hx hb dL_law_33 (by decide) (by decide) (by decide) (by decide) ?_
      exact lc_13 C hr hlk hX hbl hAe hK hP hD hS hE hN hl
    · obtain rfl : v_523 = 14 := (ka_eq' _ _).mpr (hsw.trans (by decide))
      refine lv_tableIn (off := 521) (tgt := 554) hx hb dL_law_33 (by decide) (by decide) (by decide) (by decide) ?_
      exact lc_14 C hr hlk hX hbl hAe hK hP hD hS hE hN hl
    · obtain rfl : v_523 = 15 := (ka_eq' _ _).mpr (hsw.trans (by decide))
      refine lv_tableIn (off := 544) (tgt := 577) hx hb dL_law_33 (by decide) (by decide) (by decide) (by decide) ?_
      exact lc_15 C hr hlk hX hbl hAe hK hP hD hS hE hN hl
    · obtain rfl : v_523 = 16 := (ka_eq' _ _).mpr (hsw.trans (by decide))
      refine lv_tableIn (off := 567) (tgt := 600) hx hb dL_law_33 (by decide) (by decide) (by decide) (by decide) ?_
      exact lc_16 C hr hlk hX hbl hAe hK hP hD hS hE hN hl
    · obtain rfl : v_523 = 17 := (ka_eq' _ _).mpr (hsw.trans (by decide))
      refine lv_tableIn (off := 590) (tgt := 623) hx hb dL_law_33 (by decide) (by decide) (by decide) (by decide) ?_
      exact lc_17 C hr hlk hX hbl hAe hK hP hD hS hE hN hl
    · obtain rfl : v_523 = 18 := (ka_eq' _ _).mpr (hsw.trans (by decide))
      refine lv_tableIn (off := 613) (tgt := 646) hx hb dL_law_33 (by decide) (by decide) (by decide) (by decide) ?_
      exact lc_18 C hr hlk hX hbl hAe hK hP hD hS hE hN hl
    · obtain rfl : v_523 = 19 := (ka_eq' _ _).mpr (hsw.trans (by decide))
      refine lv_tableIn (off := 636) (tgt := 669) hx hb dL_law_33 (by decide) (by decide) (by decide) (by decide) ?_
      exact lc_19 C hr hlk hX hbl hAe hK hP hD hS hE hN hl
    · obtain rfl : v_523 = 20 := (ka_eq' _ _).mpr (hsw.trans (by decide))
      refine lv_tableIn (off := 669) (tgt := 702) hx hb dL_law_33 (by decide) (by decide) (by decide) (by decide) ?_
      exact lc_20 C hr hlk hX hbl hAe hK hP hD hS hE hN hl
    · skip
      refine lv_tableOut (tgt := 725) hx hb dL_law_33 (by omega) (by decide) ?_
      refine lv_iinc (v := 6) (lv' := [(3, .int 6), (2, .ref q_418), (1, .ref q_1), (0, .ref b)]) hx hb dL_law_725 hl (k := 0) rfl (by decide) (by decide) rfl (fun ls hl => ?_)
      refine lv_goto (tgt := 18) hx hb dL_law_728 (by decide) ?_
      refine lv_iload_n hx hb dL_law_18 rfl (lv_at hl 0 rfl) ?_
      refine lv_aload_n hx hb dL_law_19 rfl (lv_at hl 3 rfl) ?_
      refine va_slen hx hb hX hbl hbA hS dL_law_20 ?_
      refine ka_top (w := .int 6) (congrArg Value.int rfl) ?_
      refine lv_bipush (v := 6) hx hb dL_law_21 (by decide) ?_
      refine lv_isub hx hb dL_law_23 ?_
      refine ka_top (w := .int 0) (congrArg Value.int (by decide)) ?_
      refine lv_icmp_gt (tgt := 731) hx hb dL_law_24 (by decide) (fun _ => ?_) (fun c_ => absurd (by decide) c_)
      refine lv_iconst (v := 1) hx hb dL_law_731 (by decide) ?_
      refine va_forget (fun q hq => by have h9 := hS.2.2 q hq; rw [hAe] at h9; exact h9) ?_
      refine W.widen (k := 600000) (n := 7302250) (Nat.le_of_ble_eq_true rfl) (Nat.le_of_ble_eq_true rfl) ?_
      exact lw_ret hx hb hr hlk dL_law_732
