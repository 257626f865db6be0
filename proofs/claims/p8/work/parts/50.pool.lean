/-! the formulas as a list Z behind the explicit cells -/
def kz_F (Z : va_W) (tz : ka_Ty) (a : Nat) : Prop := ∃ (tr : Int32) (tx : Nat) (k : ClassId) (n : Nat) (f : Nat → Int32), n ≤ 120 ∧ (a, (Sum.inr (1, [.int tr, .ref tx]) : va_E)) ∈ Z ∧ (tx, (Sum.inl (k, n, .inl f) : va_E)) ∈ Z ∧ (k, FieldType.byte) ∈ tz
theorem kz_at {D : va_G} {E Z : va_W} {H : Heap} {q : Nat × va_E} (hP : va_P D vwCl (E ++ Z) H) (h : q ∈ Z) : va_at D vwCl q H := by
  obtain ⟨i, hi⟩ := List.mem_iff_getElem?.mp (List.mem_append_right E h)
  exact hP i q hi
theorem kz_out {A : Nat → Prop} {D : va_G} {E Z wc : va_W} {H : Heap} {q : Nat × va_E} (hP : va_P D vwCl (E ++ Z) H) (hD : va_D A (E ++ Z)) (isC : List Nat) (hC : isC.map (fun i => E[i]?) = wc.map some) (h : q ∈ Z) : ¬ va_A wc H.size q.1 := by
  rintro (⟨k, e, hk⟩ | hk)
  · have h1 : (wc.map some)[k]? = some (some (q.1, e)) := by rw [List.getElem?_map, hk]; rfl
    rw [← hC, List.getElem?_map] at h1
    obtain ⟨i, hi, hi2⟩ := Option.map_eq_some_iff.mp h1
    obtain ⟨j, hj⟩ := List.mem_iff_getElem?.mp h
    have hiE : i < E.length := (List.getElem?_eq_some_iff.mp hi2).1
    have g1 : (E ++ Z)[i]? = some (q.1, e) := by rw [List.getElem?_append_left hiE]; exact hi2
    have g2 : (E ++ Z)[E.length + j]? = some q := by rw [List.getElem?_append_right (Nat.le_add_right _ _), Nat.add_sub_cancel_left]; exact hj
    have := hD.1 _ _ _ _ g1 g2 rfl
    omega
  · have := (kz_at hP h).lt
    omega
theorem kz_FP {A : Nat → Prop} {D : va_G} {E Z wc : va_W} {H : Heap} {s : State} {tys tz : ka_Ty} (hP : va_P D vwCl (E ++ Z) H) (hD : va_D A (E ++ Z)) (hK : va_K D vwCl (tys ++ tz) s) (isC : List Nat) (hC : isC.map (fun i => E[i]?) = wc.map some) : ka_FP D (kz_F Z tz) (va_A wc H.size) s H := by
  rintro a ⟨tr, tx, k, n, f, hn, h1, h2, h3⟩
  refine ⟨tr, tx, k, n, f, hn, fun i q hi => ?_, ⟨hK.1, fun i q hi => ?_⟩, kz_out hP hD isC hC h1, kz_out hP hD isC hC h2⟩
  · match i, hi with
    | 0, hi => cases hi; exact kz_at hP h1
    | 1, hi => cases hi; exact kz_at hP h2
    | i + 2, hi => simp at hi
  · match i, hi with
    | 0, hi =>
      cases hi
      obtain ⟨j, hj⟩ := List.mem_iff_getElem?.mp (List.mem_append_right tys h3)
      exact hK.2 j _ hj
    | i + 1, hi => simp at hi
/-- F grows with Z -/
theorem kz_F_mono {Z zn : va_W} {tz tn : ka_Ty} {a : Nat} (h : kz_F Z tz a) : kz_F (Z ++ zn) (tz ++ tn) a := by
  obtain ⟨tr, tx, k, n, f, hn, h1, h2, h3⟩ := h
  exact ⟨tr, tx, k, n, f, hn, List.mem_append_left _ h1, List.mem_append_left _ h2, List.mem_append_left _ h3⟩
theorem kz_F_new {Z zn : va_W} {tz tn : ka_Ty} {a : Nat} (h : kb_New zn tn a) : kz_F (Z ++ zn) (tz ++ tn) a := by
  obtain ⟨tr, t, k, n, f, hn, rfl, rfl⟩ := h
  exact ⟨tr, t, k, n, f, hn, List.mem_append_right _ List.mem_cons_self, List.mem_append_right _ (List.mem_cons_of_mem _ List.mem_cons_self), List.mem_append_right _ List.mem_cons_self⟩
