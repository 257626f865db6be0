/-! calls out of the law's body: explicit cells E, the formulas Z behind them -/
theorem kz_PE {D : va_G} {E Z : va_W} {H : Heap} (h : va_P D vwCl (E ++ Z) H) : va_P D vwCl E H := fun i q hi => h i q (by rw [List.getElem?_append_left (List.getElem?_eq_some_iff.mp hi).1]; exact hi)
theorem kz_PZ {D : va_G} {E Z : va_W} {H : Heap} (h : va_P D vwCl (E ++ Z) H) : va_P D vwCl Z H := fun i q hi => h (E.length + i) q (by rw [List.getElem?_append_right (Nat.le_add_right _ _), Nat.add_sub_cancel_left]; exact hi)
theorem kz_DE {A : Nat → Prop} {E Z : va_W} (h : va_D A (E ++ Z)) : va_D A E := by
  have g : ∀ (i : Nat) (q : Nat × va_E), E[i]? = some q → (E ++ Z)[i]? = some q := fun i q hi => by rw [List.getElem?_append_left (List.getElem?_eq_some_iff.mp hi).1]; exact hi
  exact ⟨fun i j p q hi hj => h.1 i j p q (g i p hi) (g j q hj), fun k q hk => h.2 k q (g k q hk)⟩
theorem kz_DZ {A : Nat → Prop} {E Z : va_W} (h : va_D A (E ++ Z)) : va_D A Z := by
  have g : ∀ (i : Nat) (q : Nat × va_E), Z[i]? = some q → (E ++ Z)[E.length + i]? = some q := fun i q hi => by rw [List.getElem?_append_right (Nat.le_add_right _ _), Nat.add_sub_cancel_left]; exact hi
  exact ⟨fun i j p q hi hj e => Nat.add_left_cancel (h.1 _ _ p q (g i p hi) (g j q hj) e), fun k q hk => h.2 _ q (g k q hk)⟩
theorem kz_KE {D : va_G} {tys tz : ka_Ty} {s : State} (h : va_K D vwCl (tys ++ tz) s) : va_K D vwCl tys s := ⟨h.1, fun i q hi => h.2 i q (by rw [List.getElem?_append_left (List.getElem?_eq_some_iff.mp hi).1]; exact hi)⟩
section KZ
variable {p : Program} {l : Launch} {e : Env} {R : Room} {s : State} {m : MethodId} {args : Array Value} {below : List Frame} {meth : Method} {c : Code} {H : Heap} {locs : List Loc} {cells slots : Nat} {Q : State → Prop} {cc : ByteArray} {pc nL : Nat} {ls : Array Slot} {rest st0 : List Value} {D : va_G} {A : Nat → Prop} {E Z : va_W} {tys tz : ka_Ty} {wc wr : va_W} {tc : ka_Ty}
theorem kz_preE {as : List Value} (hK : va_K D vwCl (tys ++ tz) s) (hP : va_P D vwCl (E ++ Z) H) (hD : va_D A (E ++ Z)) (hS : va_S A s.heap H locs) (hF : ∀ q, va_A wc H.size q → A q) (hT0 : ka_SE D (fun _ => False) A s s.heap) (hN : ka_NW s) (isC : List Nat) (hC : isC.map (fun i => E[i]?) = wc.map some) (hnd : va_nd isC = true) (isT : List Nat) (hT : isT.filterMap (fun i => tys[i]?) = tc) : ∀ U : State, U.heap = H → s.WarmedH U.vm → va_Pc as (ka_PreE D (kz_F Z tz) wc tc H.size) as.toArray U := fun U hU hW =>
  ⟨rfl, by rw [hU], by rw [hU]; exact (kz_PE hP).sub isC (by
      have h1 := congrArg (List.filterMap id) hC
      simpa [List.filterMap_map, Function.comp_def] using h1), va_K.moved hW.alike ((kz_KE hK).sub isT hT), ((kz_DE hD).sub isC hnd hC).weaken (fun _ _ _ _ => trivial), by rw [hU]; exact ⟨(ka_SE_narrow (ka_SE_moved hW.alike (ka_SE_kept hT0 hS.2.1)) hF).1, ka_FP_moved hW.alike (kz_FP hP hD hK isC hC)⟩, ka_NW_warm hW hN⟩
theorem kz_join {H1 : Heap} {wo : va_W} (hP : va_P D vwCl (E ++ Z) H) (hD : va_D A (E ++ Z)) (isC isR : List Nat) (hC : isC.map (fun i => E[i]?) = wc.map some) (hR : isR.map (fun i => E[i]?) = wr.map some) (hn : va_nd isR = true) (hdis : ∀ i ∈ isR, i ∉ isC) (hk : ∀ q : Nat, q < H.size → ¬ va_A wc H.size q → H1[q]? = H[q]?) (hA : ∀ q, H.size ≤ q → A q) (hP1 : va_P D vwCl wo H1) (hD1 : va_D (va_A wc H.size) wo) : va_P D vwCl ((wr ++ wo) ++ Z) H1 ∧ va_D A ((wr ++ wo) ++ Z) := by
  have hsub : ∀ q, va_A wc H.size q → va_A (wc ++ Z) H.size q := fun q h => by
    rcases h with ⟨k, e, hk⟩ | h
    · exact Or.inl ⟨k, e, by rw [List.getElem?_append_left (List.getElem?_eq_some_iff.mp hk).1]; exact hk⟩
    · exact Or.inr h
  have hZA : ∀ (k : Nat) (q : Nat × va_E), Z[k]? = some q → va_A (wc ++ Z) H.size q.1 := fun k q h => Or.inl ⟨wc.length + k, q.2, by rw [List.getElem?_append_right (Nat.le_add_right _ _), Nat.add_sub_cancel_left]; exact h⟩
  have hout : ∀ (k : Nat) (q : Nat × va_E), Z[k]? = some q → ¬ va_A wc H.size q.1 := fun k q h => kz_out hP hD isC hC (List.mem_of_getElem? h)
  have hPZ : va_P D vwCl Z H1 := (kz_PZ hP).kept (fun k q h => hk _ (kz_PZ hP k q h).lt (hout k q h))
  have hDZ : va_D (va_A (wc ++ Z) H.size) Z := ⟨(kz_DZ hD).1, hZA⟩
  have jD : va_D (va_A (wc ++ Z) H.size) (wo ++ Z) := (hD1.weaken (fun _ _ _ h => hsub _ h)).app hDZ (fun i j p q hi hj e => hout j q hj (by rw [← e]; exact hD1.2 i p hi))
  refine va_joinP hP hD isC isR hC hR hn hdis (fun q h1 h2 => hk q h1 (fun z => h2 (hsub q z))) (fun q h => ?_) (hP1.app hPZ) jD
  rcases h with ⟨k, e, hk⟩ | h
  · by_cases hlt : k < wc.length
    · rw [List.getElem?_append_left hlt] at hk
      have h1 : (wc.map some)[k]? = some (some (q, e)) := by rw [List.getElem?_map, hk]; rfl
      rw [← hC, List.getElem?_map] at h1
      obtain ⟨i, -, hi2⟩ := Option.map_eq_some_iff.mp h1
      exact (kz_DE hD).2 i _ hi2
    · rw [List.getElem?_append_right (Nat.le_of_not_lt hlt)] at hk
      exact (kz_DZ hD).2 _ _ hk
  · exact hA q h
end KZ
