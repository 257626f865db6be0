/-! a formula that a call makes -/
def kb_New (zn : va_W) (tn : ka_Ty) (a : Nat) : Prop := ∃ (tr : Int32) (t : Nat) (k : ClassId) (n : Nat) (f : Nat → Int32), n ≤ 120 ∧ zn = [(a, .inr (1, [.int tr, .ref t])), (t, .inl (k, n, .inl f))] ∧ tn = [(k, .byte)]
theorem kb_upF {F : Nat → Prop} {po : Nat → Option Nat} {i q : Nat} (h : ∀ (j a : Nat), po j = some a → F a) : ∀ (j a : Nat), va_up po i (some q) j = some a → F a ∨ a = q := by
  intro j a e
  unfold va_up at e
  by_cases hj : j = i
  · rw [if_pos hj] at e
    cases e
    exact Or.inr rfl
  · rw [if_neg hj] at e
    exact Or.inl (h j a e)
