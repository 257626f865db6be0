/-! numbers and contents at general states -/
theorem kb_nb (v : Int32) : fits .byte (.int (vp_nar .byte v)) = true := by
  rw [vp_nar_byte]
  exact pk_fb v
theorem kb_rngU {f : Nat → Int32} {lo hi : Int} {k : Nat} {x : Int32} (h : ∀ j : Nat, lo ≤ (f j).toInt ∧ (f j).toInt ≤ hi) (h1 : lo ≤ x.toInt) (h2 : x.toInt ≤ hi) : ∀ j : Nat, lo ≤ (upd f k x j).toInt ∧ (upd f k x j).toInt ≤ hi := by
  intro j
  by_cases e : j = k
  · rw [e, pk_us]
    exact ⟨h1, h2⟩
  · rw [pk_un e]
    exact h j
def kb_ltv : Nat → Int32 := fun j => match j with | 0 => (-1431655766) | 1 => (-858993460) | 2 => (-252645136) | 3 => (-16711936) | _ => (-65536)
theorem kb_lt_eq (j : Nat) : ka_lt j = .int (kb_ltv j) := by
  match j with
  | 0 => rfl
  | 1 => rfl
  | 2 => rfl
  | 3 => rfl
  | _ + 4 => rfl
theorem kb_max (a b : Int32) : a.toInt ≤ (if a < b then b else a).toInt ∧ b.toInt ≤ (if a < b then b else a).toInt ∧ ((if a < b then b else a).toInt = a.toInt ∨ (if a < b then b else a).toInt = b.toInt) := by
  by_cases h : a < b
  · rw [if_pos h]
    rw [ka_lt'] at h
    omega
  · rw [if_neg h]
    rw [ka_lt'] at h
    omega
theorem kb_min (a b : Int32) : (if b < a then b else a).toInt ≤ a.toInt ∧ (if b < a then b else a).toInt ≤ b.toInt ∧ ((if b < a then b else a).toInt = a.toInt ∨ (if b < a then b else a).toInt = b.toInt) := by
  by_cases h : b < a
  · rw [if_pos h]
    rw [ka_lt'] at h
    omega
  · rw [if_neg h]
    rw [ka_lt'] at h
    omega
theorem kb_cpb {sp n : Int32} {n0 : Nat} (h1 : sp.toInt + n.toInt ≤ n0) (h0 : 0 ≤ sp.toInt ∧ 0 ≤ n.toInt) : sp.toNatClampNeg + n.toNatClampNeg ≤ n0 := by
  unfold Int32.toNatClampNeg
  omega
theorem kb_shr1 (a : Int32) : (a >>> ((1 : Int32) &&& 31)).toInt = a.toInt / 2 := by
  rw [pk_shr a _ 1 (by decide), Int.shiftRight_eq_div_pow]
  rfl
