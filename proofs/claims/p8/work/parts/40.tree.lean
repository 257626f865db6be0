/-! the reference's nodes as trees: what is written of a node, and how long it is -/
def kt_br (b : Nat → Int32) (a : Nat) (c : Int) : Nat := if (b a).toInt < c then 2 else 0
/-- with fuel g: the node n stands for a tree whose text, without brackets around it, has w bytes -/
def kt_T (b l r : Nat → Int32) : Nat → Nat → Nat → Prop
  | 0, _, _ => False
  | g + 1, n, w => ((b n).toInt = 5 ∧ w = 1) ∨ ((b n).toInt = 4 ∧ ∃ a x : Nat, (l n).toInt = (a : Int) ∧ a < n ∧ kt_T b l r g a x ∧ w = 1 + (x + kt_br b a 4)) ∨ (1 ≤ (b n).toInt ∧ (b n).toInt ≤ 3 ∧ ∃ a x d y : Nat, (l n).toInt = (a : Int) ∧ a < n ∧ kt_T b l r g a x ∧ (r n).toInt = (d : Int) ∧ d < n ∧ kt_T b l r g d y ∧ w = 1 + (x + kt_br b a (b n).toInt) + (y + kt_br b d (b n).toInt))
def kt_ok (b l r : Nat → Int32) (n w : Nat) : Prop := ∃ g : Nat, kt_T b l r g n w
theorem kt_mono {b l r : Nat → Int32} : ∀ (g n w : Nat), kt_T b l r g n w → kt_T b l r (g + 1) n w := by
  intro g
  induction g with
  | zero => intro n w h; exact h.elim
  | succ g ih =>
    intro n w h
    rcases h with h | ⟨h1, a, x, h2, h3, h4, h5⟩ | ⟨h1, h2, a, x, d, y, h3, h4, h5, h6, h7, h8, h9⟩
    · exact Or.inl h
    · exact Or.inr (Or.inl ⟨h1, a, x, h2, h3, ih a x h4, h5⟩)
    · exact Or.inr (Or.inr ⟨h1, h2, a, x, d, y, h3, h4, ih a x h5, h6, h7, ih d y h8, h9⟩)
theorem kt_more {b l r : Nat → Int32} {n w : Nat} : ∀ (k g : Nat), kt_T b l r g n w → kt_T b l r (g + k) n w := by
  intro k
  induction k with
  | zero => intro g h; exact h
  | succ k ih => intro g h; exact kt_mono _ _ _ (ih g h)
theorem kt_leaf {b l r : Nat → Int32} {n : Nat} (h : (b n).toInt = 5) : kt_ok b l r n 1 := ⟨1, Or.inl ⟨h, rfl⟩⟩
theorem kt_not {b l r : Nat → Int32} {n a x : Nat} (h : (b n).toInt = 4) (hl : (l n).toInt = (a : Int)) (ha : a < n) (hx : kt_ok b l r a x) : kt_ok b l r n (1 + (x + kt_br b a 4)) := by
  obtain ⟨g, hg⟩ := hx
  exact ⟨g + 1, Or.inr (Or.inl ⟨h, a, x, hl, ha, hg, rfl⟩)⟩
theorem kt_bin {b l r : Nat → Int32} {n a x d y : Nat} (h1 : 1 ≤ (b n).toInt) (h2 : (b n).toInt ≤ 3) (hl : (l n).toInt = (a : Int)) (ha : a < n) (hx : kt_ok b l r a x) (hr : (r n).toInt = (d : Int)) (hd : d < n) (hy : kt_ok b l r d y) : kt_ok b l r n (1 + (x + kt_br b a (b n).toInt) + (y + kt_br b d (b n).toInt)) := by
  obtain ⟨g, hg⟩ := hx
  obtain ⟨k, hk⟩ := hy
  refine ⟨g + k + 1, Or.inr (Or.inr ⟨h1, h2, a, x, d, y, hl, ha, kt_more k g hg, hr, hd, ?_, rfl⟩)⟩
  rw [Nat.add_comm g k]
  exact kt_more g k hk
theorem kt_inv {b l r : Nat → Int32} {n w : Nat} (h : kt_ok b l r n w) : ((b n).toInt = 5 ∧ w = 1) ∨ ((b n).toInt = 4 ∧ ∃ a x : Nat, (l n).toInt = (a : Int) ∧ a < n ∧ kt_ok b l r a x ∧ w = 1 + (x + kt_br b a 4)) ∨ (1 ≤ (b n).toInt ∧ (b n).toInt ≤ 3 ∧ ∃ a x d y : Nat, (l n).toInt = (a : Int) ∧ a < n ∧ kt_ok b l r a x ∧ (r n).toInt = (d : Int) ∧ d < n ∧ kt_ok b l r d y ∧ w = 1 + (x + kt_br b a (b n).toInt) + (y + kt_br b d (b n).toInt)) := by
  obtain ⟨g, hg⟩ := h
  cases g with
  | zero => exact hg.elim
  | succ g =>
    rcases hg with h | ⟨h1, a, x, h2, h3, h4, h5⟩ | ⟨h1, h2, a, x, d, y, h3, h4, h5, h6, h7, h8, h9⟩
    · exact Or.inl h
    · exact Or.inr (Or.inl ⟨h1, a, x, h2, h3, ⟨g, h4⟩, h5⟩)
    · exact Or.inr (Or.inr ⟨h1, h2, a, x, d, y, h3, h4, ⟨g, h5⟩, h6, h7, ⟨g, h8⟩, h9⟩)
/-- two heaps' nodes are the same below N -/
def kt_eq (N : Nat) (b l r b' l' r' : Nat → Int32) : Prop := ∀ j : Nat, j < N → b' j = b j ∧ l' j = l j ∧ r' j = r j
theorem kt_eq_rf {N : Nat} {b l r : Nat → Int32} : kt_eq N b l r b l r := fun _ _ => ⟨rfl, rfl, rfl⟩
theorem kt_eq_tr {N M : Nat} {b l r b' l' r' b2 l2 r2 : Nat → Int32} (h : kt_eq N b l r b' l' r') (hNM : N ≤ M) (h2 : kt_eq M b' l' r' b2 l2 r2) : kt_eq N b l r b2 l2 r2 := fun j hj => by
  obtain ⟨e1, e2, e3⟩ := h j hj
  obtain ⟨f1, f2, f3⟩ := h2 j (Nat.lt_of_lt_of_le hj hNM)
  exact ⟨f1.trans e1, f2.trans e2, f3.trans e3⟩
theorem kt_T_eq {N : Nat} {b l r b' l' r' : Nat → Int32} (h : kt_eq N b l r b' l' r') : ∀ (g n w : Nat), n < N → kt_T b l r g n w → kt_T b' l' r' g n w := by
  intro g
  induction g with
  | zero => intro n w _ h; exact h.elim
  | succ g ih =>
    intro n w hn h0
    obtain ⟨e1, e2, e3⟩ := h n hn
    have hbr : ∀ (a : Nat) (c : Int), a < n → kt_br b' a c = kt_br b a c := fun a c ha => by
      unfold kt_br
      rw [(h a (Nat.lt_trans ha hn)).1]
    rcases h0 with h0 | ⟨h1, a, x, h2, h3, h4, h5⟩ | ⟨h1, h2, a, x, d, y, h3, h4, h5, h6, h7, h8, h9⟩
    · exact Or.inl ⟨by rw [e1]; exact h0.1, h0.2⟩
    · exact Or.inr (Or.inl ⟨by rw [e1]; exact h1, a, x, by rw [e2]; exact h2, h3, ih a x (Nat.lt_trans h3 hn) h4, by rw [hbr a 4 h3]; exact h5⟩)
    · exact Or.inr (Or.inr ⟨by rw [e1]; exact h1, by rw [e1]; exact h2, a, x, d, y, by rw [e2]; exact h3, h4, ih a x (Nat.lt_trans h4 hn) h5, by rw [e3]; exact h6, h7, ih d y (Nat.lt_trans h7 hn) h8, by rw [e1, hbr a _ h4, hbr d _ h7]; exact h9⟩)
theorem kt_ok_eq {N n w : Nat} {b l r b' l' r' : Nat → Int32} (h : kt_eq N b l r b' l' r') (hn : n < N) (hk : kt_ok b l r n w) : kt_ok b' l' r' n w := by
  obtain ⟨g, hg⟩ := hk
  exact ⟨g, kt_T_eq h g n w hn hg⟩
theorem kt_br_eq {N n : Nat} {c : Int} {b l r b' l' r' : Nat → Int32} (h : kt_eq N b l r b' l' r') (hn : n < N) : kt_br b' n c = kt_br b n c := by
  unfold kt_br
  rw [(h n hn).1]
theorem kt_br_le {b : Nat → Int32} {a : Nat} {c d : Int} (h : c ≤ d) : kt_br b a c ≤ kt_br b a d := by
  unfold kt_br
  split <;> split <;> omega
/-- the rows that node() writes: at the place N, the others stay -/
theorem kt_eq_upd {N : Nat} {b l r : Nat → Int32} {u v w : Int32} : kt_eq N b l r (upd b N u) (upd l N v) (upd r N w) := fun j hj => ⟨pk_un (Nat.ne_of_lt hj), pk_un (Nat.ne_of_lt hj), pk_un (Nat.ne_of_lt hj)⟩
theorem kt_w_pos {b l r : Nat → Int32} {n w : Nat} (h : kt_ok b l r n w) : 1 ≤ w ∧ 1 ≤ (b n).toInt ∧ (b n).toInt ≤ 5 := by
  rcases kt_inv h with ⟨h1, h2⟩ | ⟨h1, a, x, h2, h3, h4, h5⟩ | ⟨h1, h2, a, x, d, y, h3, h4, h5, h6, h7, h8, h9⟩
  · omega
  · omega
  · omega
