/-! which LESSON needs which: the class's bits and the reference's rows tell the same -/
def kn_it (N : Nat → Nat → Bool) (l : Nat) : Nat → Nat → Bool
  | 0, y => decide (y = l)
  | t + 1, y => kn_it N l t y || (kn_it N l t (t % 6) && N (t % 6) y)
theorem kn_it_s (N : Nat → Nat → Bool) (l t y : Nat) : kn_it N l (t + 1) y = (kn_it N l t y || (kn_it N l t (t % 6) && N (t % 6) y)) := rfl
theorem kn_it_congr {N N' : Nat → Nat → Bool} (h : ∀ x y, x < 6 → y < 6 → N x y = N' x y) (l : Nat) : ∀ t y, y < 6 → kn_it N l t y = kn_it N' l t y := by
  intro t
  induction t with
  | zero => intro y _; rfl
  | succ t ih =>
    intro y hy
    rw [kn_it_s, kn_it_s, ih y hy, ih (t % 6) (Nat.mod_lt _ (by omega)), h (t % 6) y (Nat.mod_lt _ (by omega)) hy]
theorem kn_bt1 (i : Nat) : bt 1 i = decide (i = 0) := by
  unfold bt
  show (1#32).getLsbD i = _
  simp [BitVec.getLsbD_one]
theorem kn_and1 (w : Int32) : w &&& 1 = if bt w 0 = true then 1 else 0 := by
  apply b_ext
  intro i hi
  rw [b_and, kn_bt1]
  by_cases h : i = 0
  · subst h
    cases hb : bt w 0
    · simp [b_0]
    · simp [kn_bt1]
  · cases hb : bt w 0
    · simp [h, b_0]
    · simp [h, kn_bt1]
theorem kn_nI {c : Int32} {n : Nat} (h : c.toInt = (n : Int)) (hn : n < 32) : c = nI n := (ka_eq' _ _).mpr (by rw [nI_toInt (by omega)]; omega)
theorem kn_bit {x i : Int32} {n : Nat} (hi : i.toInt = (n : Int)) (hn : n < 32) : (ka_bit x i).toInt = if bt x n = true then 1 else 0 := by
  obtain rfl := kn_nI hi hn
  unfold ka_bit
  rw [kn_and1, b_ushr n hn, Nat.add_zero]
  generalize bt x n = q
  cases q <;> decide
theorem kn_sbv {g c w v : Int32} {n : Nat} (hc : c.toInt = (n : Int)) (hn : n < 32) (e1 : w = g >>> (c &&& 31)) (e2 : v = w &&& 1) : v.toInt = if bt g n = true then 1 else 0 := by
  obtain rfl := kn_nI hc hn
  have hb : bt (g >>> (nI n &&& 31)) 0 = bt g n := by rw [b_sshr n hn g (by omega), if_pos (by omega), Nat.add_zero]
  rw [e2, kn_and1, e1, hb]
  generalize bt g n = q
  cases q <;> decide
theorem kn_shl {c w : Int32} {j : Nat} (hc : c.toInt = (j : Int)) (hj : j < 32) (e : w = 1 <<< (c &&& 31)) {i : Nat} (hi : i < 32) : bt w i = decide (j = i) := by
  obtain rfl := kn_nI hc hj
  rw [e]
  unfold bt
  rw [nf_sh j hj, BitVec.getLsbD_twoPow]
  by_cases h4 : j = i
  · simp [h4, hi]
  · simp [h4]
theorem kn_bv {b : Int32} {q : Bool} (h : b.toInt = if q = true then 1 else 0) : (b.toInt = 1 → q = true) ∧ (¬ b.toInt = 1 → q = false) := by
  cases q
  · exact ⟨fun z => absurd (h.symm.trans z) (by decide), fun _ => rfl⟩
  · exact ⟨fun _ => rfl, fun z => absurd h z⟩
/-- the class: the bits of its rows -/
def kn_B (f : Nat → Int32) (x y : Nat) : Bool := bt (f x) y
def kn_I (f : Nat → Int32) (l : Int32) (t : Nat) (r : Int32) : Prop := ∀ y, y < 6 → bt r y = kn_it (kn_B f) l.toInt.toNat t y
theorem kn_I0 {f : Nat → Int32} {l v : Int32} (e : v = 1 <<< (l &&& 31)) (h : 0 ≤ l.toInt ∧ l.toInt ≤ 5) : kn_I f l 0 v := fun y hy => by
  rw [kn_shl (j := l.toInt.toNat) (by omega) (by omega) e (by omega)]
  exact decide_eq_decide.mpr ⟨Eq.symm, Eq.symm⟩
theorem kn_Iyes {f : Nat → Int32} {l r i i2 w v b : Int32} {R : Nat} (h : kn_I f l (6 * R + i.toInt.toNat) r) (hi : 0 ≤ i.toInt ∧ i.toInt ≤ 5) (hi2 : i2.toInt = i.toInt + 1) (eb : b = ka_bit r i) (hb : b.toInt = 1) (ew : w = f (Int32.toNatClampNeg i)) (ev : v = r ||| w) : kn_I f l (6 * R + i2.toInt.toNat) v := by
  have e2 : 6 * R + i2.toInt.toNat = (6 * R + i.toInt.toNat) + 1 := by omega
  have e3 : (6 * R + i.toInt.toNat) % 6 = i.toInt.toNat := by omega
  have e4 : Int32.toNatClampNeg i = i.toInt.toNat := kp_cl (by omega)
  have hbt : bt r i.toInt.toNat = true := (kn_bv (by rw [eb]; exact kn_bit (n := i.toInt.toNat) (by omega) (by omega))).1 hb
  rw [e2]
  intro y hy
  rw [kn_it_s, e3, ev, b_or, ew, e4, ← h y hy, ← h _ (by omega), hbt, Bool.true_and]
  rfl
theorem kn_Ino {f : Nat → Int32} {l r i i2 b : Int32} {R : Nat} (h : kn_I f l (6 * R + i.toInt.toNat) r) (hi : 0 ≤ i.toInt ∧ i.toInt ≤ 5) (hi2 : i2.toInt = i.toInt + 1) (eb : b = ka_bit r i) (hb : ¬ b.toInt = 1) : kn_I f l (6 * R + i2.toInt.toNat) r := by
  have e2 : 6 * R + i2.toInt.toNat = (6 * R + i.toInt.toNat) + 1 := by omega
  have e3 : (6 * R + i.toInt.toNat) % 6 = i.toInt.toNat := by omega
  have hbt : bt r i.toInt.toNat = false := (kn_bv (by rw [eb]; exact kn_bit (n := i.toInt.toNat) (by omega) (by omega))).2 hb
  rw [e2]
  intro y hy
  rw [kn_it_s, e3, ← h y hy, ← h _ (by omega), hbt, Bool.false_and, Bool.or_false]
theorem kn_Iat {f : Nat → Int32} {l r : Int32} {t t' : Nat} (h : kn_I f l t r) (e : t' = t) : kn_I f l t' r := by
  rw [e]
  exact h
/-- the reference: its rows -/
def kn_M (f : Nat → Int32) (x y : Nat) : Bool := !decide ((f (6 * x + y)).toInt = 0)
def kn_G (f : Nat → Int32) (l : Int32) (t : Nat) (r : Int32) : Prop := ∀ y, y < 6 → bt r y = kn_it (kn_M f) l.toInt.toNat t y
def kn_J (f : Nat → Int32) (l : Int32) (t x y0 : Nat) (r : Int32) : Prop := ∀ y, y < 6 → bt r y = (kn_it (kn_M f) l.toInt.toNat t y || (kn_it (kn_M f) l.toInt.toNat t x && (kn_M f x y && decide (y < y0))))
theorem kn_G0 {f : Nat → Int32} {l v : Int32} (e : v = 1 <<< (l &&& 31)) (h : 0 ≤ l.toInt ∧ l.toInt ≤ 5) : kn_G f l 0 v := fun y hy => by
  rw [kn_shl (j := l.toInt.toNat) (by omega) (by omega) e (by omega)]
  exact decide_eq_decide.mpr ⟨Eq.symm, Eq.symm⟩
theorem kn_J0 {f : Nat → Int32} {l r : Int32} {t x : Nat} (h : kn_G f l t r) : kn_J f l t x 0 r := fun y hy => by
  rw [h y hy]
  simp
theorem kn_Jend {f : Nat → Int32} {l r : Int32} {t t' x y0 : Nat} (h : kn_J f l t x y0 r) (hy0 : y0 = 6) (hx : t % 6 = x) (e : t' = t + 1) : kn_G f l t' r := fun y hy => by
  rw [h y hy, e, kn_it_s, hx, hy0, decide_eq_true hy, Bool.and_true]
theorem kn_Jx {f : Nat → Int32} {l r : Int32} {t x y0 : Nat} (h : kn_J f l t x y0 r) (hx : x < 6) : bt r x = kn_it (kn_M f) l.toInt.toNat t x := by
  rw [h x hx]
  cases kn_it (kn_M f) l.toInt.toNat t x <;> simp
theorem kn_Jyes {f : Nat → Int32} {l r c d w v sh v2 g : Int32} {t x y0 y1 : Nat} (h : kn_J f l t x y0 r) (hx : x < 6) (hy : y0 < 6) (hc : c.toInt = (x : Int)) (ew : w = r >>> (c &&& 31)) (ev : v = w &&& 1) (hv : v.toInt = 1) (hg : g = f (6 * x + y0)) (hg1 : ¬ g.toInt = 0) (hd : d.toInt = (y0 : Int)) (es : sh = 1 <<< (d &&& 31)) (e2 : v2 = r ||| sh) (hy1 : y1 = y0 + 1) : kn_J f l t x y1 v2 := by
  have hb : bt r x = true := (kn_bv (kn_sbv hc (by omega) ew ev)).1 hv
  have hS : kn_it (kn_M f) l.toInt.toNat t x = true := by rw [← kn_Jx h hx]; exact hb
  have hM : kn_M f x y0 = true := by unfold kn_M; rw [← hg]; simp [hg1]
  intro y hy6
  rw [e2, b_or, h y hy6, kn_shl hd (by omega) es (by omega), hS, hy1]
  by_cases e : y = y0
  · subst e
    rw [hM]
    simp
  · have h1 : decide (y0 = y) = false := decide_eq_false (fun z => e z.symm)
    have h2 : decide (y < y0 + 1) = decide (y < y0) := decide_eq_decide.mpr (by omega)
    rw [h1, h2, Bool.or_false]
theorem kn_Jno1 {f : Nat → Int32} {l r c w v : Int32} {t x y0 y1 : Nat} (h : kn_J f l t x y0 r) (hx : x < 6) (hc : c.toInt = (x : Int)) (ew : w = r >>> (c &&& 31)) (ev : v = w &&& 1) (hv : ¬ v.toInt = 1) : kn_J f l t x y1 r := by
  have hb : bt r x = false := (kn_bv (kn_sbv hc (by omega) ew ev)).2 hv
  have hS : kn_it (kn_M f) l.toInt.toNat t x = false := by rw [← kn_Jx h hx]; exact hb
  intro y hy6
  rw [h y hy6, hS]
  simp
theorem kn_Jno2 {f : Nat → Int32} {l r g : Int32} {t x y0 y1 : Nat} (h : kn_J f l t x y0 r) (hg : g = f (6 * x + y0)) (hg1 : g.toInt = 0) (hy1 : y1 = y0 + 1) : kn_J f l t x y1 r := by
  have hM : kn_M f x y0 = false := by unfold kn_M; rw [← hg]; simp [hg1]
  intro y hy6
  rw [h y hy6, hy1]
  by_cases e : y = y0
  · subst e
    rw [hM]
    simp
  · have h2 : decide (y < y0 + 1) = decide (y < y0) := decide_eq_decide.mpr (by omega)
    rw [h2]
theorem kn_Gat {f : Nat → Int32} {l r : Int32} {t t' : Nat} (h : kn_G f l t r) (e : t' = t) : kn_G f l t' r := by
  rw [e]
  exact h
theorem kn_Jat {f : Nat → Int32} {l r : Int32} {t t' x x' y y' : Nat} (h : kn_J f l t x y r) (e : t' = t) (e2 : x' = x) (e3 : y' = y) : kn_J f l t' x' y' r := by
  rw [e, e2, e3]
  exact h
/-- when a need is taken -/
def kn_ok (N : Nat → Nat → Bool) (a b : Int) : Prop := 0 ≤ a ∧ a ≤ 5 ∧ 0 ≤ b ∧ b ≤ 5 ∧ a ≠ b ∧ N a.toNat b.toNat = false ∧ kn_it N b.toNat 36 a.toNat = false
def kn_P (f : Nat → Int32) (a b : Int32) (g : Nat → Int32) (r : Int32) : Prop := (kn_ok (kn_B f) a.toInt b.toInt ∧ r.toInt = 1 ∧ g = upd f a.toInt.toNat (f a.toInt.toNat ||| 1 <<< (b &&& 31))) ∨ (¬ kn_ok (kn_B f) a.toInt b.toInt ∧ r.toInt = 0 ∧ g = f)
def kn_Q (f : Nat → Int32) (a b : Int32) (g : Nat → Int32) (r : Int32) : Prop := (kn_ok (kn_M f) a.toInt b.toInt ∧ r.toInt = 1 ∧ g = upd f (6 * a.toInt.toNat + b.toInt.toNat) 1) ∨ (¬ kn_ok (kn_M f) a.toInt b.toInt ∧ r.toInt = 0 ∧ g = f)
theorem kn_ok_congr {N N' : Nat → Nat → Bool} (h : ∀ x y, x < 6 → y < 6 → N x y = N' x y) {a b : Int} (k : kn_ok N a b) : kn_ok N' a b := by
  obtain ⟨h1, h2, h3, h4, h5, h6, h7⟩ := k
  exact ⟨h1, h2, h3, h4, h5, by rw [← h _ _ (by omega) (by omega)]; exact h6, by rw [← kn_it_congr h _ _ _ (by omega)]; exact h7⟩
/-- the class's rows and the reference's are the same -/
def kn_R (f g : Nat → Int32) : Prop := ∀ x y, x < 6 → y < 6 → kn_B f x y = kn_M g x y
theorem kn_R0 : kn_R (fun _ => 0) (fun _ => 0) := fun x y _ _ => by
  unfold kn_B kn_M
  rw [b_0]
  show false = !decide (((0 : Int32)).toInt = 0)
  decide
theorem kn_same {f f' g g' : Nat → Int32} {a b r s : Int32} (h : kn_R f g) (hp : kn_P f a b f' r) (hq : kn_Q g a b g' s) : r.toInt = s.toInt ∧ kn_R f' g' := by
  rcases hp with ⟨p1, p2, p3⟩ | ⟨p1, p2, p3⟩
  · rcases hq with ⟨q1, q2, q3⟩ | ⟨q1, q2, q3⟩
    · refine ⟨by omega, fun x y hx hy => ?_⟩
      obtain ⟨h1, h2, h3, h4, h5, h6, h7⟩ := p1
      have h0 := h x y hx hy
      subst p3 q3
      unfold kn_B kn_M at h0 ⊢
      by_cases ex : x = a.toInt.toNat
      · subst ex
        rw [pk_us, b_or, kn_shl (j := b.toInt.toNat) (by omega) (by omega) rfl (by omega)]
        by_cases ey : y = b.toInt.toNat
        · subst ey
          rw [pk_us]
          simp
        · have h9 : decide (b.toInt.toNat = y) = false := decide_eq_false (fun z => ey z.symm)
          rw [pk_un (by omega), h0, h9, Bool.or_false]
      · rw [pk_un ex, pk_un (by omega), h0]
    · exact absurd (kn_ok_congr h p1) q1
  · rcases hq with ⟨q1, q2, q3⟩ | ⟨q1, q2, q3⟩
    · exact absurd (kn_ok_congr (fun x y hx hy => (h x y hx hy).symm) q1) p1
    · subst p3 q3
      exact ⟨by omega, h⟩
/-- the answers at the places where needs and addNeed end -/
theorem kn_noA {f : Nat → Int32} {xa xb w v : Int32} (h : kn_ok (kn_B f) xa.toInt xb.toInt) (ew : w = f (Int32.toNatClampNeg xa)) (ev : v = ka_bit w xb) (c : v.toInt = 1) : False := by
  obtain ⟨h1, h2, h3, h4, h5, h6, h7⟩ := h
  have hb := (kn_bv (by rw [ev]; exact kn_bit (n := xb.toInt.toNat) (by omega) (by omega))).1 c
  rw [ew, kp_cl (n := xa.toInt.toNat) (by omega)] at hb
  unfold kn_B at h6
  rw [h6] at hb
  cases hb
theorem kn_noB {f : Nat → Int32} {xa xb w v : Int32} (h : kn_ok (kn_B f) xa.toInt xb.toInt) (hw : kn_I f xb 36 w) (ev : v = ka_bit w xa) (c : v.toInt = 1) : False := by
  obtain ⟨h1, h2, h3, h4, h5, h6, h7⟩ := h
  have hb := (kn_bv (by rw [ev]; exact kn_bit (n := xa.toInt.toNat) (by omega) (by omega))).1 c
  rw [hw _ (by omega), h7] at hb
  cases hb
theorem kn_yes {f : Nat → Int32} {xa xb w v w2 v2 : Int32} (ha : 0 ≤ xa.toInt ∧ xa.toInt ≤ 5) (hb : 0 ≤ xb.toInt ∧ xb.toInt ≤ 5) (hab : ¬ xa.toInt = xb.toInt) (ew : w = f (Int32.toNatClampNeg xa)) (ev : v = ka_bit w xb) (c : ¬ v.toInt = 1) (hw : kn_I f xb 36 w2) (ev2 : v2 = ka_bit w2 xa) (c2 : ¬ v2.toInt = 1) : kn_ok (kn_B f) xa.toInt xb.toInt := by
  refine ⟨ha.1, ha.2, hb.1, hb.2, hab, ?_, ?_⟩
  · have h1 := (kn_bv (by rw [ev]; exact kn_bit (n := xb.toInt.toNat) (by omega) (by omega))).2 c
    rw [ew, kp_cl (n := xa.toInt.toNat) (by omega)] at h1
    exact h1
  · have h1 := (kn_bv (by rw [ev2]; exact kn_bit (n := xa.toInt.toNat) (by omega) (by omega))).2 c2
    rw [hw _ (by omega)] at h1
    exact h1
theorem kn_noC {f : Nat → Int32} {xa xb j g : Int32} (h : kn_ok (kn_M f) xa.toInt xb.toInt) (hj : j.toInt = 6 * xa.toInt + xb.toInt) (eg : g = f (Int32.toNatClampNeg j)) (c : ¬ g.toInt = 0) : False := by
  obtain ⟨h1, h2, h3, h4, h5, h6, h7⟩ := h
  rw [kp_cl (n := 6 * xa.toInt.toNat + xb.toInt.toNat) (by omega)] at eg
  unfold kn_M at h6
  rw [← eg] at h6
  simp [c] at h6
theorem kn_yesM {f : Nat → Int32} {xa xb j g : Int32} (ha : 0 ≤ xa.toInt ∧ xa.toInt ≤ 5) (hb : 0 ≤ xb.toInt ∧ xb.toInt ≤ 5) (hab : ¬ xa.toInt = xb.toInt) (hj : j.toInt = 6 * xa.toInt + xb.toInt) (eg : g = f (Int32.toNatClampNeg j)) (c : g.toInt = 0) (h7 : kn_it (kn_M f) xb.toInt.toNat 36 xa.toInt.toNat = false) : kn_ok (kn_M f) xa.toInt xb.toInt := by
  refine ⟨ha.1, ha.2, hb.1, hb.2, hab, ?_, h7⟩
  rw [kp_cl (n := 6 * xa.toInt.toNat + xb.toInt.toNat) (by omega)] at eg
  unfold kn_M
  rw [← eg]
  simp [c]
