/-! My own words and rows over the kit: contracts of two kinds (R: the heap stays; E: with effects), their calls and returns. -/
def ka_NW (U : State) : Prop := va_Nw (.methodLinkNest RX6 9 yX5_init RX6) U ∧ va_Nw (.methodLinkNest RX0 25 yX2_init RX6) U ∧ va_Nw (.methodLinkNest RX6 34 yX4_init RX6) U ∧ va_Nw (.methodLinkNest RX0 30 yX6_bitAt RX6) U ∧ va_Nw (.methodLinkNest RX2 32 yX6_bitAt RX6) U ∧ va_Nw (.methodLinkNest RX4 46 yX6_isCase RX6) U ∧ va_Nw (.methodLinkNest RX4 50 yX6_bitAt RX6) U ∧ va_AO RX1 U ∧ va_AO RX2 U ∧ va_Nw (.castable "[B" "java/lang/Cloneable") U
theorem ka_NW_warm {s U : State} (hW : s.WarmedH U.vm) (h : ka_NW s) : ka_NW U := ⟨va_Nw.warmM hW h.1, va_Nw.warmM hW h.2.1, va_Nw.warmM hW h.2.2.1, va_Nw.warmM hW h.2.2.2.1, va_Nw.warmM hW h.2.2.2.2.1, va_Nw.warmM hW h.2.2.2.2.2.1, va_Nw.warmM hW h.2.2.2.2.2.2.1, va_AO.moved hW.alike h.2.2.2.2.2.2.2.1, va_AO.moved hW.alike h.2.2.2.2.2.2.2.2.1, va_Nw.warmC hW h.2.2.2.2.2.2.2.2.2⟩
theorem ka_NW_same {u U : State} (e : u.vm = U.vm) (h : ka_NW u) : ka_NW U := ⟨va_Nw.same rfl e h.1, va_Nw.same rfl e h.2.1, va_Nw.same rfl e h.2.2.1, va_Nw.same rfl e h.2.2.2.1, va_Nw.same rfl e h.2.2.2.2.1, va_Nw.same rfl e h.2.2.2.2.2.1, va_Nw.same rfl e h.2.2.2.2.2.2.1, va_AO.moved (by rw [e]; exact Vm.Alike.refl _) h.2.2.2.2.2.2.2.1, va_AO.moved (by rw [e]; exact Vm.Alike.refl _) h.2.2.2.2.2.2.2.2.1, va_Nw.same rfl e h.2.2.2.2.2.2.2.2.2⟩
/-- the two static arrays of Reader -/
def ka_sg : Nat → Value := fun j => .int (match j with | 0 => 124 | 1 => 94 | _ => 38)
def ka_lt : Nat → Value := fun j => .int (match j with | 0 => (-1431655766) | 1 => (-858993460) | 2 => (-252645136) | 3 => (-16711936) | _ => (-65536))
/-- the formulas that stand when a method is called (F: their addresses): what they hold doesn't change -/
def ka_FP (D : va_G) (F : Nat → Prop) (A : Nat → Prop) (U : State) (H : Heap) : Prop := ∀ a : Nat, F a → ∃ (tr : Int32) (tx : Nat) (k : ClassId) (n : Nat) (f : Nat → Int32), n ≤ 120 ∧ va_P D vwCl [(a, .inr (1, [.int tr, .ref tx])), (tx, .inl (k, n, .inl f))] H ∧ va_K D vwCl [(k, .byte)] U ∧ ¬ A a ∧ ¬ A tx
theorem ka_FP_moved {D : va_G} {F A : Nat → Prop} {u U : State} {H : Heap} (hvm : u.vm.Alike U.vm) (h : ka_FP D F A u H) : ka_FP D F A U H := by
  intro a ha
  obtain ⟨tr, tx, k, n, f, h1, h2, h3, h4⟩ := h a ha
  exact ⟨tr, tx, k, n, f, h1, h2, va_K.moved hvm h3, h4⟩
theorem ka_FP_kept {D : va_G} {F A : Nat → Prop} {U : State} {H H1 : Heap} (h : ka_FP D F A U H) (hq : ∀ a : Nat, a < H.size → ¬ A a → H1[a]? = H[a]?) : ka_FP D F A U H1 := by
  intro a ha
  obtain ⟨tr, tx, k, n, f, h1, h2, h3, h4, h5⟩ := h a ha
  refine ⟨tr, tx, k, n, f, h1, h2.kept (fun i q hi => ?_), h3, h4, h5⟩
  have hlt := (h2 i q hi).lt
  match i, hi with
  | 0, hi => cases hi; exact hq _ hlt h4
  | 1, hi => cases hi; exact hq _ hlt h5
  | i + 2, hi => simp at hi
theorem ka_FP_narrow {D : va_G} {F A B : Nat → Prop} {U : State} {H : Heap} (h : ka_FP D F A U H) (hAB : ∀ q, B q → A q) : ka_FP D F B U H := by
  intro a ha
  obtain ⟨tr, tx, k, n, f, h1, h2, h3, h4, h5⟩ := h a ha
  exact ⟨tr, tx, k, n, f, h1, h2, h3, fun z => h4 (hAB _ z), fun z => h5 (hAB _ z)⟩
def ka_SE (D : va_G) (F : Nat → Prop) (A : Nat → Prop) (U : State) (H : Heap) : Prop := (∃ t1 t2 : Nat, va_Z RX3 "SIGNS" "[C" (.ref t1) A U H ∧ va_T .char t1 3 ka_sg A U H ∧ va_Z RX3 "LETTER_TRUTHS" "[I" (.ref t2) A U H ∧ va_T .int t2 5 ka_lt A U H) ∧ ka_FP D F A U H
theorem ka_SE_moved {D : va_G} {F A : Nat → Prop} {u U : State} {H : Heap} (hvm : u.vm.Alike U.vm) (h : ka_SE D F A u H) : ka_SE D F A U H := by
  obtain ⟨⟨t1, t2, a, b, c, d⟩, e⟩ := h
  exact ⟨⟨t1, t2, a.moved hvm, b.moved hvm, c.moved hvm, d.moved hvm⟩, ka_FP_moved hvm e⟩
theorem ka_SE_kept {D : va_G} {F A : Nat → Prop} {U : State} {H H1 : Heap} (h : ka_SE D F A U H) (hq : ∀ a : Nat, a < H.size → ¬ A a → H1[a]? = H[a]?) : ka_SE D F A U H1 := by
  obtain ⟨⟨t1, t2, a, b, c, d⟩, e⟩ := h
  exact ⟨⟨t1, t2, a.kept hq, b.kept hq, c.kept hq, d.kept hq⟩, ka_FP_kept e hq⟩
theorem ka_SE_narrow {D : va_G} {F A B : Nat → Prop} {U : State} {H : Heap} (h : ka_SE D F A U H) (hAB : ∀ q, B q → A q) : ka_SE D F B U H := by
  obtain ⟨⟨t1, t2, a, b, c, d⟩, e⟩ := h
  exact ⟨⟨t1, t2, a.narrow hAB, b.narrow hAB, c.narrow hAB, d.narrow hAB⟩, ka_FP_narrow e hAB⟩
abbrev ka_Ty : Type := List (ClassId × FieldType)
def ka_PreR (D : va_G) (F : Nat → Prop) (wc : va_W) (tc : ka_Ty) (U : State) : Prop := va_P D vwCl wc U.heap ∧ va_K D vwCl tc U ∧ ka_SE D F (fun _ => False) U U.heap ∧ ka_NW U
def ka_QR (post : Option Value → Prop) : Array Value → State → Outcome → State → Prop := fun _ st oc t => ∃ v : Option Value, oc = .returned v ∧ post v ∧ t.heap = st.heap
def ka_R (l : Launch) (D : va_G) (F : Nat → Prop) (y : MethodName) (ws : List Cond) (fr lo : Nat) (as : List Value) (wc : va_W) (tc : ka_Ty) (post : Option Value → Prop) : Prop := Met l y ws ({ frames := fr, cells := 0, slots := 0, locals := lo }) (va_Pc as (ka_PreR D F wc tc)) (ka_QR post) 0 0 (fun _ => False)
def ka_PreE (D : va_G) (F : Nat → Prop) (wc : va_W) (tc : ka_Ty) (sz : Nat) (U : State) : Prop := U.heap.size = sz ∧ va_P D vwCl wc U.heap ∧ va_K D vwCl tc U ∧ va_D (fun _ => True) wc ∧ ka_SE D F (va_A wc sz) U U.heap ∧ ka_NW U
def ka_QE {S : Type} (D : va_G) (A : Nat → Prop) (rv : S → Option Value) (post : S → Prop) (wo : S → va_W) (to : S → ka_Ty) : Array Value → State → Outcome → State → Prop := fun _ st oc t => (∃ u : S, oc = .returned (rv u) ∧ post u ∧ va_P D vwCl (wo u) t.heap ∧ va_K D vwCl (to u) t ∧ va_D A (wo u)) ∧ va_F A st t
def ka_E {S : Type} (l : Launch) (D : va_G) (F : Nat → Prop) (y : MethodName) (ws : List Cond) (fr lo mc ms : Nat) (as : List Value) (wc : va_W) (tc : ka_Ty) (rv : S → Option Value) (post : S → Prop) (wo : S → va_W) (to : S → ka_Ty) : Prop := ∀ sz : Nat, Met l y ws ({ frames := fr, cells := mc, slots := ms, locals := lo }) (va_Pc as (ka_PreE D F wc tc sz)) (ka_QE D (va_A wc sz) rv post wo to) mc ms (va_A wc sz)
theorem ka_R_of {l : Launch} {D : va_G} {F : Nat → Prop} {y : MethodName} {ws ws' : List Cond} {fr lo : Nat} {as : List Value} {wc : va_W} {tc : ka_Ty} {post : Option Value → Prop} {cc : ByteArray} {maxL : Nat} {ret : Option FieldType} (hy : plainName y.cls = true) (hw : ws = Cond.code y cc maxL ret :: ws') (hlen : (lg_sl as).length ≤ maxL)
    (body : ∀ (p : Program) (e : Env) (s : State) (m : MethodId) (below : List Frame) (meth : Method) (c : Code) (ls : Array Slot), CallFix p m c cc maxL s as.toArray ws y.cls → meth.sig.returnType = ret → meth.locks = false → va_P D vwCl wc s.heap → va_K D vwCl tc s → ka_SE D F (fun _ => False) s s.heap → ka_NW s → lv_has ls maxL (lv_args 0 as) → W p l e ({ frames := fr, cells := 0, slots := 0, locals := lo }) s m as.toArray below meth c s.heap [] 0 0 (MQ below (ka_QR post) as.toArray s 0 0 (fun _ => False)) (F0 m 0 ls [])) : ka_R l D F y ws fr lo as wc tc post := by
  refine Met.ofW (cc := cc) (maxL := maxL) (ret := ret) hy hw ?_
  intro p e s m args below meth c s₁ B hml hv
  obtain ⟨rfl, hP, hK, hE, hN⟩ := hv
  have hl := lv_entry as (n := maxL) hlen
  rw [lg_entry_eq]
  generalize (lg_sl as ++ List.replicate (maxL - (lg_sl as).length) Slot.unset).toArray = ls at hl ⊢
  exact body p e s m below meth c ls ⟨B.exec, B.bytes, hml, findClass_of_methodNamed B.named, atoms_spec (ws := ws) B.pre⟩ B.returns B.notSynchronized hP hK hE hN hl
theorem ka_E_of {S : Type} {l : Launch} {D : va_G} {F : Nat → Prop} {y : MethodName} {ws ws' : List Cond} {fr lo mc ms : Nat} {as : List Value} {wc : va_W} {tc : ka_Ty} {rv : S → Option Value} {post : S → Prop} {wo : S → va_W} {to : S → ka_Ty} {cc : ByteArray} {maxL : Nat} {ret : Option FieldType} (hy : plainName y.cls = true) (hw : ws = Cond.code y cc maxL ret :: ws') (hlen : (lg_sl as).length ≤ maxL)
    (body : ∀ (p : Program) (e : Env) (s : State) (m : MethodId) (below : List Frame) (meth : Method) (c : Code) (ls : Array Slot) (A : Nat → Prop), CallFix p m c cc maxL s as.toArray ws y.cls → meth.sig.returnType = ret → meth.locks = false → meth.name = y.name → va_P D vwCl wc s.heap → va_K D vwCl tc s → va_D A wc → va_S A s.heap s.heap [] → (∀ q, s.heap.size ≤ q → A q) → ka_SE D F A s s.heap → ka_NW s → lv_has ls maxL (lv_args 0 as) → W p l e ({ frames := fr, cells := mc, slots := ms, locals := lo }) s m as.toArray below meth c s.heap [] 0 0 (MQ below (ka_QE D A rv post wo to) as.toArray s mc ms A) (F0 m 0 ls [])) : ka_E l D F y ws fr lo mc ms as wc tc rv post wo to := by
  intro sz
  refine Met.ofW (cc := cc) (maxL := maxL) (ret := ret) hy hw ?_
  intro p e s m args below meth c s₁ B hml hv
  obtain ⟨rfl, hsz, hP, hK, hD0, hE, hN⟩ := hv
  subst hsz
  have hl := lv_entry as (n := maxL) hlen
  rw [lg_entry_eq]
  generalize (lg_sl as ++ List.replicate (maxL - (lg_sl as).length) Slot.unset).toArray = ls at hl ⊢
  exact body p e s m below meth c ls (va_A wc s.heap.size) ⟨B.exec, B.bytes, hml, findClass_of_methodNamed B.named, atoms_spec (ws := ws) B.pre⟩ B.returns B.notSynchronized (name_of_methodNamed B.named B.method).1 hP hK hD0.self va_S.rf (fun q h => Or.inr h) hE hN hl
theorem ka_blR {D : va_G} {F : Nat → Prop} {wc : va_W} {tc : ka_Ty} {as : List Value} : FrameBlind (va_Pc as (ka_PreR D F wc tc)) := fun a U g mk q => by
  obtain ⟨q0, qP, qK, qE, qN⟩ := q
  exact ⟨q0, qP, va_K.moved (u := U) (U := U.calling g mk a) (Vm.Alike.refl U.vm) qK, ka_SE_moved (u := U) (U := U.calling g mk a) (Vm.Alike.refl U.vm) qE, ka_NW_same (u := U) (U := U.calling g mk a) rfl qN⟩
theorem ka_blE {D : va_G} {F : Nat → Prop} {wc : va_W} {tc : ka_Ty} {as : List Value} {sz : Nat} : FrameBlind (va_Pc as (ka_PreE D F wc tc sz)) := fun a U g mk q => by
  obtain ⟨q0, q1, qP, qK, qD, qE, qN⟩ := q
  exact ⟨q0, q1, qP, va_K.moved (u := U) (U := U.calling g mk a) (Vm.Alike.refl U.vm) qK, qD, ka_SE_moved (u := U) (U := U.calling g mk a) (Vm.Alike.refl U.vm) qE, ka_NW_same (u := U) (U := U.calling g mk a) rfl qN⟩
section KA
variable {p : Program} {l : Launch} {e : Env} {R : Room} {s : State} {m : MethodId} {args : Array Value} {below : List Frame} {meth : Method} {c : Code} {H : Heap} {locs : List Loc} {cells slots : Nat} {Q : State → Prop} {cc : ByteArray} {pc nL : Nat} {ls : Array Slot} {rest st0 : List Value} {Ts : List Cond} {own : String} {D : va_G} {F : Nat → Prop} {A : Nat → Prop} {ws : va_W} {tys : ka_Ty} {a : Nat} {fs : List Value}
theorem ka_top {v w : Value} (h : v = w) (k : W p l e R s m args below meth c H locs cells slots Q (F0 m pc ls (w :: rest))) : W p l e R s m args below meth c H locs cells slots Q (F0 m pc ls (v :: rest)) := h ▸ k
theorem ka_stk {v w : List Value} (h : v = w) (k : W p l e R s m args below meth c H locs cells slots Q (F0 m pc ls w)) : W p l e R s m args below meth c H locs cells slots Q (F0 m pc ls v) := h ▸ k
theorem ka_get (C : CallFix p m c cc nL s args Ts own) {K : String} {T : u_T} {N ci index : Nat} (hin : ∀ w ∈ u_ws K T N, w ∈ Ts) (hc : vwCl[ci]? = some (K, T, N)) (hK : va_K D vwCl tys s) (hP : va_P D vwCl ws H) (q0 : Nat) (he : ws[q0]? = some (a, .inr (ci, fs))) (k : Nat) (hk : k < N) (hlk : Cond.fieldLink own index (T k).1 (T k).2.1 (T k).2.2.1 ∈ Ts) {v : Value} (hv : fs[k]? = some v) (hdg : decode cc pc = .ok (.getfield index, 3))
    (kk : W p l e R s m args below meth c H locs cells slots Q (F0 m (pc + 3) ls (v :: rest))) : W p l e R s m args below meth c H locs cells slots Q (F0 m pc ls (.ref a :: rest)) :=
  va_get (D := D) C.1 C.2.1 C.2.2.2.2 hin C.2.2.2.1 hK hP q0 he hc k hk (C.2.2.2.2 _ hlk) (fun _ h9 => h9) hv hdg kk
theorem ka_put (C : CallFix p m c cc nL s args Ts own) {K : String} {T : u_T} {N ci index : Nat} (hin : ∀ w ∈ u_ws K T N, w ∈ Ts) (ty0 : Nat → FieldType) (hty : ∀ k, k < N → parseFieldDescriptor (T k).2.2.1 = some (ty0 k)) (hnm : ∀ a, a < N → ∀ b, b < N → a ≠ b → (T a).2.1 ≠ (T b).2.1) (hc : vwCl[ci]? = some (K, T, N)) (hK : va_K D vwCl tys s) (hP : va_P D vwCl ws H) (hD : va_D A ws) (hS : va_S A s.heap H locs) (q0 : Nat) (he : ws[q0]? = some (a, .inr (ci, fs))) (k : Nat) (hk : k < N) (hlk : Cond.fieldLink own index (T k).1 (T k).2.1 (T k).2.2.1 ∈ Ts) (hfin : (T k).2.2.2 = false) {v : Value} (hn : narrow (ty0 k) v = v) (hfit : fits (ty0 k) v = true) (hl : k < fs.length) (hdg : decode cc pc = .ok (.putfield index, 3))
    (kk : ∀ (H1 : Heap) (locs1 : List Loc), va_P D vwCl (ws.set q0 (a, .inr (ci, fs.set k v))) H1 → va_D A (ws.set q0 (a, .inr (ci, fs.set k v))) → va_S A s.heap H1 locs1 → W p l e R s m args below meth c H1 locs1 cells slots Q (F0 m (pc + 3) ls rest)) : W p l e R s m args below meth c H locs cells slots Q (F0 m pc ls (v :: .ref a :: rest)) :=
  va_put (D := D) C.1 C.2.1 C.2.2.2.2 hin ty0 hty hnm C.2.2.2.1 hK hP hD hS q0 he hc k hk (C.2.2.2.2 _ hlk) (fun _ h9 => h9) hfin (hty k hk) hn hfit hl hdg kk
theorem ka_putF (C : CallFix p m c cc nL s args Ts own) {K : String} {T : u_T} {N ci index : Nat} (hin : ∀ w ∈ u_ws K T N, w ∈ Ts) (ty0 : Nat → FieldType) (hty : ∀ k, k < N → parseFieldDescriptor (T k).2.2.1 = some (ty0 k)) (hnm : ∀ a, a < N → ∀ b, b < N → a ≠ b → (T a).2.1 ≠ (T b).2.1) (hc : vwCl[ci]? = some (K, T, N)) (hK : va_K D vwCl tys s) (hP : va_P D vwCl ws H) (hD : va_D A ws) (hS : va_S A s.heap H locs) (q0 : Nat) (he : ws[q0]? = some (a, .inr (ci, fs))) (k : Nat) (hk : k < N) (hlk : Cond.fieldLink own index (T k).1 (T k).2.1 (T k).2.2.1 ∈ Ts) (hfin : (T k).2.2.2 = true) (hin2 : meth.name = "<init>") (hdecl : (T k).1 = own) {v : Value} (hn : narrow (ty0 k) v = v) (hfit : fits (ty0 k) v = true) (hl : k < fs.length) (hdg : decode cc pc = .ok (.putfield index, 3))
    (kk : ∀ (H1 : Heap) (locs1 : List Loc), va_P D vwCl (ws.set q0 (a, .inr (ci, fs.set k v))) H1 → va_D A (ws.set q0 (a, .inr (ci, fs.set k v))) → va_S A s.heap H1 locs1 → W p l e R s m args below meth c H1 locs1 cells slots Q (F0 m (pc + 3) ls rest)) : W p l e R s m args below meth c H locs cells slots Q (F0 m pc ls (v :: .ref a :: rest)) :=
  va_putF (D := D) C.1 C.2.1 C.2.2.2.2 hin ty0 hty hnm C.2.2.2.1 hK hP hD hS q0 he hc k hk (C.2.2.2.2 _ hlk) (fun _ h9 => h9) hfin hin2 hdecl (hty k hk) hn hfit hl hdg kk
/-- a call that leaves the heap as it was -/
theorem ka_cR {post : Option Value → Prop} {av : Array Value} (hr : va_Run p l e R s m args below meth c H locs cells slots 0 0 (F0 m pc ls st0) rest (ka_QR post av) (fun _ => False))
    (kk : ∀ v : Option Value, post v → W p l e R s m args below meth c H locs cells slots Q (F0 m (pc + 3) ls (v.toList ++ rest))) : W p l e R s m args below meth c H locs cells slots Q (F0 m pc ls st0) := by
  intro T hT X
  obtain ⟨v, st₀, t, T', L, h0, X', hL, e1, e2, ⟨v', hv, hp, hh⟩, st⟩ := hr T hT X
  cases hv
  obtain ⟨t2, a1, b1⟩ := kk v hp T' (by rw [e1, hh, h0]) (Stand.forget X' (fun q h => (hL q h).elim))
  exact ⟨t2, st t2 a1, b1⟩
/-- a call with effects: the caller's other cells stand, the callee's are what its contract says -/
theorem ka_cE {S : Type} {rv : S → Option Value} {post : S → Prop} {wo : S → va_W} {to : S → ka_Ty} {av : Array Value} {wc wr : va_W} {mc ms : Nat} (hr : va_Run p l e R s m args below meth c H locs cells slots mc ms (F0 m pc ls st0) rest (ka_QE D (va_A wc H.size) rv post wo to av) (va_A wc H.size)) (hK : va_K D vwCl tys s) (hP : va_P D vwCl ws H) (hD : va_D A ws) (hS : va_S A s.heap H locs) (hF : ∀ q, va_A wc H.size q → A q) (isC isR : List Nat) (hC : isC.map (fun i => ws[i]?) = wc.map some) (hR : isR.map (fun i => ws[i]?) = wr.map some) (hn : va_nd isR = true) (hdis : ∀ i ∈ isR, i ∉ isC)
    (kk : ∀ (u : S) (H1 : Heap) (locs1 : List Loc), post u → va_P D vwCl (wr ++ wo u) H1 → va_D A (wr ++ wo u) → va_K D vwCl (tys ++ to u) s → va_S A s.heap H1 locs1 → W p l e R s m args below meth c H1 locs1 (cells + mc) (slots + ms) Q (F0 m (pc + 3) ls ((rv u).toList ++ rest))) : W p l e R s m args below meth c H locs cells slots Q (F0 m pc ls st0) := by
  intro T hT X
  obtain ⟨v, st₀, t, T', L, h0, X', hL, e1, e2, ⟨⟨u, hv, hp, qP, qK, qD⟩, hz, hk⟩, st⟩ := hr T hT X
  cases hv
  rw [h0] at hz hk
  have hal : s.vm.Alike t.vm := by rw [← e2]; exact X'.warmed.alike
  have hk1 : ∀ q : Nat, q < H.size → ¬ va_A wc H.size q → T'.heap[q]? = H[q]? := fun q h1 h2 => by rw [e1]; exact hk q h1 h2
  have hz1 : H.size ≤ T'.heap.size := by rw [e1]; exact hz
  rw [← e1] at qP
  obtain ⟨jP, jD⟩ := va_join hP hD isC isR hC hR hn hdis hk1 hF qP qD
  obtain ⟨t2, a1, b1⟩ := kk u T'.heap (locs ++ L) hp jP jD (hK.app (va_K.moved hal.symm qK)) ⟨Nat.le_trans hS.1 hz1, fun q h1 h2 => by rw [hk1 q (Nat.lt_of_lt_of_le h1 hS.1) (fun z => h2 (hF q z))]; exact hS.2.1 q h1 h2, fun q hq => by
      rcases List.mem_append.mp hq with h | h
      · exact hS.2.2 q h
      · exact hF _ (hL q h)⟩ T' rfl X'
  exact ⟨t2, st t2 a1, b1⟩
variable {y : MethodName} {wy wy' : List Cond} {fr lo maxL index n mc ms : Nat} {bytes : ByteArray} {ret : Option FieldType} {wc wr : va_W} {tc : ka_Ty} {As : List Value} {b : Nat}
theorem ka_preR {as : List Value} (hK : va_K D vwCl tys s) (hP : va_P D vwCl ws H) (hS : va_S A s.heap H locs) (hE : ka_SE D F A s s.heap) (hN : ka_NW s) (isC : List Nat) (hC : isC.filterMap (fun i => ws[i]?) = wc) (isT : List Nat) (hT : isT.filterMap (fun i => tys[i]?) = tc) : ∀ U : State, U.heap = H → s.WarmedH U.vm → va_Pc as (ka_PreR D F wc tc) as.toArray U := fun U hU hW =>
  ⟨rfl, by rw [hU]; exact hP.sub isC hC, va_K.moved hW.alike (hK.sub isT hT), by rw [hU]; exact ka_SE_narrow (ka_SE_moved hW.alike (ka_SE_kept hE hS.2.1)) (fun _ h => h.elim), ka_NW_warm hW hN⟩
theorem ka_preE {as : List Value} (hK : va_K D vwCl tys s) (hP : va_P D vwCl ws H) (hD : va_D A ws) (hS : va_S A s.heap H locs) (hF : ∀ q, va_A wc H.size q → A q) (hE : ka_SE D F A s s.heap) (hN : ka_NW s) (isC : List Nat) (hC : isC.map (fun i => ws[i]?) = wc.map some) (hnd : va_nd isC = true) (isT : List Nat) (hT : isT.filterMap (fun i => tys[i]?) = tc) : ∀ U : State, U.heap = H → s.WarmedH U.vm → va_Pc as (ka_PreE D F wc tc H.size) as.toArray U := fun U hU hW =>
  ⟨rfl, by rw [hU], by rw [hU]; exact hP.sub isC (by
      have h1 := congrArg (List.filterMap id) hC
      simpa [List.filterMap_map, Function.comp_def] using h1), va_K.moved hW.alike (hK.sub isT hT), (hD.sub isC hnd hC).weaken (fun _ _ _ _ => trivial), by rw [hU]; exact ka_SE_narrow (ka_SE_moved hW.alike (ka_SE_kept hE hS.2.1)) hF, ka_NW_warm hW hN⟩
theorem ka_RV {K : String} {post : Option Value → Prop} (C : CallFix p m c cc nL s args Ts own) (hM : ka_R l D F y wy fr lo (.ref b :: As) wc tc post) (hG : GoodIn Ts (wsV own index K y wy)) (hw : wy = Cond.code y bytes maxL ret :: wy') (hd : y.cls = K ∧ y.cls ≠ "java/lang/invoke/MethodHandle" ∧ y.cls ≠ "java/lang/invoke/VarHandle" ∧ (parseMethodDescriptor y.desc).map (fun d => d.parameters.length) = some n) (hR : fr + 1 ≤ R.frames ∧ 8 + (maxL + 11) + lo ≤ R.locals) (hK : va_K D vwCl tys s) (hP : va_P D vwCl ws H) (hS : va_S A s.heap H locs) (hE : ka_SE D F A s s.heap) (hN : ka_NW s) (isC : List Nat) (hC : isC.filterMap (fun i => ws[i]?) = wc) (isT : List Nat) (hT : isT.filterMap (fun i => tys[i]?) = tc) {ci : Nat} {r : vw_C} (hc : vwCl[ci]? = some r) (hrc : r.1 = K) (q0 : Nat) (he : ws[q0]? = some (b, .inr (ci, fs))) (hn : As.length = n) (hsz : ls.size = nL) (hst : st0 = As.reverse ++ .ref b :: rest) (hW : (rest.map fun v => v.category).sum ≤ 8) (hdg : decode cc pc = .ok (.invokevirtual index, 3)) (hf : cells ≤ R.cells ∧ slots ≤ R.slots)
    (kk : ∀ v : Option Value, post v → W p l e R s m args below meth c H locs cells slots Q (F0 m (pc + 3) ls (v.toList ++ rest))) : W p l e R s m args below meth c H locs cells slots Q (F0 m pc ls st0) := by
  subst hrc
  exact ka_cR (va_runV (As := As) (rest := rest) C hM (cwV n C.2.2.2.2 hG hw rfl rfl hd hR) ⟨ka_blR, va_recv hK hP hc he, ka_preR hK hP hS hE hN isC hC isT hT⟩ rfl hn hsz hst (lv_room hW) hdg hf) kk
theorem kb_RVr {K : String} {post : Option Value → Prop} (C : CallFix p m c cc nL s args Ts own) (hM : ka_R l D F y wy fr lo (.ref b :: As) wc tc post) (hG : GoodIn Ts (wsV own index K y wy)) (hw : wy = Cond.code y bytes maxL ret :: wy') (hd : y.cls = K ∧ y.cls ≠ "java/lang/invoke/MethodHandle" ∧ y.cls ≠ "java/lang/invoke/VarHandle" ∧ (parseMethodDescriptor y.desc).map (fun d => d.parameters.length) = some n) (hR : fr + 1 ≤ R.frames ∧ 8 + (maxL + 11) + lo ≤ R.locals) (hK : va_K D vwCl tys s) (hP : va_P D vwCl ws H) (hS : va_S A s.heap H locs) (hE : ka_SE D F A s s.heap) (hN : ka_NW s) (isC : List Nat) (hC : isC.filterMap (fun i => ws[i]?) = wc) (isT : List Nat) (hT : isT.filterMap (fun i => tys[i]?) = tc) {tysr : ka_Ty} {wsr : va_W} (hKr : va_K D vwCl tysr s) (hPr : va_P D vwCl wsr H) {ci : Nat} {r : vw_C} (hc : vwCl[ci]? = some r) (hrc : r.1 = K) (q0 : Nat) (he : wsr[q0]? = some (b, .inr (ci, fs))) (hn : As.length = n) (hsz : ls.size = nL) (hst : st0 = As.reverse ++ .ref b :: rest) (hW : (rest.map fun v => v.category).sum ≤ 8) (hdg : decode cc pc = .ok (.invokevirtual index, 3)) (hf : cells ≤ R.cells ∧ slots ≤ R.slots)
    (kk : ∀ v : Option Value, post v → W p l e R s m args below meth c H locs cells slots Q (F0 m (pc + 3) ls (v.toList ++ rest))) : W p l e R s m args below meth c H locs cells slots Q (F0 m pc ls st0) := by
  subst hrc
  exact ka_cR (va_runV (As := As) (rest := rest) C hM (cwV n C.2.2.2.2 hG hw rfl rfl hd hR) ⟨ka_blR, va_recv hKr hPr hc he, ka_preR hK hP hS hE hN isC hC isT hT⟩ rfl hn hsz hst (lv_room hW) hdg hf) kk
theorem ka_RS {post : Option Value → Prop} (C : CallFix p m c cc nL s args Ts own) (hM : ka_R l D F y wy fr lo As wc tc post) (hG : GoodIn Ts (va_wsS own index y wy)) (hw : wy = Cond.code y bytes maxL ret :: wy') (hd : y.cls ≠ "java/lang/invoke/MethodHandle" ∧ y.cls ≠ "java/lang/invoke/VarHandle" ∧ (parseMethodDescriptor y.desc).map (fun d => d.parameters.length) = some n) (hR : fr + 1 ≤ R.frames ∧ 8 + (maxL + 11) + lo ≤ R.locals) (hK : va_K D vwCl tys s) (hP : va_P D vwCl ws H) (hS : va_S A s.heap H locs) (hE : ka_SE D F A s s.heap) (hN : ka_NW s) (isC : List Nat) (hC : isC.filterMap (fun i => ws[i]?) = wc) (isT : List Nat) (hT : isT.filterMap (fun i => tys[i]?) = tc) (hn : As.length = n) (hsz : ls.size = nL) (hst : st0 = As.reverse ++ rest) (hW : (rest.map fun v => v.category).sum ≤ 8) (hdg : decode cc pc = .ok (.invokestatic index, 3)) (hf : cells ≤ R.cells ∧ slots ≤ R.slots)
    (kk : ∀ v : Option Value, post v → W p l e R s m args below meth c H locs cells slots Q (F0 m (pc + 3) ls (v.toList ++ rest))) : W p l e R s m args below meth c H locs cells slots Q (F0 m pc ls st0) :=
  ka_cR (va_runS (As := As) (rest := rest) C hM (va_cwS n C.2.2.2.2 hG hw rfl rfl hd hR) ⟨ka_blR, ka_preR hK hP hS hE hN isC hC isT hT⟩ rfl hn hsz hst (lv_room hW) hdg hf) kk
theorem ka_RN {host : String} {post : Option Value → Prop} (C : CallFix p m c cc nL s args Ts own) (hM : ka_R l D F y wy fr lo As wc tc post) (hG : GoodIn Ts wy) (hw : wy = Cond.code y bytes maxL ret :: wy') (hnw : va_Nw (.methodLinkNest own index y host) s) (hini : Cond.initialized y.cls ∈ Ts) (hsta : Cond.static y ∈ Ts) (hd : y.cls ≠ "java/lang/invoke/MethodHandle" ∧ y.cls ≠ "java/lang/invoke/VarHandle" ∧ (parseMethodDescriptor y.desc).map (fun d => d.parameters.length) = some n) (hR : fr + 1 ≤ R.frames ∧ 8 + (maxL + 11) + lo ≤ R.locals) (hK : va_K D vwCl tys s) (hP : va_P D vwCl ws H) (hS : va_S A s.heap H locs) (hE : ka_SE D F A s s.heap) (hN : ka_NW s) (isC : List Nat) (hC : isC.filterMap (fun i => ws[i]?) = wc) (isT : List Nat) (hT : isT.filterMap (fun i => tys[i]?) = tc) (hn : As.length = n) (hsz : ls.size = nL) (hst : st0 = As.reverse ++ rest) (hW : (rest.map fun v => v.category).sum ≤ 8) (hdg : decode cc pc = .ok (.invokestatic index, 3)) (hf : cells ≤ R.cells ∧ slots ≤ R.slots)
    (kk : ∀ v : Option Value, post v → W p l e R s m args below meth c H locs cells slots Q (F0 m (pc + 3) ls (v.toList ++ rest))) : W p l e R s m args below meth c H locs cells slots Q (F0 m pc ls st0) :=
  ka_cR (va_runSN (As := As) (rest := rest) C hM ⟨va_cnB n C.2.2.2.2 hG hw rfl rfl hnw (C.2.2.2.2 _ hini) hd hR, C.2.2.2.2 _ hsta, trivial⟩ ⟨ka_blR, ka_preR hK hP hS hE hN isC hC isT hT⟩ rfl hn hsz hst (lv_room hW) hdg hf) kk
theorem ka_EV {S : Type} {rv : S → Option Value} {post : S → Prop} {wo : S → va_W} {to : S → ka_Ty} {K : String} (C : CallFix p m c cc nL s args Ts own) (hM : ka_E l D F y wy fr lo mc ms (.ref b :: As) wc tc rv post wo to) (hG : GoodIn Ts (wsV own index K y wy)) (hw : wy = Cond.code y bytes maxL ret :: wy') (hd : y.cls = K ∧ y.cls ≠ "java/lang/invoke/MethodHandle" ∧ y.cls ≠ "java/lang/invoke/VarHandle" ∧ (parseMethodDescriptor y.desc).map (fun d => d.parameters.length) = some n) (hR : fr + 1 ≤ R.frames ∧ 8 + (maxL + 11) + lo ≤ R.locals) (hK : va_K D vwCl tys s) (hP : va_P D vwCl ws H) (hD : va_D A ws) (hS : va_S A s.heap H locs) (hA : ∀ q, s.heap.size ≤ q → A q) (hE : ka_SE D F A s s.heap) (hN : ka_NW s) (isC : List Nat) (hC : isC.map (fun i => ws[i]?) = wc.map some) (hnd : va_nd isC = true) (isR : List Nat) (hRr : isR.map (fun i => ws[i]?) = wr.map some) (hnr : va_nd isR = true) (hdis : ∀ i ∈ isR, i ∉ isC) (isT : List Nat) (hT : isT.filterMap (fun i => tys[i]?) = tc) {ci : Nat} {r : vw_C} (hc : vwCl[ci]? = some r) (hrc : r.1 = K) (q0 : Nat) (he : ws[q0]? = some (b, .inr (ci, fs))) (hn : As.length = n) (hsz : ls.size = nL) (hst : st0 = As.reverse ++ .ref b :: rest) (hW : (rest.map fun v => v.category).sum ≤ 8) (hdg : decode cc pc = .ok (.invokevirtual index, 3)) (hf : cells + mc ≤ R.cells ∧ slots + ms ≤ R.slots)
    (kk : ∀ (u : S) (H1 : Heap) (locs1 : List Loc), post u → va_P D vwCl (wr ++ wo u) H1 → va_D A (wr ++ wo u) → va_K D vwCl (tys ++ to u) s → va_S A s.heap H1 locs1 → W p l e R s m args below meth c H1 locs1 (cells + mc) (slots + ms) Q (F0 m (pc + 3) ls ((rv u).toList ++ rest))) : W p l e R s m args below meth c H locs cells slots Q (F0 m pc ls st0) := by
  subst hrc
  have hF := va_free (wc := wc) hD hS hA isC hC
  exact ka_cE (va_runV (As := As) (rest := rest) C (hM H.size) (cwV n C.2.2.2.2 hG hw rfl rfl hd hR) ⟨ka_blE, va_recv hK hP hc he, ka_preE hK hP hD hS hF hE hN isC hC hnd isT hT⟩ rfl hn hsz hst (lv_room hW) hdg hf) hK hP hD hS hF isC isR hC hRr hnr hdis kk
theorem ka_EI {S : Type} {rv : S → Option Value} {post : S → Prop} {wo : S → va_W} {to : S → ka_Ty} (C : CallFix p m c cc nL s args Ts own) (hM : ka_E l D F y wy fr lo mc ms (.ref b :: As) wc tc rv post wo to) (hG : GoodIn Ts wy) (hw : wy = Cond.code y bytes maxL none :: wy') (hini : Cond.initialized y.cls ∈ Ts) (hlk : Cond.methodLink own index y ∈ Ts) (hins : Cond.instanceMethod y ∈ Ts) (hnm : y.name = "<init>") (hd : y.cls ≠ "java/lang/invoke/MethodHandle" ∧ y.cls ≠ "java/lang/invoke/VarHandle" ∧ (parseMethodDescriptor y.desc).map (fun d => d.parameters.length) = some n) (hR : fr + 1 ≤ R.frames ∧ 8 + (maxL + 11) + lo ≤ R.locals) (hK : va_K D vwCl tys s) (hP : va_P D vwCl ws H) (hD : va_D A ws) (hS : va_S A s.heap H locs) (hA : ∀ q, s.heap.size ≤ q → A q) (hE : ka_SE D F A s s.heap) (hN : ka_NW s) (isC : List Nat) (hC : isC.map (fun i => ws[i]?) = wc.map some) (hnd : va_nd isC = true) (isR : List Nat) (hRr : isR.map (fun i => ws[i]?) = wr.map some) (hnr : va_nd isR = true) (hdis : ∀ i ∈ isR, i ∉ isC) (isT : List Nat) (hT : isT.filterMap (fun i => tys[i]?) = tc) (hn : As.length = n) (hsz : ls.size = nL) (hst : st0 = As.reverse ++ .ref b :: rest) (hW : (rest.map fun v => v.category).sum ≤ 8) (hdg : decode cc pc = .ok (.invokespecial index, 3)) (hf : cells + mc ≤ R.cells ∧ slots + ms ≤ R.slots)
    (kk : ∀ (u : S) (H1 : Heap) (locs1 : List Loc), post u → va_P D vwCl (wr ++ wo u) H1 → va_D A (wr ++ wo u) → va_K D vwCl (tys ++ to u) s → va_S A s.heap H1 locs1 → W p l e R s m args below meth c H1 locs1 (cells + mc) (slots + ms) Q (F0 m (pc + 3) ls ((rv u).toList ++ rest))) : W p l e R s m args below meth c H locs cells slots Q (F0 m pc ls st0) := by
  have hF := va_free (wc := wc) hD hS hA isC hC
  exact ka_cE (va_runI (As := As) (rest := rest) C (hM H.size) (cwI n C.2.2.2.2 hG hw rfl rfl (C.2.2.2.2 _ hini) (C.2.2.2.2 _ hlk) (C.2.2.2.2 _ hins) hnm hd hR) ⟨ka_blE, ka_preE hK hP hD hS hF hE hN isC hC hnd isT hT⟩ rfl hn hsz hst (lv_room hW) hdg hf) hK hP hD hS hF isC isR hC hRr hnr hdis kk
theorem kb_ES {S : Type} {rv : S → Option Value} {post : S → Prop} {wo : S → va_W} {to : S → ka_Ty} (C : CallFix p m c cc nL s args Ts own) (hM : ka_E l D F y wy fr lo mc ms As wc tc rv post wo to) (hG : GoodIn Ts (va_wsS own index y wy)) (hw : wy = Cond.code y bytes maxL ret :: wy') (hd : y.cls ≠ "java/lang/invoke/MethodHandle" ∧ y.cls ≠ "java/lang/invoke/VarHandle" ∧ (parseMethodDescriptor y.desc).map (fun d => d.parameters.length) = some n) (hR : fr + 1 ≤ R.frames ∧ 8 + (maxL + 11) + lo ≤ R.locals) (hK : va_K D vwCl tys s) (hP : va_P D vwCl ws H) (hD : va_D A ws) (hS : va_S A s.heap H locs) (hA : ∀ q, s.heap.size ≤ q → A q) (hE : ka_SE D F A s s.heap) (hN : ka_NW s) (isC : List Nat) (hC : isC.map (fun i => ws[i]?) = wc.map some) (hnd : va_nd isC = true) (isR : List Nat) (hRr : isR.map (fun i => ws[i]?) = wr.map some) (hnr : va_nd isR = true) (hdis : ∀ i ∈ isR, i ∉ isC) (isT : List Nat) (hT : isT.filterMap (fun i => tys[i]?) = tc) (hn : As.length = n) (hsz : ls.size = nL) (hst : st0 = As.reverse ++ rest) (hW : (rest.map fun v => v.category).sum ≤ 8) (hdg : decode cc pc = .ok (.invokestatic index, 3)) (hf : cells + mc ≤ R.cells ∧ slots + ms ≤ R.slots)
    (kk : ∀ (u : S) (H1 : Heap) (locs1 : List Loc), post u → va_P D vwCl (wr ++ wo u) H1 → va_D A (wr ++ wo u) → va_K D vwCl (tys ++ to u) s → va_S A s.heap H1 locs1 → W p l e R s m args below meth c H1 locs1 (cells + mc) (slots + ms) Q (F0 m (pc + 3) ls ((rv u).toList ++ rest))) : W p l e R s m args below meth c H locs cells slots Q (F0 m pc ls st0) := by
  have hF := va_free (wc := wc) hD hS hA isC hC
  exact ka_cE (va_runS (As := As) (rest := rest) C (hM H.size) (va_cwS n C.2.2.2.2 hG hw rfl rfl hd hR) ⟨ka_blE, ka_preE hK hP hD hS hF hE hN isC hC hnd isT hT⟩ rfl hn hsz hst (lv_room hW) hdg hf) hK hP hD hS hF isC isR hC hRr hnr hdis kk
theorem ka_EN {S : Type} {rv : S → Option Value} {post : S → Prop} {wo : S → va_W} {to : S → ka_Ty} {host : String} (C : CallFix p m c cc nL s args Ts own) (hM : ka_E l D F y wy fr lo mc ms (.ref b :: As) wc tc rv post wo to) (hG : GoodIn Ts wy) (hw : wy = Cond.code y bytes maxL none :: wy') (hnw : va_Nw (.methodLinkNest own index y host) s) (hini : Cond.initialized y.cls ∈ Ts) (hins : Cond.instanceMethod y ∈ Ts) (hnm : y.name = "<init>") (hd : y.cls ≠ "java/lang/invoke/MethodHandle" ∧ y.cls ≠ "java/lang/invoke/VarHandle" ∧ (parseMethodDescriptor y.desc).map (fun d => d.parameters.length) = some n) (hR : fr + 1 ≤ R.frames ∧ 8 + (maxL + 11) + lo ≤ R.locals) (hK : va_K D vwCl tys s) (hP : va_P D vwCl ws H) (hD : va_D A ws) (hS : va_S A s.heap H locs) (hA : ∀ q, s.heap.size ≤ q → A q) (hE : ka_SE D F A s s.heap) (hN : ka_NW s) (isC : List Nat) (hC : isC.map (fun i => ws[i]?) = wc.map some) (hnd : va_nd isC = true) (isR : List Nat) (hRr : isR.map (fun i => ws[i]?) = wr.map some) (hnr : va_nd isR = true) (hdis : ∀ i ∈ isR, i ∉ isC) (isT : List Nat) (hT : isT.filterMap (fun i => tys[i]?) = tc) (hn : As.length = n) (hsz : ls.size = nL) (hst : st0 = As.reverse ++ .ref b :: rest) (hW : (rest.map fun v => v.category).sum ≤ 8) (hdg : decode cc pc = .ok (.invokespecial index, 3)) (hf : cells + mc ≤ R.cells ∧ slots + ms ≤ R.slots)
    (kk : ∀ (u : S) (H1 : Heap) (locs1 : List Loc), post u → va_P D vwCl (wr ++ wo u) H1 → va_D A (wr ++ wo u) → va_K D vwCl (tys ++ to u) s → va_S A s.heap H1 locs1 → W p l e R s m args below meth c H1 locs1 (cells + mc) (slots + ms) Q (F0 m (pc + 3) ls ((rv u).toList ++ rest))) : W p l e R s m args below meth c H locs cells slots Q (F0 m pc ls st0) := by
  have hF := va_free (wc := wc) hD hS hA isC hC
  exact ka_cE (va_runIN (As := As) (rest := rest) C (hM H.size) ⟨va_cnB n C.2.2.2.2 hG hw rfl rfl hnw (C.2.2.2.2 _ hini) hd hR, hnm, C.2.2.2.2 _ hins⟩ ⟨ka_blE, ka_preE hK hP hD hS hF hE hN isC hC hnd isT hT⟩ rfl hn hsz hst (lv_room hW) hdg hf) hK hP hD hS hF isC isR hC hRr hnr hdis kk
/-- references that may be null -/
theorem kb_topo {o : Option Nat} (k : ∀ z : Option Nat, z = o → W p l e R s m args below meth c H locs cells slots Q (F0 m pc ls (va_rf z :: rest))) : W p l e R s m args below meth c H locs cells slots Q (F0 m pc ls (va_rf o :: rest)) := k o rfl
theorem kb_aload_n (hexec : p.tables.exec = Jvm.exec) (hb : c.code = cc) {k : Fin 4} {i : Nat} {o : Option Nat} (hdg : decode cc pc = .ok (.aload_n k, 1)) (hi : (k : Nat) = i) (hl : ls[i]? = some (.val (va_rf o))) (kk : W p l e R s m args below meth c H locs cells slots Q (F0 m (pc + 1) ls (va_rf o :: rest))) : W p l e R s m args below meth c H locs cells slots Q (F0 m pc ls rest) := by
  cases o with
  | none => exact lv_aload_nN hexec hb hdg hi hl kk
  | some a => exact lv_aload_n hexec hb hdg hi hl kk
theorem kb_aload (hexec : p.tables.exec = Jvm.exec) (hb : c.code = cc) {i : Nat} {o : Option Nat} (hdg : decode cc pc = .ok (.aload i, 2)) (hl : ls[i]? = some (.val (va_rf o))) (kk : W p l e R s m args below meth c H locs cells slots Q (F0 m (pc + 2) ls (va_rf o :: rest))) : W p l e R s m args below meth c H locs cells slots Q (F0 m pc ls rest) := by
  cases o with
  | none => exact lv_aloadN hexec hb hdg hl kk
  | some a => exact lv_aload hexec hb hdg hl kk
theorem kb_astore_n (hexec : p.tables.exec = Jvm.exec) (hb : c.code = cc) {k : Fin 4} {i nL : Nat} {o : Option Nat} {lv lv' : List (Nat × Value)} (hdg : decode cc pc = .ok (.astore_n k, 1)) (hi : (k : Nat) = i) (h : lv_has ls nL lv) (hn : i < nL) (hl : (i, va_rf o) :: lv.filter (fun q => !(q.1 == i) && !(q.1 + 1 == i && q.2.category == 2)) = lv') (kk : ∀ ls' : Array Slot, lv_has ls' nL lv' → W p l e R s m args below meth c H locs cells slots Q (F0 m (pc + 1) ls' rest)) : W p l e R s m args below meth c H locs cells slots Q (F0 m pc ls (va_rf o :: rest)) := by
  cases o with
  | none => exact lv_astore_nN hexec hb hdg hi h hn hl kk
  | some a => exact lv_astore_n hexec hb hdg hi h hn hl kk
theorem kb_astore (hexec : p.tables.exec = Jvm.exec) (hb : c.code = cc) {i nL : Nat} {o : Option Nat} {lv lv' : List (Nat × Value)} (hdg : decode cc pc = .ok (.astore i, 2)) (h : lv_has ls nL lv) (hn : i < nL) (hl : (i, va_rf o) :: lv.filter (fun q => !(q.1 == i) && !(q.1 + 1 == i && q.2.category == 2)) = lv') (kk : ∀ ls' : Array Slot, lv_has ls' nL lv' → W p l e R s m args below meth c H locs cells slots Q (F0 m (pc + 2) ls' rest)) : W p l e R s m args below meth c H locs cells slots Q (F0 m pc ls (va_rf o :: rest)) := by
  cases o with
  | none => exact lv_astoreN hexec hb hdg h hn hl kk
  | some a => exact lv_astore hexec hb hdg h hn hl kk
theorem kb_ifnull (hexec : p.tables.exec = Jvm.exec) (hb : c.code = cc) {o : Option Nat} {off : Int} {tgt : Nat} (hdg : decode cc pc = .ok (.ifnull off, 3)) (ht : (pc : Int) + off = (tgt : Int)) (k1 : o = none → W p l e R s m args below meth c H locs cells slots Q (F0 m tgt ls rest)) (k2 : ∀ a : Nat, o = some a → W p l e R s m args below meth c H locs cells slots Q (F0 m (pc + 3) ls rest)) : W p l e R s m args below meth c H locs cells slots Q (F0 m pc ls (va_rf o :: rest)) := by
  cases o with
  | none => exact lv_ifnullN hexec hb hdg ht (k1 rfl)
  | some a => exact lv_ifnull hexec hb hdg (k2 a rfl)
theorem kb_ifnonnull (hexec : p.tables.exec = Jvm.exec) (hb : c.code = cc) {o : Option Nat} {off : Int} {tgt : Nat} (hdg : decode cc pc = .ok (.ifnonnull off, 3)) (ht : (pc : Int) + off = (tgt : Int)) (k1 : ∀ a : Nat, o = some a → W p l e R s m args below meth c H locs cells slots Q (F0 m tgt ls rest)) (k2 : o = none → W p l e R s m args below meth c H locs cells slots Q (F0 m (pc + 3) ls rest)) : W p l e R s m args below meth c H locs cells slots Q (F0 m pc ls (va_rf o :: rest)) := by
  cases o with
  | none => exact lv_ifnonnullN hexec hb hdg (k2 rfl)
  | some a => exact lv_ifnonnull hexec hb hdg ht (k1 a rfl)
/-- returns of a contract of kind R -/
theorem ka_rRi {post : Option Value → Prop} {v : Int32} (C : CallFix p m c cc nL s args Ts own) (hr : meth.sig.returnType = some .int) (hlk : meth.locks = false) (hp : post (some (.int v))) (hdg : decode cc pc = .ok (.ireturn, 1)) : W p l e R s m args below meth c s.heap [] 0 0 (MQ below (ka_QR post) args s 0 0 (fun _ => False)) (F0 m pc ls [.int v]) :=
  W.iret C.1 C.2.1 hr (fun t ht _ => ⟨_, rfl, hp, ht⟩) (fun _ h => by cases h) hdg hlk
theorem ka_rRv {post : Option Value → Prop} (C : CallFix p m c cc nL s args Ts own) (hr : meth.sig.returnType = none) (hlk : meth.locks = false) (hp : post none) (hdg : decode cc pc = .ok (.return_, 1)) : W p l e R s m args below meth c s.heap [] 0 0 (MQ below (ka_QR post) args s 0 0 (fun _ => False)) (F0 m pc ls []) :=
  W.vret C.1 C.2.1 hr (fun t ht _ => ⟨_, rfl, hp, ht⟩) (fun _ h => by cases h) hdg hlk
theorem ka_rRz {post : Option Value → Prop} {v : Int32} (C : CallFix p m c cc nL s args Ts own) (hr : meth.sig.returnType = some .boolean) (hlk : meth.locks = false) (hn : narrow .boolean (.int v) = .int v) (hp : post (some (.int v))) (hdg : decode cc pc = .ok (.ireturn, 1)) : W p l e R s m args below meth c s.heap [] 0 0 (MQ below (ka_QR post) args s 0 0 (fun _ => False)) (F0 m pc ls [.int v]) :=
  W.zret C.1 C.2.1 hr hn (fun t ht _ => ⟨_, rfl, hp, ht⟩) (fun _ h => by cases h) hdg hlk
theorem ka_rRa {post : Option Value → Prop} {v : Value} {rt : FieldType} (C : CallFix p m c cc nL s args Ts own) (hr : meth.sig.returnType = some rt) (hlk : meth.locks = false) (hrt : (∃ n, rt = .object n) ∨ ∃ t, rt = .array t) (hv : v = .null ∨ ∃ a, v = .ref a) (hp : post (some v)) (hdg : decode cc pc = .ok (.areturn, 1)) : W p l e R s m args below meth c s.heap [] 0 0 (MQ below (ka_QR post) args s 0 0 (fun _ => False)) (F0 m pc ls [v]) :=
  W.aret C.1 C.2.1 hr hrt hv (fun t ht _ => ⟨_, rfl, hp, ht⟩) (fun _ h => by cases h) hdg hlk
/-- returns of a contract of kind E -/
theorem ka_qE {S : Type} {rv : S → Option Value} {post : S → Prop} {wo : S → va_W} {to : S → ka_Ty} {av : Array Value} {v : Option Value} (u : S) (hv : rv u = v) (hp : post u) (hK : va_K D vwCl tys s) (hP : va_P D vwCl ws H) (hD : va_D A ws) (hS : va_S A s.heap H locs) (is : List Nat) (hnd : va_nd is = true) (his : is.map (fun i => ws[i]?) = (wo u).map some) (isT : List Nat) (hT : isT.filterMap (fun i => tys[i]?) = to u) : ∀ t : State, t.heap = H → s.WarmedH t.vm → ka_QE D A rv post wo to av s (.returned v) t := fun t ht hW => by
  subst hv
  exact ⟨⟨u, rfl, hp, by
    rw [ht]
    exact hP.sub is (by
      have h1 := congrArg (List.filterMap id) his
      simpa [List.filterMap_map, Function.comp_def] using h1), va_K.moved hW.alike (hK.sub isT hT), hD.sub is hnd his⟩, hS.F ht⟩
theorem ka_rEv {S : Type} {rv : S → Option Value} {post : S → Prop} {wo : S → va_W} {to : S → ka_Ty} (C : CallFix p m c cc nL s args Ts own) (hr : meth.sig.returnType = none) (hlk : meth.locks = false) (hcm : cells ≤ mc) (hsm : slots ≤ ms) (hS : va_S A s.heap H locs) (hq : ∀ t : State, t.heap = H → s.WarmedH t.vm → ka_QE D A rv post wo to args s (.returned none) t) (hdg : decode cc pc = .ok (.return_, 1)) : W p l e R s m args below meth c H locs cells slots (MQ below (ka_QE D A rv post wo to) args s mc ms A) (F0 m pc ls []) :=
  W.widen hcm hsm (W.vret C.1 C.2.1 hr hq hS.2.2 hdg hlk)
theorem ka_rEi {S : Type} {rv : S → Option Value} {post : S → Prop} {wo : S → va_W} {to : S → ka_Ty} {v : Int32} (C : CallFix p m c cc nL s args Ts own) (hr : meth.sig.returnType = some .int) (hlk : meth.locks = false) (hcm : cells ≤ mc) (hsm : slots ≤ ms) (hS : va_S A s.heap H locs) (hq : ∀ t : State, t.heap = H → s.WarmedH t.vm → ka_QE D A rv post wo to args s (.returned (some (.int v))) t) (hdg : decode cc pc = .ok (.ireturn, 1)) : W p l e R s m args below meth c H locs cells slots (MQ below (ka_QE D A rv post wo to) args s mc ms A) (F0 m pc ls [.int v]) :=
  W.widen hcm hsm (W.iret C.1 C.2.1 hr hq hS.2.2 hdg hlk)
theorem ka_rEz {S : Type} {rv : S → Option Value} {post : S → Prop} {wo : S → va_W} {to : S → ka_Ty} {v : Int32} (C : CallFix p m c cc nL s args Ts own) (hr : meth.sig.returnType = some .boolean) (hlk : meth.locks = false) (hn : narrow .boolean (.int v) = .int v) (hcm : cells ≤ mc) (hsm : slots ≤ ms) (hS : va_S A s.heap H locs) (hq : ∀ t : State, t.heap = H → s.WarmedH t.vm → ka_QE D A rv post wo to args s (.returned (some (.int v))) t) (hdg : decode cc pc = .ok (.ireturn, 1)) : W p l e R s m args below meth c H locs cells slots (MQ below (ka_QE D A rv post wo to) args s mc ms A) (F0 m pc ls [.int v]) :=
  W.widen hcm hsm (W.zret C.1 C.2.1 hr hn hq hS.2.2 hdg hlk)
theorem ka_rEa {S : Type} {rv : S → Option Value} {post : S → Prop} {wo : S → va_W} {to : S → ka_Ty} {v : Value} {rt : FieldType} (C : CallFix p m c cc nL s args Ts own) (hr : meth.sig.returnType = some rt) (hlk : meth.locks = false) (hrt : (∃ n, rt = .object n) ∨ ∃ t, rt = .array t) (hv : v = .null ∨ ∃ a, v = .ref a) (hcm : cells ≤ mc) (hsm : slots ≤ ms) (hS : va_S A s.heap H locs) (hq : ∀ t : State, t.heap = H → s.WarmedH t.vm → ka_QE D A rv post wo to args s (.returned (some v)) t) (hdg : decode cc pc = .ok (.areturn, 1)) : W p l e R s m args below meth c H locs cells slots (MQ below (ka_QE D A rv post wo to) args s mc ms A) (F0 m pc ls [v]) :=
  W.widen hcm hsm (W.aret C.1 C.2.1 hr hrt hv hq hS.2.2 hdg hlk)
end KA
/-! numbers -/
theorem ka_lt' (a b : Int32) : a < b ↔ a.toInt < b.toInt := Int32.lt_iff_toInt_lt
theorem ka_le' (a b : Int32) : a ≤ b ↔ a.toInt ≤ b.toInt := Int32.le_iff_toInt_le
theorem ka_eq' (a b : Int32) : a = b ↔ a.toInt = b.toInt := Int32.toInt_inj.symm
theorem ka_bmod {x : Int} (h1 : -2147483648 ≤ x) (h2 : x < 2147483648) : x.bmod 4294967296 = x := by
  rw [Int.bmod_def]
  split <;> omega
theorem ka_add {a b : Int32} {x y : Int} (ha : a.toInt = x) (hb : b.toInt = y) (h1 : -2147483648 ≤ x + y) (h2 : x + y < 2147483648) : (a + b).toInt = x + y := by
  rw [Int32.toInt_add, ha, hb]
  exact ka_bmod h1 h2
theorem ka_sub {a b : Int32} {x y : Int} (ha : a.toInt = x) (hb : b.toInt = y) (h1 : -2147483648 ≤ x - y) (h2 : x - y < 2147483648) : (a - b).toInt = x - y := by
  rw [Int32.toInt_sub, ha, hb]
  exact ka_bmod h1 h2
theorem ka_mul {a b : Int32} {x y : Int} (ha : a.toInt = x) (hb : b.toInt = y) (h1 : -2147483648 ≤ x * y) (h2 : x * y < 2147483648) : (a * b).toInt = x * y := by
  rw [Int32.toInt_mul, ha, hb]
  exact ka_bmod h1 h2
theorem ka_in {i : Int32} {n : Nat} (h1 : 0 ≤ i.toInt) (h2 : i.toInt < n) : vp_in i n := vp_in_iff.mpr ⟨h1, h2⟩
theorem ka_rng (x : Int32) : -2147483648 ≤ x.toInt ∧ x.toInt < 2147483648 := by
  have h1 := Int32.le_toInt x
  have h2 := Int32.toInt_lt x
  omega
