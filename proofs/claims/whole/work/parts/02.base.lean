/-! the base: worlds of this claim, contracts, returns, calls, loops -/
/-- words that travel beside the kept ones -/
def kN (U : State) : Prop :=
  va_Nw (.methodLinkNest RX10 17 yX3_init "SilkWord") U ∧ va_Nw (.methodLinkNest RX10 20 yX4_init "SilkWord") U ∧ va_Nw (.methodLinkNest RX10 27 yX7_init "SilkWord") U ∧
  va_Nw (.methodLinkNest RX10 34 yX1_init "SilkWord") U ∧ va_Nw (.methodLinkNest RX10 41 yX2_init "SilkWord") U ∧ va_Nw (.methodLinkNest RX10 57 yX8_init "SilkWord") U ∧
  va_Nw (.methodLinkNest RX9 11 yX7_init "SilkWord") U ∧ va_Nw (.methodLinkNest RX9 20 yX1_init "SilkWord") U ∧
  va_Nw (.methodLinkNest RX7 54 yX10_isIn "SilkWord") U ∧ va_Nw (.methodLinkNest RX1 57 yX10_isIn "SilkWord") U ∧ va_Nw (.methodLinkNest RX1 64 yX10_isDay "SilkWord") U ∧
  va_Nw (.methodLinkNest RX9 57 yX10_isIn "SilkWord") U ∧ va_Nw (.methodLinkNest RX2 38 yX10_isIn "SilkWord") U ∧
  va_Nw (.castable "SilkWord$Tailor" "SilkWord$Subject") U ∧
  va_AO "SilkWord$Sheet" U ∧ va_AO "SilkWord$Subject" U ∧ va_Nw (.castable "SilkWord$Courtier" "SilkWord$Subject") U
theorem kN.warm {s U : State} (hW : s.WarmedH U.vm) (h : kN s) : kN U := by
  obtain ⟨h1, h2, h3, h4, h5, h6, h7, h8, h9, h10, h11, h12, h13, h14, h15, h16, h17⟩ := h
  exact ⟨va_Nw.warmM hW h1, va_Nw.warmM hW h2, va_Nw.warmM hW h3, va_Nw.warmM hW h4, va_Nw.warmM hW h5, va_Nw.warmM hW h6, va_Nw.warmM hW h7, va_Nw.warmM hW h8, va_Nw.warmM hW h9, va_Nw.warmM hW h10, va_Nw.warmM hW h11, va_Nw.warmM hW h12, va_Nw.warmM hW h13, va_Nw.warmC hW h14, h15.moved hW.alike, h16.moved hW.alike, va_Nw.warmC hW h17⟩
theorem kN.same {u U : State} (h : u.vm = U.vm) (hN : kN u) : kN U := by
  obtain ⟨h1, h2, h3, h4, h5, h6, h7, h8, h9, h10, h11, h12, h13, h14, h15, h16, h17⟩ := hN
  have e : u.vm.Alike U.vm := h ▸ Vm.Alike.refl u.vm
  exact ⟨va_Nw.same rfl h h1, va_Nw.same rfl h h2, va_Nw.same rfl h h3, va_Nw.same rfl h h4, va_Nw.same rfl h h5, va_Nw.same rfl h h6, va_Nw.same rfl h h7, va_Nw.same rfl h h8, va_Nw.same rfl h h9, va_Nw.same rfl h h10, va_Nw.same rfl h h11, va_Nw.same rfl h h12, va_Nw.same rfl h h13, va_Nw.same rfl h h14, h15.moved e, h16.moved e, va_Nw.same rfl h h17⟩
/-- a world at a method's start, and behind it -/
def kP (D : va_G) (tys : List (ClassId × FieldType)) (ws : va_W) (sz : Nat) (U : State) : Prop := U.heap.size = sz ∧ va_P D vwCl ws U.heap ∧ va_K D vwCl tys U ∧ kN U ∧ va_D (fun _ => True) ws
def kB {S : Type} (D : va_G) (tys : List (ClassId × FieldType)) (A : Nat → Prop) (ws : S → va_W) (u : S) (t : State) : Prop := va_P D vwCl (ws u) t.heap ∧ va_K D vwCl tys t ∧ va_D A (ws u)
def kBr {S : Type} (D : va_G) (tys : List (ClassId × FieldType)) (A : Nat → Prop) (ws : S → Nat → va_W) (u : S) (a : Nat) (t : State) : Prop := va_P D vwCl (ws u a) t.heap ∧ va_K D vwCl tys t ∧ va_D A (ws u a)
def kMi {S : Type} (l : Launch) (y : MethodName) (wd : List Cond) (rm : Room) (D : va_G) (tys : List (ClassId × FieldType)) (av : List Value) (ws : va_W) (post : Int32 → S → Prop) (ws' : S → va_W) : Prop :=
  ∀ sz : Nat, Met l y wd rm (va_Pc av (kP D tys ws sz)) (va_Qi post (kB D tys (va_A ws sz) ws') (va_A ws sz)) rm.cells rm.slots (va_A ws sz)
def kMl {S : Type} (l : Launch) (y : MethodName) (wd : List Cond) (rm : Room) (D : va_G) (tys : List (ClassId × FieldType)) (av : List Value) (ws : va_W) (post : Int64 → S → Prop) (ws' : S → va_W) : Prop :=
  ∀ sz : Nat, Met l y wd rm (va_Pc av (kP D tys ws sz)) (va_Ql post (kB D tys (va_A ws sz) ws') (va_A ws sz)) rm.cells rm.slots (va_A ws sz)
def kMv {S : Type} (l : Launch) (y : MethodName) (wd : List Cond) (rm : Room) (D : va_G) (tys : List (ClassId × FieldType)) (av : List Value) (ws : va_W) (post : S → Prop) (ws' : S → va_W) : Prop :=
  ∀ sz : Nat, Met l y wd rm (va_Pc av (kP D tys ws sz)) (va_Qv post (kB D tys (va_A ws sz) ws') (va_A ws sz)) rm.cells rm.slots (va_A ws sz)
def kMq {S : Type} (l : Launch) (y : MethodName) (wd : List Cond) (rm : Room) (D : va_G) (tys : List (ClassId × FieldType)) (av : List Value) (ws : va_W) (post : Option Nat → S → Prop) (ws' : S → va_W) : Prop :=
  ∀ sz : Nat, Met l y wd rm (va_Pc av (kP D tys ws sz)) (va_Qq post (kB D tys (va_A ws sz) ws') (va_A ws sz)) rm.cells rm.slots (va_A ws sz)
def kMr {S : Type} (l : Launch) (y : MethodName) (wd : List Cond) (rm : Room) (D : va_G) (tys : List (ClassId × FieldType)) (av : List Value) (ws : va_W) (post : S → Prop) (ws' : S → Nat → va_W) : Prop :=
  ∀ sz : Nat, Met l y wd rm (va_Pc av (kP D tys ws sz)) (va_Qr post (kBr D tys (va_A ws sz) ws') (va_A ws sz)) rm.cells rm.slots (va_A ws sz)
section KM
variable {S : Type} {l : Launch} {y : MethodName} {wd wd' : List Cond} {rm : Room} {D : va_G} {tys : List (ClassId × FieldType)} {av : List Value} {ws : va_W} {ws' : S → va_W} {cc : ByteArray} {maxL : Nat}
theorem kMet_i {post : Int32 → S → Prop} {ty : FieldType} (hy : plainName y.cls = true) (hw : wd = Cond.code y cc maxL (some ty) :: wd') (hn : (lg_sl av).length ≤ maxL) (hnr : ∀ (r : Int32) (u : S), post r u → narrow ty (.int r) = .int r)
    (body : ∀ (p : Program) (e : Env) (s : State) (m : MethodId) (args : Array Value) (below : List Frame) (meth : Method) (c : Code) (A : Nat → Prop) (Q : State → Prop) (ls : Array Slot), CallFix p m c cc maxL s args wd y.cls → meth.locks = false → meth.name = y.name → kN s → va_K D vwCl tys s → va_P D vwCl ws s.heap → va_D A ws → va_S A s.heap s.heap [] → (∀ q : Nat, s.heap.size ≤ q → A q) → lv_has ls maxL (lv_args 0 av) →
      (∀ (r : Int32) (u : S) (H : Heap) (locs : List Loc) (pc : Nat) (ls' : Array Slot), decode cc pc = .ok (.ireturn, 1) → post r u → va_P D vwCl (ws' u) H → va_D A (ws' u) → va_S A s.heap H locs → W p l e rm s m args below meth c H locs rm.cells rm.slots Q (F0 m pc ls' [.int r])) →
      W p l e rm s m args below meth c s.heap [] 0 0 Q (F0 m 0 ls [])) : kMi l y wd rm D tys av ws post ws' := by
  intro sz
  refine Met.ofW (cc := cc) (maxL := maxL) (ret := some ty) hy hw ?_
  intro p e s m args below meth c s₁ B hml hv
  obtain ⟨rfl, hsz, hP, hK, hN, hD0⟩ := hv
  subst hsz
  have hlocks := B.notSynchronized
  rw [lg_entry_eq]
  refine body p e s m av.toArray below meth c (va_A ws s.heap.size) _ _ ⟨B.exec, B.bytes, hml, findClass_of_methodNamed B.named, atoms_spec (ws := wd) B.pre⟩ hlocks (name_of_methodNamed B.named B.method).1 hN hK hP hD0.self va_S.rf (fun q h => Or.inr h) (lv_entry av hn) ?_
  intro r u H locs pc ls' hd hp hP' hD' hS'
  exact W.zret B.exec B.bytes B.returns (hnr r u hp) (fun t ht hW => ⟨⟨r, u, rfl, hp, by rw [ht]; exact hP', va_K.moved hW.alike hK, hD'⟩, hS'.F ht⟩) hS'.2.2 hd
theorem kMet_l {post : Int64 → S → Prop} (hy : plainName y.cls = true) (hw : wd = Cond.code y cc maxL (some .long) :: wd') (hn : (lg_sl av).length ≤ maxL)
    (body : ∀ (p : Program) (e : Env) (s : State) (m : MethodId) (args : Array Value) (below : List Frame) (meth : Method) (c : Code) (A : Nat → Prop) (Q : State → Prop) (ls : Array Slot), CallFix p m c cc maxL s args wd y.cls → meth.locks = false → meth.name = y.name → kN s → va_K D vwCl tys s → va_P D vwCl ws s.heap → va_D A ws → va_S A s.heap s.heap [] → (∀ q : Nat, s.heap.size ≤ q → A q) → lv_has ls maxL (lv_args 0 av) →
      (∀ (r : Int64) (u : S) (H : Heap) (locs : List Loc) (pc : Nat) (ls' : Array Slot), decode cc pc = .ok (.lreturn, 1) → post r u → va_P D vwCl (ws' u) H → va_D A (ws' u) → va_S A s.heap H locs → W p l e rm s m args below meth c H locs rm.cells rm.slots Q (F0 m pc ls' [.long r])) →
      W p l e rm s m args below meth c s.heap [] 0 0 Q (F0 m 0 ls [])) : kMl l y wd rm D tys av ws post ws' := by
  intro sz
  refine Met.ofW (cc := cc) (maxL := maxL) (ret := some .long) hy hw ?_
  intro p e s m args below meth c s₁ B hml hv
  obtain ⟨rfl, hsz, hP, hK, hN, hD0⟩ := hv
  subst hsz
  have hlocks := B.notSynchronized
  rw [lg_entry_eq]
  refine body p e s m av.toArray below meth c (va_A ws s.heap.size) _ _ ⟨B.exec, B.bytes, hml, findClass_of_methodNamed B.named, atoms_spec (ws := wd) B.pre⟩ hlocks (name_of_methodNamed B.named B.method).1 hN hK hP hD0.self va_S.rf (fun q h => Or.inr h) (lv_entry av hn) ?_
  intro r u H locs pc ls' hd hp hP' hD' hS'
  exact W.lret B.exec B.bytes B.returns (fun t ht hW => ⟨⟨r, u, rfl, hp, by rw [ht]; exact hP', va_K.moved hW.alike hK, hD'⟩, hS'.F ht⟩) hS'.2.2 hd
theorem kMet_v {post : S → Prop} (hy : plainName y.cls = true) (hw : wd = Cond.code y cc maxL none :: wd') (hn : (lg_sl av).length ≤ maxL)
    (body : ∀ (p : Program) (e : Env) (s : State) (m : MethodId) (args : Array Value) (below : List Frame) (meth : Method) (c : Code) (A : Nat → Prop) (Q : State → Prop) (ls : Array Slot), CallFix p m c cc maxL s args wd y.cls → meth.locks = false → meth.name = y.name → kN s → va_K D vwCl tys s → va_P D vwCl ws s.heap → va_D A ws → va_S A s.heap s.heap [] → (∀ q : Nat, s.heap.size ≤ q → A q) → lv_has ls maxL (lv_args 0 av) →
      (∀ (u : S) (H : Heap) (locs : List Loc) (pc : Nat) (ls' : Array Slot), decode cc pc = .ok (.return_, 1) → post u → va_P D vwCl (ws' u) H → va_D A (ws' u) → va_S A s.heap H locs → W p l e rm s m args below meth c H locs rm.cells rm.slots Q (F0 m pc ls' [])) →
      W p l e rm s m args below meth c s.heap [] 0 0 Q (F0 m 0 ls [])) : kMv l y wd rm D tys av ws post ws' := by
  intro sz
  refine Met.ofW (cc := cc) (maxL := maxL) (ret := none) hy hw ?_
  intro p e s m args below meth c s₁ B hml hv
  obtain ⟨rfl, hsz, hP, hK, hN, hD0⟩ := hv
  subst hsz
  have hlocks := B.notSynchronized
  rw [lg_entry_eq]
  refine body p e s m av.toArray below meth c (va_A ws s.heap.size) _ _ ⟨B.exec, B.bytes, hml, findClass_of_methodNamed B.named, atoms_spec (ws := wd) B.pre⟩ hlocks (name_of_methodNamed B.named B.method).1 hN hK hP hD0.self va_S.rf (fun q h => Or.inr h) (lv_entry av hn) ?_
  intro u H locs pc ls' hd hp hP' hD' hS'
  exact W.vret B.exec B.bytes B.returns (fun t ht hW => ⟨⟨u, rfl, hp, by rw [ht]; exact hP', va_K.moved hW.alike hK, hD'⟩, hS'.F ht⟩) hS'.2.2 hd
theorem kMet_q {post : Option Nat → S → Prop} {ty : FieldType} (hty : (∃ n, ty = .object n) ∨ ∃ t, ty = .array t) (hy : plainName y.cls = true) (hw : wd = Cond.code y cc maxL (some ty) :: wd') (hn : (lg_sl av).length ≤ maxL)
    (body : ∀ (p : Program) (e : Env) (s : State) (m : MethodId) (args : Array Value) (below : List Frame) (meth : Method) (c : Code) (A : Nat → Prop) (Q : State → Prop) (ls : Array Slot), CallFix p m c cc maxL s args wd y.cls → meth.locks = false → meth.name = y.name → kN s → va_K D vwCl tys s → va_P D vwCl ws s.heap → va_D A ws → va_S A s.heap s.heap [] → (∀ q : Nat, s.heap.size ≤ q → A q) → lv_has ls maxL (lv_args 0 av) →
      (∀ (r : Option Nat) (u : S) (H : Heap) (locs : List Loc) (pc : Nat) (ls' : Array Slot), decode cc pc = .ok (.areturn, 1) → post r u → va_P D vwCl (ws' u) H → va_D A (ws' u) → va_S A s.heap H locs → W p l e rm s m args below meth c H locs rm.cells rm.slots Q (F0 m pc ls' [va_rf r])) →
      W p l e rm s m args below meth c s.heap [] 0 0 Q (F0 m 0 ls [])) : kMq l y wd rm D tys av ws post ws' := by
  intro sz
  refine Met.ofW (cc := cc) (maxL := maxL) (ret := some ty) hy hw ?_
  intro p e s m args below meth c s₁ B hml hv
  obtain ⟨rfl, hsz, hP, hK, hN, hD0⟩ := hv
  subst hsz
  have hlocks := B.notSynchronized
  rw [lg_entry_eq]
  refine body p e s m av.toArray below meth c (va_A ws s.heap.size) _ _ ⟨B.exec, B.bytes, hml, findClass_of_methodNamed B.named, atoms_spec (ws := wd) B.pre⟩ hlocks (name_of_methodNamed B.named B.method).1 hN hK hP hD0.self va_S.rf (fun q h => Or.inr h) (lv_entry av hn) ?_
  intro r u H locs pc ls' hd hp hP' hD' hS'
  exact W.aret B.exec B.bytes B.returns hty (by cases r with | none => exact Or.inl rfl | some a => exact Or.inr ⟨a, rfl⟩) (fun t ht hW => ⟨⟨r, u, rfl, hp, by rw [ht]; exact hP', va_K.moved hW.alike hK, hD'⟩, hS'.F ht⟩) hS'.2.2 hd
theorem kMet_r {post : S → Prop} {ws' : S → Nat → va_W} {ty : FieldType} (hty : (∃ n, ty = .object n) ∨ ∃ t, ty = .array t) (hy : plainName y.cls = true) (hw : wd = Cond.code y cc maxL (some ty) :: wd') (hn : (lg_sl av).length ≤ maxL)
    (body : ∀ (p : Program) (e : Env) (s : State) (m : MethodId) (args : Array Value) (below : List Frame) (meth : Method) (c : Code) (A : Nat → Prop) (Q : State → Prop) (ls : Array Slot), CallFix p m c cc maxL s args wd y.cls → meth.locks = false → meth.name = y.name → kN s → va_K D vwCl tys s → va_P D vwCl ws s.heap → va_D A ws → va_S A s.heap s.heap [] → (∀ q : Nat, s.heap.size ≤ q → A q) → lv_has ls maxL (lv_args 0 av) →
      (∀ (u : S) (a : Nat) (H : Heap) (locs : List Loc) (pc : Nat) (ls' : Array Slot), decode cc pc = .ok (.areturn, 1) → post u → va_P D vwCl (ws' u a) H → va_D A (ws' u a) → va_S A s.heap H locs → W p l e rm s m args below meth c H locs rm.cells rm.slots Q (F0 m pc ls' [.ref a])) →
      W p l e rm s m args below meth c s.heap [] 0 0 Q (F0 m 0 ls [])) : kMr l y wd rm D tys av ws post ws' := by
  intro sz
  refine Met.ofW (cc := cc) (maxL := maxL) (ret := some ty) hy hw ?_
  intro p e s m args below meth c s₁ B hml hv
  obtain ⟨rfl, hsz, hP, hK, hN, hD0⟩ := hv
  subst hsz
  have hlocks := B.notSynchronized
  rw [lg_entry_eq]
  refine body p e s m av.toArray below meth c (va_A ws s.heap.size) _ _ ⟨B.exec, B.bytes, hml, findClass_of_methodNamed B.named, atoms_spec (ws := wd) B.pre⟩ hlocks (name_of_methodNamed B.named B.method).1 hN hK hP hD0.self va_S.rf (fun q h => Or.inr h) (lv_entry av hn) ?_
  intro u a H locs pc ls' hd hp hP' hD' hS'
  exact W.aret B.exec B.bytes B.returns hty (Or.inr ⟨a, rfl⟩) (fun t ht hW => ⟨⟨u, a, rfl, hp, by rw [ht]; exact hP', va_K.moved hW.alike hK, hD'⟩, hS'.F ht⟩) hS'.2.2 hd
end KM

/-! calls -/
section KC
variable {S : Type} {p : Program} {l : Launch} {e : Env} {R : Room} {s : State} {m : MethodId} {args : Array Value} {below : List Frame} {meth : Method} {c : Code} {H : Heap} {locs : List Loc} {cells slots : Nat} {Q : State → Prop}
variable {D : va_G} {tys : List (ClassId × FieldType)} {ws wc wr : va_W} {wc' : S → va_W} {A : Nat → Prop} {pc : Nat} {ls : Array Slot} {rest st0 : List Value} {a : Array Value} {mc ms : Nat} {av : List Value} {sz : Nat}
theorem kP_blind : FrameBlind (va_Pc av (kP D tys ws sz)) := by
  intro a U g mk q
  obtain ⟨q0, q1, qP, qK, qN, qD⟩ := q
  exact ⟨q0, q1, qP, va_K.moved (u := U) (U := U.calling g mk a) (Vm.Alike.refl U.vm) qK, kN.same (u := U) (U := U.calling g mk a) rfl qN, qD⟩
theorem kPreS (hN : kN s) (hK : va_K D vwCl tys s) (hP : va_P D vwCl ws H) (hD : va_D A ws) (isC : List Nat) (hC : isC.map (fun i => ws[i]?) = wc.map some) (hnd : va_nd isC = true) : PreS s H (va_Pc av (kP D tys wc H.size)) av := by
  refine ⟨kP_blind, fun U hU hW => ⟨rfl, by rw [hU], ?_, va_K.moved hW.alike hK, hN.warm hW, (hD.sub isC hnd hC).weaken (fun _ _ _ _ => trivial)⟩⟩
  rw [hU]
  intro k q hq
  have h1 : (isC.map (fun i => ws[i]?))[k]? = some (some q) := by rw [hC, List.getElem?_map, hq]; rfl
  rw [List.getElem?_map] at h1
  cases hi : isC[k]? with
  | none => rw [hi] at h1; cases h1
  | some i => rw [hi] at h1; exact hP i q (Option.some.inj h1)
theorem kPreV (hN : kN s) (hK : va_K D vwCl tys s) (hP : va_P D vwCl ws H) (hD : va_D A ws) (isC : List Nat) (hC : isC.map (fun i => ws[i]?) = wc.map some) (hnd : va_nd isC = true) {b ci q0 : Nat} {q : vw_C} {fs : List Value} {As : List Value} (hc : vwCl[ci]? = some q) (he : wc[q0]? = some (b, .inr (ci, fs))) : PreV s H q.1 b (va_Pc (.ref b :: As) (kP D tys wc H.size)) As := by
  obtain ⟨h1, h2⟩ := kPreS (av := .ref b :: As) hN hK hP hD isC hC hnd
  refine ⟨h1, ?_, h2⟩
  have h1 : (isC.map (fun i => ws[i]?))[q0]? = some (some (b, .inr (ci, fs))) := by rw [hC, List.getElem?_map, he]; rfl
  rw [List.getElem?_map] at h1
  cases hi : isC[q0]? with
  | none => rw [hi] at h1; cases h1
  | some i => rw [hi] at h1; exact va_recv hK hP hc (Option.some.inj h1)
/-- the world behind a call that makes nothing: the callee's cells at their places -/
theorem kmix_P {w1 wn : va_W} {H1 : Heap} {N : Nat} (hP : va_P D vwCl ws H) (hD : va_D A ws) (isC isR : List Nat) (hC : isC.map (fun i => ws[i]?) = wc.map some) (hf : w1.map Prod.fst = wc.map Prod.fst)
    (h1 : isC.map (fun i => wn[i]?) = w1.map some) (h2 : isR.map (fun i => wn[i]?) = isR.map (fun i => ws[i]?)) (h3 : wn.drop N = ws.drop N) (hcov : (List.range N).all (fun i => isC.contains i || isR.contains i) = true)
    (hk : ∀ q : Nat, q < H.size → ¬ va_A wc H.size q → H1[q]? = H[q]?) (hP1 : va_P D vwCl w1 H1) : va_P D vwCl wn H1 ∧ va_D A wn := by
  have oth : ∀ k : Nat, k ∉ isC → wn[k]? = ws[k]? := by
    intro k hkc
    by_cases hN : k < N
    · have h4 := List.all_eq_true.mp hcov k (List.mem_range.mpr hN)
      rw [Bool.or_eq_true] at h4
      rcases h4 with h4 | h4
      · exact absurd (List.contains_iff_mem.mp h4) hkc
      · exact List.map_inj_left.mp h2 k (List.contains_iff_mem.mp h4)
    · have h4 : (wn.drop N)[k - N]? = (ws.drop N)[k - N]? := by rw [h3]
      rw [List.getElem?_drop, List.getElem?_drop, show N + (k - N) = k by omega] at h4
      exact h4
  have atC : ∀ k : Nat, k ∈ isC → ∃ (j : Nat) (a : Nat) (e0 e1 : va_E), ws[k]? = some (a, e0) ∧ wc[j]? = some (a, e0) ∧ w1[j]? = some (a, e1) ∧ wn[k]? = some (a, e1) := by
    intro k hkc
    obtain ⟨j, hj⟩ := List.mem_iff_getElem?.mp hkc
    have q1 : (isC.map (fun i => ws[i]?))[j]? = (wc.map some)[j]? := by rw [hC]
    have q2 : (isC.map (fun i => wn[i]?))[j]? = (w1.map some)[j]? := by rw [h1]
    rw [List.getElem?_map, List.getElem?_map, hj] at q1 q2
    have q3 : (w1.map Prod.fst)[j]? = (wc.map Prod.fst)[j]? := by rw [hf]
    rw [List.getElem?_map, List.getElem?_map] at q3
    cases hw : wc[j]? with
    | none => rw [hw] at q1; cases q1
    | some x =>
      cases hy : w1[j]? with
      | none => rw [hy] at q2; cases q2
      | some z =>
        rw [hw] at q1 q3
        rw [hy] at q2 q3
        have q4 : z.1 = x.1 := Option.some.inj q3
        refine ⟨j, x.1, x.2, z.2, Option.some.inj q1, hw, ?_, ?_⟩
        · rw [← q4]; exact hy
        · rw [← q4]; exact Option.some.inj q2
  refine ⟨fun k q hq => ?_, fun i j p q hp hq hpq => ?_, fun k q hq => ?_⟩
  · by_cases hkc : k ∈ isC
    · obtain ⟨j, a, e0, e1, -, -, g3, g4⟩ := atC k hkc
      rw [g4] at hq
      cases hq
      exact hP1 j _ g3
    · have g := oth k hkc
      rw [hq] at g
      have g := g.symm
      refine (hP k q g).kept (hk q.1 (hP k q g).lt (fun ha => ?_))
      rcases ha with ⟨j, e, hj⟩ | ha
      · have h3 : (isC.map (fun i => ws[i]?))[j]? = some (some (q.1, e)) := by rw [hC, List.getElem?_map, hj]; rfl
        rw [List.getElem?_map] at h3
        cases hi : isC[j]? with
        | none => rw [hi] at h3; cases h3
        | some i =>
          rw [hi] at h3
          have h4 : ws[i]? = some (q.1, e) := Option.some.inj h3
          have h5 := hD.1 k i q (q.1, e) g h4 rfl
          subst h5
          exact hkc (List.mem_of_getElem? hi)
      · have := (hP k q g).lt
        omega
  · have pos : ∀ (k : Nat) (x : Nat × va_E), wn[k]? = some x → ∃ y : va_E, ws[k]? = some (x.1, y) := by
      intro k x hx
      by_cases hkc : k ∈ isC
      · obtain ⟨j, a, e0, e1, g1, -, -, g4⟩ := atC k hkc
        rw [g4] at hx
        cases hx
        exact ⟨e0, g1⟩
      · rw [oth k hkc] at hx
        exact ⟨x.2, hx⟩
    obtain ⟨y1, g1⟩ := pos i p hp
    obtain ⟨y2, g2⟩ := pos j q hq
    exact hD.1 i j _ _ g1 g2 hpq
  · by_cases hkc : k ∈ isC
    · obtain ⟨j, a, e0, e1, g1, -, -, g4⟩ := atC k hkc
      rw [g4] at hq
      cases hq
      exact hD.2 k (a, e0) g1
    · rw [oth k hkc] at hq
      exact hD.2 k q hq
/-- behind a call: the callee's cells at their places -/
theorem k_goi {post : Int32 → S → Prop} (hr : va_Run p l e R s m args below meth c H locs cells slots mc ms (F0 m pc ls st0) rest (va_Qi post (kB D tys (va_A wc H.size) wc') (va_A wc H.size) a) (va_A wc H.size)) (hP : va_P D vwCl ws H) (hD : va_D A ws) (hS : va_S A s.heap H locs) (hA : ∀ q : Nat, s.heap.size ≤ q → A q) (isC : List Nat) (hC : isC.map (fun i => ws[i]?) = wc.map some) (L : List Nat) (hf1 : wc.map Prod.fst = L) (hf : ∀ u : S, (wc' u).map Prod.fst = L) (N : Nat) (isR : List Nat) (hcov : (List.range N).all (fun i => isC.contains i || isR.contains i) = true) (wn : S → va_W) (h1 : ∀ u : S, isC.map (fun i => (wn u)[i]?) = (wc' u).map some) (wr tl : va_W) (h2 : ∀ u : S, isR.map (fun i => (wn u)[i]?) = wr.map some) (h2' : isR.map (fun i => ws[i]?) = wr.map some) (h3 : ∀ u : S, (wn u).drop N = tl) (h3' : ws.drop N = tl)
    (kk : ∀ (r : Int32) (u : S) (H1 : Heap) (locs1 : List Loc), post r u → va_P D vwCl (wn u) H1 → va_D A (wn u) → va_S A s.heap H1 locs1 → W p l e R s m args below meth c H1 locs1 (cells + mc) (slots + ms) Q (F0 m (pc + 3) ls (.int r :: rest))) : W p l e R s m args below meth c H locs cells slots Q (F0 m pc ls st0) := by
  have hFc := va_free (wc := wc) hD hS hA isC hC
  refine va_calli hr hS (fun q _ h => hFc q h) hFc (fun r u t H1 locs1 ht hvm hw hB hz1 hk1 hS1 => ?_)
  obtain ⟨hP1, hK1, hD1⟩ := hB
  rw [ht] at hP1
  obtain ⟨g1, g2⟩ := kmix_P hP hD isC isR hC ((hf u).trans hf1.symm) (h1 u) ((h2 u).trans h2'.symm) ((h3 u).trans h3'.symm) hcov hk1 hP1
  exact kk r u H1 locs1 hw g1 g2 hS1
/-- behind a call that makes cells: the others, then the callee's world -/
theorem k_joi {post : Int32 → S → Prop} (hr : va_Run p l e R s m args below meth c H locs cells slots mc ms (F0 m pc ls st0) rest (va_Qi post (kB D tys (va_A wc H.size) wc') (va_A wc H.size) a) (va_A wc H.size)) (hP : va_P D vwCl ws H) (hD : va_D A ws) (hS : va_S A s.heap H locs) (hA : ∀ q : Nat, s.heap.size ≤ q → A q) (isC isR : List Nat) (hC : isC.map (fun i => ws[i]?) = wc.map some) (hR : isR.map (fun i => ws[i]?) = wr.map some) (hn : va_nd isR = true) (hdis : ∀ i ∈ isR, i ∉ isC)
    (kk : ∀ (r : Int32) (u : S) (H1 : Heap) (locs1 : List Loc), post r u → va_P D vwCl (wr ++ wc' u) H1 → va_D A (wr ++ wc' u) → va_S A s.heap H1 locs1 → W p l e R s m args below meth c H1 locs1 (cells + mc) (slots + ms) Q (F0 m (pc + 3) ls (.int r :: rest))) : W p l e R s m args below meth c H locs cells slots Q (F0 m pc ls st0) := by
  have hFc := va_free (wc := wc) hD hS hA isC hC
  refine va_calli hr hS (fun q _ h => hFc q h) hFc (fun r u t H1 locs1 ht hvm hw hB hz1 hk1 hS1 => ?_)
  obtain ⟨hP1, hK1, hD1⟩ := hB
  rw [ht] at hP1
  obtain ⟨h1, h2⟩ := va_join hP hD isC isR hC hR hn hdis hk1 hFc hP1 hD1
  exact kk r u H1 locs1 hw h1 h2 hS1
/-- behind a call: the callee's cells at their places -/
theorem k_gol {post : Int64 → S → Prop} (hr : va_Run p l e R s m args below meth c H locs cells slots mc ms (F0 m pc ls st0) rest (va_Ql post (kB D tys (va_A wc H.size) wc') (va_A wc H.size) a) (va_A wc H.size)) (hP : va_P D vwCl ws H) (hD : va_D A ws) (hS : va_S A s.heap H locs) (hA : ∀ q : Nat, s.heap.size ≤ q → A q) (isC : List Nat) (hC : isC.map (fun i => ws[i]?) = wc.map some) (L : List Nat) (hf1 : wc.map Prod.fst = L) (hf : ∀ u : S, (wc' u).map Prod.fst = L) (N : Nat) (isR : List Nat) (hcov : (List.range N).all (fun i => isC.contains i || isR.contains i) = true) (wn : S → va_W) (h1 : ∀ u : S, isC.map (fun i => (wn u)[i]?) = (wc' u).map some) (wr tl : va_W) (h2 : ∀ u : S, isR.map (fun i => (wn u)[i]?) = wr.map some) (h2' : isR.map (fun i => ws[i]?) = wr.map some) (h3 : ∀ u : S, (wn u).drop N = tl) (h3' : ws.drop N = tl)
    (kk : ∀ (r : Int64) (u : S) (H1 : Heap) (locs1 : List Loc), post r u → va_P D vwCl (wn u) H1 → va_D A (wn u) → va_S A s.heap H1 locs1 → W p l e R s m args below meth c H1 locs1 (cells + mc) (slots + ms) Q (F0 m (pc + 3) ls (.long r :: rest))) : W p l e R s m args below meth c H locs cells slots Q (F0 m pc ls st0) := by
  have hFc := va_free (wc := wc) hD hS hA isC hC
  refine va_calll hr hS (fun q _ h => hFc q h) hFc (fun r u t H1 locs1 ht hvm hw hB hz1 hk1 hS1 => ?_)
  obtain ⟨hP1, hK1, hD1⟩ := hB
  rw [ht] at hP1
  obtain ⟨g1, g2⟩ := kmix_P hP hD isC isR hC ((hf u).trans hf1.symm) (h1 u) ((h2 u).trans h2'.symm) ((h3 u).trans h3'.symm) hcov hk1 hP1
  exact kk r u H1 locs1 hw g1 g2 hS1
/-- behind a call that makes cells: the others, then the callee's world -/
theorem k_jol {post : Int64 → S → Prop} (hr : va_Run p l e R s m args below meth c H locs cells slots mc ms (F0 m pc ls st0) rest (va_Ql post (kB D tys (va_A wc H.size) wc') (va_A wc H.size) a) (va_A wc H.size)) (hP : va_P D vwCl ws H) (hD : va_D A ws) (hS : va_S A s.heap H locs) (hA : ∀ q : Nat, s.heap.size ≤ q → A q) (isC isR : List Nat) (hC : isC.map (fun i => ws[i]?) = wc.map some) (hR : isR.map (fun i => ws[i]?) = wr.map some) (hn : va_nd isR = true) (hdis : ∀ i ∈ isR, i ∉ isC)
    (kk : ∀ (r : Int64) (u : S) (H1 : Heap) (locs1 : List Loc), post r u → va_P D vwCl (wr ++ wc' u) H1 → va_D A (wr ++ wc' u) → va_S A s.heap H1 locs1 → W p l e R s m args below meth c H1 locs1 (cells + mc) (slots + ms) Q (F0 m (pc + 3) ls (.long r :: rest))) : W p l e R s m args below meth c H locs cells slots Q (F0 m pc ls st0) := by
  have hFc := va_free (wc := wc) hD hS hA isC hC
  refine va_calll hr hS (fun q _ h => hFc q h) hFc (fun r u t H1 locs1 ht hvm hw hB hz1 hk1 hS1 => ?_)
  obtain ⟨hP1, hK1, hD1⟩ := hB
  rw [ht] at hP1
  obtain ⟨h1, h2⟩ := va_join hP hD isC isR hC hR hn hdis hk1 hFc hP1 hD1
  exact kk r u H1 locs1 hw h1 h2 hS1
/-- behind a call: the callee's cells at their places -/
theorem k_gov {post : S → Prop} (hr : va_Run p l e R s m args below meth c H locs cells slots mc ms (F0 m pc ls st0) rest (va_Qv post (kB D tys (va_A wc H.size) wc') (va_A wc H.size) a) (va_A wc H.size)) (hP : va_P D vwCl ws H) (hD : va_D A ws) (hS : va_S A s.heap H locs) (hA : ∀ q : Nat, s.heap.size ≤ q → A q) (isC : List Nat) (hC : isC.map (fun i => ws[i]?) = wc.map some) (L : List Nat) (hf1 : wc.map Prod.fst = L) (hf : ∀ u : S, (wc' u).map Prod.fst = L) (N : Nat) (isR : List Nat) (hcov : (List.range N).all (fun i => isC.contains i || isR.contains i) = true) (wn : S → va_W) (h1 : ∀ u : S, isC.map (fun i => (wn u)[i]?) = (wc' u).map some) (wr tl : va_W) (h2 : ∀ u : S, isR.map (fun i => (wn u)[i]?) = wr.map some) (h2' : isR.map (fun i => ws[i]?) = wr.map some) (h3 : ∀ u : S, (wn u).drop N = tl) (h3' : ws.drop N = tl)
    (kk : ∀ (u : S) (H1 : Heap) (locs1 : List Loc), post u → va_P D vwCl (wn u) H1 → va_D A (wn u) → va_S A s.heap H1 locs1 → W p l e R s m args below meth c H1 locs1 (cells + mc) (slots + ms) Q (F0 m (pc + 3) ls (rest))) : W p l e R s m args below meth c H locs cells slots Q (F0 m pc ls st0) := by
  have hFc := va_free (wc := wc) hD hS hA isC hC
  refine va_callv hr hS (fun q _ h => hFc q h) hFc (fun u t H1 locs1 ht hvm hw hB hz1 hk1 hS1 => ?_)
  obtain ⟨hP1, hK1, hD1⟩ := hB
  rw [ht] at hP1
  obtain ⟨g1, g2⟩ := kmix_P hP hD isC isR hC ((hf u).trans hf1.symm) (h1 u) ((h2 u).trans h2'.symm) ((h3 u).trans h3'.symm) hcov hk1 hP1
  exact kk u H1 locs1 hw g1 g2 hS1
/-- behind a call that makes cells: the others, then the callee's world -/
theorem k_jov {post : S → Prop} (hr : va_Run p l e R s m args below meth c H locs cells slots mc ms (F0 m pc ls st0) rest (va_Qv post (kB D tys (va_A wc H.size) wc') (va_A wc H.size) a) (va_A wc H.size)) (hP : va_P D vwCl ws H) (hD : va_D A ws) (hS : va_S A s.heap H locs) (hA : ∀ q : Nat, s.heap.size ≤ q → A q) (isC isR : List Nat) (hC : isC.map (fun i => ws[i]?) = wc.map some) (hR : isR.map (fun i => ws[i]?) = wr.map some) (hn : va_nd isR = true) (hdis : ∀ i ∈ isR, i ∉ isC)
    (kk : ∀ (u : S) (H1 : Heap) (locs1 : List Loc), post u → va_P D vwCl (wr ++ wc' u) H1 → va_D A (wr ++ wc' u) → va_S A s.heap H1 locs1 → W p l e R s m args below meth c H1 locs1 (cells + mc) (slots + ms) Q (F0 m (pc + 3) ls (rest))) : W p l e R s m args below meth c H locs cells slots Q (F0 m pc ls st0) := by
  have hFc := va_free (wc := wc) hD hS hA isC hC
  refine va_callv hr hS (fun q _ h => hFc q h) hFc (fun u t H1 locs1 ht hvm hw hB hz1 hk1 hS1 => ?_)
  obtain ⟨hP1, hK1, hD1⟩ := hB
  rw [ht] at hP1
  obtain ⟨h1, h2⟩ := va_join hP hD isC isR hC hR hn hdis hk1 hFc hP1 hD1
  exact kk u H1 locs1 hw h1 h2 hS1
/-- behind a call: the callee's cells at their places -/
theorem k_goq {post : Option Nat → S → Prop} (hr : va_Run p l e R s m args below meth c H locs cells slots mc ms (F0 m pc ls st0) rest (va_Qq post (kB D tys (va_A wc H.size) wc') (va_A wc H.size) a) (va_A wc H.size)) (hP : va_P D vwCl ws H) (hD : va_D A ws) (hS : va_S A s.heap H locs) (hA : ∀ q : Nat, s.heap.size ≤ q → A q) (isC : List Nat) (hC : isC.map (fun i => ws[i]?) = wc.map some) (L : List Nat) (hf1 : wc.map Prod.fst = L) (hf : ∀ u : S, (wc' u).map Prod.fst = L) (N : Nat) (isR : List Nat) (hcov : (List.range N).all (fun i => isC.contains i || isR.contains i) = true) (wn : S → va_W) (h1 : ∀ u : S, isC.map (fun i => (wn u)[i]?) = (wc' u).map some) (wr tl : va_W) (h2 : ∀ u : S, isR.map (fun i => (wn u)[i]?) = wr.map some) (h2' : isR.map (fun i => ws[i]?) = wr.map some) (h3 : ∀ u : S, (wn u).drop N = tl) (h3' : ws.drop N = tl)
    (kk : ∀ (r : Option Nat) (u : S) (H1 : Heap) (locs1 : List Loc), post r u → va_P D vwCl (wn u) H1 → va_D A (wn u) → va_S A s.heap H1 locs1 → W p l e R s m args below meth c H1 locs1 (cells + mc) (slots + ms) Q (F0 m (pc + 3) ls (va_rf r :: rest))) : W p l e R s m args below meth c H locs cells slots Q (F0 m pc ls st0) := by
  have hFc := va_free (wc := wc) hD hS hA isC hC
  refine va_callq hr hS (fun q _ h => hFc q h) hFc (fun r u t H1 locs1 ht hvm hw hB hz1 hk1 hS1 => ?_)
  obtain ⟨hP1, hK1, hD1⟩ := hB
  rw [ht] at hP1
  obtain ⟨g1, g2⟩ := kmix_P hP hD isC isR hC ((hf u).trans hf1.symm) (h1 u) ((h2 u).trans h2'.symm) ((h3 u).trans h3'.symm) hcov hk1 hP1
  exact kk r u H1 locs1 hw g1 g2 hS1
/-- behind a call that makes cells: the others, then the callee's world -/
theorem k_joq {post : Option Nat → S → Prop} (hr : va_Run p l e R s m args below meth c H locs cells slots mc ms (F0 m pc ls st0) rest (va_Qq post (kB D tys (va_A wc H.size) wc') (va_A wc H.size) a) (va_A wc H.size)) (hP : va_P D vwCl ws H) (hD : va_D A ws) (hS : va_S A s.heap H locs) (hA : ∀ q : Nat, s.heap.size ≤ q → A q) (isC isR : List Nat) (hC : isC.map (fun i => ws[i]?) = wc.map some) (hR : isR.map (fun i => ws[i]?) = wr.map some) (hn : va_nd isR = true) (hdis : ∀ i ∈ isR, i ∉ isC)
    (kk : ∀ (r : Option Nat) (u : S) (H1 : Heap) (locs1 : List Loc), post r u → va_P D vwCl (wr ++ wc' u) H1 → va_D A (wr ++ wc' u) → va_S A s.heap H1 locs1 → W p l e R s m args below meth c H1 locs1 (cells + mc) (slots + ms) Q (F0 m (pc + 3) ls (va_rf r :: rest))) : W p l e R s m args below meth c H locs cells slots Q (F0 m pc ls st0) := by
  have hFc := va_free (wc := wc) hD hS hA isC hC
  refine va_callq hr hS (fun q _ h => hFc q h) hFc (fun r u t H1 locs1 ht hvm hw hB hz1 hk1 hS1 => ?_)
  obtain ⟨hP1, hK1, hD1⟩ := hB
  rw [ht] at hP1
  obtain ⟨h1, h2⟩ := va_join hP hD isC isR hC hR hn hdis hk1 hFc hP1 hD1
  exact kk r u H1 locs1 hw h1 h2 hS1
theorem k_jor {post : S → Prop} {wc' : S → Nat → va_W} (hr : va_Run p l e R s m args below meth c H locs cells slots mc ms (F0 m pc ls st0) rest (va_Qr post (kBr D tys (va_A wc H.size) wc') (va_A wc H.size) a) (va_A wc H.size)) (hP : va_P D vwCl ws H) (hD : va_D A ws) (hS : va_S A s.heap H locs) (hA : ∀ q : Nat, s.heap.size ≤ q → A q) (isC isR : List Nat) (hC : isC.map (fun i => ws[i]?) = wc.map some) (hR : isR.map (fun i => ws[i]?) = wr.map some) (hn : va_nd isR = true) (hdis : ∀ i ∈ isR, i ∉ isC)
    (kk : ∀ (u : S) (r : Nat) (H1 : Heap) (locs1 : List Loc), post u → va_P D vwCl (wr ++ wc' u r) H1 → va_D A (wr ++ wc' u r) → va_S A s.heap H1 locs1 → W p l e R s m args below meth c H1 locs1 (cells + mc) (slots + ms) Q (F0 m (pc + 3) ls (.ref r :: rest))) : W p l e R s m args below meth c H locs cells slots Q (F0 m pc ls st0) := by
  have hFc := va_free (wc := wc) hD hS hA isC hC
  refine va_callr hr hS (fun q _ h => hFc q h) hFc (fun u r t H1 locs1 ht hvm hw hB hz1 hk1 hS1 => ?_)
  obtain ⟨hP1, hK1, hD1⟩ := hB
  rw [ht] at hP1
  obtain ⟨h1, h2⟩ := va_join hP hD isC isR hC hR hn hdis hk1 hFc hP1 hD1
  exact kk u r H1 locs1 hw h1 h2 hS1
/-- a loop: a state that falls -/
theorem k_loop {α : Type} {nL : Nat} (μ : α → Nat) (wf : α → va_W) (lf : α → List (Nat × Value)) (Inv : α → Prop) {st : List Value}
    (step : ∀ (x : α) (H : Heap) (locs : List Loc) (ls : Array Slot), Inv x → va_P D vwCl (wf x) H → va_D A (wf x) → va_S A s.heap H locs → lv_has ls nL (lf x) →
      (∀ (x' : α) (H' : Heap) (locs' : List Loc) (ls' : Array Slot), μ x' < μ x → Inv x' → va_P D vwCl (wf x') H' → va_D A (wf x') → va_S A s.heap H' locs' → lv_has ls' nL (lf x') → W p l e R s m args below meth c H' locs' cells slots Q (F0 m pc ls' st)) →
      W p l e R s m args below meth c H locs cells slots Q (F0 m pc ls st))
    (x : α) (hI : Inv x) (hP : va_P D vwCl (wf x) H) (hD : va_D A (wf x)) (hS : va_S A s.heap H locs) (hl : lv_has ls nL (lf x)) : W p l e R s m args below meth c H locs cells slots Q (F0 m pc ls st) := by
  have key : ∀ (n : Nat) (x : α) (H : Heap) (locs : List Loc) (ls : Array Slot), μ x < n → Inv x → va_P D vwCl (wf x) H → va_D A (wf x) → va_S A s.heap H locs → lv_has ls nL (lf x) → W p l e R s m args below meth c H locs cells slots Q (F0 m pc ls st) := by
    intro n
    induction n with
    | zero => intro x H locs ls h; exact absurd h (Nat.not_lt_zero _)
    | succ n ih =>
      intro x H locs ls hn hI hP hD hS hl
      exact step x H locs ls hI hP hD hS hl (fun x' H' locs' ls' h1 h2 h3 h4 h5 h6 => ih x' H' locs' ls' (by omega) h2 h3 h4 h5 h6)
  exact key _ x H locs ls (Nat.lt_succ_self _) hI hP hD hS hl
theorem k_eqi {x y : Int32} (h : x = y) (k : W p l e R s m args below meth c H locs cells slots Q (F0 m pc ls (.int y :: rest))) : W p l e R s m args below meth c H locs cells slots Q (F0 m pc ls (.int x :: rest)) := h ▸ k
theorem k_eql {x y : Int64} (h : x = y) (k : W p l e R s m args below meth c H locs cells slots Q (F0 m pc ls (.long y :: rest))) : W p l e R s m args below meth c H locs cells slots Q (F0 m pc ls (.long x :: rest)) := h ▸ k
theorem k_eqr {x y : Option Nat} (h : x = y) (k : W p l e R s m args below meth c H locs cells slots Q (F0 m pc ls (va_rf y :: rest))) : W p l e R s m args below meth c H locs cells slots Q (F0 m pc ls (va_rf x :: rest)) := h ▸ k
end KC
