/-! the prefix of a world in another order -/
theorem perm_P {D : va_G} {a b t : va_W} {ps : List Nat} {H : Heap} (hps : ps.map (fun i => a[i]?) = b.map some) (h : va_P D vwCl (a ++ t) H) : va_P D vwCl (b ++ t) H := by
  have ha : va_P D vwCl a H := by
    intro k q hq
    have hk : k < a.length := (List.getElem?_eq_some_iff.mp hq).1
    exact h k q (by rw [List.getElem?_append_left hk]; exact hq)
  have ht : va_P D vwCl t H := by
    intro k q hq
    exact h (a.length + k) q (by rw [List.getElem?_append_right (by omega), show a.length + k - a.length = k by omega]; exact hq)
  have hb : va_P D vwCl b H := by
    intro k q hq
    have h1 : (ps.map (fun i => a[i]?))[k]? = some (some q) := by rw [hps, List.getElem?_map, hq]; rfl
    rw [List.getElem?_map] at h1
    cases hi : ps[k]? with
    | none => rw [hi] at h1; cases h1
    | some i => rw [hi] at h1; exact ha i q (Option.some.inj h1)
  exact va_P.app hb ht
theorem perm_D {A : Nat → Prop} {a b t : va_W} {ps : List Nat} (hps : ps.map (fun i => a[i]?) = b.map some) (hn : va_nd ps = true) (h : va_D A (a ++ t)) : va_D A (b ++ t) := by
  have la : ∀ (k : Nat) (q : Nat × va_E), a[k]? = some q → (a ++ t)[k]? = some q := by
    intro k q hq
    have hk : k < a.length := (List.getElem?_eq_some_iff.mp hq).1
    rw [List.getElem?_append_left hk]; exact hq
  have lt : ∀ (k : Nat) (q : Nat × va_E), t[k]? = some q → (a ++ t)[a.length + k]? = some q := by
    intro k q hq
    rw [List.getElem?_append_right (by omega), show a.length + k - a.length = k by omega]; exact hq
  have hda : va_D A a := ⟨fun i j x y hx hy hxy => h.1 i j x y (la i x hx) (la j y hy) hxy, fun k q hq => h.2 k q (la k q hq)⟩
  have hdt : va_D A t := ⟨fun i j x y hx hy hxy => by have := h.1 _ _ x y (lt i x hx) (lt j y hy) hxy; omega, fun k q hq => h.2 _ q (lt k q hq)⟩
  refine va_D.app (hda.sub ps hn hps) hdt (fun i j x y hx hy hxy => ?_)
  have h1 : (ps.map (fun i => a[i]?))[i]? = some (some x) := by rw [hps, List.getElem?_map, hx]; rfl
  rw [List.getElem?_map] at h1
  cases hi : ps[i]? with
  | none => rw [hi] at h1; cases h1
  | some z =>
    rw [hi] at h1
    have hz := Option.some.inj h1
    have := h.1 z (a.length + j) x y (la z x hz) (lt j y hy) hxy
    have : z < a.length := (List.getElem?_eq_some_iff.mp hz).1
    omega
/-- a call of y at b, from the world w0: it ends, with an answer r and a world w1 such that Post r w1 -/
def CkI (l : Launch) (y : MethodName) (wd : List Cond) (D : va_G) (tys : List (ClassId × FieldType)) (b ci : Nat) (As : List Value) (w0 : va_W) (Post : Int32 → va_W → Prop) : Prop :=
  ∃ (S : Type) (rm : Room) (wc : va_W) (post : Int32 → S → Prop) (wc' : S → va_W) (isC : List Nat) (q0 : Nat) (fs : List Value),
    kMi (S := S) l y wd rm D tys (.ref b :: As) wc post wc' ∧ (rm.frames ≤ 9 ∧ rm.locals ≤ 300 ∧ rm.cells ≤ 7 ∧ rm.slots ≤ 21) ∧ isC.map (fun i => w0[i]?) = wc.map some ∧ va_nd isC = true ∧ wc[q0]? = some (b, .inr (ci, fs)) ∧
    ∀ (A : Nat → Prop) (H H1 : Heap) (r : Int32) (u : S), va_P D vwCl w0 H → va_D A w0 → (∀ q : Nat, va_A wc H.size q → A q) → (∀ q : Nat, q < H.size → ¬ va_A wc H.size q → H1[q]? = H[q]?) → va_P D vwCl (wc' u) H1 → va_D (va_A wc H.size) (wc' u) → post r u → ∃ w1, Post r w1 ∧ va_P D vwCl w1 H1 ∧ va_D A w1
section CKI
variable {l : Launch} {y : MethodName} {wd wd' : List Cond} {D : va_G} {tys : List (ClassId × FieldType)} {b ci : Nat} {As : List Value} {w0 : va_W} {Post : Int32 → va_W → Prop} {S : Type} {rm : Room} {wc : va_W} {post : Int32 → S → Prop} {wc' : S → va_W}
/-- by places: no cell is made -/
theorem ck_goi (hM : kMi (S := S) l y wd rm D tys (.ref b :: As) wc post wc') (hrm : rm.frames ≤ 9 ∧ rm.locals ≤ 300 ∧ rm.cells ≤ 7 ∧ rm.slots ≤ 21) (isC : List Nat) (hC : isC.map (fun i => w0[i]?) = wc.map some) (hnd : va_nd isC = true) (q0 : Nat) (fs : List Value) (he : wc[q0]? = some (b, .inr (ci, fs))) (L : List Nat) (hf1 : wc.map Prod.fst = L) (hf : ∀ u : S, (wc' u).map Prod.fst = L) (N : Nat) (isR : List Nat) (hcov : (List.range N).all (fun i => isC.contains i || isR.contains i) = true) (wn : S → va_W) (h1 : ∀ u : S, isC.map (fun i => (wn u)[i]?) = (wc' u).map some) (h2 : ∀ u : S, isR.map (fun i => (wn u)[i]?) = isR.map (fun i => w0[i]?)) (h3 : ∀ u : S, (wn u).drop N = w0.drop N) (hpost : ∀ (r : Int32) (u : S), post r u → Post r (wn u)) : CkI l y wd D tys b ci As w0 Post := by
  refine ⟨S, rm, wc, post, wc', isC, q0, fs, hM, hrm, hC, hnd, he, ?_⟩
  intro A H H1 r u hP hD _ hk hP1 _ hp
  obtain ⟨g1, g2⟩ := kmix_P hP hD isC isR hC ((hf u).trans hf1.symm) (h1 u) (h2 u) (h3 u) hcov hk hP1
  exact ⟨wn u, hpost r u hp, g1, g2⟩
/-- by places: cells are made -/
theorem ck_joi (hM : kMi (S := S) l y wd rm D tys (.ref b :: As) wc post wc') (hrm : rm.frames ≤ 9 ∧ rm.locals ≤ 300 ∧ rm.cells ≤ 7 ∧ rm.slots ≤ 21) (isC : List Nat) (hC : isC.map (fun i => w0[i]?) = wc.map some) (hnd : va_nd isC = true) (q0 : Nat) (fs : List Value) (he : wc[q0]? = some (b, .inr (ci, fs))) (isR : List Nat) (wr : va_W) (hR : isR.map (fun i => w0[i]?) = wr.map some) (hn : va_nd isR = true) (hdis : ∀ i ∈ isR, i ∉ isC) (a b9 : S → va_W) (tl : S → va_W) (ps : List Nat) (hx : ∀ u, wr ++ wc' u = a u ++ tl u) (hps : ∀ u, ps.map (fun i => (a u)[i]?) = (b9 u).map some) (hpn : va_nd ps = true) (hpost : ∀ (r : Int32) (u : S), post r u → Post r (b9 u ++ tl u)) : CkI l y wd D tys b ci As w0 Post := by
  refine ⟨S, rm, wc, post, wc', isC, q0, fs, hM, hrm, hC, hnd, he, ?_⟩
  intro A H H1 r u hP hD hFc hk hP1 hD1 hp
  obtain ⟨g1, g2⟩ := va_join hP hD isC isR hC hR hn hdis hk hFc hP1 hD1
  rw [hx u] at g1 g2
  exact ⟨b9 u ++ tl u, hpost r u hp, perm_P (hps u) g1, perm_D (hps u) hpn g2⟩
theorem CkI.mono {Post2 : Int32 → va_W → Prop} (h : CkI l y wd D tys b ci As w0 Post) (hp : ∀ r w, Post r w → Post2 r w) : CkI l y wd D tys b ci As w0 Post2 := by
  obtain ⟨S, rm, wc, post, wc', isC, q0, fs, hM, hrm, hC, hnd, he, hk⟩ := h
  refine ⟨S, rm, wc, post, wc', isC, q0, fs, hM, hrm, hC, hnd, he, ?_⟩
  intro A H H1 r u a1 a2 a3 a4 a5 a6 a7
  obtain ⟨w1, b1, b2, b3⟩ := hk A H H1 r u a1 a2 a3 a4 a5 a6 a7
  exact ⟨w1, hp r w1 b1, b2, b3⟩
variable {p : Program} {e : Env} {R : Room} {s : State} {m : MethodId} {args : Array Value} {below : List Frame} {meth : Method} {c : Code} {H : Heap} {locs : List Loc} {cells slots : Nat} {Q : State → Prop} {pc : Nat} {ls : Array Slot} {rest st0 : List Value} {A : Nat → Prop} {Ts : List Cond} {own C : String} {cc bytes : ByteArray} {nL maxL index n : Nat} {ret : Option FieldType} {qc : vw_C}
/-- the call's step in the law -/
theorem k_cki (S5 : CallFix p m c cc nL s args Ts own) (hN : kN s) (hK : va_K D vwCl tys s) (hG : GoodIn Ts (wsV own index C y wd)) (hw : wd = Cond.code y bytes maxL ret :: wd') (hd : y.cls = C ∧ y.cls ≠ "java/lang/invoke/MethodHandle" ∧ y.cls ≠ "java/lang/invoke/VarHandle" ∧ (parseMethodDescriptor y.desc).map (fun d => d.parameters.length) = some n) (hc : vwCl[ci]? = some qc) (hqc : qc.1 = C) (hmx : maxL ≤ 50) (hR : 10 ≤ R.frames ∧ 374 ≤ R.locals) (hfit : cells + 7 ≤ R.cells ∧ slots + 21 ≤ R.slots) (hk : CkI l y wd D tys b ci As w0 Post) (hlen : As.length = n) (hsz : ls.size = nL) (hst : st0 = As.reverse ++ .ref b :: rest) (hrest : (rest.map fun v => v.category).sum ≤ 8) (hdg : decode cc pc = .ok (.invokevirtual index, 3)) (hP : va_P D vwCl w0 H) (hD : va_D A w0) (hS : va_S A s.heap H locs) (hA : ∀ q : Nat, s.heap.size ≤ q → A q)
    (kk : ∀ (r : Int32) (w1 : va_W) (H1 : Heap) (locs1 : List Loc), Post r w1 → va_P D vwCl w1 H1 → va_D A w1 → va_S A s.heap H1 locs1 → W p l e R s m args below meth c H1 locs1 (cells + 7) (slots + 21) Q (F0 m (pc + 3) ls (.int r :: rest))) : W p l e R s m args below meth c H locs cells slots Q (F0 m pc ls st0) := by
  obtain ⟨S, rm, wc, post, wc', isC, q0, fs, hM, ⟨r1, r2, r3, r4⟩, hC, hnd, he, hfin⟩ := hk
  have hFc := va_free (wc := wc) hD hS hA isC hC
  subst hqc
  refine va_calli (va_runV (rest := rest) S5 (hM H.size) (cwV n S5.2.2.2.2 hG hw rfl rfl hd ⟨by omega, by omega⟩) (kPreV hN hK hP hD isC hC hnd hc he) rfl hlen hsz hst (lv_room hrest) hdg ⟨by omega, by omega⟩) hS (fun q _ h => hFc q h) hFc (fun r u t H1 locs1 ht hvm hw hB hz1 hk1 hS1 => ?_)
  obtain ⟨hP1, hK1, hD1⟩ := hB
  rw [ht] at hP1
  obtain ⟨w1, g1, g2, g3⟩ := hfin A H H1 r u hP hD hFc hk1 hP1 hD1 hw
  exact W.widen (k := cells + 7) (n := slots + 21) (by omega) (by omega) (kk r w1 H1 locs1 g1 g2 g3 hS1)
end CKI
/-- a call of y at b, from the world w0: it ends, with an answer r and a world w1 such that Post r w1 -/
def CkL (l : Launch) (y : MethodName) (wd : List Cond) (D : va_G) (tys : List (ClassId × FieldType)) (b ci : Nat) (As : List Value) (w0 : va_W) (Post : Int64 → va_W → Prop) : Prop :=
  ∃ (S : Type) (rm : Room) (wc : va_W) (post : Int64 → S → Prop) (wc' : S → va_W) (isC : List Nat) (q0 : Nat) (fs : List Value),
    kMl (S := S) l y wd rm D tys (.ref b :: As) wc post wc' ∧ (rm.frames ≤ 9 ∧ rm.locals ≤ 300 ∧ rm.cells ≤ 7 ∧ rm.slots ≤ 21) ∧ isC.map (fun i => w0[i]?) = wc.map some ∧ va_nd isC = true ∧ wc[q0]? = some (b, .inr (ci, fs)) ∧
    ∀ (A : Nat → Prop) (H H1 : Heap) (r : Int64) (u : S), va_P D vwCl w0 H → va_D A w0 → (∀ q : Nat, va_A wc H.size q → A q) → (∀ q : Nat, q < H.size → ¬ va_A wc H.size q → H1[q]? = H[q]?) → va_P D vwCl (wc' u) H1 → va_D (va_A wc H.size) (wc' u) → post r u → ∃ w1, Post r w1 ∧ va_P D vwCl w1 H1 ∧ va_D A w1
section CKL
variable {l : Launch} {y : MethodName} {wd wd' : List Cond} {D : va_G} {tys : List (ClassId × FieldType)} {b ci : Nat} {As : List Value} {w0 : va_W} {Post : Int64 → va_W → Prop} {S : Type} {rm : Room} {wc : va_W} {post : Int64 → S → Prop} {wc' : S → va_W}
/-- by places: no cell is made -/
theorem ck_gol (hM : kMl (S := S) l y wd rm D tys (.ref b :: As) wc post wc') (hrm : rm.frames ≤ 9 ∧ rm.locals ≤ 300 ∧ rm.cells ≤ 7 ∧ rm.slots ≤ 21) (isC : List Nat) (hC : isC.map (fun i => w0[i]?) = wc.map some) (hnd : va_nd isC = true) (q0 : Nat) (fs : List Value) (he : wc[q0]? = some (b, .inr (ci, fs))) (L : List Nat) (hf1 : wc.map Prod.fst = L) (hf : ∀ u : S, (wc' u).map Prod.fst = L) (N : Nat) (isR : List Nat) (hcov : (List.range N).all (fun i => isC.contains i || isR.contains i) = true) (wn : S → va_W) (h1 : ∀ u : S, isC.map (fun i => (wn u)[i]?) = (wc' u).map some) (h2 : ∀ u : S, isR.map (fun i => (wn u)[i]?) = isR.map (fun i => w0[i]?)) (h3 : ∀ u : S, (wn u).drop N = w0.drop N) (hpost : ∀ (r : Int64) (u : S), post r u → Post r (wn u)) : CkL l y wd D tys b ci As w0 Post := by
  refine ⟨S, rm, wc, post, wc', isC, q0, fs, hM, hrm, hC, hnd, he, ?_⟩
  intro A H H1 r u hP hD _ hk hP1 _ hp
  obtain ⟨g1, g2⟩ := kmix_P hP hD isC isR hC ((hf u).trans hf1.symm) (h1 u) (h2 u) (h3 u) hcov hk hP1
  exact ⟨wn u, hpost r u hp, g1, g2⟩
/-- by places: cells are made -/
theorem ck_jol (hM : kMl (S := S) l y wd rm D tys (.ref b :: As) wc post wc') (hrm : rm.frames ≤ 9 ∧ rm.locals ≤ 300 ∧ rm.cells ≤ 7 ∧ rm.slots ≤ 21) (isC : List Nat) (hC : isC.map (fun i => w0[i]?) = wc.map some) (hnd : va_nd isC = true) (q0 : Nat) (fs : List Value) (he : wc[q0]? = some (b, .inr (ci, fs))) (isR : List Nat) (wr : va_W) (hR : isR.map (fun i => w0[i]?) = wr.map some) (hn : va_nd isR = true) (hdis : ∀ i ∈ isR, i ∉ isC) (a b9 : S → va_W) (tl : S → va_W) (ps : List Nat) (hx : ∀ u, wr ++ wc' u = a u ++ tl u) (hps : ∀ u, ps.map (fun i => (a u)[i]?) = (b9 u).map some) (hpn : va_nd ps = true) (hpost : ∀ (r : Int64) (u : S), post r u → Post r (b9 u ++ tl u)) : CkL l y wd D tys b ci As w0 Post := by
  refine ⟨S, rm, wc, post, wc', isC, q0, fs, hM, hrm, hC, hnd, he, ?_⟩
  intro A H H1 r u hP hD hFc hk hP1 hD1 hp
  obtain ⟨g1, g2⟩ := va_join hP hD isC isR hC hR hn hdis hk hFc hP1 hD1
  rw [hx u] at g1 g2
  exact ⟨b9 u ++ tl u, hpost r u hp, perm_P (hps u) g1, perm_D (hps u) hpn g2⟩
theorem CkL.mono {Post2 : Int64 → va_W → Prop} (h : CkL l y wd D tys b ci As w0 Post) (hp : ∀ r w, Post r w → Post2 r w) : CkL l y wd D tys b ci As w0 Post2 := by
  obtain ⟨S, rm, wc, post, wc', isC, q0, fs, hM, hrm, hC, hnd, he, hk⟩ := h
  refine ⟨S, rm, wc, post, wc', isC, q0, fs, hM, hrm, hC, hnd, he, ?_⟩
  intro A H H1 r u a1 a2 a3 a4 a5 a6 a7
  obtain ⟨w1, b1, b2, b3⟩ := hk A H H1 r u a1 a2 a3 a4 a5 a6 a7
  exact ⟨w1, hp r w1 b1, b2, b3⟩
variable {p : Program} {e : Env} {R : Room} {s : State} {m : MethodId} {args : Array Value} {below : List Frame} {meth : Method} {c : Code} {H : Heap} {locs : List Loc} {cells slots : Nat} {Q : State → Prop} {pc : Nat} {ls : Array Slot} {rest st0 : List Value} {A : Nat → Prop} {Ts : List Cond} {own C : String} {cc bytes : ByteArray} {nL maxL index n : Nat} {ret : Option FieldType} {qc : vw_C}
/-- the call's step in the law -/
theorem k_ckl (S5 : CallFix p m c cc nL s args Ts own) (hN : kN s) (hK : va_K D vwCl tys s) (hG : GoodIn Ts (wsV own index C y wd)) (hw : wd = Cond.code y bytes maxL ret :: wd') (hd : y.cls = C ∧ y.cls ≠ "java/lang/invoke/MethodHandle" ∧ y.cls ≠ "java/lang/invoke/VarHandle" ∧ (parseMethodDescriptor y.desc).map (fun d => d.parameters.length) = some n) (hc : vwCl[ci]? = some qc) (hqc : qc.1 = C) (hmx : maxL ≤ 50) (hR : 10 ≤ R.frames ∧ 374 ≤ R.locals) (hfit : cells + 7 ≤ R.cells ∧ slots + 21 ≤ R.slots) (hk : CkL l y wd D tys b ci As w0 Post) (hlen : As.length = n) (hsz : ls.size = nL) (hst : st0 = As.reverse ++ .ref b :: rest) (hrest : (rest.map fun v => v.category).sum ≤ 8) (hdg : decode cc pc = .ok (.invokevirtual index, 3)) (hP : va_P D vwCl w0 H) (hD : va_D A w0) (hS : va_S A s.heap H locs) (hA : ∀ q : Nat, s.heap.size ≤ q → A q)
    (kk : ∀ (r : Int64) (w1 : va_W) (H1 : Heap) (locs1 : List Loc), Post r w1 → va_P D vwCl w1 H1 → va_D A w1 → va_S A s.heap H1 locs1 → W p l e R s m args below meth c H1 locs1 (cells + 7) (slots + 21) Q (F0 m (pc + 3) ls (.long r :: rest))) : W p l e R s m args below meth c H locs cells slots Q (F0 m pc ls st0) := by
  obtain ⟨S, rm, wc, post, wc', isC, q0, fs, hM, ⟨r1, r2, r3, r4⟩, hC, hnd, he, hfin⟩ := hk
  have hFc := va_free (wc := wc) hD hS hA isC hC
  subst hqc
  refine va_calll (va_runV (rest := rest) S5 (hM H.size) (cwV n S5.2.2.2.2 hG hw rfl rfl hd ⟨by omega, by omega⟩) (kPreV hN hK hP hD isC hC hnd hc he) rfl hlen hsz hst (lv_room hrest) hdg ⟨by omega, by omega⟩) hS (fun q _ h => hFc q h) hFc (fun r u t H1 locs1 ht hvm hw hB hz1 hk1 hS1 => ?_)
  obtain ⟨hP1, hK1, hD1⟩ := hB
  rw [ht] at hP1
  obtain ⟨w1, g1, g2, g3⟩ := hfin A H H1 r u hP hD hFc hk1 hP1 hD1 hw
  exact W.widen (k := cells + 7) (n := slots + 21) (by omega) (by omega) (kk r w1 H1 locs1 g1 g2 g3 hS1)
end CKL
