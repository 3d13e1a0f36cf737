/-- a world with new cells at places -/
def upds (w : va_W) : List Nat → va_W → va_W
  | [], _ => w
  | _ :: _, [] => w
  | i :: is, c :: cs => upds (w.set i c) is cs
theorem upds_oth : ∀ (is : List Nat) (cs w : va_W) (k : Nat), k ∉ is → (upds w is cs)[k]? = w[k]?
  | [], _, _, _, _ => by rw [upds]
  | _ :: _, [], _, _, _ => by rw [upds]
  | i :: is, c :: cs, w, k, h => by
    rw [show upds w (i :: is) (c :: cs) = upds (w.set i c) is cs from rfl, upds_oth is cs (w.set i c) k (fun z => h (List.mem_cons_of_mem _ z))]
    exact List.getElem?_set_ne (fun e => h (by rw [e]; exact List.mem_cons_self))
theorem upds_at : ∀ (is : List Nat) (cs w : va_W), va_nd is = true → is.length = cs.length → (∀ i ∈ is, i < w.length) → is.map (fun i => (upds w is cs)[i]?) = cs.map some
  | [], [], _, _, _, _ => rfl
  | [], _ :: _, _, _, h, _ => by cases h
  | _ :: _, [], _, _, h, _ => by cases h
  | i :: is, c :: cs, w, hn, hl, hi => by
    have hnd : i ∉ is ∧ va_nd is = true := by
      simp [va_nd] at hn
      exact hn
    have ih := upds_at is cs (w.set i c) hnd.2 (by simpa using hl) (fun j hj => by rw [List.length_set]; exact hi j (List.mem_cons_of_mem _ hj))
    rw [show upds w (i :: is) (c :: cs) = upds (w.set i c) is cs from rfl, List.map_cons, List.map_cons, ih, upds_oth is cs _ i hnd.1, List.getElem?_set_self (hi i List.mem_cons_self)]
theorem set_same {α : Type} : ∀ (l : List α) (i : Nat) (a : α), l[i]? = some a → l.set i a = l
  | [], _, _, h => by cases h
  | x :: l, 0, a, h => by
    have : x = a := by simpa using h
    rw [this]; rfl
  | x :: l, i + 1, a, h => by
    show x :: l.set i a = x :: l
    rw [set_same l i a (by simpa using h)]
theorem upds_len : ∀ (is : List Nat) (cs w : va_W), (upds w is cs).length = w.length := by
  intro is
  induction is with
  | nil => intro cs w; rw [upds]
  | cons i is ih =>
    intro cs w
    cases cs with
    | nil => rw [upds]
    | cons c cs => rw [show upds w (i :: is) (c :: cs) = upds (w.set i c) is cs from rfl, ih, List.length_set]
theorem kmix_U {D : va_G} {A : Nat → Prop} {ws wc w1 wn : va_W} {H H1 : Heap} (hP : va_P D vwCl ws H) (hD : va_D A ws) (isC : List Nat) (hC : isC.map (fun i => ws[i]?) = wc.map some) (hf : w1.map Prod.fst = wc.map Prod.fst) (h1 : isC.map (fun i => wn[i]?) = w1.map some) (oth : ∀ k : Nat, k ∉ isC → wn[k]? = ws[k]?) (hlen : wn.length = ws.length) (hk : ∀ q : Nat, q < H.size → ¬ va_A wc H.size q → H1[q]? = H[q]?) (hP1 : va_P D vwCl w1 H1) : va_P D vwCl wn H1 ∧ va_D A wn := by
  refine kmix_P (N := ws.length) hP hD isC ((List.range ws.length).filter (fun i => !isC.contains i)) hC hf h1 ?_ ?_ ?_ hk hP1
  · apply List.map_congr_left
    intro i hi
    have := (List.mem_filter.mp hi).2
    exact oth i (by simpa using this)
  · rw [List.drop_eq_nil_of_le (Nat.le_refl _), List.drop_eq_nil_of_le (by omega)]
  · apply List.all_eq_true.mpr
    intro i hi
    rw [Bool.or_eq_true]
    by_cases c : isC.contains i = true
    · exact Or.inl c
    · right
      rw [List.contains_iff_mem, List.mem_filter]
      exact ⟨hi, by simpa using c⟩
section CUi
variable {l : Launch} {y : MethodName} {wd : List Cond} {D : va_G} {tys : List (ClassId × FieldType)} {b ci : Nat} {As : List Value} {w0 : va_W} {Post : Int32 → va_W → Prop} {S : Type} {rm : Room} {wc : va_W} {post : Int32 → S → Prop} {wc' : S → va_W}
theorem ck_gvi (hM : kMi (S := S) l y wd rm D tys (.ref b :: As) wc post wc') (hrm : rm.frames ≤ 9 ∧ rm.locals ≤ 300 ∧ rm.cells ≤ 7 ∧ rm.slots ≤ 21) (isC : List Nat) (hC : isC.map (fun i => w0[i]?) = wc.map some) (hnd : va_nd isC = true) (q0 : Nat) (fs : List Value) (he : wc[q0]? = some (b, .inr (ci, fs))) (hf : ∀ u : S, (wc' u).map Prod.fst = wc.map Prod.fst) (wn : S → va_W) (h1 : ∀ u : S, isC.map (fun i => (wn u)[i]?) = (wc' u).map some) (isX : List Nat) (hsub : ∀ i ∈ isX, i ∈ isC) (wx : S → va_W) (hw : ∀ u : S, upds w0 isX (wx u) = wn u) (hpost : ∀ (r : Int32) (u : S), post r u → Post r (wn u)) : CkI l y wd D tys b ci As w0 Post := by
  refine ⟨S, rm, wc, post, wc', isC, q0, fs, hM, hrm, hC, hnd, he, ?_⟩
  intro A H H1 r u hP hD _ hk hP1 _ hp
  have oth : ∀ k : Nat, k ∉ isC → (wn u)[k]? = w0[k]? := by
    intro k hkc
    rw [← hw u]
    exact upds_oth isX (wx u) w0 k (fun z => hkc (hsub k z))
  have hl : (wn u).length = w0.length := by rw [← hw u, upds_len]
  obtain ⟨g1, g2⟩ := kmix_U hP hD isC hC (hf u) (h1 u) oth hl hk hP1
  exact ⟨wn u, hpost r u hp, g1, g2⟩
end CUi
section CUl
variable {l : Launch} {y : MethodName} {wd : List Cond} {D : va_G} {tys : List (ClassId × FieldType)} {b ci : Nat} {As : List Value} {w0 : va_W} {Post : Int64 → va_W → Prop} {S : Type} {rm : Room} {wc : va_W} {post : Int64 → S → Prop} {wc' : S → va_W}
theorem ck_gvl (hM : kMl (S := S) l y wd rm D tys (.ref b :: As) wc post wc') (hrm : rm.frames ≤ 9 ∧ rm.locals ≤ 300 ∧ rm.cells ≤ 7 ∧ rm.slots ≤ 21) (isC : List Nat) (hC : isC.map (fun i => w0[i]?) = wc.map some) (hnd : va_nd isC = true) (q0 : Nat) (fs : List Value) (he : wc[q0]? = some (b, .inr (ci, fs))) (hf : ∀ u : S, (wc' u).map Prod.fst = wc.map Prod.fst) (wn : S → va_W) (h1 : ∀ u : S, isC.map (fun i => (wn u)[i]?) = (wc' u).map some) (isX : List Nat) (hsub : ∀ i ∈ isX, i ∈ isC) (wx : S → va_W) (hw : ∀ u : S, upds w0 isX (wx u) = wn u) (hpost : ∀ (r : Int64) (u : S), post r u → Post r (wn u)) : CkL l y wd D tys b ci As w0 Post := by
  refine ⟨S, rm, wc, post, wc', isC, q0, fs, hM, hrm, hC, hnd, he, ?_⟩
  intro A H H1 r u hP hD _ hk hP1 _ hp
  have oth : ∀ k : Nat, k ∉ isC → (wn u)[k]? = w0[k]? := by
    intro k hkc
    rw [← hw u]
    exact upds_oth isX (wx u) w0 k (fun z => hkc (hsub k z))
  have hl : (wn u).length = w0.length := by rw [← hw u, upds_len]
  obtain ⟨g1, g2⟩ := kmix_U hP hD isC hC (hf u) (h1 u) oth hl hk hP1
  exact ⟨wn u, hpost r u hp, g1, g2⟩
end CUl
