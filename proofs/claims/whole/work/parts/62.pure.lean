/-! class and model, in numbers alone -/
def relP (n : Nat) (em dr kd lo er : Nat → Nat) : Prop := ∀ p, p < n → em p = emf n er p ∧ dr p = dar (kd p) (lo p)
def relW (n nw : Nat) (xp xd wp wd : Nat → Nat) : Prop := ∀ j, j < nw → xp j = wp j ∧ xd j = wd j ∧ xp j < n
def relH (nh : Nat) (xo xh ho hh : Nat → Nat) : Prop := ∀ j, j < nh → xo j = ho j ∧ xh j = hh j
/-- what the model holds but for persons -/
def rcM (n : Nat) (er wp wd : Nat → Nat) (mw : Nat) (wo : Option Nat) (mm : Nat) (ho hh : Nat → Nat) (mh d a : Nat) : Nat := cntM wp wd (er a) a d wo mw + cntB mm (er a) a n + cntH ho hh a mh
theorem emf_bit {n : Nat} {er : Nat → Nat} {p q : Nat} : (emf n er p).testBit q = (decide (q < n) && decide (absD q p ≤ er p)) := by
  unfold emf
  rw [mk_bit]
section DAYS
variable {n B : Nat} {kd lo er em dr wp wd ho hh : Nat → Nat} {mw mh mm : Nat} {wo : Option Nat} {rc : Nat → Nat → Nat}
theorem so_or (hl : (Nat → Nat) → Nat → Nat → Nat) (i : Nat) (hi : i < 7) : ∀ d, d ≤ 40 → soM n (darF kd lo) B hl s7 d i < d ∨ soM n (darF kd lo) B hl s7 d i = 99
  | 0, _ => Or.inr (if_pos hi)
  | d + 1, hd => by
    have ih := so_or hl i hi d (by omega)
    show soS n (darF kd lo) B hl d _ i < d + 1 ∨ soS n (darF kd lo) B hl d _ i = 99
    unfold soS
    split
    · exact Or.inl (by omega)
    · rcases ih with h | h
      · exact Or.inl (by omega)
      · exact Or.inr h
theorem so_stay (hl : (Nat → Nat) → Nat → Nat → Nat) (i : Nat) {d : Nat} (hd : d ≤ 40) : ∀ k, (soM n (darF kd lo) B hl s7 (d + k) i < d ↔ soM n (darF kd lo) B hl s7 d i < d)
  | 0 => Iff.rfl
  | k + 1 => by
    have ih := so_stay hl i hd k
    rw [← ih, show soM n (darF kd lo) B hl s7 (d + (k + 1)) = soS n (darF kd lo) B hl (d + k) (soM n (darF kd lo) B hl s7 (d + k)) from rfl]
    unfold soS
    split
    · next h =>
      have h1 := h.2.1.1
      constructor <;> intro z <;> omega
    · exact Iff.rfl
theorem hld_rc {so : Nat → Nat} {S a d : Nat} (hS : ∀ i, i < n → S.testBit i = decide (so i < d)) : hldM n er wp wd mw wo mm ho hh mh so a d = popc (S &&& emf n er a) + rcM n er wp wd mw wo mm ho hh mh d a := by
  have e : mk (fun zz => decide (so zz < d) && decide (absD zz a ≤ er a)) n = S &&& emf n er a := by
    apply Nat.eq_of_testBit_eq
    intro i
    rw [mk_bit, Nat.testBit_and, emf_bit]
    by_cases h : i < n
    · rw [hS i h]; simp [h]
    · simp [h]
  unfold hldM rcM
  rw [e]
  omega
theorem days_bit (hn : n ≤ 7) (hp : relP n em dr kd lo er) (hrc : ∀ d, d < 40 → ∀ i, i < n → rc d i = rcM n er wp wd mw wo mm ho hh mh d i) : ∀ d, d ≤ 40 → ∀ i, (sdM n em dr B rc d).testBit i = (decide (i < n) && decide (soM n (darF kd lo) B (hldM n er wp wd mw wo mm ho hh mh) s7 d i < d))
  | 0, _, i => by simp [sdM]
  | d + 1, hd, i => by
    have ih := days_bit hn hp hrc d (by omega)
    show (sdM n em dr B rc d ||| spk n em dr (rc d) B (sdM n em dr B rc d)).testBit i = _
    rw [Nat.testBit_or, ih i]
    unfold spk
    rw [mk_bit]
    by_cases h : i < n
    · have h7 : i < 7 := by omega
      have hor := so_or (n := n) (kd := kd) (lo := lo) (B := B) (hldM n er wp wd mw wo mm ho hh mh) i h7 d (by omega)
      have hS : ∀ j, j < n → (sdM n em dr B rc d).testBit j = decide (soM n (darF kd lo) B (hldM n er wp wd mw wo mm ho hh mh) s7 d j < d) := by
        intro j hj; rw [ih j]; simp [hj]
      have hH := hld_rc (n := n) (er := er) (wp := wp) (wd := wd) (mw := mw) (wo := wo) (mm := mm) (ho := ho) (hh := hh) (mh := mh) (a := i) hS
      rw [← (hp i h).1, ← hrc d (by omega) i h] at hH
      have hdr : darF kd lo i = dr i := (hp i h).2.symm
      unfold spP
      rw [hS i h]
      rw [show soM n (darF kd lo) B (hldM n er wp wd mw wo mm ho hh mh) s7 (d + 1) i = soS n (darF kd lo) B (hldM n er wp wd mw wo mm ho hh mh) d (soM n (darF kd lo) B (hldM n er wp wd mw wo mm ho hh mh) s7 d) i from rfl]
      unfold soS
      rw [hH, hdr]
      generalize soM n (darF kd lo) B (hldM n er wp wd mw wo mm ho hh mh) s7 d i = x at hor ⊢
      by_cases hb : B.testBit i = true
      · rcases hor with g | g
        · have e1 : x < d + 1 := by omega
          simp [h, hb, g, e1]
        · have e1 : ¬ x < d + 1 := by omega
          have e2 : ¬ x < d := by omega
          simp [h, hb, e1, e2]
      · by_cases hc : dr i ≤ popc (sdM n em dr B rc d &&& em i) + rc d i
        · rcases hor with g | g
          · have e1 : x < d + 1 := by omega
            have e3 : ¬ x = 99 := by omega
            simp [h, g, e1, e3]
          · have e2 : ¬ x < d := by omega
            simp [h, hb, hc, g]
        · rcases hor with g | g
          · have e1 : x < d + 1 := by omega
            simp [h, hb, hc, g, e1]
          · have e1 : ¬ x < d + 1 := by omega
            have e2 : ¬ x < d := by omega
            simp [h, hb, hc, e1, e2]
    · simp [h]
/-- the class's days are the model's -/
theorem sd_gM (hn : n ≤ 7) (hp : relP n em dr kd lo er) (hrc : ∀ d, d < 40 → ∀ i, i < n → rc d i = rcM n er wp wd mw wo mm ho hh mh d i) {d : Nat} (hd : d ≤ 40) (i : Nat) : (sdM n em dr B rc d).testBit i = (decide (i < n) && decide (gM n kd lo er B wp wd mw wo mm ho hh mh i < d)) := by
  rw [days_bit hn hp hrc d hd i]
  have := so_stay (n := n) (kd := kd) (lo := lo) (B := B) (hldM n er wp wd mw wo mm ho hh mh) i hd (40 - d)
  rw [show d + (40 - d) = 40 by omega] at this
  unfold gM
  rw [decide_eq_decide.mpr this.symm]
theorem sd_mk (hn : n ≤ 7) (hp : relP n em dr kd lo er) (hrc : ∀ d, d < 40 → ∀ i, i < n → rc d i = rcM n er wp wd mw wo mm ho hh mh d i) {d : Nat} (hd : d < 40) : sdM n em dr B rc (d + 1) = nowM n (gM n kd lo er B wp wd mw wo mm ho hh mh) d := by
  apply Nat.eq_of_testBit_eq
  intro i
  unfold nowM
  rw [sd_gM hn hp hrc (show d + 1 ≤ 40 by omega), mk_bit, decide_eq_decide.mpr (Nat.lt_succ_iff)]
theorem gM_or {i : Nat} (hi : i < 7) : gM n kd lo er B wp wd mw wo mm ho hh mh i < 40 ∨ gM n kd lo er B wp wd mw wo mm ho hh mh i = 99 := so_or _ i hi 40 (Nat.le_refl 40)
end DAYS
/-! what is held -/
theorem cntB_0 (er a : Nat) : ∀ k, cntB 0 er a k = 0
  | 0 => rfl
  | k + 1 => by
    unfold cntB
    rw [cntB_0 er a k, if_neg (by simp)]
theorem cntM_congr {wp wd wp' wd' : Nat → Nat} {er a d : Nat} {wo : Option Nat} : ∀ k, (∀ j, j < k → wp j = wp' j ∧ wd j = wd' j) → cntM wp wd er a d wo k = cntM wp' wd' er a d wo k
  | 0, _ => rfl
  | k + 1, h => by
    have ih := cntM_congr (er := er) (a := a) (d := d) (wo := wo) k (fun j hj => h j (by omega))
    obtain ⟨e1, e2⟩ := h k (by omega)
    simp only [cntM, ih, e1, e2]
theorem cntW_M {n : Nat} {er xp xd : Nat → Nat} {a d : Nat} : ∀ k, (∀ j, j < k → xp j < n) → cntW xp xd (emf n er a) d k = cntM xp xd (er a) a d none k
  | 0, _ => rfl
  | k + 1, h => by
    have ih := cntW_M (er := er) (a := a) (d := d) (xd := xd) k (fun j hj => h j (by omega))
    have hk := h k (by omega)
    simp only [cntW, cntM, ih, emf_bit, hk]
    by_cases c1 : xd k ≤ d <;> by_cases c2 : absD (xp k) a ≤ er a <;> simp [c1, c2]
theorem cntH_c {xo xh ho hh : Nat → Nat} {nh a : Nat} (h : relH nh xo xh ho hh) : cntH xo xh a nh = cntH ho hh a nh := cntH_congr nh h
section HELD
variable {n nw nh : Nat} {xp xd xo xh wp wd ho hh em dr kd lo er : Nat → Nat}
/-- as it is -/
theorem rc_now (hp : relP n em dr kd lo er) (hw : relW n nw xp xd wp wd) (hh' : relH nh xo xh ho hh) : ∀ d, d < 40 → ∀ i, i < n → rcf xp xd nw xo xh nh em d i = rcM n er wp wd nw none 0 ho hh nh d i := by
  intro d _ i hi
  unfold rcf rcM
  rw [(hp i hi).1, cntW_M nw (fun j hj => (hw j hj).2.2), cntH_c hh', cntB_0, cntM_congr nw (fun j hj => ⟨(hw j hj).1, (hw j hj).2.1⟩)]
  omega
theorem relW_up {a b : Nat} (hw : relW n nw xp xd wp wd) (ha : a < n) : relW n (nw + 1) (va_up xp nw a) (va_up xd nw b) (va_up wp nw a) (va_up wd nw b) := by
  intro j hj
  unfold va_up
  by_cases e : j = nw
  · simp [e, ha]
  · simp only [e, if_false]; exact hw j (by omega)
theorem relH_up {a b : Nat} (hw : relH nh xo xh ho hh) : relH (nh + 1) (va_up xo nh a) (va_up xh nh b) (va_up ho nh a) (va_up hh nh b) := by
  intro j hj
  unfold va_up
  by_cases e : j = nh
  · simp [e]
  · simp only [e, if_false]; exact hw j (by omega)
theorem relW_keep {u v : Nat} (hw : relW n nw xp xd wp wd) : relW n nw xp xd (va_up wp nw u) (va_up wd nw v) := by
  intro j hj
  unfold va_up
  have e : ¬ j = nw := by omega
  simp only [e, if_false]; exact hw j hj
theorem relH_keep {u v : Nat} (hw : relH nh xo xh ho hh) : relH nh xo xh (va_up ho nh u) (va_up hh nh v) := by
  intro j hj
  unfold va_up
  have e : ¬ j = nh := by omega
  simp only [e, if_false]; exact hw j hj
theorem relW_drop {m : Nat} (hw : relW n nw xp xd wp wd) (h : m ≤ nw) : relW n m xp xd wp wd := fun j hj => hw j (by omega)
theorem relH_drop {m : Nat} (hw : relH nh xo xh ho hh) (h : m ≤ nh) : relH m xo xh ho hh := fun j hj => hw j (by omega)
/-- with words at the places of a set -/
theorem adP_n (hw : ∀ j, j < nw → xp j < n) {S : Nat} : ∀ k, k ≤ n → ∀ j, j < adN S nw k → adP S xp nw k j < n
  | 0, _ => hw
  | k + 1, hk => by
    have ih := adP_n hw (S := S) k (by omega)
    intro j hj
    unfold adP
    unfold adN at hj
    by_cases t : S.testBit k = true
    · rw [if_pos t] at hj ⊢
      unfold va_up
      split
      · omega
      · exact ih j (by omega)
    · rw [if_neg t] at hj ⊢
      exact ih j hj
theorem cntM_up {f g : Nat → Nat} {er a d k x y : Nat} : cntM (va_up f k x) (va_up g k y) er a d none k = cntM f g er a d none k := by
  apply cntM_congr
  intro j hj
  unfold va_up
  have e : ¬ j = k := by omega
  simp [e]
theorem cntM_ad {S er a d : Nat} : ∀ k, cntM (adP S xp nw k) (adD S xd nw k) er a d none (adN S nw k) = cntM xp xd er a d none nw + cntB S er a k
  | 0 => rfl
  | k + 1 => by
    have ih := cntM_ad (S := S) (er := er) (a := a) (d := d) k
    rw [show adP S xp nw (k + 1) = (if S.testBit k = true then va_up (adP S xp nw k) (adN S nw k) k else adP S xp nw k) from rfl, show adD S xd nw (k + 1) = (if S.testBit k = true then va_up (adD S xd nw k) (adN S nw k) 0 else adD S xd nw k) from rfl, show adN S nw (k + 1) = (if S.testBit k = true then adN S nw k + 1 else adN S nw k) from rfl, show cntB S er a (k + 1) = cntB S er a k + (if S.testBit k = true ∧ absD k a ≤ er then 1 else 0) from rfl]
    by_cases t : S.testBit k = true
    · rw [if_pos t, if_pos t, if_pos t]
      show cntM _ _ er a d none (adN S nw k) + _ = _
      rw [cntM_up, ih]
      have e1 : va_up (adP S xp nw k) (adN S nw k) k (adN S nw k) = k := by simp [va_up]
      have e2 : va_up (adD S xd nw k) (adN S nw k) 0 (adN S nw k) = 0 := by simp [va_up]
      rw [e1, e2]
      by_cases c : absD k a ≤ er <;> simp [t, c] <;> omega
    · rw [if_neg t, if_neg t, if_neg t, ih]
      simp [t]
theorem rc_fewest (hp : relP n em dr kd lo er) (hw : relW n nw xp xd wp wd) (hh' : relH nh xo xh ho hh) (S : Nat) : ∀ d, d < 40 → ∀ i, i < n → rcf (adP S xp nw n) (adD S xd nw n) (adN S nw n) xo xh nh em d i = rcM n er wp wd nw none S ho hh nh d i := by
  intro d _ i hi
  unfold rcf rcM
  rw [(hp i hi).1, cntW_M _ (adP_n (fun j hj => (hw j hj).2.2) n (Nat.le_refl n)), cntH_c hh', cntM_ad, cntM_congr nw (fun j hj => ⟨(hw j hj).1, (hw j hj).2.1⟩)]
/-- with one word left out -/
theorem cntM_skip {f g : Nat → Nat} {er a d k : Nat} : ∀ m, m ≤ k → cntM f g er a d (some k) m = cntM f g er a d none m
  | 0, _ => rfl
  | m + 1, h => by
    unfold cntM
    rw [cntM_skip m (by omega)]
    have e : (some k : Option Nat) ≠ some m := fun z => by have := Option.some.inj z; omega
    simp [e]
theorem cntM_shf {f g : Nat → Nat} {er a d k : Nat} : ∀ m, k < m → cntM f g er a d (some k) m = cntM (shf f k m) (shf g k m) er a d none (m - 1)
  | 0, h => by omega
  | m + 1, h => by
    show _ = cntM (shf f k (m + 1)) (shf g k (m + 1)) er a d none m
    by_cases e : k = m
    · subst e
      unfold cntM
      rw [shf_0, shf_0]
      cases k with
      | zero => simp [cntM]
      | succ k =>
        rw [show cntM f g er a d (some (k + 1)) (k + 1) = cntM f g er a d none (k + 1) from cntM_skip (k + 1) (Nat.le_refl _)]
        simp [cntM]
    · obtain ⟨p, rfl⟩ : ∃ p, m = p + 1 := ⟨m - 1, by omega⟩
      have ih := cntM_shf (f := f) (g := g) (er := er) (a := a) (d := d) (k := k) (p + 1) (by omega)
      rw [show cntM f g er a d (some k) (p + 1 + 1) = cntM f g er a d (some k) (p + 1) + (if (some k : Option Nat) ≠ some (p + 1) ∧ (g (p + 1) ≤ d ∧ absD (f (p + 1)) a ≤ er) then 1 else 0) from rfl, ih]
      rw [show cntM (shf f k (p + 1 + 1)) (shf g k (p + 1 + 1)) er a d none (p + 1) = cntM (shf f k (p + 1 + 1)) (shf g k (p + 1 + 1)) er a d none p + (if (none : Option Nat) ≠ some p ∧ (shf g k (p + 1 + 1) p ≤ d ∧ absD (shf f k (p + 1 + 1) p) a ≤ er) then 1 else 0) from rfl]
      have e1 : shf f k (p + 1 + 1) p = f (p + 1) := by unfold shf; rw [if_pos (by omega)]
      have e2 : shf g k (p + 1 + 1) p = g (p + 1) := by unfold shf; rw [if_pos (by omega)]
      have e3 : (some k : Option Nat) ≠ some (p + 1) := fun z => by have := Option.some.inj z; omega
      have e4 : cntM (shf f k (p + 1)) (shf g k (p + 1)) er a d none (p + 1 - 1) = cntM (shf f k (p + 1 + 1)) (shf g k (p + 1 + 1)) er a d none p := by
        rw [show p + 1 - 1 = p from rfl]
        apply cntM_congr
        intro j hj
        unfold shf
        by_cases c : k ≤ j
        · have c1 : k ≤ j ∧ j + 1 < p + 1 := by omega
          have c2 : k ≤ j ∧ j + 1 < p + 1 + 1 := by omega
          rw [if_pos c1, if_pos c2, if_pos c1, if_pos c2]; exact ⟨rfl, rfl⟩
        · have c1 : ¬ (k ≤ j ∧ j + 1 < p + 1) := by omega
          have c2 : ¬ (k ≤ j ∧ j + 1 < p + 1 + 1) := by omega
          rw [if_neg c1, if_neg c2, if_neg c1, if_neg c2]; exact ⟨rfl, rfl⟩
      rw [e1, e2, e4]
      simp [e3]
theorem shf_n (hw : ∀ j, j < nw → xp j < n) {k : Nat} (hk : k < nw) : ∀ j, j < nw - 1 → shf xp k nw j < n := by
  intro j hj
  unfold shf
  split <;> exact hw _ (by omega)
theorem rc_worth (hp : relP n em dr kd lo er) (hw : relW n nw xp xd wp wd) (hh' : relH nh xo xh ho hh) {k : Nat} (hk : k < nw) : ∀ d, d < 40 → ∀ i, i < n → rcf (shf xp k nw) (shf xd k nw) (nw - 1) xo xh nh em d i = rcM n er wp wd nw (some k) 0 ho hh nh d i := by
  intro d _ i hi
  unfold rcf rcM
  rw [(hp i hi).1, cntW_M _ (shf_n (fun j hj => (hw j hj).2.2) hk), cntH_c hh', ← cntM_shf nw hk, cntB_0, cntM_congr nw (fun j hj => ⟨(hw j hj).1, (hw j hj).2.1⟩)]
  omega
end HELD
