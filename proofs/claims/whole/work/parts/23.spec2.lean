/-! trials, in numbers alone -/
theorem cntW_congr {wp wd wp' wd' : Nat → Nat} {E d : Nat} : ∀ k, (∀ j, j < k → wp j = wp' j ∧ wd j = wd' j) → cntW wp wd E d k = cntW wp' wd' E d k
  | 0, _ => rfl
  | k + 1, h => by
    have ih := cntW_congr (E := E) (d := d) k (fun j hj => h j (by omega))
    obtain ⟨a, b⟩ := h k (by omega)
    simp only [cntW, ih, a, b]
theorem cntH_congr {ho hh ho' hh' : Nat → Nat} {p : Nat} : ∀ k, (∀ j, j < k → ho j = ho' j ∧ hh j = hh' j) → cntH ho hh p k = cntH ho' hh' p k
  | 0, _ => rfl
  | k + 1, h => by
    have ih := cntH_congr (p := p) k (fun j hj => h j (by omega))
    obtain ⟨a, b⟩ := h k (by omega)
    simp only [cntH, ih, a, b]
theorem rcf_congr {wp wd wp' wd' ho hh ho' hh' em : Nat → Nat} {nw nh : Nat} (h1 : ∀ j, j < nw → wp j = wp' j ∧ wd j = wd' j) (h2 : ∀ j, j < nh → ho j = ho' j ∧ hh j = hh' j) : rcf wp wd nw ho hh nh em = rcf wp' wd' nw ho' hh' nh em := by
  funext d p
  unfold rcf
  rw [cntW_congr nw h1, cntH_congr nh h2]
theorem cpN_at {f g : Nat → Nat} {k j : Nat} (h : j < k) : cpN f g k j = f j := by unfold cpN; rw [if_pos h]
theorem rcf_cp {xp wp xd wd xo ho xh hh em : Nat → Nat} {mw mh : Nat} : rcf (cpN xp wp mw) (cpN xd wd mw) mw (cpN xo ho mh) (cpN xh hh mh) mh em = rcf xp xd mw xo xh mh em :=
  rcf_congr (fun _ h => ⟨cpN_at h, cpN_at h⟩) (fun _ h => ⟨cpN_at h, cpN_at h⟩)
theorem rcf_cpw {xp wp xd wd xo ho xh hh em : Nat → Nat} {mw mh a b : Nat} : rcf (cpN xp wp mw) (cpN xd wd mw) mw (va_up (cpN xo ho mh) mh a) (va_up (cpN xh hh mh) mh b) (mh + 1) em = rcf xp xd mw (va_up xo mh a) (va_up xh mh b) (mh + 1) em := by
  apply rcf_congr (fun _ h => ⟨cpN_at h, cpN_at h⟩)
  intro j hj
  unfold va_up
  by_cases e : j = mh
  · simp [e]
  · have : j < mh := by omega
    simp [e, cpN_at this]
theorem rcf_cpa {xp wp xd wd xo ho xh hh em : Nat → Nat} {mw mh a b : Nat} : rcf (va_up (cpN xp wp mw) mw a) (va_up (cpN xd wd mw) mw b) (mw + 1) (cpN xo ho mh) (cpN xh hh mh) mh em = rcf (va_up xp mw a) (va_up xd mw b) (mw + 1) xo xh mh em := by
  apply rcf_congr _ (fun _ h => ⟨cpN_at h, cpN_at h⟩)
  intro j hj
  unfold va_up
  by_cases e : j = mw
  · simp [e]
  · have : j < mw := by omega
    simp [e, cpN_at this]
theorem rcf_cps {xp wp xd wd xo ho xh hh em : Nat → Nat} {mw mh k : Nat} (hk : k < mw) : rcf (shf (cpN xp wp mw) k mw) (shf (cpN xd wd mw) k mw) (mw - 1) (cpN xo ho mh) (cpN xh hh mh) mh em = rcf (shf xp k mw) (shf xd k mw) (mw - 1) xo xh mh em := by
  apply rcf_congr _ (fun _ h => ⟨cpN_at h, cpN_at h⟩)
  intro j hj
  unfold shf
  by_cases e : k ≤ j ∧ j + 1 < mw
  · rw [if_pos e, if_pos e, if_pos e, if_pos e, cpN_at e.2, cpN_at e.2]; exact ⟨rfl, rfl⟩
  · rw [if_neg e, if_neg e, if_neg e, if_neg e, cpN_at (by omega), cpN_at (by omega)]; exact ⟨rfl, rfl⟩
def fewer (S : Nat) : Option Nat → Bool
  | none => true
  | some b => decide (popc S < popc b)
/-- of the sets below k the first of the fewest for which P holds -/
def bst (P : Nat → Bool) : Nat → Option Nat
  | 0 => none
  | k + 1 => if fewer k (bst P k) = true ∧ P k = true then some k else bst P k
theorem bst_lt {P : Nat → Bool} : ∀ {k b : Nat}, bst P k = some b → b < k
  | 0, b, h => by simp [bst] at h
  | k + 1, b, h => by
    unfold bst at h
    by_cases c : fewer k (bst P k) = true ∧ P k = true
    · rw [if_pos c] at h; cases h; omega
    · rw [if_neg c] at h; have := bst_lt h; omega
theorem bst_n1 {P : Nat → Bool} {k : Nat} (h : ¬ fewer k (bst P k) = true) : oD (bst P k) = oD (bst P (k + 1)) := by
  rw [show bst P (k + 1) = bst P k from if_neg (fun z => h z.1)]
theorem bst_n2 {P : Nat → Bool} {k : Nat} (h : ¬ P k = true) : oD (bst P k) = oD (bst P (k + 1)) := by
  rw [show bst P (k + 1) = bst P k from if_neg (fun z => h z.2)]
theorem bst_y {P : Nat → Bool} {k : Nat} (h1 : fewer k (bst P k) = true) (h2 : P k = true) : nI k = oD (bst P (k + 1)) := by
  rw [show bst P (k + 1) = some k from if_pos ⟨h1, h2⟩]; rfl
theorem bst_congr {P Q : Nat → Bool} : ∀ k, (∀ i, i < k → P i = Q i) → bst P k = bst Q k
  | 0, _ => rfl
  | k + 1, h => by
    unfold bst
    rw [bst_congr k (fun i hi => h i (by omega)), h k (by omega)]
theorem nI_ne9 {w : Nat} (h : w < 2 ^ 31) : ¬ nI w = (-9) := by
  intro e
  have h1 := nI_toInt h
  rw [e] at h1
  have : (-9 : Int32).toInt = -9 := by decide
  omega
/-- words at the places of a set, behind m words -/
def adN (S m : Nat) : Nat → Nat
  | 0 => m
  | k + 1 => if S.testBit k = true then adN S m k + 1 else adN S m k
def adP (S : Nat) (f : Nat → Nat) (m : Nat) : Nat → Nat → Nat
  | 0 => f
  | k + 1 => if S.testBit k = true then va_up (adP S f m k) (adN S m k) k else adP S f m k
def adD (S : Nat) (f : Nat → Nat) (m : Nat) : Nat → Nat → Nat
  | 0 => f
  | k + 1 => if S.testBit k = true then va_up (adD S f m k) (adN S m k) 0 else adD S f m k
theorem adN_le (S m : Nat) : ∀ k, m ≤ adN S m k ∧ adN S m k ≤ m + k
  | 0 => by simp [adN]
  | k + 1 => by
    have := adN_le S m k
    unfold adN
    split <;> omega
theorem adP_lt {S m B : Nat} {f : Nat → Nat} (hf : ∀ i, f i < B) : ∀ k, k ≤ B → ∀ i, adP S f m k i < B
  | 0, _ => hf
  | k + 1, hk => by
    have ih := adP_lt (S := S) (m := m) hf k (by omega)
    intro i
    unfold adP
    split
    · exact up_lt ih (by omega) i
    · exact ih i
theorem adD_lt {S m B : Nat} {f : Nat → Nat} (hf : ∀ i, f i < B) (hB : 0 < B) : ∀ k, ∀ i, adD S f m k i < B
  | 0 => hf
  | k + 1 => by
    have ih := adD_lt (S := S) (m := m) hf hB k
    intro i
    unfold adD
    split
    · exact up_lt ih hB i
    · exact ih i
theorem adP_congr {S m : Nat} {f g : Nat → Nat} (h : ∀ i, i < m → f i = g i) : ∀ k, ∀ i, i < adN S m k → adP S f m k i = adP S g m k i
  | 0 => h
  | k + 1 => by
    have ih := adP_congr (S := S) h k
    intro i hi
    unfold adP
    unfold adN at hi
    by_cases t : S.testBit k = true
    · rw [if_pos t] at hi ⊢
      rw [if_pos t]
      unfold va_up
      by_cases e : i = adN S m k
      · simp [e]
      · simp only [e, if_false]; exact ih i (by omega)
    · rw [if_neg t] at hi ⊢
      rw [if_neg t]
      exact ih i hi
theorem adD_congr {S m : Nat} {f g : Nat → Nat} (h : ∀ i, i < m → f i = g i) : ∀ k, ∀ i, i < adN S m k → adD S f m k i = adD S g m k i
  | 0 => h
  | k + 1 => by
    have ih := adD_congr (S := S) h k
    intro i hi
    unfold adD
    unfold adN at hi
    by_cases t : S.testBit k = true
    · rw [if_pos t] at hi ⊢
      rw [if_pos t]
      unfold va_up
      by_cases e : i = adN S m k
      · simp [e]
      · simp only [e, if_false]; exact ih i (by omega)
    · rw [if_neg t] at hi ⊢
      rw [if_neg t]
      exact ih i hi
theorem rcf_cpx {xp wp xd wd xo ho xh hh em : Nat → Nat} {mw mh S k : Nat} : rcf (adP S (cpN xp wp mw) mw k) (adD S (cpN xd wd mw) mw k) (adN S mw k) (cpN xo ho mh) (cpN xh hh mh) mh em = rcf (adP S xp mw k) (adD S xd mw k) (adN S mw k) xo xh mh em :=
  rcf_congr (fun j h => ⟨adP_congr (fun _ h => cpN_at h) k j h, adD_congr (fun _ h => cpN_at h) k j h⟩) (fun _ h => ⟨cpN_at h, cpN_at h⟩)
theorem allB_congr {rp rd rh sd sd' : Nat → Nat} : ∀ k, (∀ j, j < k → sd (rd j) = sd' (rd j)) → allB rp rd rh sd k = allB rp rd rh sd' k
  | 0, _ => rfl
  | k + 1, h => by
    unfold allB
    rw [allB_congr k (fun j hj => h j (by omega)), h k (by omega)]
theorem allB_cp {rp rd rh f sd : Nat → Nat} {k : Nat} (h : ∀ i, rd i < 40) : allB rp rd rh (cpN f sd 40) k = allB rp rd rh f k := allB_congr k (fun j _ => cpN_at (h j))
/-- how many below k -/
def cntS (P : Nat → Bool) : Nat → Nat
  | 0 => 0
  | k + 1 => cntS P k + (if P k = true then 1 else 0)
theorem cntS_le (P : Nat → Bool) : ∀ k, cntS P k ≤ k
  | 0 => Nat.le_refl 0
  | k + 1 => by
    have := cntS_le P k
    unfold cntS
    split <;> omega
theorem cntS_congr {P Q : Nat → Bool} : ∀ k, (∀ i, i < k → P i = Q i) → cntS P k = cntS Q k
  | 0, _ => rfl
  | k + 1, h => by
    unfold cntS
    rw [cntS_congr k (fun i hi => h i (by omega)), h k (by omega)]
/-- halves, while they can be taken -/
def red : Nat → Nat → Nat → Nat × Nat
  | 0, u, l => (u, l)
  | f + 1, u, l => if u % 2 = 0 then red f (u / 2) (l / 2) else (u, l)
theorem red_odd {f u l : Nat} (h : ¬ u % 2 = 0) : red f u l = (u, l) := by
  cases f with
  | zero => rfl
  | succ f => exact if_neg h
theorem red_even {n t u l : Nat} (h : u % 2 = 0) (ht : t < n) : red (n - t) u l = red (n - (t + 1)) (u / 2) (l / 2) := by
  rw [show n - t = (n - (t + 1)) + 1 by omega]
  exact if_pos h
/-- a better whisper -/
def wstep (F : Nat → Nat → Nat) (a b : Nat) (s : Option Nat × Nat) : Option Nat × Nat := if s.2 < F a b then (some (10 * a + b), F a b) else s
def wIn (F : Nat → Nat → Nat) (a : Nat) (s : Option Nat × Nat) : Nat → Option Nat × Nat
  | 0 => s
  | j + 1 => wstep F a (a + 1 + j) (wIn F a s j)
def wOut (F : Nat → Nat → Nat) (n : Nat) (s : Option Nat × Nat) : Nat → Option Nat × Nat
  | 0 => s
  | a + 1 => wIn F a (wOut F n s a) (n - (a + 1))
