theorem bst_y2 {P : Nat → Bool} {k : Nat} {bo : Option Nat} (hb : bst P k = bo) (h1 : fewer k bo = true) (h2 : P k = true) : nI k = oD (bst P (k + 1)) := bst_y (hb ▸ h1) h2
theorem bst_m1 {P : Nat → Bool} {k : Nat} {bo : Option Nat} (hb : bst P k = bo) (h : ¬ fewer k bo = true) : oD bo = oD (bst P (k + 1)) := by
  rw [← hb]; exact bst_n1 (by rw [hb]; exact h)
theorem bst_m2 {P : Nat → Bool} {k : Nat} {bo : Option Nat} (hb : bst P k = bo) (h : ¬ P k = true) : oD bo = oD (bst P (k + 1)) := by
  rw [← hb]; exact bst_n2 h
theorem fewer_n (k : Nat) : fewer k none = true := rfl
theorem fewer_y {k w : Nat} (h : popc k < popc w) : fewer k (some w) = true := by simp [fewer, h]
theorem fewer_x {k w : Nat} (h : popc w ≤ popc k) : ¬ fewer k (some w) = true := by simp [fewer]; omega
theorem nI_neg1 {w : Nat} (h : w < 2 ^ 31) : ¬ nI w < 0 := nI_ge0 h
theorem p2m {n k : Nat} (hn : n ≤ 7) (h : k ≤ 2 ^ n) : k ≤ 128 := Nat.le_trans h (show 2 ^ n ≤ 2 ^ 7 from Nat.pow_le_pow_right (by decide) hn)
theorem mayM_ok2 {n S B : Nat} (hn : n ≤ 7) : ((nI (2 ^ n - 1)) &&& ((nI B) ^^^ (-1))) &&& ((nI S) ^^^ (-1)) = nI (mayM n B S) := mayM_ok hn
/-- readings held against the model's days -/
def allG (rp rd rh so : Nat → Nat) : Nat → Bool
  | 0 => true
  | k + 1 => allG rp rd rh so k && (decide (so (rp k) ≤ rd k) == decide (rh k = 1))
theorem allG_s {rp rd rh so : Nat → Nat} {k : Nat} (hr : rh k < 2) : (if (allG rp rd rh so k = true) ∧ ((if so (rp k) ≤ rd k then 1 else 0) = rh k) then 1 else 0 : Nat) = (if allG rp rd rh so (k + 1) = true then 1 else 0) := by
  apply k_ifc
  rw [show allG rp rd rh so (k + 1) = (allG rp rd rh so k && (decide (so (rp k) ≤ rd k) == decide (rh k = 1))) from rfl, Bool.and_eq_true, beq_iff_eq]
  rcases (show rh k = 0 ∨ rh k = 1 by omega) with h | h <;> by_cases c : so (rp k) ≤ rd k <;> simp [h, c]
theorem up_self (g : Nat → Nat) (k : Nat) : va_up g k (g k) = g := by
  funext i
  unfold va_up
  split
  · next h => rw [h]
  · rfl
theorem up_up (g : Nat → Nat) (k a b : Nat) : va_up (va_up g k a) k b = va_up g k b := by
  funext i
  unfold va_up
  split <;> rfl
theorem lN_rem {x y : Nat} (hx : x < 2 ^ 31) (hy : y < 2 ^ 31) (h0 : 0 < y) : lN x - lN x / lN y * lN y = lN (x % y) := by
  have hq : x / y ≤ x := Nat.div_le_self x y
  have hm : x / y * y ≤ x := Nat.div_mul_le_self x y
  have e1 : (lN x / lN y).toInt = ((x / y : Nat) : Int) := by
    rw [Int64.toInt_div, lN_toInt hx, lN_toInt hy, ← Int.ofNat_tdiv x y]
    generalize x / y = z at hq ⊢
    exact Int.bmod_eq_of_le (by omega) (by omega)
  have e2 : (lN x / lN y * lN y).toInt = ((x / y * y : Nat) : Int) := by
    rw [Int64.toInt_mul, e1, lN_toInt hy, ← Int.natCast_mul]
    exact Int.bmod_eq_of_le (by omega) (by omega)
  apply Int64.toInt_inj.mp
  have hr : x % y = x - x / y * y := by
    have := Nat.div_add_mod x y
    rw [Nat.mul_comm] at this
    omega
  have hrl : x % y < 2 ^ 31 := Nat.lt_of_le_of_lt (Nat.mod_le x y) hx
  rw [Int64.toInt_sub, lN_toInt hx, e2, lN_toInt hrl, hr, Int.ofNat_sub hm]
  exact Int.bmod_eq_of_le (by omega) (by omega)
theorem lN_div {x y : Nat} (hx : x < 2 ^ 31) (hy : y < 2 ^ 31) : lN x / lN y = lN (x / y) := by
  have hq : x / y ≤ x := Nat.div_le_self x y
  apply Int64.toInt_inj.mp
  rw [Int64.toInt_div, lN_toInt hx, lN_toInt hy, lN_toInt (by omega), ← Int.ofNat_tdiv x y]
  generalize x / y = z at hq ⊢
  exact Int.bmod_eq_of_le (by omega) (by omega)
theorem lN_eq0 {y : Nat} (h : y < 2 ^ 31) : lg_cmp (lN y) (lN 0) = 0 ↔ y = 0 := by
  constructor
  · intro e
    have h1 : ¬ 0 < lg_cmp (lN y) (lN 0) := by rw [e]; decide
    rw [lg_gt, Int64.lt_iff_toInt_lt, lN_toInt h, lN_toInt (by decide)] at h1
    omega
  · intro e
    rw [e]; decide
theorem lN_ne0 {y : Nat} (h : y < 2 ^ 31) (h0 : 0 < y) : lN y ≠ 0 := by
  intro e
  have h1 := lN_toInt h
  rw [e] at h1
  have : (0 : Int64).toInt = 0 := by decide
  omega
theorem cs_y {P : Nat → Bool} {k : Nat} {C : Prop} [Decidable C] (c : C) (h : P k = decide C := by rfl) : cntS P k + 1 = cntS P (k + 1) := by
  rw [show cntS P (k + 1) = cntS P k + (if P k = true then 1 else 0) from rfl, if_pos (by rw [h]; exact decide_eq_true c)]
theorem cs_n {P : Nat → Bool} {k : Nat} {C : Prop} [Decidable C] (c : ¬ C) (h : P k = decide C := by rfl) : cntS P k + 0 = cntS P (k + 1) := by
  rw [show cntS P (k + 1) = cntS P k + (if P k = true then 1 else 0) from rfl, if_neg (by rw [h, decide_eq_true_eq]; exact c)]
/-- the best whisper, pair by pair -/
def wX (F : Nat → Nat → Nat) (n : Nat) (s : Option Nat × Nat) : Nat → Option Nat × Nat
  | 0 => s
  | x + 1 => if x / n < x % n then wstep F (x / n) (x % n) (wX F n s x) else wX F n s x
theorem wX_le {F : Nat → Nat → Nat} (hF : ∀ a b, F a b ≤ 7) {n : Nat} {s : Option Nat × Nat} (hs : s.2 ≤ 7) : ∀ x, (wX F n s x).2 ≤ 7
  | 0 => hs
  | x + 1 => by
    have ih := wX_le hF (n := n) hs x
    unfold wX wstep
    split
    · split
      · exact hF _ _
      · exact ih
    · exact ih
theorem wX_n {F : Nat → Nat → Nat} {n x : Nat} {s : Option Nat × Nat} (h : ¬ x / n < x % n) : wX F n s (x + 1) = wX F n s x := if_neg h
theorem wX_y1 {F : Nat → Nat → Nat} {n x v : Nat} {s : Option Nat × Nat} (h : x / n < x % n) (hv : v = F (x / n) (x % n)) (h2 : (wX F n s x).2 < v) : wX F n s (x + 1) = (some (10 * (x / n) + x % n), v) := by
  subst hv
  rw [show wX F n s (x + 1) = wstep F (x / n) (x % n) (wX F n s x) from if_pos h]
  exact if_pos h2
theorem wX_y2 {F : Nat → Nat → Nat} {n x v : Nat} {s : Option Nat × Nat} (h : x / n < x % n) (hv : v = F (x / n) (x % n)) (h2 : v ≤ (wX F n s x).2) : wX F n s (x + 1) = wX F n s x := by
  subst hv
  have h2 : ¬ (wX F n s x).2 < F (x / n) (x % n) := Nat.not_lt.mpr h2
  rw [show wX F n s (x + 1) = wstep F (x / n) (x % n) (wX F n s x) from if_pos h]
  exact if_neg h2
theorem xd {n x : Nat} (h : x < n * n) : x / n < n ∧ x % n < n := by
  have h0 : 0 < n := by
    rcases Nat.eq_zero_or_pos n with e | e
    · subst e; omega
    · exact e
  exact ⟨Nat.div_lt_of_lt_mul h, Nat.mod_lt x h0⟩
theorem nn49 {n : Nat} (h : n ≤ 7) : n * n ≤ 49 := Nat.mul_le_mul h h
theorem wv_n {F : Nat → Nat → Nat} {n x : Nat} {s : Option Nat × Nat} (h : x % n ≤ x / n) : (wX F n s x).2 = (wX F n s (x + 1)).2 := by rw [wX_n (Nat.not_lt.mpr h)]
theorem wo_n {F : Nat → Nat → Nat} {n x : Nat} {s : Option Nat × Nat} (h : x % n ≤ x / n) : oD (wX F n s x).1 = oD (wX F n s (x + 1)).1 := by rw [wX_n (Nat.not_lt.mpr h)]
theorem wv_y1 {F : Nat → Nat → Nat} {n x v : Nat} {s : Option Nat × Nat} (h : x / n < x % n) (hv : v = F (x / n) (x % n)) (h2 : (wX F n s x).2 < v) : v = (wX F n s (x + 1)).2 := by rw [wX_y1 h hv h2]
theorem wo_y1 {F : Nat → Nat → Nat} {n x v : Nat} {s : Option Nat × Nat} (h : x / n < x % n) (hv : v = F (x / n) (x % n)) (h2 : (wX F n s x).2 < v) : nI ((10 * (x / n)) + (x % n)) = oD (wX F n s (x + 1)).1 := by rw [wX_y1 h hv h2]; rfl
theorem wv_y2 {F : Nat → Nat → Nat} {n x v : Nat} {s : Option Nat × Nat} (h : x / n < x % n) (hv : v = F (x / n) (x % n)) (h2 : v ≤ (wX F n s x).2) : (wX F n s x).2 = (wX F n s (x + 1)).2 := by rw [wX_y2 h hv h2]
theorem wo_y2 {F : Nat → Nat → Nat} {n x v : Nat} {s : Option Nat × Nat} (h : x / n < x % n) (hv : v = F (x / n) (x % n)) (h2 : v ≤ (wX F n s x).2) : oD (wX F n s x).1 = oD (wX F n s (x + 1)).1 := by rw [wX_y2 h hv h2]
theorem nI_nz {w : Nat} (h : w < 2 ^ 31) (h0 : w ≠ 0) : nI w ≠ 0 := by
  intro e
  have h1 := nI_toInt h
  rw [e] at h1
  have : (0 : Int32).toInt = 0 := by decide
  omega
section PM
variable (mn : Nat) (kd lo er : Nat → Nat) (mb : Nat) (wp wd : Nat → Nat) (mw mm : Nat) (ho hh : Nat → Nat) (mh : Nat) (rp rd rh : Nat → Nat) (mr a d : Nat)
def pfM : Nat → Bool := fun z8 => decide (mayM mn mb (nowM mn (gM mn kd lo er mb wp wd mw none z8 ho hh mh) 39) = 0)
def pbM : Nat → Bool := fun z8 => !(z8.testBit a) && (decide (z8 &&& mb = 0) && decide ((gM mn kd lo er (mb ||| z8) wp wd mw none mm ho hh mh) a = 99))
def pwM : Nat → Bool := fun z8 => allG rp rd rh (gM mn kd lo er mb (va_up wp mw z8) (va_up wd mw d) (mw + 1) none mm ho hh mh) mr
def ppM : Nat → Bool := fun z8 => allG rp rd rh (gM mn kd lo er (mb ||| 2 ^ z8) wp wd mw none mm ho hh mh) mr
def poM : Nat → Bool := fun z8 => decide ((gM mn kd lo er z8 wp wd mw none mm ho hh mh) a ≤ d)
def fwM : Nat → Nat → Nat := fun z7 z8 => popc (nowM mn (gM mn kd lo er mb wp wd mw none mm (va_up ho mh z7) (va_up hh mh z8) (mh + 1)) 39)
end PM
section PM2
variable {mn : Nat} {kd lo er : Nat → Nat} {mb : Nat} {wp wd : Nat → Nat} {mw mm : Nat} {ho hh : Nat → Nat} {mh : Nat} {a k : Nat}
theorem pf_y (h : mayM mn mb (nowM mn (gM mn kd lo er mb wp wd mw none k ho hh mh) 39) = 0) : pfM mn kd lo er mb wp wd mw ho hh mh k = true := decide_eq_true h
theorem pf_n (h : ¬ mayM mn mb (nowM mn (gM mn kd lo er mb wp wd mw none k ho hh mh) 39) = 0) : ¬ pfM mn kd lo er mb wp wd mw ho hh mh k = true := fun z => h (of_decide_eq_true z)
theorem pb_y (h1 : ¬ k.testBit a = true) (h2 : (k &&& mb) = 0) (h3 : (gM mn kd lo er (mb ||| k) wp wd mw none mm ho hh mh) a = 99) : pbM mn kd lo er mb wp wd mw mm ho hh mh a k = true := by
  unfold pbM
  simp [h1, h2, h3]
theorem pb_n1 (h1 : k.testBit a = true) : ¬ pbM mn kd lo er mb wp wd mw mm ho hh mh a k = true := by
  unfold pbM
  simp [h1]
theorem pb_n2 (h2 : ¬ (k &&& mb) = 0) : ¬ pbM mn kd lo er mb wp wd mw mm ho hh mh a k = true := by
  unfold pbM
  simp [h2]
theorem pb_n3 (h3 : ¬ (gM mn kd lo er (mb ||| k) wp wd mw none mm ho hh mh) a = 99) : ¬ pbM mn kd lo er mb wp wd mw mm ho hh mh a k = true := by
  unfold pbM
  simp [h3]
theorem pwm_s {rp rd rh : Nat → Nat} {mr d uv : Nat} : mk (pwM mn kd lo er mb wp wd mw mm ho hh mh rp rd rh mr d) k ||| (if allG rp rd rh (gM mn kd lo er mb (va_up (va_up wp mw uv) ((mw + 1) - 1) k) (va_up wd ((mw + 1) - 1) d) (mw + 1) none mm ho hh mh) mr = true then 2 ^ k else 0) = mk (pwM mn kd lo er mb wp wd mw mm ho hh mh rp rd rh mr d) (k + 1) := by
  rw [show mw + 1 - 1 = mw from rfl, up_up]
  exact mk_or1 Iff.rfl
theorem po_y {d : Nat} (h : (gM mn kd lo er k wp wd mw none mm ho hh mh) a ≤ d) : lN (cntS (poM mn kd lo er wp wd mw mm ho hh mh a d) k) + lN 1 = lN (cntS (poM mn kd lo er wp wd mw mm ho hh mh a d) (k + 1)) := by
  rw [lN_add]
  exact congrArg lN (cs_y h)
theorem po_n {d : Nat} (h : d < (gM mn kd lo er k wp wd mw none mm ho hh mh) a) : lN (cntS (poM mn kd lo er wp wd mw mm ho hh mh a d) k) + lN 0 = lN (cntS (poM mn kd lo er wp wd mw mm ho hh mh a d) (k + 1)) := by
  rw [lN_add]
  exact congrArg lN (cs_n (Nat.not_le.mpr h))
theorem fw_ok {u1 u2 x y : Nat} : popc (mk (fun zz => decide ((gM mn kd lo er mb wp wd mw none mm (va_up (va_up ho mh u1) ((mh + 1) - 1) x) (va_up (va_up hh mh u2) ((mh + 1) - 1) y) (mh + 1)) zz ≤ 39)) mn) = fwM mn kd lo er mb wp wd mw mm ho hh mh x y := by
  rw [show mh + 1 - 1 = mh from rfl, up_up, up_up]
  rfl
end PM2
