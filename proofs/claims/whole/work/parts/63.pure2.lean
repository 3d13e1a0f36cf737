/-! answers of class and model -/
theorem fs_first (g : Nat) : ∀ k, fs (fun zz => decide (g < zz + 1)) k = if g < k then some g else none
  | 0 => by simp [fs]
  | k + 1 => by
    have ih := fs_first g k
    rw [show fs (fun zz => decide (g < zz + 1)) (k + 1) = (match fs (fun zz => decide (g < zz + 1)) k with | some d => some d | none => if decide (g < k + 1) = true then some k else none) from rfl, ih]
    by_cases h : g < k
    · have e : g < k + 1 := by omega
      simp [h, e]
    · rw [if_neg h]
      by_cases e : g < k + 1
      · have : g = k := by omega
        simp [this]
      · simp [e]
theorem mk_zero {P : Nat → Bool} {n : Nat} : mk P n = 0 ↔ ∀ i, i < n → P i = false := by
  constructor
  · intro h i hi
    have := mk_bit P n i
    rw [h] at this
    simp [hi] at this
    exact this
  · intro h
    apply Nat.eq_of_testBit_eq
    intro i
    rw [mk_bit]
    by_cases c : i < n
    · simp [h i c]
    · simp [c]
theorem tb_big {B n i : Nat} (h : B < 2 ^ n) (hi : n ≤ i) : B.testBit i = false := Nat.testBit_lt_two_pow (Nat.lt_of_lt_of_le h (Nat.pow_le_pow_right (by decide) hi))
theorem all_say {P : Nat → Bool} {B n : Nat} (hB : B < 2 ^ n) : (mk P n ||| B = 2 ^ n - 1) ↔ mayM n B (mk P n) = 0 := by
  unfold mayM
  rw [mk_zero]
  constructor
  · intro h i hi
    have := congrArg (fun z => z.testBit i) h
    simp only [Nat.testBit_or, Nat.testBit_two_pow_sub_one] at this
    rw [decide_eq_true hi] at this
    cases h1 : (mk P n).testBit i <;> cases h2 : B.testBit i <;> simp_all
  · intro h
    apply Nat.eq_of_testBit_eq
    intro i
    rw [Nat.testBit_or, Nat.testBit_two_pow_sub_one]
    by_cases hi : i < n
    · have := h i hi
      cases h1 : (mk P n).testBit i <;> cases h2 : B.testBit i <;> simp_all
    · rw [mk_bit, tb_big hB (by omega)]
      simp [hi]
/-! the best set -/
theorem bst_min {P : Nat → Bool} {z : Nat} (hz : P z = true) : ∀ k, z < k → ∃ b, bst P k = some b ∧ popc b ≤ popc z
  | 0, h => by omega
  | k + 1, h => by
    rw [show bst P (k + 1) = (if fewer k (bst P k) = true ∧ P k = true then some k else bst P k) from rfl]
    by_cases e : z = k
    · subst e
      cases hb : bst P z with
      | none => exact ⟨z, by simp [fewer, hz], Nat.le_refl _⟩
      | some b =>
        by_cases c : popc z < popc b
        · exact ⟨z, by simp [fewer, hz, c], Nat.le_refl _⟩
        · exact ⟨b, by simp [fewer, c], by omega⟩
    · obtain ⟨b, hb, hl⟩ := bst_min hz k (by omega)
      rw [hb]
      by_cases c : fewer k (some b) = true ∧ P k = true
      · refine ⟨k, if_pos c, ?_⟩
        have := c.1
        simp [fewer] at this
        omega
      · exact ⟨b, if_neg c, hl⟩
theorem bst_eq {P Q : Nat → Bool} (h1 : ∀ z, Q z = true → P z = true) (h2 : ∀ z, P z = true → Q z = true ∨ ∃ y, y < z ∧ Q y = true ∧ popc y < popc z) : ∀ k, bst P k = bst Q k
  | 0 => rfl
  | k + 1 => by
    have ih := bst_eq h1 h2 k
    rw [show bst P (k + 1) = (if fewer k (bst P k) = true ∧ P k = true then some k else bst P k) from rfl, show bst Q (k + 1) = (if fewer k (bst Q k) = true ∧ Q k = true then some k else bst Q k) from rfl, ih]
    by_cases hq : Q k = true
    · rw [h1 k hq, hq]
    · by_cases hp : P k = true
      · rcases h2 k hp with h | ⟨y, hy, hqy, hl⟩
        · exact absurd h hq
        · obtain ⟨b, hb, hbl⟩ := bst_min hqy k hy
          rw [hb, if_neg, if_neg (fun z => hq z.2)]
          intro z
          have := z.1
          simp [fewer] at this
          omega
      · rw [if_neg (fun z => hp z.2), if_neg (fun z => hq z.2)]
theorem bst_eq' {P Q : Nat → Bool} {m : Nat} (h1 : ∀ z, z < m → Q z = true → P z = true) (h2 : ∀ z, z < m → P z = true → Q z = true ∨ ∃ y, y < z ∧ Q y = true ∧ popc y < popc z) : bst P m = bst Q m := by
  have e1 : bst P m = bst (fun z => decide (z < m) && P z) m := bst_congr m (fun i hi => by simp [hi])
  have e2 : bst Q m = bst (fun z => decide (z < m) && Q z) m := bst_congr m (fun i hi => by simp [hi])
  rw [e1, e2]
  apply bst_eq
  · intro z hz
    simp only [Bool.and_eq_true, decide_eq_true_eq] at hz ⊢
    exact ⟨hz.1, h1 z hz.1 hz.2⟩
  · intro z hz
    simp only [Bool.and_eq_true, decide_eq_true_eq] at hz ⊢
    rcases h2 z hz.1 hz.2 with h | ⟨y, hy, hq, hl⟩
    · exact Or.inl ⟨hz.1, h⟩
    · exact Or.inr ⟨y, hy, ⟨by omega, hq⟩, hl⟩
theorem less_0 : ∀ z, z < 128 → ∀ B, B < 128 → ¬ (z &&& B) = 0 → (z ^^^ (z &&& B)) < z ∧ popc (z ^^^ (z &&& B)) < popc z := by decide +kernel
theorem less_1 (z B : Nat) : (z ^^^ (z &&& B)) &&& B = 0 := by
  apply Nat.eq_of_testBit_eq
  intro i
  simp only [Nat.testBit_and, Nat.testBit_xor, Nat.zero_testBit]
  cases z.testBit i <;> cases B.testBit i <;> rfl
theorem less_2 (z B : Nat) : B ||| (z ^^^ (z &&& B)) = B ||| z := by
  apply Nat.eq_of_testBit_eq
  intro i
  simp only [Nat.testBit_and, Nat.testBit_xor, Nat.testBit_or]
  cases z.testBit i <;> cases B.testBit i <;> rfl
theorem less_3 {z B a : Nat} (h : z.testBit a = false) : (z ^^^ (z &&& B)).testBit a = false := by
  simp [Nat.testBit_and, Nat.testBit_xor, h]
/-! whispers -/
theorem wX_row {F : Nat → Nat → Nat} {n a : Nat} {s : Option Nat × Nat} (ha : a < n) : ∀ j, j ≤ n → wX F n s (a * n + j) = (if j ≤ a + 1 then wX F n s (a * n) else wIn F a (wX F n s (a * n)) (j - (a + 1)))
  | 0, _ => by simp
  | j + 1, hj => by
    have ih := wX_row (F := F) (s := s) ha j (by omega)
    have e1 : (a * n + j) / n = a := by
      rw [Nat.mul_comm, Nat.mul_add_div (by omega), Nat.div_eq_of_lt (by omega)]; rfl
    have e2 : (a * n + j) % n = j := by
      rw [Nat.mul_comm, Nat.mul_add_mod, Nat.mod_eq_of_lt (by omega)]
    rw [show wX F n s (a * n + (j + 1)) = (if (a * n + j) / n < (a * n + j) % n then wstep F ((a * n + j) / n) ((a * n + j) % n) (wX F n s (a * n + j)) else wX F n s (a * n + j)) from rfl, e1, e2, ih]
    by_cases c : a < j
    · rw [if_pos c, if_neg (show ¬ j + 1 ≤ a + 1 by omega)]
      by_cases c2 : j ≤ a + 1
      · have : j = a + 1 := by omega
        subst this
        rw [if_pos c2, show a + 1 + 1 - (a + 1) = 0 + 1 by omega]
        rfl
      · rw [if_neg c2, show j + 1 - (a + 1) = (j - (a + 1)) + 1 by omega]
        rw [show wIn F a (wX F n s (a * n)) (j - (a + 1) + 1) = wstep F a (a + 1 + (j - (a + 1))) (wIn F a (wX F n s (a * n)) (j - (a + 1))) from rfl, show a + 1 + (j - (a + 1)) = j by omega]
    · rw [if_neg c, if_pos (show j ≤ a + 1 by omega), if_pos (show j + 1 ≤ a + 1 by omega)]
theorem wX_out {F : Nat → Nat → Nat} {n : Nat} {s : Option Nat × Nat} : ∀ a, a ≤ n → wX F n s (a * n) = wOut F n s a
  | 0, _ => by rw [Nat.zero_mul]; rfl
  | a + 1, h => by
    have ih := wX_out (F := F) (n := n) (s := s) a (by omega)
    rw [Nat.succ_mul, wX_row (show a < n by omega) n (Nat.le_refl n), ih]
    rw [show wOut F n s (a + 1) = wIn F a (wOut F n s a) (n - (a + 1)) from rfl]
    by_cases c : n ≤ a + 1
    · rw [if_pos c, show n - (a + 1) = 0 by omega]; rfl
    · rw [if_neg c]
/-! odds -/
theorem red_gcd0 : ∀ n, n < 8 → ∀ c, c < 129 → c ≤ 2 ^ n → red n c (2 ^ n - 1 + 1) = (c / Nat.gcd c (2 ^ n - 1 + 1), (2 ^ n - 1 + 1) / Nat.gcd c (2 ^ n - 1 + 1)) := by decide +kernel
/-! asked -/
theorem pc_cntB {n : Nat} {er : Nat → Nat} {S a : Nat} (hn : n ≤ 7) (hS : S < 128) : popc (S &&& emf n er a) = cntB S (er a) a n := by
  have h1 : ∀ k, k ≤ n → pcU (S &&& emf n er a) k = cntB S (er a) a k := by
    intro k
    induction k with
    | zero => intro _; rfl
    | succ k ih =>
      intro hk
      rw [show pcU (S &&& emf n er a) (k + 1) = pcU (S &&& emf n er a) k + (if (S &&& emf n er a).testBit k = true then 1 else 0) from rfl, ih (by omega), show cntB S (er a) a (k + 1) = cntB S (er a) a k + (if S.testBit k = true ∧ absD k a ≤ er a then 1 else 0) from rfl]
      congr 1
      apply k_ifc
      rw [Nat.testBit_and, emf_bit]
      simp [show k < n by omega]
  have h2 : ∀ j, pcU (S &&& emf n er a) (n + j) = pcU (S &&& emf n er a) n := by
    intro j
    induction j with
    | zero => rfl
    | succ j ih =>
      rw [show pcU (S &&& emf n er a) (n + (j + 1)) = pcU (S &&& emf n er a) (n + j) + (if (S &&& emf n er a).testBit (n + j) = true then 1 else 0) from rfl, ih, if_neg]
      · rfl
      · rw [Nat.testBit_and, emf_bit]
        simp
        omega
  have h3 : S &&& emf n er a < 128 := Nat.lt_of_le_of_lt Nat.and_le_left hS
  rw [← pcU_end0 _ h3 7 (by decide) (Nat.div_eq_of_lt (by omega)), ← h1 n (Nat.le_refl n), ← h2 (7 - n), show n + (7 - n) = 7 by omega]
theorem sai_M {n B nw nh : Nat} {xp xd xo xh wp wd ho hh em dr kd lo er g : Nat → Nat} (hn : n ≤ 7) (hp : relP n em dr kd lo er) (hw : relW n nw xp xd wp wd) (hh' : relH nh xo xh ho hh) (hg7 : ∀ i, g i < 7) : ∀ k, (∀ j, j < k → g j < n) → sai em dr (rcf xp xd nw xo xh nh em 0) B g k = saM n (darF kd lo) er wp wd nw 0 ho hh nh B g k
  | 0, _ => rfl
  | k + 1, h => by
    have ih := sai_M (B := B) hn hp hw hh' hg7 k (fun j hj => h j (by omega))
    have hk := h k (by omega)
    have hS := saM_lt (n := n) (dr := darF kd lo) (er := er) (wp := wp) (wd := wd) (mw := nw) (mm := 0) (ho := ho) (hh := hh) (mh := nh) (B := B) hg7 k
    rw [show sai em dr (rcf xp xd nw xo xh nh em 0) B g (k + 1) = (if B.testBit (g k) = true then sai em dr (rcf xp xd nw xo xh nh em 0) B g k else (if popc (sai em dr (rcf xp xd nw xo xh nh em 0) B g k &&& em (g k)) + rcf xp xd nw xo xh nh em 0 (g k) < dr (g k) then sai em dr (rcf xp xd nw xo xh nh em 0) B g k else sai em dr (rcf xp xd nw xo xh nh em 0) B g k ||| 2 ^ (g k))) from rfl, ih]
    rw [show saM n (darF kd lo) er wp wd nw 0 ho hh nh B g (k + 1) = saM n (darF kd lo) er wp wd nw 0 ho hh nh B g k ||| (if B.testBit (g k) = true then 0 else (if hdA n er wp wd nw 0 ho hh nh (saM n (darF kd lo) er wp wd nw 0 ho hh nh B g k) (g k) < darF kd lo (g k) then 0 else 2 ^ (g k))) from rfl]
    have e : popc (saM n (darF kd lo) er wp wd nw 0 ho hh nh B g k &&& em (g k)) + rcf xp xd nw xo xh nh em 0 (g k) = hdA n er wp wd nw 0 ho hh nh (saM n (darF kd lo) er wp wd nw 0 ho hh nh B g k) (g k) := by
      rw [rc_now hp hw hh' 0 (by decide) (g k) hk, (hp (g k) hk).1, pc_cntB hn hS]
      unfold rcM hdA
      omega
    rw [e, (hp (g k) hk).2, show darF kd lo (g k) = dar (kd (g k)) (lo (g k)) from rfl]
    by_cases c1 : B.testBit (g k) = true
    · rw [if_pos c1, if_pos c1, Nat.or_zero]
    · rw [if_neg c1, if_neg c1]
      by_cases c2 : hdA n er wp wd nw 0 ho hh nh (saM n (darF kd lo) er wp wd nw 0 ho hh nh B g k) (g k) < dar (kd (g k)) (lo (g k))
      · rw [if_pos c2, if_pos c2, Nat.or_zero]
      · rw [if_neg c2, if_neg c2]
/-! readings -/
def relR (n nr : Nat) (yp yd yh rp rd rh : Nat → Nat) : Prop := ∀ j, j < nr → yp j = rp j ∧ yd j = rd j ∧ yh j = rh j ∧ yp j < n ∧ yd j < 40
theorem relR_up {n nr a b c : Nat} {yp yd yh rp rd rh : Nat → Nat} (h : relR n nr yp yd yh rp rd rh) (ha : a < n) (hb : b < 40) : relR n (nr + 1) (va_up yp nr a) (va_up yd nr b) (va_up yh nr c) (va_up rp nr a) (va_up rd nr b) (va_up rh nr c) := by
  intro j hj
  unfold va_up
  by_cases e : j = nr
  · simp [e, ha, hb]
  · simp only [e, if_false]; exact h j (by omega)
theorem relR_drop {n nr m : Nat} {yp yd yh rp rd rh : Nat → Nat} (h : relR n nr yp yd yh rp rd rh) (hm : m ≤ nr) : relR n m yp yd yh rp rd rh := fun j hj => h j (by omega)
theorem allB_G {n : Nat} {yp yd yh rp rd rh so sd : Nat → Nat} (hs : ∀ d, d < 40 → ∀ i, i < n → (sd d).testBit i = decide (so i ≤ d)) : ∀ k, relR n k yp yd yh rp rd rh → allB yp yd yh sd k = allG rp rd rh so k
  | 0, _ => rfl
  | k + 1, h => by
    have ih := allB_G hs k (relR_drop h (by omega))
    obtain ⟨h1, h2, h3, h4, h5⟩ := h k (by omega)
    rw [show allB yp yd yh sd (k + 1) = (allB yp yd yh sd k && ((sd (yd k)).testBit (yp k) == decide (yh k = 1))) from rfl, show allG rp rd rh so (k + 1) = (allG rp rd rh so k && (decide (so (rp k) ≤ rd k) == decide (rh k = 1))) from rfl, ih, hs _ h5 _ h4, h1, h2, h3]
/-! bribes -/
theorem bx_or {B a : Nat} (h : ¬ B.testBit a = true) : B ||| 2 ^ a = B ^^^ 2 ^ a := by
  apply Nat.eq_of_testBit_eq
  intro i
  rw [Nat.testBit_or, Nat.testBit_xor, Nat.testBit_two_pow]
  by_cases e : a = i
  · subst e; simp [h]
  · simp [e]
theorem bx_in {B a : Nat} (h : B.testBit a = true) : B ||| 2 ^ a = B := by
  apply Nat.eq_of_testBit_eq
  intro i
  rw [Nat.testBit_or, Nat.testBit_two_pow]
  by_cases e : a = i
  · subst e; simp [h]
  · simp [e]
theorem brm_bit {B a i : Nat} (hB : B < 128) : (brm B a).testBit i = (B.testBit i && !decide (a = i)) := by
  unfold brm
  rw [Nat.testBit_and, Nat.testBit_xor, Nat.testBit_two_pow, Nat.testBit_two_pow_sub_one]
  by_cases h : i < 32
  · simp [h]
  · rw [tb_big (n := 7) hB (by omega)]
    simp
theorem brm_x {B a : Nat} (hB : B < 128) (h : B.testBit a = true) : brm B a = B ^^^ 2 ^ a := by
  apply Nat.eq_of_testBit_eq
  intro i
  rw [brm_bit hB, Nat.testBit_xor, Nat.testBit_two_pow]
  by_cases e : a = i
  · subst e; simp [h]
  · simp [e]
theorem brm_n {B a : Nat} (hB : B < 128) (h : ¬ B.testBit a = true) : brm B a = B := by
  apply Nat.eq_of_testBit_eq
  intro i
  rw [brm_bit hB]
  by_cases e : a = i
  · subst e; simp [h]
  · simp [e]
theorem bx_lt {B a n : Nat} (hB : B < 2 ^ n) (ha : a < n) : B ^^^ 2 ^ a < 2 ^ n := Nat.xor_lt_two_pow hB (Nat.pow_lt_pow_right (by decide) ha)
/-! texts -/
theorem fs_cg {P Q : Nat → Bool} {k : Nat} (h : ∀ i, i < k → P i = Q i) : fs P k = fs Q k := fs_congr k h
theorem fwr_cg {f f' : Nat → Int32} {fr fr' n : Nat} (h : ∀ z, z < n → f (fr + z) = f' (fr' + z)) : fwr f fr n = fwr f' fr' n := by
  unfold fwr
  rw [fs_cg (P := fwP f fr) (Q := fwP f' fr') (fun i hi => by unfold fwP; rw [h i hi])]
