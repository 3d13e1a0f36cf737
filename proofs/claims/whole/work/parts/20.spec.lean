/-! the street's days, in numbers alone -/
/-- a set of places as bits -/
def mk (P : Nat → Bool) : Nat → Nat
  | 0 => 0
  | k + 1 => if P k = true then mk P k ||| 2 ^ k else mk P k
theorem mk_bit (P : Nat → Bool) : ∀ n i, (mk P n).testBit i = (decide (i < n) && P i)
  | 0, i => by simp [mk]
  | n + 1, i => by
    have ih := mk_bit P n i
    unfold mk
    by_cases h : P n = true
    · rw [if_pos h, Nat.testBit_or, ih, Nat.testBit_two_pow]
      by_cases e : n = i
      · subst e; simp [h]
      · have : i < n + 1 ↔ i < n := by omega
        simp [e, this]
    · rw [if_neg h, ih]
      by_cases e : n = i
      · subst e; simp [h]
      · have : i < n + 1 ↔ i < n := by omega
        simp [this]
theorem mk_lt (P : Nat → Bool) (n : Nat) : mk P n < 2 ^ n := by
  apply Nat.lt_pow_two_of_testBit
  intro i hi
  rw [mk_bit]
  simp; omega
theorem mk_lt7 (P : Nat → Bool) {n : Nat} (h : n ≤ 7) : mk P n < 128 := Nat.lt_of_lt_of_le (mk_lt P n) (show 2 ^ n ≤ 2 ^ 7 from Nat.pow_le_pow_right (by decide) h)
theorem mk_congr {P Q : Nat → Bool} : ∀ n, (∀ i, i < n → P i = Q i) → mk P n = mk Q n
  | 0, _ => rfl
  | n + 1, h => by
    unfold mk
    rw [mk_congr n (fun i hi => h i (by omega)), h n (by omega)]
def mayM (n S B : Nat) : Nat := mk (fun p => !S.testBit p && !B.testBit p) n
theorem mayM_nat {n S B : Nat} (hn : n ≤ 7) : (2 ^ n - 1) &&& (S ^^^ (2 ^ 32 - 1)) &&& (B ^^^ (2 ^ 32 - 1)) = mayM n S B := by
  apply Nat.eq_of_testBit_eq
  intro i
  unfold mayM
  rw [mk_bit, Nat.testBit_and, Nat.testBit_and, Nat.testBit_xor, Nat.testBit_xor, Nat.testBit_two_pow_sub_one, Nat.testBit_two_pow_sub_one]
  by_cases h : i < n
  · have : i < 32 := by omega
    simp [h, this]
  · simp [h]
theorem mayM_ok {n S B : Nat} (hn : n ≤ 7) : ((nI (2 ^ n - 1)) &&& ((nI S) ^^^ (-1))) &&& ((nI B) ^^^ (-1)) = nI (mayM n S B) := by
  rw [show (-1 : Int32) = nI (2 ^ 32 - 1) by decide, nI_xor, nI_xor, nI_and, nI_and, mayM_nat hn]
/-- who says it on a day -/
def spP (em dr rc : Nat → Nat) (B S p : Nat) : Bool := !S.testBit p && !B.testBit p && decide (dr p ≤ popc (S &&& em p) + rc p)
def spk (n : Nat) (em dr rc : Nat → Nat) (B S : Nat) : Nat := mk (spP em dr rc B S) n
theorem spk_step {n k S B X : Nat} {em dr rc : Nat → Nat} (hk : k < n) : (if (mayM n S B).testBit k = true then (if popc (S &&& em k) + rc k < dr k then X else X ||| 2 ^ k) else X) = (if spP em dr rc B S k = true then X ||| 2 ^ k else X) := by
  unfold mayM spP
  rw [mk_bit]
  by_cases h1 : S.testBit k = true
  · simp [h1]
  · by_cases h2 : B.testBit k = true
    · simp [h2]
    · by_cases h3 : dr k ≤ popc (S &&& em k) + rc k
      · have : ¬ popc (S &&& em k) + rc k < dr k := by omega
        simp [h1, h2, h3, hk, this]
      · have : popc (S &&& em k) + rc k < dr k := by omega
        simp [h1, h2, h3, hk, this]
theorem spk_congr {n S B : Nat} {em dr rc rc' : Nat → Nat} (h : ∀ p, p < n → rc p = rc' p) : spk n em dr rc B S = spk n em dr rc' B S := by
  unfold spk
  apply mk_congr
  intro i hi
  unfold spP
  rw [h i hi]
/-- what reaches one on a day but for persons -/
def rcf (wp wd : Nat → Nat) (nw : Nat) (ho hh : Nat → Nat) (nh : Nat) (em : Nat → Nat) (d p : Nat) : Nat := cntW wp wd (em p) d nw + cntH ho hh p nh
theorem rcf_lt {wp wd ho hh em : Nat → Nat} {nw nh : Nat} (h1 : nw ≤ 13) (h2 : nh ≤ 7) (d : Nat) : ∀ p, rcf wp wd nw ho hh nh em d p < 21 := by
  intro p
  have a := cntW_le wp wd (em p) d nw
  have b := cntH_le ho hh p nh
  unfold rcf
  omega
/-- who has said it ahead of a day -/
def sdM (n : Nat) (em dr : Nat → Nat) (B : Nat) (rc : Nat → Nat → Nat) : Nat → Nat
  | 0 => 0
  | d + 1 => sdM n em dr B rc d ||| spk n em dr (rc d) B (sdM n em dr B rc d)
theorem sdM_lt {n : Nat} (hn : n ≤ 7) (em dr : Nat → Nat) (B : Nat) (rc : Nat → Nat → Nat) : ∀ d, sdM n em dr B rc d < 128
  | 0 => by simp [sdM]
  | d + 1 => by
    unfold sdM
    exact Nat.or_lt_two_pow (n := 7) (sdM_lt hn em dr B rc d) (mk_lt7 _ hn)
theorem dmask_bit (wd : Nat → Nat) : ∀ k d, (dmask wd k).testBit d = true ↔ ∃ j, j < k ∧ wd j = d
  | 0, d => by simp [dmask]
  | k + 1, d => by
    unfold dmask
    rw [Nat.testBit_or, Bool.or_eq_true, dmask_bit wd k d, Nat.testBit_two_pow]
    constructor
    · rintro (⟨j, h1, h2⟩ | h)
      · exact ⟨j, by omega, h2⟩
      · exact ⟨k, by omega, by simpa using h⟩
    · rintro ⟨j, h1, h2⟩
      by_cases e : j = k
      · subst e; exact Or.inr (by simpa using h2)
      · exact Or.inl ⟨j, by omega, h2⟩
theorem cntW_still (wp wd : Nat → Nat) (E d : Nat) : ∀ k, (∀ j, j < k → wd j ≠ d + 1) → cntW wp wd E (d + 1) k = cntW wp wd E d k
  | 0, _ => rfl
  | k + 1, h => by
    have ih := cntW_still wp wd E d k (fun j hj => h j (by omega))
    have h1 := h k (by omega)
    have : wd k ≤ d + 1 ↔ wd k ≤ d := by omega
    simp only [cntW, ih, this]
theorem rv_ok {n d nw nh : Nat} {wp wd ho hh em rv : Nat → Nat} (h : d = 0 ∨ ∀ p, p < n → rv p = rcf wp wd nw ho hh nh em (d - 1) p) :
    ∀ p, p < n → (if (d = 0) ∨ ((dmask wd nw).testBit d = true) then cpN (rcf wp wd nw ho hh nh em d) rv n else rv) p = rcf wp wd nw ho hh nh em d p := by
  intro p hp
  by_cases c : (d = 0) ∨ ((dmask wd nw).testBit d = true)
  · rw [if_pos c]; simp [cpN, hp]
  · rw [if_neg c]
    obtain ⟨d, rfl⟩ : ∃ e, d = e + 1 := ⟨d - 1, by omega⟩
    rcases h with h | h
    · omega
    · rw [h p hp]
      unfold rcf
      rw [show d + 1 - 1 = d from rfl]
      rw [cntW_still wp wd (em p) d nw]
      intro j hj e
      exact c (Or.inr ((dmask_bit wd nw (d + 1)).mpr ⟨j, hj, e⟩))
theorem sd_step {n d B st : Nat} {em dr rv R2 : Nat → Nat} {rc : Nat → Nat → Nat} {F : Prop} [Decidable F] (h1 : ∀ p, p < n → R2 p = rc d p) (h2 : ¬ F → R2 = rv) (hz : st = 0 → 0 < d ∧ spk n em dr rv B (sdM n em dr B rc d) = 0) :
    (if F then sdM n em dr B rc d ||| spk n em dr R2 B (sdM n em dr B rc d) else (if st = 0 then sdM n em dr B rc d else sdM n em dr B rc d ||| spk n em dr R2 B (sdM n em dr B rc d))) = sdM n em dr B rc (d + 1) := by
  have e : sdM n em dr B rc (d + 1) = sdM n em dr B rc d ||| spk n em dr R2 B (sdM n em dr B rc d) := by
    rw [spk_congr h1]; rfl
  by_cases f : F
  · rw [if_pos f, e]
  · rw [if_neg f]
    by_cases g : st = 0
    · rw [if_pos g, e, h2 f, (hz g).2, Nat.or_zero]
    · rw [if_neg g, e]
theorem st_step {n d B st : Nat} {em dr rv R2 : Nat → Nat} {rc : Nat → Nat → Nat} {F : Prop} [Decidable F] (h1 : ∀ p, p < n → R2 p = rc d p) (h2 : ¬ F → R2 = rv) (hz : st = 0 → 0 < d ∧ spk n em dr rv B (sdM n em dr B rc d) = 0) :
    (if F then (if ¬ (spk n em dr R2 B (sdM n em dr B rc d) = 0) then 1 else 0) else (if st = 0 then st else (if ¬ (spk n em dr R2 B (sdM n em dr B rc d) = 0) then 1 else 0))) = 0 → 0 < d + 1 ∧ spk n em dr R2 B (sdM n em dr B rc (d + 1)) = 0 := by
  intro h
  refine ⟨by omega, ?_⟩
  have e : sdM n em dr B rc (d + 1) = sdM n em dr B rc d ||| spk n em dr R2 B (sdM n em dr B rc d) := by
    rw [spk_congr h1]; rfl
  have z : spk n em dr R2 B (sdM n em dr B rc d) = 0 := by
    by_cases f : F
    · rw [if_pos f] at h
      by_cases g : spk n em dr R2 B (sdM n em dr B rc d) = 0
      · exact g
      · rw [if_pos g] at h; cases h
    · rw [if_neg f] at h
      by_cases g : st = 0
      · rw [h2 f]; exact (hz g).2
      · rw [if_neg g] at h
        by_cases g : spk n em dr R2 B (sdM n em dr B rc d) = 0
        · exact g
        · rw [if_pos g] at h; cases h
  rw [e, z, Nat.or_zero, z]
/-- the first of k for which something holds -/
def fs (P : Nat → Bool) : Nat → Option Nat
  | 0 => none
  | k + 1 => match fs P k with
    | some d => some d
    | none => if P k = true then some k else none
theorem fs_more {P : Nat → Bool} {d : Nat} : ∀ {k m : Nat}, k ≤ m → fs P k = some d → fs P m = some d
  | k, 0, h, e => by
    have : k = 0 := by omega
    subst this; exact e
  | k, m + 1, h, e => by
    by_cases c : k = m + 1
    · subst c; exact e
    · have := fs_more (m := m) (by omega) e
      simp [fs, this]
theorem fs_hit {P : Nat → Bool} {k m : Nat} (h : fs P k = none) (hp : P k = true) (hm : k < m) : fs P m = some k := fs_more (k := k + 1) hm (by simp [fs, h, hp])
theorem fs_miss {P : Nat → Bool} {k : Nat} (h : fs P k = none) (hp : ¬ P k = true) : fs P (k + 1) = none := by simp [fs, h, hp]
theorem fs_congr {P Q : Nat → Bool} : ∀ k, (∀ i, i < k → P i = Q i) → fs P k = fs Q k
  | 0, _ => rfl
  | k + 1, h => by
    have ih := fs_congr k (fun i hi => h i (by omega))
    simp only [fs, ih, h k (by omega)]
def oD : Option Nat → Int32
  | some d => nI d
  | none => -9
/-- whether all readings are so -/
def allB (rp rd rh sd : Nat → Nat) : Nat → Bool
  | 0 => true
  | k + 1 => allB rp rd rh sd k && ((sd (rd k)).testBit (rp k) == decide (rh k = 1))
theorem allB_no {rp rd rh sd : Nat → Nat} {k : Nat} : ∀ {m : Nat}, k < m → ¬ ((sd (rd k)).testBit (rp k) = decide (rh k = 1)) → allB rp rd rh sd m = false
  | 0, h, _ => by omega
  | m + 1, h, e => by
    by_cases c : k = m
    · subst c; simp [allB, e]
    · simp [allB, allB_no (m := m) (by omega) e]
theorem lg_bit0 : ∀ d, d < 40 → ∀ b : Bool, lg_cmp (lN (if b then 1 else 0)) (lN 0) = nI (if b = true then 1 else 0) := by decide
theorem lN_e0 : ∀ d, d < 40 → ((BitVec.ofNat 64 d).smod 64).toNat = d := by decide +kernel
theorem lN_shr {M d : Nat} (hM : M < 2 ^ 63) (hd : d < 40) : (lN M) >>> ((nI d).toInt64 &&& 63) = lN (M / 2 ^ d) := by
  have e : (nI d).toInt64 &&& 63 = lN d := by revert hd; revert d; decide +kernel
  apply Int64.toBitVec.inj
  rw [e, Int64.toBitVec_shiftRight, lN_tb, lN_tb, lN_tb]
  have h1 : ((BitVec.ofNat 64 d).smod 64).toNat = d := lN_e0 d hd
  apply BitVec.eq_of_toNat_eq
  rw [BitVec.sshiftRight_eq', h1]
  rw [BitVec.sshiftRight_eq_of_msb_false]
  · simp [BitVec.toNat_ushiftRight, Nat.shiftRight_eq_div_pow]
    have : M / 2 ^ d ≤ M := Nat.div_le_self _ _
    rw [Nat.mod_eq_of_lt (by omega), Nat.mod_eq_of_lt (by omega)]
  · rw [BitVec.msb_eq_decide]
    simp
    omega
theorem lg_day {M d : Nat} (hM : M < 2 ^ 63) (hd : d < 40) : lg_cmp (((lN M) >>> ((nI d).toInt64 &&& 63)) &&& (lN 1)) (lN 0) = nI (if M.testBit d = true then 1 else 0) := by
  rw [lN_shr hM hd, lN_and, Nat.and_one_is_mod, Nat.testBit_eq_decide_div_mod_eq]
  rcases Nat.mod_two_eq_zero_or_one (M / 2 ^ d) with h | h <;> rw [h] <;> decide
theorem dmask_lt {wd : Nat → Nat} (h : ∀ i, wd i < 40) : ∀ k, dmask wd k < 2 ^ 63
  | 0 => by simp [dmask]
  | k + 1 => by
    unfold dmask
    exact Nat.or_lt_two_pow (dmask_lt h k) (Nat.pow_lt_pow_right (by decide) (by have := h k; omega))
