theorem m57 {m : Nat} (hm : m ≤ 9) : ¬ inR ((-9) - (nI 48)) (m + 1) := by
  unfold inR
  have : ((-9 : Int32) - nI 48).toInt = -57 := by decide
  omega
theorem kdc_ok {c : Int32} (h : c = nI 115 ∨ c = nI 99 ∨ c = nI 116) : (if c = nI 115 then 0 else (if c = nI 99 then 1 else 2)) = kdc c := by
  rcases h with h | h | h <;> rw [h] <;> decide
theorem dg_in {x : Int32} {v m : Nat} (h : x - nI 48 = nI v) (hv : v ≤ m) (hm : m ≤ 9) : inR (x - nI 48) (m + 1) := by
  rw [h]
  exact (inR_nI (by omega)).mpr (by omega)
/-- what the text's places say, from the model's side -/
theorem tx_59 {f : Nat → Int32} {fr q : Nat} (h : goB (4 * q + 1) (f (fr + (4 * q + 1))) = true) : f (fr + (4 * q + 1)) = nI 59 ∧ q < 7 := by
  have := (go_1 (pl := 4 * q + 1) (by omega) (by omega)).mpr h
  exact ⟨this.1, by omega⟩
theorem tx_kd {f : Nat → Int32} {fr q : Nat} (h : goB (4 * q + 1 + 1) (f (fr + (4 * q + 1 + 1))) = true) : f (fr + (4 * q + 1 + 1)) = nI 115 ∨ f (fr + (4 * q + 1 + 1)) = nI 99 ∨ f (fr + (4 * q + 1 + 1)) = nI 116 := (go_2 (pl := 4 * q + 1 + 1) (by omega) (by omega)).mpr h
theorem tx_lo {f : Nat → Int32} {fr q : Nat} (h : goB (4 * q + 1 + 1 + 1) (f (fr + (4 * q + 1 + 1 + 1))) = true) : f (fr + (4 * q + 1 + 1 + 1)) - nI 48 = nI (tlo f fr q) ∧ tlo f fr q ≤ 5 := by
  have := dg_ok (m := 5) (by decide) ((go_3 (pl := 4 * q + 1 + 1 + 1) (by omega) (by omega)).mpr h)
  unfold tlo
  rw [show fr + 2 + q * 4 + 1 = fr + (4 * q + 1 + 1 + 1) by omega]
  exact this
theorem tx_er {f : Nat → Int32} {fr q : Nat} (h : goB (4 * q + 1 + 1 + 1 + 1) (f (fr + (4 * q + 1 + 1 + 1 + 1))) = true) : f (fr + (4 * q + 1 + 1 + 1 + 1)) - nI 48 = nI (ter f fr q) ∧ ter f fr q ≤ 6 := by
  have := dg_ok (m := 6) (by decide) ((go_4 (pl := 4 * q + 1 + 1 + 1 + 1) (by omega) (by omega)).mpr h)
  unfold ter
  rw [show fr + 2 + q * 4 + 2 = fr + (4 * q + 1 + 1 + 1 + 1) by omega]
  exact this
theorem dg_no {x : Int32} {m : Nat} (hm : m ≤ 9) (h : ¬ ((¬ (x < nI 48)) ∧ (¬ (nI (48 + m) < x)))) : ¬ inR (x - nI 48) (m + 1) := by
  intro z
  apply h
  obtain ⟨j, hj, e⟩ := inR_nat z
  have ex : x = nI (j + 48) := by
    rw [← nI_add, ← e]
    exact (Int32.sub_add_cancel x (nI 48)).symm
  rw [ex]
  exact ⟨nI_nlt (by omega) (by omega), nI_nlt (by omega) (by omega)⟩
theorem fs_all {P : Nat → Bool} : ∀ {k : Nat}, fs P k = none → ∀ z, z < k → ¬ P z = true
  | 0, _, z, h => by omega
  | k + 1, e, z, h => by
    cases e3 : fs P k with
    | some j => simp [fs, e3] at e
    | none =>
      by_cases c : z = k
      · subst c
        intro hp
        simp [fs, e3, hp] at e
      · exact fs_all e3 z (by omega)
theorem fs_some {P : Nat → Bool} : ∀ {k j : Nat}, fs P k = some j → j < k ∧ P j = true ∧ fs P j = none
  | 0, j, h => by simp [fs] at h
  | k + 1, j, h => by
    cases e3 : fs P k with
    | some i =>
      simp [fs, e3] at h
      subst h
      have := fs_some e3
      exact ⟨by omega, this.2⟩
    | none =>
      by_cases c : P k = true
      · simp [fs, e3, c] at h
        subst h
        exact ⟨by omega, c, e3⟩
      · simp [fs, e3, c] at h
/-- where a text goes wrong -/
theorem fwr_some {f : Nat → Int32} {fr n j : Nat} (h : fwr f fr n = some j) : (∀ z, z < j → goB z (f (fr + z)) = true) ∧ j ≤ n ∧ (j = n ∧ ¬ (8 < n ∧ n % 4 = 1) ∨ j < n ∧ ¬ goB j (f (fr + j)) = true) := by
  unfold fwr at h
  cases e : fs (fwP f fr) n with
  | some i =>
    rw [e] at h
    simp only [Option.some.injEq] at h
    subst h
    obtain ⟨h1, h2, h3⟩ := fs_some e
    refine ⟨fun z hz => ?_, by omega, Or.inr ⟨h1, ?_⟩⟩
    · have := fs_all h3 z hz
      simpa [fwP] using this
    · simpa [fwP] using h2
  | none =>
    rw [e] at h
    simp only at h
    by_cases c : 8 < n ∧ n % 4 = 1
    · rw [if_pos c] at h; cases h
    · rw [if_neg c] at h
      simp only [Option.some.injEq] at h
      subst h
      refine ⟨fun z hz => ?_, Nat.le_refl _, Or.inl ⟨rfl, c⟩⟩
      have := fs_all e z hz
      simpa [fwP] using this
theorem fwr_none {f : Nat → Int32} {fr n : Nat} (h : fwr f fr n = none) : (∀ z, z < n → goB z (f (fr + z)) = true) ∧ 8 < n ∧ n % 4 = 1 ∧ n ≤ 29 := by
  unfold fwr at h
  cases e : fs (fwP f fr) n with
  | some i => rw [e] at h; cases h
  | none =>
    rw [e] at h
    simp only at h
    have hall : ∀ z, z < n → goB z (f (fr + z)) = true := by
      intro z hz
      have := fs_all e z hz
      simpa [fwP] using this
    by_cases c : 8 < n ∧ n % 4 = 1
    · refine ⟨hall, c.1, c.2, ?_⟩
      by_cases c2 : n ≤ 29
      · exact c2
      · have h29 := (go_1 (pl := 29) (by decide) (by decide)).mpr (hall 29 (by omega))
        omega
    · rw [if_neg c] at h; cases h
theorem cpN_s2 {f g : Nat → Nat} {k x : Nat} (h : x = f k) : va_up (cpN f g k) k x = cpN f g (k + 1) := by
  rw [h]; exact cpN_s f g k
theorem cpN_ltm {f g : Nat → Nat} {B k : Nat} (hf : ∀ i, i < k → f i < B) (hg : ∀ i, g i < B) : ∀ i, cpN f g k i < B := by
  intro i; unfold cpN; split
  · next h => exact hf i h
  · exact hg i
theorem kdc_lt (c : Int32) : kdc c < 3 := by unfold kdc; (repeat' split) <;> decide
