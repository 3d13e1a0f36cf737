theorem first_bad {P : Nat → Prop} [∀ q, Decidable (P q)] : ∀ m : Nat, (∀ q, q < m → P q) ∨ ∃ j, j < m ∧ (∀ q, q < j → P q) ∧ ¬ P j
  | 0 => Or.inl (fun q h => absurd h (Nat.not_lt_zero q))
  | m + 1 => by
    rcases first_bad (P := P) m with h | ⟨j, h1, h2, h3⟩
    · by_cases c : P m
      · left
        intro q hq
        by_cases e : q = m
        · rw [e]; exact c
        · exact h q (by omega)
      · exact Or.inr ⟨m, by omega, h, c⟩
    · exact Or.inr ⟨j, by omega, h2, h3⟩
/-- the persons of a row of cells -/
def gof (f : Nat → Int32) (fr n : Nat) : Nat → Nat := fun q => if inR (f (fr + q)) n then (f (fr + q)).toNatClampNeg else 0
theorem gof_7 {f : Nat → Int32} {fr n : Nat} (hn : n ≤ 7) : ∀ q, gof f fr n q < 7 := by
  intro q
  unfold gof
  split
  · next h =>
    obtain ⟨j, hj, e⟩ := inR_nat h
    rw [e, nI_clamp (by omega)]
    omega
  · decide
theorem gof_in {f : Nat → Int32} {fr n q : Nat} (hn : n ≤ 7) (h : inR (f (fr + q)) n) : f (fr + q) = nI (gof f fr n q) ∧ gof f fr n q < n := by
  have e0 : gof f fr n q = (f (fr + q)).toNatClampNeg := if_pos h
  obtain ⟨j, hj, e⟩ := inR_nat h
  rw [e0, e, nI_clamp (by omega)]
  exact ⟨rfl, hj⟩
/-- whether the q-th asked is a person that was not met -/
def gdP (f : Nat → Int32) (fr n q : Nat) : Prop := inR (f (fr + q)) n ∧ ¬ (mtS (gof f fr n) q).testBit (gof f fr n q) = true
theorem gd_ok {f : Nat → Int32} {fr n m : Nat} (hn : n ≤ 7) (h : ∀ q, q < m → gdP f fr n q) : ∀ q, q < m → (f (fr + q) = nI (gof f fr n q) ∧ gof f fr n q < n ∧ ¬ (mtS (gof f fr n) q).testBit (gof f fr n q) = true) := by
  intro q hq
  obtain ⟨h1, h2⟩ := h q hq
  exact ⟨(gof_in hn h1).1, (gof_in hn h1).2, h2⟩
