/-! sheets of class and model -/
theorem up_le {g : Nat → Nat} {B k x : Nat} (h : ∀ i, g i ≤ B) (hx : x ≤ B) : ∀ i, va_up g k x i ≤ B := by
  intro i
  unfold va_up
  split
  · exact hx
  · exact h i
theorem vup_at {α : Type} (g : Nat → α) (k : Nat) (x : α) : va_up g k x k = x := by simp [va_up]
theorem vup_ne {α : Type} (g : Nat → α) {k q : Nat} (x : α) (h : q ≠ k) : va_up g k x q = g q := by simp [va_up, h]
theorem upd_at (g : Nat → Int32) (k : Nat) (x : Int32) : upd g k x k = x := by simp [upd]
theorem upd_ne (g : Nat → Int32) {k q : Nat} (x : Int32) (h : q ≠ k) : upd g k x q = g q := by simp [upd, h]
section RS
variable {fl ln sz : Nat → Nat} {sf : Nat → Nat → Int32} {ss : Nat → Int32} {sl : Nat → Nat} {sc : Nat → Int32} {k : Nat}
theorem rs_sheet {y z : Nat} (h : relS fl ln sz sf ss sl sc) (hs : ∀ i, sz i ≤ 60) (hz : z ≤ 60) : relS (va_up fl k 1) (va_up ln k y) (va_up sz k z) (va_up sf k (zf (sf k) 60)) (upd ss k (nI z)) (va_up sl k y) (zr sc (60 * k) z) := by
  intro q hq
  by_cases e : q = k
  · subst e
    rw [vup_at, vup_at, vup_at, vup_at, vup_at, upd_at]
    refine ⟨(ssv_y (by decide)).symm, rfl, fun i hi => ?_⟩
    unfold zr zf
    rw [if_pos (by omega), if_pos (by omega)]
  · rw [vup_ne _ _ e, vup_ne _ _ e, vup_ne _ _ e, vup_ne _ _ e, vup_ne _ _ e, upd_ne _ _ e]
    obtain ⟨h1, h2, h3⟩ := h q hq
    refine ⟨h1, h2, fun i hi => ?_⟩
    have := hs q
    unfold zr
    rw [if_neg (by omega)]
    exact h3 i hi
theorem rs_lose (h : relS fl ln sz sf ss sl sc) : relS (va_up fl k 0) (va_up ln k (ln k)) (va_up sz k 0) sf (upd ss k (-1)) sl sc := by
  intro q hq
  by_cases e : q = k
  · subst e
    rw [vup_at, vup_at, vup_at, upd_at]
    exact ⟨(ssv_n rfl).symm, (h q hq).2.1, fun i hi => absurd hi (Nat.not_lt_zero i)⟩
  · rw [vup_ne _ _ e, vup_ne _ _ e, vup_ne _ _ e, upd_ne _ _ e]
    exact h q hq
theorem rs_lose0 (h : relS fl ln sz sf ss sl sc) (h0 : fl k = 0) : relS fl ln sz sf (upd ss k (-1)) sl sc := by
  intro q hq
  by_cases e : q = k
  · subst e
    rw [upd_at]
    exact ⟨(ssv_n h0).symm, (h q hq).2⟩
  · rw [upd_ne _ _ e]
    exact h q hq
theorem rs_put {y : Nat} {v : Int32} (h : relS fl ln sz sf ss sl sc) (hs : ∀ i, sz i ≤ 60) (hk : k < 4) (hy : y < sz k) : relS fl ln sz (va_up sf k (upd (sf k) y (cutv (ln k) v))) ss sl (upd sc (60 * k + y) (cutv (sl k) v)) := by
  intro q hq
  obtain ⟨h1, h2, h3⟩ := h q hq
  refine ⟨h1, h2, fun i hi => ?_⟩
  have a1 := hs q
  have a2 := hs k
  by_cases e : q = k
  · subst e
    rw [vup_at]
    by_cases c : i = y
    · subst c
      rw [upd_at, upd_at, h2]
    · rw [upd_ne _ _ (by omega), upd_ne _ _ c]
      exact h3 i hi
  · rw [vup_ne _ _ e, upd_ne _ _ (by omega)]
    exact h3 i hi
theorem rs_copy {o i j w : Nat} (h : relS fl ln sz sf ss sl sc) (hs : ∀ i, sz i ≤ 60) (hk : k < 4) (ho : o < 4) (hi : i + w ≤ sz k) (hj : j + w ≤ sz o) : relS fl ln sz (va_up sf o (va_cpy (sf k) (sf o) i j w)) ss sl (mcp sc (60 * k + i) (60 * o + j) w) := by
  intro q hq
  obtain ⟨h1, h2, h3⟩ := h q hq
  refine ⟨h1, h2, fun x hx => ?_⟩
  have a1 := hs q
  have a2 := hs k
  have a3 := hs o
  unfold mcp
  by_cases e : q = o
  · subst e
    rw [vup_at]
    unfold va_cpy
    by_cases c : j ≤ x ∧ x < j + w
    · rw [if_pos (by omega), if_pos c]
      rw [show 60 * k + i + (60 * q + x - (60 * q + j)) = 60 * k + (i + (x - j)) by omega]
      rw [(h k hk).2.2 (i + (x - j)) (by omega)]
    · rw [if_neg (by omega), if_neg c]
      exact h3 x hx
  · rw [vup_ne _ _ e, if_neg (by omega)]
    exact h3 x hx
end RS
theorem in61 {x : Int32} (h1 : 0 ≤ x) (h2 : x ≤ nI 60) : inR x 61 := by
  rw [Int32.le_iff_toInt_le] at h1 h2
  have e : (nI 60).toInt = 60 := by decide
  simp only [Int32.toInt_zero] at h1
  unfold inR
  omega
theorem hcs_of2 {x : Int32} {w sz : Nat} (h : hcs x (nI w) sz) (hs : sz ≤ 60) (hw : w ≤ 60) : ∃ j, j + w ≤ sz ∧ x = nI j := by
  unfold hcs at h
  rw [nI_toInt (show w < 2 ^ 31 by omega)] at h
  obtain ⟨j, hj, rfl⟩ := inR_nat (x := x) (n := 61) (by unfold inR; omega)
  rw [nI_toInt (by omega)] at h
  exact ⟨j, by omega, rfl⟩
theorem fl_1 {fl b ln : Nat} (h : fl = 0) : fLane fl b ln = 1 := by simp [fLane, h]
theorem fl_2 {fl b ln : Nat} (h : ¬ fl = 0) (h2 : ¬ ln = b) : fLane fl b ln = 2 := by
  unfold fLane
  rw [if_neg h, if_neg (fun e => h2 e.symm)]
theorem fl_0 {fl b ln : Nat} (h : ¬ fl = 0) (h2 : ln = b) : fLane fl b ln = 0 := by
  unfold fLane
  rw [if_neg h, if_pos h2.symm]
