theorem pcs_cg {a kd lo er kd' lo' er' : Nat → Nat} {m : Nat} (h : ∀ p, p < m → kd p = kd' p ∧ lo p = lo' p ∧ er p = er' p) : pcs a kd lo er m = pcs a kd' lo' er' m := by
  unfold pcs
  apply List.map_congr_left
  intro j hj
  obtain ⟨h1, h2, h3⟩ := h j (List.mem_range.mp hj)
  rw [h1, h2, h3]
theorem dar_lt {kd lo : Nat} (h : lo < 6) : dar kd lo < 14 := by
  unfold dar
  (repeat' split) <;> omega
theorem cpp {f g h : Nat → Nat} {m p : Nat} (hp : p < m) : cpN (cpN f g m) h m p = f p := by rw [cpN_at hp, cpN_at hp]
section TX
variable {f sc : Nat → Int32} {fr i nn m : Nat}
/-- the text on both sides -/
theorem tx_same (hs : ∀ q, q < nn → sc (fr + q) = f (i + q)) (hn : nn = 4 * m + 1) {p : Nat} (hp : p < m) : tkd f i p = tkd sc fr p ∧ tlo f i p = tlo sc fr p ∧ ter f i p = ter sc fr p := by
  unfold tkd tlo ter
  rw [show i + 2 + p * 4 = i + (2 + p * 4) by omega, show fr + 2 + p * 4 = fr + (2 + p * 4) by omega, hs (2 + p * 4) (by omega)]
  rw [show i + (2 + p * 4) + 1 = i + (2 + p * 4 + 1) by omega, show fr + (2 + p * 4) + 1 = fr + (2 + p * 4 + 1) by omega, hs (2 + p * 4 + 1) (by omega)]
  rw [show i + (2 + p * 4) + 2 = i + (2 + p * 4 + 2) by omega, show fr + (2 + p * 4) + 2 = fr + (2 + p * 4 + 2) by omega, hs (2 + p * 4 + 2) (by omega)]
  exact ⟨rfl, rfl, rfl⟩
variable {em dr kd lo er qk ql qe : Nat → Nat}
theorem st_P (hs : ∀ q, q < nn → sc (fr + q) = f (i + q)) (hn : nn = 4 * m + 1) : relP m (cpN (emf m (ter f i)) em m) (cpN (fun zz => dar (tkd f i zz) (tlo f i zz)) dr m) (cpN (cpN (tkd sc fr) qk m) kd m) (cpN (cpN (tlo sc fr) ql m) lo m) (cpN (cpN (ter sc fr) qe m) er m) := by
  intro p hp
  obtain ⟨h1, h2, h3⟩ := tx_same hs hn hp
  rw [cpN_at hp, cpN_at hp, cpp hp, cpp hp]
  constructor
  · unfold emf
    rw [cpp hp, h3]
  · show dar (tkd f i p) (tlo f i p) = _
    rw [h1, h2]
theorem st_T {a : Nat → Nat} (hs : ∀ q, q < nn → sc (fr + q) = f (i + q)) (hn : nn = 4 * m + 1) : pcs a (tkd f i) (tlo f i) (ter f i) m = pcs a (cpN (cpN (tkd sc fr) qk m) kd m) (cpN (cpN (tlo sc fr) ql m) lo m) (cpN (cpN (ter sc fr) qe m) er m) m := by
  apply pcs_cg
  intro p hp
  obtain ⟨h1, h2, h3⟩ := tx_same hs hn hp
  rw [cpp hp, cpp hp, cpp hp]
  exact ⟨h1, h2, h3⟩
end TX
