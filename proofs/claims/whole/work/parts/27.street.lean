/-- whether a text goes on with a code at a place -/
def goB (pl : Nat) (cd : Int32) : Bool :=
  if pl = 0 then decide (cd = nI 110) else if pl % 4 = 1 then decide (cd = nI 59 ∧ pl < 28) else if pl % 4 = 2 then decide (cd = nI 115 ∨ cd = nI 99 ∨ cd = nI 116) else if pl % 4 = 3 then decide (¬ cd < nI 48 ∧ ¬ nI 53 < cd) else decide (¬ cd < nI 48 ∧ ¬ nI 54 < cd)
theorem go_0 {pl : Nat} {cd : Int32} (h : pl = 0) : cd = nI 110 ↔ goB pl cd = true := by simp [goB, h]
theorem go_1 {pl : Nat} {cd : Int32} (h : pl ≠ 0) (h1 : pl % 4 = 1) : ((cd = nI 59) ∧ (pl < 28)) ↔ goB pl cd = true := by simp [goB, h, h1]
theorem go_2 {pl : Nat} {cd : Int32} (h : pl ≠ 0) (h1 : pl % 4 = 2) : ((cd = nI 115) ∨ ((cd = nI 99) ∨ (cd = nI 116))) ↔ goB pl cd = true := by simp [goB, h, h1]
theorem go_3 {pl : Nat} {cd : Int32} (h : pl ≠ 0) (h1 : pl % 4 = 3) : ((¬ (cd < nI 48)) ∧ (¬ (nI 53 < cd))) ↔ goB pl cd = true := by simp [goB, h, h1]
theorem go_4 {pl : Nat} {cd : Int32} (h : pl ≠ 0) (h1 : pl % 4 < 1 ∨ 3 < pl % 4) : ((¬ (cd < nI 48)) ∧ (¬ (nI 54 < cd))) ↔ goB pl cd = true := by
  have h2 : pl % 4 = 0 := by omega
  simp [goB, h, h2]
def fwP (f : Nat → Int32) (fr : Nat) : Nat → Bool := fun zz => !goB zz (f (fr + zz))
/-- a text's first fault; none: it has none -/
def fwr (f : Nat → Int32) (fr n : Nat) : Option Nat := match fs (fwP f fr) n with
  | some j => some j
  | none => if 8 < n ∧ n % 4 = 1 then none else some n
theorem fwr_hit {f : Nat → Int32} {fr n k : Nat} (h : fs (fwP f fr) k = none) (hk : k < n) (c : ¬ goB k (f (fr + k)) = true) : nI k = oD (fwr f fr n) := by
  unfold fwr
  rw [fs_hit h (by simp [fwP, c]) hk]; rfl
theorem fwr_ok {f : Nat → Int32} {fr n : Nat} (h : fs (fwP f fr) n = none) (c : (¬ (n ≤ 8)) ∧ (n % 4 = 1)) : (-9) = oD (fwr f fr n) := by
  unfold fwr
  rw [h]
  simp only
  rw [if_pos ⟨by omega, c.2⟩]; rfl
theorem fwr_no {f : Nat → Int32} {fr n : Nat} (h : fs (fwP f fr) n = none) (c : ¬ ((¬ (n ≤ 8)) ∧ (n % 4 = 1))) : nI n = oD (fwr f fr n) := by
  unfold fwr
  rw [h]
  simp only
  rw [if_neg (by omega)]; rfl
def absD (a b : Nat) : Nat := if a < b then b - a else a - b
theorem abs_ok0 : ∀ a, a < 8 → ∀ b, b < 8 → (if 0 ≤ ((nI a) - (nI b)) then ((nI a) - (nI b)) else 0 - ((nI a) - (nI b))) = nI (absD a b) := by decide +kernel
theorem abs_ok {a b : Nat} (ha : a < 8) (hb : b < 8) : (if 0 ≤ ((nI a) - (nI b)) then ((nI a) - (nI b)) else 0 - ((nI a) - (nI b))) = nI (absD a b) := abs_ok0 a ha b hb
theorem absD_lt {a b : Nat} (ha : a < 8) (hb : b < 8) : absD a b < 8 := by unfold absD; split <;> omega
def dg (x : Int32) : Nat := (x - nI 48).toNatClampNeg
theorem dg_ok {x : Int32} {m : Nat} (hm : m ≤ 9) (h : (¬ (x < nI 48)) ∧ (¬ (nI (48 + m) < x))) : x - nI 48 = nI (dg x) ∧ dg x ≤ m := by
  have e1 : (nI 48).toInt = 48 := by decide
  have e2 : (nI (48 + m)).toInt = ((48 + m : Nat) : Int) := nI_toInt (by omega)
  simp only [Int32.lt_iff_toInt_lt, e1, e2] at h
  have h3 : inR x (49 + m) := by unfold inR; omega
  obtain ⟨j, hj, rfl⟩ := inR_nat h3
  rw [nI_toInt (by omega)] at h
  unfold dg
  rw [pk_sub (show 48 ≤ j by omega), nI_clamp (by omega)]
  exact ⟨rfl, by omega⟩
def kdc (c : Int32) : Nat := if c = nI 116 then 2 else if c = nI 99 then 1 else 0
/-- the person k of a text -/
def tkd (f : Nat → Int32) (fr k : Nat) : Nat := kdc (f (fr + 2 + k * 4))
def tlo (f : Nat → Int32) (fr k : Nat) : Nat := dg (f (fr + 2 + k * 4 + 1))
def ter (f : Nat → Int32) (fr k : Nat) : Nat := dg (f (fr + 2 + k * 4 + 2))
def dar (kd lo : Nat) : Nat := if kd = 0 then lo else if kd = 1 then lo + 1 else 2 * (lo + 1)
def emf (n : Nat) (er : Nat → Nat) (p : Nat) : Nat := mk (fun q => decide (absD q p ≤ er p)) n
def kcl (kd : Nat) : Nat := if kd = 0 then 5 else if kd = 1 then 0 else 6
/-- the cells of the first k persons -/
def pcs (ad kd lo er : Nat → Nat) (k : Nat) : va_W := (List.range k).map (fun j => (ad j, .inr (kcl (kd j), [.int (nI j), .int (nI (lo j)), .int (nI (er j))])))
theorem pcs_s {ad kd lo er : Nat → Nat} {k r c a b : Nat} (h1 : kcl (kd k) = c) (h2 : lo k = a) (h3 : er k = b) : pcs ad kd lo er k ++ [(r, .inr (c, [.int (nI k), .int (nI a), .int (nI b)]))] = pcs (va_up ad k r) kd lo er (k + 1) := by
  unfold pcs
  rw [List.range_succ, List.map_append]
  congr 1
  · apply List.map_congr_left
    intro j hj
    have : j ≠ k := by have := List.mem_range.mp hj; omega
    simp [va_up, this]
  · simp [va_up, h1, h2, h3]
def cpO (f g : Nat → Option Nat) (k : Nat) : Nat → Option Nat := fun i => if i < k then f i else g i
def pgo (ad : Nat → Nat) : Nat → Option Nat := fun i => some (ad i)
theorem cpO_0 (f g : Nat → Option Nat) : cpO f g 0 = g := by funext i; simp [cpO]
theorem cpO_s (ad : Nat → Nat) (g : Nat → Option Nat) (k r : Nat) : va_up (cpO (pgo ad) g k) k (some r) = cpO (pgo (va_up ad k r)) g (k + 1) := by
  funext i
  by_cases h : i = k
  · subst h; simp [va_up, cpO, pgo]
  · have : i < k + 1 ↔ i < k := by omega
    simp [va_up, cpO, pgo, h, this]
/-- what a good text gives -/
theorem txt_ok {f : Nat → Int32} {fr n : Nat} (h : fwr f fr n = none) : ∃ m, n = 4 * m + 1 ∧ 2 ≤ m ∧ m ≤ 7 ∧ (∀ k, k < m → (f (fr + 2 + k * 4) = nI 115 ∨ f (fr + 2 + k * 4) = nI 99 ∨ f (fr + 2 + k * 4) = nI 116)) ∧ (∀ k, k < m → (f (fr + 2 + k * 4 + 1) - nI 48 = nI (tlo f fr k) ∧ tlo f fr k < 6)) ∧ (∀ k, k < m → (f (fr + 2 + k * 4 + 2) - nI 48 = nI (ter f fr k) ∧ ter f fr k < 7)) := by
  unfold fwr at h
  have hz : fs (fwP f fr) n = none := by
    cases e : fs (fwP f fr) n with
    | none => rfl
    | some j => rw [e] at h; cases h
  rw [hz] at h
  simp only at h
  have hn : 8 < n ∧ n % 4 = 1 := by
    by_cases c : 8 < n ∧ n % 4 = 1
    · exact c
    · rw [if_neg c] at h; cases h
  have all : ∀ z, z < n → goB z (f (fr + z)) = true := by
    intro z hz'
    by_cases c : goB z (f (fr + z)) = true
    · exact c
    · exfalso
      have key : ∀ k, k ≤ n → z < k → fs (fwP f fr) k ≠ none := by
        intro k
        induction k with
        | zero => intro _ h; omega
        | succ k ih =>
          intro hk hzk e
          by_cases e2 : z = k
          · subst e2
            cases e3 : fs (fwP f fr) z with
            | none => simp [fs, e3, fwP, c] at e
            | some j => simp [fs, e3] at e
          · cases e3 : fs (fwP f fr) k with
            | none => exact ih (by omega) (by omega) e3
            | some j => simp [fs, e3] at e
      exact key n (Nat.le_refl n) hz' hz
  refine ⟨n / 4, by omega, by omega, ?_, ?_, ?_, ?_⟩
  · by_cases c : n / 4 ≤ 7
    · exact c
    · have h29 := (go_1 (pl := 29) (by decide) (by decide)).mpr (all 29 (by omega))
      omega
  · intro k hk
    have h1 := (go_2 (pl := 2 + k * 4) (by omega) (by omega)).mpr (all (2 + k * 4) (by omega))
    rw [← Nat.add_assoc] at h1
    exact h1
  · intro k hk
    have h1 := (go_3 (pl := 3 + k * 4) (by omega) (by omega)).mpr (all (3 + k * 4) (by omega))
    rw [show fr + (3 + k * 4) = fr + 2 + k * 4 + 1 by omega] at h1
    have := dg_ok (m := 5) (by decide) h1
    unfold tlo
    exact ⟨this.1, by omega⟩
  · intro k hk
    have h1 := (go_4 (pl := 4 + k * 4) (by omega) (by omega)).mpr (all (4 + k * 4) (by omega))
    rw [show fr + (4 + k * 4) = fr + 2 + k * 4 + 2 by omega] at h1
    have := dg_ok (m := 6) (by decide) h1
    unfold ter
    exact ⟨this.1, by omega⟩
theorem pw_s {k a b X : Nat} {P : Nat → Bool} (hX : X = mk P k := by rfl) (hP : P = (fun zz => decide (absD zz a ≤ b)) := by rfl) : (if absD k a ≤ b then X ||| 2 ^ k else X) = mk P (k + 1) := by
  subst hX
  subst hP
  simp only [mk, decide_eq_true_eq]
theorem min7 {n m : Nat} (h : n = 4 * m + 1) (hm : m ≤ 7) : (if (nI 7) < (nI (n / 4)) then (nI 7) else (nI (n / 4))) = nI m := by
  have : n / 4 = m := by omega
  rw [this]
  exact min_ok hm
theorem dar_s {kd lo : Nat → Nat} {dr : Nat → Nat} {k c x : Nat} (h : kd k = c) (hx : x = dar c (lo k) := by rfl) : va_up (cpN (fun zz => dar (kd zz) (lo zz)) dr k) k x = cpN (fun zz => dar (kd zz) (lo zz)) dr (k + 1) := by
  subst hx
  subst h
  exact cpN_s (fun zz => dar (kd zz) (lo zz)) dr k
def rm_X4_goesOn : Room := { frames := 0, cells := 0, slots := 0, locals := 0 }
set_option maxHeartbeats 4000000 in
set_option maxRecDepth 100000 in
theorem c_X4_goesOn (l : Launch) (D : va_G) (cI cZ cS cP : ClassId) (pl : Nat) (cd : Int32) (hpl : pl < 100) : kMi (S := Unit) l yX4_goesOn wsX4_goesOn rm_X4_goesOn D (kT cI cZ cS cP) [.int (nI pl), .int cd] [] (fun r _ => r = (nI (if goB pl cd = true then 1 else 0))) (fun _ => []) := by
  refine kMet_i (cc := cX4_goesOn) (maxL := 2) (ty := .boolean) (by decide) rfl (Nat.le_of_ble_eq_true rfl) (fun _ _ q => by (first | subst q | (obtain ⟨q, -⟩ := q; subst q)); (first | exact kz_nr | decide)) ?_
  intro p e s m args below meth c A Q ls C hlocks hin hN hK hP hD hS hA hl ret
  obtain ⟨hx, hb, hml, hown, hts⟩ := C
  have hl : lv_has ls 2 [(0, .int (nI pl)), (1, .int cd)] := hl
  refine lv_iload_n hx hb dX4_goesOn_0 rfl (lv_at hl 0 rfl) ?_
  refine k_if_ne (tgt := 16) hx hb dX4_goesOn_1 (by decide) (show pl < 2 ^ 31 by first | omega | (split <;> omega)) (fun c_1 => ?_) (fun c_1 => ?_)
  · skip
    refine lv_iload_n hx hb dX4_goesOn_16 rfl (lv_at hl 0 rfl) ?_
    refine lv_iconst (v := (nI 4)) hx hb dX4_goesOn_17 (by decide) ?_
    refine lv_irem hx hb dX4_goesOn_18 (by decide) ?_
    refine k_eqi (show ((nI pl) - (nI pl) / (nI 4) * (nI 4)) = (nI (pl % 4)) from pk_rem (show pl < 2 ^ 31 by omega) (show 0 < 4 by decide) (show 4 < 2 ^ 31 by decide)) ?_
    rcases (show (pl % 4) = 1 ∨ (pl % 4) = 2 ∨ (pl % 4) = 3 ∨ ((pl % 4) < 1 ∨ 3 < (pl % 4)) by omega) with c_2 | c_2 | c_2 | c_2
    · skip
      refine lv_tableIn (off := 25) (tgt := 44) hx hb dX4_goesOn_19 (by rw [c_2]; decide) (by rw [c_2]; decide) (by rw [c_2]; decide) (by decide) ?_
      refine lv_iload_n hx hb dX4_goesOn_44 rfl (lv_at hl 1 rfl) ?_
      refine lv_bipush (v := (nI 59)) hx hb dX4_goesOn_45 (by decide) ?_
      have j_3 : ∀ (H : Heap) (locs : List Loc) (ls : Array Slot), va_P D vwCl [] H → va_D A [] → va_S A s.heap H locs → lv_has ls 2 [(0, .int (nI pl)), (1, .int cd)] → W p l e rm_X4_goesOn s m args below meth c H locs 0 0 Q (F0 m 61 ls [.int (nI (if (cd = (nI 59)) ∧ (pl < 28) then 1 else 0))]) := by
        clear hP hD hS hl
        intro H locs ls hP hD hS hl
        exact ret _ () _ _ _ _ dX4_goesOn_61 (congrArg nI (show (if (cd = (nI 59)) ∧ (pl < 28) then 1 else 0) = (if goB pl cd = true then 1 else 0) by first | exact k_ifc (go_0 (by assumption)) | exact k_ifc (go_1 (by assumption) (by assumption)) | exact k_ifc (go_2 (by assumption) (by assumption)) | exact k_ifc (go_3 (by assumption) (by assumption)) | exact k_ifc (go_4 (by assumption) (by assumption)))) hP hD hS
      refine lv_icmp_ne (tgt := 60) hx hb dX4_goesOn_47 (by decide) (fun c_4 => ?_) (fun c_4 => ?_)
      · skip
        refine lv_iconst (v := (nI 0)) hx hb dX4_goesOn_60 (by decide) ?_
        have e_5 := (show (nI 0) = (nI (if (cd = (nI 59)) ∧ (pl < 28) then 1 else 0)) from congrArg nI (if_neg (fun z => c_4 z.1)).symm)
        refine k_eqi (show (nI 0) = (nI (if (cd = (nI 59)) ∧ (pl < 28) then 1 else 0)) from congrArg nI (if_neg (fun z => c_4 z.1)).symm) ?_
        exact j_3 _ _ _ hP hD hS (lv_sub hl [0, 1] rfl)
      · skip
        refine lv_iload_n hx hb dX4_goesOn_50 rfl (lv_at hl 0 rfl) ?_
        refine lv_bipush (v := (nI 28)) hx hb dX4_goesOn_51 (by decide) ?_
        refine k_icmp_ge (tgt := 60) hx hb dX4_goesOn_53 (by decide) (show pl < 2 ^ 31 by first | omega | (split <;> omega)) (show 28 < 2 ^ 31 by first | omega | (split <;> omega)) (fun c_6 => ?_) (fun c_6 => ?_)
        · skip
          refine lv_iconst (v := (nI 0)) hx hb dX4_goesOn_60 (by decide) ?_
          have e_7 := (show (nI 0) = (nI (if (cd = (nI 59)) ∧ (pl < 28) then 1 else 0)) from congrArg nI (if_neg (fun z => (Nat.not_lt.mpr c_6) z.2)).symm)
          refine k_eqi (show (nI 0) = (nI (if (cd = (nI 59)) ∧ (pl < 28) then 1 else 0)) from congrArg nI (if_neg (fun z => (Nat.not_lt.mpr c_6) z.2)).symm) ?_
          exact j_3 _ _ _ hP hD hS (lv_sub hl [0, 1] rfl)
        · skip
          refine lv_iconst (v := (nI 1)) hx hb dX4_goesOn_56 (by decide) ?_
          refine lv_goto (tgt := 61) hx hb dX4_goesOn_57 (by decide) ?_
          have e_8 := (show (nI 1) = (nI (if (cd = (nI 59)) ∧ (pl < 28) then 1 else 0)) from congrArg nI (if_pos (⟨c_4, c_6⟩)).symm)
          refine k_eqi (show (nI 1) = (nI (if (cd = (nI 59)) ∧ (pl < 28) then 1 else 0)) from congrArg nI (if_pos (⟨c_4, c_6⟩)).symm) ?_
          exact j_3 _ _ _ hP hD hS (lv_sub hl [0, 1] rfl)
    · skip
      refine lv_tableIn (off := 43) (tgt := 62) hx hb dX4_goesOn_19 (by rw [c_2]; decide) (by rw [c_2]; decide) (by rw [c_2]; decide) (by decide) ?_
      refine lv_iload_n hx hb dX4_goesOn_62 rfl (lv_at hl 1 rfl) ?_
      refine lv_bipush (v := (nI 115)) hx hb dX4_goesOn_63 (by decide) ?_
      have j_9 : ∀ (H : Heap) (locs : List Loc) (ls : Array Slot), va_P D vwCl [] H → va_D A [] → va_S A s.heap H locs → lv_has ls 2 [(0, .int (nI pl)), (1, .int cd)] → W p l e rm_X4_goesOn s m args below meth c H locs 0 0 Q (F0 m 85 ls [.int (nI (if (cd = (nI 115)) ∨ ((cd = (nI 99)) ∨ (cd = (nI 116))) then 1 else 0))]) := by
        clear hP hD hS hl
        intro H locs ls hP hD hS hl
        exact ret _ () _ _ _ _ dX4_goesOn_85 (congrArg nI (show (if (cd = (nI 115)) ∨ ((cd = (nI 99)) ∨ (cd = (nI 116))) then 1 else 0) = (if goB pl cd = true then 1 else 0) by first | exact k_ifc (go_0 (by assumption)) | exact k_ifc (go_1 (by assumption) (by assumption)) | exact k_ifc (go_2 (by assumption) (by assumption)) | exact k_ifc (go_3 (by assumption) (by assumption)) | exact k_ifc (go_4 (by assumption) (by assumption)))) hP hD hS
      refine lv_icmp_eq (tgt := 80) hx hb dX4_goesOn_65 (by decide) (fun c_10 => ?_) (fun c_10 => ?_)
      · skip
        refine lv_iconst (v := (nI 1)) hx hb dX4_goesOn_80 (by decide) ?_
        refine lv_goto (tgt := 85) hx hb dX4_goesOn_81 (by decide) ?_
        have e_11 := (show (nI 1) = (nI (if (cd = (nI 115)) ∨ ((cd = (nI 99)) ∨ (cd = (nI 116))) then 1 else 0)) from congrArg nI (if_pos (Or.inl c_10)).symm)
        refine k_eqi (show (nI 1) = (nI (if (cd = (nI 115)) ∨ ((cd = (nI 99)) ∨ (cd = (nI 116))) then 1 else 0)) from congrArg nI (if_pos (Or.inl c_10)).symm) ?_
        exact j_9 _ _ _ hP hD hS (lv_sub hl [0, 1] rfl)
      · skip
        refine lv_iload_n hx hb dX4_goesOn_68 rfl (lv_at hl 1 rfl) ?_
        refine lv_bipush (v := (nI 99)) hx hb dX4_goesOn_69 (by decide) ?_
        refine lv_icmp_eq (tgt := 80) hx hb dX4_goesOn_71 (by decide) (fun c_12 => ?_) (fun c_12 => ?_)
        · skip
          refine lv_iconst (v := (nI 1)) hx hb dX4_goesOn_80 (by decide) ?_
          refine lv_goto (tgt := 85) hx hb dX4_goesOn_81 (by decide) ?_
          have e_13 := (show (nI 1) = (nI (if (cd = (nI 115)) ∨ ((cd = (nI 99)) ∨ (cd = (nI 116))) then 1 else 0)) from congrArg nI (if_pos (Or.inr (Or.inl c_12))).symm)
          refine k_eqi (show (nI 1) = (nI (if (cd = (nI 115)) ∨ ((cd = (nI 99)) ∨ (cd = (nI 116))) then 1 else 0)) from congrArg nI (if_pos (Or.inr (Or.inl c_12))).symm) ?_
          exact j_9 _ _ _ hP hD hS (lv_sub hl [0, 1] rfl)
        · skip
          refine lv_iload_n hx hb dX4_goesOn_74 rfl (lv_at hl 1 rfl) ?_
          refine lv_bipush (v := (nI 116)) hx hb dX4_goesOn_75 (by decide) ?_
          refine lv_icmp_ne (tgt := 84) hx hb dX4_goesOn_77 (by decide) (fun c_14 => ?_) (fun c_14 => ?_)
          · skip
            refine lv_iconst (v := (nI 0)) hx hb dX4_goesOn_84 (by decide) ?_
            have e_15 := (show (nI 0) = (nI (if (cd = (nI 115)) ∨ ((cd = (nI 99)) ∨ (cd = (nI 116))) then 1 else 0)) from congrArg nI (if_neg (fun z => z.elim c_10 (fun z => z.elim c_12 c_14))).symm)
            refine k_eqi (show (nI 0) = (nI (if (cd = (nI 115)) ∨ ((cd = (nI 99)) ∨ (cd = (nI 116))) then 1 else 0)) from congrArg nI (if_neg (fun z => z.elim c_10 (fun z => z.elim c_12 c_14))).symm) ?_
            exact j_9 _ _ _ hP hD hS (lv_sub hl [0, 1] rfl)
          · skip
            refine lv_iconst (v := (nI 1)) hx hb dX4_goesOn_80 (by decide) ?_
            refine lv_goto (tgt := 85) hx hb dX4_goesOn_81 (by decide) ?_
            have e_16 := (show (nI 1) = (nI (if (cd = (nI 115)) ∨ ((cd = (nI 99)) ∨ (cd = (nI 116))) then 1 else 0)) from congrArg nI (if_pos (Or.inr (Or.inr c_14))).symm)
            refine k_eqi (show (nI 1) = (nI (if (cd = (nI 115)) ∨ ((cd = (nI 99)) ∨ (cd = (nI 116))) then 1 else 0)) from congrArg nI (if_pos (Or.inr (Or.inr c_14))).symm) ?_
            exact j_9 _ _ _ hP hD hS (lv_sub hl [0, 1] rfl)
    · skip
      refine lv_tableIn (off := 67) (tgt := 86) hx hb dX4_goesOn_19 (by rw [c_2]; decide) (by rw [c_2]; decide) (by rw [c_2]; decide) (by decide) ?_
      refine lv_iload_n hx hb dX4_goesOn_86 rfl (lv_at hl 1 rfl) ?_
      refine lv_bipush (v := (nI 48)) hx hb dX4_goesOn_87 (by decide) ?_
      have j_17 : ∀ (H : Heap) (locs : List Loc) (ls : Array Slot), va_P D vwCl [] H → va_D A [] → va_S A s.heap H locs → lv_has ls 2 [(0, .int (nI pl)), (1, .int cd)] → W p l e rm_X4_goesOn s m args below meth c H locs 0 0 Q (F0 m 103 ls [.int (nI (if (¬ (cd < (nI 48))) ∧ (¬ ((nI 53) < cd)) then 1 else 0))]) := by
        clear hP hD hS hl
        intro H locs ls hP hD hS hl
        exact ret _ () _ _ _ _ dX4_goesOn_103 (congrArg nI (show (if (¬ (cd < (nI 48))) ∧ (¬ ((nI 53) < cd)) then 1 else 0) = (if goB pl cd = true then 1 else 0) by first | exact k_ifc (go_0 (by assumption)) | exact k_ifc (go_1 (by assumption) (by assumption)) | exact k_ifc (go_2 (by assumption) (by assumption)) | exact k_ifc (go_3 (by assumption) (by assumption)) | exact k_ifc (go_4 (by assumption) (by assumption)))) hP hD hS
      refine lv_icmp_lt (tgt := 102) hx hb dX4_goesOn_89 (by decide) (fun c_18 => ?_) (fun c_18 => ?_)
      · skip
        refine lv_iconst (v := (nI 0)) hx hb dX4_goesOn_102 (by decide) ?_
        have e_19 := (show (nI 0) = (nI (if (¬ (cd < (nI 48))) ∧ (¬ ((nI 53) < cd)) then 1 else 0)) from congrArg nI (if_neg (fun z => (fun z => z c_18) z.1)).symm)
        refine k_eqi (show (nI 0) = (nI (if (¬ (cd < (nI 48))) ∧ (¬ ((nI 53) < cd)) then 1 else 0)) from congrArg nI (if_neg (fun z => (fun z => z c_18) z.1)).symm) ?_
        exact j_17 _ _ _ hP hD hS (lv_sub hl [0, 1] rfl)
      · skip
        refine lv_iload_n hx hb dX4_goesOn_92 rfl (lv_at hl 1 rfl) ?_
        refine lv_bipush (v := (nI 53)) hx hb dX4_goesOn_93 (by decide) ?_
        refine lv_icmp_gt (tgt := 102) hx hb dX4_goesOn_95 (by decide) (fun c_20 => ?_) (fun c_20 => ?_)
        · skip
          refine lv_iconst (v := (nI 0)) hx hb dX4_goesOn_102 (by decide) ?_
          have e_21 := (show (nI 0) = (nI (if (¬ (cd < (nI 48))) ∧ (¬ ((nI 53) < cd)) then 1 else 0)) from congrArg nI (if_neg (fun z => (fun z => z c_20) z.2)).symm)
          refine k_eqi (show (nI 0) = (nI (if (¬ (cd < (nI 48))) ∧ (¬ ((nI 53) < cd)) then 1 else 0)) from congrArg nI (if_neg (fun z => (fun z => z c_20) z.2)).symm) ?_
          exact j_17 _ _ _ hP hD hS (lv_sub hl [0, 1] rfl)
        · skip
          refine lv_iconst (v := (nI 1)) hx hb dX4_goesOn_98 (by decide) ?_
          refine lv_goto (tgt := 103) hx hb dX4_goesOn_99 (by decide) ?_
          have e_22 := (show (nI 1) = (nI (if (¬ (cd < (nI 48))) ∧ (¬ ((nI 53) < cd)) then 1 else 0)) from congrArg nI (if_pos (⟨c_18, c_20⟩)).symm)
          refine k_eqi (show (nI 1) = (nI (if (¬ (cd < (nI 48))) ∧ (¬ ((nI 53) < cd)) then 1 else 0)) from congrArg nI (if_pos (⟨c_18, c_20⟩)).symm) ?_
          exact j_17 _ _ _ hP hD hS (lv_sub hl [0, 1] rfl)
    · skip
      refine lv_tableOut (tgt := 104) hx hb dX4_goesOn_19 (by rw [nI_toInt (by omega)]; omega) (by decide) ?_
      refine lv_iload_n hx hb dX4_goesOn_104 rfl (lv_at hl 1 rfl) ?_
      refine lv_bipush (v := (nI 48)) hx hb dX4_goesOn_105 (by decide) ?_
      have j_23 : ∀ (H : Heap) (locs : List Loc) (ls : Array Slot), va_P D vwCl [] H → va_D A [] → va_S A s.heap H locs → lv_has ls 2 [(0, .int (nI pl)), (1, .int cd)] → W p l e rm_X4_goesOn s m args below meth c H locs 0 0 Q (F0 m 121 ls [.int (nI (if (¬ (cd < (nI 48))) ∧ (¬ ((nI 54) < cd)) then 1 else 0))]) := by
        clear hP hD hS hl
        intro H locs ls hP hD hS hl
        exact ret _ () _ _ _ _ dX4_goesOn_121 (congrArg nI (show (if (¬ (cd < (nI 48))) ∧ (¬ ((nI 54) < cd)) then 1 else 0) = (if goB pl cd = true then 1 else 0) by first | exact k_ifc (go_0 (by assumption)) | exact k_ifc (go_1 (by assumption) (by assumption)) | exact k_ifc (go_2 (by assumption) (by assumption)) | exact k_ifc (go_3 (by assumption) (by assumption)) | exact k_ifc (go_4 (by assumption) (by assumption)))) hP hD hS
      refine lv_icmp_lt (tgt := 120) hx hb dX4_goesOn_107 (by decide) (fun c_24 => ?_) (fun c_24 => ?_)
      · skip
        refine lv_iconst (v := (nI 0)) hx hb dX4_goesOn_120 (by decide) ?_
        have e_25 := (show (nI 0) = (nI (if (¬ (cd < (nI 48))) ∧ (¬ ((nI 54) < cd)) then 1 else 0)) from congrArg nI (if_neg (fun z => (fun z => z c_24) z.1)).symm)
        refine k_eqi (show (nI 0) = (nI (if (¬ (cd < (nI 48))) ∧ (¬ ((nI 54) < cd)) then 1 else 0)) from congrArg nI (if_neg (fun z => (fun z => z c_24) z.1)).symm) ?_
        exact j_23 _ _ _ hP hD hS (lv_sub hl [0, 1] rfl)
      · skip
        refine lv_iload_n hx hb dX4_goesOn_110 rfl (lv_at hl 1 rfl) ?_
        refine lv_bipush (v := (nI 54)) hx hb dX4_goesOn_111 (by decide) ?_
        refine lv_icmp_gt (tgt := 120) hx hb dX4_goesOn_113 (by decide) (fun c_26 => ?_) (fun c_26 => ?_)
        · skip
          refine lv_iconst (v := (nI 0)) hx hb dX4_goesOn_120 (by decide) ?_
          have e_27 := (show (nI 0) = (nI (if (¬ (cd < (nI 48))) ∧ (¬ ((nI 54) < cd)) then 1 else 0)) from congrArg nI (if_neg (fun z => (fun z => z c_26) z.2)).symm)
          refine k_eqi (show (nI 0) = (nI (if (¬ (cd < (nI 48))) ∧ (¬ ((nI 54) < cd)) then 1 else 0)) from congrArg nI (if_neg (fun z => (fun z => z c_26) z.2)).symm) ?_
          exact j_23 _ _ _ hP hD hS (lv_sub hl [0, 1] rfl)
        · skip
          refine lv_iconst (v := (nI 1)) hx hb dX4_goesOn_116 (by decide) ?_
          refine lv_goto (tgt := 121) hx hb dX4_goesOn_117 (by decide) ?_
          have e_28 := (show (nI 1) = (nI (if (¬ (cd < (nI 48))) ∧ (¬ ((nI 54) < cd)) then 1 else 0)) from congrArg nI (if_pos (⟨c_24, c_26⟩)).symm)
          refine k_eqi (show (nI 1) = (nI (if (¬ (cd < (nI 48))) ∧ (¬ ((nI 54) < cd)) then 1 else 0)) from congrArg nI (if_pos (⟨c_24, c_26⟩)).symm) ?_
          exact j_23 _ _ _ hP hD hS (lv_sub hl [0, 1] rfl)
  · skip
    refine lv_iload_n hx hb dX4_goesOn_4 rfl (lv_at hl 1 rfl) ?_
    refine lv_bipush (v := (nI 110)) hx hb dX4_goesOn_5 (by decide) ?_
    have j_29 : ∀ (H : Heap) (locs : List Loc) (ls : Array Slot), va_P D vwCl [] H → va_D A [] → va_S A s.heap H locs → lv_has ls 2 [(0, .int (nI pl)), (1, .int cd)] → W p l e rm_X4_goesOn s m args below meth c H locs 0 0 Q (F0 m 15 ls [.int (nI (if cd = (nI 110) then 1 else 0))]) := by
      clear hP hD hS hl
      intro H locs ls hP hD hS hl
      exact ret _ () _ _ _ _ dX4_goesOn_15 (congrArg nI (show (if cd = (nI 110) then 1 else 0) = (if goB pl cd = true then 1 else 0) by first | exact k_ifc (go_0 (by assumption)) | exact k_ifc (go_1 (by assumption) (by assumption)) | exact k_ifc (go_2 (by assumption) (by assumption)) | exact k_ifc (go_3 (by assumption) (by assumption)) | exact k_ifc (go_4 (by assumption) (by assumption)))) hP hD hS
    refine lv_icmp_ne (tgt := 14) hx hb dX4_goesOn_7 (by decide) (fun c_30 => ?_) (fun c_30 => ?_)
    · skip
      refine lv_iconst (v := (nI 0)) hx hb dX4_goesOn_14 (by decide) ?_
      have e_31 := (show (nI 0) = (nI (if cd = (nI 110) then 1 else 0)) from congrArg nI (if_neg c_30).symm)
      refine k_eqi (show (nI 0) = (nI (if cd = (nI 110) then 1 else 0)) from congrArg nI (if_neg c_30).symm) ?_
      exact j_29 _ _ _ hP hD hS (lv_sub hl [0, 1] rfl)
    · skip
      refine lv_iconst (v := (nI 1)) hx hb dX4_goesOn_10 (by decide) ?_
      refine lv_goto (tgt := 15) hx hb dX4_goesOn_11 (by decide) ?_
      have e_32 := (show (nI 1) = (nI (if cd = (nI 110) then 1 else 0)) from congrArg nI (if_pos c_30).symm)
      refine k_eqi (show (nI 1) = (nI (if cd = (nI 110) then 1 else 0)) from congrArg nI (if_pos c_30).symm) ?_
      exact j_29 _ _ _ hP hD hS (lv_sub hl [0, 1] rfl)
def rm_X4_firstWrong : Room := { frames := 2, cells := 0, slots := 0, locals := 42 }
set_option maxHeartbeats 4000000 in
set_option maxRecDepth 100000 in
theorem c_X4_firstWrong (l : Launch) (D : va_G) (cI cZ cS cP : ClassId) (hH : Nat) (q1 : Nat) (f : Nat → Int32) (fl : Nat) (ln : Nat) (sz : Nat) (fr : Nat) (n : Nat) (hsz : sz ≤ 60) (hfn : fr + n ≤ sz) : kMi (S := Unit) l yX4_firstWrong wsX4_firstWrong rm_X4_firstWrong D (kT cI cZ cS cP) [.ref hH, .int (nI fr), .int (nI n)] [(hH, .inr (3, [.ref q1, .int (nI fl), .int (nI ln), .int (nI sz)])), (q1, .inl (cI, 60, .inl f))] (fun r _ => r = (oD (fwr f fr n))) (fun _ => [(hH, .inr (3, [.ref q1, .int (nI fl), .int (nI ln), .int (nI sz)])), (q1, .inl (cI, 60, .inl f))]) := by
  refine kMet_i (cc := cX4_firstWrong) (maxL := 4) (ty := .int) (by decide) rfl (Nat.le_of_ble_eq_true rfl) (fun _ _ _ => rfl) ?_
  intro p e s m args below meth c A Q ls C hlocks hin hN hK hP hD hS hA hl ret
  obtain ⟨hx, hb, hml, hown, hts⟩ := C
  have hl : lv_has ls 4 [(0, .ref hH), (1, .int (nI fr)), (2, .int (nI n))] := hl
  refine lv_iconst (v := (nI 0)) hx hb dX4_firstWrong_0 (by decide) ?_
  refine lv_istore_n (lv' := [(3, .int (nI 0)), (0, .ref hH), (1, .int (nI fr)), (2, .int (nI n))]) hx hb dX4_firstWrong_1 rfl hl (by decide) rfl (fun ls hl => ?_)
  refine k_loop (α := Nat) (nL := 4) (fun k => n - k) (fun k => [(hH, .inr (3, [.ref q1, .int (nI fl), .int (nI ln), .int (nI sz)])), (q1, .inl (cI, 60, .inl f))]) (fun k => [(3, .int (nI k)), (0, .ref hH), (1, .int (nI fr)), (2, .int (nI n))]) (fun k => (k ≤ n) ∧ (fs (fwP f fr) k = none)) ?_ 0 (show (0 ≤ n) ∧ (fs (fwP f fr) 0 = none) from ⟨by omega, rfl⟩) hP hD hS (lv_sub hl [0, 1, 2, 3] rfl)
  clear hP hD hS hl
  intro k H locs ls hI hP hD hS hl ih2
  obtain ⟨hk, hf⟩ : (k ≤ n) ∧ (fs (fwP f fr) k = none) := hI
  have hP : va_P D vwCl [(hH, .inr (3, [.ref q1, .int (nI fl), .int (nI ln), .int (nI sz)])), (q1, .inl (cI, 60, .inl f))] H := hP
  have hD : va_D A [(hH, .inr (3, [.ref q1, .int (nI fl), .int (nI ln), .int (nI sz)])), (q1, .inl (cI, 60, .inl f))] := hD
  have hl : lv_has ls 4 [(3, .int (nI k)), (0, .ref hH), (1, .int (nI fr)), (2, .int (nI n))] := hl
  refine lv_iload_n hx hb dX4_firstWrong_2 rfl (lv_at hl 0 rfl) ?_
  refine lv_iload_n hx hb dX4_firstWrong_3 rfl (lv_at hl 3 rfl) ?_
  refine k_icmp_ge (tgt := 29) hx hb dX4_firstWrong_4 (by decide) (show k < 2 ^ 31 by first | omega | (split <;> omega)) (show n < 2 ^ 31 by first | omega | (split <;> omega)) (fun c_1 => ?_) (fun c_1 => ?_)
  · skip
    refine lv_iload_n hx hb dX4_firstWrong_29 rfl (lv_at hl 3 rfl) ?_
    refine lv_bipush (v := (nI 8)) hx hb dX4_firstWrong_30 (by decide) ?_
    have j_2 : ∀ (H : Heap) (locs : List Loc) (ls : Array Slot), va_P D vwCl [(hH, .inr (3, [.ref q1, .int (nI fl), .int (nI ln), .int (nI sz)])), (q1, .inl (cI, 60, .inl f))] H → va_D A [(hH, .inr (3, [.ref q1, .int (nI fl), .int (nI ln), .int (nI sz)])), (q1, .inl (cI, 60, .inl f))] → va_S A s.heap H locs → lv_has ls 4 [(3, .int (nI k)), (0, .ref hH), (1, .int (nI fr)), (2, .int (nI n))] → W p l e rm_X4_firstWrong s m args below meth c H locs 0 0 Q (F0 m 47 ls [.int (nI (if (¬ (n ≤ 8)) ∧ ((n % 4) = 1) then 1 else 0))]) := by
      clear hP hD hS hl
      intro H locs ls hP hD hS hl
      refine lv_istore_n (lv' := [(3, .int (nI (if (¬ (n ≤ 8)) ∧ ((n % 4) = 1) then 1 else 0))), (0, .ref hH), (1, .int (nI fr)), (2, .int (nI n))]) hx hb dX4_firstWrong_47 rfl hl (by decide) rfl (fun ls hl => ?_)
      refine lv_iload_n hx hb dX4_firstWrong_48 rfl (lv_at hl 0 rfl) ?_
      refine k_ifc_eq (tgt := 57) hx hb dX4_firstWrong_49 (by decide) (fun c_4 => ?_) (fun c_4 => ?_)
      · skip
        refine lv_iload_n hx hb dX4_firstWrong_57 rfl (lv_at hl 3 rfl) ?_
        exact ret _ () _ _ _ _ dX4_firstWrong_58 (show ((nI n) : Int32) = (oD (fwr f fr n)) by first | ((have h9 : k = n := by omega); (rw [h9] at hf); first | ((have z9 : (¬ (n ≤ 8)) ∧ (n % 4 = 1) := by assumption); exact fwr_ok hf z9) | ((have z9 : ¬ ((¬ (n ≤ 8)) ∧ (n % 4 = 1)) := by assumption); exact fwr_no hf z9)) | exact fwr_hit hf (by omega) (by assumption)) hP hD hS
      · skip
        refine lv_bipush (v := (-9)) hx hb dX4_firstWrong_52 (by decide) ?_
        refine lv_goto (tgt := 58) hx hb dX4_firstWrong_54 (by decide) ?_
        exact ret _ () _ _ _ _ dX4_firstWrong_58 (show ((-9) : Int32) = (oD (fwr f fr n)) by first | ((have h9 : k = n := by omega); (rw [h9] at hf); first | ((have z9 : (¬ (n ≤ 8)) ∧ (n % 4 = 1) := by assumption); exact fwr_ok hf z9) | ((have z9 : ¬ ((¬ (n ≤ 8)) ∧ (n % 4 = 1)) := by assumption); exact fwr_no hf z9)) | exact fwr_hit hf (by omega) (by assumption)) hP hD hS
    refine k_icmp_le (tgt := 46) hx hb dX4_firstWrong_32 (by decide) (show n < 2 ^ 31 by first | omega | (split <;> omega)) (show 8 < 2 ^ 31 by first | omega | (split <;> omega)) (fun c_3 => ?_) (fun c_3 => ?_)
    · skip
      refine lv_iconst (v := (nI 0)) hx hb dX4_firstWrong_46 (by decide) ?_
      have e_4 := (show (nI 0) = (nI (if (¬ (n ≤ 8)) ∧ ((n % 4) = 1) then 1 else 0)) from congrArg nI (if_neg (fun z => (fun z => z c_3) z.1)).symm)
      refine k_eqi (show (nI 0) = (nI (if (¬ (n ≤ 8)) ∧ ((n % 4) = 1) then 1 else 0)) from congrArg nI (if_neg (fun z => (fun z => z c_3) z.1)).symm) ?_
      exact j_2 _ _ _ hP hD hS (lv_sub hl [0, 1, 2, 3] rfl)
    · skip
      refine lv_iload_n hx hb dX4_firstWrong_35 rfl (lv_at hl 3 rfl) ?_
      refine lv_iconst (v := (nI 4)) hx hb dX4_firstWrong_36 (by decide) ?_
      refine lv_irem hx hb dX4_firstWrong_37 (by decide) ?_
      refine k_eqi (show ((nI n) - (nI n) / (nI 4) * (nI 4)) = (nI (n % 4)) from pk_rem (show n < 2 ^ 31 by omega) (show 0 < 4 by decide) (show 4 < 2 ^ 31 by decide)) ?_
      refine lv_iconst (v := (nI 1)) hx hb dX4_firstWrong_38 (by decide) ?_
      refine k_icmp_ne (tgt := 46) hx hb dX4_firstWrong_39 (by decide) (show (n % 4) < 2 ^ 31 by first | omega | (split <;> omega)) (show 1 < 2 ^ 31 by first | omega | (split <;> omega)) (fun c_5 => ?_) (fun c_5 => ?_)
      · skip
        refine lv_iconst (v := (nI 0)) hx hb dX4_firstWrong_46 (by decide) ?_
        have e_6 := (show (nI 0) = (nI (if (¬ (n ≤ 8)) ∧ ((n % 4) = 1) then 1 else 0)) from congrArg nI (if_neg (fun z => c_5 z.2)).symm)
        refine k_eqi (show (nI 0) = (nI (if (¬ (n ≤ 8)) ∧ ((n % 4) = 1) then 1 else 0)) from congrArg nI (if_neg (fun z => c_5 z.2)).symm) ?_
        exact j_2 _ _ _ hP hD hS (lv_sub hl [0, 1, 2, 3] rfl)
      · skip
        refine lv_iconst (v := (nI 1)) hx hb dX4_firstWrong_42 (by decide) ?_
        refine lv_goto (tgt := 47) hx hb dX4_firstWrong_43 (by decide) ?_
        have e_7 := (show (nI 1) = (nI (if (¬ (n ≤ 8)) ∧ ((n % 4) = 1) then 1 else 0)) from congrArg nI (if_pos (⟨(Nat.not_le.mpr c_3), c_5⟩)).symm)
        refine k_eqi (show (nI 1) = (nI (if (¬ (n ≤ 8)) ∧ ((n % 4) = 1) then 1 else 0)) from congrArg nI (if_pos (⟨(Nat.not_le.mpr c_3), c_5⟩)).symm) ?_
        exact j_2 _ _ _ hP hD hS (lv_sub hl [0, 1, 2, 3] rfl)
  · skip
    refine lv_iload_n hx hb dX4_firstWrong_7 rfl (lv_at hl 0 rfl) ?_
    refine lv_aload_n hx hb dX4_firstWrong_8 rfl (lv_at hl 1 rfl) ?_
    refine lv_iload_n hx hb dX4_firstWrong_9 rfl (lv_at hl 2 rfl) ?_
    refine lv_iload_n hx hb dX4_firstWrong_10 rfl (lv_at hl 0 rfl) ?_
    refine lv_iadd hx hb dX4_firstWrong_11 ?_
    refine k_eqi (show ((nI fr) + (nI k)) = (nI (fr + k)) from nI_add fr k) ?_
    refine k_goi (S := Unit) (va_runV (As := [.int (nI (fr + k))]) (rest := [.int (nI k)]) ⟨hx, hb, hml, hown, hts⟩ (c_X3_at l D cI cZ cS cP hH q1 f fl ln sz (fr + k) (by first | assumption | omega) (by first | assumption | omega) _) (cwV 1 hts gX4_firstWrong_X3_at rfl rfl rfl (by decide +kernel) ⟨Nat.le_of_ble_eq_true rfl, Nat.le_of_ble_eq_true rfl⟩) (kPreV hN hK hP hD [0, 1] rfl rfl (q0 := 0) (ci := 3) (q := (RX3, TX3, 4)) rfl rfl) rfl rfl hl.1 rfl (lv_room (Nat.le_of_ble_eq_true rfl)) dX4_firstWrong_12 ⟨Nat.le_of_ble_eq_true rfl, Nat.le_of_ble_eq_true rfl⟩) hP hD hS hA [0, 1] rfl [hH, q1] rfl (fun _ => rfl) 2 [] rfl (fun _u => [(hH, .inr (3, [.ref q1, .int (nI fl), .int (nI ln), .int (nI sz)])), (q1, .inl (cI, 60, .inl f))]) (fun _ => rfl) [] [] (fun _ => rfl) rfl (fun _ => rfl) rfl (fun r_8 _u H locs hr_9 hP hD hS => ?_)
    have hP : va_P D vwCl [(hH, .inr (3, [.ref q1, .int (nI fl), .int (nI ln), .int (nI sz)])), (q1, .inl (cI, 60, .inl f))] H := hP
    have hD : va_D A [(hH, .inr (3, [.ref q1, .int (nI fl), .int (nI ln), .int (nI sz)])), (q1, .inl (cI, 60, .inl f))] := hD
    subst hr_9
    refine k_goi (S := Unit) (va_runS (As := [.int (nI k), .int (f (fr + k))]) (rest := []) ⟨hx, hb, hml, hown, hts⟩ (c_X4_goesOn l D cI cZ cS cP k (f (fr + k)) (by first | assumption | omega) _) (va_cwS 2 hts gX4_firstWrong_X4_goesOn rfl rfl rfl (by decide +kernel) ⟨Nat.le_of_ble_eq_true rfl, Nat.le_of_ble_eq_true rfl⟩) (kPreS hN hK hP hD [] rfl rfl) rfl rfl hl.1 rfl (lv_room (Nat.le_of_ble_eq_true rfl)) dX4_firstWrong_15 ⟨Nat.le_of_ble_eq_true rfl, Nat.le_of_ble_eq_true rfl⟩) hP hD hS hA [] rfl [] rfl (fun _ => rfl) 2 [0, 1] rfl (fun _u => [(hH, .inr (3, [.ref q1, .int (nI fl), .int (nI ln), .int (nI sz)])), (q1, .inl (cI, 60, .inl f))]) (fun _ => rfl) [(hH, .inr (3, [.ref q1, .int (nI fl), .int (nI ln), .int (nI sz)])), (q1, .inl (cI, 60, .inl f))] [] (fun _ => rfl) rfl (fun _ => rfl) rfl (fun r_10 _u H locs hr_11 hP hD hS => ?_)
    have hP : va_P D vwCl [(hH, .inr (3, [.ref q1, .int (nI fl), .int (nI ln), .int (nI sz)])), (q1, .inl (cI, 60, .inl f))] H := hP
    have hD : va_D A [(hH, .inr (3, [.ref q1, .int (nI fl), .int (nI ln), .int (nI sz)])), (q1, .inl (cI, 60, .inl f))] := hD
    subst hr_11
    refine k_ifc_ne (tgt := 23) hx hb dX4_firstWrong_18 (by decide) (fun c_12 => ?_) (fun c_12 => ?_)
    · skip
      refine lv_iinc (v := (nI (k + 1))) (lv' := [(3, .int (nI (k + 1))), (0, .ref hH), (1, .int (nI fr)), (2, .int (nI n))]) hx hb dX4_firstWrong_23 hl (k := 0) rfl (nI_inc k) (by decide) rfl (fun ls hl => ?_)
      refine lv_goto (tgt := 2) hx hb dX4_firstWrong_26 (by decide) ?_
      exact ih2 (k + 1) _ _ _ (show n - (k + 1) < n - k by omega) (show ((k + 1) ≤ n) ∧ (fs (fwP f fr) (k + 1) = none) from ⟨by omega, fs_miss hf (by simp only [fwP, Bool.not_eq_true']; (have z9 : goB k (f (fr + k)) = true := by assumption); rw [z9]; decide)⟩) hP hD hS (lv_sub hl [0, 1, 2, 3] rfl)
    · skip
      refine lv_iload_n hx hb dX4_firstWrong_21 rfl (lv_at hl 0 rfl) ?_
      exact ret _ () _ _ _ _ dX4_firstWrong_22 (show ((nI k) : Int32) = (oD (fwr f fr n)) by first | ((have h9 : k = n := by omega); (rw [h9] at hf); first | ((have z9 : (¬ (n ≤ 8)) ∧ (n % 4 = 1) := by assumption); exact fwr_ok hf z9) | ((have z9 : ¬ ((¬ (n ≤ 8)) ∧ (n % 4 = 1)) := by assumption); exact fwr_no hf z9)) | exact fwr_hit hf (by omega) (by assumption)) hP hD hS
def rm_X4_placesWithin : Room := { frames := 1, cells := 0, slots := 0, locals := 24 }
set_option maxHeartbeats 4000000 in
set_option maxRecDepth 100000 in
theorem c_X4_placesWithin (l : Launch) (D : va_G) (cI cZ cS cP : ClassId) (hS1 : Nat) (s1 : Nat) (s2 : Nat) (s3 : Nat) (em : Nat → Nat) (dr : Nat → Nat) (n : Nat) (a : Nat) (b : Nat) (hn : n ≤ 7) (ha : a < 7) (hbb : b < 7) : kMi (S := Unit) l yX4_placesWithin wsX4_placesWithin rm_X4_placesWithin D (kT cI cZ cS cP) [.ref hS1, .int (nI a), .int (nI b)] [(hS1, .inr (4, [.ref s1, .ref s2, .ref s3, .int (nI n)])), (s2, .inl (cI, 7, .inl (nA em))), (s3, .inl (cI, 7, .inl (nA dr)))] (fun r _ => r = (nI (mk (fun zz => decide (absD zz a ≤ b)) n))) (fun _ => [(hS1, .inr (4, [.ref s1, .ref s2, .ref s3, .int (nI n)])), (s2, .inl (cI, 7, .inl (nA em))), (s3, .inl (cI, 7, .inl (nA dr)))]) := by
  refine kMet_i (cc := cX4_placesWithin) (maxL := 5) (ty := .int) (by decide) rfl (Nat.le_of_ble_eq_true rfl) (fun _ _ _ => rfl) ?_
  intro p e s m args below meth c A Q ls C hlocks hin hN hK hP hD hS hA hl ret
  obtain ⟨hx, hb, hml, hown, hts⟩ := C
  have hl : lv_has ls 5 [(0, .ref hS1), (1, .int (nI a)), (2, .int (nI b))] := hl
  have in_X4 : ∀ w ∈ wsX40, w ∈ wsX4_placesWithin := by decide +kernel
  have lk0 := hts (.fieldLink RX4 40 "SilkWord$Street" "size" "I") (by decide +kernel)
  have lk1 := hts (.methodLink RX4 67 Lib.Math.abs.name) (by decide +kernel)
  have lk2 := hts (.static Lib.Math.abs.name) (by decide +kernel)
  have lk3 := hts (.initialized "java/lang/Math") (by decide +kernel)
  have lk4 := hts (.code Lib.Math.abs.name Lib.Math.abs.code 1 (some .int)) (by decide +kernel)
  refine lv_iconst (v := (nI 0)) hx hb dX4_placesWithin_0 (by decide) ?_
  refine lv_istore_n (lv' := [(3, .int (nI 0)), (0, .ref hS1), (1, .int (nI a)), (2, .int (nI b))]) hx hb dX4_placesWithin_1 rfl hl (by decide) rfl (fun ls hl => ?_)
  refine lv_iconst (v := (nI 0)) hx hb dX4_placesWithin_2 (by decide) ?_
  refine lv_istore (lv' := [(4, .int (nI 0)), (3, .int (nI 0)), (0, .ref hS1), (1, .int (nI a)), (2, .int (nI b))]) hx hb dX4_placesWithin_3 hl (by decide) rfl (fun ls hl => ?_)
  have e_1 : (nI 0) = (nI (mk (fun zz => decide (absD zz a ≤ b)) 0)) := congrArg nI (show 0 = mk (fun zz => decide (absD zz a ≤ b)) 0 by rfl)
  refine k_loop (α := Nat) (nL := 5) (fun k => n - k) (fun k => [(hS1, .inr (4, [.ref s1, .ref s2, .ref s3, .int (nI n)])), (s2, .inl (cI, 7, .inl (nA em))), (s3, .inl (cI, 7, .inl (nA dr)))]) (fun k => [(4, .int (nI k)), (3, .int (nI (mk (fun zz => decide (absD zz a ≤ b)) k))), (0, .ref hS1), (1, .int (nI a)), (2, .int (nI b))]) (fun k => (k ≤ n)) ?_ 0 (show (0 ≤ n) from by omega) hP hD hS (lv_cast (lv_sub hl [0, 1, 2, 3, 4] rfl) (show ([(4, .int (nI 0)), (3, .int (nI 0)), (0, .ref hS1), (1, .int (nI a)), (2, .int (nI b))] : List (Nat × Value)) = [(4, .int (nI 0)), (3, .int (nI (mk (fun zz => decide (absD zz a ≤ b)) 0))), (0, .ref hS1), (1, .int (nI a)), (2, .int (nI b))] by rw [← e_1]))
  clear hP hD hS hl
  intro k H locs ls hI hP hD hS hl ih5
  have hk : (k ≤ n) := hI
  have hP : va_P D vwCl [(hS1, .inr (4, [.ref s1, .ref s2, .ref s3, .int (nI n)])), (s2, .inl (cI, 7, .inl (nA em))), (s3, .inl (cI, 7, .inl (nA dr)))] H := hP
  have hD : va_D A [(hS1, .inr (4, [.ref s1, .ref s2, .ref s3, .int (nI n)])), (s2, .inl (cI, 7, .inl (nA em))), (s3, .inl (cI, 7, .inl (nA dr)))] := hD
  have hl : lv_has ls 5 [(4, .int (nI k)), (3, .int (nI (mk (fun zz => decide (absD zz a ≤ b)) k))), (0, .ref hS1), (1, .int (nI a)), (2, .int (nI b))] := hl
  refine lv_iload hx hb dX4_placesWithin_5 (lv_at hl 0 rfl) ?_
  refine lv_aload_n hx hb dX4_placesWithin_7 rfl (lv_at hl 2 rfl) ?_
  refine va_get (D := D) (ci := 4) (v := .int (nI n)) (C := RX4) (T := TX4) (N := 4) hx hb hts in_X4 hown hK hP 0 rfl rfl 3 (by decide) lk0 (fun _ h9 => h9) rfl dX4_placesWithin_8 ?_
  refine k_icmp_ge (tgt := 38) hx hb dX4_placesWithin_11 (by decide) (show k < 2 ^ 31 by first | omega | (split <;> omega)) (show n < 2 ^ 31 by first | omega | (split <;> omega)) (fun c_2 => ?_) (fun c_2 => ?_)
  · skip
    refine lv_iload_n hx hb dX4_placesWithin_38 rfl (lv_at hl 1 rfl) ?_
    exact ret _ () _ _ _ _ dX4_placesWithin_39 (congrArg nI (show mk (fun zz => decide (absD zz a ≤ b)) k = mk (fun zz => decide (absD zz a ≤ b)) n by (have h9 : k = n := by omega); subst h9; rfl)) hP hD hS
  · skip
    refine lv_iload hx hb dX4_placesWithin_14 (lv_at hl 0 rfl) ?_
    refine lv_iload_n hx hb dX4_placesWithin_16 rfl (lv_at hl 3 rfl) ?_
    refine lv_isub hx hb dX4_placesWithin_17 ?_
    refine va_mabs hx hb (by rw [hml]; exact hl.1.symm) hown lk1 lk2 lk3 lk4 (Nat.le_of_ble_eq_true rfl) (Nat.le_of_ble_eq_true rfl) (by decide) (by decide) dX4_placesWithin_18 ?_
    refine k_eqi (show (if 0 ≤ ((nI k) - (nI a)) then ((nI k) - (nI a)) else 0 - ((nI k) - (nI a))) = (nI (absD k a)) from abs_ok (show k < 8 by omega) (show a < 8 by omega)) ?_
    refine lv_iload_n hx hb dX4_placesWithin_21 rfl (lv_at hl 4 rfl) ?_
    have j_3 : ∀ (H : Heap) (locs : List Loc) (ls : Array Slot), va_P D vwCl [(hS1, .inr (4, [.ref s1, .ref s2, .ref s3, .int (nI n)])), (s2, .inl (cI, 7, .inl (nA em))), (s3, .inl (cI, 7, .inl (nA dr)))] H → va_D A [(hS1, .inr (4, [.ref s1, .ref s2, .ref s3, .int (nI n)])), (s2, .inl (cI, 7, .inl (nA em))), (s3, .inl (cI, 7, .inl (nA dr)))] → va_S A s.heap H locs → lv_has ls 5 [(4, .int (nI k)), (3, .int (nI (if (absD k a) ≤ b then (mk (fun zz => decide (absD zz a ≤ b)) k) ||| (2 ^ k) else mk (fun zz => decide (absD zz a ≤ b)) k))), (0, .ref hS1), (1, .int (nI a)), (2, .int (nI b))] → W p l e rm_X4_placesWithin s m args below meth c H locs 0 0 Q (F0 m 32 ls []) := by
      clear hP hD hS hl
      intro H locs ls hP hD hS hl
      refine lv_iinc (v := (nI (k + 1))) (lv' := [(4, .int (nI (k + 1))), (3, .int (nI (if (absD k a) ≤ b then (mk (fun zz => decide (absD zz a ≤ b)) k) ||| (2 ^ k) else mk (fun zz => decide (absD zz a ≤ b)) k))), (0, .ref hS1), (1, .int (nI a)), (2, .int (nI b))]) hx hb dX4_placesWithin_32 hl (k := 0) rfl (nI_inc k) (by decide) rfl (fun ls hl => ?_)
      refine lv_goto (tgt := 5) hx hb dX4_placesWithin_35 (by decide) ?_
      have e_5 : (nI (if (absD k a) ≤ b then (mk (fun zz => decide (absD zz a ≤ b)) k) ||| (2 ^ k) else mk (fun zz => decide (absD zz a ≤ b)) k)) = (nI (mk (fun zz => decide (absD zz a ≤ b)) (k + 1))) := congrArg nI (show (if (absD k a) ≤ b then (mk (fun zz => decide (absD zz a ≤ b)) k) ||| (2 ^ k) else mk (fun zz => decide (absD zz a ≤ b)) k) = mk (fun zz => decide (absD zz a ≤ b)) (k + 1) by exact pw_s)
      exact ih5 (k + 1) _ _ _ (show n - (k + 1) < n - k by omega) (show ((k + 1) ≤ n) from by omega) hP hD hS (lv_cast (lv_sub hl [0, 1, 2, 3, 4] rfl) (show ([(4, .int (nI (k + 1))), (3, .int (nI (if (absD k a) ≤ b then (mk (fun zz => decide (absD zz a ≤ b)) k) ||| (2 ^ k) else mk (fun zz => decide (absD zz a ≤ b)) k))), (0, .ref hS1), (1, .int (nI a)), (2, .int (nI b))] : List (Nat × Value)) = [(4, .int (nI (k + 1))), (3, .int (nI (mk (fun zz => decide (absD zz a ≤ b)) (k + 1)))), (0, .ref hS1), (1, .int (nI a)), (2, .int (nI b))] by rw [← e_5]))
    refine k_icmp_gt (tgt := 32) hx hb dX4_placesWithin_22 (by decide) (show (absD k a) < 2 ^ 31 by first | exact Nat.lt_trans (absD_lt (show k < 8 by omega) (show a < 8 by omega)) (by decide) | omega) (show b < 2 ^ 31 by first | exact Nat.lt_trans (absD_lt (show k < 8 by omega) (show a < 8 by omega)) (by decide) | omega) (fun c_4 => ?_) (fun c_4 => ?_)
    · skip
      have e_5 := (show (nI (mk (fun zz => decide (absD zz a ≤ b)) k)) = (nI (if (absD k a) ≤ b then (mk (fun zz => decide (absD zz a ≤ b)) k) ||| (2 ^ k) else mk (fun zz => decide (absD zz a ≤ b)) k)) from congrArg nI (Eq.symm (if_neg (Nat.not_le.mpr c_4))))
      exact j_3 _ _ _ hP hD hS (lv_cast (lv_sub hl [0, 1, 2, 3, 4] rfl) (show ([(4, .int (nI k)), (3, .int (nI (mk (fun zz => decide (absD zz a ≤ b)) k))), (0, .ref hS1), (1, .int (nI a)), (2, .int (nI b))] : List (Nat × Value)) = [(4, .int (nI k)), (3, .int (nI (if (absD k a) ≤ b then (mk (fun zz => decide (absD zz a ≤ b)) k) ||| (2 ^ k) else mk (fun zz => decide (absD zz a ≤ b)) k))), (0, .ref hS1), (1, .int (nI a)), (2, .int (nI b))] by rw [← e_5]))
    · skip
      refine lv_iload_n hx hb dX4_placesWithin_25 rfl (lv_at hl 1 rfl) ?_
      refine lv_iconst (v := (nI 1)) hx hb dX4_placesWithin_26 (by decide) ?_
      refine lv_iload hx hb dX4_placesWithin_27 (lv_at hl 0 rfl) ?_
      refine lv_ishl hx hb dX4_placesWithin_29 ?_
      refine k_eqi (show ((nI 1) <<< ((nI k) &&& 31)) = (nI (2 ^ k)) from nI_shl1 (show k < 32 by omega)) ?_
      refine lv_ior hx hb dX4_placesWithin_30 ?_
      refine k_eqi (show ((nI (mk (fun zz => decide (absD zz a ≤ b)) k)) ||| (nI (2 ^ k))) = (nI ((mk (fun zz => decide (absD zz a ≤ b)) k) ||| (2 ^ k))) from nI_or (mk (fun zz => decide (absD zz a ≤ b)) k) (2 ^ k)) ?_
      refine lv_istore_n (lv' := [(3, .int (nI ((mk (fun zz => decide (absD zz a ≤ b)) k) ||| (2 ^ k)))), (4, .int (nI k)), (0, .ref hS1), (1, .int (nI a)), (2, .int (nI b))]) hx hb dX4_placesWithin_31 rfl hl (by decide) rfl (fun ls hl => ?_)
      have e_6 := (show (nI ((mk (fun zz => decide (absD zz a ≤ b)) k) ||| (2 ^ k))) = (nI (if (absD k a) ≤ b then (mk (fun zz => decide (absD zz a ≤ b)) k) ||| (2 ^ k) else mk (fun zz => decide (absD zz a ≤ b)) k)) from congrArg nI (Eq.symm (if_pos c_4)))
      exact j_3 _ _ _ hP hD hS (lv_cast (lv_sub hl [1, 0, 2, 3, 4] rfl) (show ([(4, .int (nI k)), (3, .int (nI ((mk (fun zz => decide (absD zz a ≤ b)) k) ||| (2 ^ k)))), (0, .ref hS1), (1, .int (nI a)), (2, .int (nI b))] : List (Nat × Value)) = [(4, .int (nI k)), (3, .int (nI (if (absD k a) ≤ b then (mk (fun zz => decide (absD zz a ≤ b)) k) ||| (2 ^ k) else mk (fun zz => decide (absD zz a ≤ b)) k))), (0, .ref hS1), (1, .int (nI a)), (2, .int (nI b))] by rw [← e_6]))
def rm_X4_settle : Room := { frames := 5, cells := 7, slots := 21, locals := 112 }
set_option maxHeartbeats 4000000 in
set_option maxRecDepth 100000 in
theorem c_X4_settle (l : Launch) (D : va_G) (cI cZ cS cP : ClassId) (hH : Nat) (q1 : Nat) (f : Nat → Int32) (fl : Nat) (ln : Nat) (sz : Nat) (hS1 : Nat) (s1 : Nat) (s2 : Nat) (s3 : Nat) (pg : Nat → Option Nat) (em : Nat → Nat) (dr : Nat → Nat) (n : Nat) (fr : Nat) (nn : Nat) (mp : Nat) (hsz : sz ≤ 60) (hfn : fr + nn ≤ sz) (hnn : nn = 4 * mp + 1) (hm : mp ≤ 7) (hL : ∀ k, k < mp → (f (fr + 2 + k * 4) = nI 115 ∨ f (fr + 2 + k * 4) = nI 99 ∨ f (fr + 2 + k * 4) = nI 116)) (hlo : ∀ k, k < mp → (f (fr + 2 + k * 4 + 1) - nI 48 = nI (tlo f fr k) ∧ tlo f fr k < 6)) (her : ∀ k, k < mp → (f (fr + 2 + k * 4 + 2) - nI 48 = nI (ter f fr k) ∧ ter f fr k < 7)) (hem : ∀ i, em i < 128) (hdr : ∀ i, dr i < 14) : kMv (S := (Nat → Nat)) l yX4_settle wsX4_settle rm_X4_settle D (kT cI cZ cS cP) [.ref hS1, .ref hH, .int (nI fr), .int (nI nn)] [(hH, .inr (3, [.ref q1, .int (nI fl), .int (nI ln), .int (nI sz)])), (q1, .inl (cI, 60, .inl f)), (hS1, .inr (4, [.ref s1, .ref s2, .ref s3, .int (nI n)])), (s1, .inl (cP, 7, .inr (.inr (.inr (.inr pg))))), (s2, .inl (cI, 7, .inl (nA em))), (s3, .inl (cI, 7, .inl (nA dr)))] (fun u9 => True) (fun u9 => ([(hH, .inr (3, [.ref q1, .int (nI fl), .int (nI ln), .int (nI sz)])), (q1, .inl (cI, 60, .inl f)), (hS1, .inr (4, [.ref s1, .ref s2, .ref s3, .int (nI mp)])), (s1, .inl (cP, 7, .inr (.inr (.inr (.inr (cpO (pgo u9) pg mp)))))), (s2, .inl (cI, 7, .inl (nA (cpN (emf mp (ter f fr)) em mp)))), (s3, .inl (cI, 7, .inl (nA (cpN (fun zz => dar (tkd f fr zz) (tlo f fr zz)) dr mp))))] ++ (pcs u9 (tkd f fr) (tlo f fr) (ter f fr) mp))) := by
  refine kMet_v (cc := cX4_settle) (maxL := 7) (by decide) rfl (Nat.le_of_ble_eq_true rfl) ?_
  intro p e s m args below meth c A Q ls C hlocks hin hN hK hP hD hS hA hl ret
  obtain ⟨hx, hb, hml, hown, hts⟩ := C
  have hl : lv_has ls 7 [(0, .ref hS1), (1, .ref hH), (2, .int (nI fr)), (3, .int (nI nn))] := hl
  have in_X0 : ∀ w ∈ wsX00, w ∈ wsX4_settle := by decide +kernel
  have in_X4 : ∀ w ∈ wsX40, w ∈ wsX4_settle := by decide +kernel
  have in_X5 : ∀ w ∈ wsX50, w ∈ wsX4_settle := by decide +kernel
  have in_X6 : ∀ w ∈ wsX60, w ∈ wsX4_settle := by decide +kernel
  have lk0 := hts (.methodLink RX4 34 Lib.Math.min.name) (by decide +kernel)
  have lk1 := hts (.static Lib.Math.min.name) (by decide +kernel)
  have lk2 := hts (.initialized "java/lang/Math") (by decide +kernel)
  have lk3 := hts (.code Lib.Math.min.name Lib.Math.min.code 2 (some .int)) (by decide +kernel)
  have lk4 := hts (.fieldLink RX4 40 "SilkWord$Street" "size" "I") (by decide +kernel)
  have lk5 := hts (.fieldLink RX4 11 "SilkWord$Street" "persons" "[LSilkWord$Subject;") (by decide +kernel)
  have lk6 := hts (.fieldLink RX4 17 "SilkWord$Street" "ears" "[I") (by decide +kernel)
  have lk7 := hts (.fieldLink RX4 48 "SilkWord$Subject" "ear" "I") (by decide +kernel)
  have lk8 := hts (.fieldLink RX4 21 "SilkWord$Street" "dared" "[I") (by decide +kernel)
  refine lv_aload_n hx hb dX4_settle_0 rfl (lv_at hl 0 rfl) ?_
  refine lv_iload_n hx hb dX4_settle_1 rfl (lv_at hl 3 rfl) ?_
  refine lv_iconst (v := (nI 4)) hx hb dX4_settle_2 (by decide) ?_
  refine lv_idiv hx hb dX4_settle_3 (by decide) ?_
  refine k_eqi (show ((nI nn) / (nI 4)) = (nI (nn / 4)) from pk_div (show nn < 2 ^ 31 by omega) (show 0 < 4 by decide) (show 4 < 2 ^ 31 by decide)) ?_
  refine lv_bipush (v := (nI 7)) hx hb dX4_settle_4 (by decide) ?_
  refine va_mmin hx hb (by rw [hml]; exact hl.1.symm) hown lk0 lk1 lk2 lk3 (Nat.le_of_ble_eq_true rfl) (Nat.le_of_ble_eq_true rfl) (by decide) (by decide) dX4_settle_6 ?_
  refine k_eqi (show (if (nI 7) < (nI (nn / 4)) then (nI 7) else (nI (nn / 4))) = (nI mp) from min7 hnn hm) ?_
  refine va_put (D := D) (ci := 4) (v := .int (nI mp)) (ty := .int) (C := RX4) (T := TX4) (N := 4) hx hb hts in_X4 tyX4 tyX4_ok nmX4 hown hK hP hD hS 2 rfl rfl 3 (by decide) lk4 (fun _ h9 => h9) rfl (by decide +kernel) rfl rfl (Nat.le_of_ble_eq_true rfl) dX4_settle_9 (fun H locs hP hD hS => ?_)
  have hP : va_P D vwCl [(hH, .inr (3, [.ref q1, .int (nI fl), .int (nI ln), .int (nI sz)])), (q1, .inl (cI, 60, .inl f)), (hS1, .inr (4, [.ref s1, .ref s2, .ref s3, .int (nI mp)])), (s1, .inl (cP, 7, .inr (.inr (.inr (.inr pg))))), (s2, .inl (cI, 7, .inl (nA em))), (s3, .inl (cI, 7, .inl (nA dr)))] H := hP
  have hD : va_D A [(hH, .inr (3, [.ref q1, .int (nI fl), .int (nI ln), .int (nI sz)])), (q1, .inl (cI, 60, .inl f)), (hS1, .inr (4, [.ref s1, .ref s2, .ref s3, .int (nI mp)])), (s1, .inl (cP, 7, .inr (.inr (.inr (.inr pg))))), (s2, .inl (cI, 7, .inl (nA em))), (s3, .inl (cI, 7, .inl (nA dr)))] := hD
  refine lv_iconst (v := (nI 0)) hx hb dX4_settle_12 (by decide) ?_
  refine lv_istore (lv' := [(4, .int (nI 0)), (0, .ref hS1), (1, .ref hH), (2, .int (nI fr)), (3, .int (nI nn))]) hx hb dX4_settle_13 hl (by decide) rfl (fun ls hl => ?_)
  have hP : va_P D vwCl ([(hH, .inr (3, [.ref q1, .int (nI fl), .int (nI ln), .int (nI sz)])), (q1, .inl (cI, 60, .inl f)), (hS1, .inr (4, [.ref s1, .ref s2, .ref s3, .int (nI mp)])), (s1, .inl (cP, 7, .inr (.inr (.inr (.inr pg))))), (s2, .inl (cI, 7, .inl (nA em))), (s3, .inl (cI, 7, .inl (nA dr)))] ++ ([] : va_W)) H := by rw [List.append_nil]; exact hP
  have hD : va_D A ([(hH, .inr (3, [.ref q1, .int (nI fl), .int (nI ln), .int (nI sz)])), (q1, .inl (cI, 60, .inl f)), (hS1, .inr (4, [.ref s1, .ref s2, .ref s3, .int (nI mp)])), (s1, .inl (cP, 7, .inr (.inr (.inr (.inr pg))))), (s2, .inl (cI, 7, .inl (nA em))), (s3, .inl (cI, 7, .inl (nA dr)))] ++ ([] : va_W)) := by rw [List.append_nil]; exact hD
  have e_1 : pg = (cpO (pgo (fun _ => 0)) pg 0) := by exact (cpO_0 _ pg).symm
  have e_2 : nA em = nA (cpN (emf mp (ter f fr)) em 0) := congrArg nA (show em = (cpN (emf mp (ter f fr)) em 0) by exact (cpN_0 _ em).symm)
  have e_3 : nA dr = nA (cpN (fun zz => dar (tkd f fr zz) (tlo f fr zz)) dr 0) := congrArg nA (show dr = (cpN (fun zz => dar (tkd f fr zz) (tlo f fr zz)) dr 0) by exact (cpN_0 _ dr).symm)
  have e_4 : (([] : va_W) : va_W) = pcs (fun _ => 0) (tkd f fr) (tlo f fr) (ter f fr) 0 := by rfl
  have q_5 : (([(hH, .inr (3, [.ref q1, .int (nI fl), .int (nI ln), .int (nI sz)])), (q1, .inl (cI, 60, .inl f)), (hS1, .inr (4, [.ref s1, .ref s2, .ref s3, .int (nI mp)])), (s1, .inl (cP, 7, .inr (.inr (.inr (.inr pg))))), (s2, .inl (cI, 7, .inl (nA em))), (s3, .inl (cI, 7, .inl (nA dr)))] ++ ([] : va_W)) : va_W) = ([(hH, .inr (3, [.ref q1, .int (nI fl), .int (nI ln), .int (nI sz)])), (q1, .inl (cI, 60, .inl f)), (hS1, .inr (4, [.ref s1, .ref s2, .ref s3, .int (nI mp)])), (s1, .inl (cP, 7, .inr (.inr (.inr (.inr (cpO (pgo (fun _ => 0)) pg 0)))))), (s2, .inl (cI, 7, .inl (nA (cpN (emf mp (ter f fr)) em 0)))), (s3, .inl (cI, 7, .inl (nA (cpN (fun zz => dar (tkd f fr zz) (tlo f fr zz)) dr 0))))] ++ (pcs (fun _ => 0) (tkd f fr) (tlo f fr) (ter f fr) 0)) := by rw [← e_1, ← e_2, ← e_3, ← e_4]
  refine k_loopc (α := Nat × (Nat → Nat)) (nL := 7) (fun x9 => mp - x9.1) (fun x9 => x9.1) (fun x9 => 3 * x9.1) (fun x9 => ([(hH, .inr (3, [.ref q1, .int (nI fl), .int (nI ln), .int (nI sz)])), (q1, .inl (cI, 60, .inl f)), (hS1, .inr (4, [.ref s1, .ref s2, .ref s3, .int (nI mp)])), (s1, .inl (cP, 7, .inr (.inr (.inr (.inr (cpO (pgo x9.2) pg x9.1)))))), (s2, .inl (cI, 7, .inl (nA (cpN (emf mp (ter f fr)) em x9.1)))), (s3, .inl (cI, 7, .inl (nA (cpN (fun zz => dar (tkd f fr zz) (tlo f fr zz)) dr x9.1))))] ++ (pcs x9.2 (tkd f fr) (tlo f fr) (ter f fr) x9.1))) (fun x9 => [(4, .int (nI x9.1)), (0, .ref hS1), (1, .ref hH), (2, .int (nI fr)), (3, .int (nI nn))]) (fun x9 => (x9.1 ≤ mp)) ?_ (0, fun _ => 0) (by omega) (by omega) (show (0 ≤ mp) from by omega) (kP_cast hP q_5) (kD_cast hD q_5) hS (lv_sub hl [0, 1, 2, 3, 4] rfl)
  clear hP hD hS hl
  intro x9 H locs ls hI hP hD hS hl ih15
  obtain ⟨k, ad⟩ := x9
  have hk : (k ≤ mp) := hI
  have hP : va_P D vwCl ([(hH, .inr (3, [.ref q1, .int (nI fl), .int (nI ln), .int (nI sz)])), (q1, .inl (cI, 60, .inl f)), (hS1, .inr (4, [.ref s1, .ref s2, .ref s3, .int (nI mp)])), (s1, .inl (cP, 7, .inr (.inr (.inr (.inr (cpO (pgo ad) pg k)))))), (s2, .inl (cI, 7, .inl (nA (cpN (emf mp (ter f fr)) em k)))), (s3, .inl (cI, 7, .inl (nA (cpN (fun zz => dar (tkd f fr zz) (tlo f fr zz)) dr k))))] ++ (pcs ad (tkd f fr) (tlo f fr) (ter f fr) k)) H := hP
  have hD : va_D A ([(hH, .inr (3, [.ref q1, .int (nI fl), .int (nI ln), .int (nI sz)])), (q1, .inl (cI, 60, .inl f)), (hS1, .inr (4, [.ref s1, .ref s2, .ref s3, .int (nI mp)])), (s1, .inl (cP, 7, .inr (.inr (.inr (.inr (cpO (pgo ad) pg k)))))), (s2, .inl (cI, 7, .inl (nA (cpN (emf mp (ter f fr)) em k)))), (s3, .inl (cI, 7, .inl (nA (cpN (fun zz => dar (tkd f fr zz) (tlo f fr zz)) dr k))))] ++ (pcs ad (tkd f fr) (tlo f fr) (ter f fr) k)) := hD
  have hl : lv_has ls 7 [(4, .int (nI k)), (0, .ref hS1), (1, .ref hH), (2, .int (nI fr)), (3, .int (nI nn))] := hl
  refine lv_iload hx hb dX4_settle_15 (lv_at hl 0 rfl) ?_
  refine lv_aload_n hx hb dX4_settle_17 rfl (lv_at hl 1 rfl) ?_
  refine va_get (D := D) (ci := 4) (v := .int (nI mp)) (C := RX4) (T := TX4) (N := 4) hx hb hts in_X4 hown hK hP 2 rfl rfl 3 (by decide) lk4 (fun _ h9 => h9) rfl dX4_settle_18 ?_
  refine k_icmp_ge (tgt := 114) hx hb dX4_settle_21 (by decide) (show k < 2 ^ 31 by first | omega | (split <;> omega)) (show mp < 2 ^ 31 by first | omega | (split <;> omega)) (fun c_6 => ?_) (fun c_6 => ?_)
  · skip
    have hkm : k = mp := by omega
    have e_7 : (cpO (pgo ad) pg k) = (cpO (pgo ad) pg mp) := by rw [hkm]
    have e_8 : nA (cpN (emf mp (ter f fr)) em k) = nA (cpN (emf mp (ter f fr)) em mp) := congrArg nA (show (cpN (emf mp (ter f fr)) em k) = (cpN (emf mp (ter f fr)) em mp) by rw [hkm])
    have e_9 : nA (cpN (fun zz => dar (tkd f fr zz) (tlo f fr zz)) dr k) = nA (cpN (fun zz => dar (tkd f fr zz) (tlo f fr zz)) dr mp) := congrArg nA (show (cpN (fun zz => dar (tkd f fr zz) (tlo f fr zz)) dr k) = (cpN (fun zz => dar (tkd f fr zz) (tlo f fr zz)) dr mp) by rw [hkm])
    have e_10 : (pcs ad (tkd f fr) (tlo f fr) (ter f fr) k : va_W) = pcs ad (tkd f fr) (tlo f fr) (ter f fr) mp := by rw [hkm]
    have q_11 : (([(hH, .inr (3, [.ref q1, .int (nI fl), .int (nI ln), .int (nI sz)])), (q1, .inl (cI, 60, .inl f)), (hS1, .inr (4, [.ref s1, .ref s2, .ref s3, .int (nI mp)])), (s1, .inl (cP, 7, .inr (.inr (.inr (.inr (cpO (pgo ad) pg k)))))), (s2, .inl (cI, 7, .inl (nA (cpN (emf mp (ter f fr)) em k)))), (s3, .inl (cI, 7, .inl (nA (cpN (fun zz => dar (tkd f fr zz) (tlo f fr zz)) dr k))))] ++ (pcs ad (tkd f fr) (tlo f fr) (ter f fr) k)) : va_W) = ([(hH, .inr (3, [.ref q1, .int (nI fl), .int (nI ln), .int (nI sz)])), (q1, .inl (cI, 60, .inl f)), (hS1, .inr (4, [.ref s1, .ref s2, .ref s3, .int (nI mp)])), (s1, .inl (cP, 7, .inr (.inr (.inr (.inr (cpO (pgo ad) pg mp)))))), (s2, .inl (cI, 7, .inl (nA (cpN (emf mp (ter f fr)) em mp)))), (s3, .inl (cI, 7, .inl (nA (cpN (fun zz => dar (tkd f fr zz) (tlo f fr zz)) dr mp))))] ++ (pcs ad (tkd f fr) (tlo f fr) (ter f fr) mp)) := by rw [← e_7, ← e_8, ← e_9, ← e_10]
    refine W.widen (k := rm_X4_settle.cells) (n := rm_X4_settle.slots) (show k ≤ 7 by omega) (show 3 * k ≤ 21 by omega) ?_
    exact ret (ad) _ _ _ _ dX4_settle_114 trivial (kP_cast hP q_11) (kD_cast hD q_11) hS
  · skip
    refine lv_iload_n hx hb dX4_settle_24 rfl (lv_at hl 3 rfl) ?_
    refine lv_iconst (v := (nI 2)) hx hb dX4_settle_25 (by decide) ?_
    refine lv_iadd hx hb dX4_settle_26 ?_
    refine k_eqi (show ((nI fr) + (nI 2)) = (nI (fr + 2)) from nI_add fr 2) ?_
    refine lv_iload hx hb dX4_settle_27 (lv_at hl 0 rfl) ?_
    refine lv_iconst (v := (nI 4)) hx hb dX4_settle_29 (by decide) ?_
    refine lv_imul hx hb dX4_settle_30 ?_
    refine k_eqi (show ((nI k) * (nI 4)) = (nI (k * 4)) from pk_mul k 4) ?_
    refine lv_iadd hx hb dX4_settle_31 ?_
    refine k_eqi (show ((nI (fr + 2)) + (nI (k * 4))) = (nI ((fr + 2) + (k * 4))) from nI_add (fr + 2) (k * 4)) ?_
    refine lv_istore (lv' := [(5, .int (nI ((fr + 2) + (k * 4)))), (4, .int (nI k)), (0, .ref hS1), (1, .ref hH), (2, .int (nI fr)), (3, .int (nI nn))]) hx hb dX4_settle_32 hl (by decide) rfl (fun ls hl => ?_)
    refine lv_aload_n hx hb dX4_settle_34 rfl (lv_at hl 3 rfl) ?_
    refine lv_iload hx hb dX4_settle_35 (lv_at hl 0 rfl) ?_
    refine k_goi (S := Unit) (va_runV (As := [.int (nI ((fr + 2) + (k * 4)))]) (rest := []) ⟨hx, hb, hml, hown, hts⟩ (c_X3_at l D cI cZ cS cP hH q1 f fl ln sz ((fr + 2) + (k * 4)) (by first | assumption | omega) (by first | assumption | omega) _) (cwV 1 hts gX4_settle_X3_at rfl rfl rfl (by decide +kernel) ⟨Nat.le_of_ble_eq_true rfl, Nat.le_of_ble_eq_true rfl⟩) (kPreV hN hK hP hD [0, 1] rfl rfl (q0 := 0) (ci := 3) (q := (RX3, TX3, 4)) rfl rfl) rfl rfl hl.1 rfl (lv_room (Nat.le_of_ble_eq_true rfl)) dX4_settle_37 ⟨(show k + 0 ≤ 7 by omega), (show 3 * k + 0 ≤ 21 by omega)⟩) hP hD hS hA [0, 1] rfl [hH, q1] rfl (fun _ => rfl) 6 [2, 3, 4, 5] rfl (fun _u => ([(hH, .inr (3, [.ref q1, .int (nI fl), .int (nI ln), .int (nI sz)])), (q1, .inl (cI, 60, .inl f)), (hS1, .inr (4, [.ref s1, .ref s2, .ref s3, .int (nI mp)])), (s1, .inl (cP, 7, .inr (.inr (.inr (.inr (cpO (pgo ad) pg k)))))), (s2, .inl (cI, 7, .inl (nA (cpN (emf mp (ter f fr)) em k)))), (s3, .inl (cI, 7, .inl (nA (cpN (fun zz => dar (tkd f fr zz) (tlo f fr zz)) dr k))))] ++ (pcs ad (tkd f fr) (tlo f fr) (ter f fr) k))) (fun _ => rfl) [(hS1, .inr (4, [.ref s1, .ref s2, .ref s3, .int (nI mp)])), (s1, .inl (cP, 7, .inr (.inr (.inr (.inr (cpO (pgo ad) pg k)))))), (s2, .inl (cI, 7, .inl (nA (cpN (emf mp (ter f fr)) em k)))), (s3, .inl (cI, 7, .inl (nA (cpN (fun zz => dar (tkd f fr zz) (tlo f fr zz)) dr k))))] (pcs ad (tkd f fr) (tlo f fr) (ter f fr) k) (fun _ => rfl) rfl (fun _ => rfl) rfl (fun r_12 _u H locs hr_13 hP hD hS => ?_)
    have hP : va_P D vwCl ([(hH, .inr (3, [.ref q1, .int (nI fl), .int (nI ln), .int (nI sz)])), (q1, .inl (cI, 60, .inl f)), (hS1, .inr (4, [.ref s1, .ref s2, .ref s3, .int (nI mp)])), (s1, .inl (cP, 7, .inr (.inr (.inr (.inr (cpO (pgo ad) pg k)))))), (s2, .inl (cI, 7, .inl (nA (cpN (emf mp (ter f fr)) em k)))), (s3, .inl (cI, 7, .inl (nA (cpN (fun zz => dar (tkd f fr zz) (tlo f fr zz)) dr k))))] ++ (pcs ad (tkd f fr) (tlo f fr) (ter f fr) k)) H := hP
    have hD : va_D A ([(hH, .inr (3, [.ref q1, .int (nI fl), .int (nI ln), .int (nI sz)])), (q1, .inl (cI, 60, .inl f)), (hS1, .inr (4, [.ref s1, .ref s2, .ref s3, .int (nI mp)])), (s1, .inl (cP, 7, .inr (.inr (.inr (.inr (cpO (pgo ad) pg k)))))), (s2, .inl (cI, 7, .inl (nA (cpN (emf mp (ter f fr)) em k)))), (s3, .inl (cI, 7, .inl (nA (cpN (fun zz => dar (tkd f fr zz) (tlo f fr zz)) dr k))))] ++ (pcs ad (tkd f fr) (tlo f fr) (ter f fr) k)) := hD
    subst hr_13
    rcases hL k (by omega) with h1 | h1 | h1
    · skip
      refine k_eqi (show (f ((fr + 2) + (k * 4))) = nI 115 from h1) ?_
      have hkd : tkd f fr k = 0 := by unfold tkd kdc; rw [h1]; decide
      have hke : kcl (tkd f fr k) = 5 := by rw [hkd]; rfl
      refine lv_iload hx hb dX4_settle_40 (lv_at hl 1 rfl) ?_
      refine lv_aload_n hx hb dX4_settle_42 rfl (lv_at hl 3 rfl) ?_
      refine lv_iload hx hb dX4_settle_43 (lv_at hl 0 rfl) ?_
      refine lv_iconst (v := (nI 1)) hx hb dX4_settle_45 (by decide) ?_
      refine lv_iadd hx hb dX4_settle_46 ?_
      refine k_eqi (show ((nI ((fr + 2) + (k * 4))) + (nI 1)) = (nI (((fr + 2) + (k * 4)) + 1)) from nI_add ((fr + 2) + (k * 4)) 1) ?_
      refine k_goi (S := Unit) (va_runV (As := [.int (nI (((fr + 2) + (k * 4)) + 1))]) (rest := [.int (nI k), .int (nI 115)]) ⟨hx, hb, hml, hown, hts⟩ (c_X3_at l D cI cZ cS cP hH q1 f fl ln sz (((fr + 2) + (k * 4)) + 1) (by first | assumption | omega) (by first | assumption | omega) _) (cwV 1 hts gX4_settle_X3_at rfl rfl rfl (by decide +kernel) ⟨Nat.le_of_ble_eq_true rfl, Nat.le_of_ble_eq_true rfl⟩) (kPreV hN hK hP hD [0, 1] rfl rfl (q0 := 0) (ci := 3) (q := (RX3, TX3, 4)) rfl rfl) rfl rfl hl.1 rfl (lv_room (Nat.le_of_ble_eq_true rfl)) dX4_settle_47 ⟨(show k + 0 ≤ 7 by omega), (show 3 * k + 0 ≤ 21 by omega)⟩) hP hD hS hA [0, 1] rfl [hH, q1] rfl (fun _ => rfl) 6 [2, 3, 4, 5] rfl (fun _u => ([(hH, .inr (3, [.ref q1, .int (nI fl), .int (nI ln), .int (nI sz)])), (q1, .inl (cI, 60, .inl f)), (hS1, .inr (4, [.ref s1, .ref s2, .ref s3, .int (nI mp)])), (s1, .inl (cP, 7, .inr (.inr (.inr (.inr (cpO (pgo ad) pg k)))))), (s2, .inl (cI, 7, .inl (nA (cpN (emf mp (ter f fr)) em k)))), (s3, .inl (cI, 7, .inl (nA (cpN (fun zz => dar (tkd f fr zz) (tlo f fr zz)) dr k))))] ++ (pcs ad (tkd f fr) (tlo f fr) (ter f fr) k))) (fun _ => rfl) [(hS1, .inr (4, [.ref s1, .ref s2, .ref s3, .int (nI mp)])), (s1, .inl (cP, 7, .inr (.inr (.inr (.inr (cpO (pgo ad) pg k)))))), (s2, .inl (cI, 7, .inl (nA (cpN (emf mp (ter f fr)) em k)))), (s3, .inl (cI, 7, .inl (nA (cpN (fun zz => dar (tkd f fr zz) (tlo f fr zz)) dr k))))] (pcs ad (tkd f fr) (tlo f fr) (ter f fr) k) (fun _ => rfl) rfl (fun _ => rfl) rfl (fun r_14 _u H locs hr_15 hP hD hS => ?_)
      have hP : va_P D vwCl ([(hH, .inr (3, [.ref q1, .int (nI fl), .int (nI ln), .int (nI sz)])), (q1, .inl (cI, 60, .inl f)), (hS1, .inr (4, [.ref s1, .ref s2, .ref s3, .int (nI mp)])), (s1, .inl (cP, 7, .inr (.inr (.inr (.inr (cpO (pgo ad) pg k)))))), (s2, .inl (cI, 7, .inl (nA (cpN (emf mp (ter f fr)) em k)))), (s3, .inl (cI, 7, .inl (nA (cpN (fun zz => dar (tkd f fr zz) (tlo f fr zz)) dr k))))] ++ (pcs ad (tkd f fr) (tlo f fr) (ter f fr) k)) H := hP
      have hD : va_D A ([(hH, .inr (3, [.ref q1, .int (nI fl), .int (nI ln), .int (nI sz)])), (q1, .inl (cI, 60, .inl f)), (hS1, .inr (4, [.ref s1, .ref s2, .ref s3, .int (nI mp)])), (s1, .inl (cP, 7, .inr (.inr (.inr (.inr (cpO (pgo ad) pg k)))))), (s2, .inl (cI, 7, .inl (nA (cpN (emf mp (ter f fr)) em k)))), (s3, .inl (cI, 7, .inl (nA (cpN (fun zz => dar (tkd f fr zz) (tlo f fr zz)) dr k))))] ++ (pcs ad (tkd f fr) (tlo f fr) (ter f fr) k)) := hD
      subst hr_15
      refine lv_bipush (v := (nI 48)) hx hb dX4_settle_50 (by decide) ?_
      refine lv_isub hx hb dX4_settle_52 ?_
      refine k_eqi (show ((f (((fr + 2) + (k * 4)) + 1)) - (nI 48)) = (nI (tlo f fr k)) from (hlo k (by omega)).1) ?_
      refine lv_aload_n hx hb dX4_settle_53 rfl (lv_at hl 3 rfl) ?_
      refine lv_iload hx hb dX4_settle_54 (lv_at hl 0 rfl) ?_
      refine lv_iconst (v := (nI 2)) hx hb dX4_settle_56 (by decide) ?_
      refine lv_iadd hx hb dX4_settle_57 ?_
      refine k_eqi (show ((nI ((fr + 2) + (k * 4))) + (nI 2)) = (nI (((fr + 2) + (k * 4)) + 2)) from nI_add ((fr + 2) + (k * 4)) 2) ?_
      refine k_goi (S := Unit) (va_runV (As := [.int (nI (((fr + 2) + (k * 4)) + 2))]) (rest := [.int (nI (tlo f fr k)), .int (nI k), .int (nI 115)]) ⟨hx, hb, hml, hown, hts⟩ (c_X3_at l D cI cZ cS cP hH q1 f fl ln sz (((fr + 2) + (k * 4)) + 2) (by first | assumption | omega) (by first | assumption | omega) _) (cwV 1 hts gX4_settle_X3_at rfl rfl rfl (by decide +kernel) ⟨Nat.le_of_ble_eq_true rfl, Nat.le_of_ble_eq_true rfl⟩) (kPreV hN hK hP hD [0, 1] rfl rfl (q0 := 0) (ci := 3) (q := (RX3, TX3, 4)) rfl rfl) rfl rfl hl.1 rfl (lv_room (Nat.le_of_ble_eq_true rfl)) dX4_settle_58 ⟨(show k + 0 ≤ 7 by omega), (show 3 * k + 0 ≤ 21 by omega)⟩) hP hD hS hA [0, 1] rfl [hH, q1] rfl (fun _ => rfl) 6 [2, 3, 4, 5] rfl (fun _u => ([(hH, .inr (3, [.ref q1, .int (nI fl), .int (nI ln), .int (nI sz)])), (q1, .inl (cI, 60, .inl f)), (hS1, .inr (4, [.ref s1, .ref s2, .ref s3, .int (nI mp)])), (s1, .inl (cP, 7, .inr (.inr (.inr (.inr (cpO (pgo ad) pg k)))))), (s2, .inl (cI, 7, .inl (nA (cpN (emf mp (ter f fr)) em k)))), (s3, .inl (cI, 7, .inl (nA (cpN (fun zz => dar (tkd f fr zz) (tlo f fr zz)) dr k))))] ++ (pcs ad (tkd f fr) (tlo f fr) (ter f fr) k))) (fun _ => rfl) [(hS1, .inr (4, [.ref s1, .ref s2, .ref s3, .int (nI mp)])), (s1, .inl (cP, 7, .inr (.inr (.inr (.inr (cpO (pgo ad) pg k)))))), (s2, .inl (cI, 7, .inl (nA (cpN (emf mp (ter f fr)) em k)))), (s3, .inl (cI, 7, .inl (nA (cpN (fun zz => dar (tkd f fr zz) (tlo f fr zz)) dr k))))] (pcs ad (tkd f fr) (tlo f fr) (ter f fr) k) (fun _ => rfl) rfl (fun _ => rfl) rfl (fun r_16 _u H locs hr_17 hP hD hS => ?_)
      have hP : va_P D vwCl ([(hH, .inr (3, [.ref q1, .int (nI fl), .int (nI ln), .int (nI sz)])), (q1, .inl (cI, 60, .inl f)), (hS1, .inr (4, [.ref s1, .ref s2, .ref s3, .int (nI mp)])), (s1, .inl (cP, 7, .inr (.inr (.inr (.inr (cpO (pgo ad) pg k)))))), (s2, .inl (cI, 7, .inl (nA (cpN (emf mp (ter f fr)) em k)))), (s3, .inl (cI, 7, .inl (nA (cpN (fun zz => dar (tkd f fr zz) (tlo f fr zz)) dr k))))] ++ (pcs ad (tkd f fr) (tlo f fr) (ter f fr) k)) H := hP
      have hD : va_D A ([(hH, .inr (3, [.ref q1, .int (nI fl), .int (nI ln), .int (nI sz)])), (q1, .inl (cI, 60, .inl f)), (hS1, .inr (4, [.ref s1, .ref s2, .ref s3, .int (nI mp)])), (s1, .inl (cP, 7, .inr (.inr (.inr (.inr (cpO (pgo ad) pg k)))))), (s2, .inl (cI, 7, .inl (nA (cpN (emf mp (ter f fr)) em k)))), (s3, .inl (cI, 7, .inl (nA (cpN (fun zz => dar (tkd f fr zz) (tlo f fr zz)) dr k))))] ++ (pcs ad (tkd f fr) (tlo f fr) (ter f fr) k)) := hD
      subst hr_17
      refine lv_bipush (v := (nI 48)) hx hb dX4_settle_61 (by decide) ?_
      refine lv_isub hx hb dX4_settle_63 ?_
      refine k_eqi (show ((f (((fr + 2) + (k * 4)) + 2)) - (nI 48)) = (nI (ter f fr k)) from (her k (by omega)).1) ?_
      refine k_jor0 (S := Unit) (va_runS (As := [.int (nI 115), .int (nI k), .int (nI (tlo f fr k)), .int (nI (ter f fr k))]) (rest := []) ⟨hx, hb, hml, hown, hts⟩ (c_X4_born_X5 l D cI cZ cS cP k (tlo f fr k) (ter f fr k)  _) (va_cwS 4 hts gX4_settle_X4_born rfl rfl rfl (by decide +kernel) ⟨Nat.le_of_ble_eq_true rfl, Nat.le_of_ble_eq_true rfl⟩) (kPreS hN hK hP hD [] rfl rfl) rfl rfl hl.1 rfl (lv_room (Nat.le_of_ble_eq_true rfl)) dX4_settle_64 ⟨(show k + 1 ≤ 7 by omega), (show 3 * k + 3 ≤ 21 by omega)⟩) hP hD hS hA (fun u_20 r_18 H locs hr_19 hP hD hS => ?_)
      have hP : va_P D vwCl ([(hH, .inr (3, [.ref q1, .int (nI fl), .int (nI ln), .int (nI sz)])), (q1, .inl (cI, 60, .inl f)), (hS1, .inr (4, [.ref s1, .ref s2, .ref s3, .int (nI mp)])), (s1, .inl (cP, 7, .inr (.inr (.inr (.inr (cpO (pgo ad) pg k)))))), (s2, .inl (cI, 7, .inl (nA (cpN (emf mp (ter f fr)) em k)))), (s3, .inl (cI, 7, .inl (nA (cpN (fun zz => dar (tkd f fr zz) (tlo f fr zz)) dr k)))), (r_18, .inr (5, [.int (nI k), .int (nI (tlo f fr k)), .int (nI (ter f fr k))]))] ++ (pcs ad (tkd f fr) (tlo f fr) (ter f fr) k)) H := va_P.swap (a := [(hH, .inr (3, [.ref q1, .int (nI fl), .int (nI ln), .int (nI sz)])), (q1, .inl (cI, 60, .inl f)), (hS1, .inr (4, [.ref s1, .ref s2, .ref s3, .int (nI mp)])), (s1, .inl (cP, 7, .inr (.inr (.inr (.inr (cpO (pgo ad) pg k)))))), (s2, .inl (cI, 7, .inl (nA (cpN (emf mp (ter f fr)) em k)))), (s3, .inl (cI, 7, .inl (nA (cpN (fun zz => dar (tkd f fr zz) (tlo f fr zz)) dr k))))]) (b := (pcs ad (tkd f fr) (tlo f fr) (ter f fr) k)) (c := [(r_18, .inr (5, [.int (nI k), .int (nI (tlo f fr k)), .int (nI (ter f fr k))]))]) hP
      have hD : va_D A ([(hH, .inr (3, [.ref q1, .int (nI fl), .int (nI ln), .int (nI sz)])), (q1, .inl (cI, 60, .inl f)), (hS1, .inr (4, [.ref s1, .ref s2, .ref s3, .int (nI mp)])), (s1, .inl (cP, 7, .inr (.inr (.inr (.inr (cpO (pgo ad) pg k)))))), (s2, .inl (cI, 7, .inl (nA (cpN (emf mp (ter f fr)) em k)))), (s3, .inl (cI, 7, .inl (nA (cpN (fun zz => dar (tkd f fr zz) (tlo f fr zz)) dr k)))), (r_18, .inr (5, [.int (nI k), .int (nI (tlo f fr k)), .int (nI (ter f fr k))]))] ++ (pcs ad (tkd f fr) (tlo f fr) (ter f fr) k)) := va_D.swap (a := [(hH, .inr (3, [.ref q1, .int (nI fl), .int (nI ln), .int (nI sz)])), (q1, .inl (cI, 60, .inl f)), (hS1, .inr (4, [.ref s1, .ref s2, .ref s3, .int (nI mp)])), (s1, .inl (cP, 7, .inr (.inr (.inr (.inr (cpO (pgo ad) pg k)))))), (s2, .inl (cI, 7, .inl (nA (cpN (emf mp (ter f fr)) em k)))), (s3, .inl (cI, 7, .inl (nA (cpN (fun zz => dar (tkd f fr zz) (tlo f fr zz)) dr k))))]) (b := (pcs ad (tkd f fr) (tlo f fr) (ter f fr) k)) (c := [(r_18, .inr (5, [.int (nI k), .int (nI (tlo f fr k)), .int (nI (ter f fr k))]))]) hD
      refine lv_astore (lv' := [(6, .ref r_18), (5, .int (nI ((fr + 2) + (k * 4)))), (4, .int (nI k)), (0, .ref hS1), (1, .ref hH), (2, .int (nI fr)), (3, .int (nI nn))]) hx hb dX4_settle_67 hl (by decide) rfl (fun ls hl => ?_)
      refine lv_aload_n hx hb dX4_settle_69 rfl (lv_at hl 3 rfl) ?_
      refine va_get (D := D) (ci := 4) (v := .ref s1) (C := RX4) (T := TX4) (N := 4) hx hb hts in_X4 hown hK hP 2 rfl rfl 0 (by decide) lk5 (fun _ h9 => h9) rfl dX4_settle_70 ?_
      refine lv_iload hx hb dX4_settle_73 (lv_at hl 2 rfl) ?_
      refine lv_aload hx hb dX4_settle_75 (lv_at hl 0 rfl) ?_
      refine k_aast (r := (RX5, TX5, 3)) hx hb hK hP hD hS 3 3 6 5 rfl rfl rfl rfl (show k < 7 by omega) (by decide) dX4_settle_77 (fun H locs hP hD hS => ?_)
      have hP : va_P D vwCl ([(hH, .inr (3, [.ref q1, .int (nI fl), .int (nI ln), .int (nI sz)])), (q1, .inl (cI, 60, .inl f)), (hS1, .inr (4, [.ref s1, .ref s2, .ref s3, .int (nI mp)])), (s1, .inl (cP, 7, .inr (.inr (.inr (.inr (va_up (cpO (pgo ad) pg k) k (some r_18))))))), (s2, .inl (cI, 7, .inl (nA (cpN (emf mp (ter f fr)) em k)))), (s3, .inl (cI, 7, .inl (nA (cpN (fun zz => dar (tkd f fr zz) (tlo f fr zz)) dr k)))), (r_18, .inr (5, [.int (nI k), .int (nI (tlo f fr k)), .int (nI (ter f fr k))]))] ++ (pcs ad (tkd f fr) (tlo f fr) (ter f fr) k)) H := hP
      have hD : va_D A ([(hH, .inr (3, [.ref q1, .int (nI fl), .int (nI ln), .int (nI sz)])), (q1, .inl (cI, 60, .inl f)), (hS1, .inr (4, [.ref s1, .ref s2, .ref s3, .int (nI mp)])), (s1, .inl (cP, 7, .inr (.inr (.inr (.inr (va_up (cpO (pgo ad) pg k) k (some r_18))))))), (s2, .inl (cI, 7, .inl (nA (cpN (emf mp (ter f fr)) em k)))), (s3, .inl (cI, 7, .inl (nA (cpN (fun zz => dar (tkd f fr zz) (tlo f fr zz)) dr k)))), (r_18, .inr (5, [.int (nI k), .int (nI (tlo f fr k)), .int (nI (ter f fr k))]))] ++ (pcs ad (tkd f fr) (tlo f fr) (ter f fr) k)) := hD
      refine lv_aload_n hx hb dX4_settle_78 rfl (lv_at hl 3 rfl) ?_
      refine va_get (D := D) (ci := 4) (v := .ref s2) (C := RX4) (T := TX4) (N := 4) hx hb hts in_X4 hown hK hP 2 rfl rfl 1 (by decide) lk6 (fun _ h9 => h9) rfl dX4_settle_79 ?_
      refine lv_iload hx hb dX4_settle_82 (lv_at hl 2 rfl) ?_
      refine lv_aload_n hx hb dX4_settle_84 rfl (lv_at hl 3 rfl) ?_
      refine lv_iload hx hb dX4_settle_85 (lv_at hl 2 rfl) ?_
      refine lv_aload hx hb dX4_settle_87 (lv_at hl 0 rfl) ?_
      refine va_get (D := D) (ci := 5) (v := .int (nI (ter f fr k))) (C := RX5) (T := TX5) (N := 3) hx hb hts in_X5 hown hK hP 6 rfl rfl 2 (by decide) lk7 (fun _ h9 => h9) rfl dX4_settle_89 ?_
      refine k_goi (S := Unit) (va_runV (As := [.int (nI k), .int (nI (ter f fr k))]) (rest := [.int (nI k), .ref s2]) ⟨hx, hb, hml, hown, hts⟩ (c_X4_placesWithin l D cI cZ cS cP hS1 s1 s2 s3 (cpN (emf mp (ter f fr)) em k) (cpN (fun zz => dar (tkd f fr zz) (tlo f fr zz)) dr k) mp k (ter f fr k) (by first | assumption | omega) (by first | assumption | omega) ((her k (by omega)).2) _) (cwV 2 hts gX4_settle_X4_placesWithin rfl rfl rfl (by decide +kernel) ⟨Nat.le_of_ble_eq_true rfl, Nat.le_of_ble_eq_true rfl⟩) (kPreV hN hK hP hD [2, 4, 5] rfl rfl (q0 := 0) (ci := 4) (q := (RX4, TX4, 4)) rfl rfl) rfl rfl hl.1 rfl (lv_room (Nat.le_of_ble_eq_true rfl)) dX4_settle_92 ⟨(show k + 1 + 0 ≤ 7 by omega), (show 3 * k + 3 + 0 ≤ 21 by omega)⟩) hP hD hS hA [2, 4, 5] rfl [hS1, s2, s3] rfl (fun _ => rfl) 7 [0, 1, 3, 6] rfl (fun _u => ([(hH, .inr (3, [.ref q1, .int (nI fl), .int (nI ln), .int (nI sz)])), (q1, .inl (cI, 60, .inl f)), (hS1, .inr (4, [.ref s1, .ref s2, .ref s3, .int (nI mp)])), (s1, .inl (cP, 7, .inr (.inr (.inr (.inr (va_up (cpO (pgo ad) pg k) k (some r_18))))))), (s2, .inl (cI, 7, .inl (nA (cpN (emf mp (ter f fr)) em k)))), (s3, .inl (cI, 7, .inl (nA (cpN (fun zz => dar (tkd f fr zz) (tlo f fr zz)) dr k)))), (r_18, .inr (5, [.int (nI k), .int (nI (tlo f fr k)), .int (nI (ter f fr k))]))] ++ (pcs ad (tkd f fr) (tlo f fr) (ter f fr) k))) (fun _ => rfl) [(hH, .inr (3, [.ref q1, .int (nI fl), .int (nI ln), .int (nI sz)])), (q1, .inl (cI, 60, .inl f)), (s1, .inl (cP, 7, .inr (.inr (.inr (.inr (va_up (cpO (pgo ad) pg k) k (some r_18))))))), (r_18, .inr (5, [.int (nI k), .int (nI (tlo f fr k)), .int (nI (ter f fr k))]))] (pcs ad (tkd f fr) (tlo f fr) (ter f fr) k) (fun _ => rfl) rfl (fun _ => rfl) rfl (fun r_21 _u H locs hr_22 hP hD hS => ?_)
      have hP : va_P D vwCl ([(hH, .inr (3, [.ref q1, .int (nI fl), .int (nI ln), .int (nI sz)])), (q1, .inl (cI, 60, .inl f)), (hS1, .inr (4, [.ref s1, .ref s2, .ref s3, .int (nI mp)])), (s1, .inl (cP, 7, .inr (.inr (.inr (.inr (va_up (cpO (pgo ad) pg k) k (some r_18))))))), (s2, .inl (cI, 7, .inl (nA (cpN (emf mp (ter f fr)) em k)))), (s3, .inl (cI, 7, .inl (nA (cpN (fun zz => dar (tkd f fr zz) (tlo f fr zz)) dr k)))), (r_18, .inr (5, [.int (nI k), .int (nI (tlo f fr k)), .int (nI (ter f fr k))]))] ++ (pcs ad (tkd f fr) (tlo f fr) (ter f fr) k)) H := hP
      have hD : va_D A ([(hH, .inr (3, [.ref q1, .int (nI fl), .int (nI ln), .int (nI sz)])), (q1, .inl (cI, 60, .inl f)), (hS1, .inr (4, [.ref s1, .ref s2, .ref s3, .int (nI mp)])), (s1, .inl (cP, 7, .inr (.inr (.inr (.inr (va_up (cpO (pgo ad) pg k) k (some r_18))))))), (s2, .inl (cI, 7, .inl (nA (cpN (emf mp (ter f fr)) em k)))), (s3, .inl (cI, 7, .inl (nA (cpN (fun zz => dar (tkd f fr zz) (tlo f fr zz)) dr k)))), (r_18, .inr (5, [.int (nI k), .int (nI (tlo f fr k)), .int (nI (ter f fr k))]))] ++ (pcs ad (tkd f fr) (tlo f fr) (ter f fr) k)) := hD
      subst hr_22
      have b_23 : mk (fun zz => decide (absD zz k ≤ (ter f fr k))) mp < 128 := mk_lt7 _ (by first | assumption | omega)
      refine k_iastN (y := (mk (fun zz => decide (absD zz k ≤ (ter f fr k))) mp)) hx hb hK hP hD hS 4 0 rfl rfl (show k < 7 by omega) (by decide) dX4_settle_95 (fun H locs hP hD hS => ?_)
      have hP : va_P D vwCl ([(hH, .inr (3, [.ref q1, .int (nI fl), .int (nI ln), .int (nI sz)])), (q1, .inl (cI, 60, .inl f)), (hS1, .inr (4, [.ref s1, .ref s2, .ref s3, .int (nI mp)])), (s1, .inl (cP, 7, .inr (.inr (.inr (.inr (va_up (cpO (pgo ad) pg k) k (some r_18))))))), (s2, .inl (cI, 7, .inl (nA (va_up (cpN (emf mp (ter f fr)) em k) k (mk (fun zz => decide (absD zz k ≤ (ter f fr k))) mp))))), (s3, .inl (cI, 7, .inl (nA (cpN (fun zz => dar (tkd f fr zz) (tlo f fr zz)) dr k)))), (r_18, .inr (5, [.int (nI k), .int (nI (tlo f fr k)), .int (nI (ter f fr k))]))] ++ (pcs ad (tkd f fr) (tlo f fr) (ter f fr) k)) H := hP
      have hD : va_D A ([(hH, .inr (3, [.ref q1, .int (nI fl), .int (nI ln), .int (nI sz)])), (q1, .inl (cI, 60, .inl f)), (hS1, .inr (4, [.ref s1, .ref s2, .ref s3, .int (nI mp)])), (s1, .inl (cP, 7, .inr (.inr (.inr (.inr (va_up (cpO (pgo ad) pg k) k (some r_18))))))), (s2, .inl (cI, 7, .inl (nA (va_up (cpN (emf mp (ter f fr)) em k) k (mk (fun zz => decide (absD zz k ≤ (ter f fr k))) mp))))), (s3, .inl (cI, 7, .inl (nA (cpN (fun zz => dar (tkd f fr zz) (tlo f fr zz)) dr k)))), (r_18, .inr (5, [.int (nI k), .int (nI (tlo f fr k)), .int (nI (ter f fr k))]))] ++ (pcs ad (tkd f fr) (tlo f fr) (ter f fr) k)) := hD
      refine lv_aload_n hx hb dX4_settle_96 rfl (lv_at hl 3 rfl) ?_
      refine va_get (D := D) (ci := 4) (v := .ref s3) (C := RX4) (T := TX4) (N := 4) hx hb hts in_X4 hown hK hP 2 rfl rfl 2 (by decide) lk8 (fun _ h9 => h9) rfl dX4_settle_97 ?_
      refine lv_iload hx hb dX4_settle_100 (lv_at hl 2 rfl) ?_
      refine lv_aload hx hb dX4_settle_102 (lv_at hl 0 rfl) ?_
      refine k_goi (S := Unit) (va_runV (As := []) (rest := [.int (nI k), .ref s3]) ⟨hx, hb, hml, hown, hts⟩ (c_X5_dares_X5 l D cI cZ cS cP r_18 k (tlo f fr k) (ter f fr k)  _) (cwV 0 hts gX4_settle_X5_dares rfl rfl rfl (by decide +kernel) ⟨Nat.le_of_ble_eq_true rfl, Nat.le_of_ble_eq_true rfl⟩) (kPreV hN hK hP hD [6] rfl rfl (q0 := 0) (ci := 5) (q := (RX5, TX5, 3)) rfl rfl) rfl rfl hl.1 rfl (lv_room (Nat.le_of_ble_eq_true rfl)) dX4_settle_104 ⟨(show k + 1 + 0 ≤ 7 by omega), (show 3 * k + 3 + 0 ≤ 21 by omega)⟩) hP hD hS hA [6] rfl [r_18] rfl (fun _ => rfl) 7 [0, 1, 2, 3, 4, 5] rfl (fun _u => ([(hH, .inr (3, [.ref q1, .int (nI fl), .int (nI ln), .int (nI sz)])), (q1, .inl (cI, 60, .inl f)), (hS1, .inr (4, [.ref s1, .ref s2, .ref s3, .int (nI mp)])), (s1, .inl (cP, 7, .inr (.inr (.inr (.inr (va_up (cpO (pgo ad) pg k) k (some r_18))))))), (s2, .inl (cI, 7, .inl (nA (va_up (cpN (emf mp (ter f fr)) em k) k (mk (fun zz => decide (absD zz k ≤ (ter f fr k))) mp))))), (s3, .inl (cI, 7, .inl (nA (cpN (fun zz => dar (tkd f fr zz) (tlo f fr zz)) dr k)))), (r_18, .inr (5, [.int (nI k), .int (nI (tlo f fr k)), .int (nI (ter f fr k))]))] ++ (pcs ad (tkd f fr) (tlo f fr) (ter f fr) k))) (fun _ => rfl) [(hH, .inr (3, [.ref q1, .int (nI fl), .int (nI ln), .int (nI sz)])), (q1, .inl (cI, 60, .inl f)), (hS1, .inr (4, [.ref s1, .ref s2, .ref s3, .int (nI mp)])), (s1, .inl (cP, 7, .inr (.inr (.inr (.inr (va_up (cpO (pgo ad) pg k) k (some r_18))))))), (s2, .inl (cI, 7, .inl (nA (va_up (cpN (emf mp (ter f fr)) em k) k (mk (fun zz => decide (absD zz k ≤ (ter f fr k))) mp))))), (s3, .inl (cI, 7, .inl (nA (cpN (fun zz => dar (tkd f fr zz) (tlo f fr zz)) dr k))))] (pcs ad (tkd f fr) (tlo f fr) (ter f fr) k) (fun _ => rfl) rfl (fun _ => rfl) rfl (fun r_24 _u H locs hr_25 hP hD hS => ?_)
      have hP : va_P D vwCl ([(hH, .inr (3, [.ref q1, .int (nI fl), .int (nI ln), .int (nI sz)])), (q1, .inl (cI, 60, .inl f)), (hS1, .inr (4, [.ref s1, .ref s2, .ref s3, .int (nI mp)])), (s1, .inl (cP, 7, .inr (.inr (.inr (.inr (va_up (cpO (pgo ad) pg k) k (some r_18))))))), (s2, .inl (cI, 7, .inl (nA (va_up (cpN (emf mp (ter f fr)) em k) k (mk (fun zz => decide (absD zz k ≤ (ter f fr k))) mp))))), (s3, .inl (cI, 7, .inl (nA (cpN (fun zz => dar (tkd f fr zz) (tlo f fr zz)) dr k)))), (r_18, .inr (5, [.int (nI k), .int (nI (tlo f fr k)), .int (nI (ter f fr k))]))] ++ (pcs ad (tkd f fr) (tlo f fr) (ter f fr) k)) H := hP
      have hD : va_D A ([(hH, .inr (3, [.ref q1, .int (nI fl), .int (nI ln), .int (nI sz)])), (q1, .inl (cI, 60, .inl f)), (hS1, .inr (4, [.ref s1, .ref s2, .ref s3, .int (nI mp)])), (s1, .inl (cP, 7, .inr (.inr (.inr (.inr (va_up (cpO (pgo ad) pg k) k (some r_18))))))), (s2, .inl (cI, 7, .inl (nA (va_up (cpN (emf mp (ter f fr)) em k) k (mk (fun zz => decide (absD zz k ≤ (ter f fr k))) mp))))), (s3, .inl (cI, 7, .inl (nA (cpN (fun zz => dar (tkd f fr zz) (tlo f fr zz)) dr k)))), (r_18, .inr (5, [.int (nI k), .int (nI (tlo f fr k)), .int (nI (ter f fr k))]))] ++ (pcs ad (tkd f fr) (tlo f fr) (ter f fr) k)) := hD
      subst hr_25
      refine k_iastN (y := (tlo f fr k)) hx hb hK hP hD hS 5 0 rfl rfl (show k < 7 by omega) (by decide) dX4_settle_107 (fun H locs hP hD hS => ?_)
      have hP : va_P D vwCl ([(hH, .inr (3, [.ref q1, .int (nI fl), .int (nI ln), .int (nI sz)])), (q1, .inl (cI, 60, .inl f)), (hS1, .inr (4, [.ref s1, .ref s2, .ref s3, .int (nI mp)])), (s1, .inl (cP, 7, .inr (.inr (.inr (.inr (va_up (cpO (pgo ad) pg k) k (some r_18))))))), (s2, .inl (cI, 7, .inl (nA (va_up (cpN (emf mp (ter f fr)) em k) k (mk (fun zz => decide (absD zz k ≤ (ter f fr k))) mp))))), (s3, .inl (cI, 7, .inl (nA (va_up (cpN (fun zz => dar (tkd f fr zz) (tlo f fr zz)) dr k) k (tlo f fr k))))), (r_18, .inr (5, [.int (nI k), .int (nI (tlo f fr k)), .int (nI (ter f fr k))]))] ++ (pcs ad (tkd f fr) (tlo f fr) (ter f fr) k)) H := hP
      have hD : va_D A ([(hH, .inr (3, [.ref q1, .int (nI fl), .int (nI ln), .int (nI sz)])), (q1, .inl (cI, 60, .inl f)), (hS1, .inr (4, [.ref s1, .ref s2, .ref s3, .int (nI mp)])), (s1, .inl (cP, 7, .inr (.inr (.inr (.inr (va_up (cpO (pgo ad) pg k) k (some r_18))))))), (s2, .inl (cI, 7, .inl (nA (va_up (cpN (emf mp (ter f fr)) em k) k (mk (fun zz => decide (absD zz k ≤ (ter f fr k))) mp))))), (s3, .inl (cI, 7, .inl (nA (va_up (cpN (fun zz => dar (tkd f fr zz) (tlo f fr zz)) dr k) k (tlo f fr k))))), (r_18, .inr (5, [.int (nI k), .int (nI (tlo f fr k)), .int (nI (ter f fr k))]))] ++ (pcs ad (tkd f fr) (tlo f fr) (ter f fr) k)) := hD
      refine lv_iinc (v := (nI (k + 1))) (lv' := [(4, .int (nI (k + 1))), (6, .ref r_18), (5, .int (nI ((fr + 2) + (k * 4)))), (0, .ref hS1), (1, .ref hH), (2, .int (nI fr)), (3, .int (nI nn))]) hx hb dX4_settle_108 hl (k := 2) rfl (nI_inc k) (by decide) rfl (fun ls hl => ?_)
      refine lv_goto (tgt := 15) hx hb dX4_settle_111 (by decide) ?_
      have q7 : ([(hH, .inr (3, [.ref q1, .int (nI fl), .int (nI ln), .int (nI sz)])), (q1, .inl (cI, 60, .inl f)), (hS1, .inr (4, [.ref s1, .ref s2, .ref s3, .int (nI mp)])), (s1, .inl (cP, 7, .inr (.inr (.inr (.inr (va_up (cpO (pgo ad) pg k) k (some r_18))))))), (s2, .inl (cI, 7, .inl (nA (va_up (cpN (emf mp (ter f fr)) em k) k (mk (fun zz => decide (absD zz k ≤ (ter f fr k))) mp))))), (s3, .inl (cI, 7, .inl (nA (va_up (cpN (fun zz => dar (tkd f fr zz) (tlo f fr zz)) dr k) k (tlo f fr k)))))] ++ (pcs ad (tkd f fr) (tlo f fr) (ter f fr) k ++ [(r_18, .inr (5, [.int (nI k), .int (nI (tlo f fr k)), .int (nI (ter f fr k))]))]) : va_W) = ([(hH, .inr (3, [.ref q1, .int (nI fl), .int (nI ln), .int (nI sz)])), (q1, .inl (cI, 60, .inl f)), (hS1, .inr (4, [.ref s1, .ref s2, .ref s3, .int (nI mp)])), (s1, .inl (cP, 7, .inr (.inr (.inr (.inr (va_up (cpO (pgo ad) pg k) k (some r_18))))))), (s2, .inl (cI, 7, .inl (nA (va_up (cpN (emf mp (ter f fr)) em k) k (mk (fun zz => decide (absD zz k ≤ (ter f fr k))) mp))))), (s3, .inl (cI, 7, .inl (nA (va_up (cpN (fun zz => dar (tkd f fr zz) (tlo f fr zz)) dr k) k (tlo f fr k)))))] ++ (pcs (va_up ad k r_18) (tkd f fr) (tlo f fr) (ter f fr) (k + 1))) := by rw [pcs_s hke rfl rfl]
      have hP : va_P D vwCl ([(hH, .inr (3, [.ref q1, .int (nI fl), .int (nI ln), .int (nI sz)])), (q1, .inl (cI, 60, .inl f)), (hS1, .inr (4, [.ref s1, .ref s2, .ref s3, .int (nI mp)])), (s1, .inl (cP, 7, .inr (.inr (.inr (.inr (va_up (cpO (pgo ad) pg k) k (some r_18))))))), (s2, .inl (cI, 7, .inl (nA (va_up (cpN (emf mp (ter f fr)) em k) k (mk (fun zz => decide (absD zz k ≤ (ter f fr k))) mp))))), (s3, .inl (cI, 7, .inl (nA (va_up (cpN (fun zz => dar (tkd f fr zz) (tlo f fr zz)) dr k) k (tlo f fr k)))))] ++ (pcs (va_up ad k r_18) (tkd f fr) (tlo f fr) (ter f fr) (k + 1))) H := kP_cast (va_P.swap (a := [(hH, .inr (3, [.ref q1, .int (nI fl), .int (nI ln), .int (nI sz)])), (q1, .inl (cI, 60, .inl f)), (hS1, .inr (4, [.ref s1, .ref s2, .ref s3, .int (nI mp)])), (s1, .inl (cP, 7, .inr (.inr (.inr (.inr (va_up (cpO (pgo ad) pg k) k (some r_18))))))), (s2, .inl (cI, 7, .inl (nA (va_up (cpN (emf mp (ter f fr)) em k) k (mk (fun zz => decide (absD zz k ≤ (ter f fr k))) mp))))), (s3, .inl (cI, 7, .inl (nA (va_up (cpN (fun zz => dar (tkd f fr zz) (tlo f fr zz)) dr k) k (tlo f fr k)))))]) (b := [(r_18, .inr (5, [.int (nI k), .int (nI (tlo f fr k)), .int (nI (ter f fr k))]))]) (c := (pcs ad (tkd f fr) (tlo f fr) (ter f fr) k)) hP) q7
      have hD : va_D A ([(hH, .inr (3, [.ref q1, .int (nI fl), .int (nI ln), .int (nI sz)])), (q1, .inl (cI, 60, .inl f)), (hS1, .inr (4, [.ref s1, .ref s2, .ref s3, .int (nI mp)])), (s1, .inl (cP, 7, .inr (.inr (.inr (.inr (va_up (cpO (pgo ad) pg k) k (some r_18))))))), (s2, .inl (cI, 7, .inl (nA (va_up (cpN (emf mp (ter f fr)) em k) k (mk (fun zz => decide (absD zz k ≤ (ter f fr k))) mp))))), (s3, .inl (cI, 7, .inl (nA (va_up (cpN (fun zz => dar (tkd f fr zz) (tlo f fr zz)) dr k) k (tlo f fr k)))))] ++ (pcs (va_up ad k r_18) (tkd f fr) (tlo f fr) (ter f fr) (k + 1))) := kD_cast (va_D.swap (a := [(hH, .inr (3, [.ref q1, .int (nI fl), .int (nI ln), .int (nI sz)])), (q1, .inl (cI, 60, .inl f)), (hS1, .inr (4, [.ref s1, .ref s2, .ref s3, .int (nI mp)])), (s1, .inl (cP, 7, .inr (.inr (.inr (.inr (va_up (cpO (pgo ad) pg k) k (some r_18))))))), (s2, .inl (cI, 7, .inl (nA (va_up (cpN (emf mp (ter f fr)) em k) k (mk (fun zz => decide (absD zz k ≤ (ter f fr k))) mp))))), (s3, .inl (cI, 7, .inl (nA (va_up (cpN (fun zz => dar (tkd f fr zz) (tlo f fr zz)) dr k) k (tlo f fr k)))))]) (b := [(r_18, .inr (5, [.int (nI k), .int (nI (tlo f fr k)), .int (nI (ter f fr k))]))]) (c := (pcs ad (tkd f fr) (tlo f fr) (ter f fr) k)) hD) q7
      have e_26 : (va_up (cpO (pgo ad) pg k) k (some r_18)) = (cpO (pgo (va_up ad k r_18)) pg (k + 1)) := by exact cpO_s ad pg k _
      have e_27 : nA (va_up (cpN (emf mp (ter f fr)) em k) k (mk (fun zz => decide (absD zz k ≤ (ter f fr k))) mp)) = nA (cpN (emf mp (ter f fr)) em (k + 1)) := congrArg nA (show (va_up (cpN (emf mp (ter f fr)) em k) k (mk (fun zz => decide (absD zz k ≤ (ter f fr k))) mp)) = (cpN (emf mp (ter f fr)) em (k + 1)) by exact cpN_s (emf mp (ter f fr)) em k)
      have e_28 : nA (va_up (cpN (fun zz => dar (tkd f fr zz) (tlo f fr zz)) dr k) k (tlo f fr k)) = nA (cpN (fun zz => dar (tkd f fr zz) (tlo f fr zz)) dr (k + 1)) := congrArg nA (show (va_up (cpN (fun zz => dar (tkd f fr zz) (tlo f fr zz)) dr k) k (tlo f fr k)) = (cpN (fun zz => dar (tkd f fr zz) (tlo f fr zz)) dr (k + 1)) by exact dar_s hkd)
      have q_29 : (([(hH, .inr (3, [.ref q1, .int (nI fl), .int (nI ln), .int (nI sz)])), (q1, .inl (cI, 60, .inl f)), (hS1, .inr (4, [.ref s1, .ref s2, .ref s3, .int (nI mp)])), (s1, .inl (cP, 7, .inr (.inr (.inr (.inr (va_up (cpO (pgo ad) pg k) k (some r_18))))))), (s2, .inl (cI, 7, .inl (nA (va_up (cpN (emf mp (ter f fr)) em k) k (mk (fun zz => decide (absD zz k ≤ (ter f fr k))) mp))))), (s3, .inl (cI, 7, .inl (nA (va_up (cpN (fun zz => dar (tkd f fr zz) (tlo f fr zz)) dr k) k (tlo f fr k)))))] ++ (pcs (va_up ad k r_18) (tkd f fr) (tlo f fr) (ter f fr) (k + 1))) : va_W) = ([(hH, .inr (3, [.ref q1, .int (nI fl), .int (nI ln), .int (nI sz)])), (q1, .inl (cI, 60, .inl f)), (hS1, .inr (4, [.ref s1, .ref s2, .ref s3, .int (nI mp)])), (s1, .inl (cP, 7, .inr (.inr (.inr (.inr (cpO (pgo (va_up ad k r_18)) pg (k + 1))))))), (s2, .inl (cI, 7, .inl (nA (cpN (emf mp (ter f fr)) em (k + 1))))), (s3, .inl (cI, 7, .inl (nA (cpN (fun zz => dar (tkd f fr zz) (tlo f fr zz)) dr (k + 1)))))] ++ (pcs (va_up ad k r_18) (tkd f fr) (tlo f fr) (ter f fr) (k + 1))) := by rw [← e_26, ← e_27, ← e_28]
      exact ih15 (k + 1, va_up ad k r_18) _ _ _ (show mp - (k + 1) < mp - k by omega) (show ((k + 1) ≤ mp) from by omega) (kP_cast hP q_29) (kD_cast hD q_29) hS (lv_sub hl [0, 3, 4, 5, 6] rfl)
    · skip
      refine k_eqi (show (f ((fr + 2) + (k * 4))) = nI 99 from h1) ?_
      have hkd : tkd f fr k = 1 := by unfold tkd kdc; rw [h1]; decide
      have hke : kcl (tkd f fr k) = 0 := by rw [hkd]; rfl
      refine lv_iload hx hb dX4_settle_40 (lv_at hl 1 rfl) ?_
      refine lv_aload_n hx hb dX4_settle_42 rfl (lv_at hl 3 rfl) ?_
      refine lv_iload hx hb dX4_settle_43 (lv_at hl 0 rfl) ?_
      refine lv_iconst (v := (nI 1)) hx hb dX4_settle_45 (by decide) ?_
      refine lv_iadd hx hb dX4_settle_46 ?_
      refine k_eqi (show ((nI ((fr + 2) + (k * 4))) + (nI 1)) = (nI (((fr + 2) + (k * 4)) + 1)) from nI_add ((fr + 2) + (k * 4)) 1) ?_
      refine k_goi (S := Unit) (va_runV (As := [.int (nI (((fr + 2) + (k * 4)) + 1))]) (rest := [.int (nI k), .int (nI 99)]) ⟨hx, hb, hml, hown, hts⟩ (c_X3_at l D cI cZ cS cP hH q1 f fl ln sz (((fr + 2) + (k * 4)) + 1) (by first | assumption | omega) (by first | assumption | omega) _) (cwV 1 hts gX4_settle_X3_at rfl rfl rfl (by decide +kernel) ⟨Nat.le_of_ble_eq_true rfl, Nat.le_of_ble_eq_true rfl⟩) (kPreV hN hK hP hD [0, 1] rfl rfl (q0 := 0) (ci := 3) (q := (RX3, TX3, 4)) rfl rfl) rfl rfl hl.1 rfl (lv_room (Nat.le_of_ble_eq_true rfl)) dX4_settle_47 ⟨(show k + 0 ≤ 7 by omega), (show 3 * k + 0 ≤ 21 by omega)⟩) hP hD hS hA [0, 1] rfl [hH, q1] rfl (fun _ => rfl) 6 [2, 3, 4, 5] rfl (fun _u => ([(hH, .inr (3, [.ref q1, .int (nI fl), .int (nI ln), .int (nI sz)])), (q1, .inl (cI, 60, .inl f)), (hS1, .inr (4, [.ref s1, .ref s2, .ref s3, .int (nI mp)])), (s1, .inl (cP, 7, .inr (.inr (.inr (.inr (cpO (pgo ad) pg k)))))), (s2, .inl (cI, 7, .inl (nA (cpN (emf mp (ter f fr)) em k)))), (s3, .inl (cI, 7, .inl (nA (cpN (fun zz => dar (tkd f fr zz) (tlo f fr zz)) dr k))))] ++ (pcs ad (tkd f fr) (tlo f fr) (ter f fr) k))) (fun _ => rfl) [(hS1, .inr (4, [.ref s1, .ref s2, .ref s3, .int (nI mp)])), (s1, .inl (cP, 7, .inr (.inr (.inr (.inr (cpO (pgo ad) pg k)))))), (s2, .inl (cI, 7, .inl (nA (cpN (emf mp (ter f fr)) em k)))), (s3, .inl (cI, 7, .inl (nA (cpN (fun zz => dar (tkd f fr zz) (tlo f fr zz)) dr k))))] (pcs ad (tkd f fr) (tlo f fr) (ter f fr) k) (fun _ => rfl) rfl (fun _ => rfl) rfl (fun r_30 _u H locs hr_31 hP hD hS => ?_)
      have hP : va_P D vwCl ([(hH, .inr (3, [.ref q1, .int (nI fl), .int (nI ln), .int (nI sz)])), (q1, .inl (cI, 60, .inl f)), (hS1, .inr (4, [.ref s1, .ref s2, .ref s3, .int (nI mp)])), (s1, .inl (cP, 7, .inr (.inr (.inr (.inr (cpO (pgo ad) pg k)))))), (s2, .inl (cI, 7, .inl (nA (cpN (emf mp (ter f fr)) em k)))), (s3, .inl (cI, 7, .inl (nA (cpN (fun zz => dar (tkd f fr zz) (tlo f fr zz)) dr k))))] ++ (pcs ad (tkd f fr) (tlo f fr) (ter f fr) k)) H := hP
      have hD : va_D A ([(hH, .inr (3, [.ref q1, .int (nI fl), .int (nI ln), .int (nI sz)])), (q1, .inl (cI, 60, .inl f)), (hS1, .inr (4, [.ref s1, .ref s2, .ref s3, .int (nI mp)])), (s1, .inl (cP, 7, .inr (.inr (.inr (.inr (cpO (pgo ad) pg k)))))), (s2, .inl (cI, 7, .inl (nA (cpN (emf mp (ter f fr)) em k)))), (s3, .inl (cI, 7, .inl (nA (cpN (fun zz => dar (tkd f fr zz) (tlo f fr zz)) dr k))))] ++ (pcs ad (tkd f fr) (tlo f fr) (ter f fr) k)) := hD
      subst hr_31
      refine lv_bipush (v := (nI 48)) hx hb dX4_settle_50 (by decide) ?_
      refine lv_isub hx hb dX4_settle_52 ?_
      refine k_eqi (show ((f (((fr + 2) + (k * 4)) + 1)) - (nI 48)) = (nI (tlo f fr k)) from (hlo k (by omega)).1) ?_
      refine lv_aload_n hx hb dX4_settle_53 rfl (lv_at hl 3 rfl) ?_
      refine lv_iload hx hb dX4_settle_54 (lv_at hl 0 rfl) ?_
      refine lv_iconst (v := (nI 2)) hx hb dX4_settle_56 (by decide) ?_
      refine lv_iadd hx hb dX4_settle_57 ?_
      refine k_eqi (show ((nI ((fr + 2) + (k * 4))) + (nI 2)) = (nI (((fr + 2) + (k * 4)) + 2)) from nI_add ((fr + 2) + (k * 4)) 2) ?_
      refine k_goi (S := Unit) (va_runV (As := [.int (nI (((fr + 2) + (k * 4)) + 2))]) (rest := [.int (nI (tlo f fr k)), .int (nI k), .int (nI 99)]) ⟨hx, hb, hml, hown, hts⟩ (c_X3_at l D cI cZ cS cP hH q1 f fl ln sz (((fr + 2) + (k * 4)) + 2) (by first | assumption | omega) (by first | assumption | omega) _) (cwV 1 hts gX4_settle_X3_at rfl rfl rfl (by decide +kernel) ⟨Nat.le_of_ble_eq_true rfl, Nat.le_of_ble_eq_true rfl⟩) (kPreV hN hK hP hD [0, 1] rfl rfl (q0 := 0) (ci := 3) (q := (RX3, TX3, 4)) rfl rfl) rfl rfl hl.1 rfl (lv_room (Nat.le_of_ble_eq_true rfl)) dX4_settle_58 ⟨(show k + 0 ≤ 7 by omega), (show 3 * k + 0 ≤ 21 by omega)⟩) hP hD hS hA [0, 1] rfl [hH, q1] rfl (fun _ => rfl) 6 [2, 3, 4, 5] rfl (fun _u => ([(hH, .inr (3, [.ref q1, .int (nI fl), .int (nI ln), .int (nI sz)])), (q1, .inl (cI, 60, .inl f)), (hS1, .inr (4, [.ref s1, .ref s2, .ref s3, .int (nI mp)])), (s1, .inl (cP, 7, .inr (.inr (.inr (.inr (cpO (pgo ad) pg k)))))), (s2, .inl (cI, 7, .inl (nA (cpN (emf mp (ter f fr)) em k)))), (s3, .inl (cI, 7, .inl (nA (cpN (fun zz => dar (tkd f fr zz) (tlo f fr zz)) dr k))))] ++ (pcs ad (tkd f fr) (tlo f fr) (ter f fr) k))) (fun _ => rfl) [(hS1, .inr (4, [.ref s1, .ref s2, .ref s3, .int (nI mp)])), (s1, .inl (cP, 7, .inr (.inr (.inr (.inr (cpO (pgo ad) pg k)))))), (s2, .inl (cI, 7, .inl (nA (cpN (emf mp (ter f fr)) em k)))), (s3, .inl (cI, 7, .inl (nA (cpN (fun zz => dar (tkd f fr zz) (tlo f fr zz)) dr k))))] (pcs ad (tkd f fr) (tlo f fr) (ter f fr) k) (fun _ => rfl) rfl (fun _ => rfl) rfl (fun r_32 _u H locs hr_33 hP hD hS => ?_)
      have hP : va_P D vwCl ([(hH, .inr (3, [.ref q1, .int (nI fl), .int (nI ln), .int (nI sz)])), (q1, .inl (cI, 60, .inl f)), (hS1, .inr (4, [.ref s1, .ref s2, .ref s3, .int (nI mp)])), (s1, .inl (cP, 7, .inr (.inr (.inr (.inr (cpO (pgo ad) pg k)))))), (s2, .inl (cI, 7, .inl (nA (cpN (emf mp (ter f fr)) em k)))), (s3, .inl (cI, 7, .inl (nA (cpN (fun zz => dar (tkd f fr zz) (tlo f fr zz)) dr k))))] ++ (pcs ad (tkd f fr) (tlo f fr) (ter f fr) k)) H := hP
      have hD : va_D A ([(hH, .inr (3, [.ref q1, .int (nI fl), .int (nI ln), .int (nI sz)])), (q1, .inl (cI, 60, .inl f)), (hS1, .inr (4, [.ref s1, .ref s2, .ref s3, .int (nI mp)])), (s1, .inl (cP, 7, .inr (.inr (.inr (.inr (cpO (pgo ad) pg k)))))), (s2, .inl (cI, 7, .inl (nA (cpN (emf mp (ter f fr)) em k)))), (s3, .inl (cI, 7, .inl (nA (cpN (fun zz => dar (tkd f fr zz) (tlo f fr zz)) dr k))))] ++ (pcs ad (tkd f fr) (tlo f fr) (ter f fr) k)) := hD
      subst hr_33
      refine lv_bipush (v := (nI 48)) hx hb dX4_settle_61 (by decide) ?_
      refine lv_isub hx hb dX4_settle_63 ?_
      refine k_eqi (show ((f (((fr + 2) + (k * 4)) + 2)) - (nI 48)) = (nI (ter f fr k)) from (her k (by omega)).1) ?_
      refine k_jor0 (S := Unit) (va_runS (As := [.int (nI 99), .int (nI k), .int (nI (tlo f fr k)), .int (nI (ter f fr k))]) (rest := []) ⟨hx, hb, hml, hown, hts⟩ (c_X4_born_X0 l D cI cZ cS cP k (tlo f fr k) (ter f fr k)  _) (va_cwS 4 hts gX4_settle_X4_born rfl rfl rfl (by decide +kernel) ⟨Nat.le_of_ble_eq_true rfl, Nat.le_of_ble_eq_true rfl⟩) (kPreS hN hK hP hD [] rfl rfl) rfl rfl hl.1 rfl (lv_room (Nat.le_of_ble_eq_true rfl)) dX4_settle_64 ⟨(show k + 1 ≤ 7 by omega), (show 3 * k + 3 ≤ 21 by omega)⟩) hP hD hS hA (fun u_36 r_34 H locs hr_35 hP hD hS => ?_)
      have hP : va_P D vwCl ([(hH, .inr (3, [.ref q1, .int (nI fl), .int (nI ln), .int (nI sz)])), (q1, .inl (cI, 60, .inl f)), (hS1, .inr (4, [.ref s1, .ref s2, .ref s3, .int (nI mp)])), (s1, .inl (cP, 7, .inr (.inr (.inr (.inr (cpO (pgo ad) pg k)))))), (s2, .inl (cI, 7, .inl (nA (cpN (emf mp (ter f fr)) em k)))), (s3, .inl (cI, 7, .inl (nA (cpN (fun zz => dar (tkd f fr zz) (tlo f fr zz)) dr k)))), (r_34, .inr (0, [.int (nI k), .int (nI (tlo f fr k)), .int (nI (ter f fr k))]))] ++ (pcs ad (tkd f fr) (tlo f fr) (ter f fr) k)) H := va_P.swap (a := [(hH, .inr (3, [.ref q1, .int (nI fl), .int (nI ln), .int (nI sz)])), (q1, .inl (cI, 60, .inl f)), (hS1, .inr (4, [.ref s1, .ref s2, .ref s3, .int (nI mp)])), (s1, .inl (cP, 7, .inr (.inr (.inr (.inr (cpO (pgo ad) pg k)))))), (s2, .inl (cI, 7, .inl (nA (cpN (emf mp (ter f fr)) em k)))), (s3, .inl (cI, 7, .inl (nA (cpN (fun zz => dar (tkd f fr zz) (tlo f fr zz)) dr k))))]) (b := (pcs ad (tkd f fr) (tlo f fr) (ter f fr) k)) (c := [(r_34, .inr (0, [.int (nI k), .int (nI (tlo f fr k)), .int (nI (ter f fr k))]))]) hP
      have hD : va_D A ([(hH, .inr (3, [.ref q1, .int (nI fl), .int (nI ln), .int (nI sz)])), (q1, .inl (cI, 60, .inl f)), (hS1, .inr (4, [.ref s1, .ref s2, .ref s3, .int (nI mp)])), (s1, .inl (cP, 7, .inr (.inr (.inr (.inr (cpO (pgo ad) pg k)))))), (s2, .inl (cI, 7, .inl (nA (cpN (emf mp (ter f fr)) em k)))), (s3, .inl (cI, 7, .inl (nA (cpN (fun zz => dar (tkd f fr zz) (tlo f fr zz)) dr k)))), (r_34, .inr (0, [.int (nI k), .int (nI (tlo f fr k)), .int (nI (ter f fr k))]))] ++ (pcs ad (tkd f fr) (tlo f fr) (ter f fr) k)) := va_D.swap (a := [(hH, .inr (3, [.ref q1, .int (nI fl), .int (nI ln), .int (nI sz)])), (q1, .inl (cI, 60, .inl f)), (hS1, .inr (4, [.ref s1, .ref s2, .ref s3, .int (nI mp)])), (s1, .inl (cP, 7, .inr (.inr (.inr (.inr (cpO (pgo ad) pg k)))))), (s2, .inl (cI, 7, .inl (nA (cpN (emf mp (ter f fr)) em k)))), (s3, .inl (cI, 7, .inl (nA (cpN (fun zz => dar (tkd f fr zz) (tlo f fr zz)) dr k))))]) (b := (pcs ad (tkd f fr) (tlo f fr) (ter f fr) k)) (c := [(r_34, .inr (0, [.int (nI k), .int (nI (tlo f fr k)), .int (nI (ter f fr k))]))]) hD
      refine lv_astore (lv' := [(6, .ref r_34), (5, .int (nI ((fr + 2) + (k * 4)))), (4, .int (nI k)), (0, .ref hS1), (1, .ref hH), (2, .int (nI fr)), (3, .int (nI nn))]) hx hb dX4_settle_67 hl (by decide) rfl (fun ls hl => ?_)
      refine lv_aload_n hx hb dX4_settle_69 rfl (lv_at hl 3 rfl) ?_
      refine va_get (D := D) (ci := 4) (v := .ref s1) (C := RX4) (T := TX4) (N := 4) hx hb hts in_X4 hown hK hP 2 rfl rfl 0 (by decide) lk5 (fun _ h9 => h9) rfl dX4_settle_70 ?_
      refine lv_iload hx hb dX4_settle_73 (lv_at hl 2 rfl) ?_
      refine lv_aload hx hb dX4_settle_75 (lv_at hl 0 rfl) ?_
      refine k_aastO (r := (RX0, TX0, 3)) hx hb hK hP hD hS 3 3 6 0 rfl rfl (hN.2.2.2.2.2.2.2.2.2.2.2.2.2.2.2.2) rfl rfl (show k < 7 by omega) (by decide) dX4_settle_77 (fun H locs hP hD hS => ?_)
      have hP : va_P D vwCl ([(hH, .inr (3, [.ref q1, .int (nI fl), .int (nI ln), .int (nI sz)])), (q1, .inl (cI, 60, .inl f)), (hS1, .inr (4, [.ref s1, .ref s2, .ref s3, .int (nI mp)])), (s1, .inl (cP, 7, .inr (.inr (.inr (.inr (va_up (cpO (pgo ad) pg k) k (some r_34))))))), (s2, .inl (cI, 7, .inl (nA (cpN (emf mp (ter f fr)) em k)))), (s3, .inl (cI, 7, .inl (nA (cpN (fun zz => dar (tkd f fr zz) (tlo f fr zz)) dr k)))), (r_34, .inr (0, [.int (nI k), .int (nI (tlo f fr k)), .int (nI (ter f fr k))]))] ++ (pcs ad (tkd f fr) (tlo f fr) (ter f fr) k)) H := hP
      have hD : va_D A ([(hH, .inr (3, [.ref q1, .int (nI fl), .int (nI ln), .int (nI sz)])), (q1, .inl (cI, 60, .inl f)), (hS1, .inr (4, [.ref s1, .ref s2, .ref s3, .int (nI mp)])), (s1, .inl (cP, 7, .inr (.inr (.inr (.inr (va_up (cpO (pgo ad) pg k) k (some r_34))))))), (s2, .inl (cI, 7, .inl (nA (cpN (emf mp (ter f fr)) em k)))), (s3, .inl (cI, 7, .inl (nA (cpN (fun zz => dar (tkd f fr zz) (tlo f fr zz)) dr k)))), (r_34, .inr (0, [.int (nI k), .int (nI (tlo f fr k)), .int (nI (ter f fr k))]))] ++ (pcs ad (tkd f fr) (tlo f fr) (ter f fr) k)) := hD
      refine lv_aload_n hx hb dX4_settle_78 rfl (lv_at hl 3 rfl) ?_
      refine va_get (D := D) (ci := 4) (v := .ref s2) (C := RX4) (T := TX4) (N := 4) hx hb hts in_X4 hown hK hP 2 rfl rfl 1 (by decide) lk6 (fun _ h9 => h9) rfl dX4_settle_79 ?_
      refine lv_iload hx hb dX4_settle_82 (lv_at hl 2 rfl) ?_
      refine lv_aload_n hx hb dX4_settle_84 rfl (lv_at hl 3 rfl) ?_
      refine lv_iload hx hb dX4_settle_85 (lv_at hl 2 rfl) ?_
      refine lv_aload hx hb dX4_settle_87 (lv_at hl 0 rfl) ?_
      refine va_get (D := D) (ci := 0) (v := .int (nI (ter f fr k))) (C := RX0) (T := TX0) (N := 3) hx hb hts in_X0 hown hK hP 6 rfl rfl 2 (by decide) lk7 (fun _ h9 => h9) rfl dX4_settle_89 ?_
      refine k_goi (S := Unit) (va_runV (As := [.int (nI k), .int (nI (ter f fr k))]) (rest := [.int (nI k), .ref s2]) ⟨hx, hb, hml, hown, hts⟩ (c_X4_placesWithin l D cI cZ cS cP hS1 s1 s2 s3 (cpN (emf mp (ter f fr)) em k) (cpN (fun zz => dar (tkd f fr zz) (tlo f fr zz)) dr k) mp k (ter f fr k) (by first | assumption | omega) (by first | assumption | omega) ((her k (by omega)).2) _) (cwV 2 hts gX4_settle_X4_placesWithin rfl rfl rfl (by decide +kernel) ⟨Nat.le_of_ble_eq_true rfl, Nat.le_of_ble_eq_true rfl⟩) (kPreV hN hK hP hD [2, 4, 5] rfl rfl (q0 := 0) (ci := 4) (q := (RX4, TX4, 4)) rfl rfl) rfl rfl hl.1 rfl (lv_room (Nat.le_of_ble_eq_true rfl)) dX4_settle_92 ⟨(show k + 1 + 0 ≤ 7 by omega), (show 3 * k + 3 + 0 ≤ 21 by omega)⟩) hP hD hS hA [2, 4, 5] rfl [hS1, s2, s3] rfl (fun _ => rfl) 7 [0, 1, 3, 6] rfl (fun _u => ([(hH, .inr (3, [.ref q1, .int (nI fl), .int (nI ln), .int (nI sz)])), (q1, .inl (cI, 60, .inl f)), (hS1, .inr (4, [.ref s1, .ref s2, .ref s3, .int (nI mp)])), (s1, .inl (cP, 7, .inr (.inr (.inr (.inr (va_up (cpO (pgo ad) pg k) k (some r_34))))))), (s2, .inl (cI, 7, .inl (nA (cpN (emf mp (ter f fr)) em k)))), (s3, .inl (cI, 7, .inl (nA (cpN (fun zz => dar (tkd f fr zz) (tlo f fr zz)) dr k)))), (r_34, .inr (0, [.int (nI k), .int (nI (tlo f fr k)), .int (nI (ter f fr k))]))] ++ (pcs ad (tkd f fr) (tlo f fr) (ter f fr) k))) (fun _ => rfl) [(hH, .inr (3, [.ref q1, .int (nI fl), .int (nI ln), .int (nI sz)])), (q1, .inl (cI, 60, .inl f)), (s1, .inl (cP, 7, .inr (.inr (.inr (.inr (va_up (cpO (pgo ad) pg k) k (some r_34))))))), (r_34, .inr (0, [.int (nI k), .int (nI (tlo f fr k)), .int (nI (ter f fr k))]))] (pcs ad (tkd f fr) (tlo f fr) (ter f fr) k) (fun _ => rfl) rfl (fun _ => rfl) rfl (fun r_37 _u H locs hr_38 hP hD hS => ?_)
      have hP : va_P D vwCl ([(hH, .inr (3, [.ref q1, .int (nI fl), .int (nI ln), .int (nI sz)])), (q1, .inl (cI, 60, .inl f)), (hS1, .inr (4, [.ref s1, .ref s2, .ref s3, .int (nI mp)])), (s1, .inl (cP, 7, .inr (.inr (.inr (.inr (va_up (cpO (pgo ad) pg k) k (some r_34))))))), (s2, .inl (cI, 7, .inl (nA (cpN (emf mp (ter f fr)) em k)))), (s3, .inl (cI, 7, .inl (nA (cpN (fun zz => dar (tkd f fr zz) (tlo f fr zz)) dr k)))), (r_34, .inr (0, [.int (nI k), .int (nI (tlo f fr k)), .int (nI (ter f fr k))]))] ++ (pcs ad (tkd f fr) (tlo f fr) (ter f fr) k)) H := hP
      have hD : va_D A ([(hH, .inr (3, [.ref q1, .int (nI fl), .int (nI ln), .int (nI sz)])), (q1, .inl (cI, 60, .inl f)), (hS1, .inr (4, [.ref s1, .ref s2, .ref s3, .int (nI mp)])), (s1, .inl (cP, 7, .inr (.inr (.inr (.inr (va_up (cpO (pgo ad) pg k) k (some r_34))))))), (s2, .inl (cI, 7, .inl (nA (cpN (emf mp (ter f fr)) em k)))), (s3, .inl (cI, 7, .inl (nA (cpN (fun zz => dar (tkd f fr zz) (tlo f fr zz)) dr k)))), (r_34, .inr (0, [.int (nI k), .int (nI (tlo f fr k)), .int (nI (ter f fr k))]))] ++ (pcs ad (tkd f fr) (tlo f fr) (ter f fr) k)) := hD
      subst hr_38
      have b_39 : mk (fun zz => decide (absD zz k ≤ (ter f fr k))) mp < 128 := mk_lt7 _ (by first | assumption | omega)
      refine k_iastN (y := (mk (fun zz => decide (absD zz k ≤ (ter f fr k))) mp)) hx hb hK hP hD hS 4 0 rfl rfl (show k < 7 by omega) (by decide) dX4_settle_95 (fun H locs hP hD hS => ?_)
      have hP : va_P D vwCl ([(hH, .inr (3, [.ref q1, .int (nI fl), .int (nI ln), .int (nI sz)])), (q1, .inl (cI, 60, .inl f)), (hS1, .inr (4, [.ref s1, .ref s2, .ref s3, .int (nI mp)])), (s1, .inl (cP, 7, .inr (.inr (.inr (.inr (va_up (cpO (pgo ad) pg k) k (some r_34))))))), (s2, .inl (cI, 7, .inl (nA (va_up (cpN (emf mp (ter f fr)) em k) k (mk (fun zz => decide (absD zz k ≤ (ter f fr k))) mp))))), (s3, .inl (cI, 7, .inl (nA (cpN (fun zz => dar (tkd f fr zz) (tlo f fr zz)) dr k)))), (r_34, .inr (0, [.int (nI k), .int (nI (tlo f fr k)), .int (nI (ter f fr k))]))] ++ (pcs ad (tkd f fr) (tlo f fr) (ter f fr) k)) H := hP
      have hD : va_D A ([(hH, .inr (3, [.ref q1, .int (nI fl), .int (nI ln), .int (nI sz)])), (q1, .inl (cI, 60, .inl f)), (hS1, .inr (4, [.ref s1, .ref s2, .ref s3, .int (nI mp)])), (s1, .inl (cP, 7, .inr (.inr (.inr (.inr (va_up (cpO (pgo ad) pg k) k (some r_34))))))), (s2, .inl (cI, 7, .inl (nA (va_up (cpN (emf mp (ter f fr)) em k) k (mk (fun zz => decide (absD zz k ≤ (ter f fr k))) mp))))), (s3, .inl (cI, 7, .inl (nA (cpN (fun zz => dar (tkd f fr zz) (tlo f fr zz)) dr k)))), (r_34, .inr (0, [.int (nI k), .int (nI (tlo f fr k)), .int (nI (ter f fr k))]))] ++ (pcs ad (tkd f fr) (tlo f fr) (ter f fr) k)) := hD
      refine lv_aload_n hx hb dX4_settle_96 rfl (lv_at hl 3 rfl) ?_
      refine va_get (D := D) (ci := 4) (v := .ref s3) (C := RX4) (T := TX4) (N := 4) hx hb hts in_X4 hown hK hP 2 rfl rfl 2 (by decide) lk8 (fun _ h9 => h9) rfl dX4_settle_97 ?_
      refine lv_iload hx hb dX4_settle_100 (lv_at hl 2 rfl) ?_
      refine lv_aload hx hb dX4_settle_102 (lv_at hl 0 rfl) ?_
      refine k_goi (S := Unit) (va_runU (As := []) (rest := [.int (nI k), .ref s3]) ⟨hx, hb, hml, hown, hts⟩ (c_X0_dares_X0 l D cI cZ cS cP r_34 k (tlo f fr k) (ter f fr k)  _) (va_cwO 0 hts gX4_settle_X0_dares_u54X0 rfl rfl rfl (b0 := cX5_dares) (m0 := 1) (r0 := (some .int)) (show Cond.code yX5_dares cX5_dares 1 (some .int) ∈ wsX4_settle by decide +kernel) (by decide +kernel) ⟨Nat.le_of_ble_eq_true rfl, Nat.le_of_ble_eq_true rfl⟩) (kPreV hN hK hP hD [6] rfl rfl (q0 := 0) (ci := 0) (q := (RX0, TX0, 3)) rfl rfl) rfl rfl hl.1 rfl (lv_room (Nat.le_of_ble_eq_true rfl)) dX4_settle_104 ⟨(show k + 1 + 0 ≤ 7 by omega), (show 3 * k + 3 + 0 ≤ 21 by omega)⟩) hP hD hS hA [6] rfl [r_34] rfl (fun _ => rfl) 7 [0, 1, 2, 3, 4, 5] rfl (fun _u => ([(hH, .inr (3, [.ref q1, .int (nI fl), .int (nI ln), .int (nI sz)])), (q1, .inl (cI, 60, .inl f)), (hS1, .inr (4, [.ref s1, .ref s2, .ref s3, .int (nI mp)])), (s1, .inl (cP, 7, .inr (.inr (.inr (.inr (va_up (cpO (pgo ad) pg k) k (some r_34))))))), (s2, .inl (cI, 7, .inl (nA (va_up (cpN (emf mp (ter f fr)) em k) k (mk (fun zz => decide (absD zz k ≤ (ter f fr k))) mp))))), (s3, .inl (cI, 7, .inl (nA (cpN (fun zz => dar (tkd f fr zz) (tlo f fr zz)) dr k)))), (r_34, .inr (0, [.int (nI k), .int (nI (tlo f fr k)), .int (nI (ter f fr k))]))] ++ (pcs ad (tkd f fr) (tlo f fr) (ter f fr) k))) (fun _ => rfl) [(hH, .inr (3, [.ref q1, .int (nI fl), .int (nI ln), .int (nI sz)])), (q1, .inl (cI, 60, .inl f)), (hS1, .inr (4, [.ref s1, .ref s2, .ref s3, .int (nI mp)])), (s1, .inl (cP, 7, .inr (.inr (.inr (.inr (va_up (cpO (pgo ad) pg k) k (some r_34))))))), (s2, .inl (cI, 7, .inl (nA (va_up (cpN (emf mp (ter f fr)) em k) k (mk (fun zz => decide (absD zz k ≤ (ter f fr k))) mp))))), (s3, .inl (cI, 7, .inl (nA (cpN (fun zz => dar (tkd f fr zz) (tlo f fr zz)) dr k))))] (pcs ad (tkd f fr) (tlo f fr) (ter f fr) k) (fun _ => rfl) rfl (fun _ => rfl) rfl (fun r_40 _u H locs hr_41 hP hD hS => ?_)
      have hP : va_P D vwCl ([(hH, .inr (3, [.ref q1, .int (nI fl), .int (nI ln), .int (nI sz)])), (q1, .inl (cI, 60, .inl f)), (hS1, .inr (4, [.ref s1, .ref s2, .ref s3, .int (nI mp)])), (s1, .inl (cP, 7, .inr (.inr (.inr (.inr (va_up (cpO (pgo ad) pg k) k (some r_34))))))), (s2, .inl (cI, 7, .inl (nA (va_up (cpN (emf mp (ter f fr)) em k) k (mk (fun zz => decide (absD zz k ≤ (ter f fr k))) mp))))), (s3, .inl (cI, 7, .inl (nA (cpN (fun zz => dar (tkd f fr zz) (tlo f fr zz)) dr k)))), (r_34, .inr (0, [.int (nI k), .int (nI (tlo f fr k)), .int (nI (ter f fr k))]))] ++ (pcs ad (tkd f fr) (tlo f fr) (ter f fr) k)) H := hP
      have hD : va_D A ([(hH, .inr (3, [.ref q1, .int (nI fl), .int (nI ln), .int (nI sz)])), (q1, .inl (cI, 60, .inl f)), (hS1, .inr (4, [.ref s1, .ref s2, .ref s3, .int (nI mp)])), (s1, .inl (cP, 7, .inr (.inr (.inr (.inr (va_up (cpO (pgo ad) pg k) k (some r_34))))))), (s2, .inl (cI, 7, .inl (nA (va_up (cpN (emf mp (ter f fr)) em k) k (mk (fun zz => decide (absD zz k ≤ (ter f fr k))) mp))))), (s3, .inl (cI, 7, .inl (nA (cpN (fun zz => dar (tkd f fr zz) (tlo f fr zz)) dr k)))), (r_34, .inr (0, [.int (nI k), .int (nI (tlo f fr k)), .int (nI (ter f fr k))]))] ++ (pcs ad (tkd f fr) (tlo f fr) (ter f fr) k)) := hD
      subst hr_41
      refine k_iastN (y := ((tlo f fr k) + 1)) hx hb hK hP hD hS 5 0 rfl rfl (show k < 7 by omega) (by decide) dX4_settle_107 (fun H locs hP hD hS => ?_)
      have hP : va_P D vwCl ([(hH, .inr (3, [.ref q1, .int (nI fl), .int (nI ln), .int (nI sz)])), (q1, .inl (cI, 60, .inl f)), (hS1, .inr (4, [.ref s1, .ref s2, .ref s3, .int (nI mp)])), (s1, .inl (cP, 7, .inr (.inr (.inr (.inr (va_up (cpO (pgo ad) pg k) k (some r_34))))))), (s2, .inl (cI, 7, .inl (nA (va_up (cpN (emf mp (ter f fr)) em k) k (mk (fun zz => decide (absD zz k ≤ (ter f fr k))) mp))))), (s3, .inl (cI, 7, .inl (nA (va_up (cpN (fun zz => dar (tkd f fr zz) (tlo f fr zz)) dr k) k ((tlo f fr k) + 1))))), (r_34, .inr (0, [.int (nI k), .int (nI (tlo f fr k)), .int (nI (ter f fr k))]))] ++ (pcs ad (tkd f fr) (tlo f fr) (ter f fr) k)) H := hP
      have hD : va_D A ([(hH, .inr (3, [.ref q1, .int (nI fl), .int (nI ln), .int (nI sz)])), (q1, .inl (cI, 60, .inl f)), (hS1, .inr (4, [.ref s1, .ref s2, .ref s3, .int (nI mp)])), (s1, .inl (cP, 7, .inr (.inr (.inr (.inr (va_up (cpO (pgo ad) pg k) k (some r_34))))))), (s2, .inl (cI, 7, .inl (nA (va_up (cpN (emf mp (ter f fr)) em k) k (mk (fun zz => decide (absD zz k ≤ (ter f fr k))) mp))))), (s3, .inl (cI, 7, .inl (nA (va_up (cpN (fun zz => dar (tkd f fr zz) (tlo f fr zz)) dr k) k ((tlo f fr k) + 1))))), (r_34, .inr (0, [.int (nI k), .int (nI (tlo f fr k)), .int (nI (ter f fr k))]))] ++ (pcs ad (tkd f fr) (tlo f fr) (ter f fr) k)) := hD
      refine lv_iinc (v := (nI (k + 1))) (lv' := [(4, .int (nI (k + 1))), (6, .ref r_34), (5, .int (nI ((fr + 2) + (k * 4)))), (0, .ref hS1), (1, .ref hH), (2, .int (nI fr)), (3, .int (nI nn))]) hx hb dX4_settle_108 hl (k := 2) rfl (nI_inc k) (by decide) rfl (fun ls hl => ?_)
      refine lv_goto (tgt := 15) hx hb dX4_settle_111 (by decide) ?_
      have q7 : ([(hH, .inr (3, [.ref q1, .int (nI fl), .int (nI ln), .int (nI sz)])), (q1, .inl (cI, 60, .inl f)), (hS1, .inr (4, [.ref s1, .ref s2, .ref s3, .int (nI mp)])), (s1, .inl (cP, 7, .inr (.inr (.inr (.inr (va_up (cpO (pgo ad) pg k) k (some r_34))))))), (s2, .inl (cI, 7, .inl (nA (va_up (cpN (emf mp (ter f fr)) em k) k (mk (fun zz => decide (absD zz k ≤ (ter f fr k))) mp))))), (s3, .inl (cI, 7, .inl (nA (va_up (cpN (fun zz => dar (tkd f fr zz) (tlo f fr zz)) dr k) k ((tlo f fr k) + 1)))))] ++ (pcs ad (tkd f fr) (tlo f fr) (ter f fr) k ++ [(r_34, .inr (0, [.int (nI k), .int (nI (tlo f fr k)), .int (nI (ter f fr k))]))]) : va_W) = ([(hH, .inr (3, [.ref q1, .int (nI fl), .int (nI ln), .int (nI sz)])), (q1, .inl (cI, 60, .inl f)), (hS1, .inr (4, [.ref s1, .ref s2, .ref s3, .int (nI mp)])), (s1, .inl (cP, 7, .inr (.inr (.inr (.inr (va_up (cpO (pgo ad) pg k) k (some r_34))))))), (s2, .inl (cI, 7, .inl (nA (va_up (cpN (emf mp (ter f fr)) em k) k (mk (fun zz => decide (absD zz k ≤ (ter f fr k))) mp))))), (s3, .inl (cI, 7, .inl (nA (va_up (cpN (fun zz => dar (tkd f fr zz) (tlo f fr zz)) dr k) k ((tlo f fr k) + 1)))))] ++ (pcs (va_up ad k r_34) (tkd f fr) (tlo f fr) (ter f fr) (k + 1))) := by rw [pcs_s hke rfl rfl]
      have hP : va_P D vwCl ([(hH, .inr (3, [.ref q1, .int (nI fl), .int (nI ln), .int (nI sz)])), (q1, .inl (cI, 60, .inl f)), (hS1, .inr (4, [.ref s1, .ref s2, .ref s3, .int (nI mp)])), (s1, .inl (cP, 7, .inr (.inr (.inr (.inr (va_up (cpO (pgo ad) pg k) k (some r_34))))))), (s2, .inl (cI, 7, .inl (nA (va_up (cpN (emf mp (ter f fr)) em k) k (mk (fun zz => decide (absD zz k ≤ (ter f fr k))) mp))))), (s3, .inl (cI, 7, .inl (nA (va_up (cpN (fun zz => dar (tkd f fr zz) (tlo f fr zz)) dr k) k ((tlo f fr k) + 1)))))] ++ (pcs (va_up ad k r_34) (tkd f fr) (tlo f fr) (ter f fr) (k + 1))) H := kP_cast (va_P.swap (a := [(hH, .inr (3, [.ref q1, .int (nI fl), .int (nI ln), .int (nI sz)])), (q1, .inl (cI, 60, .inl f)), (hS1, .inr (4, [.ref s1, .ref s2, .ref s3, .int (nI mp)])), (s1, .inl (cP, 7, .inr (.inr (.inr (.inr (va_up (cpO (pgo ad) pg k) k (some r_34))))))), (s2, .inl (cI, 7, .inl (nA (va_up (cpN (emf mp (ter f fr)) em k) k (mk (fun zz => decide (absD zz k ≤ (ter f fr k))) mp))))), (s3, .inl (cI, 7, .inl (nA (va_up (cpN (fun zz => dar (tkd f fr zz) (tlo f fr zz)) dr k) k ((tlo f fr k) + 1)))))]) (b := [(r_34, .inr (0, [.int (nI k), .int (nI (tlo f fr k)), .int (nI (ter f fr k))]))]) (c := (pcs ad (tkd f fr) (tlo f fr) (ter f fr) k)) hP) q7
      have hD : va_D A ([(hH, .inr (3, [.ref q1, .int (nI fl), .int (nI ln), .int (nI sz)])), (q1, .inl (cI, 60, .inl f)), (hS1, .inr (4, [.ref s1, .ref s2, .ref s3, .int (nI mp)])), (s1, .inl (cP, 7, .inr (.inr (.inr (.inr (va_up (cpO (pgo ad) pg k) k (some r_34))))))), (s2, .inl (cI, 7, .inl (nA (va_up (cpN (emf mp (ter f fr)) em k) k (mk (fun zz => decide (absD zz k ≤ (ter f fr k))) mp))))), (s3, .inl (cI, 7, .inl (nA (va_up (cpN (fun zz => dar (tkd f fr zz) (tlo f fr zz)) dr k) k ((tlo f fr k) + 1)))))] ++ (pcs (va_up ad k r_34) (tkd f fr) (tlo f fr) (ter f fr) (k + 1))) := kD_cast (va_D.swap (a := [(hH, .inr (3, [.ref q1, .int (nI fl), .int (nI ln), .int (nI sz)])), (q1, .inl (cI, 60, .inl f)), (hS1, .inr (4, [.ref s1, .ref s2, .ref s3, .int (nI mp)])), (s1, .inl (cP, 7, .inr (.inr (.inr (.inr (va_up (cpO (pgo ad) pg k) k (some r_34))))))), (s2, .inl (cI, 7, .inl (nA (va_up (cpN (emf mp (ter f fr)) em k) k (mk (fun zz => decide (absD zz k ≤ (ter f fr k))) mp))))), (s3, .inl (cI, 7, .inl (nA (va_up (cpN (fun zz => dar (tkd f fr zz) (tlo f fr zz)) dr k) k ((tlo f fr k) + 1)))))]) (b := [(r_34, .inr (0, [.int (nI k), .int (nI (tlo f fr k)), .int (nI (ter f fr k))]))]) (c := (pcs ad (tkd f fr) (tlo f fr) (ter f fr) k)) hD) q7
      have e_42 : (va_up (cpO (pgo ad) pg k) k (some r_34)) = (cpO (pgo (va_up ad k r_34)) pg (k + 1)) := by exact cpO_s ad pg k _
      have e_43 : nA (va_up (cpN (emf mp (ter f fr)) em k) k (mk (fun zz => decide (absD zz k ≤ (ter f fr k))) mp)) = nA (cpN (emf mp (ter f fr)) em (k + 1)) := congrArg nA (show (va_up (cpN (emf mp (ter f fr)) em k) k (mk (fun zz => decide (absD zz k ≤ (ter f fr k))) mp)) = (cpN (emf mp (ter f fr)) em (k + 1)) by exact cpN_s (emf mp (ter f fr)) em k)
      have e_44 : nA (va_up (cpN (fun zz => dar (tkd f fr zz) (tlo f fr zz)) dr k) k ((tlo f fr k) + 1)) = nA (cpN (fun zz => dar (tkd f fr zz) (tlo f fr zz)) dr (k + 1)) := congrArg nA (show (va_up (cpN (fun zz => dar (tkd f fr zz) (tlo f fr zz)) dr k) k ((tlo f fr k) + 1)) = (cpN (fun zz => dar (tkd f fr zz) (tlo f fr zz)) dr (k + 1)) by exact dar_s hkd)
      have q_45 : (([(hH, .inr (3, [.ref q1, .int (nI fl), .int (nI ln), .int (nI sz)])), (q1, .inl (cI, 60, .inl f)), (hS1, .inr (4, [.ref s1, .ref s2, .ref s3, .int (nI mp)])), (s1, .inl (cP, 7, .inr (.inr (.inr (.inr (va_up (cpO (pgo ad) pg k) k (some r_34))))))), (s2, .inl (cI, 7, .inl (nA (va_up (cpN (emf mp (ter f fr)) em k) k (mk (fun zz => decide (absD zz k ≤ (ter f fr k))) mp))))), (s3, .inl (cI, 7, .inl (nA (va_up (cpN (fun zz => dar (tkd f fr zz) (tlo f fr zz)) dr k) k ((tlo f fr k) + 1)))))] ++ (pcs (va_up ad k r_34) (tkd f fr) (tlo f fr) (ter f fr) (k + 1))) : va_W) = ([(hH, .inr (3, [.ref q1, .int (nI fl), .int (nI ln), .int (nI sz)])), (q1, .inl (cI, 60, .inl f)), (hS1, .inr (4, [.ref s1, .ref s2, .ref s3, .int (nI mp)])), (s1, .inl (cP, 7, .inr (.inr (.inr (.inr (cpO (pgo (va_up ad k r_34)) pg (k + 1))))))), (s2, .inl (cI, 7, .inl (nA (cpN (emf mp (ter f fr)) em (k + 1))))), (s3, .inl (cI, 7, .inl (nA (cpN (fun zz => dar (tkd f fr zz) (tlo f fr zz)) dr (k + 1)))))] ++ (pcs (va_up ad k r_34) (tkd f fr) (tlo f fr) (ter f fr) (k + 1))) := by rw [← e_42, ← e_43, ← e_44]
      exact ih15 (k + 1, va_up ad k r_34) _ _ _ (show mp - (k + 1) < mp - k by omega) (show ((k + 1) ≤ mp) from by omega) (kP_cast hP q_45) (kD_cast hD q_45) hS (lv_sub hl [0, 3, 4, 5, 6] rfl)
    · skip
      refine k_eqi (show (f ((fr + 2) + (k * 4))) = nI 116 from h1) ?_
      have hkd : tkd f fr k = 2 := by unfold tkd kdc; rw [h1]; decide
      have hke : kcl (tkd f fr k) = 6 := by rw [hkd]; rfl
      refine lv_iload hx hb dX4_settle_40 (lv_at hl 1 rfl) ?_
      refine lv_aload_n hx hb dX4_settle_42 rfl (lv_at hl 3 rfl) ?_
      refine lv_iload hx hb dX4_settle_43 (lv_at hl 0 rfl) ?_
      refine lv_iconst (v := (nI 1)) hx hb dX4_settle_45 (by decide) ?_
      refine lv_iadd hx hb dX4_settle_46 ?_
      refine k_eqi (show ((nI ((fr + 2) + (k * 4))) + (nI 1)) = (nI (((fr + 2) + (k * 4)) + 1)) from nI_add ((fr + 2) + (k * 4)) 1) ?_
      refine k_goi (S := Unit) (va_runV (As := [.int (nI (((fr + 2) + (k * 4)) + 1))]) (rest := [.int (nI k), .int (nI 116)]) ⟨hx, hb, hml, hown, hts⟩ (c_X3_at l D cI cZ cS cP hH q1 f fl ln sz (((fr + 2) + (k * 4)) + 1) (by first | assumption | omega) (by first | assumption | omega) _) (cwV 1 hts gX4_settle_X3_at rfl rfl rfl (by decide +kernel) ⟨Nat.le_of_ble_eq_true rfl, Nat.le_of_ble_eq_true rfl⟩) (kPreV hN hK hP hD [0, 1] rfl rfl (q0 := 0) (ci := 3) (q := (RX3, TX3, 4)) rfl rfl) rfl rfl hl.1 rfl (lv_room (Nat.le_of_ble_eq_true rfl)) dX4_settle_47 ⟨(show k + 0 ≤ 7 by omega), (show 3 * k + 0 ≤ 21 by omega)⟩) hP hD hS hA [0, 1] rfl [hH, q1] rfl (fun _ => rfl) 6 [2, 3, 4, 5] rfl (fun _u => ([(hH, .inr (3, [.ref q1, .int (nI fl), .int (nI ln), .int (nI sz)])), (q1, .inl (cI, 60, .inl f)), (hS1, .inr (4, [.ref s1, .ref s2, .ref s3, .int (nI mp)])), (s1, .inl (cP, 7, .inr (.inr (.inr (.inr (cpO (pgo ad) pg k)))))), (s2, .inl (cI, 7, .inl (nA (cpN (emf mp (ter f fr)) em k)))), (s3, .inl (cI, 7, .inl (nA (cpN (fun zz => dar (tkd f fr zz) (tlo f fr zz)) dr k))))] ++ (pcs ad (tkd f fr) (tlo f fr) (ter f fr) k))) (fun _ => rfl) [(hS1, .inr (4, [.ref s1, .ref s2, .ref s3, .int (nI mp)])), (s1, .inl (cP, 7, .inr (.inr (.inr (.inr (cpO (pgo ad) pg k)))))), (s2, .inl (cI, 7, .inl (nA (cpN (emf mp (ter f fr)) em k)))), (s3, .inl (cI, 7, .inl (nA (cpN (fun zz => dar (tkd f fr zz) (tlo f fr zz)) dr k))))] (pcs ad (tkd f fr) (tlo f fr) (ter f fr) k) (fun _ => rfl) rfl (fun _ => rfl) rfl (fun r_46 _u H locs hr_47 hP hD hS => ?_)
      have hP : va_P D vwCl ([(hH, .inr (3, [.ref q1, .int (nI fl), .int (nI ln), .int (nI sz)])), (q1, .inl (cI, 60, .inl f)), (hS1, .inr (4, [.ref s1, .ref s2, .ref s3, .int (nI mp)])), (s1, .inl (cP, 7, .inr (.inr (.inr (.inr (cpO (pgo ad) pg k)))))), (s2, .inl (cI, 7, .inl (nA (cpN (emf mp (ter f fr)) em k)))), (s3, .inl (cI, 7, .inl (nA (cpN (fun zz => dar (tkd f fr zz) (tlo f fr zz)) dr k))))] ++ (pcs ad (tkd f fr) (tlo f fr) (ter f fr) k)) H := hP
      have hD : va_D A ([(hH, .inr (3, [.ref q1, .int (nI fl), .int (nI ln), .int (nI sz)])), (q1, .inl (cI, 60, .inl f)), (hS1, .inr (4, [.ref s1, .ref s2, .ref s3, .int (nI mp)])), (s1, .inl (cP, 7, .inr (.inr (.inr (.inr (cpO (pgo ad) pg k)))))), (s2, .inl (cI, 7, .inl (nA (cpN (emf mp (ter f fr)) em k)))), (s3, .inl (cI, 7, .inl (nA (cpN (fun zz => dar (tkd f fr zz) (tlo f fr zz)) dr k))))] ++ (pcs ad (tkd f fr) (tlo f fr) (ter f fr) k)) := hD
      subst hr_47
      refine lv_bipush (v := (nI 48)) hx hb dX4_settle_50 (by decide) ?_
      refine lv_isub hx hb dX4_settle_52 ?_
      refine k_eqi (show ((f (((fr + 2) + (k * 4)) + 1)) - (nI 48)) = (nI (tlo f fr k)) from (hlo k (by omega)).1) ?_
      refine lv_aload_n hx hb dX4_settle_53 rfl (lv_at hl 3 rfl) ?_
      refine lv_iload hx hb dX4_settle_54 (lv_at hl 0 rfl) ?_
      refine lv_iconst (v := (nI 2)) hx hb dX4_settle_56 (by decide) ?_
      refine lv_iadd hx hb dX4_settle_57 ?_
      refine k_eqi (show ((nI ((fr + 2) + (k * 4))) + (nI 2)) = (nI (((fr + 2) + (k * 4)) + 2)) from nI_add ((fr + 2) + (k * 4)) 2) ?_
      refine k_goi (S := Unit) (va_runV (As := [.int (nI (((fr + 2) + (k * 4)) + 2))]) (rest := [.int (nI (tlo f fr k)), .int (nI k), .int (nI 116)]) ⟨hx, hb, hml, hown, hts⟩ (c_X3_at l D cI cZ cS cP hH q1 f fl ln sz (((fr + 2) + (k * 4)) + 2) (by first | assumption | omega) (by first | assumption | omega) _) (cwV 1 hts gX4_settle_X3_at rfl rfl rfl (by decide +kernel) ⟨Nat.le_of_ble_eq_true rfl, Nat.le_of_ble_eq_true rfl⟩) (kPreV hN hK hP hD [0, 1] rfl rfl (q0 := 0) (ci := 3) (q := (RX3, TX3, 4)) rfl rfl) rfl rfl hl.1 rfl (lv_room (Nat.le_of_ble_eq_true rfl)) dX4_settle_58 ⟨(show k + 0 ≤ 7 by omega), (show 3 * k + 0 ≤ 21 by omega)⟩) hP hD hS hA [0, 1] rfl [hH, q1] rfl (fun _ => rfl) 6 [2, 3, 4, 5] rfl (fun _u => ([(hH, .inr (3, [.ref q1, .int (nI fl), .int (nI ln), .int (nI sz)])), (q1, .inl (cI, 60, .inl f)), (hS1, .inr (4, [.ref s1, .ref s2, .ref s3, .int (nI mp)])), (s1, .inl (cP, 7, .inr (.inr (.inr (.inr (cpO (pgo ad) pg k)))))), (s2, .inl (cI, 7, .inl (nA (cpN (emf mp (ter f fr)) em k)))), (s3, .inl (cI, 7, .inl (nA (cpN (fun zz => dar (tkd f fr zz) (tlo f fr zz)) dr k))))] ++ (pcs ad (tkd f fr) (tlo f fr) (ter f fr) k))) (fun _ => rfl) [(hS1, .inr (4, [.ref s1, .ref s2, .ref s3, .int (nI mp)])), (s1, .inl (cP, 7, .inr (.inr (.inr (.inr (cpO (pgo ad) pg k)))))), (s2, .inl (cI, 7, .inl (nA (cpN (emf mp (ter f fr)) em k)))), (s3, .inl (cI, 7, .inl (nA (cpN (fun zz => dar (tkd f fr zz) (tlo f fr zz)) dr k))))] (pcs ad (tkd f fr) (tlo f fr) (ter f fr) k) (fun _ => rfl) rfl (fun _ => rfl) rfl (fun r_48 _u H locs hr_49 hP hD hS => ?_)
      have hP : va_P D vwCl ([(hH, .inr (3, [.ref q1, .int (nI fl), .int (nI ln), .int (nI sz)])), (q1, .inl (cI, 60, .inl f)), (hS1, .inr (4, [.ref s1, .ref s2, .ref s3, .int (nI mp)])), (s1, .inl (cP, 7, .inr (.inr (.inr (.inr (cpO (pgo ad) pg k)))))), (s2, .inl (cI, 7, .inl (nA (cpN (emf mp (ter f fr)) em k)))), (s3, .inl (cI, 7, .inl (nA (cpN (fun zz => dar (tkd f fr zz) (tlo f fr zz)) dr k))))] ++ (pcs ad (tkd f fr) (tlo f fr) (ter f fr) k)) H := hP
      have hD : va_D A ([(hH, .inr (3, [.ref q1, .int (nI fl), .int (nI ln), .int (nI sz)])), (q1, .inl (cI, 60, .inl f)), (hS1, .inr (4, [.ref s1, .ref s2, .ref s3, .int (nI mp)])), (s1, .inl (cP, 7, .inr (.inr (.inr (.inr (cpO (pgo ad) pg k)))))), (s2, .inl (cI, 7, .inl (nA (cpN (emf mp (ter f fr)) em k)))), (s3, .inl (cI, 7, .inl (nA (cpN (fun zz => dar (tkd f fr zz) (tlo f fr zz)) dr k))))] ++ (pcs ad (tkd f fr) (tlo f fr) (ter f fr) k)) := hD
      subst hr_49
      refine lv_bipush (v := (nI 48)) hx hb dX4_settle_61 (by decide) ?_
      refine lv_isub hx hb dX4_settle_63 ?_
      refine k_eqi (show ((f (((fr + 2) + (k * 4)) + 2)) - (nI 48)) = (nI (ter f fr k)) from (her k (by omega)).1) ?_
      refine k_jor0 (S := Unit) (va_runS (As := [.int (nI 116), .int (nI k), .int (nI (tlo f fr k)), .int (nI (ter f fr k))]) (rest := []) ⟨hx, hb, hml, hown, hts⟩ (c_X4_born_X6 l D cI cZ cS cP k (tlo f fr k) (ter f fr k)  _) (va_cwS 4 hts gX4_settle_X4_born rfl rfl rfl (by decide +kernel) ⟨Nat.le_of_ble_eq_true rfl, Nat.le_of_ble_eq_true rfl⟩) (kPreS hN hK hP hD [] rfl rfl) rfl rfl hl.1 rfl (lv_room (Nat.le_of_ble_eq_true rfl)) dX4_settle_64 ⟨(show k + 1 ≤ 7 by omega), (show 3 * k + 3 ≤ 21 by omega)⟩) hP hD hS hA (fun u_52 r_50 H locs hr_51 hP hD hS => ?_)
      have hP : va_P D vwCl ([(hH, .inr (3, [.ref q1, .int (nI fl), .int (nI ln), .int (nI sz)])), (q1, .inl (cI, 60, .inl f)), (hS1, .inr (4, [.ref s1, .ref s2, .ref s3, .int (nI mp)])), (s1, .inl (cP, 7, .inr (.inr (.inr (.inr (cpO (pgo ad) pg k)))))), (s2, .inl (cI, 7, .inl (nA (cpN (emf mp (ter f fr)) em k)))), (s3, .inl (cI, 7, .inl (nA (cpN (fun zz => dar (tkd f fr zz) (tlo f fr zz)) dr k)))), (r_50, .inr (6, [.int (nI k), .int (nI (tlo f fr k)), .int (nI (ter f fr k))]))] ++ (pcs ad (tkd f fr) (tlo f fr) (ter f fr) k)) H := va_P.swap (a := [(hH, .inr (3, [.ref q1, .int (nI fl), .int (nI ln), .int (nI sz)])), (q1, .inl (cI, 60, .inl f)), (hS1, .inr (4, [.ref s1, .ref s2, .ref s3, .int (nI mp)])), (s1, .inl (cP, 7, .inr (.inr (.inr (.inr (cpO (pgo ad) pg k)))))), (s2, .inl (cI, 7, .inl (nA (cpN (emf mp (ter f fr)) em k)))), (s3, .inl (cI, 7, .inl (nA (cpN (fun zz => dar (tkd f fr zz) (tlo f fr zz)) dr k))))]) (b := (pcs ad (tkd f fr) (tlo f fr) (ter f fr) k)) (c := [(r_50, .inr (6, [.int (nI k), .int (nI (tlo f fr k)), .int (nI (ter f fr k))]))]) hP
      have hD : va_D A ([(hH, .inr (3, [.ref q1, .int (nI fl), .int (nI ln), .int (nI sz)])), (q1, .inl (cI, 60, .inl f)), (hS1, .inr (4, [.ref s1, .ref s2, .ref s3, .int (nI mp)])), (s1, .inl (cP, 7, .inr (.inr (.inr (.inr (cpO (pgo ad) pg k)))))), (s2, .inl (cI, 7, .inl (nA (cpN (emf mp (ter f fr)) em k)))), (s3, .inl (cI, 7, .inl (nA (cpN (fun zz => dar (tkd f fr zz) (tlo f fr zz)) dr k)))), (r_50, .inr (6, [.int (nI k), .int (nI (tlo f fr k)), .int (nI (ter f fr k))]))] ++ (pcs ad (tkd f fr) (tlo f fr) (ter f fr) k)) := va_D.swap (a := [(hH, .inr (3, [.ref q1, .int (nI fl), .int (nI ln), .int (nI sz)])), (q1, .inl (cI, 60, .inl f)), (hS1, .inr (4, [.ref s1, .ref s2, .ref s3, .int (nI mp)])), (s1, .inl (cP, 7, .inr (.inr (.inr (.inr (cpO (pgo ad) pg k)))))), (s2, .inl (cI, 7, .inl (nA (cpN (emf mp (ter f fr)) em k)))), (s3, .inl (cI, 7, .inl (nA (cpN (fun zz => dar (tkd f fr zz) (tlo f fr zz)) dr k))))]) (b := (pcs ad (tkd f fr) (tlo f fr) (ter f fr) k)) (c := [(r_50, .inr (6, [.int (nI k), .int (nI (tlo f fr k)), .int (nI (ter f fr k))]))]) hD
      refine lv_astore (lv' := [(6, .ref r_50), (5, .int (nI ((fr + 2) + (k * 4)))), (4, .int (nI k)), (0, .ref hS1), (1, .ref hH), (2, .int (nI fr)), (3, .int (nI nn))]) hx hb dX4_settle_67 hl (by decide) rfl (fun ls hl => ?_)
      refine lv_aload_n hx hb dX4_settle_69 rfl (lv_at hl 3 rfl) ?_
      refine va_get (D := D) (ci := 4) (v := .ref s1) (C := RX4) (T := TX4) (N := 4) hx hb hts in_X4 hown hK hP 2 rfl rfl 0 (by decide) lk5 (fun _ h9 => h9) rfl dX4_settle_70 ?_
      refine lv_iload hx hb dX4_settle_73 (lv_at hl 2 rfl) ?_
      refine lv_aload hx hb dX4_settle_75 (lv_at hl 0 rfl) ?_
      refine k_aastO (r := (RX6, TX6, 3)) hx hb hK hP hD hS 3 3 6 6 rfl rfl (hN.2.2.2.2.2.2.2.2.2.2.2.2.2.1) rfl rfl (show k < 7 by omega) (by decide) dX4_settle_77 (fun H locs hP hD hS => ?_)
      have hP : va_P D vwCl ([(hH, .inr (3, [.ref q1, .int (nI fl), .int (nI ln), .int (nI sz)])), (q1, .inl (cI, 60, .inl f)), (hS1, .inr (4, [.ref s1, .ref s2, .ref s3, .int (nI mp)])), (s1, .inl (cP, 7, .inr (.inr (.inr (.inr (va_up (cpO (pgo ad) pg k) k (some r_50))))))), (s2, .inl (cI, 7, .inl (nA (cpN (emf mp (ter f fr)) em k)))), (s3, .inl (cI, 7, .inl (nA (cpN (fun zz => dar (tkd f fr zz) (tlo f fr zz)) dr k)))), (r_50, .inr (6, [.int (nI k), .int (nI (tlo f fr k)), .int (nI (ter f fr k))]))] ++ (pcs ad (tkd f fr) (tlo f fr) (ter f fr) k)) H := hP
      have hD : va_D A ([(hH, .inr (3, [.ref q1, .int (nI fl), .int (nI ln), .int (nI sz)])), (q1, .inl (cI, 60, .inl f)), (hS1, .inr (4, [.ref s1, .ref s2, .ref s3, .int (nI mp)])), (s1, .inl (cP, 7, .inr (.inr (.inr (.inr (va_up (cpO (pgo ad) pg k) k (some r_50))))))), (s2, .inl (cI, 7, .inl (nA (cpN (emf mp (ter f fr)) em k)))), (s3, .inl (cI, 7, .inl (nA (cpN (fun zz => dar (tkd f fr zz) (tlo f fr zz)) dr k)))), (r_50, .inr (6, [.int (nI k), .int (nI (tlo f fr k)), .int (nI (ter f fr k))]))] ++ (pcs ad (tkd f fr) (tlo f fr) (ter f fr) k)) := hD
      refine lv_aload_n hx hb dX4_settle_78 rfl (lv_at hl 3 rfl) ?_
      refine va_get (D := D) (ci := 4) (v := .ref s2) (C := RX4) (T := TX4) (N := 4) hx hb hts in_X4 hown hK hP 2 rfl rfl 1 (by decide) lk6 (fun _ h9 => h9) rfl dX4_settle_79 ?_
      refine lv_iload hx hb dX4_settle_82 (lv_at hl 2 rfl) ?_
      refine lv_aload_n hx hb dX4_settle_84 rfl (lv_at hl 3 rfl) ?_
      refine lv_iload hx hb dX4_settle_85 (lv_at hl 2 rfl) ?_
      refine lv_aload hx hb dX4_settle_87 (lv_at hl 0 rfl) ?_
      refine va_get (D := D) (ci := 6) (v := .int (nI (ter f fr k))) (C := RX6) (T := TX6) (N := 3) hx hb hts in_X6 hown hK hP 6 rfl rfl 2 (by decide) lk7 (fun _ h9 => h9) rfl dX4_settle_89 ?_
      refine k_goi (S := Unit) (va_runV (As := [.int (nI k), .int (nI (ter f fr k))]) (rest := [.int (nI k), .ref s2]) ⟨hx, hb, hml, hown, hts⟩ (c_X4_placesWithin l D cI cZ cS cP hS1 s1 s2 s3 (cpN (emf mp (ter f fr)) em k) (cpN (fun zz => dar (tkd f fr zz) (tlo f fr zz)) dr k) mp k (ter f fr k) (by first | assumption | omega) (by first | assumption | omega) ((her k (by omega)).2) _) (cwV 2 hts gX4_settle_X4_placesWithin rfl rfl rfl (by decide +kernel) ⟨Nat.le_of_ble_eq_true rfl, Nat.le_of_ble_eq_true rfl⟩) (kPreV hN hK hP hD [2, 4, 5] rfl rfl (q0 := 0) (ci := 4) (q := (RX4, TX4, 4)) rfl rfl) rfl rfl hl.1 rfl (lv_room (Nat.le_of_ble_eq_true rfl)) dX4_settle_92 ⟨(show k + 1 + 0 ≤ 7 by omega), (show 3 * k + 3 + 0 ≤ 21 by omega)⟩) hP hD hS hA [2, 4, 5] rfl [hS1, s2, s3] rfl (fun _ => rfl) 7 [0, 1, 3, 6] rfl (fun _u => ([(hH, .inr (3, [.ref q1, .int (nI fl), .int (nI ln), .int (nI sz)])), (q1, .inl (cI, 60, .inl f)), (hS1, .inr (4, [.ref s1, .ref s2, .ref s3, .int (nI mp)])), (s1, .inl (cP, 7, .inr (.inr (.inr (.inr (va_up (cpO (pgo ad) pg k) k (some r_50))))))), (s2, .inl (cI, 7, .inl (nA (cpN (emf mp (ter f fr)) em k)))), (s3, .inl (cI, 7, .inl (nA (cpN (fun zz => dar (tkd f fr zz) (tlo f fr zz)) dr k)))), (r_50, .inr (6, [.int (nI k), .int (nI (tlo f fr k)), .int (nI (ter f fr k))]))] ++ (pcs ad (tkd f fr) (tlo f fr) (ter f fr) k))) (fun _ => rfl) [(hH, .inr (3, [.ref q1, .int (nI fl), .int (nI ln), .int (nI sz)])), (q1, .inl (cI, 60, .inl f)), (s1, .inl (cP, 7, .inr (.inr (.inr (.inr (va_up (cpO (pgo ad) pg k) k (some r_50))))))), (r_50, .inr (6, [.int (nI k), .int (nI (tlo f fr k)), .int (nI (ter f fr k))]))] (pcs ad (tkd f fr) (tlo f fr) (ter f fr) k) (fun _ => rfl) rfl (fun _ => rfl) rfl (fun r_53 _u H locs hr_54 hP hD hS => ?_)
      have hP : va_P D vwCl ([(hH, .inr (3, [.ref q1, .int (nI fl), .int (nI ln), .int (nI sz)])), (q1, .inl (cI, 60, .inl f)), (hS1, .inr (4, [.ref s1, .ref s2, .ref s3, .int (nI mp)])), (s1, .inl (cP, 7, .inr (.inr (.inr (.inr (va_up (cpO (pgo ad) pg k) k (some r_50))))))), (s2, .inl (cI, 7, .inl (nA (cpN (emf mp (ter f fr)) em k)))), (s3, .inl (cI, 7, .inl (nA (cpN (fun zz => dar (tkd f fr zz) (tlo f fr zz)) dr k)))), (r_50, .inr (6, [.int (nI k), .int (nI (tlo f fr k)), .int (nI (ter f fr k))]))] ++ (pcs ad (tkd f fr) (tlo f fr) (ter f fr) k)) H := hP
      have hD : va_D A ([(hH, .inr (3, [.ref q1, .int (nI fl), .int (nI ln), .int (nI sz)])), (q1, .inl (cI, 60, .inl f)), (hS1, .inr (4, [.ref s1, .ref s2, .ref s3, .int (nI mp)])), (s1, .inl (cP, 7, .inr (.inr (.inr (.inr (va_up (cpO (pgo ad) pg k) k (some r_50))))))), (s2, .inl (cI, 7, .inl (nA (cpN (emf mp (ter f fr)) em k)))), (s3, .inl (cI, 7, .inl (nA (cpN (fun zz => dar (tkd f fr zz) (tlo f fr zz)) dr k)))), (r_50, .inr (6, [.int (nI k), .int (nI (tlo f fr k)), .int (nI (ter f fr k))]))] ++ (pcs ad (tkd f fr) (tlo f fr) (ter f fr) k)) := hD
      subst hr_54
      have b_55 : mk (fun zz => decide (absD zz k ≤ (ter f fr k))) mp < 128 := mk_lt7 _ (by first | assumption | omega)
      refine k_iastN (y := (mk (fun zz => decide (absD zz k ≤ (ter f fr k))) mp)) hx hb hK hP hD hS 4 0 rfl rfl (show k < 7 by omega) (by decide) dX4_settle_95 (fun H locs hP hD hS => ?_)
      have hP : va_P D vwCl ([(hH, .inr (3, [.ref q1, .int (nI fl), .int (nI ln), .int (nI sz)])), (q1, .inl (cI, 60, .inl f)), (hS1, .inr (4, [.ref s1, .ref s2, .ref s3, .int (nI mp)])), (s1, .inl (cP, 7, .inr (.inr (.inr (.inr (va_up (cpO (pgo ad) pg k) k (some r_50))))))), (s2, .inl (cI, 7, .inl (nA (va_up (cpN (emf mp (ter f fr)) em k) k (mk (fun zz => decide (absD zz k ≤ (ter f fr k))) mp))))), (s3, .inl (cI, 7, .inl (nA (cpN (fun zz => dar (tkd f fr zz) (tlo f fr zz)) dr k)))), (r_50, .inr (6, [.int (nI k), .int (nI (tlo f fr k)), .int (nI (ter f fr k))]))] ++ (pcs ad (tkd f fr) (tlo f fr) (ter f fr) k)) H := hP
      have hD : va_D A ([(hH, .inr (3, [.ref q1, .int (nI fl), .int (nI ln), .int (nI sz)])), (q1, .inl (cI, 60, .inl f)), (hS1, .inr (4, [.ref s1, .ref s2, .ref s3, .int (nI mp)])), (s1, .inl (cP, 7, .inr (.inr (.inr (.inr (va_up (cpO (pgo ad) pg k) k (some r_50))))))), (s2, .inl (cI, 7, .inl (nA (va_up (cpN (emf mp (ter f fr)) em k) k (mk (fun zz => decide (absD zz k ≤ (ter f fr k))) mp))))), (s3, .inl (cI, 7, .inl (nA (cpN (fun zz => dar (tkd f fr zz) (tlo f fr zz)) dr k)))), (r_50, .inr (6, [.int (nI k), .int (nI (tlo f fr k)), .int (nI (ter f fr k))]))] ++ (pcs ad (tkd f fr) (tlo f fr) (ter f fr) k)) := hD
      refine lv_aload_n hx hb dX4_settle_96 rfl (lv_at hl 3 rfl) ?_
      refine va_get (D := D) (ci := 4) (v := .ref s3) (C := RX4) (T := TX4) (N := 4) hx hb hts in_X4 hown hK hP 2 rfl rfl 2 (by decide) lk8 (fun _ h9 => h9) rfl dX4_settle_97 ?_
      refine lv_iload hx hb dX4_settle_100 (lv_at hl 2 rfl) ?_
      refine lv_aload hx hb dX4_settle_102 (lv_at hl 0 rfl) ?_
      refine k_goi (S := Unit) (va_runU (As := []) (rest := [.int (nI k), .ref s3]) ⟨hx, hb, hml, hown, hts⟩ (c_X6_dares_X6 l D cI cZ cS cP r_50 k (tlo f fr k) (ter f fr k)  _) (va_cwO 0 hts gX4_settle_X6_dares_u54X6 rfl rfl rfl (b0 := cX5_dares) (m0 := 1) (r0 := (some .int)) (show Cond.code yX5_dares cX5_dares 1 (some .int) ∈ wsX4_settle by decide +kernel) (by decide +kernel) ⟨Nat.le_of_ble_eq_true rfl, Nat.le_of_ble_eq_true rfl⟩) (kPreV hN hK hP hD [6] rfl rfl (q0 := 0) (ci := 6) (q := (RX6, TX6, 3)) rfl rfl) rfl rfl hl.1 rfl (lv_room (Nat.le_of_ble_eq_true rfl)) dX4_settle_104 ⟨(show k + 1 + 0 ≤ 7 by omega), (show 3 * k + 3 + 0 ≤ 21 by omega)⟩) hP hD hS hA [6] rfl [r_50] rfl (fun _ => rfl) 7 [0, 1, 2, 3, 4, 5] rfl (fun _u => ([(hH, .inr (3, [.ref q1, .int (nI fl), .int (nI ln), .int (nI sz)])), (q1, .inl (cI, 60, .inl f)), (hS1, .inr (4, [.ref s1, .ref s2, .ref s3, .int (nI mp)])), (s1, .inl (cP, 7, .inr (.inr (.inr (.inr (va_up (cpO (pgo ad) pg k) k (some r_50))))))), (s2, .inl (cI, 7, .inl (nA (va_up (cpN (emf mp (ter f fr)) em k) k (mk (fun zz => decide (absD zz k ≤ (ter f fr k))) mp))))), (s3, .inl (cI, 7, .inl (nA (cpN (fun zz => dar (tkd f fr zz) (tlo f fr zz)) dr k)))), (r_50, .inr (6, [.int (nI k), .int (nI (tlo f fr k)), .int (nI (ter f fr k))]))] ++ (pcs ad (tkd f fr) (tlo f fr) (ter f fr) k))) (fun _ => rfl) [(hH, .inr (3, [.ref q1, .int (nI fl), .int (nI ln), .int (nI sz)])), (q1, .inl (cI, 60, .inl f)), (hS1, .inr (4, [.ref s1, .ref s2, .ref s3, .int (nI mp)])), (s1, .inl (cP, 7, .inr (.inr (.inr (.inr (va_up (cpO (pgo ad) pg k) k (some r_50))))))), (s2, .inl (cI, 7, .inl (nA (va_up (cpN (emf mp (ter f fr)) em k) k (mk (fun zz => decide (absD zz k ≤ (ter f fr k))) mp))))), (s3, .inl (cI, 7, .inl (nA (cpN (fun zz => dar (tkd f fr zz) (tlo f fr zz)) dr k))))] (pcs ad (tkd f fr) (tlo f fr) (ter f fr) k) (fun _ => rfl) rfl (fun _ => rfl) rfl (fun r_56 _u H locs hr_57 hP hD hS => ?_)
      have hP : va_P D vwCl ([(hH, .inr (3, [.ref q1, .int (nI fl), .int (nI ln), .int (nI sz)])), (q1, .inl (cI, 60, .inl f)), (hS1, .inr (4, [.ref s1, .ref s2, .ref s3, .int (nI mp)])), (s1, .inl (cP, 7, .inr (.inr (.inr (.inr (va_up (cpO (pgo ad) pg k) k (some r_50))))))), (s2, .inl (cI, 7, .inl (nA (va_up (cpN (emf mp (ter f fr)) em k) k (mk (fun zz => decide (absD zz k ≤ (ter f fr k))) mp))))), (s3, .inl (cI, 7, .inl (nA (cpN (fun zz => dar (tkd f fr zz) (tlo f fr zz)) dr k)))), (r_50, .inr (6, [.int (nI k), .int (nI (tlo f fr k)), .int (nI (ter f fr k))]))] ++ (pcs ad (tkd f fr) (tlo f fr) (ter f fr) k)) H := hP
      have hD : va_D A ([(hH, .inr (3, [.ref q1, .int (nI fl), .int (nI ln), .int (nI sz)])), (q1, .inl (cI, 60, .inl f)), (hS1, .inr (4, [.ref s1, .ref s2, .ref s3, .int (nI mp)])), (s1, .inl (cP, 7, .inr (.inr (.inr (.inr (va_up (cpO (pgo ad) pg k) k (some r_50))))))), (s2, .inl (cI, 7, .inl (nA (va_up (cpN (emf mp (ter f fr)) em k) k (mk (fun zz => decide (absD zz k ≤ (ter f fr k))) mp))))), (s3, .inl (cI, 7, .inl (nA (cpN (fun zz => dar (tkd f fr zz) (tlo f fr zz)) dr k)))), (r_50, .inr (6, [.int (nI k), .int (nI (tlo f fr k)), .int (nI (ter f fr k))]))] ++ (pcs ad (tkd f fr) (tlo f fr) (ter f fr) k)) := hD
      subst hr_57
      refine k_iastN (y := (2 * ((tlo f fr k) + 1))) hx hb hK hP hD hS 5 0 rfl rfl (show k < 7 by omega) (by decide) dX4_settle_107 (fun H locs hP hD hS => ?_)
      have hP : va_P D vwCl ([(hH, .inr (3, [.ref q1, .int (nI fl), .int (nI ln), .int (nI sz)])), (q1, .inl (cI, 60, .inl f)), (hS1, .inr (4, [.ref s1, .ref s2, .ref s3, .int (nI mp)])), (s1, .inl (cP, 7, .inr (.inr (.inr (.inr (va_up (cpO (pgo ad) pg k) k (some r_50))))))), (s2, .inl (cI, 7, .inl (nA (va_up (cpN (emf mp (ter f fr)) em k) k (mk (fun zz => decide (absD zz k ≤ (ter f fr k))) mp))))), (s3, .inl (cI, 7, .inl (nA (va_up (cpN (fun zz => dar (tkd f fr zz) (tlo f fr zz)) dr k) k (2 * ((tlo f fr k) + 1)))))), (r_50, .inr (6, [.int (nI k), .int (nI (tlo f fr k)), .int (nI (ter f fr k))]))] ++ (pcs ad (tkd f fr) (tlo f fr) (ter f fr) k)) H := hP
      have hD : va_D A ([(hH, .inr (3, [.ref q1, .int (nI fl), .int (nI ln), .int (nI sz)])), (q1, .inl (cI, 60, .inl f)), (hS1, .inr (4, [.ref s1, .ref s2, .ref s3, .int (nI mp)])), (s1, .inl (cP, 7, .inr (.inr (.inr (.inr (va_up (cpO (pgo ad) pg k) k (some r_50))))))), (s2, .inl (cI, 7, .inl (nA (va_up (cpN (emf mp (ter f fr)) em k) k (mk (fun zz => decide (absD zz k ≤ (ter f fr k))) mp))))), (s3, .inl (cI, 7, .inl (nA (va_up (cpN (fun zz => dar (tkd f fr zz) (tlo f fr zz)) dr k) k (2 * ((tlo f fr k) + 1)))))), (r_50, .inr (6, [.int (nI k), .int (nI (tlo f fr k)), .int (nI (ter f fr k))]))] ++ (pcs ad (tkd f fr) (tlo f fr) (ter f fr) k)) := hD
      refine lv_iinc (v := (nI (k + 1))) (lv' := [(4, .int (nI (k + 1))), (6, .ref r_50), (5, .int (nI ((fr + 2) + (k * 4)))), (0, .ref hS1), (1, .ref hH), (2, .int (nI fr)), (3, .int (nI nn))]) hx hb dX4_settle_108 hl (k := 2) rfl (nI_inc k) (by decide) rfl (fun ls hl => ?_)
      refine lv_goto (tgt := 15) hx hb dX4_settle_111 (by decide) ?_
      have q7 : ([(hH, .inr (3, [.ref q1, .int (nI fl), .int (nI ln), .int (nI sz)])), (q1, .inl (cI, 60, .inl f)), (hS1, .inr (4, [.ref s1, .ref s2, .ref s3, .int (nI mp)])), (s1, .inl (cP, 7, .inr (.inr (.inr (.inr (va_up (cpO (pgo ad) pg k) k (some r_50))))))), (s2, .inl (cI, 7, .inl (nA (va_up (cpN (emf mp (ter f fr)) em k) k (mk (fun zz => decide (absD zz k ≤ (ter f fr k))) mp))))), (s3, .inl (cI, 7, .inl (nA (va_up (cpN (fun zz => dar (tkd f fr zz) (tlo f fr zz)) dr k) k (2 * ((tlo f fr k) + 1))))))] ++ (pcs ad (tkd f fr) (tlo f fr) (ter f fr) k ++ [(r_50, .inr (6, [.int (nI k), .int (nI (tlo f fr k)), .int (nI (ter f fr k))]))]) : va_W) = ([(hH, .inr (3, [.ref q1, .int (nI fl), .int (nI ln), .int (nI sz)])), (q1, .inl (cI, 60, .inl f)), (hS1, .inr (4, [.ref s1, .ref s2, .ref s3, .int (nI mp)])), (s1, .inl (cP, 7, .inr (.inr (.inr (.inr (va_up (cpO (pgo ad) pg k) k (some r_50))))))), (s2, .inl (cI, 7, .inl (nA (va_up (cpN (emf mp (ter f fr)) em k) k (mk (fun zz => decide (absD zz k ≤ (ter f fr k))) mp))))), (s3, .inl (cI, 7, .inl (nA (va_up (cpN (fun zz => dar (tkd f fr zz) (tlo f fr zz)) dr k) k (2 * ((tlo f fr k) + 1))))))] ++ (pcs (va_up ad k r_50) (tkd f fr) (tlo f fr) (ter f fr) (k + 1))) := by rw [pcs_s hke rfl rfl]
      have hP : va_P D vwCl ([(hH, .inr (3, [.ref q1, .int (nI fl), .int (nI ln), .int (nI sz)])), (q1, .inl (cI, 60, .inl f)), (hS1, .inr (4, [.ref s1, .ref s2, .ref s3, .int (nI mp)])), (s1, .inl (cP, 7, .inr (.inr (.inr (.inr (va_up (cpO (pgo ad) pg k) k (some r_50))))))), (s2, .inl (cI, 7, .inl (nA (va_up (cpN (emf mp (ter f fr)) em k) k (mk (fun zz => decide (absD zz k ≤ (ter f fr k))) mp))))), (s3, .inl (cI, 7, .inl (nA (va_up (cpN (fun zz => dar (tkd f fr zz) (tlo f fr zz)) dr k) k (2 * ((tlo f fr k) + 1))))))] ++ (pcs (va_up ad k r_50) (tkd f fr) (tlo f fr) (ter f fr) (k + 1))) H := kP_cast (va_P.swap (a := [(hH, .inr (3, [.ref q1, .int (nI fl), .int (nI ln), .int (nI sz)])), (q1, .inl (cI, 60, .inl f)), (hS1, .inr (4, [.ref s1, .ref s2, .ref s3, .int (nI mp)])), (s1, .inl (cP, 7, .inr (.inr (.inr (.inr (va_up (cpO (pgo ad) pg k) k (some r_50))))))), (s2, .inl (cI, 7, .inl (nA (va_up (cpN (emf mp (ter f fr)) em k) k (mk (fun zz => decide (absD zz k ≤ (ter f fr k))) mp))))), (s3, .inl (cI, 7, .inl (nA (va_up (cpN (fun zz => dar (tkd f fr zz) (tlo f fr zz)) dr k) k (2 * ((tlo f fr k) + 1))))))]) (b := [(r_50, .inr (6, [.int (nI k), .int (nI (tlo f fr k)), .int (nI (ter f fr k))]))]) (c := (pcs ad (tkd f fr) (tlo f fr) (ter f fr) k)) hP) q7
      have hD : va_D A ([(hH, .inr (3, [.ref q1, .int (nI fl), .int (nI ln), .int (nI sz)])), (q1, .inl (cI, 60, .inl f)), (hS1, .inr (4, [.ref s1, .ref s2, .ref s3, .int (nI mp)])), (s1, .inl (cP, 7, .inr (.inr (.inr (.inr (va_up (cpO (pgo ad) pg k) k (some r_50))))))), (s2, .inl (cI, 7, .inl (nA (va_up (cpN (emf mp (ter f fr)) em k) k (mk (fun zz => decide (absD zz k ≤ (ter f fr k))) mp))))), (s3, .inl (cI, 7, .inl (nA (va_up (cpN (fun zz => dar (tkd f fr zz) (tlo f fr zz)) dr k) k (2 * ((tlo f fr k) + 1))))))] ++ (pcs (va_up ad k r_50) (tkd f fr) (tlo f fr) (ter f fr) (k + 1))) := kD_cast (va_D.swap (a := [(hH, .inr (3, [.ref q1, .int (nI fl), .int (nI ln), .int (nI sz)])), (q1, .inl (cI, 60, .inl f)), (hS1, .inr (4, [.ref s1, .ref s2, .ref s3, .int (nI mp)])), (s1, .inl (cP, 7, .inr (.inr (.inr (.inr (va_up (cpO (pgo ad) pg k) k (some r_50))))))), (s2, .inl (cI, 7, .inl (nA (va_up (cpN (emf mp (ter f fr)) em k) k (mk (fun zz => decide (absD zz k ≤ (ter f fr k))) mp))))), (s3, .inl (cI, 7, .inl (nA (va_up (cpN (fun zz => dar (tkd f fr zz) (tlo f fr zz)) dr k) k (2 * ((tlo f fr k) + 1))))))]) (b := [(r_50, .inr (6, [.int (nI k), .int (nI (tlo f fr k)), .int (nI (ter f fr k))]))]) (c := (pcs ad (tkd f fr) (tlo f fr) (ter f fr) k)) hD) q7
      have e_58 : (va_up (cpO (pgo ad) pg k) k (some r_50)) = (cpO (pgo (va_up ad k r_50)) pg (k + 1)) := by exact cpO_s ad pg k _
      have e_59 : nA (va_up (cpN (emf mp (ter f fr)) em k) k (mk (fun zz => decide (absD zz k ≤ (ter f fr k))) mp)) = nA (cpN (emf mp (ter f fr)) em (k + 1)) := congrArg nA (show (va_up (cpN (emf mp (ter f fr)) em k) k (mk (fun zz => decide (absD zz k ≤ (ter f fr k))) mp)) = (cpN (emf mp (ter f fr)) em (k + 1)) by exact cpN_s (emf mp (ter f fr)) em k)
      have e_60 : nA (va_up (cpN (fun zz => dar (tkd f fr zz) (tlo f fr zz)) dr k) k (2 * ((tlo f fr k) + 1))) = nA (cpN (fun zz => dar (tkd f fr zz) (tlo f fr zz)) dr (k + 1)) := congrArg nA (show (va_up (cpN (fun zz => dar (tkd f fr zz) (tlo f fr zz)) dr k) k (2 * ((tlo f fr k) + 1))) = (cpN (fun zz => dar (tkd f fr zz) (tlo f fr zz)) dr (k + 1)) by exact dar_s hkd)
      have q_61 : (([(hH, .inr (3, [.ref q1, .int (nI fl), .int (nI ln), .int (nI sz)])), (q1, .inl (cI, 60, .inl f)), (hS1, .inr (4, [.ref s1, .ref s2, .ref s3, .int (nI mp)])), (s1, .inl (cP, 7, .inr (.inr (.inr (.inr (va_up (cpO (pgo ad) pg k) k (some r_50))))))), (s2, .inl (cI, 7, .inl (nA (va_up (cpN (emf mp (ter f fr)) em k) k (mk (fun zz => decide (absD zz k ≤ (ter f fr k))) mp))))), (s3, .inl (cI, 7, .inl (nA (va_up (cpN (fun zz => dar (tkd f fr zz) (tlo f fr zz)) dr k) k (2 * ((tlo f fr k) + 1))))))] ++ (pcs (va_up ad k r_50) (tkd f fr) (tlo f fr) (ter f fr) (k + 1))) : va_W) = ([(hH, .inr (3, [.ref q1, .int (nI fl), .int (nI ln), .int (nI sz)])), (q1, .inl (cI, 60, .inl f)), (hS1, .inr (4, [.ref s1, .ref s2, .ref s3, .int (nI mp)])), (s1, .inl (cP, 7, .inr (.inr (.inr (.inr (cpO (pgo (va_up ad k r_50)) pg (k + 1))))))), (s2, .inl (cI, 7, .inl (nA (cpN (emf mp (ter f fr)) em (k + 1))))), (s3, .inl (cI, 7, .inl (nA (cpN (fun zz => dar (tkd f fr zz) (tlo f fr zz)) dr (k + 1)))))] ++ (pcs (va_up ad k r_50) (tkd f fr) (tlo f fr) (ter f fr) (k + 1))) := by rw [← e_58, ← e_59, ← e_60]
      exact ih15 (k + 1, va_up ad k r_50) _ _ _ (show mp - (k + 1) < mp - k by omega) (show ((k + 1) ≤ mp) from by omega) (kP_cast hP q_61) (kD_cast hD q_61) hS (lv_sub hl [0, 3, 4, 5, 6] rfl)
