/-- what a row's first k cells are behind the zeros -/
def zf (f : Nat → Int32) (k : Nat) : Nat → Int32 := fun i => if i < k then 0 else f i
theorem zf_0 (f : Nat → Int32) : zf f 0 = f := by funext i; simp [zf]
theorem zf_s (f : Nat → Int32) (k : Nat) : upd (zf f k) k (nI 0) = zf f (k + 1) := by
  funext i
  by_cases h : i = k
  · subst h; simp [upd, zf, nI_0]
  · have : i < k + 1 ↔ i < k := by omega
    simp [upd, zf, h, this]
/-- what is cut to a lane -/
def cutv (ln : Nat) (v : Int32) : Int32 := if ln = 0 then v.toInt8.toInt32 else if ln = 1 then v.toInt16.toInt32 else v
abbrev hcs (x n : Int32) (sz : Nat) : Prop := 0 ≤ x.toInt ∧ 0 ≤ n.toInt ∧ x.toInt + n.toInt ≤ (sz : Int)
theorem hcs_form (x n : Int32) {sz : Nat} (hs : sz ≤ 60) : ((¬ (x < 0)) ∧ ((¬ ((nI sz) < x)) ∧ ((¬ (n < 0)) ∧ (¬ (((nI sz) - x) < n))))) ↔ hcs x n sz := by
  unfold hcs
  have h1 : (nI sz).toInt = (sz : Int) := nI_toInt (by omega)
  simp only [Int32.lt_iff_toInt_lt, h1, Int32.toInt_zero]
  constructor
  · rintro ⟨a, b, c, d⟩
    have e : (nI sz - x).toInt = (sz : Int) - x.toInt := by
      rw [Int32.toInt_sub, h1]
      apply Int.bmod_eq_of_le <;> omega
    rw [e] at d
    omega
  · rintro ⟨a, b, c⟩
    have e : (nI sz - x).toInt = (sz : Int) - x.toInt := by
      rw [Int32.toInt_sub, h1]
      apply Int.bmod_eq_of_le <;> omega
    rw [e]
    omega
theorem min_ok {b c : Nat} (h : b ≤ c) (hc : c < 2 ^ 31 := by decide) : (if (nI c) < (nI b) then (nI c) else (nI b)) = nI b := if_neg (nI_nlt h hc)
def fLane (fl a ln : Nat) : Nat := if fl = 0 then 1 else if a = ln then 0 else 2
def fTake (fl a ln sz : Nat) (x n : Int32) : Nat := if fl = 0 then 1 else if a = ln then (if n < 0 then 4 else if hcs x n sz then 0 else 3) else 2
theorem fTake_1 {fl a ln sz : Nat} {x n : Int32} (h : fLane fl a ln ≠ 0) : fLane fl a ln = fTake fl a ln sz x n := by
  unfold fLane fTake at *
  by_cases h1 : fl = 0
  · simp [h1]
  · by_cases h2 : a = ln
    · simp [h1, h2] at h
    · simp [h1, h2]
theorem fTake_2 {fl a ln sz : Nat} {x n : Int32} (h : fLane fl a ln = 0) (hn0 : ¬ 0 ≤ n) : 4 = fTake fl a ln sz x n := by
  have hn : n < 0 := Int32.not_le.mp hn0
  unfold fLane fTake at *
  by_cases h1 : fl = 0
  · simp [h1] at h
  · by_cases h2 : a = ln
    · simp [h1, h2, hn]
    · simp [h1, h2] at h
theorem fTake_3 {fl a ln sz : Nat} {x n : Int32} (h : fLane fl a ln = 0) (hn0 : 0 ≤ n) : (if hcs x n sz then 0 else 3) = fTake fl a ln sz x n := by
  have hn : ¬ n < 0 := Int32.not_lt.mpr hn0
  unfold fLane fTake at *
  by_cases h1 : fl = 0
  · simp [h1] at h
  · by_cases h2 : a = ln
    · rw [if_neg h1, if_pos h2, if_neg hn]
    · simp [h1, h2] at h
def rm_X3_isNothing : Room := { frames := 0, cells := 0, slots := 0, locals := 0 }
set_option maxHeartbeats 4000000 in
set_option maxRecDepth 100000 in
theorem c_X3_isNothing (l : Launch) (D : va_G) (cI cZ cS cP : ClassId) (hH : Nat) (q1 : Nat) (f : Nat → Int32) (fl : Nat) (ln : Nat) (sz : Nat) (hfl : fl < 2) : kMi (S := Unit) l yX3_isNothing wsX3_isNothing rm_X3_isNothing D (kT cI cZ cS cP) [.ref hH] [(hH, .inr (3, [.ref q1, .int (nI fl), .int (nI ln), .int (nI sz)])), (q1, .inl (cI, 60, .inl f))] (fun r _ => r = (nI (if fl = 0 then 1 else 0))) (fun _ => [(hH, .inr (3, [.ref q1, .int (nI fl), .int (nI ln), .int (nI sz)])), (q1, .inl (cI, 60, .inl f))]) := by
  refine kMet_i (cc := cX3_isNothing) (maxL := 1) (ty := .boolean) (by decide) rfl (Nat.le_of_ble_eq_true rfl) (fun _ _ q => by (first | subst q | (obtain ⟨q, -⟩ := q; subst q)); (first | exact kz_nr | decide)) ?_
  intro p e s m args below meth c A Q ls C hlocks hin hN hK hP hD hS hA hl ret
  obtain ⟨hx, hb, hml, hown, hts⟩ := C
  have hl : lv_has ls 1 [(0, .ref hH)] := hl
  have in_X3 : ∀ w ∈ wsX30, w ∈ wsX3_isNothing := by decide +kernel
  have lk0 := hts (.fieldLink RX3 15 "SilkWord$Sheet" "filled" "Z") (by decide +kernel)
  refine lv_aload_n hx hb dX3_isNothing_0 rfl (lv_at hl 0 rfl) ?_
  refine va_get (D := D) (ci := 3) (v := .int (nI fl)) (C := RX3) (T := TX3) (N := 4) hx hb hts in_X3 hown hK hP 0 rfl rfl 1 (by decide) lk0 (fun _ h9 => h9) rfl dX3_isNothing_1 ?_
  have j_1 : ∀ (H : Heap) (locs : List Loc) (ls : Array Slot), va_P D vwCl [(hH, .inr (3, [.ref q1, .int (nI fl), .int (nI ln), .int (nI sz)])), (q1, .inl (cI, 60, .inl f))] H → va_D A [(hH, .inr (3, [.ref q1, .int (nI fl), .int (nI ln), .int (nI sz)])), (q1, .inl (cI, 60, .inl f))] → va_S A s.heap H locs → lv_has ls 1 [(0, .ref hH)] → W p l e rm_X3_isNothing s m args below meth c H locs 0 0 Q (F0 m 12 ls [.int (nI (if fl = 0 then 1 else 0))]) := by
    clear hP hD hS hl
    intro H locs ls hP hD hS hl
    exact ret _ () _ _ _ _ dX3_isNothing_12 (rfl) hP hD hS
  refine k_if_ne (tgt := 11) hx hb dX3_isNothing_4 (by decide) (show fl < 2 ^ 31 by first | omega | (split <;> omega)) (fun c_2 => ?_) (fun c_2 => ?_)
  · skip
    refine lv_iconst (v := (nI 0)) hx hb dX3_isNothing_11 (by decide) ?_
    have e_3 := (show (nI 0) = (nI (if fl = 0 then 1 else 0)) from congrArg nI (if_neg c_2).symm)
    refine k_eqi (show (nI 0) = (nI (if fl = 0 then 1 else 0)) from congrArg nI (if_neg c_2).symm) ?_
    exact j_1 _ _ _ hP hD hS (lv_sub hl [0] rfl)
  · skip
    refine lv_iconst (v := (nI 1)) hx hb dX3_isNothing_7 (by decide) ?_
    refine lv_goto (tgt := 12) hx hb dX3_isNothing_8 (by decide) ?_
    have e_4 := (show (nI 1) = (nI (if fl = 0 then 1 else 0)) from congrArg nI (if_pos c_2).symm)
    refine k_eqi (show (nI 1) = (nI (if fl = 0 then 1 else 0)) from congrArg nI (if_pos c_2).symm) ?_
    exact j_1 _ _ _ hP hD hS (lv_sub hl [0] rfl)
def rm_X3_lane : Room := { frames := 0, cells := 0, slots := 0, locals := 0 }
set_option maxHeartbeats 4000000 in
set_option maxRecDepth 100000 in
theorem c_X3_lane (l : Launch) (D : va_G) (cI cZ cS cP : ClassId) (hH : Nat) (q1 : Nat) (f : Nat → Int32) (fl : Nat) (ln : Nat) (sz : Nat) : kMi (S := Unit) l yX3_lane wsX3_lane rm_X3_lane D (kT cI cZ cS cP) [.ref hH] [(hH, .inr (3, [.ref q1, .int (nI fl), .int (nI ln), .int (nI sz)])), (q1, .inl (cI, 60, .inl f))] (fun r _ => r = (nI ln)) (fun _ => [(hH, .inr (3, [.ref q1, .int (nI fl), .int (nI ln), .int (nI sz)])), (q1, .inl (cI, 60, .inl f))]) := by
  refine kMet_i (cc := cX3_lane) (maxL := 1) (ty := .int) (by decide) rfl (Nat.le_of_ble_eq_true rfl) (fun _ _ _ => rfl) ?_
  intro p e s m args below meth c A Q ls C hlocks hin hN hK hP hD hS hA hl ret
  obtain ⟨hx, hb, hml, hown, hts⟩ := C
  have hl : lv_has ls 1 [(0, .ref hH)] := hl
  have in_X3 : ∀ w ∈ wsX30, w ∈ wsX3_lane := by decide +kernel
  have lk0 := hts (.fieldLink RX3 19 "SilkWord$Sheet" "lane" "I") (by decide +kernel)
  refine lv_aload_n hx hb dX3_lane_0 rfl (lv_at hl 0 rfl) ?_
  refine va_get (D := D) (ci := 3) (v := .int (nI ln)) (C := RX3) (T := TX3) (N := 4) hx hb hts in_X3 hown hK hP 0 rfl rfl 2 (by decide) lk0 (fun _ h9 => h9) rfl dX3_lane_1 ?_
  exact ret _ () _ _ _ _ dX3_lane_4 (rfl) hP hD hS
def rm_X3_drop : Room := { frames := 0, cells := 0, slots := 0, locals := 0 }
set_option maxHeartbeats 4000000 in
set_option maxRecDepth 100000 in
theorem c_X3_drop (l : Launch) (D : va_G) (cI cZ cS cP : ClassId) (hH : Nat) (q1 : Nat) (f : Nat → Int32) (fl : Nat) (ln : Nat) (sz : Nat) : kMv (S := Unit) l yX3_drop wsX3_drop rm_X3_drop D (kT cI cZ cS cP) [.ref hH] [(hH, .inr (3, [.ref q1, .int (nI fl), .int (nI ln), .int (nI sz)])), (q1, .inl (cI, 60, .inl f))] (fun _ => True) (fun _ => [(hH, .inr (3, [.ref q1, .int (nI 0), .int (nI ln), .int (nI 0)])), (q1, .inl (cI, 60, .inl f))]) := by
  refine kMet_v (cc := cX3_drop) (maxL := 1) (by decide) rfl (Nat.le_of_ble_eq_true rfl) ?_
  intro p e s m args below meth c A Q ls C hlocks hin hN hK hP hD hS hA hl ret
  obtain ⟨hx, hb, hml, hown, hts⟩ := C
  have hl : lv_has ls 1 [(0, .ref hH)] := hl
  have in_X3 : ∀ w ∈ wsX30, w ∈ wsX3_drop := by decide +kernel
  have lk0 := hts (.fieldLink RX3 15 "SilkWord$Sheet" "filled" "Z") (by decide +kernel)
  have lk1 := hts (.fieldLink RX3 29 "SilkWord$Sheet" "size" "I") (by decide +kernel)
  refine lv_aload_n hx hb dX3_drop_0 rfl (lv_at hl 0 rfl) ?_
  refine lv_iconst (v := (nI 0)) hx hb dX3_drop_1 (by decide) ?_
  refine va_put (D := D) (ci := 3) (v := .int (nI 0)) (ty := .boolean) (C := RX3) (T := TX3) (N := 4) hx hb hts in_X3 tyX3 tyX3_ok nmX3 hown hK hP hD hS 0 rfl rfl 1 (by decide) lk0 (fun _ h9 => h9) rfl (by decide +kernel) (nI_z (show 0 < 2 by first | omega | (split <;> omega))).1 (nI_z (show 0 < 2 by first | omega | (split <;> omega))).2.1 (Nat.le_of_ble_eq_true rfl) dX3_drop_2 (fun H locs hP hD hS => ?_)
  have hP : va_P D vwCl [(hH, .inr (3, [.ref q1, .int (nI 0), .int (nI ln), .int (nI sz)])), (q1, .inl (cI, 60, .inl f))] H := hP
  have hD : va_D A [(hH, .inr (3, [.ref q1, .int (nI 0), .int (nI ln), .int (nI sz)])), (q1, .inl (cI, 60, .inl f))] := hD
  refine lv_aload_n hx hb dX3_drop_5 rfl (lv_at hl 0 rfl) ?_
  refine lv_iconst (v := (nI 0)) hx hb dX3_drop_6 (by decide) ?_
  refine va_put (D := D) (ci := 3) (v := .int (nI 0)) (ty := .int) (C := RX3) (T := TX3) (N := 4) hx hb hts in_X3 tyX3 tyX3_ok nmX3 hown hK hP hD hS 0 rfl rfl 3 (by decide) lk1 (fun _ h9 => h9) rfl (by decide +kernel) rfl rfl (Nat.le_of_ble_eq_true rfl) dX3_drop_7 (fun H locs hP hD hS => ?_)
  have hP : va_P D vwCl [(hH, .inr (3, [.ref q1, .int (nI 0), .int (nI ln), .int (nI 0)])), (q1, .inl (cI, 60, .inl f))] H := hP
  have hD : va_D A [(hH, .inr (3, [.ref q1, .int (nI 0), .int (nI ln), .int (nI 0)])), (q1, .inl (cI, 60, .inl f))] := hD
  exact ret () _ _ _ _ dX3_drop_10 trivial hP hD hS
def rm_X3_hasCell : Room := { frames := 0, cells := 0, slots := 0, locals := 0 }
set_option maxHeartbeats 4000000 in
set_option maxRecDepth 100000 in
theorem c_X3_hasCell (l : Launch) (D : va_G) (cI cZ cS cP : ClassId) (hH : Nat) (q1 : Nat) (f : Nat → Int32) (fl : Nat) (ln : Nat) (sz : Nat) (x : Int32) (hsz : sz ≤ 60) : kMi (S := Unit) l yX3_hasCell wsX3_hasCell rm_X3_hasCell D (kT cI cZ cS cP) [.ref hH, .int x] [(hH, .inr (3, [.ref q1, .int (nI fl), .int (nI ln), .int (nI sz)])), (q1, .inl (cI, 60, .inl f))] (fun r _ => r = (nI (if inR x sz then 1 else 0))) (fun _ => [(hH, .inr (3, [.ref q1, .int (nI fl), .int (nI ln), .int (nI sz)])), (q1, .inl (cI, 60, .inl f))]) := by
  refine kMet_i (cc := cX3_hasCell) (maxL := 2) (ty := .boolean) (by decide) rfl (Nat.le_of_ble_eq_true rfl) (fun _ _ q => by (first | subst q | (obtain ⟨q, -⟩ := q; subst q)); (first | exact kz_nr | decide)) ?_
  intro p e s m args below meth c A Q ls C hlocks hin hN hK hP hD hS hA hl ret
  obtain ⟨hx, hb, hml, hown, hts⟩ := C
  have hl : lv_has ls 2 [(0, .ref hH), (1, .int x)] := hl
  have in_X3 : ∀ w ∈ wsX30, w ∈ wsX3_hasCell := by decide +kernel
  have lk0 := hts (.fieldLink RX3 29 "SilkWord$Sheet" "size" "I") (by decide +kernel)
  refine lv_iload_n hx hb dX3_hasCell_0 rfl (lv_at hl 1 rfl) ?_
  have j_1 : ∀ (H : Heap) (locs : List Loc) (ls : Array Slot), va_P D vwCl [(hH, .inr (3, [.ref q1, .int (nI fl), .int (nI ln), .int (nI sz)])), (q1, .inl (cI, 60, .inl f))] H → va_D A [(hH, .inr (3, [.ref q1, .int (nI fl), .int (nI ln), .int (nI sz)])), (q1, .inl (cI, 60, .inl f))] → va_S A s.heap H locs → lv_has ls 2 [(0, .ref hH), (1, .int x)] → W p l e rm_X3_hasCell s m args below meth c H locs 0 0 Q (F0 m 17 ls [.int (nI (if (¬ (x < 0)) ∧ (¬ ((nI sz) ≤ x)) then 1 else 0))]) := by
    clear hP hD hS hl
    intro H locs ls hP hD hS hl
    exact ret _ () _ _ _ _ dX3_hasCell_17 (congrArg nI (show (if (¬ (x < 0)) ∧ (¬ ((nI sz) ≤ x)) then 1 else 0) = (if inR x sz then 1 else 0) by exact k_ifc (inR_form x (by omega)))) hP hD hS
  refine lv_if_lt (tgt := 16) hx hb dX3_hasCell_1 (by decide) (fun c_2 => ?_) (fun c_2 => ?_)
  · skip
    refine lv_iconst (v := (nI 0)) hx hb dX3_hasCell_16 (by decide) ?_
    have e_3 := (show (nI 0) = (nI (if (¬ (x < 0)) ∧ (¬ ((nI sz) ≤ x)) then 1 else 0)) from congrArg nI (if_neg (fun z => (fun z => z c_2) z.1)).symm)
    refine k_eqi (show (nI 0) = (nI (if (¬ (x < 0)) ∧ (¬ ((nI sz) ≤ x)) then 1 else 0)) from congrArg nI (if_neg (fun z => (fun z => z c_2) z.1)).symm) ?_
    exact j_1 _ _ _ hP hD hS (lv_sub hl [0, 1] rfl)
  · skip
    refine lv_iload_n hx hb dX3_hasCell_4 rfl (lv_at hl 1 rfl) ?_
    refine lv_aload_n hx hb dX3_hasCell_5 rfl (lv_at hl 0 rfl) ?_
    refine va_get (D := D) (ci := 3) (v := .int (nI sz)) (C := RX3) (T := TX3) (N := 4) hx hb hts in_X3 hown hK hP 0 rfl rfl 3 (by decide) lk0 (fun _ h9 => h9) rfl dX3_hasCell_6 ?_
    refine lv_icmp_ge (tgt := 16) hx hb dX3_hasCell_9 (by decide) (fun c_4 => ?_) (fun c_4 => ?_)
    · skip
      refine lv_iconst (v := (nI 0)) hx hb dX3_hasCell_16 (by decide) ?_
      have e_5 := (show (nI 0) = (nI (if (¬ (x < 0)) ∧ (¬ ((nI sz) ≤ x)) then 1 else 0)) from congrArg nI (if_neg (fun z => (fun z => z c_4) z.2)).symm)
      refine k_eqi (show (nI 0) = (nI (if (¬ (x < 0)) ∧ (¬ ((nI sz) ≤ x)) then 1 else 0)) from congrArg nI (if_neg (fun z => (fun z => z c_4) z.2)).symm) ?_
      exact j_1 _ _ _ hP hD hS (lv_sub hl [0, 1] rfl)
    · skip
      refine lv_iconst (v := (nI 1)) hx hb dX3_hasCell_12 (by decide) ?_
      refine lv_goto (tgt := 17) hx hb dX3_hasCell_13 (by decide) ?_
      have e_6 := (show (nI 1) = (nI (if (¬ (x < 0)) ∧ (¬ ((nI sz) ≤ x)) then 1 else 0)) from congrArg nI (if_pos (⟨c_2, c_4⟩)).symm)
      refine k_eqi (show (nI 1) = (nI (if (¬ (x < 0)) ∧ (¬ ((nI sz) ≤ x)) then 1 else 0)) from congrArg nI (if_pos (⟨c_2, c_4⟩)).symm) ?_
      exact j_1 _ _ _ hP hD hS (lv_sub hl [0, 1] rfl)
def rm_X3_hasCells : Room := { frames := 0, cells := 0, slots := 0, locals := 0 }
set_option maxHeartbeats 4000000 in
set_option maxRecDepth 100000 in
theorem c_X3_hasCells (l : Launch) (D : va_G) (cI cZ cS cP : ClassId) (hH : Nat) (q1 : Nat) (f : Nat → Int32) (fl : Nat) (ln : Nat) (sz : Nat) (x : Int32) (y : Int32) (hsz : sz ≤ 60) : kMi (S := Unit) l yX3_hasCells wsX3_hasCells rm_X3_hasCells D (kT cI cZ cS cP) [.ref hH, .int x, .int y] [(hH, .inr (3, [.ref q1, .int (nI fl), .int (nI ln), .int (nI sz)])), (q1, .inl (cI, 60, .inl f))] (fun r _ => r = (nI (if hcs x y sz then 1 else 0))) (fun _ => [(hH, .inr (3, [.ref q1, .int (nI fl), .int (nI ln), .int (nI sz)])), (q1, .inl (cI, 60, .inl f))]) := by
  refine kMet_i (cc := cX3_hasCells) (maxL := 3) (ty := .boolean) (by decide) rfl (Nat.le_of_ble_eq_true rfl) (fun _ _ q => by (first | subst q | (obtain ⟨q, -⟩ := q; subst q)); (first | exact kz_nr | decide)) ?_
  intro p e s m args below meth c A Q ls C hlocks hin hN hK hP hD hS hA hl ret
  obtain ⟨hx, hb, hml, hown, hts⟩ := C
  have hl : lv_has ls 3 [(0, .ref hH), (1, .int x), (2, .int y)] := hl
  have in_X3 : ∀ w ∈ wsX30, w ∈ wsX3_hasCells := by decide +kernel
  have lk0 := hts (.fieldLink RX3 29 "SilkWord$Sheet" "size" "I") (by decide +kernel)
  refine lv_iload_n hx hb dX3_hasCells_0 rfl (lv_at hl 1 rfl) ?_
  have j_1 : ∀ (H : Heap) (locs : List Loc) (ls : Array Slot), va_P D vwCl [(hH, .inr (3, [.ref q1, .int (nI fl), .int (nI ln), .int (nI sz)])), (q1, .inl (cI, 60, .inl f))] H → va_D A [(hH, .inr (3, [.ref q1, .int (nI fl), .int (nI ln), .int (nI sz)])), (q1, .inl (cI, 60, .inl f))] → va_S A s.heap H locs → lv_has ls 3 [(0, .ref hH), (1, .int x), (2, .int y)] → W p l e rm_X3_hasCells s m args below meth c H locs 0 0 Q (F0 m 31 ls [.int (nI (if (¬ (x < 0)) ∧ ((¬ ((nI sz) < x)) ∧ ((¬ (y < 0)) ∧ (¬ (((nI sz) - x) < y)))) then 1 else 0))]) := by
    clear hP hD hS hl
    intro H locs ls hP hD hS hl
    exact ret _ () _ _ _ _ dX3_hasCells_31 (congrArg nI (show (if (¬ (x < 0)) ∧ ((¬ ((nI sz) < x)) ∧ ((¬ (y < 0)) ∧ (¬ (((nI sz) - x) < y)))) then 1 else 0) = (if hcs x y sz then 1 else 0) by exact k_ifc (hcs_form x y (by omega)))) hP hD hS
  refine lv_if_lt (tgt := 30) hx hb dX3_hasCells_1 (by decide) (fun c_2 => ?_) (fun c_2 => ?_)
  · skip
    refine lv_iconst (v := (nI 0)) hx hb dX3_hasCells_30 (by decide) ?_
    have e_3 := (show (nI 0) = (nI (if (¬ (x < 0)) ∧ ((¬ ((nI sz) < x)) ∧ ((¬ (y < 0)) ∧ (¬ (((nI sz) - x) < y)))) then 1 else 0)) from congrArg nI (if_neg (fun z => (fun z => z c_2) z.1)).symm)
    refine k_eqi (show (nI 0) = (nI (if (¬ (x < 0)) ∧ ((¬ ((nI sz) < x)) ∧ ((¬ (y < 0)) ∧ (¬ (((nI sz) - x) < y)))) then 1 else 0)) from congrArg nI (if_neg (fun z => (fun z => z c_2) z.1)).symm) ?_
    exact j_1 _ _ _ hP hD hS (lv_sub hl [0, 1, 2] rfl)
  · skip
    refine lv_iload_n hx hb dX3_hasCells_4 rfl (lv_at hl 1 rfl) ?_
    refine lv_aload_n hx hb dX3_hasCells_5 rfl (lv_at hl 0 rfl) ?_
    refine va_get (D := D) (ci := 3) (v := .int (nI sz)) (C := RX3) (T := TX3) (N := 4) hx hb hts in_X3 hown hK hP 0 rfl rfl 3 (by decide) lk0 (fun _ h9 => h9) rfl dX3_hasCells_6 ?_
    refine lv_icmp_gt (tgt := 30) hx hb dX3_hasCells_9 (by decide) (fun c_4 => ?_) (fun c_4 => ?_)
    · skip
      refine lv_iconst (v := (nI 0)) hx hb dX3_hasCells_30 (by decide) ?_
      have e_5 := (show (nI 0) = (nI (if (¬ (x < 0)) ∧ ((¬ ((nI sz) < x)) ∧ ((¬ (y < 0)) ∧ (¬ (((nI sz) - x) < y)))) then 1 else 0)) from congrArg nI (if_neg (fun z => (fun z => (fun z => z c_4) z.1) z.2)).symm)
      refine k_eqi (show (nI 0) = (nI (if (¬ (x < 0)) ∧ ((¬ ((nI sz) < x)) ∧ ((¬ (y < 0)) ∧ (¬ (((nI sz) - x) < y)))) then 1 else 0)) from congrArg nI (if_neg (fun z => (fun z => (fun z => z c_4) z.1) z.2)).symm) ?_
      exact j_1 _ _ _ hP hD hS (lv_sub hl [0, 1, 2] rfl)
    · skip
      refine lv_iload_n hx hb dX3_hasCells_12 rfl (lv_at hl 2 rfl) ?_
      refine lv_if_lt (tgt := 30) hx hb dX3_hasCells_13 (by decide) (fun c_6 => ?_) (fun c_6 => ?_)
      · skip
        refine lv_iconst (v := (nI 0)) hx hb dX3_hasCells_30 (by decide) ?_
        have e_7 := (show (nI 0) = (nI (if (¬ (x < 0)) ∧ ((¬ ((nI sz) < x)) ∧ ((¬ (y < 0)) ∧ (¬ (((nI sz) - x) < y)))) then 1 else 0)) from congrArg nI (if_neg (fun z => (fun z => (fun z => (fun z => z c_6) z.1) z.2) z.2)).symm)
        refine k_eqi (show (nI 0) = (nI (if (¬ (x < 0)) ∧ ((¬ ((nI sz) < x)) ∧ ((¬ (y < 0)) ∧ (¬ (((nI sz) - x) < y)))) then 1 else 0)) from congrArg nI (if_neg (fun z => (fun z => (fun z => (fun z => z c_6) z.1) z.2) z.2)).symm) ?_
        exact j_1 _ _ _ hP hD hS (lv_sub hl [0, 1, 2] rfl)
      · skip
        refine lv_iload_n hx hb dX3_hasCells_16 rfl (lv_at hl 2 rfl) ?_
        refine lv_aload_n hx hb dX3_hasCells_17 rfl (lv_at hl 0 rfl) ?_
        refine va_get (D := D) (ci := 3) (v := .int (nI sz)) (C := RX3) (T := TX3) (N := 4) hx hb hts in_X3 hown hK hP 0 rfl rfl 3 (by decide) lk0 (fun _ h9 => h9) rfl dX3_hasCells_18 ?_
        refine lv_iload_n hx hb dX3_hasCells_21 rfl (lv_at hl 1 rfl) ?_
        refine lv_isub hx hb dX3_hasCells_22 ?_
        refine lv_icmp_gt (tgt := 30) hx hb dX3_hasCells_23 (by decide) (fun c_8 => ?_) (fun c_8 => ?_)
        · skip
          refine lv_iconst (v := (nI 0)) hx hb dX3_hasCells_30 (by decide) ?_
          have e_9 := (show (nI 0) = (nI (if (¬ (x < 0)) ∧ ((¬ ((nI sz) < x)) ∧ ((¬ (y < 0)) ∧ (¬ (((nI sz) - x) < y)))) then 1 else 0)) from congrArg nI (if_neg (fun z => (fun z => (fun z => (fun z => z c_8) z.2) z.2) z.2)).symm)
          refine k_eqi (show (nI 0) = (nI (if (¬ (x < 0)) ∧ ((¬ ((nI sz) < x)) ∧ ((¬ (y < 0)) ∧ (¬ (((nI sz) - x) < y)))) then 1 else 0)) from congrArg nI (if_neg (fun z => (fun z => (fun z => (fun z => z c_8) z.2) z.2) z.2)).symm) ?_
          exact j_1 _ _ _ hP hD hS (lv_sub hl [0, 1, 2] rfl)
        · skip
          refine lv_iconst (v := (nI 1)) hx hb dX3_hasCells_26 (by decide) ?_
          refine lv_goto (tgt := 31) hx hb dX3_hasCells_27 (by decide) ?_
          have e_10 := (show (nI 1) = (nI (if (¬ (x < 0)) ∧ ((¬ ((nI sz) < x)) ∧ ((¬ (y < 0)) ∧ (¬ (((nI sz) - x) < y)))) then 1 else 0)) from congrArg nI (if_pos (⟨c_2, ⟨c_4, ⟨c_6, c_8⟩⟩⟩)).symm)
          refine k_eqi (show (nI 1) = (nI (if (¬ (x < 0)) ∧ ((¬ ((nI sz) < x)) ∧ ((¬ (y < 0)) ∧ (¬ (((nI sz) - x) < y)))) then 1 else 0)) from congrArg nI (if_pos (⟨c_2, ⟨c_4, ⟨c_6, c_8⟩⟩⟩)).symm) ?_
          exact j_1 _ _ _ hP hD hS (lv_sub hl [0, 1, 2] rfl)
def rm_X3_at : Room := { frames := 1, cells := 0, slots := 0, locals := 21 }
set_option maxHeartbeats 4000000 in
set_option maxRecDepth 100000 in
theorem c_X3_at (l : Launch) (D : va_G) (cI cZ cS cP : ClassId) (hH : Nat) (q1 : Nat) (f : Nat → Int32) (fl : Nat) (ln : Nat) (sz : Nat) (k : Nat) (hsz : sz ≤ 60) (hk : k < sz) : kMi (S := Unit) l yX3_at wsX3_at rm_X3_at D (kT cI cZ cS cP) [.ref hH, .int (nI k)] [(hH, .inr (3, [.ref q1, .int (nI fl), .int (nI ln), .int (nI sz)])), (q1, .inl (cI, 60, .inl f))] (fun r _ => r = (f k)) (fun _ => [(hH, .inr (3, [.ref q1, .int (nI fl), .int (nI ln), .int (nI sz)])), (q1, .inl (cI, 60, .inl f))]) := by
  refine kMet_i (cc := cX3_at) (maxL := 2) (ty := .int) (by decide) rfl (Nat.le_of_ble_eq_true rfl) (fun _ _ _ => rfl) ?_
  intro p e s m args below meth c A Q ls C hlocks hin hN hK hP hD hS hA hl ret
  obtain ⟨hx, hb, hml, hown, hts⟩ := C
  have hl : lv_has ls 2 [(0, .ref hH), (1, .int (nI k))] := hl
  have in_X3 : ∀ w ∈ wsX30, w ∈ wsX3_at := by decide +kernel
  have lk0 := hts (.fieldLink RX3 9 "SilkWord$Sheet" "cells" "[I") (by decide +kernel)
  refine lv_aload_n hx hb dX3_at_0 rfl (lv_at hl 0 rfl) ?_
  refine lv_iload_n hx hb dX3_at_1 rfl (lv_at hl 1 rfl) ?_
  refine k_goi (S := Unit) (va_runV (As := [.int (nI k)]) (rest := []) ⟨hx, hb, hml, hown, hts⟩ (c_X3_hasCell l D cI cZ cS cP hH q1 f fl ln sz (nI k) (by first | assumption | omega) _) (cwV 1 hts gX3_at_X3_hasCell rfl rfl rfl (by decide +kernel) ⟨Nat.le_of_ble_eq_true rfl, Nat.le_of_ble_eq_true rfl⟩) (kPreV hN hK hP hD [0, 1] rfl rfl (q0 := 0) (ci := 3) (q := (RX3, TX3, 4)) rfl rfl) rfl rfl hl.1 rfl (lv_room (Nat.le_of_ble_eq_true rfl)) dX3_at_2 ⟨Nat.le_of_ble_eq_true rfl, Nat.le_of_ble_eq_true rfl⟩) hP hD hS hA [0, 1] rfl [hH, q1] rfl (fun _ => rfl) 2 [] rfl (fun _u => [(hH, .inr (3, [.ref q1, .int (nI fl), .int (nI ln), .int (nI sz)])), (q1, .inl (cI, 60, .inl f))]) (fun _ => rfl) [] [] (fun _ => rfl) rfl (fun _ => rfl) rfl (fun r_1 _u H locs hr_2 hP hD hS => ?_)
  have hP : va_P D vwCl [(hH, .inr (3, [.ref q1, .int (nI fl), .int (nI ln), .int (nI sz)])), (q1, .inl (cI, 60, .inl f))] H := hP
  have hD : va_D A [(hH, .inr (3, [.ref q1, .int (nI fl), .int (nI ln), .int (nI sz)])), (q1, .inl (cI, 60, .inl f))] := hD
  subst hr_2
  refine k_ifc_eq (tgt := 17) hx hb dX3_at_5 (by decide) (fun c_3 => absurd c_3 (not_not_intro ((inR_nI (by omega)).mpr hk))) (fun c_3 => ?_)
  refine lv_aload_n hx hb dX3_at_8 rfl (lv_at hl 0 rfl) ?_
  refine va_get (D := D) (ci := 3) (v := .ref q1) (C := RX3) (T := TX3) (N := 4) hx hb hts in_X3 hown hK hP 0 rfl rfl 0 (by decide) lk0 (fun _ h9 => h9) rfl dX3_at_9 ?_
  refine lv_iload_n hx hb dX3_at_12 rfl (lv_at hl 1 rfl) ?_
  refine k_iald hx hb hK hP 1 0 rfl rfl (show k < 60 by omega) (by decide) dX3_at_13 ?_
  refine lv_goto (tgt := 18) hx hb dX3_at_14 (by decide) ?_
  exact ret _ () _ _ _ _ dX3_at_18 (rfl) hP hD hS
def rm_X3_cut : Room := { frames := 0, cells := 0, slots := 0, locals := 0 }
set_option maxHeartbeats 4000000 in
set_option maxRecDepth 100000 in
theorem c_X3_cut (l : Launch) (D : va_G) (cI cZ cS cP : ClassId) (hH : Nat) (q1 : Nat) (f : Nat → Int32) (fl : Nat) (ln : Nat) (sz : Nat) (v : Int32) (hln : ln < 3) : kMi (S := Unit) l yX3_cut wsX3_cut rm_X3_cut D (kT cI cZ cS cP) [.ref hH, .int v] [(hH, .inr (3, [.ref q1, .int (nI fl), .int (nI ln), .int (nI sz)])), (q1, .inl (cI, 60, .inl f))] (fun r _ => r = (cutv ln v)) (fun _ => [(hH, .inr (3, [.ref q1, .int (nI fl), .int (nI ln), .int (nI sz)])), (q1, .inl (cI, 60, .inl f))]) := by
  refine kMet_i (cc := cX3_cut) (maxL := 2) (ty := .int) (by decide) rfl (Nat.le_of_ble_eq_true rfl) (fun _ _ _ => rfl) ?_
  intro p e s m args below meth c A Q ls C hlocks hin hN hK hP hD hS hA hl ret
  obtain ⟨hx, hb, hml, hown, hts⟩ := C
  have hl : lv_has ls 2 [(0, .ref hH), (1, .int v)] := hl
  have in_X3 : ∀ w ∈ wsX30, w ∈ wsX3_cut := by decide +kernel
  have lk0 := hts (.fieldLink RX3 19 "SilkWord$Sheet" "lane" "I") (by decide +kernel)
  refine lv_aload_n hx hb dX3_cut_0 rfl (lv_at hl 0 rfl) ?_
  refine va_get (D := D) (ci := 3) (v := .int (nI ln)) (C := RX3) (T := TX3) (N := 4) hx hb hts in_X3 hown hK hP 0 rfl rfl 2 (by decide) lk0 (fun _ h9 => h9) rfl dX3_cut_1 ?_
  refine k_if_ne (tgt := 10) hx hb dX3_cut_4 (by decide) (show ln < 2 ^ 31 by first | omega | (split <;> omega)) (fun c_1 => ?_) (fun c_1 => ?_)
  · skip
    refine lv_aload_n hx hb dX3_cut_10 rfl (lv_at hl 0 rfl) ?_
    refine va_get (D := D) (ci := 3) (v := .int (nI ln)) (C := RX3) (T := TX3) (N := 4) hx hb hts in_X3 hown hK hP 0 rfl rfl 2 (by decide) lk0 (fun _ h9 => h9) rfl dX3_cut_11 ?_
    refine lv_iconst (v := (nI 1)) hx hb dX3_cut_14 (by decide) ?_
    have j_2 : ∀ (H : Heap) (locs : List Loc) (ls : Array Slot), va_P D vwCl [(hH, .inr (3, [.ref q1, .int (nI fl), .int (nI ln), .int (nI sz)])), (q1, .inl (cI, 60, .inl f))] H → va_D A [(hH, .inr (3, [.ref q1, .int (nI fl), .int (nI ln), .int (nI sz)])), (q1, .inl (cI, 60, .inl f))] → va_S A s.heap H locs → lv_has ls 2 [(0, .ref hH), (1, .int v)] → W p l e rm_X3_cut s m args below meth c H locs 0 0 Q (F0 m 24 ls [.int (if ln = 1 then v.toInt16.toInt32 else v)]) := by
      clear hP hD hS hl
      intro H locs ls hP hD hS hl
      exact ret _ () _ _ _ _ dX3_cut_24 (show ((if ln = 1 then v.toInt16.toInt32 else v) : Int32) = (cutv ln v) by first | rfl | (simp [cutv, *]; done) | (simp only [cutv]; (repeat' split) <;> simp_all)) hP hD hS
    refine k_icmp_ne (tgt := 23) hx hb dX3_cut_15 (by decide) (show ln < 2 ^ 31 by first | omega | (split <;> omega)) (show 1 < 2 ^ 31 by first | omega | (split <;> omega)) (fun c_3 => ?_) (fun c_3 => ?_)
    · skip
      refine lv_iload_n hx hb dX3_cut_23 rfl (lv_at hl 1 rfl) ?_
      have e_4 := (show v = (if ln = 1 then v.toInt16.toInt32 else v) from Eq.symm (if_neg c_3))
      refine k_eqi (show v = (if ln = 1 then v.toInt16.toInt32 else v) from Eq.symm (if_neg c_3)) ?_
      exact j_2 _ _ _ hP hD hS (lv_sub hl [0, 1] rfl)
    · skip
      refine lv_iload_n hx hb dX3_cut_18 rfl (lv_at hl 1 rfl) ?_
      refine lv_i2s (v := v.toInt16.toInt32) hx hb dX3_cut_19 rfl ?_
      refine lv_goto (tgt := 24) hx hb dX3_cut_20 (by decide) ?_
      have e_5 := (show v.toInt16.toInt32 = (if ln = 1 then v.toInt16.toInt32 else v) from Eq.symm (if_pos c_3))
      refine k_eqi (show v.toInt16.toInt32 = (if ln = 1 then v.toInt16.toInt32 else v) from Eq.symm (if_pos c_3)) ?_
      exact j_2 _ _ _ hP hD hS (lv_sub hl [0, 1] rfl)
  · skip
    refine lv_iload_n hx hb dX3_cut_7 rfl (lv_at hl 1 rfl) ?_
    refine lv_i2b (v := v.toInt8.toInt32) hx hb dX3_cut_8 rfl ?_
    exact ret _ () _ _ _ _ dX3_cut_9 (show (v.toInt8.toInt32 : Int32) = (cutv ln v) by first | rfl | (simp [cutv, *]; done) | (simp only [cutv]; (repeat' split) <;> simp_all)) hP hD hS
def rm_X3_set : Room := { frames := 1, cells := 0, slots := 0, locals := 21 }
set_option maxHeartbeats 4000000 in
set_option maxRecDepth 100000 in
theorem c_X3_set (l : Launch) (D : va_G) (cI cZ cS cP : ClassId) (hH : Nat) (q1 : Nat) (f : Nat → Int32) (fl : Nat) (ln : Nat) (sz : Nat) (k : Nat) (v : Int32) (hsz : sz ≤ 60) (hln : ln < 3) (hk : k < sz) : kMv (S := Unit) l yX3_set wsX3_set rm_X3_set D (kT cI cZ cS cP) [.ref hH, .int (nI k), .int v] [(hH, .inr (3, [.ref q1, .int (nI fl), .int (nI ln), .int (nI sz)])), (q1, .inl (cI, 60, .inl f))] (fun _ => True) (fun _ => [(hH, .inr (3, [.ref q1, .int (nI fl), .int (nI ln), .int (nI sz)])), (q1, .inl (cI, 60, .inl (upd f k (cutv ln v))))]) := by
  refine kMet_v (cc := cX3_set) (maxL := 3) (by decide) rfl (Nat.le_of_ble_eq_true rfl) ?_
  intro p e s m args below meth c A Q ls C hlocks hin hN hK hP hD hS hA hl ret
  obtain ⟨hx, hb, hml, hown, hts⟩ := C
  have hl : lv_has ls 3 [(0, .ref hH), (1, .int (nI k)), (2, .int v)] := hl
  have in_X3 : ∀ w ∈ wsX30, w ∈ wsX3_set := by decide +kernel
  have lk0 := hts (.fieldLink RX3 9 "SilkWord$Sheet" "cells" "[I") (by decide +kernel)
  refine lv_aload_n hx hb dX3_set_0 rfl (lv_at hl 0 rfl) ?_
  refine lv_iload_n hx hb dX3_set_1 rfl (lv_at hl 1 rfl) ?_
  refine k_goi (S := Unit) (va_runV (As := [.int (nI k)]) (rest := []) ⟨hx, hb, hml, hown, hts⟩ (c_X3_hasCell l D cI cZ cS cP hH q1 f fl ln sz (nI k) (by first | assumption | omega) _) (cwV 1 hts gX3_set_X3_hasCell rfl rfl rfl (by decide +kernel) ⟨Nat.le_of_ble_eq_true rfl, Nat.le_of_ble_eq_true rfl⟩) (kPreV hN hK hP hD [0, 1] rfl rfl (q0 := 0) (ci := 3) (q := (RX3, TX3, 4)) rfl rfl) rfl rfl hl.1 rfl (lv_room (Nat.le_of_ble_eq_true rfl)) dX3_set_2 ⟨Nat.le_of_ble_eq_true rfl, Nat.le_of_ble_eq_true rfl⟩) hP hD hS hA [0, 1] rfl [hH, q1] rfl (fun _ => rfl) 2 [] rfl (fun _u => [(hH, .inr (3, [.ref q1, .int (nI fl), .int (nI ln), .int (nI sz)])), (q1, .inl (cI, 60, .inl f))]) (fun _ => rfl) [] [] (fun _ => rfl) rfl (fun _ => rfl) rfl (fun r_1 _u H locs hr_2 hP hD hS => ?_)
  have hP : va_P D vwCl [(hH, .inr (3, [.ref q1, .int (nI fl), .int (nI ln), .int (nI sz)])), (q1, .inl (cI, 60, .inl f))] H := hP
  have hD : va_D A [(hH, .inr (3, [.ref q1, .int (nI fl), .int (nI ln), .int (nI sz)])), (q1, .inl (cI, 60, .inl f))] := hD
  subst hr_2
  refine k_ifc_eq (tgt := 19) hx hb dX3_set_5 (by decide) (fun c_3 => absurd c_3 (not_not_intro ((inR_nI (by omega)).mpr hk))) (fun c_3 => ?_)
  refine lv_aload_n hx hb dX3_set_8 rfl (lv_at hl 0 rfl) ?_
  refine va_get (D := D) (ci := 3) (v := .ref q1) (C := RX3) (T := TX3) (N := 4) hx hb hts in_X3 hown hK hP 0 rfl rfl 0 (by decide) lk0 (fun _ h9 => h9) rfl dX3_set_9 ?_
  refine lv_iload_n hx hb dX3_set_12 rfl (lv_at hl 1 rfl) ?_
  refine lv_aload_n hx hb dX3_set_13 rfl (lv_at hl 0 rfl) ?_
  refine lv_iload_n hx hb dX3_set_14 rfl (lv_at hl 2 rfl) ?_
  refine k_goi (S := Unit) (va_runV (As := [.int v]) (rest := [.int (nI k), .ref q1]) ⟨hx, hb, hml, hown, hts⟩ (c_X3_cut l D cI cZ cS cP hH q1 f fl ln sz v (by first | assumption | omega) _) (cwV 1 hts gX3_set_X3_cut rfl rfl rfl (by decide +kernel) ⟨Nat.le_of_ble_eq_true rfl, Nat.le_of_ble_eq_true rfl⟩) (kPreV hN hK hP hD [0, 1] rfl rfl (q0 := 0) (ci := 3) (q := (RX3, TX3, 4)) rfl rfl) rfl rfl hl.1 rfl (lv_room (Nat.le_of_ble_eq_true rfl)) dX3_set_15 ⟨Nat.le_of_ble_eq_true rfl, Nat.le_of_ble_eq_true rfl⟩) hP hD hS hA [0, 1] rfl [hH, q1] rfl (fun _ => rfl) 2 [] rfl (fun _u => [(hH, .inr (3, [.ref q1, .int (nI fl), .int (nI ln), .int (nI sz)])), (q1, .inl (cI, 60, .inl f))]) (fun _ => rfl) [] [] (fun _ => rfl) rfl (fun _ => rfl) rfl (fun r_4 _u H locs hr_5 hP hD hS => ?_)
  have hP : va_P D vwCl [(hH, .inr (3, [.ref q1, .int (nI fl), .int (nI ln), .int (nI sz)])), (q1, .inl (cI, 60, .inl f))] H := hP
  have hD : va_D A [(hH, .inr (3, [.ref q1, .int (nI fl), .int (nI ln), .int (nI sz)])), (q1, .inl (cI, 60, .inl f))] := hD
  subst hr_5
  refine k_iast hx hb hK hP hD hS 1 0 rfl rfl (show k < 60 by omega) (by decide) dX3_set_18 (fun H locs hP hD hS => ?_)
  have hP : va_P D vwCl [(hH, .inr (3, [.ref q1, .int (nI fl), .int (nI ln), .int (nI sz)])), (q1, .inl (cI, 60, .inl (upd f k (cutv ln v))))] H := hP
  have hD : va_D A [(hH, .inr (3, [.ref q1, .int (nI fl), .int (nI ln), .int (nI sz)])), (q1, .inl (cI, 60, .inl (upd f k (cutv ln v))))] := hD
  exact ret () _ _ _ _ dX3_set_19 trivial hP hD hS
def rm_X3_faultOfLane : Room := { frames := 0, cells := 0, slots := 0, locals := 0 }
set_option maxHeartbeats 4000000 in
set_option maxRecDepth 100000 in
theorem c_X3_faultOfLane (l : Launch) (D : va_G) (cI cZ cS cP : ClassId) (hH : Nat) (q1 : Nat) (f : Nat → Int32) (fl : Nat) (ln : Nat) (sz : Nat) (a : Nat) (hfl : fl < 2) (hln : ln < 3) (hsz : sz ≤ 60) (ha : a < 3) : kMi (S := Unit) l yX3_faultOfLane wsX3_faultOfLane rm_X3_faultOfLane D (kT cI cZ cS cP) [.ref hH, .int (nI a)] [(hH, .inr (3, [.ref q1, .int (nI fl), .int (nI ln), .int (nI sz)])), (q1, .inl (cI, 60, .inl f))] (fun r _ => r = (nI (fLane fl a ln))) (fun _ => [(hH, .inr (3, [.ref q1, .int (nI fl), .int (nI ln), .int (nI sz)])), (q1, .inl (cI, 60, .inl f))]) := by
  refine kMet_i (cc := cX3_faultOfLane) (maxL := 2) (ty := .int) (by decide) rfl (Nat.le_of_ble_eq_true rfl) (fun _ _ _ => rfl) ?_
  intro p e s m args below meth c A Q ls C hlocks hin hN hK hP hD hS hA hl ret
  obtain ⟨hx, hb, hml, hown, hts⟩ := C
  have hl : lv_has ls 2 [(0, .ref hH), (1, .int (nI a))] := hl
  have in_X3 : ∀ w ∈ wsX30, w ∈ wsX3_faultOfLane := by decide +kernel
  have lk0 := hts (.fieldLink RX3 15 "SilkWord$Sheet" "filled" "Z") (by decide +kernel)
  have lk1 := hts (.fieldLink RX3 19 "SilkWord$Sheet" "lane" "I") (by decide +kernel)
  refine lv_aload_n hx hb dX3_faultOfLane_0 rfl (lv_at hl 0 rfl) ?_
  refine va_get (D := D) (ci := 3) (v := .int (nI fl)) (C := RX3) (T := TX3) (N := 4) hx hb hts in_X3 hown hK hP 0 rfl rfl 1 (by decide) lk0 (fun _ h9 => h9) rfl dX3_faultOfLane_1 ?_
  refine k_if_ne (tgt := 9) hx hb dX3_faultOfLane_4 (by decide) (show fl < 2 ^ 31 by first | omega | (split <;> omega)) (fun c_1 => ?_) (fun c_1 => ?_)
  · skip
    refine lv_iload_n hx hb dX3_faultOfLane_9 rfl (lv_at hl 1 rfl) ?_
    refine lv_aload_n hx hb dX3_faultOfLane_10 rfl (lv_at hl 0 rfl) ?_
    refine va_get (D := D) (ci := 3) (v := .int (nI ln)) (C := RX3) (T := TX3) (N := 4) hx hb hts in_X3 hown hK hP 0 rfl rfl 2 (by decide) lk1 (fun _ h9 => h9) rfl dX3_faultOfLane_11 ?_
    have j_2 : ∀ (H : Heap) (locs : List Loc) (ls : Array Slot), va_P D vwCl [(hH, .inr (3, [.ref q1, .int (nI fl), .int (nI ln), .int (nI sz)])), (q1, .inl (cI, 60, .inl f))] H → va_D A [(hH, .inr (3, [.ref q1, .int (nI fl), .int (nI ln), .int (nI sz)])), (q1, .inl (cI, 60, .inl f))] → va_S A s.heap H locs → lv_has ls 2 [(0, .ref hH), (1, .int (nI a))] → W p l e rm_X3_faultOfLane s m args below meth c H locs 0 0 Q (F0 m 22 ls [.int (nI (if a = ln then 0 else 2))]) := by
      clear hP hD hS hl
      intro H locs ls hP hD hS hl
      exact ret _ () _ _ _ _ dX3_faultOfLane_22 (congrArg nI (show (if a = ln then 0 else 2) = fLane fl a ln by first | (simp [fLane, *]; done) | (simp only [fLane]; (repeat' split) <;> simp_all))) hP hD hS
    refine k_icmp_ne (tgt := 21) hx hb dX3_faultOfLane_14 (by decide) (show a < 2 ^ 31 by first | omega | (split <;> omega)) (show ln < 2 ^ 31 by first | omega | (split <;> omega)) (fun c_3 => ?_) (fun c_3 => ?_)
    · skip
      refine lv_iconst (v := (nI 2)) hx hb dX3_faultOfLane_21 (by decide) ?_
      have e_4 := (show (nI 2) = (nI (if a = ln then 0 else 2)) from congrArg nI (Eq.symm (if_neg c_3)))
      refine k_eqi (show (nI 2) = (nI (if a = ln then 0 else 2)) from congrArg nI (Eq.symm (if_neg c_3))) ?_
      exact j_2 _ _ _ hP hD hS (lv_sub hl [0, 1] rfl)
    · skip
      refine lv_iconst (v := (nI 0)) hx hb dX3_faultOfLane_17 (by decide) ?_
      refine lv_goto (tgt := 22) hx hb dX3_faultOfLane_18 (by decide) ?_
      have e_5 := (show (nI 0) = (nI (if a = ln then 0 else 2)) from congrArg nI (Eq.symm (if_pos c_3)))
      refine k_eqi (show (nI 0) = (nI (if a = ln then 0 else 2)) from congrArg nI (Eq.symm (if_pos c_3))) ?_
      exact j_2 _ _ _ hP hD hS (lv_sub hl [0, 1] rfl)
  · skip
    refine lv_iconst (v := (nI 1)) hx hb dX3_faultOfLane_7 (by decide) ?_
    exact ret _ () _ _ _ _ dX3_faultOfLane_8 (congrArg nI (show 1 = fLane fl a ln by first | (simp [fLane, *]; done) | (simp only [fLane]; (repeat' split) <;> simp_all))) hP hD hS
def rm_X3_faultOfTaking : Room := { frames := 1, cells := 0, slots := 0, locals := 22 }
set_option maxHeartbeats 4000000 in
set_option maxRecDepth 100000 in
theorem c_X3_faultOfTaking (l : Launch) (D : va_G) (cI cZ cS cP : ClassId) (hH : Nat) (q1 : Nat) (f : Nat → Int32) (fl : Nat) (ln : Nat) (sz : Nat) (a : Nat) (x : Int32) (y : Int32) (hfl : fl < 2) (hln : ln < 3) (hsz : sz ≤ 60) (ha : a < 3) : kMi (S := Unit) l yX3_faultOfTaking wsX3_faultOfTaking rm_X3_faultOfTaking D (kT cI cZ cS cP) [.ref hH, .int (nI a), .int x, .int y] [(hH, .inr (3, [.ref q1, .int (nI fl), .int (nI ln), .int (nI sz)])), (q1, .inl (cI, 60, .inl f))] (fun r _ => r = (nI (fTake fl a ln sz x y))) (fun _ => [(hH, .inr (3, [.ref q1, .int (nI fl), .int (nI ln), .int (nI sz)])), (q1, .inl (cI, 60, .inl f))]) := by
  refine kMet_i (cc := cX3_faultOfTaking) (maxL := 5) (ty := .int) (by decide) rfl (Nat.le_of_ble_eq_true rfl) (fun _ _ _ => rfl) ?_
  intro p e s m args below meth c A Q ls C hlocks hin hN hK hP hD hS hA hl ret
  obtain ⟨hx, hb, hml, hown, hts⟩ := C
  have hl : lv_has ls 5 [(0, .ref hH), (1, .int (nI a)), (2, .int x), (3, .int y)] := hl
  refine lv_aload_n hx hb dX3_faultOfTaking_0 rfl (lv_at hl 0 rfl) ?_
  refine lv_iload_n hx hb dX3_faultOfTaking_1 rfl (lv_at hl 1 rfl) ?_
  refine k_goi (S := Unit) (va_runV (As := [.int (nI a)]) (rest := []) ⟨hx, hb, hml, hown, hts⟩ (c_X3_faultOfLane l D cI cZ cS cP hH q1 f fl ln sz a (by first | assumption | omega) (by first | assumption | omega) (by first | assumption | omega) (by first | assumption | omega) _) (cwV 1 hts gX3_faultOfTaking_X3_faultOfLane rfl rfl rfl (by decide +kernel) ⟨Nat.le_of_ble_eq_true rfl, Nat.le_of_ble_eq_true rfl⟩) (kPreV hN hK hP hD [0, 1] rfl rfl (q0 := 0) (ci := 3) (q := (RX3, TX3, 4)) rfl rfl) rfl rfl hl.1 rfl (lv_room (Nat.le_of_ble_eq_true rfl)) dX3_faultOfTaking_2 ⟨Nat.le_of_ble_eq_true rfl, Nat.le_of_ble_eq_true rfl⟩) hP hD hS hA [0, 1] rfl [hH, q1] rfl (fun _ => rfl) 2 [] rfl (fun _u => [(hH, .inr (3, [.ref q1, .int (nI fl), .int (nI ln), .int (nI sz)])), (q1, .inl (cI, 60, .inl f))]) (fun _ => rfl) [] [] (fun _ => rfl) rfl (fun _ => rfl) rfl (fun r_1 _u H locs hr_2 hP hD hS => ?_)
  have hP : va_P D vwCl [(hH, .inr (3, [.ref q1, .int (nI fl), .int (nI ln), .int (nI sz)])), (q1, .inl (cI, 60, .inl f))] H := hP
  have hD : va_D A [(hH, .inr (3, [.ref q1, .int (nI fl), .int (nI ln), .int (nI sz)])), (q1, .inl (cI, 60, .inl f))] := hD
  subst hr_2
  have b_3 : fLane fl a ln < 3 := by unfold fLane; (repeat' split) <;> decide
  refine lv_istore (lv' := [(4, .int (nI (fLane fl a ln))), (0, .ref hH), (1, .int (nI a)), (2, .int x), (3, .int y)]) hx hb dX3_faultOfTaking_5 hl (by decide) rfl (fun ls hl => ?_)
  refine lv_iload hx hb dX3_faultOfTaking_7 (lv_at hl 0 rfl) ?_
  refine k_if_eq (tgt := 15) hx hb dX3_faultOfTaking_9 (by decide) (show (fLane fl a ln) < 2 ^ 31 by first | omega | (split <;> omega)) (fun c_4 => ?_) (fun c_4 => ?_)
  · skip
    refine lv_iload_n hx hb dX3_faultOfTaking_15 rfl (lv_at hl 4 rfl) ?_
    refine lv_if_ge (tgt := 21) hx hb dX3_faultOfTaking_16 (by decide) (fun c_5 => ?_) (fun c_5 => ?_)
    · skip
      refine lv_aload_n hx hb dX3_faultOfTaking_21 rfl (lv_at hl 1 rfl) ?_
      refine lv_iload_n hx hb dX3_faultOfTaking_22 rfl (lv_at hl 3 rfl) ?_
      refine lv_iload_n hx hb dX3_faultOfTaking_23 rfl (lv_at hl 4 rfl) ?_
      refine k_goi (S := Unit) (va_runV (As := [.int x, .int y]) (rest := []) ⟨hx, hb, hml, hown, hts⟩ (c_X3_hasCells l D cI cZ cS cP hH q1 f fl ln sz x y (by first | assumption | omega) _) (cwV 2 hts gX3_faultOfTaking_X3_hasCells rfl rfl rfl (by decide +kernel) ⟨Nat.le_of_ble_eq_true rfl, Nat.le_of_ble_eq_true rfl⟩) (kPreV hN hK hP hD [0, 1] rfl rfl (q0 := 0) (ci := 3) (q := (RX3, TX3, 4)) rfl rfl) rfl rfl hl.1 rfl (lv_room (Nat.le_of_ble_eq_true rfl)) dX3_faultOfTaking_24 ⟨Nat.le_of_ble_eq_true rfl, Nat.le_of_ble_eq_true rfl⟩) hP hD hS hA [0, 1] rfl [hH, q1] rfl (fun _ => rfl) 2 [] rfl (fun _u => [(hH, .inr (3, [.ref q1, .int (nI fl), .int (nI ln), .int (nI sz)])), (q1, .inl (cI, 60, .inl f))]) (fun _ => rfl) [] [] (fun _ => rfl) rfl (fun _ => rfl) rfl (fun r_6 _u H locs hr_7 hP hD hS => ?_)
      have hP : va_P D vwCl [(hH, .inr (3, [.ref q1, .int (nI fl), .int (nI ln), .int (nI sz)])), (q1, .inl (cI, 60, .inl f))] H := hP
      have hD : va_D A [(hH, .inr (3, [.ref q1, .int (nI fl), .int (nI ln), .int (nI sz)])), (q1, .inl (cI, 60, .inl f))] := hD
      subst hr_7
      have j_8 : ∀ (H : Heap) (locs : List Loc) (ls : Array Slot), va_P D vwCl [(hH, .inr (3, [.ref q1, .int (nI fl), .int (nI ln), .int (nI sz)])), (q1, .inl (cI, 60, .inl f))] H → va_D A [(hH, .inr (3, [.ref q1, .int (nI fl), .int (nI ln), .int (nI sz)])), (q1, .inl (cI, 60, .inl f))] → va_S A s.heap H locs → lv_has ls 5 [(4, .int (nI (fLane fl a ln))), (0, .ref hH), (1, .int (nI a)), (2, .int x), (3, .int y)] → W p l e rm_X3_faultOfTaking s m args below meth c H locs 0 0 Q (F0 m 35 ls [.int (nI (if hcs x y sz then 0 else 3))]) := by
        clear hP hD hS hl
        intro H locs ls hP hD hS hl
        exact ret _ () _ _ _ _ dX3_faultOfTaking_35 (congrArg nI (show (if hcs x y sz then 0 else 3) = fTake fl a ln sz x y by first | exact fTake_1 (by assumption) | exact fTake_2 (by assumption) (by assumption) | exact fTake_3 (by assumption) (by assumption))) hP hD hS
      refine k_ifc_eq (tgt := 34) hx hb dX3_faultOfTaking_27 (by decide) (fun c_9 => ?_) (fun c_9 => ?_)
      · skip
        refine lv_iconst (v := (nI 3)) hx hb dX3_faultOfTaking_34 (by decide) ?_
        have e_10 := (show (nI 3) = (nI (if hcs x y sz then 0 else 3)) from congrArg nI (Eq.symm (if_neg c_9)))
        refine k_eqi (show (nI 3) = (nI (if hcs x y sz then 0 else 3)) from congrArg nI (Eq.symm (if_neg c_9))) ?_
        exact j_8 _ _ _ hP hD hS (lv_sub hl [0, 1, 2, 3, 4] rfl)
      · skip
        refine lv_iconst (v := (nI 0)) hx hb dX3_faultOfTaking_30 (by decide) ?_
        refine lv_goto (tgt := 35) hx hb dX3_faultOfTaking_31 (by decide) ?_
        have e_11 := (show (nI 0) = (nI (if hcs x y sz then 0 else 3)) from congrArg nI (Eq.symm (if_pos c_9)))
        refine k_eqi (show (nI 0) = (nI (if hcs x y sz then 0 else 3)) from congrArg nI (Eq.symm (if_pos c_9))) ?_
        exact j_8 _ _ _ hP hD hS (lv_sub hl [0, 1, 2, 3, 4] rfl)
    · skip
      refine lv_iconst (v := (nI 4)) hx hb dX3_faultOfTaking_19 (by decide) ?_
      exact ret _ () _ _ _ _ dX3_faultOfTaking_20 (congrArg nI (show 4 = fTake fl a ln sz x y by first | exact fTake_1 (by assumption) | exact fTake_2 (by assumption) (by assumption) | exact fTake_3 (by assumption) (by assumption))) hP hD hS
  · skip
    refine lv_iload hx hb dX3_faultOfTaking_12 (lv_at hl 0 rfl) ?_
    exact ret _ () _ _ _ _ dX3_faultOfTaking_14 (congrArg nI (show fLane fl a ln = fTake fl a ln sz x y by first | exact fTake_1 (by assumption) | exact fTake_2 (by assumption) (by assumption) | exact fTake_3 (by assumption) (by assumption))) hP hD hS
def rm_X3_renew : Room := { frames := 1, cells := 0, slots := 0, locals := 24 }
set_option maxHeartbeats 4000000 in
set_option maxRecDepth 100000 in
theorem c_X3_renew (l : Launch) (D : va_G) (cI cZ cS cP : ClassId) (hH : Nat) (q1 : Nat) (f : Nat → Int32) (fl : Nat) (ln : Nat) (sz : Nat) (a : Nat) (b : Nat) (ha : a < 3) (hbb : b ≤ 60) : kMv (S := Unit) l yX3_renew wsX3_renew rm_X3_renew D (kT cI cZ cS cP) [.ref hH, .int (nI a), .int (nI b)] [(hH, .inr (3, [.ref q1, .int (nI fl), .int (nI ln), .int (nI sz)])), (q1, .inl (cI, 60, .inl f))] (fun _ => True) (fun _ => [(hH, .inr (3, [.ref q1, .int (nI 1), .int (nI a), .int (nI b)])), (q1, .inl (cI, 60, .inl (zf f 60)))]) := by
  refine kMet_v (cc := cX3_renew) (maxL := 4) (by decide) rfl (Nat.le_of_ble_eq_true rfl) ?_
  intro p e s m args below meth c A Q ls C hlocks hin hN hK hP hD hS hA hl ret
  obtain ⟨hx, hb, hml, hown, hts⟩ := C
  have hl : lv_has ls 4 [(0, .ref hH), (1, .int (nI a)), (2, .int (nI b))] := hl
  have in_X3 : ∀ w ∈ wsX30, w ∈ wsX3_renew := by decide +kernel
  have lk0 := hts (.fieldLink RX3 9 "SilkWord$Sheet" "cells" "[I") (by decide +kernel)
  have lk1 := hts (.fieldLink RX3 15 "SilkWord$Sheet" "filled" "Z") (by decide +kernel)
  have lk2 := hts (.fieldLink RX3 19 "SilkWord$Sheet" "lane" "I") (by decide +kernel)
  have lk3 := hts (.methodLink RX3 23 Lib.Math.min.name) (by decide +kernel)
  have lk4 := hts (.static Lib.Math.min.name) (by decide +kernel)
  have lk5 := hts (.initialized "java/lang/Math") (by decide +kernel)
  have lk6 := hts (.code Lib.Math.min.name Lib.Math.min.code 2 (some .int)) (by decide +kernel)
  have lk7 := hts (.fieldLink RX3 29 "SilkWord$Sheet" "size" "I") (by decide +kernel)
  refine lv_iconst (v := (nI 0)) hx hb dX3_renew_0 (by decide) ?_
  refine lv_istore_n (lv' := [(3, .int (nI 0)), (0, .ref hH), (1, .int (nI a)), (2, .int (nI b))]) hx hb dX3_renew_1 rfl hl (by decide) rfl (fun ls hl => ?_)
  have e_1 : f = (zf f 0) := by exact (zf_0 f).symm
  have q_2 : ([(hH, .inr (3, [.ref q1, .int (nI fl), .int (nI ln), .int (nI sz)])), (q1, .inl (cI, 60, .inl f))] : va_W) = [(hH, .inr (3, [.ref q1, .int (nI fl), .int (nI ln), .int (nI sz)])), (q1, .inl (cI, 60, .inl (zf f 0)))] := by rw [← e_1]
  refine k_loop (α := Nat) (nL := 4) (fun k => 60 - k) (fun k => [(hH, .inr (3, [.ref q1, .int (nI fl), .int (nI ln), .int (nI sz)])), (q1, .inl (cI, 60, .inl (zf f k)))]) (fun k => [(3, .int (nI k)), (0, .ref hH), (1, .int (nI a)), (2, .int (nI b))]) (fun k => (k ≤ 60)) ?_ 0 (show (0 ≤ 60) from by omega) (kP_cast hP q_2) (kD_cast hD q_2) hS (lv_sub hl [0, 1, 2, 3] rfl)
  clear hP hD hS hl
  intro k H locs ls hI hP hD hS hl ih2
  have hk : (k ≤ 60) := hI
  have hP : va_P D vwCl [(hH, .inr (3, [.ref q1, .int (nI fl), .int (nI ln), .int (nI sz)])), (q1, .inl (cI, 60, .inl (zf f k)))] H := hP
  have hD : va_D A [(hH, .inr (3, [.ref q1, .int (nI fl), .int (nI ln), .int (nI sz)])), (q1, .inl (cI, 60, .inl (zf f k)))] := hD
  have hl : lv_has ls 4 [(3, .int (nI k)), (0, .ref hH), (1, .int (nI a)), (2, .int (nI b))] := hl
  refine lv_iload_n hx hb dX3_renew_2 rfl (lv_at hl 0 rfl) ?_
  refine lv_aload_n hx hb dX3_renew_3 rfl (lv_at hl 1 rfl) ?_
  refine va_get (D := D) (ci := 3) (v := .ref q1) (C := RX3) (T := TX3) (N := 4) hx hb hts in_X3 hown hK hP 0 rfl rfl 0 (by decide) lk0 (fun _ h9 => h9) rfl dX3_renew_4 ?_
  refine va_alen (v := nI 60) hx hb hK hP 1 0 rfl rfl rfl dX3_renew_7 ?_
  refine k_icmp_ge (tgt := 24) hx hb dX3_renew_8 (by decide) (show k < 2 ^ 31 by first | omega | (split <;> omega)) (show 60 < 2 ^ 31 by first | omega | (split <;> omega)) (fun c_3 => ?_) (fun c_3 => ?_)
  · skip
    refine lv_aload_n hx hb dX3_renew_24 rfl (lv_at hl 1 rfl) ?_
    refine lv_iconst (v := (nI 1)) hx hb dX3_renew_25 (by decide) ?_
    refine va_put (D := D) (ci := 3) (v := .int (nI 1)) (ty := .boolean) (C := RX3) (T := TX3) (N := 4) hx hb hts in_X3 tyX3 tyX3_ok nmX3 hown hK hP hD hS 0 rfl rfl 1 (by decide) lk1 (fun _ h9 => h9) rfl (by decide +kernel) (nI_z (show 1 < 2 by first | omega | (split <;> omega))).1 (nI_z (show 1 < 2 by first | omega | (split <;> omega))).2.1 (Nat.le_of_ble_eq_true rfl) dX3_renew_26 (fun H locs hP hD hS => ?_)
    have hP : va_P D vwCl [(hH, .inr (3, [.ref q1, .int (nI 1), .int (nI ln), .int (nI sz)])), (q1, .inl (cI, 60, .inl (zf f k)))] H := hP
    have hD : va_D A [(hH, .inr (3, [.ref q1, .int (nI 1), .int (nI ln), .int (nI sz)])), (q1, .inl (cI, 60, .inl (zf f k)))] := hD
    refine lv_aload_n hx hb dX3_renew_29 rfl (lv_at hl 1 rfl) ?_
    refine lv_iload_n hx hb dX3_renew_30 rfl (lv_at hl 2 rfl) ?_
    refine va_put (D := D) (ci := 3) (v := .int (nI a)) (ty := .int) (C := RX3) (T := TX3) (N := 4) hx hb hts in_X3 tyX3 tyX3_ok nmX3 hown hK hP hD hS 0 rfl rfl 2 (by decide) lk2 (fun _ h9 => h9) rfl (by decide +kernel) rfl rfl (Nat.le_of_ble_eq_true rfl) dX3_renew_31 (fun H locs hP hD hS => ?_)
    have hP : va_P D vwCl [(hH, .inr (3, [.ref q1, .int (nI 1), .int (nI a), .int (nI sz)])), (q1, .inl (cI, 60, .inl (zf f k)))] H := hP
    have hD : va_D A [(hH, .inr (3, [.ref q1, .int (nI 1), .int (nI a), .int (nI sz)])), (q1, .inl (cI, 60, .inl (zf f k)))] := hD
    refine lv_aload_n hx hb dX3_renew_34 rfl (lv_at hl 1 rfl) ?_
    refine lv_iload_n hx hb dX3_renew_35 rfl (lv_at hl 3 rfl) ?_
    refine k_if_ge (tgt := 43) hx hb dX3_renew_36 (by decide) (show b < 2 ^ 31 by first | omega | (split <;> omega)) ?_
    refine lv_iload_n hx hb dX3_renew_43 rfl (lv_at hl 3 rfl) ?_
    refine lv_aload_n hx hb dX3_renew_44 rfl (lv_at hl 1 rfl) ?_
    refine va_get (D := D) (ci := 3) (v := .ref q1) (C := RX3) (T := TX3) (N := 4) hx hb hts in_X3 hown hK hP 0 rfl rfl 0 (by decide) lk0 (fun _ h9 => h9) rfl dX3_renew_45 ?_
    refine va_alen (v := nI 60) hx hb hK hP 1 0 rfl rfl rfl dX3_renew_48 ?_
    refine va_mmin hx hb (by rw [hml]; exact hl.1.symm) hown lk3 lk4 lk5 lk6 (Nat.le_of_ble_eq_true rfl) (Nat.le_of_ble_eq_true rfl) (by decide) (by decide) dX3_renew_49 ?_
    refine k_eqi (show (if (nI 60) < (nI b) then (nI 60) else (nI b)) = (nI b) from min_ok (show b ≤ 60 by omega)) ?_
    refine va_put (D := D) (ci := 3) (v := .int (nI b)) (ty := .int) (C := RX3) (T := TX3) (N := 4) hx hb hts in_X3 tyX3 tyX3_ok nmX3 hown hK hP hD hS 0 rfl rfl 3 (by decide) lk7 (fun _ h9 => h9) rfl (by decide +kernel) rfl rfl (Nat.le_of_ble_eq_true rfl) dX3_renew_52 (fun H locs hP hD hS => ?_)
    have hP : va_P D vwCl [(hH, .inr (3, [.ref q1, .int (nI 1), .int (nI a), .int (nI b)])), (q1, .inl (cI, 60, .inl (zf f k)))] H := hP
    have hD : va_D A [(hH, .inr (3, [.ref q1, .int (nI 1), .int (nI a), .int (nI b)])), (q1, .inl (cI, 60, .inl (zf f k)))] := hD
    have e_4 : (zf f k) = (zf f 60) := by (have : k = 60 := by omega); subst this; rfl
    have q_5 : ([(hH, .inr (3, [.ref q1, .int (nI 1), .int (nI a), .int (nI b)])), (q1, .inl (cI, 60, .inl (zf f k)))] : va_W) = [(hH, .inr (3, [.ref q1, .int (nI 1), .int (nI a), .int (nI b)])), (q1, .inl (cI, 60, .inl (zf f 60)))] := by rw [← e_4]
    exact ret () _ _ _ _ dX3_renew_55 trivial (kP_cast hP q_5) (kD_cast hD q_5) hS
  · skip
    refine lv_aload_n hx hb dX3_renew_11 rfl (lv_at hl 1 rfl) ?_
    refine va_get (D := D) (ci := 3) (v := .ref q1) (C := RX3) (T := TX3) (N := 4) hx hb hts in_X3 hown hK hP 0 rfl rfl 0 (by decide) lk0 (fun _ h9 => h9) rfl dX3_renew_12 ?_
    refine lv_iload_n hx hb dX3_renew_15 rfl (lv_at hl 0 rfl) ?_
    refine lv_iconst (v := (nI 0)) hx hb dX3_renew_16 (by decide) ?_
    refine k_iast hx hb hK hP hD hS 1 0 rfl rfl (show k < 60 by omega) (by decide) dX3_renew_17 (fun H locs hP hD hS => ?_)
    have hP : va_P D vwCl [(hH, .inr (3, [.ref q1, .int (nI fl), .int (nI ln), .int (nI sz)])), (q1, .inl (cI, 60, .inl (upd (zf f k) k (nI 0))))] H := hP
    have hD : va_D A [(hH, .inr (3, [.ref q1, .int (nI fl), .int (nI ln), .int (nI sz)])), (q1, .inl (cI, 60, .inl (upd (zf f k) k (nI 0))))] := hD
    refine lv_iinc (v := (nI (k + 1))) (lv' := [(3, .int (nI (k + 1))), (0, .ref hH), (1, .int (nI a)), (2, .int (nI b))]) hx hb dX3_renew_18 hl (k := 0) rfl (nI_inc k) (by decide) rfl (fun ls hl => ?_)
    refine lv_goto (tgt := 2) hx hb dX3_renew_21 (by decide) ?_
    have e_6 : (upd (zf f k) k (nI 0)) = (zf f (k + 1)) := by exact zf_s f k
    have q_7 : ([(hH, .inr (3, [.ref q1, .int (nI fl), .int (nI ln), .int (nI sz)])), (q1, .inl (cI, 60, .inl (upd (zf f k) k (nI 0))))] : va_W) = [(hH, .inr (3, [.ref q1, .int (nI fl), .int (nI ln), .int (nI sz)])), (q1, .inl (cI, 60, .inl (zf f (k + 1))))] := by rw [← e_6]
    exact ih2 (k + 1) _ _ _ (show 60 - (k + 1) < 60 - k by omega) (show ((k + 1) ≤ 60) from by omega) (kP_cast hP q_7) (kD_cast hD q_7) hS (lv_sub hl [0, 1, 2, 3] rfl)
