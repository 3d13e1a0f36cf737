theorem k_ifc {A B : Prop} [Decidable A] [Decidable B] (h : A ↔ B) : (if A then 1 else 0 : Nat) = (if B then 1 else 0) := by
  by_cases a : A
  · rw [if_pos a, if_pos (h.mp a)]
  · rw [if_neg a, if_neg (fun b => a (h.mpr b))]
theorem kz_nr {C : Prop} [Decidable C] : narrow .boolean (.int (nI (if C then 1 else 0))) = .int (nI (if C then 1 else 0)) := by
  by_cases h : C
  · rw [if_pos h]; decide
  · rw [if_neg h]; decide
/-- how many words reach an ear by a day -/
def cntW (wp wd : Nat → Nat) (E d : Nat) : Nat → Nat
  | 0 => 0
  | k + 1 => cntW wp wd E d k + (if wd k ≤ d then (if E.testBit (wp k) = true then 1 else 0) else 0)
/-- how many whispers one is in -/
def cntH (ho hh : Nat → Nat) (p : Nat) : Nat → Nat
  | 0 => 0
  | k + 1 => cntH ho hh p k + (if ho k = p ∨ hh k = p then 1 else 0)
theorem cntW_le (wp wd : Nat → Nat) (E d : Nat) : ∀ k, cntW wp wd E d k ≤ k
  | 0 => Nat.le_refl 0
  | k + 1 => by
    have := cntW_le wp wd E d k
    simp only [cntW]
    split
    · split <;> omega
    · omega
theorem cntH_le (ho hh : Nat → Nat) (p : Nat) : ∀ k, cntH ho hh p k ≤ k
  | 0 => Nat.le_refl 0
  | k + 1 => by
    have := cntH_le ho hh p k
    simp only [cntH]
    split <;> omega
def rm_X7_words : Room := { frames := 0, cells := 0, slots := 0, locals := 0 }
set_option maxHeartbeats 4000000 in
set_option maxRecDepth 100000 in
theorem c_X7_words (l : Launch) (D : va_G) (cI cZ cS cP : ClassId) (hT : Nat) (a1 : Nat) (a2 : Nat) (a3 : Nat) (a4 : Nat) (wp : Nat → Nat) (wd : Nat → Nat) (ho : Nat → Nat) (hh : Nat → Nat) (nw : Nat) (nh : Nat) (B : Nat) : kMi (S := Unit) l yX7_words wsX7_words rm_X7_words D (kT cI cZ cS cP) [.ref hT] [(hT, .inr (7, [.ref a1, .ref a2, .ref a3, .ref a4, .int (nI nw), .int (nI nh), .int (nI B)])), (a1, .inl (cI, 13, .inl (nA wp))), (a2, .inl (cI, 13, .inl (nA wd))), (a3, .inl (cI, 7, .inl (nA ho))), (a4, .inl (cI, 7, .inl (nA hh)))] (fun r _ => r = (nI nw)) (fun _ => [(hT, .inr (7, [.ref a1, .ref a2, .ref a3, .ref a4, .int (nI nw), .int (nI nh), .int (nI B)])), (a1, .inl (cI, 13, .inl (nA wp))), (a2, .inl (cI, 13, .inl (nA wd))), (a3, .inl (cI, 7, .inl (nA ho))), (a4, .inl (cI, 7, .inl (nA hh)))]) := by
  refine kMet_i (cc := cX7_words) (maxL := 1) (ty := .int) (by decide) rfl (Nat.le_of_ble_eq_true rfl) (fun _ _ _ => rfl) ?_
  intro p e s m args below meth c A Q ls C hlocks hin hN hK hP hD hS hA hl ret
  obtain ⟨hx, hb, hml, hown, hts⟩ := C
  have hl : lv_has ls 1 [(0, .ref hT)] := hl
  have in_X7 : ∀ w ∈ wsX70, w ∈ wsX7_words := by decide +kernel
  have lk0 := hts (.fieldLink RX7 24 "SilkWord$Talk" "words" "I") (by decide +kernel)
  refine lv_aload_n hx hb dX7_words_0 rfl (lv_at hl 0 rfl) ?_
  refine va_get (D := D) (ci := 7) (v := .int (nI nw)) (C := RX7) (T := TX7) (N := 7) hx hb hts in_X7 hown hK hP 0 rfl rfl 4 (by decide) lk0 (fun _ h9 => h9) rfl dX7_words_1 ?_
  exact ret _ () _ _ _ _ dX7_words_4 (rfl) hP hD hS
def rm_X7_whispersKept : Room := { frames := 0, cells := 0, slots := 0, locals := 0 }
set_option maxHeartbeats 4000000 in
set_option maxRecDepth 100000 in
theorem c_X7_whispersKept (l : Launch) (D : va_G) (cI cZ cS cP : ClassId) (hT : Nat) (a1 : Nat) (a2 : Nat) (a3 : Nat) (a4 : Nat) (wp : Nat → Nat) (wd : Nat → Nat) (ho : Nat → Nat) (hh : Nat → Nat) (nw : Nat) (nh : Nat) (B : Nat) : kMi (S := Unit) l yX7_whispersKept wsX7_whispersKept rm_X7_whispersKept D (kT cI cZ cS cP) [.ref hT] [(hT, .inr (7, [.ref a1, .ref a2, .ref a3, .ref a4, .int (nI nw), .int (nI nh), .int (nI B)])), (a1, .inl (cI, 13, .inl (nA wp))), (a2, .inl (cI, 13, .inl (nA wd))), (a3, .inl (cI, 7, .inl (nA ho))), (a4, .inl (cI, 7, .inl (nA hh)))] (fun r _ => r = (nI nh)) (fun _ => [(hT, .inr (7, [.ref a1, .ref a2, .ref a3, .ref a4, .int (nI nw), .int (nI nh), .int (nI B)])), (a1, .inl (cI, 13, .inl (nA wp))), (a2, .inl (cI, 13, .inl (nA wd))), (a3, .inl (cI, 7, .inl (nA ho))), (a4, .inl (cI, 7, .inl (nA hh)))]) := by
  refine kMet_i (cc := cX7_whispersKept) (maxL := 1) (ty := .int) (by decide) rfl (Nat.le_of_ble_eq_true rfl) (fun _ _ _ => rfl) ?_
  intro p e s m args below meth c A Q ls C hlocks hin hN hK hP hD hS hA hl ret
  obtain ⟨hx, hb, hml, hown, hts⟩ := C
  have hl : lv_has ls 1 [(0, .ref hT)] := hl
  have in_X7 : ∀ w ∈ wsX70, w ∈ wsX7_whispersKept := by decide +kernel
  have lk0 := hts (.fieldLink RX7 28 "SilkWord$Talk" "whisperCount" "I") (by decide +kernel)
  refine lv_aload_n hx hb dX7_whispersKept_0 rfl (lv_at hl 0 rfl) ?_
  refine va_get (D := D) (ci := 7) (v := .int (nI nh)) (C := RX7) (T := TX7) (N := 7) hx hb hts in_X7 hown hK hP 0 rfl rfl 5 (by decide) lk0 (fun _ h9 => h9) rfl dX7_whispersKept_1 ?_
  exact ret _ () _ _ _ _ dX7_whispersKept_4 (rfl) hP hD hS
def rm_X7_bribedSet : Room := { frames := 0, cells := 0, slots := 0, locals := 0 }
set_option maxHeartbeats 4000000 in
set_option maxRecDepth 100000 in
theorem c_X7_bribedSet (l : Launch) (D : va_G) (cI cZ cS cP : ClassId) (hT : Nat) (a1 : Nat) (a2 : Nat) (a3 : Nat) (a4 : Nat) (wp : Nat → Nat) (wd : Nat → Nat) (ho : Nat → Nat) (hh : Nat → Nat) (nw : Nat) (nh : Nat) (B : Nat) : kMi (S := Unit) l yX7_bribedSet wsX7_bribedSet rm_X7_bribedSet D (kT cI cZ cS cP) [.ref hT] [(hT, .inr (7, [.ref a1, .ref a2, .ref a3, .ref a4, .int (nI nw), .int (nI nh), .int (nI B)])), (a1, .inl (cI, 13, .inl (nA wp))), (a2, .inl (cI, 13, .inl (nA wd))), (a3, .inl (cI, 7, .inl (nA ho))), (a4, .inl (cI, 7, .inl (nA hh)))] (fun r _ => r = (nI B)) (fun _ => [(hT, .inr (7, [.ref a1, .ref a2, .ref a3, .ref a4, .int (nI nw), .int (nI nh), .int (nI B)])), (a1, .inl (cI, 13, .inl (nA wp))), (a2, .inl (cI, 13, .inl (nA wd))), (a3, .inl (cI, 7, .inl (nA ho))), (a4, .inl (cI, 7, .inl (nA hh)))]) := by
  refine kMet_i (cc := cX7_bribedSet) (maxL := 1) (ty := .int) (by decide) rfl (Nat.le_of_ble_eq_true rfl) (fun _ _ _ => rfl) ?_
  intro p e s m args below meth c A Q ls C hlocks hin hN hK hP hD hS hA hl ret
  obtain ⟨hx, hb, hml, hown, hts⟩ := C
  have hl : lv_has ls 1 [(0, .ref hT)] := hl
  have in_X7 : ∀ w ∈ wsX70, w ∈ wsX7_bribedSet := by decide +kernel
  have lk0 := hts (.fieldLink RX7 31 "SilkWord$Talk" "bribedSet" "I") (by decide +kernel)
  refine lv_aload_n hx hb dX7_bribedSet_0 rfl (lv_at hl 0 rfl) ?_
  refine va_get (D := D) (ci := 7) (v := .int (nI B)) (C := RX7) (T := TX7) (N := 7) hx hb hts in_X7 hown hK hP 0 rfl rfl 6 (by decide) lk0 (fun _ h9 => h9) rfl dX7_bribedSet_1 ?_
  exact ret _ () _ _ _ _ dX7_bribedSet_4 (rfl) hP hD hS
def rm_X7_setBribed : Room := { frames := 0, cells := 0, slots := 0, locals := 0 }
set_option maxHeartbeats 4000000 in
set_option maxRecDepth 100000 in
theorem c_X7_setBribed (l : Launch) (D : va_G) (cI cZ cS cP : ClassId) (hT : Nat) (a1 : Nat) (a2 : Nat) (a3 : Nat) (a4 : Nat) (wp : Nat → Nat) (wd : Nat → Nat) (ho : Nat → Nat) (hh : Nat → Nat) (nw : Nat) (nh : Nat) (B : Nat) (x : Nat) : kMv (S := Unit) l yX7_setBribed wsX7_setBribed rm_X7_setBribed D (kT cI cZ cS cP) [.ref hT, .int (nI x)] [(hT, .inr (7, [.ref a1, .ref a2, .ref a3, .ref a4, .int (nI nw), .int (nI nh), .int (nI B)])), (a1, .inl (cI, 13, .inl (nA wp))), (a2, .inl (cI, 13, .inl (nA wd))), (a3, .inl (cI, 7, .inl (nA ho))), (a4, .inl (cI, 7, .inl (nA hh)))] (fun _ => True) (fun _ => [(hT, .inr (7, [.ref a1, .ref a2, .ref a3, .ref a4, .int (nI nw), .int (nI nh), .int (nI x)])), (a1, .inl (cI, 13, .inl (nA wp))), (a2, .inl (cI, 13, .inl (nA wd))), (a3, .inl (cI, 7, .inl (nA ho))), (a4, .inl (cI, 7, .inl (nA hh)))]) := by
  refine kMet_v (cc := cX7_setBribed) (maxL := 2) (by decide) rfl (Nat.le_of_ble_eq_true rfl) ?_
  intro p e s m args below meth c A Q ls C hlocks hin hN hK hP hD hS hA hl ret
  obtain ⟨hx, hb, hml, hown, hts⟩ := C
  have hl : lv_has ls 2 [(0, .ref hT), (1, .int (nI x))] := hl
  have in_X7 : ∀ w ∈ wsX70, w ∈ wsX7_setBribed := by decide +kernel
  have lk0 := hts (.fieldLink RX7 31 "SilkWord$Talk" "bribedSet" "I") (by decide +kernel)
  refine lv_aload_n hx hb dX7_setBribed_0 rfl (lv_at hl 0 rfl) ?_
  refine lv_iload_n hx hb dX7_setBribed_1 rfl (lv_at hl 1 rfl) ?_
  refine va_put (D := D) (ci := 7) (v := .int (nI x)) (ty := .int) (C := RX7) (T := TX7) (N := 7) hx hb hts in_X7 tyX7 tyX7_ok nmX7 hown hK hP hD hS 0 rfl rfl 6 (by decide) lk0 (fun _ h9 => h9) rfl (by decide +kernel) rfl rfl (Nat.le_of_ble_eq_true rfl) dX7_setBribed_2 (fun H locs hP hD hS => ?_)
  have hP : va_P D vwCl [(hT, .inr (7, [.ref a1, .ref a2, .ref a3, .ref a4, .int (nI nw), .int (nI nh), .int (nI x)])), (a1, .inl (cI, 13, .inl (nA wp))), (a2, .inl (cI, 13, .inl (nA wd))), (a3, .inl (cI, 7, .inl (nA ho))), (a4, .inl (cI, 7, .inl (nA hh)))] H := hP
  have hD : va_D A [(hT, .inr (7, [.ref a1, .ref a2, .ref a3, .ref a4, .int (nI nw), .int (nI nh), .int (nI x)])), (a1, .inl (cI, 13, .inl (nA wp))), (a2, .inl (cI, 13, .inl (nA wd))), (a3, .inl (cI, 7, .inl (nA ho))), (a4, .inl (cI, 7, .inl (nA hh)))] := hD
  exact ret () _ _ _ _ dX7_setBribed_5 trivial hP hD hS
def rm_X7_clear : Room := { frames := 0, cells := 0, slots := 0, locals := 0 }
set_option maxHeartbeats 4000000 in
set_option maxRecDepth 100000 in
theorem c_X7_clear (l : Launch) (D : va_G) (cI cZ cS cP : ClassId) (hT : Nat) (a1 : Nat) (a2 : Nat) (a3 : Nat) (a4 : Nat) (wp : Nat → Nat) (wd : Nat → Nat) (ho : Nat → Nat) (hh : Nat → Nat) (nw : Nat) (nh : Nat) (B : Nat) : kMv (S := Unit) l yX7_clear wsX7_clear rm_X7_clear D (kT cI cZ cS cP) [.ref hT] [(hT, .inr (7, [.ref a1, .ref a2, .ref a3, .ref a4, .int (nI nw), .int (nI nh), .int (nI B)])), (a1, .inl (cI, 13, .inl (nA wp))), (a2, .inl (cI, 13, .inl (nA wd))), (a3, .inl (cI, 7, .inl (nA ho))), (a4, .inl (cI, 7, .inl (nA hh)))] (fun _ => True) (fun _ => [(hT, .inr (7, [.ref a1, .ref a2, .ref a3, .ref a4, .int (nI 0), .int (nI 0), .int (nI 0)])), (a1, .inl (cI, 13, .inl (nA wp))), (a2, .inl (cI, 13, .inl (nA wd))), (a3, .inl (cI, 7, .inl (nA ho))), (a4, .inl (cI, 7, .inl (nA hh)))]) := by
  refine kMet_v (cc := cX7_clear) (maxL := 1) (by decide) rfl (Nat.le_of_ble_eq_true rfl) ?_
  intro p e s m args below meth c A Q ls C hlocks hin hN hK hP hD hS hA hl ret
  obtain ⟨hx, hb, hml, hown, hts⟩ := C
  have hl : lv_has ls 1 [(0, .ref hT)] := hl
  have in_X7 : ∀ w ∈ wsX70, w ∈ wsX7_clear := by decide +kernel
  have lk0 := hts (.fieldLink RX7 24 "SilkWord$Talk" "words" "I") (by decide +kernel)
  have lk1 := hts (.fieldLink RX7 28 "SilkWord$Talk" "whisperCount" "I") (by decide +kernel)
  have lk2 := hts (.fieldLink RX7 31 "SilkWord$Talk" "bribedSet" "I") (by decide +kernel)
  refine lv_aload_n hx hb dX7_clear_0 rfl (lv_at hl 0 rfl) ?_
  refine lv_iconst (v := (nI 0)) hx hb dX7_clear_1 (by decide) ?_
  refine va_put (D := D) (ci := 7) (v := .int (nI 0)) (ty := .int) (C := RX7) (T := TX7) (N := 7) hx hb hts in_X7 tyX7 tyX7_ok nmX7 hown hK hP hD hS 0 rfl rfl 4 (by decide) lk0 (fun _ h9 => h9) rfl (by decide +kernel) rfl rfl (Nat.le_of_ble_eq_true rfl) dX7_clear_2 (fun H locs hP hD hS => ?_)
  have hP : va_P D vwCl [(hT, .inr (7, [.ref a1, .ref a2, .ref a3, .ref a4, .int (nI 0), .int (nI nh), .int (nI B)])), (a1, .inl (cI, 13, .inl (nA wp))), (a2, .inl (cI, 13, .inl (nA wd))), (a3, .inl (cI, 7, .inl (nA ho))), (a4, .inl (cI, 7, .inl (nA hh)))] H := hP
  have hD : va_D A [(hT, .inr (7, [.ref a1, .ref a2, .ref a3, .ref a4, .int (nI 0), .int (nI nh), .int (nI B)])), (a1, .inl (cI, 13, .inl (nA wp))), (a2, .inl (cI, 13, .inl (nA wd))), (a3, .inl (cI, 7, .inl (nA ho))), (a4, .inl (cI, 7, .inl (nA hh)))] := hD
  refine lv_aload_n hx hb dX7_clear_5 rfl (lv_at hl 0 rfl) ?_
  refine lv_iconst (v := (nI 0)) hx hb dX7_clear_6 (by decide) ?_
  refine va_put (D := D) (ci := 7) (v := .int (nI 0)) (ty := .int) (C := RX7) (T := TX7) (N := 7) hx hb hts in_X7 tyX7 tyX7_ok nmX7 hown hK hP hD hS 0 rfl rfl 5 (by decide) lk1 (fun _ h9 => h9) rfl (by decide +kernel) rfl rfl (Nat.le_of_ble_eq_true rfl) dX7_clear_7 (fun H locs hP hD hS => ?_)
  have hP : va_P D vwCl [(hT, .inr (7, [.ref a1, .ref a2, .ref a3, .ref a4, .int (nI 0), .int (nI 0), .int (nI B)])), (a1, .inl (cI, 13, .inl (nA wp))), (a2, .inl (cI, 13, .inl (nA wd))), (a3, .inl (cI, 7, .inl (nA ho))), (a4, .inl (cI, 7, .inl (nA hh)))] H := hP
  have hD : va_D A [(hT, .inr (7, [.ref a1, .ref a2, .ref a3, .ref a4, .int (nI 0), .int (nI 0), .int (nI B)])), (a1, .inl (cI, 13, .inl (nA wp))), (a2, .inl (cI, 13, .inl (nA wd))), (a3, .inl (cI, 7, .inl (nA ho))), (a4, .inl (cI, 7, .inl (nA hh)))] := hD
  refine lv_aload_n hx hb dX7_clear_10 rfl (lv_at hl 0 rfl) ?_
  refine lv_iconst (v := (nI 0)) hx hb dX7_clear_11 (by decide) ?_
  refine va_put (D := D) (ci := 7) (v := .int (nI 0)) (ty := .int) (C := RX7) (T := TX7) (N := 7) hx hb hts in_X7 tyX7 tyX7_ok nmX7 hown hK hP hD hS 0 rfl rfl 6 (by decide) lk2 (fun _ h9 => h9) rfl (by decide +kernel) rfl rfl (Nat.le_of_ble_eq_true rfl) dX7_clear_12 (fun H locs hP hD hS => ?_)
  have hP : va_P D vwCl [(hT, .inr (7, [.ref a1, .ref a2, .ref a3, .ref a4, .int (nI 0), .int (nI 0), .int (nI 0)])), (a1, .inl (cI, 13, .inl (nA wp))), (a2, .inl (cI, 13, .inl (nA wd))), (a3, .inl (cI, 7, .inl (nA ho))), (a4, .inl (cI, 7, .inl (nA hh)))] H := hP
  have hD : va_D A [(hT, .inr (7, [.ref a1, .ref a2, .ref a3, .ref a4, .int (nI 0), .int (nI 0), .int (nI 0)])), (a1, .inl (cI, 13, .inl (nA wp))), (a2, .inl (cI, 13, .inl (nA wd))), (a3, .inl (cI, 7, .inl (nA ho))), (a4, .inl (cI, 7, .inl (nA hh)))] := hD
  exact ret () _ _ _ _ dX7_clear_15 trivial hP hD hS
def rm_X10_isIn : Room := { frames := 0, cells := 0, slots := 0, locals := 0 }
set_option maxHeartbeats 4000000 in
set_option maxRecDepth 100000 in
theorem c_X10_isIn (l : Launch) (D : va_G) (cI cZ cS cP : ClassId) (S : Nat) (k : Nat) (hS1 : S < 2 ^ 31) (hk : k < 32) : kMi (S := Unit) l yX10_isIn wsX10_isIn rm_X10_isIn D (kT cI cZ cS cP) [.int (nI S), .int (nI k)] [] (fun r _ => r = (nI (if S.testBit k = true then 1 else 0))) (fun _ => []) := by
  refine kMet_i (cc := cX10_isIn) (maxL := 2) (ty := .boolean) (by decide) rfl (Nat.le_of_ble_eq_true rfl) (fun _ _ q => by (first | subst q | (obtain ⟨q, -⟩ := q; subst q)); (first | exact kz_nr | decide)) ?_
  intro p e s m args below meth c A Q ls C hlocks hin hN hK hP hD hS hA hl ret
  obtain ⟨hx, hb, hml, hown, hts⟩ := C
  have hl : lv_has ls 2 [(0, .int (nI S)), (1, .int (nI k))] := hl
  refine lv_iload_n hx hb dX10_isIn_0 rfl (lv_at hl 0 rfl) ?_
  refine lv_iload_n hx hb dX10_isIn_1 rfl (lv_at hl 1 rfl) ?_
  refine lv_ishr hx hb dX10_isIn_2 ?_
  refine k_eqi (show ((nI S) >>> ((nI k) &&& 31)) = (nI (S / 2 ^ k)) from nI_shr (show S < 2 ^ 31 by omega) (show k < 32 by omega)) ?_
  refine lv_iconst (v := (nI 1)) hx hb dX10_isIn_3 (by decide) ?_
  refine lv_iand hx hb dX10_isIn_4 ?_
  refine k_eqi (show ((nI (S / 2 ^ k)) &&& (nI 1)) = (nI (if S.testBit k = true then 1 else 0)) from nI_bit S k) ?_
  have j_1 : ∀ (H : Heap) (locs : List Loc) (ls : Array Slot), va_P D vwCl [] H → va_D A [] → va_S A s.heap H locs → lv_has ls 2 [(0, .int (nI S)), (1, .int (nI k))] → W p l e rm_X10_isIn s m args below meth c H locs 0 0 Q (F0 m 13 ls [.int (nI (if S.testBit k = true then 1 else 0))]) := by
    clear hP hD hS hl
    intro H locs ls hP hD hS hl
    exact ret _ () _ _ _ _ dX10_isIn_13 (rfl) hP hD hS
  refine k_ifc_eq (tgt := 12) hx hb dX10_isIn_5 (by decide) (fun c_2 => ?_) (fun c_2 => ?_)
  · skip
    refine lv_iconst (v := (nI 0)) hx hb dX10_isIn_12 (by decide) ?_
    have e_3 := (show (nI 0) = (nI (if S.testBit k = true then 1 else 0)) from congrArg nI (if_neg c_2).symm)
    refine k_eqi (show (nI 0) = (nI (if S.testBit k = true then 1 else 0)) from congrArg nI (if_neg c_2).symm) ?_
    exact j_1 _ _ _ hP hD hS (lv_sub hl [0, 1] rfl)
  · skip
    refine lv_iconst (v := (nI 1)) hx hb dX10_isIn_8 (by decide) ?_
    refine lv_goto (tgt := 13) hx hb dX10_isIn_9 (by decide) ?_
    have e_4 := (show (nI 1) = (nI (if S.testBit k = true then 1 else 0)) from congrArg nI (if_pos c_2).symm)
    refine k_eqi (show (nI 1) = (nI (if S.testBit k = true then 1 else 0)) from congrArg nI (if_pos c_2).symm) ?_
    exact j_1 _ _ _ hP hD hS (lv_sub hl [0, 1] rfl)
def rm_X7_reaching : Room := { frames := 0, cells := 0, slots := 0, locals := 0 }
set_option maxHeartbeats 4000000 in
set_option maxRecDepth 100000 in
theorem c_X7_reaching (l : Launch) (D : va_G) (cI cZ cS cP : ClassId) (hT : Nat) (a1 : Nat) (a2 : Nat) (a3 : Nat) (a4 : Nat) (wp : Nat → Nat) (wd : Nat → Nat) (ho : Nat → Nat) (hh : Nat → Nat) (nw : Nat) (nh : Nat) (B : Nat) (p1 : Nat) (E : Nat) (d : Nat) (hwp : ∀ i, wp i < 7) (hwd : ∀ i, wd i < 40) (hho : ∀ i, ho i < 7) (hhh : ∀ i, hh i < 7) (hnw : nw ≤ 13) (hnh : nh ≤ 7) (hp1 : p1 < 7) (hE : E < 128) (hd : d < 40) : kMi (S := Unit) l yX7_reaching wsX7_reaching rm_X7_reaching D (kT cI cZ cS cP) [.ref hT, .int (nI p1), .int (nI E), .int (nI d)] [(hT, .inr (7, [.ref a1, .ref a2, .ref a3, .ref a4, .int (nI nw), .int (nI nh), .int (nI B)])), (a1, .inl (cI, 13, .inl (nA wp))), (a2, .inl (cI, 13, .inl (nA wd))), (a3, .inl (cI, 7, .inl (nA ho))), (a4, .inl (cI, 7, .inl (nA hh)))] (fun r _ => r = (nI (cntW wp wd E d nw + cntH ho hh p1 nh))) (fun _ => [(hT, .inr (7, [.ref a1, .ref a2, .ref a3, .ref a4, .int (nI nw), .int (nI nh), .int (nI B)])), (a1, .inl (cI, 13, .inl (nA wp))), (a2, .inl (cI, 13, .inl (nA wd))), (a3, .inl (cI, 7, .inl (nA ho))), (a4, .inl (cI, 7, .inl (nA hh)))]) := by
  refine kMet_i (cc := cX7_reaching) (maxL := 6) (ty := .int) (by decide) rfl (Nat.le_of_ble_eq_true rfl) (fun _ _ _ => rfl) ?_
  intro p e s m args below meth c A Q ls C hlocks hin hN hK hP hD hS hA hl ret
  obtain ⟨hx, hb, hml, hown, hts⟩ := C
  have hl : lv_has ls 6 [(0, .ref hT), (1, .int (nI p1)), (2, .int (nI E)), (3, .int (nI d))] := hl
  have in_X7 : ∀ w ∈ wsX70, w ∈ wsX7_reaching := by decide +kernel
  have lk0 := hts (.fieldLink RX7 24 "SilkWord$Talk" "words" "I") (by decide +kernel)
  have lk1 := hts (.fieldLink RX7 28 "SilkWord$Talk" "whisperCount" "I") (by decide +kernel)
  have lk2 := hts (.fieldLink RX7 18 "SilkWord$Talk" "ones" "[I") (by decide +kernel)
  have lk3 := hts (.fieldLink RX7 21 "SilkWord$Talk" "others" "[I") (by decide +kernel)
  have lk4 := hts (.fieldLink RX7 15 "SilkWord$Talk" "days" "[I") (by decide +kernel)
  have lk5 := hts (.fieldLink RX7 9 "SilkWord$Talk" "places" "[I") (by decide +kernel)
  refine lv_iconst (v := (nI 0)) hx hb dX7_reaching_0 (by decide) ?_
  refine lv_istore (lv' := [(4, .int (nI 0)), (0, .ref hT), (1, .int (nI p1)), (2, .int (nI E)), (3, .int (nI d))]) hx hb dX7_reaching_1 hl (by decide) rfl (fun ls hl => ?_)
  refine lv_iconst (v := (nI 0)) hx hb dX7_reaching_3 (by decide) ?_
  refine lv_istore (lv' := [(5, .int (nI 0)), (4, .int (nI 0)), (0, .ref hT), (1, .int (nI p1)), (2, .int (nI E)), (3, .int (nI d))]) hx hb dX7_reaching_4 hl (by decide) rfl (fun ls hl => ?_)
  have e_1 : (nI 0) = (nI (cntW wp wd E d 0)) := congrArg nI (show 0 = cntW wp wd E d 0 by rfl)
  refine k_loop (α := Nat) (nL := 6) (fun k => nw - k) (fun k => [(hT, .inr (7, [.ref a1, .ref a2, .ref a3, .ref a4, .int (nI nw), .int (nI nh), .int (nI B)])), (a1, .inl (cI, 13, .inl (nA wp))), (a2, .inl (cI, 13, .inl (nA wd))), (a3, .inl (cI, 7, .inl (nA ho))), (a4, .inl (cI, 7, .inl (nA hh)))]) (fun k => [(5, .int (nI k)), (4, .int (nI (cntW wp wd E d k))), (0, .ref hT), (1, .int (nI p1)), (2, .int (nI E)), (3, .int (nI d))]) (fun k => (k ≤ nw)) ?_ 0 (show (0 ≤ nw) from by omega) hP hD hS (lv_cast (lv_sub hl [0, 1, 2, 3, 4, 5] rfl) (show ([(5, .int (nI 0)), (4, .int (nI 0)), (0, .ref hT), (1, .int (nI p1)), (2, .int (nI E)), (3, .int (nI d))] : List (Nat × Value)) = [(5, .int (nI 0)), (4, .int (nI (cntW wp wd E d 0))), (0, .ref hT), (1, .int (nI p1)), (2, .int (nI E)), (3, .int (nI d))] by rw [← e_1]))
  clear hP hD hS hl
  intro k H locs ls hI hP hD hS hl ih6
  have hk : (k ≤ nw) := hI
  have hP : va_P D vwCl [(hT, .inr (7, [.ref a1, .ref a2, .ref a3, .ref a4, .int (nI nw), .int (nI nh), .int (nI B)])), (a1, .inl (cI, 13, .inl (nA wp))), (a2, .inl (cI, 13, .inl (nA wd))), (a3, .inl (cI, 7, .inl (nA ho))), (a4, .inl (cI, 7, .inl (nA hh)))] H := hP
  have hD : va_D A [(hT, .inr (7, [.ref a1, .ref a2, .ref a3, .ref a4, .int (nI nw), .int (nI nh), .int (nI B)])), (a1, .inl (cI, 13, .inl (nA wp))), (a2, .inl (cI, 13, .inl (nA wd))), (a3, .inl (cI, 7, .inl (nA ho))), (a4, .inl (cI, 7, .inl (nA hh)))] := hD
  have hl : lv_has ls 6 [(5, .int (nI k)), (4, .int (nI (cntW wp wd E d k))), (0, .ref hT), (1, .int (nI p1)), (2, .int (nI E)), (3, .int (nI d))] := hl
  have b0 := cntW_le wp wd E d k
  refine lv_iload hx hb dX7_reaching_6 (lv_at hl 0 rfl) ?_
  refine lv_aload_n hx hb dX7_reaching_8 rfl (lv_at hl 2 rfl) ?_
  refine va_get (D := D) (ci := 7) (v := .int (nI nw)) (C := RX7) (T := TX7) (N := 7) hx hb hts in_X7 hown hK hP 0 rfl rfl 4 (by decide) lk0 (fun _ h9 => h9) rfl dX7_reaching_9 ?_
  refine k_icmp_ge (tgt := 48) hx hb dX7_reaching_12 (by decide) (show k < 2 ^ 31 by first | omega | (split <;> omega)) (show nw < 2 ^ 31 by first | omega | (split <;> omega)) (fun c_2 => ?_) (fun c_2 => ?_)
  · skip
    refine lv_iconst (v := (nI 0)) hx hb dX7_reaching_48 (by decide) ?_
    refine lv_istore (lv' := [(5, .int (nI 0)), (4, .int (nI (cntW wp wd E d k))), (0, .ref hT), (1, .int (nI p1)), (2, .int (nI E)), (3, .int (nI d))]) hx hb dX7_reaching_49 hl (by decide) rfl (fun ls hl => ?_)
    have e_3 : (nI (cntW wp wd E d k)) = (nI (cntW wp wd E d nw + cntH ho hh p1 0)) := congrArg nI (show cntW wp wd E d k = cntW wp wd E d nw + cntH ho hh p1 0 by first | rfl | (simp [cntH]; done) | (have : k = nw := by omega); subst this; simp [cntH])
    refine k_loop (α := Nat) (nL := 6) (fun k => nh - k) (fun k => [(hT, .inr (7, [.ref a1, .ref a2, .ref a3, .ref a4, .int (nI nw), .int (nI nh), .int (nI B)])), (a1, .inl (cI, 13, .inl (nA wp))), (a2, .inl (cI, 13, .inl (nA wd))), (a3, .inl (cI, 7, .inl (nA ho))), (a4, .inl (cI, 7, .inl (nA hh)))]) (fun k => [(5, .int (nI k)), (4, .int (nI (cntW wp wd E d nw + cntH ho hh p1 k))), (0, .ref hT), (1, .int (nI p1)), (2, .int (nI E)), (3, .int (nI d))]) (fun k => (k ≤ nh)) ?_ 0 (show (0 ≤ nh) from by omega) hP hD hS (lv_cast (lv_sub hl [0, 1, 2, 3, 4, 5] rfl) (show ([(5, .int (nI 0)), (4, .int (nI (cntW wp wd E d k))), (0, .ref hT), (1, .int (nI p1)), (2, .int (nI E)), (3, .int (nI d))] : List (Nat × Value)) = [(5, .int (nI 0)), (4, .int (nI (cntW wp wd E d nw + cntH ho hh p1 0))), (0, .ref hT), (1, .int (nI p1)), (2, .int (nI E)), (3, .int (nI d))] by rw [← e_3]))
    clear hP hD hS hl
    intro k H locs ls hI hP hD hS hl ih51
    have hk2 : (k ≤ nh) := hI
    have hP : va_P D vwCl [(hT, .inr (7, [.ref a1, .ref a2, .ref a3, .ref a4, .int (nI nw), .int (nI nh), .int (nI B)])), (a1, .inl (cI, 13, .inl (nA wp))), (a2, .inl (cI, 13, .inl (nA wd))), (a3, .inl (cI, 7, .inl (nA ho))), (a4, .inl (cI, 7, .inl (nA hh)))] H := hP
    have hD : va_D A [(hT, .inr (7, [.ref a1, .ref a2, .ref a3, .ref a4, .int (nI nw), .int (nI nh), .int (nI B)])), (a1, .inl (cI, 13, .inl (nA wp))), (a2, .inl (cI, 13, .inl (nA wd))), (a3, .inl (cI, 7, .inl (nA ho))), (a4, .inl (cI, 7, .inl (nA hh)))] := hD
    have hl : lv_has ls 6 [(5, .int (nI k)), (4, .int (nI (cntW wp wd E d nw + cntH ho hh p1 k))), (0, .ref hT), (1, .int (nI p1)), (2, .int (nI E)), (3, .int (nI d))] := hl
    have b0 := cntW_le wp wd E d nw
    have b1 := cntH_le ho hh p1 k
    refine lv_iload hx hb dX7_reaching_51 (lv_at hl 0 rfl) ?_
    refine lv_aload_n hx hb dX7_reaching_53 rfl (lv_at hl 2 rfl) ?_
    refine va_get (D := D) (ci := 7) (v := .int (nI nh)) (C := RX7) (T := TX7) (N := 7) hx hb hts in_X7 hown hK hP 0 rfl rfl 5 (by decide) lk1 (fun _ h9 => h9) rfl dX7_reaching_54 ?_
    refine k_icmp_ge (tgt := 91) hx hb dX7_reaching_57 (by decide) (show k < 2 ^ 31 by first | omega | (split <;> omega)) (show nh < 2 ^ 31 by first | omega | (split <;> omega)) (fun c_4 => ?_) (fun c_4 => ?_)
    · skip
      refine lv_iload hx hb dX7_reaching_91 (lv_at hl 1 rfl) ?_
      exact ret _ () _ _ _ _ dX7_reaching_93 (congrArg nI (show cntW wp wd E d nw + cntH ho hh p1 k = cntW wp wd E d nw + cntH ho hh p1 nh by (have : k = nh := by omega); subst this; rfl)) hP hD hS
    · skip
      refine lv_aload_n hx hb dX7_reaching_60 rfl (lv_at hl 2 rfl) ?_
      refine va_get (D := D) (ci := 7) (v := .ref a3) (C := RX7) (T := TX7) (N := 7) hx hb hts in_X7 hown hK hP 0 rfl rfl 2 (by decide) lk2 (fun _ h9 => h9) rfl dX7_reaching_61 ?_
      refine lv_iload hx hb dX7_reaching_64 (lv_at hl 0 rfl) ?_
      refine k_iald hx hb hK hP 3 0 rfl rfl (show k < 7 by omega) (by decide) dX7_reaching_66 ?_
      have b_5 := hho k
      refine lv_iload_n hx hb dX7_reaching_67 rfl (lv_at hl 3 rfl) ?_
      have j_6 : ∀ (H : Heap) (locs : List Loc) (ls : Array Slot), va_P D vwCl [(hT, .inr (7, [.ref a1, .ref a2, .ref a3, .ref a4, .int (nI nw), .int (nI nh), .int (nI B)])), (a1, .inl (cI, 13, .inl (nA wp))), (a2, .inl (cI, 13, .inl (nA wd))), (a3, .inl (cI, 7, .inl (nA ho))), (a4, .inl (cI, 7, .inl (nA hh)))] H → va_D A [(hT, .inr (7, [.ref a1, .ref a2, .ref a3, .ref a4, .int (nI nw), .int (nI nh), .int (nI B)])), (a1, .inl (cI, 13, .inl (nA wp))), (a2, .inl (cI, 13, .inl (nA wd))), (a3, .inl (cI, 7, .inl (nA ho))), (a4, .inl (cI, 7, .inl (nA hh)))] → va_S A s.heap H locs → lv_has ls 6 [(4, .int (nI (if (ho k) = p1 then cntW wp wd E d nw + cntH ho hh p1 k + 1 else (if (hh k) = p1 then cntW wp wd E d nw + cntH ho hh p1 k + 1 else cntW wp wd E d nw + cntH ho hh p1 k)))), (5, .int (nI k)), (0, .ref hT), (1, .int (nI p1)), (2, .int (nI E)), (3, .int (nI d))] → W p l e rm_X7_reaching s m args below meth c H locs 0 0 Q (F0 m 85 ls []) := by
        clear hP hD hS hl
        intro H locs ls hP hD hS hl
        refine lv_iinc (v := (nI (k + 1))) (lv' := [(5, .int (nI (k + 1))), (4, .int (nI (if (ho k) = p1 then cntW wp wd E d nw + cntH ho hh p1 k + 1 else (if (hh k) = p1 then cntW wp wd E d nw + cntH ho hh p1 k + 1 else cntW wp wd E d nw + cntH ho hh p1 k)))), (0, .ref hT), (1, .int (nI p1)), (2, .int (nI E)), (3, .int (nI d))]) hx hb dX7_reaching_85 hl (k := 1) rfl (nI_inc k) (by decide) rfl (fun ls hl => ?_)
        refine lv_goto (tgt := 51) hx hb dX7_reaching_88 (by decide) ?_
        have e_8 : (nI (if (ho k) = p1 then cntW wp wd E d nw + cntH ho hh p1 k + 1 else (if (hh k) = p1 then cntW wp wd E d nw + cntH ho hh p1 k + 1 else cntW wp wd E d nw + cntH ho hh p1 k))) = (nI (cntW wp wd E d nw + cntH ho hh p1 (k + 1))) := congrArg nI (show (if (ho k) = p1 then cntW wp wd E d nw + cntH ho hh p1 k + 1 else (if (hh k) = p1 then cntW wp wd E d nw + cntH ho hh p1 k + 1 else cntW wp wd E d nw + cntH ho hh p1 k)) = cntW wp wd E d nw + cntH ho hh p1 (k + 1) by simp only [cntH]; by_cases h1 : ho k = p1 <;> by_cases h2 : hh k = p1 <;> simp [h1, h2] <;> omega)
        exact ih51 (k + 1) _ _ _ (show nh - (k + 1) < nh - k by omega) (show ((k + 1) ≤ nh) from by omega) hP hD hS (lv_cast (lv_sub hl [0, 1, 2, 3, 4, 5] rfl) (show ([(5, .int (nI (k + 1))), (4, .int (nI (if (ho k) = p1 then cntW wp wd E d nw + cntH ho hh p1 k + 1 else (if (hh k) = p1 then cntW wp wd E d nw + cntH ho hh p1 k + 1 else cntW wp wd E d nw + cntH ho hh p1 k)))), (0, .ref hT), (1, .int (nI p1)), (2, .int (nI E)), (3, .int (nI d))] : List (Nat × Value)) = [(5, .int (nI (k + 1))), (4, .int (nI (cntW wp wd E d nw + cntH ho hh p1 (k + 1)))), (0, .ref hT), (1, .int (nI p1)), (2, .int (nI E)), (3, .int (nI d))] by rw [← e_8]))
      refine k_icmp_eq (tgt := 82) hx hb dX7_reaching_68 (by decide) (show (ho k) < 2 ^ 31 by first | omega | (split <;> omega)) (show p1 < 2 ^ 31 by first | omega | (split <;> omega)) (fun c_7 => ?_) (fun c_7 => ?_)
      · skip
        refine lv_iinc (v := (nI (cntW wp wd E d nw + cntH ho hh p1 k + 1))) (lv' := [(4, .int (nI (cntW wp wd E d nw + cntH ho hh p1 k + 1))), (5, .int (nI k)), (0, .ref hT), (1, .int (nI p1)), (2, .int (nI E)), (3, .int (nI d))]) hx hb dX7_reaching_82 hl (k := 1) rfl (nI_inc (cntW wp wd E d nw + cntH ho hh p1 k)) (by decide) rfl (fun ls hl => ?_)
        have e_8 := (show (nI (cntW wp wd E d nw + cntH ho hh p1 k + 1)) = (nI (if (ho k) = p1 then cntW wp wd E d nw + cntH ho hh p1 k + 1 else (if (hh k) = p1 then cntW wp wd E d nw + cntH ho hh p1 k + 1 else cntW wp wd E d nw + cntH ho hh p1 k))) from congrArg nI (Eq.symm (if_pos c_7)))
        exact j_6 _ _ _ hP hD hS (lv_cast (lv_sub hl [0, 1, 2, 3, 4, 5] rfl) (show ([(4, .int (nI (cntW wp wd E d nw + cntH ho hh p1 k + 1))), (5, .int (nI k)), (0, .ref hT), (1, .int (nI p1)), (2, .int (nI E)), (3, .int (nI d))] : List (Nat × Value)) = [(4, .int (nI (if (ho k) = p1 then cntW wp wd E d nw + cntH ho hh p1 k + 1 else (if (hh k) = p1 then cntW wp wd E d nw + cntH ho hh p1 k + 1 else cntW wp wd E d nw + cntH ho hh p1 k)))), (5, .int (nI k)), (0, .ref hT), (1, .int (nI p1)), (2, .int (nI E)), (3, .int (nI d))] by rw [← e_8]))
      · skip
        refine lv_aload_n hx hb dX7_reaching_71 rfl (lv_at hl 2 rfl) ?_
        refine va_get (D := D) (ci := 7) (v := .ref a4) (C := RX7) (T := TX7) (N := 7) hx hb hts in_X7 hown hK hP 0 rfl rfl 3 (by decide) lk3 (fun _ h9 => h9) rfl dX7_reaching_72 ?_
        refine lv_iload hx hb dX7_reaching_75 (lv_at hl 0 rfl) ?_
        refine k_iald hx hb hK hP 4 0 rfl rfl (show k < 7 by omega) (by decide) dX7_reaching_77 ?_
        have b_9 := hhh k
        refine lv_iload_n hx hb dX7_reaching_78 rfl (lv_at hl 3 rfl) ?_
        refine k_icmp_ne (tgt := 85) hx hb dX7_reaching_79 (by decide) (show (hh k) < 2 ^ 31 by first | omega | (split <;> omega)) (show p1 < 2 ^ 31 by first | omega | (split <;> omega)) (fun c_10 => ?_) (fun c_10 => ?_)
        · skip
          have e_11 := (show (nI (cntW wp wd E d nw + cntH ho hh p1 k)) = (nI (if (ho k) = p1 then cntW wp wd E d nw + cntH ho hh p1 k + 1 else (if (hh k) = p1 then cntW wp wd E d nw + cntH ho hh p1 k + 1 else cntW wp wd E d nw + cntH ho hh p1 k))) from congrArg nI (Eq.symm (Eq.trans (if_neg c_7) (if_neg c_10))))
          exact j_6 _ _ _ hP hD hS (lv_cast (lv_sub hl [1, 0, 2, 3, 4, 5] rfl) (show ([(4, .int (nI (cntW wp wd E d nw + cntH ho hh p1 k))), (5, .int (nI k)), (0, .ref hT), (1, .int (nI p1)), (2, .int (nI E)), (3, .int (nI d))] : List (Nat × Value)) = [(4, .int (nI (if (ho k) = p1 then cntW wp wd E d nw + cntH ho hh p1 k + 1 else (if (hh k) = p1 then cntW wp wd E d nw + cntH ho hh p1 k + 1 else cntW wp wd E d nw + cntH ho hh p1 k)))), (5, .int (nI k)), (0, .ref hT), (1, .int (nI p1)), (2, .int (nI E)), (3, .int (nI d))] by rw [← e_11]))
        · skip
          refine lv_iinc (v := (nI (cntW wp wd E d nw + cntH ho hh p1 k + 1))) (lv' := [(4, .int (nI (cntW wp wd E d nw + cntH ho hh p1 k + 1))), (5, .int (nI k)), (0, .ref hT), (1, .int (nI p1)), (2, .int (nI E)), (3, .int (nI d))]) hx hb dX7_reaching_82 hl (k := 1) rfl (nI_inc (cntW wp wd E d nw + cntH ho hh p1 k)) (by decide) rfl (fun ls hl => ?_)
          have e_12 := (show (nI (cntW wp wd E d nw + cntH ho hh p1 k + 1)) = (nI (if (ho k) = p1 then cntW wp wd E d nw + cntH ho hh p1 k + 1 else (if (hh k) = p1 then cntW wp wd E d nw + cntH ho hh p1 k + 1 else cntW wp wd E d nw + cntH ho hh p1 k))) from congrArg nI (Eq.symm (Eq.trans (if_neg c_7) (if_pos c_10))))
          exact j_6 _ _ _ hP hD hS (lv_cast (lv_sub hl [0, 1, 2, 3, 4, 5] rfl) (show ([(4, .int (nI (cntW wp wd E d nw + cntH ho hh p1 k + 1))), (5, .int (nI k)), (0, .ref hT), (1, .int (nI p1)), (2, .int (nI E)), (3, .int (nI d))] : List (Nat × Value)) = [(4, .int (nI (if (ho k) = p1 then cntW wp wd E d nw + cntH ho hh p1 k + 1 else (if (hh k) = p1 then cntW wp wd E d nw + cntH ho hh p1 k + 1 else cntW wp wd E d nw + cntH ho hh p1 k)))), (5, .int (nI k)), (0, .ref hT), (1, .int (nI p1)), (2, .int (nI E)), (3, .int (nI d))] by rw [← e_12]))
  · skip
    refine lv_aload_n hx hb dX7_reaching_15 rfl (lv_at hl 2 rfl) ?_
    refine va_get (D := D) (ci := 7) (v := .ref a2) (C := RX7) (T := TX7) (N := 7) hx hb hts in_X7 hown hK hP 0 rfl rfl 1 (by decide) lk4 (fun _ h9 => h9) rfl dX7_reaching_16 ?_
    refine lv_iload hx hb dX7_reaching_19 (lv_at hl 0 rfl) ?_
    refine k_iald hx hb hK hP 2 0 rfl rfl (show k < 13 by omega) (by decide) dX7_reaching_21 ?_
    have b_13 := hwd k
    refine lv_iload_n hx hb dX7_reaching_22 rfl (lv_at hl 5 rfl) ?_
    have j_14 : ∀ (H : Heap) (locs : List Loc) (ls : Array Slot), va_P D vwCl [(hT, .inr (7, [.ref a1, .ref a2, .ref a3, .ref a4, .int (nI nw), .int (nI nh), .int (nI B)])), (a1, .inl (cI, 13, .inl (nA wp))), (a2, .inl (cI, 13, .inl (nA wd))), (a3, .inl (cI, 7, .inl (nA ho))), (a4, .inl (cI, 7, .inl (nA hh)))] H → va_D A [(hT, .inr (7, [.ref a1, .ref a2, .ref a3, .ref a4, .int (nI nw), .int (nI nh), .int (nI B)])), (a1, .inl (cI, 13, .inl (nA wp))), (a2, .inl (cI, 13, .inl (nA wd))), (a3, .inl (cI, 7, .inl (nA ho))), (a4, .inl (cI, 7, .inl (nA hh)))] → va_S A s.heap H locs → lv_has ls 6 [(5, .int (nI k)), (4, .int (nI (if (wd k) ≤ d then (cntW wp wd E d k) + (if E.testBit (wp k) = true then 1 else 0) else cntW wp wd E d k))), (0, .ref hT), (1, .int (nI p1)), (2, .int (nI E)), (3, .int (nI d))] → W p l e rm_X7_reaching s m args below meth c H locs 0 0 Q (F0 m 42 ls []) := by
      clear hP hD hS hl
      intro H locs ls hP hD hS hl
      refine lv_iinc (v := (nI (k + 1))) (lv' := [(5, .int (nI (k + 1))), (4, .int (nI (if (wd k) ≤ d then (cntW wp wd E d k) + (if E.testBit (wp k) = true then 1 else 0) else cntW wp wd E d k))), (0, .ref hT), (1, .int (nI p1)), (2, .int (nI E)), (3, .int (nI d))]) hx hb dX7_reaching_42 hl (k := 0) rfl (nI_inc k) (by decide) rfl (fun ls hl => ?_)
      refine lv_goto (tgt := 6) hx hb dX7_reaching_45 (by decide) ?_
      have e_16 : (nI (if (wd k) ≤ d then (cntW wp wd E d k) + (if E.testBit (wp k) = true then 1 else 0) else cntW wp wd E d k)) = (nI (cntW wp wd E d (k + 1))) := congrArg nI (show (if (wd k) ≤ d then (cntW wp wd E d k) + (if E.testBit (wp k) = true then 1 else 0) else cntW wp wd E d k) = cntW wp wd E d (k + 1) by simp only [cntW]; first | rfl | (split <;> simp_all))
      exact ih6 (k + 1) _ _ _ (show nw - (k + 1) < nw - k by omega) (show ((k + 1) ≤ nw) from by omega) hP hD hS (lv_cast (lv_sub hl [0, 1, 2, 3, 4, 5] rfl) (show ([(5, .int (nI (k + 1))), (4, .int (nI (if (wd k) ≤ d then (cntW wp wd E d k) + (if E.testBit (wp k) = true then 1 else 0) else cntW wp wd E d k))), (0, .ref hT), (1, .int (nI p1)), (2, .int (nI E)), (3, .int (nI d))] : List (Nat × Value)) = [(5, .int (nI (k + 1))), (4, .int (nI (cntW wp wd E d (k + 1)))), (0, .ref hT), (1, .int (nI p1)), (2, .int (nI E)), (3, .int (nI d))] by rw [← e_16]))
    refine k_icmp_gt (tgt := 42) hx hb dX7_reaching_23 (by decide) (show (wd k) < 2 ^ 31 by first | omega | (split <;> omega)) (show d < 2 ^ 31 by first | omega | (split <;> omega)) (fun c_15 => ?_) (fun c_15 => ?_)
    · skip
      have e_16 := (show (nI (cntW wp wd E d k)) = (nI (if (wd k) ≤ d then (cntW wp wd E d k) + (if E.testBit (wp k) = true then 1 else 0) else cntW wp wd E d k)) from congrArg nI (Eq.symm (if_neg (Nat.not_le.mpr c_15))))
      exact j_14 _ _ _ hP hD hS (lv_cast (lv_sub hl [0, 1, 2, 3, 4, 5] rfl) (show ([(5, .int (nI k)), (4, .int (nI (cntW wp wd E d k))), (0, .ref hT), (1, .int (nI p1)), (2, .int (nI E)), (3, .int (nI d))] : List (Nat × Value)) = [(5, .int (nI k)), (4, .int (nI (if (wd k) ≤ d then (cntW wp wd E d k) + (if E.testBit (wp k) = true then 1 else 0) else cntW wp wd E d k))), (0, .ref hT), (1, .int (nI p1)), (2, .int (nI E)), (3, .int (nI d))] by rw [← e_16]))
    · skip
      refine lv_iload hx hb dX7_reaching_26 (lv_at hl 1 rfl) ?_
      refine lv_iload_n hx hb dX7_reaching_28 rfl (lv_at hl 4 rfl) ?_
      refine lv_aload_n hx hb dX7_reaching_29 rfl (lv_at hl 2 rfl) ?_
      refine va_get (D := D) (ci := 7) (v := .ref a1) (C := RX7) (T := TX7) (N := 7) hx hb hts in_X7 hown hK hP 0 rfl rfl 0 (by decide) lk5 (fun _ h9 => h9) rfl dX7_reaching_30 ?_
      refine lv_iload hx hb dX7_reaching_33 (lv_at hl 0 rfl) ?_
      refine k_iald hx hb hK hP 1 0 rfl rfl (show k < 13 by omega) (by decide) dX7_reaching_35 ?_
      have b_17 := hwp k
      refine lv_ishr hx hb dX7_reaching_36 ?_
      refine k_eqi (show ((nI E) >>> ((nI (wp k)) &&& 31)) = (nI (E / 2 ^ (wp k))) from nI_shr (show E < 2 ^ 31 by omega) (show (wp k) < 32 by omega)) ?_
      refine lv_iconst (v := (nI 1)) hx hb dX7_reaching_37 (by decide) ?_
      refine lv_iand hx hb dX7_reaching_38 ?_
      refine k_eqi (show ((nI (E / 2 ^ (wp k))) &&& (nI 1)) = (nI (if E.testBit (wp k) = true then 1 else 0)) from nI_bit E (wp k)) ?_
      refine lv_iadd hx hb dX7_reaching_39 ?_
      refine k_eqi (show ((nI (cntW wp wd E d k)) + (nI (if E.testBit (wp k) = true then 1 else 0))) = (nI ((cntW wp wd E d k) + (if E.testBit (wp k) = true then 1 else 0))) from nI_add (cntW wp wd E d k) (if E.testBit (wp k) = true then 1 else 0)) ?_
      refine lv_istore (lv' := [(4, .int (nI ((cntW wp wd E d k) + (if E.testBit (wp k) = true then 1 else 0)))), (5, .int (nI k)), (0, .ref hT), (1, .int (nI p1)), (2, .int (nI E)), (3, .int (nI d))]) hx hb dX7_reaching_40 hl (by decide) rfl (fun ls hl => ?_)
      have e_18 := (show (nI ((cntW wp wd E d k) + (if E.testBit (wp k) = true then 1 else 0))) = (nI (if (wd k) ≤ d then (cntW wp wd E d k) + (if E.testBit (wp k) = true then 1 else 0) else cntW wp wd E d k)) from congrArg nI (Eq.symm (if_pos c_15)))
      exact j_14 _ _ _ hP hD hS (lv_cast (lv_sub hl [1, 0, 2, 3, 4, 5] rfl) (show ([(5, .int (nI k)), (4, .int (nI ((cntW wp wd E d k) + (if E.testBit (wp k) = true then 1 else 0)))), (0, .ref hT), (1, .int (nI p1)), (2, .int (nI E)), (3, .int (nI d))] : List (Nat × Value)) = [(5, .int (nI k)), (4, .int (nI (if (wd k) ≤ d then (cntW wp wd E d k) + (if E.testBit (wp k) = true then 1 else 0) else cntW wp wd E d k))), (0, .ref hT), (1, .int (nI p1)), (2, .int (nI E)), (3, .int (nI d))] by rw [← e_18]))
