theorem allB_s {rp rd rh sd : Nat → Nat} {k : Nat} (h : allB rp rd rh sd k = true) (e : (if (sd (rd k)).testBit (rp k) = true then 1 else 0) = rh k) : allB rp rd rh sd (k + 1) = true := by
  unfold allB
  rw [h, ← e]
  by_cases t : (sd (rd k)).testBit (rp k) = true
  · simp [t]
  · simp [t]
theorem allB_n {rp rd rh sd : Nat → Nat} {k m : Nat} (hr : rh k < 2) (hm : k < m) (e : (if (sd (rd k)).testBit (rp k) = true then 1 else 0) ≠ rh k) : ¬ allB rp rd rh sd m = true := by
  rw [allB_no hm]
  · decide
  · intro q
    apply e
    rw [q]
    rcases (show rh k = 0 ∨ rh k = 1 by omega) with h | h <;> simp [h]
def rm_X2_clear : Room := { frames := 0, cells := 0, slots := 0, locals := 0 }
set_option maxHeartbeats 4000000 in
set_option maxRecDepth 100000 in
theorem c_X2_clear (l : Launch) (D : va_G) (cI cZ cS cP : ClassId) (hR : Nat) (r1 : Nat) (r2 : Nat) (r3 : Nat) (rp : Nat → Nat) (rd : Nat → Nat) (rh : Nat → Nat) (nr : Nat) : kMv (S := Unit) l yX2_clear wsX2_clear rm_X2_clear D (kT cI cZ cS cP) [.ref hR] [(hR, .inr (2, [.ref r1, .ref r2, .ref r3, .int (nI nr)])), (r1, .inl (cI, 8, .inl (nA rp))), (r2, .inl (cI, 8, .inl (nA rd))), (r3, .inl (cZ, 8, .inl (nA rh)))] (fun _ => True) (fun _ => [(hR, .inr (2, [.ref r1, .ref r2, .ref r3, .int (nI 0)])), (r1, .inl (cI, 8, .inl (nA rp))), (r2, .inl (cI, 8, .inl (nA rd))), (r3, .inl (cZ, 8, .inl (nA rh)))]) := by
  refine kMet_v (cc := cX2_clear) (maxL := 1) (by decide) rfl (Nat.le_of_ble_eq_true rfl) ?_
  intro p e s m args below meth c A Q ls C hlocks hin hN hK hP hD hS hA hl ret
  obtain ⟨hx, hb, hml, hown, hts⟩ := C
  have hl : lv_has ls 1 [(0, .ref hR)] := hl
  have in_X2 : ∀ w ∈ wsX20, w ∈ wsX2_clear := by decide +kernel
  have lk0 := hts (.fieldLink RX2 22 "SilkWord$Readings" "size" "I") (by decide +kernel)
  refine lv_aload_n hx hb dX2_clear_0 rfl (lv_at hl 0 rfl) ?_
  refine lv_iconst (v := (nI 0)) hx hb dX2_clear_1 (by decide) ?_
  refine va_put (D := D) (ci := 2) (v := .int (nI 0)) (ty := .int) (C := RX2) (T := TX2) (N := 4) hx hb hts in_X2 tyX2 tyX2_ok nmX2 hown hK hP hD hS 0 rfl rfl 3 (by decide) lk0 (fun _ h9 => h9) rfl (by decide +kernel) rfl rfl (Nat.le_of_ble_eq_true rfl) dX2_clear_2 (fun H locs hP hD hS => ?_)
  have hP : va_P D vwCl [(hR, .inr (2, [.ref r1, .ref r2, .ref r3, .int (nI 0)])), (r1, .inl (cI, 8, .inl (nA rp))), (r2, .inl (cI, 8, .inl (nA rd))), (r3, .inl (cZ, 8, .inl (nA rh)))] H := hP
  have hD : va_D A [(hR, .inr (2, [.ref r1, .ref r2, .ref r3, .int (nI 0)])), (r1, .inl (cI, 8, .inl (nA rp))), (r2, .inl (cI, 8, .inl (nA rd))), (r3, .inl (cZ, 8, .inl (nA rh)))] := hD
  exact ret () _ _ _ _ dX2_clear_5 trivial hP hD hS
def rm_X2_size : Room := { frames := 0, cells := 0, slots := 0, locals := 0 }
set_option maxHeartbeats 4000000 in
set_option maxRecDepth 100000 in
theorem c_X2_size (l : Launch) (D : va_G) (cI cZ cS cP : ClassId) (hR : Nat) (r1 : Nat) (r2 : Nat) (r3 : Nat) (rp : Nat → Nat) (rd : Nat → Nat) (rh : Nat → Nat) (nr : Nat) : kMi (S := Unit) l yX2_size wsX2_size rm_X2_size D (kT cI cZ cS cP) [.ref hR] [(hR, .inr (2, [.ref r1, .ref r2, .ref r3, .int (nI nr)])), (r1, .inl (cI, 8, .inl (nA rp))), (r2, .inl (cI, 8, .inl (nA rd))), (r3, .inl (cZ, 8, .inl (nA rh)))] (fun r _ => r = (nI nr)) (fun _ => [(hR, .inr (2, [.ref r1, .ref r2, .ref r3, .int (nI nr)])), (r1, .inl (cI, 8, .inl (nA rp))), (r2, .inl (cI, 8, .inl (nA rd))), (r3, .inl (cZ, 8, .inl (nA rh)))]) := by
  refine kMet_i (cc := cX2_size) (maxL := 1) (ty := .int) (by decide) rfl (Nat.le_of_ble_eq_true rfl) (fun _ _ _ => rfl) ?_
  intro p e s m args below meth c A Q ls C hlocks hin hN hK hP hD hS hA hl ret
  obtain ⟨hx, hb, hml, hown, hts⟩ := C
  have hl : lv_has ls 1 [(0, .ref hR)] := hl
  have in_X2 : ∀ w ∈ wsX20, w ∈ wsX2_size := by decide +kernel
  have lk0 := hts (.fieldLink RX2 22 "SilkWord$Readings" "size" "I") (by decide +kernel)
  refine lv_aload_n hx hb dX2_size_0 rfl (lv_at hl 0 rfl) ?_
  refine va_get (D := D) (ci := 2) (v := .int (nI nr)) (C := RX2) (T := TX2) (N := 4) hx hb hts in_X2 hown hK hP 0 rfl rfl 3 (by decide) lk0 (fun _ h9 => h9) rfl dX2_size_1 ?_
  exact ret _ () _ _ _ _ dX2_size_4 (rfl) hP hD hS
def rm_X2_add : Room := { frames := 0, cells := 0, slots := 0, locals := 0 }
set_option maxHeartbeats 4000000 in
set_option maxRecDepth 100000 in
theorem c_X2_add (l : Launch) (D : va_G) (cI cZ cS cP : ClassId) (hR : Nat) (r1 : Nat) (r2 : Nat) (r3 : Nat) (rp : Nat → Nat) (rd : Nat → Nat) (rh : Nat → Nat) (nr : Nat) (x : Nat) (y : Nat) (z : Nat) (hrp : ∀ i, rp i < 7) (hrd : ∀ i, rd i < 40) (hrh : ∀ i, rh i < 2) (hnr : nr < 8) (hxx : x < 7) (hyy : y < 40) (hzz : z < 2) : kMv (S := Unit) l yX2_add wsX2_add rm_X2_add D (kT cI cZ cS cP) [.ref hR, .int (nI x), .int (nI y), .int (nI z)] [(hR, .inr (2, [.ref r1, .ref r2, .ref r3, .int (nI nr)])), (r1, .inl (cI, 8, .inl (nA rp))), (r2, .inl (cI, 8, .inl (nA rd))), (r3, .inl (cZ, 8, .inl (nA rh)))] (fun _ => True) (fun _ => [(hR, .inr (2, [.ref r1, .ref r2, .ref r3, .int (nI (nr + 1))])), (r1, .inl (cI, 8, .inl (nA (va_up rp nr x)))), (r2, .inl (cI, 8, .inl (nA (va_up rd nr y)))), (r3, .inl (cZ, 8, .inl (nA (va_up rh nr z))))]) := by
  refine kMet_v (cc := cX2_add) (maxL := 4) (by decide) rfl (Nat.le_of_ble_eq_true rfl) ?_
  intro p e s m args below meth c A Q ls C hlocks hin hN hK hP hD hS hA hl ret
  obtain ⟨hx, hb, hml, hown, hts⟩ := C
  have hl : lv_has ls 4 [(0, .ref hR), (1, .int (nI x)), (2, .int (nI y)), (3, .int (nI z))] := hl
  have in_X2 : ∀ w ∈ wsX20, w ∈ wsX2_add := by decide +kernel
  have lk0 := hts (.fieldLink RX2 22 "SilkWord$Readings" "size" "I") (by decide +kernel)
  have lk1 := hts (.fieldLink RX2 9 "SilkWord$Readings" "persons" "[I") (by decide +kernel)
  have lk2 := hts (.fieldLink RX2 15 "SilkWord$Readings" "days" "[I") (by decide +kernel)
  have lk3 := hts (.fieldLink RX2 18 "SilkWord$Readings" "had" "[Z") (by decide +kernel)
  refine lv_aload_n hx hb dX2_add_0 rfl (lv_at hl 0 rfl) ?_
  refine va_get (D := D) (ci := 2) (v := .int (nI nr)) (C := RX2) (T := TX2) (N := 4) hx hb hts in_X2 hown hK hP 0 rfl rfl 3 (by decide) lk0 (fun _ h9 => h9) rfl dX2_add_1 ?_
  refine lv_bipush (v := (nI 8)) hx hb dX2_add_4 (by decide) ?_
  refine k_icmp_ge (tgt := 49) hx hb dX2_add_6 (by decide) (show nr < 2 ^ 31 by first | omega | (split <;> omega)) (show 8 < 2 ^ 31 by first | omega | (split <;> omega)) (fun c_1 => absurd c_1 (by omega)) (fun c_1 => ?_)
  refine lv_aload_n hx hb dX2_add_9 rfl (lv_at hl 0 rfl) ?_
  refine va_get (D := D) (ci := 2) (v := .ref r1) (C := RX2) (T := TX2) (N := 4) hx hb hts in_X2 hown hK hP 0 rfl rfl 0 (by decide) lk1 (fun _ h9 => h9) rfl dX2_add_10 ?_
  refine lv_aload_n hx hb dX2_add_13 rfl (lv_at hl 0 rfl) ?_
  refine va_get (D := D) (ci := 2) (v := .int (nI nr)) (C := RX2) (T := TX2) (N := 4) hx hb hts in_X2 hown hK hP 0 rfl rfl 3 (by decide) lk0 (fun _ h9 => h9) rfl dX2_add_14 ?_
  refine lv_iload_n hx hb dX2_add_17 rfl (lv_at hl 1 rfl) ?_
  refine k_iastN (y := x) hx hb hK hP hD hS 1 0 rfl rfl (show nr < 8 by omega) (by decide) dX2_add_18 (fun H locs hP hD hS => ?_)
  have hb_2 : ∀ i, (va_up rp nr x) i < 7 := up_lt hrp (show x < 7 by first | omega | (split <;> omega))
  have hP : va_P D vwCl [(hR, .inr (2, [.ref r1, .ref r2, .ref r3, .int (nI nr)])), (r1, .inl (cI, 8, .inl (nA (va_up rp nr x)))), (r2, .inl (cI, 8, .inl (nA rd))), (r3, .inl (cZ, 8, .inl (nA rh)))] H := hP
  have hD : va_D A [(hR, .inr (2, [.ref r1, .ref r2, .ref r3, .int (nI nr)])), (r1, .inl (cI, 8, .inl (nA (va_up rp nr x)))), (r2, .inl (cI, 8, .inl (nA rd))), (r3, .inl (cZ, 8, .inl (nA rh)))] := hD
  refine lv_aload_n hx hb dX2_add_19 rfl (lv_at hl 0 rfl) ?_
  refine va_get (D := D) (ci := 2) (v := .ref r2) (C := RX2) (T := TX2) (N := 4) hx hb hts in_X2 hown hK hP 0 rfl rfl 1 (by decide) lk2 (fun _ h9 => h9) rfl dX2_add_20 ?_
  refine lv_aload_n hx hb dX2_add_23 rfl (lv_at hl 0 rfl) ?_
  refine va_get (D := D) (ci := 2) (v := .int (nI nr)) (C := RX2) (T := TX2) (N := 4) hx hb hts in_X2 hown hK hP 0 rfl rfl 3 (by decide) lk0 (fun _ h9 => h9) rfl dX2_add_24 ?_
  refine lv_iload_n hx hb dX2_add_27 rfl (lv_at hl 2 rfl) ?_
  refine k_iastN (y := y) hx hb hK hP hD hS 2 0 rfl rfl (show nr < 8 by omega) (by decide) dX2_add_28 (fun H locs hP hD hS => ?_)
  have hb_3 : ∀ i, (va_up rd nr y) i < 40 := up_lt hrd (show y < 40 by first | omega | (split <;> omega))
  have hP : va_P D vwCl [(hR, .inr (2, [.ref r1, .ref r2, .ref r3, .int (nI nr)])), (r1, .inl (cI, 8, .inl (nA (va_up rp nr x)))), (r2, .inl (cI, 8, .inl (nA (va_up rd nr y)))), (r3, .inl (cZ, 8, .inl (nA rh)))] H := hP
  have hD : va_D A [(hR, .inr (2, [.ref r1, .ref r2, .ref r3, .int (nI nr)])), (r1, .inl (cI, 8, .inl (nA (va_up rp nr x)))), (r2, .inl (cI, 8, .inl (nA (va_up rd nr y)))), (r3, .inl (cZ, 8, .inl (nA rh)))] := hD
  refine lv_aload_n hx hb dX2_add_29 rfl (lv_at hl 0 rfl) ?_
  refine va_get (D := D) (ci := 2) (v := .ref r3) (C := RX2) (T := TX2) (N := 4) hx hb hts in_X2 hown hK hP 0 rfl rfl 2 (by decide) lk3 (fun _ h9 => h9) rfl dX2_add_30 ?_
  refine lv_aload_n hx hb dX2_add_33 rfl (lv_at hl 0 rfl) ?_
  refine va_get (D := D) (ci := 2) (v := .int (nI nr)) (C := RX2) (T := TX2) (N := 4) hx hb hts in_X2 hown hK hP 0 rfl rfl 3 (by decide) lk0 (fun _ h9 => h9) rfl dX2_add_34 ?_
  refine lv_iload_n hx hb dX2_add_37 rfl (lv_at hl 3 rfl) ?_
  refine k_zastN (y := z) hx hb hK hP hD hS 3 1 rfl rfl (show nr < 8 by omega) (by decide) (show z < 2 by first | omega | (split <;> omega)) dX2_add_38 (fun H locs hP hD hS => ?_)
  have hb_4 : ∀ i, (va_up rh nr z) i < 2 := up_lt hrh (show z < 2 by first | omega | (split <;> omega))
  have hP : va_P D vwCl [(hR, .inr (2, [.ref r1, .ref r2, .ref r3, .int (nI nr)])), (r1, .inl (cI, 8, .inl (nA (va_up rp nr x)))), (r2, .inl (cI, 8, .inl (nA (va_up rd nr y)))), (r3, .inl (cZ, 8, .inl (nA (va_up rh nr z))))] H := hP
  have hD : va_D A [(hR, .inr (2, [.ref r1, .ref r2, .ref r3, .int (nI nr)])), (r1, .inl (cI, 8, .inl (nA (va_up rp nr x)))), (r2, .inl (cI, 8, .inl (nA (va_up rd nr y)))), (r3, .inl (cZ, 8, .inl (nA (va_up rh nr z))))] := hD
  refine lv_aload_n hx hb dX2_add_39 rfl (lv_at hl 0 rfl) ?_
  refine lv_dup hx hb dX2_add_40 rfl ?_
  refine va_get (D := D) (ci := 2) (v := .int (nI nr)) (C := RX2) (T := TX2) (N := 4) hx hb hts in_X2 hown hK hP 0 rfl rfl 3 (by decide) lk0 (fun _ h9 => h9) rfl dX2_add_41 ?_
  refine lv_iconst (v := (nI 1)) hx hb dX2_add_44 (by decide) ?_
  refine lv_iadd hx hb dX2_add_45 ?_
  refine k_eqi (show ((nI nr) + (nI 1)) = (nI (nr + 1)) from nI_add nr 1) ?_
  refine va_put (D := D) (ci := 2) (v := .int (nI (nr + 1))) (ty := .int) (C := RX2) (T := TX2) (N := 4) hx hb hts in_X2 tyX2 tyX2_ok nmX2 hown hK hP hD hS 0 rfl rfl 3 (by decide) lk0 (fun _ h9 => h9) rfl (by decide +kernel) rfl rfl (Nat.le_of_ble_eq_true rfl) dX2_add_46 (fun H locs hP hD hS => ?_)
  have hP : va_P D vwCl [(hR, .inr (2, [.ref r1, .ref r2, .ref r3, .int (nI (nr + 1))])), (r1, .inl (cI, 8, .inl (nA (va_up rp nr x)))), (r2, .inl (cI, 8, .inl (nA (va_up rd nr y)))), (r3, .inl (cZ, 8, .inl (nA (va_up rh nr z))))] H := hP
  have hD : va_D A [(hR, .inr (2, [.ref r1, .ref r2, .ref r3, .int (nI (nr + 1))])), (r1, .inl (cI, 8, .inl (nA (va_up rp nr x)))), (r2, .inl (cI, 8, .inl (nA (va_up rd nr y)))), (r3, .inl (cZ, 8, .inl (nA (va_up rh nr z))))] := hD
  exact ret () _ _ _ _ dX2_add_49 trivial hP hD hS
def rm_X2_drop : Room := { frames := 1, cells := 0, slots := 0, locals := 24 }
set_option maxHeartbeats 4000000 in
set_option maxRecDepth 100000 in
theorem c_X2_drop (l : Launch) (D : va_G) (cI cZ cS cP : ClassId) (hR : Nat) (r1 : Nat) (r2 : Nat) (r3 : Nat) (rp : Nat → Nat) (rd : Nat → Nat) (rh : Nat → Nat) (nr : Nat) (k : Nat) (hnr : nr ≤ 8) (hk : k ≤ nr) : kMv (S := Unit) l yX2_drop wsX2_drop rm_X2_drop D (kT cI cZ cS cP) [.ref hR, .int (nI k)] [(hR, .inr (2, [.ref r1, .ref r2, .ref r3, .int (nI nr)])), (r1, .inl (cI, 8, .inl (nA rp))), (r2, .inl (cI, 8, .inl (nA rd))), (r3, .inl (cZ, 8, .inl (nA rh)))] (fun _ => True) (fun _ => [(hR, .inr (2, [.ref r1, .ref r2, .ref r3, .int (nI (nr - k))])), (r1, .inl (cI, 8, .inl (nA rp))), (r2, .inl (cI, 8, .inl (nA rd))), (r3, .inl (cZ, 8, .inl (nA rh)))]) := by
  refine kMet_v (cc := cX2_drop) (maxL := 2) (by decide) rfl (Nat.le_of_ble_eq_true rfl) ?_
  intro p e s m args below meth c A Q ls C hlocks hin hN hK hP hD hS hA hl ret
  obtain ⟨hx, hb, hml, hown, hts⟩ := C
  have hl : lv_has ls 2 [(0, .ref hR), (1, .int (nI k))] := hl
  have in_X2 : ∀ w ∈ wsX20, w ∈ wsX2_drop := by decide +kernel
  have lk0 := hts (.fieldLink RX2 22 "SilkWord$Readings" "size" "I") (by decide +kernel)
  have lk1 := hts (.methodLink RX2 26 Lib.Math.max.name) (by decide +kernel)
  have lk2 := hts (.static Lib.Math.max.name) (by decide +kernel)
  have lk3 := hts (.initialized "java/lang/Math") (by decide +kernel)
  have lk4 := hts (.code Lib.Math.max.name Lib.Math.max.code 2 (some .int)) (by decide +kernel)
  refine lv_aload_n hx hb dX2_drop_0 rfl (lv_at hl 0 rfl) ?_
  refine lv_iconst (v := (nI 0)) hx hb dX2_drop_1 (by decide) ?_
  refine lv_aload_n hx hb dX2_drop_2 rfl (lv_at hl 0 rfl) ?_
  refine va_get (D := D) (ci := 2) (v := .int (nI nr)) (C := RX2) (T := TX2) (N := 4) hx hb hts in_X2 hown hK hP 0 rfl rfl 3 (by decide) lk0 (fun _ h9 => h9) rfl dX2_drop_3 ?_
  refine lv_iload_n hx hb dX2_drop_6 rfl (lv_at hl 1 rfl) ?_
  refine lv_isub hx hb dX2_drop_7 ?_
  refine k_eqi (show ((nI nr) - (nI k)) = (nI (nr - k)) from pk_sub (show k ≤ nr by omega)) ?_
  refine va_mmax hx hb (by rw [hml]; exact hl.1.symm) hown lk1 lk2 lk3 lk4 (Nat.le_of_ble_eq_true rfl) (Nat.le_of_ble_eq_true rfl) (by decide) (by decide) dX2_drop_8 ?_
  refine k_eqi (show (if (nI 0) < (nI (nr - k)) then (nI (nr - k)) else (nI 0)) = (nI (nr - k)) from max0_ok (show nr - k < 2 ^ 31 by omega)) ?_
  refine va_put (D := D) (ci := 2) (v := .int (nI (nr - k))) (ty := .int) (C := RX2) (T := TX2) (N := 4) hx hb hts in_X2 tyX2 tyX2_ok nmX2 hown hK hP hD hS 0 rfl rfl 3 (by decide) lk0 (fun _ h9 => h9) rfl (by decide +kernel) rfl rfl (Nat.le_of_ble_eq_true rfl) dX2_drop_11 (fun H locs hP hD hS => ?_)
  have hP : va_P D vwCl [(hR, .inr (2, [.ref r1, .ref r2, .ref r3, .int (nI (nr - k))])), (r1, .inl (cI, 8, .inl (nA rp))), (r2, .inl (cI, 8, .inl (nA rd))), (r3, .inl (cZ, 8, .inl (nA rh)))] H := hP
  have hD : va_D A [(hR, .inr (2, [.ref r1, .ref r2, .ref r3, .int (nI (nr - k))])), (r1, .inl (cI, 8, .inl (nA rp))), (r2, .inl (cI, 8, .inl (nA rd))), (r3, .inl (cZ, 8, .inl (nA rh)))] := hD
  exact ret () _ _ _ _ dX2_drop_14 trivial hP hD hS
def rm_X2_areAllSo : Room := { frames := 2, cells := 0, slots := 0, locals := 41 }
set_option maxHeartbeats 4000000 in
set_option maxRecDepth 100000 in
theorem c_X2_areAllSo (l : Launch) (D : va_G) (cI cZ cS cP : ClassId) (hR : Nat) (r1 : Nat) (r2 : Nat) (r3 : Nat) (rp : Nat → Nat) (rd : Nat → Nat) (rh : Nat → Nat) (nr : Nat) (hY : Nat) (y1 : Nat) (y2 : Nat) (sd : Nat → Nat) (rc : Nat → Nat) (hrp : ∀ i, rp i < 7) (hrd : ∀ i, rd i < 40) (hrh : ∀ i, rh i < 2) (hsd : ∀ i, sd i < 128) (hrc : ∀ i, rc i < 21) (hnr : nr ≤ 8) : kMi (S := Unit) l yX2_areAllSo wsX2_areAllSo rm_X2_areAllSo D (kT cI cZ cS cP) [.ref hR, .ref hY] [(hR, .inr (2, [.ref r1, .ref r2, .ref r3, .int (nI nr)])), (r1, .inl (cI, 8, .inl (nA rp))), (r2, .inl (cI, 8, .inl (nA rd))), (r3, .inl (cZ, 8, .inl (nA rh))), (hY, .inr (1, [.ref y1, .ref y2])), (y1, .inl (cI, 40, .inl (nA sd))), (y2, .inl (cI, 7, .inl (nA rc)))] (fun r _ => r = (nI (if allB rp rd rh sd nr = true then 1 else 0))) (fun _ => [(hR, .inr (2, [.ref r1, .ref r2, .ref r3, .int (nI nr)])), (r1, .inl (cI, 8, .inl (nA rp))), (r2, .inl (cI, 8, .inl (nA rd))), (r3, .inl (cZ, 8, .inl (nA rh))), (hY, .inr (1, [.ref y1, .ref y2])), (y1, .inl (cI, 40, .inl (nA sd))), (y2, .inl (cI, 7, .inl (nA rc)))]) := by
  refine kMet_i (cc := cX2_areAllSo) (maxL := 3) (ty := .boolean) (by decide) rfl (Nat.le_of_ble_eq_true rfl) (fun _ _ q => by (first | subst q | (obtain ⟨q, -⟩ := q; subst q)); (first | exact kz_nr | decide)) ?_
  intro p e s m args below meth c A Q ls C hlocks hin hN hK hP hD hS hA hl ret
  obtain ⟨hx, hb, hml, hown, hts⟩ := C
  have hl : lv_has ls 3 [(0, .ref hR), (1, .ref hY)] := hl
  have in_X2 : ∀ w ∈ wsX20, w ∈ wsX2_areAllSo := by decide +kernel
  have lk0 := hts (.fieldLink RX2 22 "SilkWord$Readings" "size" "I") (by decide +kernel)
  have lk1 := hts (.fieldLink RX2 15 "SilkWord$Readings" "days" "[I") (by decide +kernel)
  have lk2 := hts (.fieldLink RX2 9 "SilkWord$Readings" "persons" "[I") (by decide +kernel)
  have lk3 := hts (.initialized RX10) (by decide +kernel)
  have lk4 := hts (.static yX10_isIn) (by decide +kernel)
  have lk5 := hts (.fieldLink RX2 18 "SilkWord$Readings" "had" "[Z") (by decide +kernel)
  refine lv_iconst (v := (nI 0)) hx hb dX2_areAllSo_0 (by decide) ?_
  refine lv_istore_n (lv' := [(2, .int (nI 0)), (0, .ref hR), (1, .ref hY)]) hx hb dX2_areAllSo_1 rfl hl (by decide) rfl (fun ls hl => ?_)
  refine k_loop (α := Nat) (nL := 3) (fun k => nr - k) (fun k => [(hR, .inr (2, [.ref r1, .ref r2, .ref r3, .int (nI nr)])), (r1, .inl (cI, 8, .inl (nA rp))), (r2, .inl (cI, 8, .inl (nA rd))), (r3, .inl (cZ, 8, .inl (nA rh))), (hY, .inr (1, [.ref y1, .ref y2])), (y1, .inl (cI, 40, .inl (nA sd))), (y2, .inl (cI, 7, .inl (nA rc)))]) (fun k => [(2, .int (nI k)), (0, .ref hR), (1, .ref hY)]) (fun k => (k ≤ nr) ∧ (allB rp rd rh sd k = true)) ?_ 0 (show (0 ≤ nr) ∧ (allB rp rd rh sd 0 = true) from ⟨by omega, rfl⟩) hP hD hS (lv_sub hl [0, 1, 2] rfl)
  clear hP hD hS hl
  intro k H locs ls hI hP hD hS hl ih2
  obtain ⟨hk, hf⟩ : (k ≤ nr) ∧ (allB rp rd rh sd k = true) := hI
  have hP : va_P D vwCl [(hR, .inr (2, [.ref r1, .ref r2, .ref r3, .int (nI nr)])), (r1, .inl (cI, 8, .inl (nA rp))), (r2, .inl (cI, 8, .inl (nA rd))), (r3, .inl (cZ, 8, .inl (nA rh))), (hY, .inr (1, [.ref y1, .ref y2])), (y1, .inl (cI, 40, .inl (nA sd))), (y2, .inl (cI, 7, .inl (nA rc)))] H := hP
  have hD : va_D A [(hR, .inr (2, [.ref r1, .ref r2, .ref r3, .int (nI nr)])), (r1, .inl (cI, 8, .inl (nA rp))), (r2, .inl (cI, 8, .inl (nA rd))), (r3, .inl (cZ, 8, .inl (nA rh))), (hY, .inr (1, [.ref y1, .ref y2])), (y1, .inl (cI, 40, .inl (nA sd))), (y2, .inl (cI, 7, .inl (nA rc)))] := hD
  have hl : lv_has ls 3 [(2, .int (nI k)), (0, .ref hR), (1, .ref hY)] := hl
  refine lv_iload_n hx hb dX2_areAllSo_2 rfl (lv_at hl 0 rfl) ?_
  refine lv_aload_n hx hb dX2_areAllSo_3 rfl (lv_at hl 1 rfl) ?_
  refine va_get (D := D) (ci := 2) (v := .int (nI nr)) (C := RX2) (T := TX2) (N := 4) hx hb hts in_X2 hown hK hP 0 rfl rfl 3 (by decide) lk0 (fun _ h9 => h9) rfl dX2_areAllSo_4 ?_
  refine k_icmp_ge (tgt := 46) hx hb dX2_areAllSo_7 (by decide) (show k < 2 ^ 31 by first | omega | (split <;> omega)) (show nr < 2 ^ 31 by first | omega | (split <;> omega)) (fun c_1 => ?_) (fun c_1 => ?_)
  · skip
    refine lv_iconst (v := (nI 1)) hx hb dX2_areAllSo_46 (by decide) ?_
    exact ret _ () _ _ _ _ dX2_areAllSo_47 (congrArg nI (show 1 = (if allB rp rd rh sd nr = true then 1 else 0) by first | (have h9 : k = nr := by omega); subst h9; rw [if_pos hf] | rw [if_neg (allB_n (hrh k) (by omega) (by assumption))])) hP hD hS
  · skip
    refine lv_aload_n hx hb dX2_areAllSo_10 rfl (lv_at hl 2 rfl) ?_
    refine lv_aload_n hx hb dX2_areAllSo_11 rfl (lv_at hl 1 rfl) ?_
    refine va_get (D := D) (ci := 2) (v := .ref r2) (C := RX2) (T := TX2) (N := 4) hx hb hts in_X2 hown hK hP 0 rfl rfl 1 (by decide) lk1 (fun _ h9 => h9) rfl dX2_areAllSo_12 ?_
    refine lv_iload_n hx hb dX2_areAllSo_15 rfl (lv_at hl 0 rfl) ?_
    refine k_iald hx hb hK hP 2 0 rfl rfl (show k < 8 by omega) (by decide) dX2_areAllSo_16 ?_
    have b_2 := hrd k
    refine k_goi (S := Unit) (va_runV (As := [.int (nI (rd k))]) (rest := []) ⟨hx, hb, hml, hown, hts⟩ (c_X1_saidBy l D cI cZ cS cP hY y1 y2 sd rc (rd k) (hsd) (hrc) (by first | assumption | omega) _) (cwV 1 hts gX2_areAllSo_X1_saidBy rfl rfl rfl (by decide +kernel) ⟨Nat.le_of_ble_eq_true rfl, Nat.le_of_ble_eq_true rfl⟩) (kPreV hN hK hP hD [4, 5, 6] rfl rfl (q0 := 0) (ci := 1) (q := (RX1, TX1, 2)) rfl rfl) rfl rfl hl.1 rfl (lv_room (Nat.le_of_ble_eq_true rfl)) dX2_areAllSo_17 ⟨Nat.le_of_ble_eq_true rfl, Nat.le_of_ble_eq_true rfl⟩) hP hD hS hA [4, 5, 6] rfl [hY, y1, y2] rfl (fun _ => rfl) 7 [0, 1, 2, 3] rfl (fun _u => [(hR, .inr (2, [.ref r1, .ref r2, .ref r3, .int (nI nr)])), (r1, .inl (cI, 8, .inl (nA rp))), (r2, .inl (cI, 8, .inl (nA rd))), (r3, .inl (cZ, 8, .inl (nA rh))), (hY, .inr (1, [.ref y1, .ref y2])), (y1, .inl (cI, 40, .inl (nA sd))), (y2, .inl (cI, 7, .inl (nA rc)))]) (fun _ => rfl) [(hR, .inr (2, [.ref r1, .ref r2, .ref r3, .int (nI nr)])), (r1, .inl (cI, 8, .inl (nA rp))), (r2, .inl (cI, 8, .inl (nA rd))), (r3, .inl (cZ, 8, .inl (nA rh)))] [] (fun _ => rfl) rfl (fun _ => rfl) rfl (fun r_3 _u H locs hr_4 hP hD hS => ?_)
    have hP : va_P D vwCl [(hR, .inr (2, [.ref r1, .ref r2, .ref r3, .int (nI nr)])), (r1, .inl (cI, 8, .inl (nA rp))), (r2, .inl (cI, 8, .inl (nA rd))), (r3, .inl (cZ, 8, .inl (nA rh))), (hY, .inr (1, [.ref y1, .ref y2])), (y1, .inl (cI, 40, .inl (nA sd))), (y2, .inl (cI, 7, .inl (nA rc)))] H := hP
    have hD : va_D A [(hR, .inr (2, [.ref r1, .ref r2, .ref r3, .int (nI nr)])), (r1, .inl (cI, 8, .inl (nA rp))), (r2, .inl (cI, 8, .inl (nA rd))), (r3, .inl (cZ, 8, .inl (nA rh))), (hY, .inr (1, [.ref y1, .ref y2])), (y1, .inl (cI, 40, .inl (nA sd))), (y2, .inl (cI, 7, .inl (nA rc)))] := hD
    subst hr_4
    have b_5 : sd (rd k) < 128 := (hsd) (rd k)
    refine lv_aload_n hx hb dX2_areAllSo_20 rfl (lv_at hl 1 rfl) ?_
    refine va_get (D := D) (ci := 2) (v := .ref r1) (C := RX2) (T := TX2) (N := 4) hx hb hts in_X2 hown hK hP 0 rfl rfl 0 (by decide) lk2 (fun _ h9 => h9) rfl dX2_areAllSo_21 ?_
    refine lv_iload_n hx hb dX2_areAllSo_24 rfl (lv_at hl 0 rfl) ?_
    refine k_iald hx hb hK hP 1 0 rfl rfl (show k < 8 by omega) (by decide) dX2_areAllSo_25 ?_
    have b_6 := hrp k
    refine k_goi (S := Unit) (va_runSN (As := [.int (nI (sd (rd k))), .int (nI (rp k))]) (rest := []) ⟨hx, hb, hml, hown, hts⟩ (c_X10_isIn l D cI cZ cS cP (sd (rd k)) (rp k) (by first | assumption | omega) (by first | assumption | omega) _) ⟨va_cnB 2 hts gX2_areAllSo_X10_isIn_n38 rfl rfl rfl hN.2.2.2.2.2.2.2.2.2.2.2.2.1 lk3 (by decide +kernel) ⟨Nat.le_of_ble_eq_true rfl, Nat.le_of_ble_eq_true rfl⟩, lk4, trivial⟩ (kPreS hN hK hP hD [] rfl rfl) rfl rfl hl.1 rfl (lv_room (Nat.le_of_ble_eq_true rfl)) dX2_areAllSo_26 ⟨Nat.le_of_ble_eq_true rfl, Nat.le_of_ble_eq_true rfl⟩) hP hD hS hA [] rfl [] rfl (fun _ => rfl) 7 [0, 1, 2, 3, 4, 5, 6] rfl (fun _u => [(hR, .inr (2, [.ref r1, .ref r2, .ref r3, .int (nI nr)])), (r1, .inl (cI, 8, .inl (nA rp))), (r2, .inl (cI, 8, .inl (nA rd))), (r3, .inl (cZ, 8, .inl (nA rh))), (hY, .inr (1, [.ref y1, .ref y2])), (y1, .inl (cI, 40, .inl (nA sd))), (y2, .inl (cI, 7, .inl (nA rc)))]) (fun _ => rfl) [(hR, .inr (2, [.ref r1, .ref r2, .ref r3, .int (nI nr)])), (r1, .inl (cI, 8, .inl (nA rp))), (r2, .inl (cI, 8, .inl (nA rd))), (r3, .inl (cZ, 8, .inl (nA rh))), (hY, .inr (1, [.ref y1, .ref y2])), (y1, .inl (cI, 40, .inl (nA sd))), (y2, .inl (cI, 7, .inl (nA rc)))] [] (fun _ => rfl) rfl (fun _ => rfl) rfl (fun r_7 _u H locs hr_8 hP hD hS => ?_)
    have hP : va_P D vwCl [(hR, .inr (2, [.ref r1, .ref r2, .ref r3, .int (nI nr)])), (r1, .inl (cI, 8, .inl (nA rp))), (r2, .inl (cI, 8, .inl (nA rd))), (r3, .inl (cZ, 8, .inl (nA rh))), (hY, .inr (1, [.ref y1, .ref y2])), (y1, .inl (cI, 40, .inl (nA sd))), (y2, .inl (cI, 7, .inl (nA rc)))] H := hP
    have hD : va_D A [(hR, .inr (2, [.ref r1, .ref r2, .ref r3, .int (nI nr)])), (r1, .inl (cI, 8, .inl (nA rp))), (r2, .inl (cI, 8, .inl (nA rd))), (r3, .inl (cZ, 8, .inl (nA rh))), (hY, .inr (1, [.ref y1, .ref y2])), (y1, .inl (cI, 40, .inl (nA sd))), (y2, .inl (cI, 7, .inl (nA rc)))] := hD
    subst hr_8
    refine lv_aload_n hx hb dX2_areAllSo_29 rfl (lv_at hl 1 rfl) ?_
    refine va_get (D := D) (ci := 2) (v := .ref r3) (C := RX2) (T := TX2) (N := 4) hx hb hts in_X2 hown hK hP 0 rfl rfl 2 (by decide) lk5 (fun _ h9 => h9) rfl dX2_areAllSo_30 ?_
    refine lv_iload_n hx hb dX2_areAllSo_33 rfl (lv_at hl 0 rfl) ?_
    refine k_zald hx hb hK hP 3 1 rfl rfl (show k < 8 by omega) (by decide) dX2_areAllSo_34 ?_
    have b_9 := hrh k
    refine k_icmp_eq (tgt := 40) hx hb dX2_areAllSo_35 (by decide) (show (if (sd (rd k)).testBit (rp k) = true then 1 else 0) < 2 ^ 31 by first | omega | (split <;> omega)) (show (rh k) < 2 ^ 31 by first | omega | (split <;> omega)) (fun c_10 => ?_) (fun c_10 => ?_)
    · skip
      refine lv_iinc (v := (nI (k + 1))) (lv' := [(2, .int (nI (k + 1))), (0, .ref hR), (1, .ref hY)]) hx hb dX2_areAllSo_40 hl (k := 0) rfl (nI_inc k) (by decide) rfl (fun ls hl => ?_)
      refine lv_goto (tgt := 2) hx hb dX2_areAllSo_43 (by decide) ?_
      exact ih2 (k + 1) _ _ _ (show nr - (k + 1) < nr - k by omega) (show ((k + 1) ≤ nr) ∧ (allB rp rd rh sd (k + 1) = true) from ⟨by omega, allB_s hf (by assumption)⟩) hP hD hS (lv_sub hl [0, 1, 2] rfl)
    · skip
      refine lv_iconst (v := (nI 0)) hx hb dX2_areAllSo_38 (by decide) ?_
      exact ret _ () _ _ _ _ dX2_areAllSo_39 (congrArg nI (show 0 = (if allB rp rd rh sd nr = true then 1 else 0) by first | (have h9 : k = nr := by omega); subst h9; rw [if_pos hf] | rw [if_neg (allB_n (hrh k) (by omega) (by assumption))])) hP hD hS
