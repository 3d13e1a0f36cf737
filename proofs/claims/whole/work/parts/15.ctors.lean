def rm_X8_init : Room := { frames := 1, cells := 0, slots := 0, locals := 20 }
set_option maxHeartbeats 4000000 in
set_option maxRecDepth 100000 in
theorem c_X8_init (l : Launch) (D : va_G) (cI cZ cS cP : ClassId) (h : Nat) : kMv (S := Unit) l yX8_init wsX8_init rm_X8_init D (kT cI cZ cS cP) [.ref h] [(h, .inr (8, [.int (nI 0)]))] (fun _ => True) (fun _ => [(h, .inr (8, [.int (nI 0)]))]) := by
  refine kMet_v (cc := cX8_init) (maxL := 1) (by decide) rfl (Nat.le_of_ble_eq_true rfl) ?_
  intro p e s m args below meth c A Q ls C hlocks hin hN hK hP hD hS hA hl ret
  obtain ⟨hx, hb, hml, hown, hts⟩ := C
  have hl : lv_has ls 1 [(0, .ref h)] := hl
  have lk0 := hts (.methodLink RX8 1 objectInit) (by decide +kernel)
  have lk1 := hts (.instanceMethod objectInit) (by decide +kernel)
  have lk2 := hts (.code objectInit ⟨#[0xb1]⟩ 1 none) (by decide +kernel)
  refine lv_aload_n hx hb dX8_init_0 rfl (lv_at hl 0 rfl) ?_
  refine W.objInit hx hb hown lk0 lk1 lk2 rfl (by rw [hml]; exact hl.1) rfl dX8_init_1 (Nat.le_of_ble_eq_true rfl) (Nat.le_of_ble_eq_true rfl) ?_
  refine W.eq (g2 := F0 m 4 ls []) rfl ?_
  exact ret () _ _ _ _ dX8_init_4 trivial hP hD hS
def rm_X1_init : Room := { frames := 1, cells := 2, slots := 47, locals := 20 }
set_option maxHeartbeats 4000000 in
set_option maxRecDepth 100000 in
theorem c_X1_init (l : Launch) (D : va_G) (cI cZ cS cP : ClassId) (h : Nat) : kMv (S := Nat × Nat) l yX1_init wsX1_init rm_X1_init D (kT cI cZ cS cP) [.ref h] [(h, .inr (1, [.null, .null]))] (fun u9 => True) (fun u9 => [(h, .inr (1, [.ref u9.1, .ref u9.2])), (u9.1, .inl (cI, 40, .inl (nA (fun _ => 0)))), (u9.2, .inl (cI, 7, .inl (nA (fun _ => 0))))]) := by
  refine kMet_v (cc := cX1_init) (maxL := 1) (by decide) rfl (Nat.le_of_ble_eq_true rfl) ?_
  intro p e s m args below meth c A Q ls C hlocks hin hN hK hP hD hS hA hl ret
  obtain ⟨hx, hb, hml, hown, hts⟩ := C
  have hl : lv_has ls 1 [(0, .ref h)] := hl
  have in_X1 : ∀ w ∈ wsX10, w ∈ wsX1_init := by decide +kernel
  have lk0 := hts (.methodLink RX1 3 objectInit) (by decide +kernel)
  have lk1 := hts (.instanceMethod objectInit) (by decide +kernel)
  have lk2 := hts (.code objectInit ⟨#[0xb1]⟩ 1 none) (by decide +kernel)
  have lk3 := hts (.arrayClass .int) (by decide +kernel)
  have lk4 := hts (.fieldLink RX1 9 "SilkWord$Days" "said" "[I") (by decide +kernel)
  have lk5 := hts (.fieldLink RX1 15 "SilkWord$Days" "reached" "[I") (by decide +kernel)
  refine lv_aload_n hx hb dX1_init_0 rfl (lv_at hl 0 rfl) ?_
  refine W.objInit hx hb hown lk0 lk1 lk2 rfl (by rw [hml]; exact hl.1) rfl dX1_init_1 (Nat.le_of_ble_eq_true rfl) (Nat.le_of_ble_eq_true rfl) ?_
  refine W.eq (g2 := F0 m 4 ls []) rfl ?_
  refine lv_aload_n hx hb dX1_init_4 rfl (lv_at hl 0 rfl) ?_
  refine lv_bipush (v := (nI 40)) hx hb dX1_init_5 (by decide) ?_
  refine k_newi hx hb lk3 hK 0 rfl hP hD hS hA (by decide) (show 0 + 1 ≤ 2 by decide) (show 0 + 40 ≤ 47 by decide) dX1_init_7 (fun q_1 H hP hD hS => ?_)
  have hP : va_P D vwCl [(h, .inr (1, [.null, .null])), (q_1, .inl (cI, 40, .inl (nA (fun _ => 0))))] H := hP
  have hD : va_D A [(h, .inr (1, [.null, .null])), (q_1, .inl (cI, 40, .inl (nA (fun _ => 0))))] := hD
  refine va_putF (D := D) (ci := 1) (v := .ref q_1) (ty := .array .int) (C := RX1) (T := TX1) (N := 2) hx hb hts in_X1 tyX1 tyX1_ok nmX1 hown hK hP hD hS 0 rfl rfl 0 (by decide) lk4 (fun _ h9 => h9) rfl hin rfl (by decide +kernel) rfl rfl (Nat.le_of_ble_eq_true rfl) dX1_init_9 (fun H locs hP hD hS => ?_)
  have hP : va_P D vwCl [(h, .inr (1, [.ref q_1, .null])), (q_1, .inl (cI, 40, .inl (nA (fun _ => 0))))] H := hP
  have hD : va_D A [(h, .inr (1, [.ref q_1, .null])), (q_1, .inl (cI, 40, .inl (nA (fun _ => 0))))] := hD
  refine lv_aload_n hx hb dX1_init_12 rfl (lv_at hl 0 rfl) ?_
  refine lv_bipush (v := (nI 7)) hx hb dX1_init_13 (by decide) ?_
  refine k_newi hx hb lk3 hK 0 rfl hP hD hS hA (by decide) (show 1 + 1 ≤ 2 by decide) (show 40 + 7 ≤ 47 by decide) dX1_init_15 (fun q_2 H hP hD hS => ?_)
  have hP : va_P D vwCl [(h, .inr (1, [.ref q_1, .null])), (q_1, .inl (cI, 40, .inl (nA (fun _ => 0)))), (q_2, .inl (cI, 7, .inl (nA (fun _ => 0))))] H := hP
  have hD : va_D A [(h, .inr (1, [.ref q_1, .null])), (q_1, .inl (cI, 40, .inl (nA (fun _ => 0)))), (q_2, .inl (cI, 7, .inl (nA (fun _ => 0))))] := hD
  refine va_putF (D := D) (ci := 1) (v := .ref q_2) (ty := .array .int) (C := RX1) (T := TX1) (N := 2) hx hb hts in_X1 tyX1 tyX1_ok nmX1 hown hK hP hD hS 0 rfl rfl 1 (by decide) lk5 (fun _ h9 => h9) rfl hin rfl (by decide +kernel) rfl rfl (Nat.le_of_ble_eq_true rfl) dX1_init_17 (fun H locs hP hD hS => ?_)
  have hP : va_P D vwCl [(h, .inr (1, [.ref q_1, .ref q_2])), (q_1, .inl (cI, 40, .inl (nA (fun _ => 0)))), (q_2, .inl (cI, 7, .inl (nA (fun _ => 0))))] H := hP
  have hD : va_D A [(h, .inr (1, [.ref q_1, .ref q_2])), (q_1, .inl (cI, 40, .inl (nA (fun _ => 0)))), (q_2, .inl (cI, 7, .inl (nA (fun _ => 0))))] := hD
  exact ret (q_1, q_2) _ _ _ _ dX1_init_20 trivial hP hD hS
def rm_X2_init : Room := { frames := 1, cells := 3, slots := 24, locals := 20 }
set_option maxHeartbeats 4000000 in
set_option maxRecDepth 100000 in
theorem c_X2_init (l : Launch) (D : va_G) (cI cZ cS cP : ClassId) (h : Nat) : kMv (S := Nat × Nat × Nat) l yX2_init wsX2_init rm_X2_init D (kT cI cZ cS cP) [.ref h] [(h, .inr (2, [.null, .null, .null, .int (nI 0)]))] (fun u9 => True) (fun u9 => [(h, .inr (2, [.ref u9.1, .ref u9.2.1, .ref u9.2.2, .int (nI 0)])), (u9.1, .inl (cI, 8, .inl (nA (fun _ => 0)))), (u9.2.1, .inl (cI, 8, .inl (nA (fun _ => 0)))), (u9.2.2, .inl (cZ, 8, .inl (nA (fun _ => 0))))]) := by
  refine kMet_v (cc := cX2_init) (maxL := 1) (by decide) rfl (Nat.le_of_ble_eq_true rfl) ?_
  intro p e s m args below meth c A Q ls C hlocks hin hN hK hP hD hS hA hl ret
  obtain ⟨hx, hb, hml, hown, hts⟩ := C
  have hl : lv_has ls 1 [(0, .ref h)] := hl
  have in_X2 : ∀ w ∈ wsX20, w ∈ wsX2_init := by decide +kernel
  have lk0 := hts (.methodLink RX2 3 objectInit) (by decide +kernel)
  have lk1 := hts (.instanceMethod objectInit) (by decide +kernel)
  have lk2 := hts (.code objectInit ⟨#[0xb1]⟩ 1 none) (by decide +kernel)
  have lk3 := hts (.arrayClass .int) (by decide +kernel)
  have lk4 := hts (.fieldLink RX2 9 "SilkWord$Readings" "persons" "[I") (by decide +kernel)
  have lk5 := hts (.fieldLink RX2 15 "SilkWord$Readings" "days" "[I") (by decide +kernel)
  have lk6 := hts (.arrayClass .boolean) (by decide +kernel)
  have lk7 := hts (.fieldLink RX2 18 "SilkWord$Readings" "had" "[Z") (by decide +kernel)
  refine lv_aload_n hx hb dX2_init_0 rfl (lv_at hl 0 rfl) ?_
  refine W.objInit hx hb hown lk0 lk1 lk2 rfl (by rw [hml]; exact hl.1) rfl dX2_init_1 (Nat.le_of_ble_eq_true rfl) (Nat.le_of_ble_eq_true rfl) ?_
  refine W.eq (g2 := F0 m 4 ls []) rfl ?_
  refine lv_aload_n hx hb dX2_init_4 rfl (lv_at hl 0 rfl) ?_
  refine lv_bipush (v := (nI 8)) hx hb dX2_init_5 (by decide) ?_
  refine k_newi hx hb lk3 hK 0 rfl hP hD hS hA (by decide) (show 0 + 1 ≤ 3 by decide) (show 0 + 8 ≤ 24 by decide) dX2_init_7 (fun q_1 H hP hD hS => ?_)
  have hP : va_P D vwCl [(h, .inr (2, [.null, .null, .null, .int (nI 0)])), (q_1, .inl (cI, 8, .inl (nA (fun _ => 0))))] H := hP
  have hD : va_D A [(h, .inr (2, [.null, .null, .null, .int (nI 0)])), (q_1, .inl (cI, 8, .inl (nA (fun _ => 0))))] := hD
  refine va_putF (D := D) (ci := 2) (v := .ref q_1) (ty := .array .int) (C := RX2) (T := TX2) (N := 4) hx hb hts in_X2 tyX2 tyX2_ok nmX2 hown hK hP hD hS 0 rfl rfl 0 (by decide) lk4 (fun _ h9 => h9) rfl hin rfl (by decide +kernel) rfl rfl (Nat.le_of_ble_eq_true rfl) dX2_init_9 (fun H locs hP hD hS => ?_)
  have hP : va_P D vwCl [(h, .inr (2, [.ref q_1, .null, .null, .int (nI 0)])), (q_1, .inl (cI, 8, .inl (nA (fun _ => 0))))] H := hP
  have hD : va_D A [(h, .inr (2, [.ref q_1, .null, .null, .int (nI 0)])), (q_1, .inl (cI, 8, .inl (nA (fun _ => 0))))] := hD
  refine lv_aload_n hx hb dX2_init_12 rfl (lv_at hl 0 rfl) ?_
  refine lv_bipush (v := (nI 8)) hx hb dX2_init_13 (by decide) ?_
  refine k_newi hx hb lk3 hK 0 rfl hP hD hS hA (by decide) (show 1 + 1 ≤ 3 by decide) (show 8 + 8 ≤ 24 by decide) dX2_init_15 (fun q_2 H hP hD hS => ?_)
  have hP : va_P D vwCl [(h, .inr (2, [.ref q_1, .null, .null, .int (nI 0)])), (q_1, .inl (cI, 8, .inl (nA (fun _ => 0)))), (q_2, .inl (cI, 8, .inl (nA (fun _ => 0))))] H := hP
  have hD : va_D A [(h, .inr (2, [.ref q_1, .null, .null, .int (nI 0)])), (q_1, .inl (cI, 8, .inl (nA (fun _ => 0)))), (q_2, .inl (cI, 8, .inl (nA (fun _ => 0))))] := hD
  refine va_putF (D := D) (ci := 2) (v := .ref q_2) (ty := .array .int) (C := RX2) (T := TX2) (N := 4) hx hb hts in_X2 tyX2 tyX2_ok nmX2 hown hK hP hD hS 0 rfl rfl 1 (by decide) lk5 (fun _ h9 => h9) rfl hin rfl (by decide +kernel) rfl rfl (Nat.le_of_ble_eq_true rfl) dX2_init_17 (fun H locs hP hD hS => ?_)
  have hP : va_P D vwCl [(h, .inr (2, [.ref q_1, .ref q_2, .null, .int (nI 0)])), (q_1, .inl (cI, 8, .inl (nA (fun _ => 0)))), (q_2, .inl (cI, 8, .inl (nA (fun _ => 0))))] H := hP
  have hD : va_D A [(h, .inr (2, [.ref q_1, .ref q_2, .null, .int (nI 0)])), (q_1, .inl (cI, 8, .inl (nA (fun _ => 0)))), (q_2, .inl (cI, 8, .inl (nA (fun _ => 0))))] := hD
  refine lv_aload_n hx hb dX2_init_20 rfl (lv_at hl 0 rfl) ?_
  refine lv_bipush (v := (nI 8)) hx hb dX2_init_21 (by decide) ?_
  refine k_newz hx hb lk6 hK 1 rfl hP hD hS hA (by decide) (show 2 + 1 ≤ 3 by decide) (show 16 + 8 ≤ 24 by decide) dX2_init_23 (fun q_3 H hP hD hS => ?_)
  have hP : va_P D vwCl [(h, .inr (2, [.ref q_1, .ref q_2, .null, .int (nI 0)])), (q_1, .inl (cI, 8, .inl (nA (fun _ => 0)))), (q_2, .inl (cI, 8, .inl (nA (fun _ => 0)))), (q_3, .inl (cZ, 8, .inl (nA (fun _ => 0))))] H := hP
  have hD : va_D A [(h, .inr (2, [.ref q_1, .ref q_2, .null, .int (nI 0)])), (q_1, .inl (cI, 8, .inl (nA (fun _ => 0)))), (q_2, .inl (cI, 8, .inl (nA (fun _ => 0)))), (q_3, .inl (cZ, 8, .inl (nA (fun _ => 0))))] := hD
  refine va_putF (D := D) (ci := 2) (v := .ref q_3) (ty := .array .boolean) (C := RX2) (T := TX2) (N := 4) hx hb hts in_X2 tyX2 tyX2_ok nmX2 hown hK hP hD hS 0 rfl rfl 2 (by decide) lk7 (fun _ h9 => h9) rfl hin rfl (by decide +kernel) rfl rfl (Nat.le_of_ble_eq_true rfl) dX2_init_25 (fun H locs hP hD hS => ?_)
  have hP : va_P D vwCl [(h, .inr (2, [.ref q_1, .ref q_2, .ref q_3, .int (nI 0)])), (q_1, .inl (cI, 8, .inl (nA (fun _ => 0)))), (q_2, .inl (cI, 8, .inl (nA (fun _ => 0)))), (q_3, .inl (cZ, 8, .inl (nA (fun _ => 0))))] H := hP
  have hD : va_D A [(h, .inr (2, [.ref q_1, .ref q_2, .ref q_3, .int (nI 0)])), (q_1, .inl (cI, 8, .inl (nA (fun _ => 0)))), (q_2, .inl (cI, 8, .inl (nA (fun _ => 0)))), (q_3, .inl (cZ, 8, .inl (nA (fun _ => 0))))] := hD
  exact ret (q_1, q_2, q_3) _ _ _ _ dX2_init_28 trivial hP hD hS
def rm_X3_init : Room := { frames := 1, cells := 1, slots := 60, locals := 20 }
set_option maxHeartbeats 4000000 in
set_option maxRecDepth 100000 in
theorem c_X3_init (l : Launch) (D : va_G) (cI cZ cS cP : ClassId) (h : Nat) : kMv (S := Nat) l yX3_init wsX3_init rm_X3_init D (kT cI cZ cS cP) [.ref h] [(h, .inr (3, [.null, .int (nI 0), .int (nI 0), .int (nI 0)]))] (fun u9 => True) (fun u9 => [(h, .inr (3, [.ref u9, .int (nI 0), .int (nI 0), .int (nI 0)])), (u9, .inl (cI, 60, .inl (nA (fun _ => 0))))]) := by
  refine kMet_v (cc := cX3_init) (maxL := 1) (by decide) rfl (Nat.le_of_ble_eq_true rfl) ?_
  intro p e s m args below meth c A Q ls C hlocks hin hN hK hP hD hS hA hl ret
  obtain ⟨hx, hb, hml, hown, hts⟩ := C
  have hl : lv_has ls 1 [(0, .ref h)] := hl
  have in_X3 : ∀ w ∈ wsX30, w ∈ wsX3_init := by decide +kernel
  have lk0 := hts (.methodLink RX3 3 objectInit) (by decide +kernel)
  have lk1 := hts (.instanceMethod objectInit) (by decide +kernel)
  have lk2 := hts (.code objectInit ⟨#[0xb1]⟩ 1 none) (by decide +kernel)
  have lk3 := hts (.arrayClass .int) (by decide +kernel)
  have lk4 := hts (.fieldLink RX3 9 "SilkWord$Sheet" "cells" "[I") (by decide +kernel)
  refine lv_aload_n hx hb dX3_init_0 rfl (lv_at hl 0 rfl) ?_
  refine W.objInit hx hb hown lk0 lk1 lk2 rfl (by rw [hml]; exact hl.1) rfl dX3_init_1 (Nat.le_of_ble_eq_true rfl) (Nat.le_of_ble_eq_true rfl) ?_
  refine W.eq (g2 := F0 m 4 ls []) rfl ?_
  refine lv_aload_n hx hb dX3_init_4 rfl (lv_at hl 0 rfl) ?_
  refine lv_bipush (v := (nI 60)) hx hb dX3_init_5 (by decide) ?_
  refine k_newi hx hb lk3 hK 0 rfl hP hD hS hA (by decide) (show 0 + 1 ≤ 1 by decide) (show 0 + 60 ≤ 60 by decide) dX3_init_7 (fun q_1 H hP hD hS => ?_)
  have hP : va_P D vwCl [(h, .inr (3, [.null, .int (nI 0), .int (nI 0), .int (nI 0)])), (q_1, .inl (cI, 60, .inl (nA (fun _ => 0))))] H := hP
  have hD : va_D A [(h, .inr (3, [.null, .int (nI 0), .int (nI 0), .int (nI 0)])), (q_1, .inl (cI, 60, .inl (nA (fun _ => 0))))] := hD
  refine va_putF (D := D) (ci := 3) (v := .ref q_1) (ty := .array .int) (C := RX3) (T := TX3) (N := 4) hx hb hts in_X3 tyX3 tyX3_ok nmX3 hown hK hP hD hS 0 rfl rfl 0 (by decide) lk4 (fun _ h9 => h9) rfl hin rfl (by decide +kernel) rfl rfl (Nat.le_of_ble_eq_true rfl) dX3_init_9 (fun H locs hP hD hS => ?_)
  have hP : va_P D vwCl [(h, .inr (3, [.ref q_1, .int (nI 0), .int (nI 0), .int (nI 0)])), (q_1, .inl (cI, 60, .inl (nA (fun _ => 0))))] H := hP
  have hD : va_D A [(h, .inr (3, [.ref q_1, .int (nI 0), .int (nI 0), .int (nI 0)])), (q_1, .inl (cI, 60, .inl (nA (fun _ => 0))))] := hD
  exact ret (q_1) _ _ _ _ dX3_init_12 trivial hP hD hS
def rm_X4_init : Room := { frames := 1, cells := 3, slots := 21, locals := 20 }
set_option maxHeartbeats 4000000 in
set_option maxRecDepth 100000 in
theorem c_X4_init (l : Launch) (D : va_G) (cI cZ cS cP : ClassId) (h : Nat) : kMv (S := Nat × Nat × Nat) l yX4_init wsX4_init rm_X4_init D (kT cI cZ cS cP) [.ref h] [(h, .inr (4, [.null, .null, .null, .int (nI 0)]))] (fun u9 => True) (fun u9 => [(h, .inr (4, [.ref u9.1, .ref u9.2.1, .ref u9.2.2, .int (nI 0)])), (u9.1, .inl (cP, 7, .inr (.inr (.inr (.inr (fun _ => none)))))), (u9.2.1, .inl (cI, 7, .inl (nA (fun _ => 0)))), (u9.2.2, .inl (cI, 7, .inl (nA (fun _ => 0))))]) := by
  refine kMet_v (cc := cX4_init) (maxL := 1) (by decide) rfl (Nat.le_of_ble_eq_true rfl) ?_
  intro p e s m args below meth c A Q ls C hlocks hin hN hK hP hD hS hA hl ret
  obtain ⟨hx, hb, hml, hown, hts⟩ := C
  have hl : lv_has ls 1 [(0, .ref h)] := hl
  have in_X4 : ∀ w ∈ wsX40, w ∈ wsX4_init := by decide +kernel
  have lk0 := hts (.methodLink RX4 3 objectInit) (by decide +kernel)
  have lk1 := hts (.instanceMethod objectInit) (by decide +kernel)
  have lk2 := hts (.code objectInit ⟨#[0xb1]⟩ 1 none) (by decide +kernel)
  have lk3 := hts (.classLink RX4 9 RX5) (by decide +kernel)
  have lk4 := hts (.fieldLink RX4 11 "SilkWord$Street" "persons" "[LSilkWord$Subject;") (by decide +kernel)
  have lk5 := hts (.arrayClass .int) (by decide +kernel)
  have lk6 := hts (.fieldLink RX4 17 "SilkWord$Street" "ears" "[I") (by decide +kernel)
  have lk7 := hts (.fieldLink RX4 21 "SilkWord$Street" "dared" "[I") (by decide +kernel)
  refine lv_aload_n hx hb dX4_init_0 rfl (lv_at hl 0 rfl) ?_
  refine W.objInit hx hb hown lk0 lk1 lk2 rfl (by rw [hml]; exact hl.1) rfl dX4_init_1 (Nat.le_of_ble_eq_true rfl) (Nat.le_of_ble_eq_true rfl) ?_
  refine W.eq (g2 := F0 m 4 ls []) rfl ?_
  refine lv_aload_n hx hb dX4_init_4 rfl (lv_at hl 0 rfl) ?_
  refine lv_bipush (v := (nI 7)) hx hb dX4_init_5 (by decide) ?_
  refine k_newq hx hb hown lk3 hN.2.2.2.2.2.2.2.2.2.2.2.2.2.2.2.1 hK 3 rfl hP hD hS hA (by decide) (show 0 + 1 ≤ 3 by decide) (show 0 + 7 ≤ 21 by decide) dX4_init_7 (fun q_1 H hP hD hS => ?_)
  have hP : va_P D vwCl [(h, .inr (4, [.null, .null, .null, .int (nI 0)])), (q_1, .inl (cP, 7, .inr (.inr (.inr (.inr (fun _ => none))))))] H := hP
  have hD : va_D A [(h, .inr (4, [.null, .null, .null, .int (nI 0)])), (q_1, .inl (cP, 7, .inr (.inr (.inr (.inr (fun _ => none))))))] := hD
  refine va_putF (D := D) (ci := 4) (v := .ref q_1) (ty := .array (.object "SilkWord$Subject")) (C := RX4) (T := TX4) (N := 4) hx hb hts in_X4 tyX4 tyX4_ok nmX4 hown hK hP hD hS 0 rfl rfl 0 (by decide) lk4 (fun _ h9 => h9) rfl hin rfl (by decide +kernel) rfl rfl (Nat.le_of_ble_eq_true rfl) dX4_init_10 (fun H locs hP hD hS => ?_)
  have hP : va_P D vwCl [(h, .inr (4, [.ref q_1, .null, .null, .int (nI 0)])), (q_1, .inl (cP, 7, .inr (.inr (.inr (.inr (fun _ => none))))))] H := hP
  have hD : va_D A [(h, .inr (4, [.ref q_1, .null, .null, .int (nI 0)])), (q_1, .inl (cP, 7, .inr (.inr (.inr (.inr (fun _ => none))))))] := hD
  refine lv_aload_n hx hb dX4_init_13 rfl (lv_at hl 0 rfl) ?_
  refine lv_bipush (v := (nI 7)) hx hb dX4_init_14 (by decide) ?_
  refine k_newi hx hb lk5 hK 0 rfl hP hD hS hA (by decide) (show 1 + 1 ≤ 3 by decide) (show 7 + 7 ≤ 21 by decide) dX4_init_16 (fun q_2 H hP hD hS => ?_)
  have hP : va_P D vwCl [(h, .inr (4, [.ref q_1, .null, .null, .int (nI 0)])), (q_1, .inl (cP, 7, .inr (.inr (.inr (.inr (fun _ => none)))))), (q_2, .inl (cI, 7, .inl (nA (fun _ => 0))))] H := hP
  have hD : va_D A [(h, .inr (4, [.ref q_1, .null, .null, .int (nI 0)])), (q_1, .inl (cP, 7, .inr (.inr (.inr (.inr (fun _ => none)))))), (q_2, .inl (cI, 7, .inl (nA (fun _ => 0))))] := hD
  refine va_putF (D := D) (ci := 4) (v := .ref q_2) (ty := .array .int) (C := RX4) (T := TX4) (N := 4) hx hb hts in_X4 tyX4 tyX4_ok nmX4 hown hK hP hD hS 0 rfl rfl 1 (by decide) lk6 (fun _ h9 => h9) rfl hin rfl (by decide +kernel) rfl rfl (Nat.le_of_ble_eq_true rfl) dX4_init_18 (fun H locs hP hD hS => ?_)
  have hP : va_P D vwCl [(h, .inr (4, [.ref q_1, .ref q_2, .null, .int (nI 0)])), (q_1, .inl (cP, 7, .inr (.inr (.inr (.inr (fun _ => none)))))), (q_2, .inl (cI, 7, .inl (nA (fun _ => 0))))] H := hP
  have hD : va_D A [(h, .inr (4, [.ref q_1, .ref q_2, .null, .int (nI 0)])), (q_1, .inl (cP, 7, .inr (.inr (.inr (.inr (fun _ => none)))))), (q_2, .inl (cI, 7, .inl (nA (fun _ => 0))))] := hD
  refine lv_aload_n hx hb dX4_init_21 rfl (lv_at hl 0 rfl) ?_
  refine lv_bipush (v := (nI 7)) hx hb dX4_init_22 (by decide) ?_
  refine k_newi hx hb lk5 hK 0 rfl hP hD hS hA (by decide) (show 2 + 1 ≤ 3 by decide) (show 14 + 7 ≤ 21 by decide) dX4_init_24 (fun q_3 H hP hD hS => ?_)
  have hP : va_P D vwCl [(h, .inr (4, [.ref q_1, .ref q_2, .null, .int (nI 0)])), (q_1, .inl (cP, 7, .inr (.inr (.inr (.inr (fun _ => none)))))), (q_2, .inl (cI, 7, .inl (nA (fun _ => 0)))), (q_3, .inl (cI, 7, .inl (nA (fun _ => 0))))] H := hP
  have hD : va_D A [(h, .inr (4, [.ref q_1, .ref q_2, .null, .int (nI 0)])), (q_1, .inl (cP, 7, .inr (.inr (.inr (.inr (fun _ => none)))))), (q_2, .inl (cI, 7, .inl (nA (fun _ => 0)))), (q_3, .inl (cI, 7, .inl (nA (fun _ => 0))))] := hD
  refine va_putF (D := D) (ci := 4) (v := .ref q_3) (ty := .array .int) (C := RX4) (T := TX4) (N := 4) hx hb hts in_X4 tyX4 tyX4_ok nmX4 hown hK hP hD hS 0 rfl rfl 2 (by decide) lk7 (fun _ h9 => h9) rfl hin rfl (by decide +kernel) rfl rfl (Nat.le_of_ble_eq_true rfl) dX4_init_26 (fun H locs hP hD hS => ?_)
  have hP : va_P D vwCl [(h, .inr (4, [.ref q_1, .ref q_2, .ref q_3, .int (nI 0)])), (q_1, .inl (cP, 7, .inr (.inr (.inr (.inr (fun _ => none)))))), (q_2, .inl (cI, 7, .inl (nA (fun _ => 0)))), (q_3, .inl (cI, 7, .inl (nA (fun _ => 0))))] H := hP
  have hD : va_D A [(h, .inr (4, [.ref q_1, .ref q_2, .ref q_3, .int (nI 0)])), (q_1, .inl (cP, 7, .inr (.inr (.inr (.inr (fun _ => none)))))), (q_2, .inl (cI, 7, .inl (nA (fun _ => 0)))), (q_3, .inl (cI, 7, .inl (nA (fun _ => 0))))] := hD
  exact ret (q_1, q_2, q_3) _ _ _ _ dX4_init_29 trivial hP hD hS
def rm_X7_init : Room := { frames := 1, cells := 4, slots := 40, locals := 20 }
set_option maxHeartbeats 4000000 in
set_option maxRecDepth 100000 in
theorem c_X7_init (l : Launch) (D : va_G) (cI cZ cS cP : ClassId) (h : Nat) : kMv (S := Nat × Nat × Nat × Nat) l yX7_init wsX7_init rm_X7_init D (kT cI cZ cS cP) [.ref h] [(h, .inr (7, [.null, .null, .null, .null, .int (nI 0), .int (nI 0), .int (nI 0)]))] (fun u9 => True) (fun u9 => [(h, .inr (7, [.ref u9.1, .ref u9.2.1, .ref u9.2.2.1, .ref u9.2.2.2, .int (nI 0), .int (nI 0), .int (nI 0)])), (u9.1, .inl (cI, 13, .inl (nA (fun _ => 0)))), (u9.2.1, .inl (cI, 13, .inl (nA (fun _ => 0)))), (u9.2.2.1, .inl (cI, 7, .inl (nA (fun _ => 0)))), (u9.2.2.2, .inl (cI, 7, .inl (nA (fun _ => 0))))]) := by
  refine kMet_v (cc := cX7_init) (maxL := 1) (by decide) rfl (Nat.le_of_ble_eq_true rfl) ?_
  intro p e s m args below meth c A Q ls C hlocks hin hN hK hP hD hS hA hl ret
  obtain ⟨hx, hb, hml, hown, hts⟩ := C
  have hl : lv_has ls 1 [(0, .ref h)] := hl
  have in_X7 : ∀ w ∈ wsX70, w ∈ wsX7_init := by decide +kernel
  have lk0 := hts (.methodLink RX7 3 objectInit) (by decide +kernel)
  have lk1 := hts (.instanceMethod objectInit) (by decide +kernel)
  have lk2 := hts (.code objectInit ⟨#[0xb1]⟩ 1 none) (by decide +kernel)
  have lk3 := hts (.arrayClass .int) (by decide +kernel)
  have lk4 := hts (.fieldLink RX7 9 "SilkWord$Talk" "places" "[I") (by decide +kernel)
  have lk5 := hts (.fieldLink RX7 15 "SilkWord$Talk" "days" "[I") (by decide +kernel)
  have lk6 := hts (.fieldLink RX7 18 "SilkWord$Talk" "ones" "[I") (by decide +kernel)
  have lk7 := hts (.fieldLink RX7 21 "SilkWord$Talk" "others" "[I") (by decide +kernel)
  refine lv_aload_n hx hb dX7_init_0 rfl (lv_at hl 0 rfl) ?_
  refine W.objInit hx hb hown lk0 lk1 lk2 rfl (by rw [hml]; exact hl.1) rfl dX7_init_1 (Nat.le_of_ble_eq_true rfl) (Nat.le_of_ble_eq_true rfl) ?_
  refine W.eq (g2 := F0 m 4 ls []) rfl ?_
  refine lv_aload_n hx hb dX7_init_4 rfl (lv_at hl 0 rfl) ?_
  refine lv_bipush (v := (nI 13)) hx hb dX7_init_5 (by decide) ?_
  refine k_newi hx hb lk3 hK 0 rfl hP hD hS hA (by decide) (show 0 + 1 ≤ 4 by decide) (show 0 + 13 ≤ 40 by decide) dX7_init_7 (fun q_1 H hP hD hS => ?_)
  have hP : va_P D vwCl [(h, .inr (7, [.null, .null, .null, .null, .int (nI 0), .int (nI 0), .int (nI 0)])), (q_1, .inl (cI, 13, .inl (nA (fun _ => 0))))] H := hP
  have hD : va_D A [(h, .inr (7, [.null, .null, .null, .null, .int (nI 0), .int (nI 0), .int (nI 0)])), (q_1, .inl (cI, 13, .inl (nA (fun _ => 0))))] := hD
  refine va_putF (D := D) (ci := 7) (v := .ref q_1) (ty := .array .int) (C := RX7) (T := TX7) (N := 7) hx hb hts in_X7 tyX7 tyX7_ok nmX7 hown hK hP hD hS 0 rfl rfl 0 (by decide) lk4 (fun _ h9 => h9) rfl hin rfl (by decide +kernel) rfl rfl (Nat.le_of_ble_eq_true rfl) dX7_init_9 (fun H locs hP hD hS => ?_)
  have hP : va_P D vwCl [(h, .inr (7, [.ref q_1, .null, .null, .null, .int (nI 0), .int (nI 0), .int (nI 0)])), (q_1, .inl (cI, 13, .inl (nA (fun _ => 0))))] H := hP
  have hD : va_D A [(h, .inr (7, [.ref q_1, .null, .null, .null, .int (nI 0), .int (nI 0), .int (nI 0)])), (q_1, .inl (cI, 13, .inl (nA (fun _ => 0))))] := hD
  refine lv_aload_n hx hb dX7_init_12 rfl (lv_at hl 0 rfl) ?_
  refine lv_bipush (v := (nI 13)) hx hb dX7_init_13 (by decide) ?_
  refine k_newi hx hb lk3 hK 0 rfl hP hD hS hA (by decide) (show 1 + 1 ≤ 4 by decide) (show 13 + 13 ≤ 40 by decide) dX7_init_15 (fun q_2 H hP hD hS => ?_)
  have hP : va_P D vwCl [(h, .inr (7, [.ref q_1, .null, .null, .null, .int (nI 0), .int (nI 0), .int (nI 0)])), (q_1, .inl (cI, 13, .inl (nA (fun _ => 0)))), (q_2, .inl (cI, 13, .inl (nA (fun _ => 0))))] H := hP
  have hD : va_D A [(h, .inr (7, [.ref q_1, .null, .null, .null, .int (nI 0), .int (nI 0), .int (nI 0)])), (q_1, .inl (cI, 13, .inl (nA (fun _ => 0)))), (q_2, .inl (cI, 13, .inl (nA (fun _ => 0))))] := hD
  refine va_putF (D := D) (ci := 7) (v := .ref q_2) (ty := .array .int) (C := RX7) (T := TX7) (N := 7) hx hb hts in_X7 tyX7 tyX7_ok nmX7 hown hK hP hD hS 0 rfl rfl 1 (by decide) lk5 (fun _ h9 => h9) rfl hin rfl (by decide +kernel) rfl rfl (Nat.le_of_ble_eq_true rfl) dX7_init_17 (fun H locs hP hD hS => ?_)
  have hP : va_P D vwCl [(h, .inr (7, [.ref q_1, .ref q_2, .null, .null, .int (nI 0), .int (nI 0), .int (nI 0)])), (q_1, .inl (cI, 13, .inl (nA (fun _ => 0)))), (q_2, .inl (cI, 13, .inl (nA (fun _ => 0))))] H := hP
  have hD : va_D A [(h, .inr (7, [.ref q_1, .ref q_2, .null, .null, .int (nI 0), .int (nI 0), .int (nI 0)])), (q_1, .inl (cI, 13, .inl (nA (fun _ => 0)))), (q_2, .inl (cI, 13, .inl (nA (fun _ => 0))))] := hD
  refine lv_aload_n hx hb dX7_init_20 rfl (lv_at hl 0 rfl) ?_
  refine lv_bipush (v := (nI 7)) hx hb dX7_init_21 (by decide) ?_
  refine k_newi hx hb lk3 hK 0 rfl hP hD hS hA (by decide) (show 2 + 1 ≤ 4 by decide) (show 26 + 7 ≤ 40 by decide) dX7_init_23 (fun q_3 H hP hD hS => ?_)
  have hP : va_P D vwCl [(h, .inr (7, [.ref q_1, .ref q_2, .null, .null, .int (nI 0), .int (nI 0), .int (nI 0)])), (q_1, .inl (cI, 13, .inl (nA (fun _ => 0)))), (q_2, .inl (cI, 13, .inl (nA (fun _ => 0)))), (q_3, .inl (cI, 7, .inl (nA (fun _ => 0))))] H := hP
  have hD : va_D A [(h, .inr (7, [.ref q_1, .ref q_2, .null, .null, .int (nI 0), .int (nI 0), .int (nI 0)])), (q_1, .inl (cI, 13, .inl (nA (fun _ => 0)))), (q_2, .inl (cI, 13, .inl (nA (fun _ => 0)))), (q_3, .inl (cI, 7, .inl (nA (fun _ => 0))))] := hD
  refine va_putF (D := D) (ci := 7) (v := .ref q_3) (ty := .array .int) (C := RX7) (T := TX7) (N := 7) hx hb hts in_X7 tyX7 tyX7_ok nmX7 hown hK hP hD hS 0 rfl rfl 2 (by decide) lk6 (fun _ h9 => h9) rfl hin rfl (by decide +kernel) rfl rfl (Nat.le_of_ble_eq_true rfl) dX7_init_25 (fun H locs hP hD hS => ?_)
  have hP : va_P D vwCl [(h, .inr (7, [.ref q_1, .ref q_2, .ref q_3, .null, .int (nI 0), .int (nI 0), .int (nI 0)])), (q_1, .inl (cI, 13, .inl (nA (fun _ => 0)))), (q_2, .inl (cI, 13, .inl (nA (fun _ => 0)))), (q_3, .inl (cI, 7, .inl (nA (fun _ => 0))))] H := hP
  have hD : va_D A [(h, .inr (7, [.ref q_1, .ref q_2, .ref q_3, .null, .int (nI 0), .int (nI 0), .int (nI 0)])), (q_1, .inl (cI, 13, .inl (nA (fun _ => 0)))), (q_2, .inl (cI, 13, .inl (nA (fun _ => 0)))), (q_3, .inl (cI, 7, .inl (nA (fun _ => 0))))] := hD
  refine lv_aload_n hx hb dX7_init_28 rfl (lv_at hl 0 rfl) ?_
  refine lv_bipush (v := (nI 7)) hx hb dX7_init_29 (by decide) ?_
  refine k_newi hx hb lk3 hK 0 rfl hP hD hS hA (by decide) (show 3 + 1 ≤ 4 by decide) (show 33 + 7 ≤ 40 by decide) dX7_init_31 (fun q_4 H hP hD hS => ?_)
  have hP : va_P D vwCl [(h, .inr (7, [.ref q_1, .ref q_2, .ref q_3, .null, .int (nI 0), .int (nI 0), .int (nI 0)])), (q_1, .inl (cI, 13, .inl (nA (fun _ => 0)))), (q_2, .inl (cI, 13, .inl (nA (fun _ => 0)))), (q_3, .inl (cI, 7, .inl (nA (fun _ => 0)))), (q_4, .inl (cI, 7, .inl (nA (fun _ => 0))))] H := hP
  have hD : va_D A [(h, .inr (7, [.ref q_1, .ref q_2, .ref q_3, .null, .int (nI 0), .int (nI 0), .int (nI 0)])), (q_1, .inl (cI, 13, .inl (nA (fun _ => 0)))), (q_2, .inl (cI, 13, .inl (nA (fun _ => 0)))), (q_3, .inl (cI, 7, .inl (nA (fun _ => 0)))), (q_4, .inl (cI, 7, .inl (nA (fun _ => 0))))] := hD
  refine va_putF (D := D) (ci := 7) (v := .ref q_4) (ty := .array .int) (C := RX7) (T := TX7) (N := 7) hx hb hts in_X7 tyX7 tyX7_ok nmX7 hown hK hP hD hS 0 rfl rfl 3 (by decide) lk7 (fun _ h9 => h9) rfl hin rfl (by decide +kernel) rfl rfl (Nat.le_of_ble_eq_true rfl) dX7_init_33 (fun H locs hP hD hS => ?_)
  have hP : va_P D vwCl [(h, .inr (7, [.ref q_1, .ref q_2, .ref q_3, .ref q_4, .int (nI 0), .int (nI 0), .int (nI 0)])), (q_1, .inl (cI, 13, .inl (nA (fun _ => 0)))), (q_2, .inl (cI, 13, .inl (nA (fun _ => 0)))), (q_3, .inl (cI, 7, .inl (nA (fun _ => 0)))), (q_4, .inl (cI, 7, .inl (nA (fun _ => 0))))] H := hP
  have hD : va_D A [(h, .inr (7, [.ref q_1, .ref q_2, .ref q_3, .ref q_4, .int (nI 0), .int (nI 0), .int (nI 0)])), (q_1, .inl (cI, 13, .inl (nA (fun _ => 0)))), (q_2, .inl (cI, 13, .inl (nA (fun _ => 0)))), (q_3, .inl (cI, 7, .inl (nA (fun _ => 0)))), (q_4, .inl (cI, 7, .inl (nA (fun _ => 0))))] := hD
  exact ret (q_1, q_2, q_3, q_4) _ _ _ _ dX7_init_36 trivial hP hD hS
def rm_X9_init : Room := { frames := 2, cells := 8, slots := 96, locals := 40 }
set_option maxHeartbeats 4000000 in
set_option maxRecDepth 100000 in
theorem c_X9_init (l : Launch) (D : va_G) (cI cZ cS cP : ClassId) (h : Nat) (b1 : Nat) (b2 : Nat) (b3 : Nat) : kMv (S := Nat × Nat × Nat × Nat × Nat × Nat × Nat × Nat) l yX9_init wsX9_init rm_X9_init D (kT cI cZ cS cP) [.ref h, .ref b1, .ref b2, .ref b3] [(h, .inr (9, [.null, .null, .null, .null, .null]))] (fun u9 => True) (fun u9 => [(h, .inr (9, [.ref b1, .ref b2, .ref b3, .ref u9.1, .ref u9.2.2.2.2.2.1])), (u9.1, .inr (7, [.ref u9.2.1, .ref u9.2.2.1, .ref u9.2.2.2.1, .ref u9.2.2.2.2.1, .int (nI 0), .int (nI 0), .int (nI 0)])), (u9.2.1, .inl (cI, 13, .inl (nA (fun _ => 0)))), (u9.2.2.1, .inl (cI, 13, .inl (nA (fun _ => 0)))), (u9.2.2.2.1, .inl (cI, 7, .inl (nA (fun _ => 0)))), (u9.2.2.2.2.1, .inl (cI, 7, .inl (nA (fun _ => 0)))), (u9.2.2.2.2.2.1, .inr (1, [.ref u9.2.2.2.2.2.2.1, .ref u9.2.2.2.2.2.2.2])), (u9.2.2.2.2.2.2.1, .inl (cI, 40, .inl (nA (fun _ => 0)))), (u9.2.2.2.2.2.2.2, .inl (cI, 7, .inl (nA (fun _ => 0))))]) := by
  refine kMet_v (cc := cX9_init) (maxL := 4) (by decide) rfl (Nat.le_of_ble_eq_true rfl) ?_
  intro p e s m args below meth c A Q ls C hlocks hin hN hK hP hD hS hA hl ret
  obtain ⟨hx, hb, hml, hown, hts⟩ := C
  have hl : lv_has ls 4 [(0, .ref h), (1, .ref b1), (2, .ref b2), (3, .ref b3)] := hl
  have in_X1 : ∀ w ∈ wsX10, w ∈ wsX9_init := by decide +kernel
  have in_X7 : ∀ w ∈ wsX70, w ∈ wsX9_init := by decide +kernel
  have in_X9 : ∀ w ∈ wsX90, w ∈ wsX9_init := by decide +kernel
  have lk0 := hts (.methodLink RX9 3 objectInit) (by decide +kernel)
  have lk1 := hts (.instanceMethod objectInit) (by decide +kernel)
  have lk2 := hts (.code objectInit ⟨#[0xb1]⟩ 1 none) (by decide +kernel)
  have lk3 := hts (.classLink RX9 9 RX7) (by decide +kernel)
  have lk4 := hts (.instantiable RX7 7) (by decide +kernel)
  have lk5 := hts (.initialized RX7) (by decide +kernel)
  have lk6 := hts (.instanceMethod yX7_init) (by decide +kernel)
  have lk7 := hts (.fieldLink RX9 12 "SilkWord$Trials" "tried" "LSilkWord$Talk;") (by decide +kernel)
  have lk8 := hts (.classLink RX9 18 RX1) (by decide +kernel)
  have lk9 := hts (.instantiable RX1 2) (by decide +kernel)
  have lk10 := hts (.initialized RX1) (by decide +kernel)
  have lk11 := hts (.instanceMethod yX1_init) (by decide +kernel)
  have lk12 := hts (.fieldLink RX9 21 "SilkWord$Trials" "days" "LSilkWord$Days;") (by decide +kernel)
  have lk13 := hts (.fieldLink RX9 25 "SilkWord$Trials" "people" "LSilkWord$Street;") (by decide +kernel)
  have lk14 := hts (.fieldLink RX9 29 "SilkWord$Trials" "talk" "LSilkWord$Talk;") (by decide +kernel)
  have lk15 := hts (.fieldLink RX9 32 "SilkWord$Trials" "readings" "LSilkWord$Readings;") (by decide +kernel)
  refine lv_aload_n hx hb dX9_init_0 rfl (lv_at hl 0 rfl) ?_
  refine W.objInit hx hb hown lk0 lk1 lk2 rfl (by rw [hml]; exact hl.1) rfl dX9_init_1 (Nat.le_of_ble_eq_true rfl) (Nat.le_of_ble_eq_true rfl) ?_
  refine W.eq (g2 := F0 m 4 ls []) rfl ?_
  refine lv_aload_n hx hb dX9_init_4 rfl (lv_at hl 0 rfl) ?_
  refine va_new (ci := 7) (fs := [.null, .null, .null, .null, .int (nI 0), .int (nI 0), .int (nI 0)]) (C := RX7) (T := TX7) (N := 7) hx hb hts in_X7 tyX7 tyX7_ok hown lk3 lk4 lk5 hK hP hD hS hA rfl (fun j hj => by rcases (show j = 0 ∨ j = 1 ∨ j = 2 ∨ j = 3 ∨ j = 4 ∨ j = 5 ∨ j = 6 by omega) with rfl | rfl | rfl | rfl | rfl | rfl | rfl <;> rfl) (show 0 + 1 ≤ 8 by decide) (show 0 + 7 ≤ 96 by decide) dX9_init_5 (fun q_1 H hP hD hS => ?_)
  have hP : va_P D vwCl [(h, .inr (9, [.null, .null, .null, .null, .null])), (q_1, .inr (7, [.null, .null, .null, .null, .int (nI 0), .int (nI 0), .int (nI 0)]))] H := hP
  have hD : va_D A [(h, .inr (9, [.null, .null, .null, .null, .null])), (q_1, .inr (7, [.null, .null, .null, .null, .int (nI 0), .int (nI 0), .int (nI 0)]))] := hD
  refine lv_dup hx hb dX9_init_8 rfl ?_
  refine k_jov (S := Nat × Nat × Nat × Nat) (va_runIN (As := []) (rest := [.ref q_1, .ref h]) ⟨hx, hb, hml, hown, hts⟩ (c_X7_init l D cI cZ cS cP q_1  _) ⟨va_cnB 0 hts gX9_init_X7_init_n11 rfl rfl rfl hN.2.2.2.2.2.2.1 lk5 (by decide +kernel) ⟨Nat.le_of_ble_eq_true rfl, Nat.le_of_ble_eq_true rfl⟩, rfl, lk6⟩ (kPreS hN hK hP hD [1] rfl rfl) rfl rfl hl.1 rfl (lv_room (Nat.le_of_ble_eq_true rfl)) dX9_init_9 ⟨(show 1 + 4 ≤ 8 by decide), (show 7 + 40 ≤ 96 by decide)⟩) hP hD hS hA [1] [0] rfl (show _ = List.map some [(h, .inr (9, [.null, .null, .null, .null, .null]))] from rfl) rfl (by decide) (fun u_4 H locs hr_3 hP hD hS => ?_)
  have hP : va_P D vwCl [(h, .inr (9, [.null, .null, .null, .null, .null])), (q_1, .inr (7, [.ref u_4.1, .ref u_4.2.1, .ref u_4.2.2.1, .ref u_4.2.2.2, .int (nI 0), .int (nI 0), .int (nI 0)])), (u_4.1, .inl (cI, 13, .inl (nA (fun _ => 0)))), (u_4.2.1, .inl (cI, 13, .inl (nA (fun _ => 0)))), (u_4.2.2.1, .inl (cI, 7, .inl (nA (fun _ => 0)))), (u_4.2.2.2, .inl (cI, 7, .inl (nA (fun _ => 0))))] H := hP
  have hD : va_D A [(h, .inr (9, [.null, .null, .null, .null, .null])), (q_1, .inr (7, [.ref u_4.1, .ref u_4.2.1, .ref u_4.2.2.1, .ref u_4.2.2.2, .int (nI 0), .int (nI 0), .int (nI 0)])), (u_4.1, .inl (cI, 13, .inl (nA (fun _ => 0)))), (u_4.2.1, .inl (cI, 13, .inl (nA (fun _ => 0)))), (u_4.2.2.1, .inl (cI, 7, .inl (nA (fun _ => 0)))), (u_4.2.2.2, .inl (cI, 7, .inl (nA (fun _ => 0))))] := hD
  refine va_putF (D := D) (ci := 9) (v := .ref q_1) (ty := .object "SilkWord$Talk") (C := RX9) (T := TX9) (N := 5) hx hb hts in_X9 tyX9 tyX9_ok nmX9 hown hK hP hD hS 0 rfl rfl 3 (by decide) lk7 (fun _ h9 => h9) rfl hin rfl (by decide +kernel) rfl rfl (Nat.le_of_ble_eq_true rfl) dX9_init_12 (fun H locs hP hD hS => ?_)
  have hP : va_P D vwCl [(h, .inr (9, [.null, .null, .null, .ref q_1, .null])), (q_1, .inr (7, [.ref u_4.1, .ref u_4.2.1, .ref u_4.2.2.1, .ref u_4.2.2.2, .int (nI 0), .int (nI 0), .int (nI 0)])), (u_4.1, .inl (cI, 13, .inl (nA (fun _ => 0)))), (u_4.2.1, .inl (cI, 13, .inl (nA (fun _ => 0)))), (u_4.2.2.1, .inl (cI, 7, .inl (nA (fun _ => 0)))), (u_4.2.2.2, .inl (cI, 7, .inl (nA (fun _ => 0))))] H := hP
  have hD : va_D A [(h, .inr (9, [.null, .null, .null, .ref q_1, .null])), (q_1, .inr (7, [.ref u_4.1, .ref u_4.2.1, .ref u_4.2.2.1, .ref u_4.2.2.2, .int (nI 0), .int (nI 0), .int (nI 0)])), (u_4.1, .inl (cI, 13, .inl (nA (fun _ => 0)))), (u_4.2.1, .inl (cI, 13, .inl (nA (fun _ => 0)))), (u_4.2.2.1, .inl (cI, 7, .inl (nA (fun _ => 0)))), (u_4.2.2.2, .inl (cI, 7, .inl (nA (fun _ => 0))))] := hD
  refine lv_aload_n hx hb dX9_init_15 rfl (lv_at hl 0 rfl) ?_
  refine va_new (ci := 1) (fs := [.null, .null]) (C := RX1) (T := TX1) (N := 2) hx hb hts in_X1 tyX1 tyX1_ok hown lk8 lk9 lk10 hK hP hD hS hA rfl (fun j hj => by rcases (show j = 0 ∨ j = 1 by omega) with rfl | rfl <;> rfl) (show 5 + 1 ≤ 8 by decide) (show 47 + 2 ≤ 96 by decide) dX9_init_16 (fun q_5 H hP hD hS => ?_)
  have hP : va_P D vwCl [(h, .inr (9, [.null, .null, .null, .ref q_1, .null])), (q_1, .inr (7, [.ref u_4.1, .ref u_4.2.1, .ref u_4.2.2.1, .ref u_4.2.2.2, .int (nI 0), .int (nI 0), .int (nI 0)])), (u_4.1, .inl (cI, 13, .inl (nA (fun _ => 0)))), (u_4.2.1, .inl (cI, 13, .inl (nA (fun _ => 0)))), (u_4.2.2.1, .inl (cI, 7, .inl (nA (fun _ => 0)))), (u_4.2.2.2, .inl (cI, 7, .inl (nA (fun _ => 0)))), (q_5, .inr (1, [.null, .null]))] H := hP
  have hD : va_D A [(h, .inr (9, [.null, .null, .null, .ref q_1, .null])), (q_1, .inr (7, [.ref u_4.1, .ref u_4.2.1, .ref u_4.2.2.1, .ref u_4.2.2.2, .int (nI 0), .int (nI 0), .int (nI 0)])), (u_4.1, .inl (cI, 13, .inl (nA (fun _ => 0)))), (u_4.2.1, .inl (cI, 13, .inl (nA (fun _ => 0)))), (u_4.2.2.1, .inl (cI, 7, .inl (nA (fun _ => 0)))), (u_4.2.2.2, .inl (cI, 7, .inl (nA (fun _ => 0)))), (q_5, .inr (1, [.null, .null]))] := hD
  refine lv_dup hx hb dX9_init_19 rfl ?_
  refine k_jov (S := Nat × Nat) (va_runIN (As := []) (rest := [.ref q_5, .ref h]) ⟨hx, hb, hml, hown, hts⟩ (c_X1_init l D cI cZ cS cP q_5  _) ⟨va_cnB 0 hts gX9_init_X1_init_n20 rfl rfl rfl hN.2.2.2.2.2.2.2.1 lk10 (by decide +kernel) ⟨Nat.le_of_ble_eq_true rfl, Nat.le_of_ble_eq_true rfl⟩, rfl, lk11⟩ (kPreS hN hK hP hD [6] rfl rfl) rfl rfl hl.1 rfl (lv_room (Nat.le_of_ble_eq_true rfl)) dX9_init_20 ⟨(show 6 + 2 ≤ 8 by decide), (show 49 + 47 ≤ 96 by decide)⟩) hP hD hS hA [6] [0, 1, 2, 3, 4, 5] rfl (show _ = List.map some [(h, .inr (9, [.null, .null, .null, .ref q_1, .null])), (q_1, .inr (7, [.ref u_4.1, .ref u_4.2.1, .ref u_4.2.2.1, .ref u_4.2.2.2, .int (nI 0), .int (nI 0), .int (nI 0)])), (u_4.1, .inl (cI, 13, .inl (nA (fun _ => 0)))), (u_4.2.1, .inl (cI, 13, .inl (nA (fun _ => 0)))), (u_4.2.2.1, .inl (cI, 7, .inl (nA (fun _ => 0)))), (u_4.2.2.2, .inl (cI, 7, .inl (nA (fun _ => 0))))] from rfl) rfl (by decide) (fun u_8 H locs hr_7 hP hD hS => ?_)
  have hP : va_P D vwCl [(h, .inr (9, [.null, .null, .null, .ref q_1, .null])), (q_1, .inr (7, [.ref u_4.1, .ref u_4.2.1, .ref u_4.2.2.1, .ref u_4.2.2.2, .int (nI 0), .int (nI 0), .int (nI 0)])), (u_4.1, .inl (cI, 13, .inl (nA (fun _ => 0)))), (u_4.2.1, .inl (cI, 13, .inl (nA (fun _ => 0)))), (u_4.2.2.1, .inl (cI, 7, .inl (nA (fun _ => 0)))), (u_4.2.2.2, .inl (cI, 7, .inl (nA (fun _ => 0)))), (q_5, .inr (1, [.ref u_8.1, .ref u_8.2])), (u_8.1, .inl (cI, 40, .inl (nA (fun _ => 0)))), (u_8.2, .inl (cI, 7, .inl (nA (fun _ => 0))))] H := hP
  have hD : va_D A [(h, .inr (9, [.null, .null, .null, .ref q_1, .null])), (q_1, .inr (7, [.ref u_4.1, .ref u_4.2.1, .ref u_4.2.2.1, .ref u_4.2.2.2, .int (nI 0), .int (nI 0), .int (nI 0)])), (u_4.1, .inl (cI, 13, .inl (nA (fun _ => 0)))), (u_4.2.1, .inl (cI, 13, .inl (nA (fun _ => 0)))), (u_4.2.2.1, .inl (cI, 7, .inl (nA (fun _ => 0)))), (u_4.2.2.2, .inl (cI, 7, .inl (nA (fun _ => 0)))), (q_5, .inr (1, [.ref u_8.1, .ref u_8.2])), (u_8.1, .inl (cI, 40, .inl (nA (fun _ => 0)))), (u_8.2, .inl (cI, 7, .inl (nA (fun _ => 0))))] := hD
  refine va_putF (D := D) (ci := 9) (v := .ref q_5) (ty := .object "SilkWord$Days") (C := RX9) (T := TX9) (N := 5) hx hb hts in_X9 tyX9 tyX9_ok nmX9 hown hK hP hD hS 0 rfl rfl 4 (by decide) lk12 (fun _ h9 => h9) rfl hin rfl (by decide +kernel) rfl rfl (Nat.le_of_ble_eq_true rfl) dX9_init_23 (fun H locs hP hD hS => ?_)
  have hP : va_P D vwCl [(h, .inr (9, [.null, .null, .null, .ref q_1, .ref q_5])), (q_1, .inr (7, [.ref u_4.1, .ref u_4.2.1, .ref u_4.2.2.1, .ref u_4.2.2.2, .int (nI 0), .int (nI 0), .int (nI 0)])), (u_4.1, .inl (cI, 13, .inl (nA (fun _ => 0)))), (u_4.2.1, .inl (cI, 13, .inl (nA (fun _ => 0)))), (u_4.2.2.1, .inl (cI, 7, .inl (nA (fun _ => 0)))), (u_4.2.2.2, .inl (cI, 7, .inl (nA (fun _ => 0)))), (q_5, .inr (1, [.ref u_8.1, .ref u_8.2])), (u_8.1, .inl (cI, 40, .inl (nA (fun _ => 0)))), (u_8.2, .inl (cI, 7, .inl (nA (fun _ => 0))))] H := hP
  have hD : va_D A [(h, .inr (9, [.null, .null, .null, .ref q_1, .ref q_5])), (q_1, .inr (7, [.ref u_4.1, .ref u_4.2.1, .ref u_4.2.2.1, .ref u_4.2.2.2, .int (nI 0), .int (nI 0), .int (nI 0)])), (u_4.1, .inl (cI, 13, .inl (nA (fun _ => 0)))), (u_4.2.1, .inl (cI, 13, .inl (nA (fun _ => 0)))), (u_4.2.2.1, .inl (cI, 7, .inl (nA (fun _ => 0)))), (u_4.2.2.2, .inl (cI, 7, .inl (nA (fun _ => 0)))), (q_5, .inr (1, [.ref u_8.1, .ref u_8.2])), (u_8.1, .inl (cI, 40, .inl (nA (fun _ => 0)))), (u_8.2, .inl (cI, 7, .inl (nA (fun _ => 0))))] := hD
  refine lv_aload_n hx hb dX9_init_26 rfl (lv_at hl 0 rfl) ?_
  refine lv_aload_n hx hb dX9_init_27 rfl (lv_at hl 1 rfl) ?_
  refine va_putF (D := D) (ci := 9) (v := .ref b1) (ty := .object "SilkWord$Street") (C := RX9) (T := TX9) (N := 5) hx hb hts in_X9 tyX9 tyX9_ok nmX9 hown hK hP hD hS 0 rfl rfl 0 (by decide) lk13 (fun _ h9 => h9) rfl hin rfl (by decide +kernel) rfl rfl (Nat.le_of_ble_eq_true rfl) dX9_init_28 (fun H locs hP hD hS => ?_)
  have hP : va_P D vwCl [(h, .inr (9, [.ref b1, .null, .null, .ref q_1, .ref q_5])), (q_1, .inr (7, [.ref u_4.1, .ref u_4.2.1, .ref u_4.2.2.1, .ref u_4.2.2.2, .int (nI 0), .int (nI 0), .int (nI 0)])), (u_4.1, .inl (cI, 13, .inl (nA (fun _ => 0)))), (u_4.2.1, .inl (cI, 13, .inl (nA (fun _ => 0)))), (u_4.2.2.1, .inl (cI, 7, .inl (nA (fun _ => 0)))), (u_4.2.2.2, .inl (cI, 7, .inl (nA (fun _ => 0)))), (q_5, .inr (1, [.ref u_8.1, .ref u_8.2])), (u_8.1, .inl (cI, 40, .inl (nA (fun _ => 0)))), (u_8.2, .inl (cI, 7, .inl (nA (fun _ => 0))))] H := hP
  have hD : va_D A [(h, .inr (9, [.ref b1, .null, .null, .ref q_1, .ref q_5])), (q_1, .inr (7, [.ref u_4.1, .ref u_4.2.1, .ref u_4.2.2.1, .ref u_4.2.2.2, .int (nI 0), .int (nI 0), .int (nI 0)])), (u_4.1, .inl (cI, 13, .inl (nA (fun _ => 0)))), (u_4.2.1, .inl (cI, 13, .inl (nA (fun _ => 0)))), (u_4.2.2.1, .inl (cI, 7, .inl (nA (fun _ => 0)))), (u_4.2.2.2, .inl (cI, 7, .inl (nA (fun _ => 0)))), (q_5, .inr (1, [.ref u_8.1, .ref u_8.2])), (u_8.1, .inl (cI, 40, .inl (nA (fun _ => 0)))), (u_8.2, .inl (cI, 7, .inl (nA (fun _ => 0))))] := hD
  refine lv_aload_n hx hb dX9_init_31 rfl (lv_at hl 0 rfl) ?_
  refine lv_aload_n hx hb dX9_init_32 rfl (lv_at hl 2 rfl) ?_
  refine va_putF (D := D) (ci := 9) (v := .ref b2) (ty := .object "SilkWord$Talk") (C := RX9) (T := TX9) (N := 5) hx hb hts in_X9 tyX9 tyX9_ok nmX9 hown hK hP hD hS 0 rfl rfl 1 (by decide) lk14 (fun _ h9 => h9) rfl hin rfl (by decide +kernel) rfl rfl (Nat.le_of_ble_eq_true rfl) dX9_init_33 (fun H locs hP hD hS => ?_)
  have hP : va_P D vwCl [(h, .inr (9, [.ref b1, .ref b2, .null, .ref q_1, .ref q_5])), (q_1, .inr (7, [.ref u_4.1, .ref u_4.2.1, .ref u_4.2.2.1, .ref u_4.2.2.2, .int (nI 0), .int (nI 0), .int (nI 0)])), (u_4.1, .inl (cI, 13, .inl (nA (fun _ => 0)))), (u_4.2.1, .inl (cI, 13, .inl (nA (fun _ => 0)))), (u_4.2.2.1, .inl (cI, 7, .inl (nA (fun _ => 0)))), (u_4.2.2.2, .inl (cI, 7, .inl (nA (fun _ => 0)))), (q_5, .inr (1, [.ref u_8.1, .ref u_8.2])), (u_8.1, .inl (cI, 40, .inl (nA (fun _ => 0)))), (u_8.2, .inl (cI, 7, .inl (nA (fun _ => 0))))] H := hP
  have hD : va_D A [(h, .inr (9, [.ref b1, .ref b2, .null, .ref q_1, .ref q_5])), (q_1, .inr (7, [.ref u_4.1, .ref u_4.2.1, .ref u_4.2.2.1, .ref u_4.2.2.2, .int (nI 0), .int (nI 0), .int (nI 0)])), (u_4.1, .inl (cI, 13, .inl (nA (fun _ => 0)))), (u_4.2.1, .inl (cI, 13, .inl (nA (fun _ => 0)))), (u_4.2.2.1, .inl (cI, 7, .inl (nA (fun _ => 0)))), (u_4.2.2.2, .inl (cI, 7, .inl (nA (fun _ => 0)))), (q_5, .inr (1, [.ref u_8.1, .ref u_8.2])), (u_8.1, .inl (cI, 40, .inl (nA (fun _ => 0)))), (u_8.2, .inl (cI, 7, .inl (nA (fun _ => 0))))] := hD
  refine lv_aload_n hx hb dX9_init_36 rfl (lv_at hl 0 rfl) ?_
  refine lv_aload_n hx hb dX9_init_37 rfl (lv_at hl 3 rfl) ?_
  refine va_putF (D := D) (ci := 9) (v := .ref b3) (ty := .object "SilkWord$Readings") (C := RX9) (T := TX9) (N := 5) hx hb hts in_X9 tyX9 tyX9_ok nmX9 hown hK hP hD hS 0 rfl rfl 2 (by decide) lk15 (fun _ h9 => h9) rfl hin rfl (by decide +kernel) rfl rfl (Nat.le_of_ble_eq_true rfl) dX9_init_38 (fun H locs hP hD hS => ?_)
  have hP : va_P D vwCl [(h, .inr (9, [.ref b1, .ref b2, .ref b3, .ref q_1, .ref q_5])), (q_1, .inr (7, [.ref u_4.1, .ref u_4.2.1, .ref u_4.2.2.1, .ref u_4.2.2.2, .int (nI 0), .int (nI 0), .int (nI 0)])), (u_4.1, .inl (cI, 13, .inl (nA (fun _ => 0)))), (u_4.2.1, .inl (cI, 13, .inl (nA (fun _ => 0)))), (u_4.2.2.1, .inl (cI, 7, .inl (nA (fun _ => 0)))), (u_4.2.2.2, .inl (cI, 7, .inl (nA (fun _ => 0)))), (q_5, .inr (1, [.ref u_8.1, .ref u_8.2])), (u_8.1, .inl (cI, 40, .inl (nA (fun _ => 0)))), (u_8.2, .inl (cI, 7, .inl (nA (fun _ => 0))))] H := hP
  have hD : va_D A [(h, .inr (9, [.ref b1, .ref b2, .ref b3, .ref q_1, .ref q_5])), (q_1, .inr (7, [.ref u_4.1, .ref u_4.2.1, .ref u_4.2.2.1, .ref u_4.2.2.2, .int (nI 0), .int (nI 0), .int (nI 0)])), (u_4.1, .inl (cI, 13, .inl (nA (fun _ => 0)))), (u_4.2.1, .inl (cI, 13, .inl (nA (fun _ => 0)))), (u_4.2.2.1, .inl (cI, 7, .inl (nA (fun _ => 0)))), (u_4.2.2.2, .inl (cI, 7, .inl (nA (fun _ => 0)))), (q_5, .inr (1, [.ref u_8.1, .ref u_8.2])), (u_8.1, .inl (cI, 40, .inl (nA (fun _ => 0)))), (u_8.2, .inl (cI, 7, .inl (nA (fun _ => 0))))] := hD
  exact ret (q_1, u_4.1, u_4.2.1, u_4.2.2.1, u_4.2.2.2, q_5, u_8.1, u_8.2) _ _ _ _ dX9_init_41 trivial hP hD hS
