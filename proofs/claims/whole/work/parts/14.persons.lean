def rm_X5_init_X5 : Room := { frames := 1, cells := 0, slots := 0, locals := 20 }
set_option maxHeartbeats 4000000 in
set_option maxRecDepth 100000 in
theorem c_X5_init_X5 (l : Launch) (D : va_G) (cI cZ cS cP : ClassId) (hQ : Nat) (pl : Nat) (lo : Nat) (er : Nat) (a : Nat) (b : Nat) (d : Nat) : kMv (S := Unit) l yX5_init wsX5_init rm_X5_init_X5 D (kT cI cZ cS cP) [.ref hQ, .int (nI a), .int (nI b), .int (nI d)] [(hQ, .inr (5, [.int (nI pl), .int (nI lo), .int (nI er)]))] (fun _ => True) (fun _ => [(hQ, .inr (5, [.int (nI a), .int (nI b), .int (nI d)]))]) := by
  refine kMet_v (cc := cX5_init) (maxL := 4) (by decide) rfl (Nat.le_of_ble_eq_true rfl) ?_
  intro p e s m args below meth c A Q ls C hlocks hin hN hK hP hD hS hA hl ret
  obtain ⟨hx, hb, hml, hown, hts⟩ := C
  have hl : lv_has ls 4 [(0, .ref hQ), (1, .int (nI a)), (2, .int (nI b)), (3, .int (nI d))] := hl
  have in_X5 : ∀ w ∈ wsX50, w ∈ wsX5_init := by decide +kernel
  have lk0 := hts (.methodLink RX5 3 objectInit) (by decide +kernel)
  have lk1 := hts (.instanceMethod objectInit) (by decide +kernel)
  have lk2 := hts (.code objectInit ⟨#[0xb1]⟩ 1 none) (by decide +kernel)
  have lk3 := hts (.fieldLink RX5 9 "SilkWord$Subject" "place" "I") (by decide +kernel)
  have lk4 := hts (.fieldLink RX5 15 "SilkWord$Subject" "loses" "I") (by decide +kernel)
  have lk5 := hts (.fieldLink RX5 18 "SilkWord$Subject" "ear" "I") (by decide +kernel)
  refine lv_aload_n hx hb dX5_init_0 rfl (lv_at hl 0 rfl) ?_
  refine W.objInit hx hb hown lk0 lk1 lk2 rfl (by rw [hml]; exact hl.1) rfl dX5_init_1 (Nat.le_of_ble_eq_true rfl) (Nat.le_of_ble_eq_true rfl) ?_
  refine W.eq (g2 := F0 m 4 ls []) rfl ?_
  refine lv_aload_n hx hb dX5_init_4 rfl (lv_at hl 0 rfl) ?_
  refine lv_iload_n hx hb dX5_init_5 rfl (lv_at hl 1 rfl) ?_
  refine va_putF (D := D) (ci := 5) (v := .int (nI a)) (ty := .int) (C := RX5) (T := TX5) (N := 3) hx hb hts in_X5 tyX5 tyX5_ok nmX5 hown hK hP hD hS 0 rfl rfl 0 (by decide) lk3 (fun _ h9 => h9) rfl hin rfl (by decide +kernel) rfl rfl (Nat.le_of_ble_eq_true rfl) dX5_init_6 (fun H locs hP hD hS => ?_)
  have hP : va_P D vwCl [(hQ, .inr (5, [.int (nI a), .int (nI lo), .int (nI er)]))] H := hP
  have hD : va_D A [(hQ, .inr (5, [.int (nI a), .int (nI lo), .int (nI er)]))] := hD
  refine lv_aload_n hx hb dX5_init_9 rfl (lv_at hl 0 rfl) ?_
  refine lv_iload_n hx hb dX5_init_10 rfl (lv_at hl 2 rfl) ?_
  refine va_putF (D := D) (ci := 5) (v := .int (nI b)) (ty := .int) (C := RX5) (T := TX5) (N := 3) hx hb hts in_X5 tyX5 tyX5_ok nmX5 hown hK hP hD hS 0 rfl rfl 1 (by decide) lk4 (fun _ h9 => h9) rfl hin rfl (by decide +kernel) rfl rfl (Nat.le_of_ble_eq_true rfl) dX5_init_11 (fun H locs hP hD hS => ?_)
  have hP : va_P D vwCl [(hQ, .inr (5, [.int (nI a), .int (nI b), .int (nI er)]))] H := hP
  have hD : va_D A [(hQ, .inr (5, [.int (nI a), .int (nI b), .int (nI er)]))] := hD
  refine lv_aload_n hx hb dX5_init_14 rfl (lv_at hl 0 rfl) ?_
  refine lv_iload_n hx hb dX5_init_15 rfl (lv_at hl 3 rfl) ?_
  refine va_putF (D := D) (ci := 5) (v := .int (nI d)) (ty := .int) (C := RX5) (T := TX5) (N := 3) hx hb hts in_X5 tyX5 tyX5_ok nmX5 hown hK hP hD hS 0 rfl rfl 2 (by decide) lk5 (fun _ h9 => h9) rfl hin rfl (by decide +kernel) rfl rfl (Nat.le_of_ble_eq_true rfl) dX5_init_16 (fun H locs hP hD hS => ?_)
  have hP : va_P D vwCl [(hQ, .inr (5, [.int (nI a), .int (nI b), .int (nI d)]))] H := hP
  have hD : va_D A [(hQ, .inr (5, [.int (nI a), .int (nI b), .int (nI d)]))] := hD
  exact ret () _ _ _ _ dX5_init_19 trivial hP hD hS
def rm_X5_init_X0 : Room := { frames := 1, cells := 0, slots := 0, locals := 20 }
set_option maxHeartbeats 4000000 in
set_option maxRecDepth 100000 in
theorem c_X5_init_X0 (l : Launch) (D : va_G) (cI cZ cS cP : ClassId) (hQ : Nat) (pl : Nat) (lo : Nat) (er : Nat) (a : Nat) (b : Nat) (d : Nat) : kMv (S := Unit) l yX5_init wsX5_init rm_X5_init_X0 D (kT cI cZ cS cP) [.ref hQ, .int (nI a), .int (nI b), .int (nI d)] [(hQ, .inr (0, [.int (nI pl), .int (nI lo), .int (nI er)]))] (fun _ => True) (fun _ => [(hQ, .inr (0, [.int (nI a), .int (nI b), .int (nI d)]))]) := by
  refine kMet_v (cc := cX5_init) (maxL := 4) (by decide) rfl (Nat.le_of_ble_eq_true rfl) ?_
  intro p e s m args below meth c A Q ls C hlocks hin hN hK hP hD hS hA hl ret
  obtain ⟨hx, hb, hml, hown, hts⟩ := C
  have hl : lv_has ls 4 [(0, .ref hQ), (1, .int (nI a)), (2, .int (nI b)), (3, .int (nI d))] := hl
  have in_X0 : ∀ w ∈ wsX00, w ∈ wsX5_init := by decide +kernel
  have lk0 := hts (.methodLink RX5 3 objectInit) (by decide +kernel)
  have lk1 := hts (.instanceMethod objectInit) (by decide +kernel)
  have lk2 := hts (.code objectInit ⟨#[0xb1]⟩ 1 none) (by decide +kernel)
  have lk3 := hts (.fieldLink RX5 9 "SilkWord$Subject" "place" "I") (by decide +kernel)
  have lk4 := hts (.fieldLink RX5 15 "SilkWord$Subject" "loses" "I") (by decide +kernel)
  have lk5 := hts (.fieldLink RX5 18 "SilkWord$Subject" "ear" "I") (by decide +kernel)
  refine lv_aload_n hx hb dX5_init_0 rfl (lv_at hl 0 rfl) ?_
  refine W.objInit hx hb hown lk0 lk1 lk2 rfl (by rw [hml]; exact hl.1) rfl dX5_init_1 (Nat.le_of_ble_eq_true rfl) (Nat.le_of_ble_eq_true rfl) ?_
  refine W.eq (g2 := F0 m 4 ls []) rfl ?_
  refine lv_aload_n hx hb dX5_init_4 rfl (lv_at hl 0 rfl) ?_
  refine lv_iload_n hx hb dX5_init_5 rfl (lv_at hl 1 rfl) ?_
  refine va_putF (D := D) (ci := 0) (v := .int (nI a)) (ty := .int) (C := RX0) (T := TX0) (N := 3) hx hb hts in_X0 tyX0 tyX0_ok nmX0 hown hK hP hD hS 0 rfl rfl 0 (by decide) lk3 (fun _ h9 => h9) rfl hin rfl (by decide +kernel) rfl rfl (Nat.le_of_ble_eq_true rfl) dX5_init_6 (fun H locs hP hD hS => ?_)
  have hP : va_P D vwCl [(hQ, .inr (0, [.int (nI a), .int (nI lo), .int (nI er)]))] H := hP
  have hD : va_D A [(hQ, .inr (0, [.int (nI a), .int (nI lo), .int (nI er)]))] := hD
  refine lv_aload_n hx hb dX5_init_9 rfl (lv_at hl 0 rfl) ?_
  refine lv_iload_n hx hb dX5_init_10 rfl (lv_at hl 2 rfl) ?_
  refine va_putF (D := D) (ci := 0) (v := .int (nI b)) (ty := .int) (C := RX0) (T := TX0) (N := 3) hx hb hts in_X0 tyX0 tyX0_ok nmX0 hown hK hP hD hS 0 rfl rfl 1 (by decide) lk4 (fun _ h9 => h9) rfl hin rfl (by decide +kernel) rfl rfl (Nat.le_of_ble_eq_true rfl) dX5_init_11 (fun H locs hP hD hS => ?_)
  have hP : va_P D vwCl [(hQ, .inr (0, [.int (nI a), .int (nI b), .int (nI er)]))] H := hP
  have hD : va_D A [(hQ, .inr (0, [.int (nI a), .int (nI b), .int (nI er)]))] := hD
  refine lv_aload_n hx hb dX5_init_14 rfl (lv_at hl 0 rfl) ?_
  refine lv_iload_n hx hb dX5_init_15 rfl (lv_at hl 3 rfl) ?_
  refine va_putF (D := D) (ci := 0) (v := .int (nI d)) (ty := .int) (C := RX0) (T := TX0) (N := 3) hx hb hts in_X0 tyX0 tyX0_ok nmX0 hown hK hP hD hS 0 rfl rfl 2 (by decide) lk5 (fun _ h9 => h9) rfl hin rfl (by decide +kernel) rfl rfl (Nat.le_of_ble_eq_true rfl) dX5_init_16 (fun H locs hP hD hS => ?_)
  have hP : va_P D vwCl [(hQ, .inr (0, [.int (nI a), .int (nI b), .int (nI d)]))] H := hP
  have hD : va_D A [(hQ, .inr (0, [.int (nI a), .int (nI b), .int (nI d)]))] := hD
  exact ret () _ _ _ _ dX5_init_19 trivial hP hD hS
def rm_X5_init_X6 : Room := { frames := 1, cells := 0, slots := 0, locals := 20 }
set_option maxHeartbeats 4000000 in
set_option maxRecDepth 100000 in
theorem c_X5_init_X6 (l : Launch) (D : va_G) (cI cZ cS cP : ClassId) (hQ : Nat) (pl : Nat) (lo : Nat) (er : Nat) (a : Nat) (b : Nat) (d : Nat) : kMv (S := Unit) l yX5_init wsX5_init rm_X5_init_X6 D (kT cI cZ cS cP) [.ref hQ, .int (nI a), .int (nI b), .int (nI d)] [(hQ, .inr (6, [.int (nI pl), .int (nI lo), .int (nI er)]))] (fun _ => True) (fun _ => [(hQ, .inr (6, [.int (nI a), .int (nI b), .int (nI d)]))]) := by
  refine kMet_v (cc := cX5_init) (maxL := 4) (by decide) rfl (Nat.le_of_ble_eq_true rfl) ?_
  intro p e s m args below meth c A Q ls C hlocks hin hN hK hP hD hS hA hl ret
  obtain ⟨hx, hb, hml, hown, hts⟩ := C
  have hl : lv_has ls 4 [(0, .ref hQ), (1, .int (nI a)), (2, .int (nI b)), (3, .int (nI d))] := hl
  have in_X6 : ∀ w ∈ wsX60, w ∈ wsX5_init := by decide +kernel
  have lk0 := hts (.methodLink RX5 3 objectInit) (by decide +kernel)
  have lk1 := hts (.instanceMethod objectInit) (by decide +kernel)
  have lk2 := hts (.code objectInit ⟨#[0xb1]⟩ 1 none) (by decide +kernel)
  have lk3 := hts (.fieldLink RX5 9 "SilkWord$Subject" "place" "I") (by decide +kernel)
  have lk4 := hts (.fieldLink RX5 15 "SilkWord$Subject" "loses" "I") (by decide +kernel)
  have lk5 := hts (.fieldLink RX5 18 "SilkWord$Subject" "ear" "I") (by decide +kernel)
  refine lv_aload_n hx hb dX5_init_0 rfl (lv_at hl 0 rfl) ?_
  refine W.objInit hx hb hown lk0 lk1 lk2 rfl (by rw [hml]; exact hl.1) rfl dX5_init_1 (Nat.le_of_ble_eq_true rfl) (Nat.le_of_ble_eq_true rfl) ?_
  refine W.eq (g2 := F0 m 4 ls []) rfl ?_
  refine lv_aload_n hx hb dX5_init_4 rfl (lv_at hl 0 rfl) ?_
  refine lv_iload_n hx hb dX5_init_5 rfl (lv_at hl 1 rfl) ?_
  refine va_putF (D := D) (ci := 6) (v := .int (nI a)) (ty := .int) (C := RX6) (T := TX6) (N := 3) hx hb hts in_X6 tyX6 tyX6_ok nmX6 hown hK hP hD hS 0 rfl rfl 0 (by decide) lk3 (fun _ h9 => h9) rfl hin rfl (by decide +kernel) rfl rfl (Nat.le_of_ble_eq_true rfl) dX5_init_6 (fun H locs hP hD hS => ?_)
  have hP : va_P D vwCl [(hQ, .inr (6, [.int (nI a), .int (nI lo), .int (nI er)]))] H := hP
  have hD : va_D A [(hQ, .inr (6, [.int (nI a), .int (nI lo), .int (nI er)]))] := hD
  refine lv_aload_n hx hb dX5_init_9 rfl (lv_at hl 0 rfl) ?_
  refine lv_iload_n hx hb dX5_init_10 rfl (lv_at hl 2 rfl) ?_
  refine va_putF (D := D) (ci := 6) (v := .int (nI b)) (ty := .int) (C := RX6) (T := TX6) (N := 3) hx hb hts in_X6 tyX6 tyX6_ok nmX6 hown hK hP hD hS 0 rfl rfl 1 (by decide) lk4 (fun _ h9 => h9) rfl hin rfl (by decide +kernel) rfl rfl (Nat.le_of_ble_eq_true rfl) dX5_init_11 (fun H locs hP hD hS => ?_)
  have hP : va_P D vwCl [(hQ, .inr (6, [.int (nI a), .int (nI b), .int (nI er)]))] H := hP
  have hD : va_D A [(hQ, .inr (6, [.int (nI a), .int (nI b), .int (nI er)]))] := hD
  refine lv_aload_n hx hb dX5_init_14 rfl (lv_at hl 0 rfl) ?_
  refine lv_iload_n hx hb dX5_init_15 rfl (lv_at hl 3 rfl) ?_
  refine va_putF (D := D) (ci := 6) (v := .int (nI d)) (ty := .int) (C := RX6) (T := TX6) (N := 3) hx hb hts in_X6 tyX6 tyX6_ok nmX6 hown hK hP hD hS 0 rfl rfl 2 (by decide) lk5 (fun _ h9 => h9) rfl hin rfl (by decide +kernel) rfl rfl (Nat.le_of_ble_eq_true rfl) dX5_init_16 (fun H locs hP hD hS => ?_)
  have hP : va_P D vwCl [(hQ, .inr (6, [.int (nI a), .int (nI b), .int (nI d)]))] H := hP
  have hD : va_D A [(hQ, .inr (6, [.int (nI a), .int (nI b), .int (nI d)]))] := hD
  exact ret () _ _ _ _ dX5_init_19 trivial hP hD hS
def rm_X0_init_X0 : Room := { frames := 2, cells := 0, slots := 0, locals := 43 }
set_option maxHeartbeats 4000000 in
set_option maxRecDepth 100000 in
theorem c_X0_init_X0 (l : Launch) (D : va_G) (cI cZ cS cP : ClassId) (hQ : Nat) (pl : Nat) (lo : Nat) (er : Nat) (a : Nat) (b : Nat) (d : Nat) : kMv (S := Unit) l yX0_init wsX0_init rm_X0_init_X0 D (kT cI cZ cS cP) [.ref hQ, .int (nI a), .int (nI b), .int (nI d)] [(hQ, .inr (0, [.int (nI pl), .int (nI lo), .int (nI er)]))] (fun _ => True) (fun _ => [(hQ, .inr (0, [.int (nI a), .int (nI b), .int (nI d)]))]) := by
  refine kMet_v (cc := cX0_init) (maxL := 4) (by decide) rfl (Nat.le_of_ble_eq_true rfl) ?_
  intro p e s m args below meth c A Q ls C hlocks hin hN hK hP hD hS hA hl ret
  obtain ⟨hx, hb, hml, hown, hts⟩ := C
  have hl : lv_has ls 4 [(0, .ref hQ), (1, .int (nI a)), (2, .int (nI b)), (3, .int (nI d))] := hl
  have lk0 := hts (.initialized RX5) (by decide +kernel)
  have lk1 := hts (.methodLink RX0 3 yX5_init) (by decide +kernel)
  have lk2 := hts (.instanceMethod yX5_init) (by decide +kernel)
  refine lv_aload_n hx hb dX0_init_0 rfl (lv_at hl 0 rfl) ?_
  refine lv_iload_n hx hb dX0_init_1 rfl (lv_at hl 1 rfl) ?_
  refine lv_iload_n hx hb dX0_init_2 rfl (lv_at hl 2 rfl) ?_
  refine lv_iload_n hx hb dX0_init_3 rfl (lv_at hl 3 rfl) ?_
  refine k_gov (S := Unit) (va_runI (As := [.int (nI a), .int (nI b), .int (nI d)]) (rest := []) ⟨hx, hb, hml, hown, hts⟩ (c_X5_init_X0 l D cI cZ cS cP hQ pl lo er a b d  _) (cwI 3 hts gX0_init_X5_init rfl rfl rfl lk0 lk1 lk2 rfl (by decide +kernel) ⟨Nat.le_of_ble_eq_true rfl, Nat.le_of_ble_eq_true rfl⟩) (kPreS hN hK hP hD [0] rfl rfl) rfl rfl hl.1 rfl (lv_room (Nat.le_of_ble_eq_true rfl)) dX0_init_4 ⟨Nat.le_of_ble_eq_true rfl, Nat.le_of_ble_eq_true rfl⟩) hP hD hS hA [0] rfl [hQ] rfl (fun _ => rfl) 1 [] rfl (fun _u => [(hQ, .inr (0, [.int (nI a), .int (nI b), .int (nI d)]))]) (fun _ => rfl) [] [] (fun _ => rfl) rfl (fun _ => rfl) rfl (fun _u H locs hr_2 hP hD hS => ?_)
  have hP : va_P D vwCl [(hQ, .inr (0, [.int (nI a), .int (nI b), .int (nI d)]))] H := hP
  have hD : va_D A [(hQ, .inr (0, [.int (nI a), .int (nI b), .int (nI d)]))] := hD
  exact ret () _ _ _ _ dX0_init_7 trivial hP hD hS
def rm_X0_init_X6 : Room := { frames := 2, cells := 0, slots := 0, locals := 43 }
set_option maxHeartbeats 4000000 in
set_option maxRecDepth 100000 in
theorem c_X0_init_X6 (l : Launch) (D : va_G) (cI cZ cS cP : ClassId) (hQ : Nat) (pl : Nat) (lo : Nat) (er : Nat) (a : Nat) (b : Nat) (d : Nat) : kMv (S := Unit) l yX0_init wsX0_init rm_X0_init_X6 D (kT cI cZ cS cP) [.ref hQ, .int (nI a), .int (nI b), .int (nI d)] [(hQ, .inr (6, [.int (nI pl), .int (nI lo), .int (nI er)]))] (fun _ => True) (fun _ => [(hQ, .inr (6, [.int (nI a), .int (nI b), .int (nI d)]))]) := by
  refine kMet_v (cc := cX0_init) (maxL := 4) (by decide) rfl (Nat.le_of_ble_eq_true rfl) ?_
  intro p e s m args below meth c A Q ls C hlocks hin hN hK hP hD hS hA hl ret
  obtain ⟨hx, hb, hml, hown, hts⟩ := C
  have hl : lv_has ls 4 [(0, .ref hQ), (1, .int (nI a)), (2, .int (nI b)), (3, .int (nI d))] := hl
  have lk0 := hts (.initialized RX5) (by decide +kernel)
  have lk1 := hts (.methodLink RX0 3 yX5_init) (by decide +kernel)
  have lk2 := hts (.instanceMethod yX5_init) (by decide +kernel)
  refine lv_aload_n hx hb dX0_init_0 rfl (lv_at hl 0 rfl) ?_
  refine lv_iload_n hx hb dX0_init_1 rfl (lv_at hl 1 rfl) ?_
  refine lv_iload_n hx hb dX0_init_2 rfl (lv_at hl 2 rfl) ?_
  refine lv_iload_n hx hb dX0_init_3 rfl (lv_at hl 3 rfl) ?_
  refine k_gov (S := Unit) (va_runI (As := [.int (nI a), .int (nI b), .int (nI d)]) (rest := []) ⟨hx, hb, hml, hown, hts⟩ (c_X5_init_X6 l D cI cZ cS cP hQ pl lo er a b d  _) (cwI 3 hts gX0_init_X5_init rfl rfl rfl lk0 lk1 lk2 rfl (by decide +kernel) ⟨Nat.le_of_ble_eq_true rfl, Nat.le_of_ble_eq_true rfl⟩) (kPreS hN hK hP hD [0] rfl rfl) rfl rfl hl.1 rfl (lv_room (Nat.le_of_ble_eq_true rfl)) dX0_init_4 ⟨Nat.le_of_ble_eq_true rfl, Nat.le_of_ble_eq_true rfl⟩) hP hD hS hA [0] rfl [hQ] rfl (fun _ => rfl) 1 [] rfl (fun _u => [(hQ, .inr (6, [.int (nI a), .int (nI b), .int (nI d)]))]) (fun _ => rfl) [] [] (fun _ => rfl) rfl (fun _ => rfl) rfl (fun _u H locs hr_2 hP hD hS => ?_)
  have hP : va_P D vwCl [(hQ, .inr (6, [.int (nI a), .int (nI b), .int (nI d)]))] H := hP
  have hD : va_D A [(hQ, .inr (6, [.int (nI a), .int (nI b), .int (nI d)]))] := hD
  exact ret () _ _ _ _ dX0_init_7 trivial hP hD hS
def rm_X6_init_X6 : Room := { frames := 3, cells := 0, slots := 0, locals := 66 }
set_option maxHeartbeats 4000000 in
set_option maxRecDepth 100000 in
theorem c_X6_init_X6 (l : Launch) (D : va_G) (cI cZ cS cP : ClassId) (hQ : Nat) (pl : Nat) (lo : Nat) (er : Nat) (a : Nat) (b : Nat) (d : Nat) : kMv (S := Unit) l yX6_init wsX6_init rm_X6_init_X6 D (kT cI cZ cS cP) [.ref hQ, .int (nI a), .int (nI b), .int (nI d)] [(hQ, .inr (6, [.int (nI pl), .int (nI lo), .int (nI er)]))] (fun _ => True) (fun _ => [(hQ, .inr (6, [.int (nI a), .int (nI b), .int (nI d)]))]) := by
  refine kMet_v (cc := cX6_init) (maxL := 4) (by decide) rfl (Nat.le_of_ble_eq_true rfl) ?_
  intro p e s m args below meth c A Q ls C hlocks hin hN hK hP hD hS hA hl ret
  obtain ⟨hx, hb, hml, hown, hts⟩ := C
  have hl : lv_has ls 4 [(0, .ref hQ), (1, .int (nI a)), (2, .int (nI b)), (3, .int (nI d))] := hl
  have lk0 := hts (.initialized RX0) (by decide +kernel)
  have lk1 := hts (.methodLink RX6 3 yX0_init) (by decide +kernel)
  have lk2 := hts (.instanceMethod yX0_init) (by decide +kernel)
  refine lv_aload_n hx hb dX6_init_0 rfl (lv_at hl 0 rfl) ?_
  refine lv_iload_n hx hb dX6_init_1 rfl (lv_at hl 1 rfl) ?_
  refine lv_iload_n hx hb dX6_init_2 rfl (lv_at hl 2 rfl) ?_
  refine lv_iload_n hx hb dX6_init_3 rfl (lv_at hl 3 rfl) ?_
  refine k_gov (S := Unit) (va_runI (As := [.int (nI a), .int (nI b), .int (nI d)]) (rest := []) ⟨hx, hb, hml, hown, hts⟩ (c_X0_init_X6 l D cI cZ cS cP hQ pl lo er a b d  _) (cwI 3 hts gX6_init_X0_init rfl rfl rfl lk0 lk1 lk2 rfl (by decide +kernel) ⟨Nat.le_of_ble_eq_true rfl, Nat.le_of_ble_eq_true rfl⟩) (kPreS hN hK hP hD [0] rfl rfl) rfl rfl hl.1 rfl (lv_room (Nat.le_of_ble_eq_true rfl)) dX6_init_4 ⟨Nat.le_of_ble_eq_true rfl, Nat.le_of_ble_eq_true rfl⟩) hP hD hS hA [0] rfl [hQ] rfl (fun _ => rfl) 1 [] rfl (fun _u => [(hQ, .inr (6, [.int (nI a), .int (nI b), .int (nI d)]))]) (fun _ => rfl) [] [] (fun _ => rfl) rfl (fun _ => rfl) rfl (fun _u H locs hr_2 hP hD hS => ?_)
  have hP : va_P D vwCl [(hQ, .inr (6, [.int (nI a), .int (nI b), .int (nI d)]))] H := hP
  have hD : va_D A [(hQ, .inr (6, [.int (nI a), .int (nI b), .int (nI d)]))] := hD
  exact ret () _ _ _ _ dX6_init_7 trivial hP hD hS
def rm_X5_kind : Room := { frames := 0, cells := 0, slots := 0, locals := 0 }
set_option maxHeartbeats 4000000 in
set_option maxRecDepth 100000 in
theorem c_X5_kind (l : Launch) (D : va_G) (cI cZ cS cP : ClassId) (hQ : Nat) (pl : Nat) (lo : Nat) (er : Nat) : kMi (S := Unit) l yX5_kind wsX5_kind rm_X5_kind D (kT cI cZ cS cP) [.ref hQ] [(hQ, .inr (5, [.int (nI pl), .int (nI lo), .int (nI er)]))] (fun r _ => r = (nI 0)) (fun _ => [(hQ, .inr (5, [.int (nI pl), .int (nI lo), .int (nI er)]))]) := by
  refine kMet_i (cc := cX5_kind) (maxL := 1) (ty := .int) (by decide) rfl (Nat.le_of_ble_eq_true rfl) (fun _ _ _ => rfl) ?_
  intro p e s m args below meth c A Q ls C hlocks hin hN hK hP hD hS hA hl ret
  obtain ⟨hx, hb, hml, hown, hts⟩ := C
  have hl : lv_has ls 1 [(0, .ref hQ)] := hl
  refine lv_iconst (v := (nI 0)) hx hb dX5_kind_0 (by decide) ?_
  exact ret _ () _ _ _ _ dX5_kind_1 (rfl) hP hD hS
def rm_X0_kind : Room := { frames := 0, cells := 0, slots := 0, locals := 0 }
set_option maxHeartbeats 4000000 in
set_option maxRecDepth 100000 in
theorem c_X0_kind (l : Launch) (D : va_G) (cI cZ cS cP : ClassId) (hQ : Nat) (pl : Nat) (lo : Nat) (er : Nat) : kMi (S := Unit) l yX0_kind wsX0_kind rm_X0_kind D (kT cI cZ cS cP) [.ref hQ] [(hQ, .inr (0, [.int (nI pl), .int (nI lo), .int (nI er)]))] (fun r _ => r = (nI 1)) (fun _ => [(hQ, .inr (0, [.int (nI pl), .int (nI lo), .int (nI er)]))]) := by
  refine kMet_i (cc := cX0_kind) (maxL := 1) (ty := .int) (by decide) rfl (Nat.le_of_ble_eq_true rfl) (fun _ _ _ => rfl) ?_
  intro p e s m args below meth c A Q ls C hlocks hin hN hK hP hD hS hA hl ret
  obtain ⟨hx, hb, hml, hown, hts⟩ := C
  have hl : lv_has ls 1 [(0, .ref hQ)] := hl
  refine lv_iconst (v := (nI 1)) hx hb dX0_kind_0 (by decide) ?_
  exact ret _ () _ _ _ _ dX0_kind_1 (rfl) hP hD hS
def rm_X6_kind : Room := { frames := 0, cells := 0, slots := 0, locals := 0 }
set_option maxHeartbeats 4000000 in
set_option maxRecDepth 100000 in
theorem c_X6_kind (l : Launch) (D : va_G) (cI cZ cS cP : ClassId) (hQ : Nat) (pl : Nat) (lo : Nat) (er : Nat) : kMi (S := Unit) l yX6_kind wsX6_kind rm_X6_kind D (kT cI cZ cS cP) [.ref hQ] [(hQ, .inr (6, [.int (nI pl), .int (nI lo), .int (nI er)]))] (fun r _ => r = (nI 2)) (fun _ => [(hQ, .inr (6, [.int (nI pl), .int (nI lo), .int (nI er)]))]) := by
  refine kMet_i (cc := cX6_kind) (maxL := 1) (ty := .int) (by decide) rfl (Nat.le_of_ble_eq_true rfl) (fun _ _ _ => rfl) ?_
  intro p e s m args below meth c A Q ls C hlocks hin hN hK hP hD hS hA hl ret
  obtain ⟨hx, hb, hml, hown, hts⟩ := C
  have hl : lv_has ls 1 [(0, .ref hQ)] := hl
  refine lv_iconst (v := (nI 2)) hx hb dX6_kind_0 (by decide) ?_
  exact ret _ () _ _ _ _ dX6_kind_1 (rfl) hP hD hS
def rm_X5_dares_X5 : Room := { frames := 0, cells := 0, slots := 0, locals := 0 }
set_option maxHeartbeats 4000000 in
set_option maxRecDepth 100000 in
theorem c_X5_dares_X5 (l : Launch) (D : va_G) (cI cZ cS cP : ClassId) (hQ : Nat) (pl : Nat) (lo : Nat) (er : Nat) : kMi (S := Unit) l yX5_dares wsX5_dares rm_X5_dares_X5 D (kT cI cZ cS cP) [.ref hQ] [(hQ, .inr (5, [.int (nI pl), .int (nI lo), .int (nI er)]))] (fun r _ => r = (nI lo)) (fun _ => [(hQ, .inr (5, [.int (nI pl), .int (nI lo), .int (nI er)]))]) := by
  refine kMet_i (cc := cX5_dares) (maxL := 1) (ty := .int) (by decide) rfl (Nat.le_of_ble_eq_true rfl) (fun _ _ _ => rfl) ?_
  intro p e s m args below meth c A Q ls C hlocks hin hN hK hP hD hS hA hl ret
  obtain ⟨hx, hb, hml, hown, hts⟩ := C
  have hl : lv_has ls 1 [(0, .ref hQ)] := hl
  have in_X5 : ∀ w ∈ wsX50, w ∈ wsX5_dares := by decide +kernel
  have lk0 := hts (.fieldLink RX5 15 "SilkWord$Subject" "loses" "I") (by decide +kernel)
  refine lv_aload_n hx hb dX5_dares_0 rfl (lv_at hl 0 rfl) ?_
  refine va_get (D := D) (ci := 5) (v := .int (nI lo)) (C := RX5) (T := TX5) (N := 3) hx hb hts in_X5 hown hK hP 0 rfl rfl 1 (by decide) lk0 (fun _ h9 => h9) rfl dX5_dares_1 ?_
  exact ret _ () _ _ _ _ dX5_dares_4 (rfl) hP hD hS
def rm_X5_dares_X0 : Room := { frames := 0, cells := 0, slots := 0, locals := 0 }
set_option maxHeartbeats 4000000 in
set_option maxRecDepth 100000 in
theorem c_X5_dares_X0 (l : Launch) (D : va_G) (cI cZ cS cP : ClassId) (hQ : Nat) (pl : Nat) (lo : Nat) (er : Nat) : kMi (S := Unit) l yX5_dares wsX5_dares rm_X5_dares_X0 D (kT cI cZ cS cP) [.ref hQ] [(hQ, .inr (0, [.int (nI pl), .int (nI lo), .int (nI er)]))] (fun r _ => r = (nI lo)) (fun _ => [(hQ, .inr (0, [.int (nI pl), .int (nI lo), .int (nI er)]))]) := by
  refine kMet_i (cc := cX5_dares) (maxL := 1) (ty := .int) (by decide) rfl (Nat.le_of_ble_eq_true rfl) (fun _ _ _ => rfl) ?_
  intro p e s m args below meth c A Q ls C hlocks hin hN hK hP hD hS hA hl ret
  obtain ⟨hx, hb, hml, hown, hts⟩ := C
  have hl : lv_has ls 1 [(0, .ref hQ)] := hl
  have in_X0 : ∀ w ∈ wsX00, w ∈ wsX5_dares := by decide +kernel
  have lk0 := hts (.fieldLink RX5 15 "SilkWord$Subject" "loses" "I") (by decide +kernel)
  refine lv_aload_n hx hb dX5_dares_0 rfl (lv_at hl 0 rfl) ?_
  refine va_get (D := D) (ci := 0) (v := .int (nI lo)) (C := RX0) (T := TX0) (N := 3) hx hb hts in_X0 hown hK hP 0 rfl rfl 1 (by decide) lk0 (fun _ h9 => h9) rfl dX5_dares_1 ?_
  exact ret _ () _ _ _ _ dX5_dares_4 (rfl) hP hD hS
def rm_X5_dares_X6 : Room := { frames := 0, cells := 0, slots := 0, locals := 0 }
set_option maxHeartbeats 4000000 in
set_option maxRecDepth 100000 in
theorem c_X5_dares_X6 (l : Launch) (D : va_G) (cI cZ cS cP : ClassId) (hQ : Nat) (pl : Nat) (lo : Nat) (er : Nat) : kMi (S := Unit) l yX5_dares wsX5_dares rm_X5_dares_X6 D (kT cI cZ cS cP) [.ref hQ] [(hQ, .inr (6, [.int (nI pl), .int (nI lo), .int (nI er)]))] (fun r _ => r = (nI lo)) (fun _ => [(hQ, .inr (6, [.int (nI pl), .int (nI lo), .int (nI er)]))]) := by
  refine kMet_i (cc := cX5_dares) (maxL := 1) (ty := .int) (by decide) rfl (Nat.le_of_ble_eq_true rfl) (fun _ _ _ => rfl) ?_
  intro p e s m args below meth c A Q ls C hlocks hin hN hK hP hD hS hA hl ret
  obtain ⟨hx, hb, hml, hown, hts⟩ := C
  have hl : lv_has ls 1 [(0, .ref hQ)] := hl
  have in_X6 : ∀ w ∈ wsX60, w ∈ wsX5_dares := by decide +kernel
  have lk0 := hts (.fieldLink RX5 15 "SilkWord$Subject" "loses" "I") (by decide +kernel)
  refine lv_aload_n hx hb dX5_dares_0 rfl (lv_at hl 0 rfl) ?_
  refine va_get (D := D) (ci := 6) (v := .int (nI lo)) (C := RX6) (T := TX6) (N := 3) hx hb hts in_X6 hown hK hP 0 rfl rfl 1 (by decide) lk0 (fun _ h9 => h9) rfl dX5_dares_1 ?_
  exact ret _ () _ _ _ _ dX5_dares_4 (rfl) hP hD hS
def rm_X0_dares_X0 : Room := { frames := 1, cells := 0, slots := 0, locals := 20 }
set_option maxHeartbeats 4000000 in
set_option maxRecDepth 100000 in
theorem c_X0_dares_X0 (l : Launch) (D : va_G) (cI cZ cS cP : ClassId) (hQ : Nat) (pl : Nat) (lo : Nat) (er : Nat) : kMi (S := Unit) l yX0_dares wsX0_dares rm_X0_dares_X0 D (kT cI cZ cS cP) [.ref hQ] [(hQ, .inr (0, [.int (nI pl), .int (nI lo), .int (nI er)]))] (fun r _ => r = (nI (lo + 1))) (fun _ => [(hQ, .inr (0, [.int (nI pl), .int (nI lo), .int (nI er)]))]) := by
  refine kMet_i (cc := cX0_dares) (maxL := 1) (ty := .int) (by decide) rfl (Nat.le_of_ble_eq_true rfl) (fun _ _ _ => rfl) ?_
  intro p e s m args below meth c A Q ls C hlocks hin hN hK hP hD hS hA hl ret
  obtain ⟨hx, hb, hml, hown, hts⟩ := C
  have hl : lv_has ls 1 [(0, .ref hQ)] := hl
  refine lv_aload_n hx hb dX0_dares_0 rfl (lv_at hl 0 rfl) ?_
  refine k_goi (S := Unit) (va_runSU (hK.1 0 _ rfl).2 (As := []) (rest := []) ⟨hx, hb, hml, hown, hts⟩ (c_X5_dares_X0 l D cI cZ cS cP hQ pl lo er  _) (va_cwSU 0 hts gX0_dares_X5_dares_s9 rfl rfl rfl (by decide +kernel) ⟨Nat.le_of_ble_eq_true rfl, Nat.le_of_ble_eq_true rfl⟩) (kPreV hN hK hP hD [0] rfl rfl (q0 := 0) (ci := 0) (q := (RX0, TX0, 3)) rfl rfl) rfl rfl hl.1 rfl (lv_room (Nat.le_of_ble_eq_true rfl)) dX0_dares_1 ⟨Nat.le_of_ble_eq_true rfl, Nat.le_of_ble_eq_true rfl⟩) hP hD hS hA [0] rfl [hQ] rfl (fun _ => rfl) 1 [] rfl (fun _u => [(hQ, .inr (0, [.int (nI pl), .int (nI lo), .int (nI er)]))]) (fun _ => rfl) [] [] (fun _ => rfl) rfl (fun _ => rfl) rfl (fun r_1 _u H locs hr_2 hP hD hS => ?_)
  have hP : va_P D vwCl [(hQ, .inr (0, [.int (nI pl), .int (nI lo), .int (nI er)]))] H := hP
  have hD : va_D A [(hQ, .inr (0, [.int (nI pl), .int (nI lo), .int (nI er)]))] := hD
  subst hr_2
  refine lv_iconst (v := (nI 1)) hx hb dX0_dares_4 (by decide) ?_
  refine lv_iadd hx hb dX0_dares_5 ?_
  refine k_eqi (show ((nI lo) + (nI 1)) = (nI (lo + 1)) from nI_add lo 1) ?_
  exact ret _ () _ _ _ _ dX0_dares_6 (rfl) hP hD hS
def rm_X0_dares_X6 : Room := { frames := 1, cells := 0, slots := 0, locals := 20 }
set_option maxHeartbeats 4000000 in
set_option maxRecDepth 100000 in
theorem c_X0_dares_X6 (l : Launch) (D : va_G) (cI cZ cS cP : ClassId) (hQ : Nat) (pl : Nat) (lo : Nat) (er : Nat) : kMi (S := Unit) l yX0_dares wsX0_dares rm_X0_dares_X6 D (kT cI cZ cS cP) [.ref hQ] [(hQ, .inr (6, [.int (nI pl), .int (nI lo), .int (nI er)]))] (fun r _ => r = (nI (lo + 1))) (fun _ => [(hQ, .inr (6, [.int (nI pl), .int (nI lo), .int (nI er)]))]) := by
  refine kMet_i (cc := cX0_dares) (maxL := 1) (ty := .int) (by decide) rfl (Nat.le_of_ble_eq_true rfl) (fun _ _ _ => rfl) ?_
  intro p e s m args below meth c A Q ls C hlocks hin hN hK hP hD hS hA hl ret
  obtain ⟨hx, hb, hml, hown, hts⟩ := C
  have hl : lv_has ls 1 [(0, .ref hQ)] := hl
  refine lv_aload_n hx hb dX0_dares_0 rfl (lv_at hl 0 rfl) ?_
  refine k_goi (S := Unit) (va_runSU (hK.1 6 _ rfl).2 (As := []) (rest := []) ⟨hx, hb, hml, hown, hts⟩ (c_X5_dares_X6 l D cI cZ cS cP hQ pl lo er  _) (va_cwSU 0 hts gX0_dares_X5_dares_s9 rfl rfl rfl (by decide +kernel) ⟨Nat.le_of_ble_eq_true rfl, Nat.le_of_ble_eq_true rfl⟩) (kPreV hN hK hP hD [0] rfl rfl (q0 := 0) (ci := 6) (q := (RX6, TX6, 3)) rfl rfl) rfl rfl hl.1 rfl (lv_room (Nat.le_of_ble_eq_true rfl)) dX0_dares_1 ⟨Nat.le_of_ble_eq_true rfl, Nat.le_of_ble_eq_true rfl⟩) hP hD hS hA [0] rfl [hQ] rfl (fun _ => rfl) 1 [] rfl (fun _u => [(hQ, .inr (6, [.int (nI pl), .int (nI lo), .int (nI er)]))]) (fun _ => rfl) [] [] (fun _ => rfl) rfl (fun _ => rfl) rfl (fun r_1 _u H locs hr_2 hP hD hS => ?_)
  have hP : va_P D vwCl [(hQ, .inr (6, [.int (nI pl), .int (nI lo), .int (nI er)]))] H := hP
  have hD : va_D A [(hQ, .inr (6, [.int (nI pl), .int (nI lo), .int (nI er)]))] := hD
  subst hr_2
  refine lv_iconst (v := (nI 1)) hx hb dX0_dares_4 (by decide) ?_
  refine lv_iadd hx hb dX0_dares_5 ?_
  refine k_eqi (show ((nI lo) + (nI 1)) = (nI (lo + 1)) from nI_add lo 1) ?_
  exact ret _ () _ _ _ _ dX0_dares_6 (rfl) hP hD hS
def rm_X6_dares_X6 : Room := { frames := 2, cells := 0, slots := 0, locals := 40 }
set_option maxHeartbeats 4000000 in
set_option maxRecDepth 100000 in
theorem c_X6_dares_X6 (l : Launch) (D : va_G) (cI cZ cS cP : ClassId) (hQ : Nat) (pl : Nat) (lo : Nat) (er : Nat) : kMi (S := Unit) l yX6_dares wsX6_dares rm_X6_dares_X6 D (kT cI cZ cS cP) [.ref hQ] [(hQ, .inr (6, [.int (nI pl), .int (nI lo), .int (nI er)]))] (fun r _ => r = (nI (2 * (lo + 1)))) (fun _ => [(hQ, .inr (6, [.int (nI pl), .int (nI lo), .int (nI er)]))]) := by
  refine kMet_i (cc := cX6_dares) (maxL := 1) (ty := .int) (by decide) rfl (Nat.le_of_ble_eq_true rfl) (fun _ _ _ => rfl) ?_
  intro p e s m args below meth c A Q ls C hlocks hin hN hK hP hD hS hA hl ret
  obtain ⟨hx, hb, hml, hown, hts⟩ := C
  have hl : lv_has ls 1 [(0, .ref hQ)] := hl
  refine lv_iconst (v := (nI 2)) hx hb dX6_dares_0 (by decide) ?_
  refine lv_aload_n hx hb dX6_dares_1 rfl (lv_at hl 0 rfl) ?_
  refine k_goi (S := Unit) (va_runSU (hK.1 6 _ rfl).2 (As := []) (rest := [.int (nI 2)]) ⟨hx, hb, hml, hown, hts⟩ (c_X0_dares_X6 l D cI cZ cS cP hQ pl lo er  _) (va_cwSU 0 hts gX6_dares_X0_dares_s9 rfl rfl rfl (by decide +kernel) ⟨Nat.le_of_ble_eq_true rfl, Nat.le_of_ble_eq_true rfl⟩) (kPreV hN hK hP hD [0] rfl rfl (q0 := 0) (ci := 6) (q := (RX6, TX6, 3)) rfl rfl) rfl rfl hl.1 rfl (lv_room (Nat.le_of_ble_eq_true rfl)) dX6_dares_2 ⟨Nat.le_of_ble_eq_true rfl, Nat.le_of_ble_eq_true rfl⟩) hP hD hS hA [0] rfl [hQ] rfl (fun _ => rfl) 1 [] rfl (fun _u => [(hQ, .inr (6, [.int (nI pl), .int (nI lo), .int (nI er)]))]) (fun _ => rfl) [] [] (fun _ => rfl) rfl (fun _ => rfl) rfl (fun r_1 _u H locs hr_2 hP hD hS => ?_)
  have hP : va_P D vwCl [(hQ, .inr (6, [.int (nI pl), .int (nI lo), .int (nI er)]))] H := hP
  have hD : va_D A [(hQ, .inr (6, [.int (nI pl), .int (nI lo), .int (nI er)]))] := hD
  subst hr_2
  refine lv_imul hx hb dX6_dares_5 ?_
  refine k_eqi (show ((nI 2) * (nI (lo + 1))) = (nI (2 * (lo + 1))) from pk_mul 2 (lo + 1)) ?_
  exact ret _ () _ _ _ _ dX6_dares_6 (rfl) hP hD hS
def rm_X5_tas_X5 : Room := { frames := 1, cells := 0, slots := 0, locals := 21 }
set_option maxHeartbeats 4000000 in
set_option maxRecDepth 100000 in
theorem c_X5_tas_X5 (l : Launch) (D : va_G) (cI cZ cS cP : ClassId) (hQ : Nat) (pl : Nat) (lo : Nat) (er : Nat) (hX : Nat) (t : Int32) : kMi (S := Unit) l yX5_toldAsSubject wsX5_toldAsSubject rm_X5_tas_X5 D (kT cI cZ cS cP) [.ref hQ, .ref hX] [(hQ, .inr (5, [.int (nI pl), .int (nI lo), .int (nI er)])), (hX, .inr (8, [.int t]))] (fun r _ => r = (nI lo)) (fun _ => [(hQ, .inr (5, [.int (nI pl), .int (nI lo), .int (nI er)])), (hX, .inr (8, [.int ((nI 31) * t + (nI 1))]))]) := by
  refine kMet_i (cc := cX5_toldAsSubject) (maxL := 2) (ty := .int) (by decide) rfl (Nat.le_of_ble_eq_true rfl) (fun _ _ _ => rfl) ?_
  intro p e s m args below meth c A Q ls C hlocks hin hN hK hP hD hS hA hl ret
  obtain ⟨hx, hb, hml, hown, hts⟩ := C
  have hl : lv_has ls 2 [(0, .ref hQ), (1, .ref hX)] := hl
  have in_X5 : ∀ w ∈ wsX50, w ∈ wsX5_toldAsSubject := by decide +kernel
  have lk0 := hts (.fieldLink RX5 15 "SilkWord$Subject" "loses" "I") (by decide +kernel)
  refine lv_aload_n hx hb dX5_toldAsSubject_0 rfl (lv_at hl 1 rfl) ?_
  refine lv_iconst (v := (nI 1)) hx hb dX5_toldAsSubject_1 (by decide) ?_
  refine k_gov (S := Unit) (va_runV (As := [.int (nI 1)]) (rest := []) ⟨hx, hb, hml, hown, hts⟩ (c_X8_leave l D cI cZ cS cP hX 1 t  _) (cwV 1 hts gX5_toldAsSubject_X8_leave rfl rfl rfl (by decide +kernel) ⟨Nat.le_of_ble_eq_true rfl, Nat.le_of_ble_eq_true rfl⟩) (kPreV hN hK hP hD [1] rfl rfl (q0 := 0) (ci := 8) (q := (RX8, TX8, 1)) rfl rfl) rfl rfl hl.1 rfl (lv_room (Nat.le_of_ble_eq_true rfl)) dX5_toldAsSubject_2 ⟨Nat.le_of_ble_eq_true rfl, Nat.le_of_ble_eq_true rfl⟩) hP hD hS hA [1] rfl [hX] rfl (fun _ => rfl) 2 [0] rfl (fun _u => [(hQ, .inr (5, [.int (nI pl), .int (nI lo), .int (nI er)])), (hX, .inr (8, [.int ((nI 31) * t + (nI 1))]))]) (fun _ => rfl) [(hQ, .inr (5, [.int (nI pl), .int (nI lo), .int (nI er)]))] [] (fun _ => rfl) rfl (fun _ => rfl) rfl (fun _u H locs hr_2 hP hD hS => ?_)
  have hP : va_P D vwCl [(hQ, .inr (5, [.int (nI pl), .int (nI lo), .int (nI er)])), (hX, .inr (8, [.int ((nI 31) * t + (nI 1))]))] H := hP
  have hD : va_D A [(hQ, .inr (5, [.int (nI pl), .int (nI lo), .int (nI er)])), (hX, .inr (8, [.int ((nI 31) * t + (nI 1))]))] := hD
  refine lv_aload_n hx hb dX5_toldAsSubject_5 rfl (lv_at hl 0 rfl) ?_
  refine va_get (D := D) (ci := 5) (v := .int (nI lo)) (C := RX5) (T := TX5) (N := 3) hx hb hts in_X5 hown hK hP 0 rfl rfl 1 (by decide) lk0 (fun _ h9 => h9) rfl dX5_toldAsSubject_6 ?_
  exact ret _ () _ _ _ _ dX5_toldAsSubject_9 (rfl) hP hD hS
def rm_X5_tas_X0 : Room := { frames := 1, cells := 0, slots := 0, locals := 21 }
set_option maxHeartbeats 4000000 in
set_option maxRecDepth 100000 in
theorem c_X5_tas_X0 (l : Launch) (D : va_G) (cI cZ cS cP : ClassId) (hQ : Nat) (pl : Nat) (lo : Nat) (er : Nat) (hX : Nat) (t : Int32) : kMi (S := Unit) l yX5_toldAsSubject wsX5_toldAsSubject rm_X5_tas_X0 D (kT cI cZ cS cP) [.ref hQ, .ref hX] [(hQ, .inr (0, [.int (nI pl), .int (nI lo), .int (nI er)])), (hX, .inr (8, [.int t]))] (fun r _ => r = (nI lo)) (fun _ => [(hQ, .inr (0, [.int (nI pl), .int (nI lo), .int (nI er)])), (hX, .inr (8, [.int ((nI 31) * t + (nI 1))]))]) := by
  refine kMet_i (cc := cX5_toldAsSubject) (maxL := 2) (ty := .int) (by decide) rfl (Nat.le_of_ble_eq_true rfl) (fun _ _ _ => rfl) ?_
  intro p e s m args below meth c A Q ls C hlocks hin hN hK hP hD hS hA hl ret
  obtain ⟨hx, hb, hml, hown, hts⟩ := C
  have hl : lv_has ls 2 [(0, .ref hQ), (1, .ref hX)] := hl
  have in_X0 : ∀ w ∈ wsX00, w ∈ wsX5_toldAsSubject := by decide +kernel
  have lk0 := hts (.fieldLink RX5 15 "SilkWord$Subject" "loses" "I") (by decide +kernel)
  refine lv_aload_n hx hb dX5_toldAsSubject_0 rfl (lv_at hl 1 rfl) ?_
  refine lv_iconst (v := (nI 1)) hx hb dX5_toldAsSubject_1 (by decide) ?_
  refine k_gov (S := Unit) (va_runV (As := [.int (nI 1)]) (rest := []) ⟨hx, hb, hml, hown, hts⟩ (c_X8_leave l D cI cZ cS cP hX 1 t  _) (cwV 1 hts gX5_toldAsSubject_X8_leave rfl rfl rfl (by decide +kernel) ⟨Nat.le_of_ble_eq_true rfl, Nat.le_of_ble_eq_true rfl⟩) (kPreV hN hK hP hD [1] rfl rfl (q0 := 0) (ci := 8) (q := (RX8, TX8, 1)) rfl rfl) rfl rfl hl.1 rfl (lv_room (Nat.le_of_ble_eq_true rfl)) dX5_toldAsSubject_2 ⟨Nat.le_of_ble_eq_true rfl, Nat.le_of_ble_eq_true rfl⟩) hP hD hS hA [1] rfl [hX] rfl (fun _ => rfl) 2 [0] rfl (fun _u => [(hQ, .inr (0, [.int (nI pl), .int (nI lo), .int (nI er)])), (hX, .inr (8, [.int ((nI 31) * t + (nI 1))]))]) (fun _ => rfl) [(hQ, .inr (0, [.int (nI pl), .int (nI lo), .int (nI er)]))] [] (fun _ => rfl) rfl (fun _ => rfl) rfl (fun _u H locs hr_2 hP hD hS => ?_)
  have hP : va_P D vwCl [(hQ, .inr (0, [.int (nI pl), .int (nI lo), .int (nI er)])), (hX, .inr (8, [.int ((nI 31) * t + (nI 1))]))] H := hP
  have hD : va_D A [(hQ, .inr (0, [.int (nI pl), .int (nI lo), .int (nI er)])), (hX, .inr (8, [.int ((nI 31) * t + (nI 1))]))] := hD
  refine lv_aload_n hx hb dX5_toldAsSubject_5 rfl (lv_at hl 0 rfl) ?_
  refine va_get (D := D) (ci := 0) (v := .int (nI lo)) (C := RX0) (T := TX0) (N := 3) hx hb hts in_X0 hown hK hP 0 rfl rfl 1 (by decide) lk0 (fun _ h9 => h9) rfl dX5_toldAsSubject_6 ?_
  exact ret _ () _ _ _ _ dX5_toldAsSubject_9 (rfl) hP hD hS
def rm_X5_tas_X6 : Room := { frames := 1, cells := 0, slots := 0, locals := 21 }
set_option maxHeartbeats 4000000 in
set_option maxRecDepth 100000 in
theorem c_X5_tas_X6 (l : Launch) (D : va_G) (cI cZ cS cP : ClassId) (hQ : Nat) (pl : Nat) (lo : Nat) (er : Nat) (hX : Nat) (t : Int32) : kMi (S := Unit) l yX5_toldAsSubject wsX5_toldAsSubject rm_X5_tas_X6 D (kT cI cZ cS cP) [.ref hQ, .ref hX] [(hQ, .inr (6, [.int (nI pl), .int (nI lo), .int (nI er)])), (hX, .inr (8, [.int t]))] (fun r _ => r = (nI lo)) (fun _ => [(hQ, .inr (6, [.int (nI pl), .int (nI lo), .int (nI er)])), (hX, .inr (8, [.int ((nI 31) * t + (nI 1))]))]) := by
  refine kMet_i (cc := cX5_toldAsSubject) (maxL := 2) (ty := .int) (by decide) rfl (Nat.le_of_ble_eq_true rfl) (fun _ _ _ => rfl) ?_
  intro p e s m args below meth c A Q ls C hlocks hin hN hK hP hD hS hA hl ret
  obtain ⟨hx, hb, hml, hown, hts⟩ := C
  have hl : lv_has ls 2 [(0, .ref hQ), (1, .ref hX)] := hl
  have in_X6 : ∀ w ∈ wsX60, w ∈ wsX5_toldAsSubject := by decide +kernel
  have lk0 := hts (.fieldLink RX5 15 "SilkWord$Subject" "loses" "I") (by decide +kernel)
  refine lv_aload_n hx hb dX5_toldAsSubject_0 rfl (lv_at hl 1 rfl) ?_
  refine lv_iconst (v := (nI 1)) hx hb dX5_toldAsSubject_1 (by decide) ?_
  refine k_gov (S := Unit) (va_runV (As := [.int (nI 1)]) (rest := []) ⟨hx, hb, hml, hown, hts⟩ (c_X8_leave l D cI cZ cS cP hX 1 t  _) (cwV 1 hts gX5_toldAsSubject_X8_leave rfl rfl rfl (by decide +kernel) ⟨Nat.le_of_ble_eq_true rfl, Nat.le_of_ble_eq_true rfl⟩) (kPreV hN hK hP hD [1] rfl rfl (q0 := 0) (ci := 8) (q := (RX8, TX8, 1)) rfl rfl) rfl rfl hl.1 rfl (lv_room (Nat.le_of_ble_eq_true rfl)) dX5_toldAsSubject_2 ⟨Nat.le_of_ble_eq_true rfl, Nat.le_of_ble_eq_true rfl⟩) hP hD hS hA [1] rfl [hX] rfl (fun _ => rfl) 2 [0] rfl (fun _u => [(hQ, .inr (6, [.int (nI pl), .int (nI lo), .int (nI er)])), (hX, .inr (8, [.int ((nI 31) * t + (nI 1))]))]) (fun _ => rfl) [(hQ, .inr (6, [.int (nI pl), .int (nI lo), .int (nI er)]))] [] (fun _ => rfl) rfl (fun _ => rfl) rfl (fun _u H locs hr_2 hP hD hS => ?_)
  have hP : va_P D vwCl [(hQ, .inr (6, [.int (nI pl), .int (nI lo), .int (nI er)])), (hX, .inr (8, [.int ((nI 31) * t + (nI 1))]))] H := hP
  have hD : va_D A [(hQ, .inr (6, [.int (nI pl), .int (nI lo), .int (nI er)])), (hX, .inr (8, [.int ((nI 31) * t + (nI 1))]))] := hD
  refine lv_aload_n hx hb dX5_toldAsSubject_5 rfl (lv_at hl 0 rfl) ?_
  refine va_get (D := D) (ci := 6) (v := .int (nI lo)) (C := RX6) (T := TX6) (N := 3) hx hb hts in_X6 hown hK hP 0 rfl rfl 1 (by decide) lk0 (fun _ h9 => h9) rfl dX5_toldAsSubject_6 ?_
  exact ret _ () _ _ _ _ dX5_toldAsSubject_9 (rfl) hP hD hS
def rm_X5_told_X5 : Room := { frames := 2, cells := 0, slots := 0, locals := 42 }
set_option maxHeartbeats 4000000 in
set_option maxRecDepth 100000 in
theorem c_X5_told_X5 (l : Launch) (D : va_G) (cI cZ cS cP : ClassId) (hQ : Nat) (pl : Nat) (lo : Nat) (er : Nat) (hX : Nat) (t : Int32) : kMi (S := Unit) l yX5_told wsX5_told rm_X5_told_X5 D (kT cI cZ cS cP) [.ref hQ, .ref hX] [(hQ, .inr (5, [.int (nI pl), .int (nI lo), .int (nI er)])), (hX, .inr (8, [.int t]))] (fun r _ => r = (nI lo)) (fun _ => [(hQ, .inr (5, [.int (nI pl), .int (nI lo), .int (nI er)])), (hX, .inr (8, [.int ((nI 31) * t + (nI 1))]))]) := by
  refine kMet_i (cc := cX5_told) (maxL := 2) (ty := .int) (by decide) rfl (Nat.le_of_ble_eq_true rfl) (fun _ _ _ => rfl) ?_
  intro p e s m args below meth c A Q ls C hlocks hin hN hK hP hD hS hA hl ret
  obtain ⟨hx, hb, hml, hown, hts⟩ := C
  have hl : lv_has ls 2 [(0, .ref hQ), (1, .ref hX)] := hl
  refine lv_aload_n hx hb dX5_told_0 rfl (lv_at hl 0 rfl) ?_
  refine lv_aload_n hx hb dX5_told_1 rfl (lv_at hl 1 rfl) ?_
  refine k_goi (S := Unit) (va_runV (As := [.ref hX]) (rest := []) ⟨hx, hb, hml, hown, hts⟩ (c_X5_tas_X5 l D cI cZ cS cP hQ pl lo er hX t  _) (cwV 1 hts gX5_told_X5_toldAsSubject rfl rfl rfl (by decide +kernel) ⟨Nat.le_of_ble_eq_true rfl, Nat.le_of_ble_eq_true rfl⟩) (kPreV hN hK hP hD [0, 1] rfl rfl (q0 := 0) (ci := 5) (q := (RX5, TX5, 3)) rfl rfl) rfl rfl hl.1 rfl (lv_room (Nat.le_of_ble_eq_true rfl)) dX5_told_2 ⟨Nat.le_of_ble_eq_true rfl, Nat.le_of_ble_eq_true rfl⟩) hP hD hS hA [0, 1] rfl [hQ, hX] rfl (fun _ => rfl) 2 [] rfl (fun _u => [(hQ, .inr (5, [.int (nI pl), .int (nI lo), .int (nI er)])), (hX, .inr (8, [.int ((nI 31) * t + (nI 1))]))]) (fun _ => rfl) [] [] (fun _ => rfl) rfl (fun _ => rfl) rfl (fun r_1 _u H locs hr_2 hP hD hS => ?_)
  have hP : va_P D vwCl [(hQ, .inr (5, [.int (nI pl), .int (nI lo), .int (nI er)])), (hX, .inr (8, [.int ((nI 31) * t + (nI 1))]))] H := hP
  have hD : va_D A [(hQ, .inr (5, [.int (nI pl), .int (nI lo), .int (nI er)])), (hX, .inr (8, [.int ((nI 31) * t + (nI 1))]))] := hD
  subst hr_2
  exact ret _ () _ _ _ _ dX5_told_5 (rfl) hP hD hS
def rm_X5_told_X0 : Room := { frames := 2, cells := 0, slots := 0, locals := 42 }
set_option maxHeartbeats 4000000 in
set_option maxRecDepth 100000 in
theorem c_X5_told_X0 (l : Launch) (D : va_G) (cI cZ cS cP : ClassId) (hQ : Nat) (pl : Nat) (lo : Nat) (er : Nat) (hX : Nat) (t : Int32) : kMi (S := Unit) l yX5_told wsX5_told rm_X5_told_X0 D (kT cI cZ cS cP) [.ref hQ, .ref hX] [(hQ, .inr (0, [.int (nI pl), .int (nI lo), .int (nI er)])), (hX, .inr (8, [.int t]))] (fun r _ => r = (nI lo)) (fun _ => [(hQ, .inr (0, [.int (nI pl), .int (nI lo), .int (nI er)])), (hX, .inr (8, [.int ((nI 31) * t + (nI 1))]))]) := by
  refine kMet_i (cc := cX5_told) (maxL := 2) (ty := .int) (by decide) rfl (Nat.le_of_ble_eq_true rfl) (fun _ _ _ => rfl) ?_
  intro p e s m args below meth c A Q ls C hlocks hin hN hK hP hD hS hA hl ret
  obtain ⟨hx, hb, hml, hown, hts⟩ := C
  have hl : lv_has ls 2 [(0, .ref hQ), (1, .ref hX)] := hl
  refine lv_aload_n hx hb dX5_told_0 rfl (lv_at hl 0 rfl) ?_
  refine lv_aload_n hx hb dX5_told_1 rfl (lv_at hl 1 rfl) ?_
  refine k_goi (S := Unit) (va_runU (As := [.ref hX]) (rest := []) ⟨hx, hb, hml, hown, hts⟩ (c_X5_tas_X0 l D cI cZ cS cP hQ pl lo er hX t  _) (va_cwU 1 hts gX5_told_X5_toldAsSubject_u21X0 rfl rfl rfl rfl (by decide +kernel) ⟨Nat.le_of_ble_eq_true rfl, Nat.le_of_ble_eq_true rfl⟩) (kPreV hN hK hP hD [0, 1] rfl rfl (q0 := 0) (ci := 0) (q := (RX0, TX0, 3)) rfl rfl) rfl rfl hl.1 rfl (lv_room (Nat.le_of_ble_eq_true rfl)) dX5_told_2 ⟨Nat.le_of_ble_eq_true rfl, Nat.le_of_ble_eq_true rfl⟩) hP hD hS hA [0, 1] rfl [hQ, hX] rfl (fun _ => rfl) 2 [] rfl (fun _u => [(hQ, .inr (0, [.int (nI pl), .int (nI lo), .int (nI er)])), (hX, .inr (8, [.int ((nI 31) * t + (nI 1))]))]) (fun _ => rfl) [] [] (fun _ => rfl) rfl (fun _ => rfl) rfl (fun r_1 _u H locs hr_2 hP hD hS => ?_)
  have hP : va_P D vwCl [(hQ, .inr (0, [.int (nI pl), .int (nI lo), .int (nI er)])), (hX, .inr (8, [.int ((nI 31) * t + (nI 1))]))] H := hP
  have hD : va_D A [(hQ, .inr (0, [.int (nI pl), .int (nI lo), .int (nI er)])), (hX, .inr (8, [.int ((nI 31) * t + (nI 1))]))] := hD
  subst hr_2
  exact ret _ () _ _ _ _ dX5_told_5 (rfl) hP hD hS
def rm_X5_told_X6 : Room := { frames := 2, cells := 0, slots := 0, locals := 42 }
set_option maxHeartbeats 4000000 in
set_option maxRecDepth 100000 in
theorem c_X5_told_X6 (l : Launch) (D : va_G) (cI cZ cS cP : ClassId) (hQ : Nat) (pl : Nat) (lo : Nat) (er : Nat) (hX : Nat) (t : Int32) : kMi (S := Unit) l yX5_told wsX5_told rm_X5_told_X6 D (kT cI cZ cS cP) [.ref hQ, .ref hX] [(hQ, .inr (6, [.int (nI pl), .int (nI lo), .int (nI er)])), (hX, .inr (8, [.int t]))] (fun r _ => r = (nI lo)) (fun _ => [(hQ, .inr (6, [.int (nI pl), .int (nI lo), .int (nI er)])), (hX, .inr (8, [.int ((nI 31) * t + (nI 1))]))]) := by
  refine kMet_i (cc := cX5_told) (maxL := 2) (ty := .int) (by decide) rfl (Nat.le_of_ble_eq_true rfl) (fun _ _ _ => rfl) ?_
  intro p e s m args below meth c A Q ls C hlocks hin hN hK hP hD hS hA hl ret
  obtain ⟨hx, hb, hml, hown, hts⟩ := C
  have hl : lv_has ls 2 [(0, .ref hQ), (1, .ref hX)] := hl
  refine lv_aload_n hx hb dX5_told_0 rfl (lv_at hl 0 rfl) ?_
  refine lv_aload_n hx hb dX5_told_1 rfl (lv_at hl 1 rfl) ?_
  refine k_goi (S := Unit) (va_runU (As := [.ref hX]) (rest := []) ⟨hx, hb, hml, hown, hts⟩ (c_X5_tas_X6 l D cI cZ cS cP hQ pl lo er hX t  _) (va_cwU 1 hts gX5_told_X5_toldAsSubject_u21X6 rfl rfl rfl rfl (by decide +kernel) ⟨Nat.le_of_ble_eq_true rfl, Nat.le_of_ble_eq_true rfl⟩) (kPreV hN hK hP hD [0, 1] rfl rfl (q0 := 0) (ci := 6) (q := (RX6, TX6, 3)) rfl rfl) rfl rfl hl.1 rfl (lv_room (Nat.le_of_ble_eq_true rfl)) dX5_told_2 ⟨Nat.le_of_ble_eq_true rfl, Nat.le_of_ble_eq_true rfl⟩) hP hD hS hA [0, 1] rfl [hQ, hX] rfl (fun _ => rfl) 2 [] rfl (fun _u => [(hQ, .inr (6, [.int (nI pl), .int (nI lo), .int (nI er)])), (hX, .inr (8, [.int ((nI 31) * t + (nI 1))]))]) (fun _ => rfl) [] [] (fun _ => rfl) rfl (fun _ => rfl) rfl (fun r_1 _u H locs hr_2 hP hD hS => ?_)
  have hP : va_P D vwCl [(hQ, .inr (6, [.int (nI pl), .int (nI lo), .int (nI er)])), (hX, .inr (8, [.int ((nI 31) * t + (nI 1))]))] H := hP
  have hD : va_D A [(hQ, .inr (6, [.int (nI pl), .int (nI lo), .int (nI er)])), (hX, .inr (8, [.int ((nI 31) * t + (nI 1))]))] := hD
  subst hr_2
  exact ret _ () _ _ _ _ dX5_told_5 (rfl) hP hD hS
def rm_X0_told_X0 : Room := { frames := 3, cells := 0, slots := 0, locals := 63 }
set_option maxHeartbeats 4000000 in
set_option maxRecDepth 100000 in
theorem c_X0_told_X0 (l : Launch) (D : va_G) (cI cZ cS cP : ClassId) (hQ : Nat) (pl : Nat) (lo : Nat) (er : Nat) (hX : Nat) (t : Int32) : kMi (S := Unit) l yX0_told wsX0_told rm_X0_told_X0 D (kT cI cZ cS cP) [.ref hQ, .ref hX] [(hQ, .inr (0, [.int (nI pl), .int (nI lo), .int (nI er)])), (hX, .inr (8, [.int t]))] (fun r _ => r = (nI (lo + 100))) (fun _ => [(hQ, .inr (0, [.int (nI pl), .int (nI lo), .int (nI er)])), (hX, .inr (8, [.int ((nI 31) * ((nI 31) * t + (nI 2)) + (nI 1))]))]) := by
  refine kMet_i (cc := cX0_told) (maxL := 2) (ty := .int) (by decide) rfl (Nat.le_of_ble_eq_true rfl) (fun _ _ _ => rfl) ?_
  intro p e s m args below meth c A Q ls C hlocks hin hN hK hP hD hS hA hl ret
  obtain ⟨hx, hb, hml, hown, hts⟩ := C
  have hl : lv_has ls 2 [(0, .ref hQ), (1, .ref hX)] := hl
  refine lv_aload_n hx hb dX0_told_0 rfl (lv_at hl 1 rfl) ?_
  refine lv_iconst (v := (nI 2)) hx hb dX0_told_1 (by decide) ?_
  refine k_gov (S := Unit) (va_runV (As := [.int (nI 2)]) (rest := []) ⟨hx, hb, hml, hown, hts⟩ (c_X8_leave l D cI cZ cS cP hX 2 t  _) (cwV 1 hts gX0_told_X8_leave rfl rfl rfl (by decide +kernel) ⟨Nat.le_of_ble_eq_true rfl, Nat.le_of_ble_eq_true rfl⟩) (kPreV hN hK hP hD [1] rfl rfl (q0 := 0) (ci := 8) (q := (RX8, TX8, 1)) rfl rfl) rfl rfl hl.1 rfl (lv_room (Nat.le_of_ble_eq_true rfl)) dX0_told_2 ⟨Nat.le_of_ble_eq_true rfl, Nat.le_of_ble_eq_true rfl⟩) hP hD hS hA [1] rfl [hX] rfl (fun _ => rfl) 2 [0] rfl (fun _u => [(hQ, .inr (0, [.int (nI pl), .int (nI lo), .int (nI er)])), (hX, .inr (8, [.int ((nI 31) * t + (nI 2))]))]) (fun _ => rfl) [(hQ, .inr (0, [.int (nI pl), .int (nI lo), .int (nI er)]))] [] (fun _ => rfl) rfl (fun _ => rfl) rfl (fun _u H locs hr_2 hP hD hS => ?_)
  have hP : va_P D vwCl [(hQ, .inr (0, [.int (nI pl), .int (nI lo), .int (nI er)])), (hX, .inr (8, [.int ((nI 31) * t + (nI 2))]))] H := hP
  have hD : va_D A [(hQ, .inr (0, [.int (nI pl), .int (nI lo), .int (nI er)])), (hX, .inr (8, [.int ((nI 31) * t + (nI 2))]))] := hD
  refine lv_aload_n hx hb dX0_told_5 rfl (lv_at hl 0 rfl) ?_
  refine lv_aload_n hx hb dX0_told_6 rfl (lv_at hl 1 rfl) ?_
  refine k_goi (S := Unit) (va_runSU (hK.1 0 _ rfl).2 (As := [.ref hX]) (rest := []) ⟨hx, hb, hml, hown, hts⟩ (c_X5_told_X0 l D cI cZ cS cP hQ pl lo er hX ((nI 31) * t + (nI 2))  _) (va_cwSU 1 hts gX0_told_X5_told_s19 rfl rfl rfl (by decide +kernel) ⟨Nat.le_of_ble_eq_true rfl, Nat.le_of_ble_eq_true rfl⟩) (kPreV hN hK hP hD [0, 1] rfl rfl (q0 := 0) (ci := 0) (q := (RX0, TX0, 3)) rfl rfl) rfl rfl hl.1 rfl (lv_room (Nat.le_of_ble_eq_true rfl)) dX0_told_7 ⟨Nat.le_of_ble_eq_true rfl, Nat.le_of_ble_eq_true rfl⟩) hP hD hS hA [0, 1] rfl [hQ, hX] rfl (fun _ => rfl) 2 [] rfl (fun _u => [(hQ, .inr (0, [.int (nI pl), .int (nI lo), .int (nI er)])), (hX, .inr (8, [.int ((nI 31) * ((nI 31) * t + (nI 2)) + (nI 1))]))]) (fun _ => rfl) [] [] (fun _ => rfl) rfl (fun _ => rfl) rfl (fun r_3 _u H locs hr_4 hP hD hS => ?_)
  have hP : va_P D vwCl [(hQ, .inr (0, [.int (nI pl), .int (nI lo), .int (nI er)])), (hX, .inr (8, [.int ((nI 31) * ((nI 31) * t + (nI 2)) + (nI 1))]))] H := hP
  have hD : va_D A [(hQ, .inr (0, [.int (nI pl), .int (nI lo), .int (nI er)])), (hX, .inr (8, [.int ((nI 31) * ((nI 31) * t + (nI 2)) + (nI 1))]))] := hD
  subst hr_4
  refine lv_bipush (v := (nI 100)) hx hb dX0_told_10 (by decide) ?_
  refine lv_iadd hx hb dX0_told_12 ?_
  refine k_eqi (show ((nI lo) + (nI 100)) = (nI (lo + 100)) from nI_add lo 100) ?_
  exact ret _ () _ _ _ _ dX0_told_13 (rfl) hP hD hS
def rm_X0_told_X6 : Room := { frames := 3, cells := 0, slots := 0, locals := 63 }
set_option maxHeartbeats 4000000 in
set_option maxRecDepth 100000 in
theorem c_X0_told_X6 (l : Launch) (D : va_G) (cI cZ cS cP : ClassId) (hQ : Nat) (pl : Nat) (lo : Nat) (er : Nat) (hX : Nat) (t : Int32) : kMi (S := Unit) l yX0_told wsX0_told rm_X0_told_X6 D (kT cI cZ cS cP) [.ref hQ, .ref hX] [(hQ, .inr (6, [.int (nI pl), .int (nI lo), .int (nI er)])), (hX, .inr (8, [.int t]))] (fun r _ => r = (nI (lo + 100))) (fun _ => [(hQ, .inr (6, [.int (nI pl), .int (nI lo), .int (nI er)])), (hX, .inr (8, [.int ((nI 31) * ((nI 31) * t + (nI 2)) + (nI 1))]))]) := by
  refine kMet_i (cc := cX0_told) (maxL := 2) (ty := .int) (by decide) rfl (Nat.le_of_ble_eq_true rfl) (fun _ _ _ => rfl) ?_
  intro p e s m args below meth c A Q ls C hlocks hin hN hK hP hD hS hA hl ret
  obtain ⟨hx, hb, hml, hown, hts⟩ := C
  have hl : lv_has ls 2 [(0, .ref hQ), (1, .ref hX)] := hl
  refine lv_aload_n hx hb dX0_told_0 rfl (lv_at hl 1 rfl) ?_
  refine lv_iconst (v := (nI 2)) hx hb dX0_told_1 (by decide) ?_
  refine k_gov (S := Unit) (va_runV (As := [.int (nI 2)]) (rest := []) ⟨hx, hb, hml, hown, hts⟩ (c_X8_leave l D cI cZ cS cP hX 2 t  _) (cwV 1 hts gX0_told_X8_leave rfl rfl rfl (by decide +kernel) ⟨Nat.le_of_ble_eq_true rfl, Nat.le_of_ble_eq_true rfl⟩) (kPreV hN hK hP hD [1] rfl rfl (q0 := 0) (ci := 8) (q := (RX8, TX8, 1)) rfl rfl) rfl rfl hl.1 rfl (lv_room (Nat.le_of_ble_eq_true rfl)) dX0_told_2 ⟨Nat.le_of_ble_eq_true rfl, Nat.le_of_ble_eq_true rfl⟩) hP hD hS hA [1] rfl [hX] rfl (fun _ => rfl) 2 [0] rfl (fun _u => [(hQ, .inr (6, [.int (nI pl), .int (nI lo), .int (nI er)])), (hX, .inr (8, [.int ((nI 31) * t + (nI 2))]))]) (fun _ => rfl) [(hQ, .inr (6, [.int (nI pl), .int (nI lo), .int (nI er)]))] [] (fun _ => rfl) rfl (fun _ => rfl) rfl (fun _u H locs hr_2 hP hD hS => ?_)
  have hP : va_P D vwCl [(hQ, .inr (6, [.int (nI pl), .int (nI lo), .int (nI er)])), (hX, .inr (8, [.int ((nI 31) * t + (nI 2))]))] H := hP
  have hD : va_D A [(hQ, .inr (6, [.int (nI pl), .int (nI lo), .int (nI er)])), (hX, .inr (8, [.int ((nI 31) * t + (nI 2))]))] := hD
  refine lv_aload_n hx hb dX0_told_5 rfl (lv_at hl 0 rfl) ?_
  refine lv_aload_n hx hb dX0_told_6 rfl (lv_at hl 1 rfl) ?_
  refine k_goi (S := Unit) (va_runSU (hK.1 6 _ rfl).2 (As := [.ref hX]) (rest := []) ⟨hx, hb, hml, hown, hts⟩ (c_X5_told_X6 l D cI cZ cS cP hQ pl lo er hX ((nI 31) * t + (nI 2))  _) (va_cwSU 1 hts gX0_told_X5_told_s19 rfl rfl rfl (by decide +kernel) ⟨Nat.le_of_ble_eq_true rfl, Nat.le_of_ble_eq_true rfl⟩) (kPreV hN hK hP hD [0, 1] rfl rfl (q0 := 0) (ci := 6) (q := (RX6, TX6, 3)) rfl rfl) rfl rfl hl.1 rfl (lv_room (Nat.le_of_ble_eq_true rfl)) dX0_told_7 ⟨Nat.le_of_ble_eq_true rfl, Nat.le_of_ble_eq_true rfl⟩) hP hD hS hA [0, 1] rfl [hQ, hX] rfl (fun _ => rfl) 2 [] rfl (fun _u => [(hQ, .inr (6, [.int (nI pl), .int (nI lo), .int (nI er)])), (hX, .inr (8, [.int ((nI 31) * ((nI 31) * t + (nI 2)) + (nI 1))]))]) (fun _ => rfl) [] [] (fun _ => rfl) rfl (fun _ => rfl) rfl (fun r_3 _u H locs hr_4 hP hD hS => ?_)
  have hP : va_P D vwCl [(hQ, .inr (6, [.int (nI pl), .int (nI lo), .int (nI er)])), (hX, .inr (8, [.int ((nI 31) * ((nI 31) * t + (nI 2)) + (nI 1))]))] H := hP
  have hD : va_D A [(hQ, .inr (6, [.int (nI pl), .int (nI lo), .int (nI er)])), (hX, .inr (8, [.int ((nI 31) * ((nI 31) * t + (nI 2)) + (nI 1))]))] := hD
  subst hr_4
  refine lv_bipush (v := (nI 100)) hx hb dX0_told_10 (by decide) ?_
  refine lv_iadd hx hb dX0_told_12 ?_
  refine k_eqi (show ((nI lo) + (nI 100)) = (nI (lo + 100)) from nI_add lo 100) ?_
  exact ret _ () _ _ _ _ dX0_told_13 (rfl) hP hD hS
def rm_X6_told_X6 : Room := { frames := 4, cells := 0, slots := 0, locals := 84 }
set_option maxHeartbeats 4000000 in
set_option maxRecDepth 100000 in
theorem c_X6_told_X6 (l : Launch) (D : va_G) (cI cZ cS cP : ClassId) (hQ : Nat) (pl : Nat) (lo : Nat) (er : Nat) (hX : Nat) (t : Int32) : kMi (S := Unit) l yX6_told wsX6_told rm_X6_told_X6 D (kT cI cZ cS cP) [.ref hQ, .ref hX] [(hQ, .inr (6, [.int (nI pl), .int (nI lo), .int (nI er)])), (hX, .inr (8, [.int t]))] (fun r _ => r = (nI ((lo + 100) + lo))) (fun _ => [(hQ, .inr (6, [.int (nI pl), .int (nI lo), .int (nI er)])), (hX, .inr (8, [.int ((nI 31) * ((nI 31) * ((nI 31) * ((nI 31) * t + (nI 3)) + (nI 2)) + (nI 1)) + (nI 1))]))]) := by
  refine kMet_i (cc := cX6_told) (maxL := 3) (ty := .int) (by decide) rfl (Nat.le_of_ble_eq_true rfl) (fun _ _ _ => rfl) ?_
  intro p e s m args below meth c A Q ls C hlocks hin hN hK hP hD hS hA hl ret
  obtain ⟨hx, hb, hml, hown, hts⟩ := C
  have hl : lv_has ls 3 [(0, .ref hQ), (1, .ref hX)] := hl
  refine lv_aload_n hx hb dX6_told_0 rfl (lv_at hl 1 rfl) ?_
  refine lv_iconst (v := (nI 3)) hx hb dX6_told_1 (by decide) ?_
  refine k_gov (S := Unit) (va_runV (As := [.int (nI 3)]) (rest := []) ⟨hx, hb, hml, hown, hts⟩ (c_X8_leave l D cI cZ cS cP hX 3 t  _) (cwV 1 hts gX6_told_X8_leave rfl rfl rfl (by decide +kernel) ⟨Nat.le_of_ble_eq_true rfl, Nat.le_of_ble_eq_true rfl⟩) (kPreV hN hK hP hD [1] rfl rfl (q0 := 0) (ci := 8) (q := (RX8, TX8, 1)) rfl rfl) rfl rfl hl.1 rfl (lv_room (Nat.le_of_ble_eq_true rfl)) dX6_told_2 ⟨Nat.le_of_ble_eq_true rfl, Nat.le_of_ble_eq_true rfl⟩) hP hD hS hA [1] rfl [hX] rfl (fun _ => rfl) 2 [0] rfl (fun _u => [(hQ, .inr (6, [.int (nI pl), .int (nI lo), .int (nI er)])), (hX, .inr (8, [.int ((nI 31) * t + (nI 3))]))]) (fun _ => rfl) [(hQ, .inr (6, [.int (nI pl), .int (nI lo), .int (nI er)]))] [] (fun _ => rfl) rfl (fun _ => rfl) rfl (fun _u H locs hr_2 hP hD hS => ?_)
  have hP : va_P D vwCl [(hQ, .inr (6, [.int (nI pl), .int (nI lo), .int (nI er)])), (hX, .inr (8, [.int ((nI 31) * t + (nI 3))]))] H := hP
  have hD : va_D A [(hQ, .inr (6, [.int (nI pl), .int (nI lo), .int (nI er)])), (hX, .inr (8, [.int ((nI 31) * t + (nI 3))]))] := hD
  refine lv_aload_n hx hb dX6_told_5 rfl (lv_at hl 0 rfl) ?_
  refine lv_aload_n hx hb dX6_told_6 rfl (lv_at hl 1 rfl) ?_
  refine k_goi (S := Unit) (va_runSU (hK.1 6 _ rfl).2 (As := [.ref hX]) (rest := []) ⟨hx, hb, hml, hown, hts⟩ (c_X0_told_X6 l D cI cZ cS cP hQ pl lo er hX ((nI 31) * t + (nI 3))  _) (va_cwSU 1 hts gX6_told_X0_told_s19 rfl rfl rfl (by decide +kernel) ⟨Nat.le_of_ble_eq_true rfl, Nat.le_of_ble_eq_true rfl⟩) (kPreV hN hK hP hD [0, 1] rfl rfl (q0 := 0) (ci := 6) (q := (RX6, TX6, 3)) rfl rfl) rfl rfl hl.1 rfl (lv_room (Nat.le_of_ble_eq_true rfl)) dX6_told_7 ⟨Nat.le_of_ble_eq_true rfl, Nat.le_of_ble_eq_true rfl⟩) hP hD hS hA [0, 1] rfl [hQ, hX] rfl (fun _ => rfl) 2 [] rfl (fun _u => [(hQ, .inr (6, [.int (nI pl), .int (nI lo), .int (nI er)])), (hX, .inr (8, [.int ((nI 31) * ((nI 31) * ((nI 31) * t + (nI 3)) + (nI 2)) + (nI 1))]))]) (fun _ => rfl) [] [] (fun _ => rfl) rfl (fun _ => rfl) rfl (fun r_3 _u H locs hr_4 hP hD hS => ?_)
  have hP : va_P D vwCl [(hQ, .inr (6, [.int (nI pl), .int (nI lo), .int (nI er)])), (hX, .inr (8, [.int ((nI 31) * ((nI 31) * ((nI 31) * t + (nI 3)) + (nI 2)) + (nI 1))]))] H := hP
  have hD : va_D A [(hQ, .inr (6, [.int (nI pl), .int (nI lo), .int (nI er)])), (hX, .inr (8, [.int ((nI 31) * ((nI 31) * ((nI 31) * t + (nI 3)) + (nI 2)) + (nI 1))]))] := hD
  subst hr_4
  refine lv_istore_n (lv' := [(2, .int (nI (lo + 100))), (0, .ref hQ), (1, .ref hX)]) hx hb dX6_told_10 rfl hl (by decide) rfl (fun ls hl => ?_)
  refine lv_iload_n hx hb dX6_told_11 rfl (lv_at hl 0 rfl) ?_
  refine lv_aload_n hx hb dX6_told_12 rfl (lv_at hl 1 rfl) ?_
  refine lv_aload_n hx hb dX6_told_13 rfl (lv_at hl 2 rfl) ?_
  refine k_goi (S := Unit) (va_runU (As := [.ref hX]) (rest := [.int (nI (lo + 100))]) ⟨hx, hb, hml, hown, hts⟩ (c_X5_tas_X6 l D cI cZ cS cP hQ pl lo er hX ((nI 31) * ((nI 31) * ((nI 31) * t + (nI 3)) + (nI 2)) + (nI 1))  _) (va_cwU 1 hts gX6_told_X5_toldAsSubject_u23X6 rfl rfl rfl rfl (by decide +kernel) ⟨Nat.le_of_ble_eq_true rfl, Nat.le_of_ble_eq_true rfl⟩) (kPreV hN hK hP hD [0, 1] rfl rfl (q0 := 0) (ci := 6) (q := (RX6, TX6, 3)) rfl rfl) rfl rfl hl.1 rfl (lv_room (Nat.le_of_ble_eq_true rfl)) dX6_told_14 ⟨Nat.le_of_ble_eq_true rfl, Nat.le_of_ble_eq_true rfl⟩) hP hD hS hA [0, 1] rfl [hQ, hX] rfl (fun _ => rfl) 2 [] rfl (fun _u => [(hQ, .inr (6, [.int (nI pl), .int (nI lo), .int (nI er)])), (hX, .inr (8, [.int ((nI 31) * ((nI 31) * ((nI 31) * ((nI 31) * t + (nI 3)) + (nI 2)) + (nI 1)) + (nI 1))]))]) (fun _ => rfl) [] [] (fun _ => rfl) rfl (fun _ => rfl) rfl (fun r_5 _u H locs hr_6 hP hD hS => ?_)
  have hP : va_P D vwCl [(hQ, .inr (6, [.int (nI pl), .int (nI lo), .int (nI er)])), (hX, .inr (8, [.int ((nI 31) * ((nI 31) * ((nI 31) * ((nI 31) * t + (nI 3)) + (nI 2)) + (nI 1)) + (nI 1))]))] H := hP
  have hD : va_D A [(hQ, .inr (6, [.int (nI pl), .int (nI lo), .int (nI er)])), (hX, .inr (8, [.int ((nI 31) * ((nI 31) * ((nI 31) * ((nI 31) * t + (nI 3)) + (nI 2)) + (nI 1)) + (nI 1))]))] := hD
  subst hr_6
  refine lv_iadd hx hb dX6_told_17 ?_
  refine k_eqi (show ((nI (lo + 100)) + (nI lo)) = (nI ((lo + 100) + lo)) from nI_add (lo + 100) lo) ?_
  exact ret _ () _ _ _ _ dX6_told_18 (rfl) hP hD hS
def rm_X5_bow_X5 : Room := { frames := 1, cells := 0, slots := 0, locals := 21 }
set_option maxHeartbeats 4000000 in
set_option maxRecDepth 100000 in
theorem c_X5_bow_X5 (l : Launch) (D : va_G) (cI cZ cS cP : ClassId) (hQ : Nat) (pl : Nat) (lo : Nat) (er : Nat) (hX : Nat) (t : Int32) : kMi (S := Unit) l yX5_bowedTo wsX5_bowedTo rm_X5_bow_X5 D (kT cI cZ cS cP) [.ref hQ, .ref hX] [(hQ, .inr (5, [.int (nI pl), .int (nI lo), .int (nI er)])), (hX, .inr (8, [.int t]))] (fun r _ => r = (nI pl)) (fun _ => [(hQ, .inr (5, [.int (nI pl), .int (nI lo), .int (nI er)])), (hX, .inr (8, [.int ((nI 31) * t + (nI 4))]))]) := by
  refine kMet_i (cc := cX5_bowedTo) (maxL := 2) (ty := .int) (by decide) rfl (Nat.le_of_ble_eq_true rfl) (fun _ _ _ => rfl) ?_
  intro p e s m args below meth c A Q ls C hlocks hin hN hK hP hD hS hA hl ret
  obtain ⟨hx, hb, hml, hown, hts⟩ := C
  have hl : lv_has ls 2 [(0, .ref hQ), (1, .ref hX)] := hl
  have in_X5 : ∀ w ∈ wsX50, w ∈ wsX5_bowedTo := by decide +kernel
  have lk0 := hts (.fieldLink RX5 9 "SilkWord$Subject" "place" "I") (by decide +kernel)
  refine lv_aload_n hx hb dX5_bowedTo_0 rfl (lv_at hl 1 rfl) ?_
  refine lv_iconst (v := (nI 4)) hx hb dX5_bowedTo_1 (by decide) ?_
  refine k_gov (S := Unit) (va_runV (As := [.int (nI 4)]) (rest := []) ⟨hx, hb, hml, hown, hts⟩ (c_X8_leave l D cI cZ cS cP hX 4 t  _) (cwV 1 hts gX5_bowedTo_X8_leave rfl rfl rfl (by decide +kernel) ⟨Nat.le_of_ble_eq_true rfl, Nat.le_of_ble_eq_true rfl⟩) (kPreV hN hK hP hD [1] rfl rfl (q0 := 0) (ci := 8) (q := (RX8, TX8, 1)) rfl rfl) rfl rfl hl.1 rfl (lv_room (Nat.le_of_ble_eq_true rfl)) dX5_bowedTo_2 ⟨Nat.le_of_ble_eq_true rfl, Nat.le_of_ble_eq_true rfl⟩) hP hD hS hA [1] rfl [hX] rfl (fun _ => rfl) 2 [0] rfl (fun _u => [(hQ, .inr (5, [.int (nI pl), .int (nI lo), .int (nI er)])), (hX, .inr (8, [.int ((nI 31) * t + (nI 4))]))]) (fun _ => rfl) [(hQ, .inr (5, [.int (nI pl), .int (nI lo), .int (nI er)]))] [] (fun _ => rfl) rfl (fun _ => rfl) rfl (fun _u H locs hr_2 hP hD hS => ?_)
  have hP : va_P D vwCl [(hQ, .inr (5, [.int (nI pl), .int (nI lo), .int (nI er)])), (hX, .inr (8, [.int ((nI 31) * t + (nI 4))]))] H := hP
  have hD : va_D A [(hQ, .inr (5, [.int (nI pl), .int (nI lo), .int (nI er)])), (hX, .inr (8, [.int ((nI 31) * t + (nI 4))]))] := hD
  refine lv_aload_n hx hb dX5_bowedTo_5 rfl (lv_at hl 0 rfl) ?_
  refine va_get (D := D) (ci := 5) (v := .int (nI pl)) (C := RX5) (T := TX5) (N := 3) hx hb hts in_X5 hown hK hP 0 rfl rfl 0 (by decide) lk0 (fun _ h9 => h9) rfl dX5_bowedTo_6 ?_
  exact ret _ () _ _ _ _ dX5_bowedTo_9 (rfl) hP hD hS
def rm_X5_bow_X0 : Room := { frames := 1, cells := 0, slots := 0, locals := 21 }
set_option maxHeartbeats 4000000 in
set_option maxRecDepth 100000 in
theorem c_X5_bow_X0 (l : Launch) (D : va_G) (cI cZ cS cP : ClassId) (hQ : Nat) (pl : Nat) (lo : Nat) (er : Nat) (hX : Nat) (t : Int32) : kMi (S := Unit) l yX5_bowedTo wsX5_bowedTo rm_X5_bow_X0 D (kT cI cZ cS cP) [.ref hQ, .ref hX] [(hQ, .inr (0, [.int (nI pl), .int (nI lo), .int (nI er)])), (hX, .inr (8, [.int t]))] (fun r _ => r = (nI pl)) (fun _ => [(hQ, .inr (0, [.int (nI pl), .int (nI lo), .int (nI er)])), (hX, .inr (8, [.int ((nI 31) * t + (nI 4))]))]) := by
  refine kMet_i (cc := cX5_bowedTo) (maxL := 2) (ty := .int) (by decide) rfl (Nat.le_of_ble_eq_true rfl) (fun _ _ _ => rfl) ?_
  intro p e s m args below meth c A Q ls C hlocks hin hN hK hP hD hS hA hl ret
  obtain ⟨hx, hb, hml, hown, hts⟩ := C
  have hl : lv_has ls 2 [(0, .ref hQ), (1, .ref hX)] := hl
  have in_X0 : ∀ w ∈ wsX00, w ∈ wsX5_bowedTo := by decide +kernel
  have lk0 := hts (.fieldLink RX5 9 "SilkWord$Subject" "place" "I") (by decide +kernel)
  refine lv_aload_n hx hb dX5_bowedTo_0 rfl (lv_at hl 1 rfl) ?_
  refine lv_iconst (v := (nI 4)) hx hb dX5_bowedTo_1 (by decide) ?_
  refine k_gov (S := Unit) (va_runV (As := [.int (nI 4)]) (rest := []) ⟨hx, hb, hml, hown, hts⟩ (c_X8_leave l D cI cZ cS cP hX 4 t  _) (cwV 1 hts gX5_bowedTo_X8_leave rfl rfl rfl (by decide +kernel) ⟨Nat.le_of_ble_eq_true rfl, Nat.le_of_ble_eq_true rfl⟩) (kPreV hN hK hP hD [1] rfl rfl (q0 := 0) (ci := 8) (q := (RX8, TX8, 1)) rfl rfl) rfl rfl hl.1 rfl (lv_room (Nat.le_of_ble_eq_true rfl)) dX5_bowedTo_2 ⟨Nat.le_of_ble_eq_true rfl, Nat.le_of_ble_eq_true rfl⟩) hP hD hS hA [1] rfl [hX] rfl (fun _ => rfl) 2 [0] rfl (fun _u => [(hQ, .inr (0, [.int (nI pl), .int (nI lo), .int (nI er)])), (hX, .inr (8, [.int ((nI 31) * t + (nI 4))]))]) (fun _ => rfl) [(hQ, .inr (0, [.int (nI pl), .int (nI lo), .int (nI er)]))] [] (fun _ => rfl) rfl (fun _ => rfl) rfl (fun _u H locs hr_2 hP hD hS => ?_)
  have hP : va_P D vwCl [(hQ, .inr (0, [.int (nI pl), .int (nI lo), .int (nI er)])), (hX, .inr (8, [.int ((nI 31) * t + (nI 4))]))] H := hP
  have hD : va_D A [(hQ, .inr (0, [.int (nI pl), .int (nI lo), .int (nI er)])), (hX, .inr (8, [.int ((nI 31) * t + (nI 4))]))] := hD
  refine lv_aload_n hx hb dX5_bowedTo_5 rfl (lv_at hl 0 rfl) ?_
  refine va_get (D := D) (ci := 0) (v := .int (nI pl)) (C := RX0) (T := TX0) (N := 3) hx hb hts in_X0 hown hK hP 0 rfl rfl 0 (by decide) lk0 (fun _ h9 => h9) rfl dX5_bowedTo_6 ?_
  exact ret _ () _ _ _ _ dX5_bowedTo_9 (rfl) hP hD hS
def rm_X6_bow_X6 : Room := { frames := 1, cells := 0, slots := 0, locals := 21 }
set_option maxHeartbeats 4000000 in
set_option maxRecDepth 100000 in
theorem c_X6_bow_X6 (l : Launch) (D : va_G) (cI cZ cS cP : ClassId) (hQ : Nat) (pl : Nat) (lo : Nat) (er : Nat) (hX : Nat) (t : Int32) : kMi (S := Unit) l yX6_bowedTo wsX6_bowedTo rm_X6_bow_X6 D (kT cI cZ cS cP) [.ref hQ, .ref hX] [(hQ, .inr (6, [.int (nI pl), .int (nI lo), .int (nI er)])), (hX, .inr (8, [.int t]))] (fun r _ => r = (nI 90)) (fun _ => [(hQ, .inr (6, [.int (nI pl), .int (nI lo), .int (nI er)])), (hX, .inr (8, [.int ((nI 31) * t + (nI 5))]))]) := by
  refine kMet_i (cc := cX6_bowedTo) (maxL := 2) (ty := .int) (by decide) rfl (Nat.le_of_ble_eq_true rfl) (fun _ _ _ => rfl) ?_
  intro p e s m args below meth c A Q ls C hlocks hin hN hK hP hD hS hA hl ret
  obtain ⟨hx, hb, hml, hown, hts⟩ := C
  have hl : lv_has ls 2 [(0, .ref hQ), (1, .ref hX)] := hl
  refine lv_aload_n hx hb dX6_bowedTo_0 rfl (lv_at hl 1 rfl) ?_
  refine lv_iconst (v := (nI 5)) hx hb dX6_bowedTo_1 (by decide) ?_
  refine k_gov (S := Unit) (va_runV (As := [.int (nI 5)]) (rest := []) ⟨hx, hb, hml, hown, hts⟩ (c_X8_leave l D cI cZ cS cP hX 5 t  _) (cwV 1 hts gX6_bowedTo_X8_leave rfl rfl rfl (by decide +kernel) ⟨Nat.le_of_ble_eq_true rfl, Nat.le_of_ble_eq_true rfl⟩) (kPreV hN hK hP hD [1] rfl rfl (q0 := 0) (ci := 8) (q := (RX8, TX8, 1)) rfl rfl) rfl rfl hl.1 rfl (lv_room (Nat.le_of_ble_eq_true rfl)) dX6_bowedTo_2 ⟨Nat.le_of_ble_eq_true rfl, Nat.le_of_ble_eq_true rfl⟩) hP hD hS hA [1] rfl [hX] rfl (fun _ => rfl) 2 [0] rfl (fun _u => [(hQ, .inr (6, [.int (nI pl), .int (nI lo), .int (nI er)])), (hX, .inr (8, [.int ((nI 31) * t + (nI 5))]))]) (fun _ => rfl) [(hQ, .inr (6, [.int (nI pl), .int (nI lo), .int (nI er)]))] [] (fun _ => rfl) rfl (fun _ => rfl) rfl (fun _u H locs hr_2 hP hD hS => ?_)
  have hP : va_P D vwCl [(hQ, .inr (6, [.int (nI pl), .int (nI lo), .int (nI er)])), (hX, .inr (8, [.int ((nI 31) * t + (nI 5))]))] H := hP
  have hD : va_D A [(hQ, .inr (6, [.int (nI pl), .int (nI lo), .int (nI er)])), (hX, .inr (8, [.int ((nI 31) * t + (nI 5))]))] := hD
  refine lv_bipush (v := (nI 90)) hx hb dX6_bowedTo_5 (by decide) ?_
  exact ret _ () _ _ _ _ dX6_bowedTo_7 (rfl) hP hD hS
def rm_X4_born_X6 : Room := { frames := 4, cells := 1, slots := 3, locals := 89 }
set_option maxHeartbeats 4000000 in
set_option maxRecDepth 100000 in
theorem c_X4_born_X6 (l : Launch) (D : va_G) (cI cZ cS cP : ClassId) (a : Nat) (b : Nat) (d : Nat) : kMr (S := Unit) l yX4_born wsX4_born rm_X4_born_X6 D (kT cI cZ cS cP) [.int (nI 116), .int (nI a), .int (nI b), .int (nI d)] [] (fun _ => True) (fun _ ra => [(ra, .inr (6, [.int (nI a), .int (nI b), .int (nI d)]))]) := by
  refine kMet_r (cc := cX4_born) (maxL := 4) (Or.inl ⟨_, rfl⟩) (by decide) rfl (Nat.le_of_ble_eq_true rfl) ?_
  intro p e s m args below meth c A Q ls C hlocks hin hN hK hP hD hS hA hl ret
  obtain ⟨hx, hb, hml, hown, hts⟩ := C
  have hl : lv_has ls 4 [(0, .int (nI 116)), (1, .int (nI a)), (2, .int (nI b)), (3, .int (nI d))] := hl
  have in_X6 : ∀ w ∈ wsX60, w ∈ wsX4_born := by decide +kernel
  have lk0 := hts (.classLink RX4 58 RX6) (by decide +kernel)
  have lk1 := hts (.instantiable RX6 3) (by decide +kernel)
  have lk2 := hts (.initialized RX6) (by decide +kernel)
  have lk3 := hts (.methodLink RX4 60 yX6_init) (by decide +kernel)
  have lk4 := hts (.instanceMethod yX6_init) (by decide +kernel)
  refine lv_iload_n hx hb dX4_born_0 rfl (lv_at hl 0 rfl) ?_
  refine lv_bipush (v := (nI 116)) hx hb dX4_born_1 (by decide) ?_
  refine k_icmp_ne (tgt := 17) hx hb dX4_born_3 (by decide) (show 116 < 2 ^ 31 by first | omega | (split <;> omega)) (show 116 < 2 ^ 31 by first | omega | (split <;> omega)) (fun q9 => absurd q9 (by decide)) (fun _ => ?_)
  refine va_new (ci := 6) (fs := [.int (nI 0), .int (nI 0), .int (nI 0)]) (C := RX6) (T := TX6) (N := 3) hx hb hts in_X6 tyX6 tyX6_ok hown lk0 lk1 lk2 hK hP hD hS hA rfl (fun j hj => by rcases (show j = 0 ∨ j = 1 ∨ j = 2 by omega) with rfl | rfl | rfl <;> rfl) (show 0 + 1 ≤ 1 by decide) (show 0 + 3 ≤ 3 by decide) dX4_born_6 (fun q_1 H hP hD hS => ?_)
  have hP : va_P D vwCl [(q_1, .inr (6, [.int (nI 0), .int (nI 0), .int (nI 0)]))] H := hP
  have hD : va_D A [(q_1, .inr (6, [.int (nI 0), .int (nI 0), .int (nI 0)]))] := hD
  refine lv_dup hx hb dX4_born_9 rfl ?_
  refine lv_iload_n hx hb dX4_born_10 rfl (lv_at hl 1 rfl) ?_
  refine lv_iload_n hx hb dX4_born_11 rfl (lv_at hl 2 rfl) ?_
  refine lv_iload_n hx hb dX4_born_12 rfl (lv_at hl 3 rfl) ?_
  refine k_gov (S := Unit) (va_runI (As := [.int (nI a), .int (nI b), .int (nI d)]) (rest := [.ref q_1]) ⟨hx, hb, hml, hown, hts⟩ (c_X6_init_X6 l D cI cZ cS cP q_1 0 0 0 a b d  _) (cwI 3 hts gX4_born_X6_init rfl rfl rfl lk2 lk3 lk4 rfl (by decide +kernel) ⟨Nat.le_of_ble_eq_true rfl, Nat.le_of_ble_eq_true rfl⟩) (kPreS hN hK hP hD [0] rfl rfl) rfl rfl hl.1 rfl (lv_room (Nat.le_of_ble_eq_true rfl)) dX4_born_13 ⟨Nat.le_of_ble_eq_true rfl, Nat.le_of_ble_eq_true rfl⟩) hP hD hS hA [0] rfl [q_1] rfl (fun _ => rfl) 1 [] rfl (fun _u => [(q_1, .inr (6, [.int (nI a), .int (nI b), .int (nI d)]))]) (fun _ => rfl) [] [] (fun _ => rfl) rfl (fun _ => rfl) rfl (fun _u H locs hr_3 hP hD hS => ?_)
  have hP : va_P D vwCl [(q_1, .inr (6, [.int (nI a), .int (nI b), .int (nI d)]))] H := hP
  have hD : va_D A [(q_1, .inr (6, [.int (nI a), .int (nI b), .int (nI d)]))] := hD
  exact ret () q_1 _ _ _ _ dX4_born_16 trivial hP hD hS
def rm_X4_born_X0 : Room := { frames := 4, cells := 1, slots := 3, locals := 89 }
set_option maxHeartbeats 4000000 in
set_option maxRecDepth 100000 in
theorem c_X4_born_X0 (l : Launch) (D : va_G) (cI cZ cS cP : ClassId) (a : Nat) (b : Nat) (d : Nat) : kMr (S := Unit) l yX4_born wsX4_born rm_X4_born_X0 D (kT cI cZ cS cP) [.int (nI 99), .int (nI a), .int (nI b), .int (nI d)] [] (fun _ => True) (fun _ ra => [(ra, .inr (0, [.int (nI a), .int (nI b), .int (nI d)]))]) := by
  refine kMet_r (cc := cX4_born) (maxL := 4) (Or.inl ⟨_, rfl⟩) (by decide) rfl (Nat.le_of_ble_eq_true rfl) ?_
  intro p e s m args below meth c A Q ls C hlocks hin hN hK hP hD hS hA hl ret
  obtain ⟨hx, hb, hml, hown, hts⟩ := C
  have hl : lv_has ls 4 [(0, .int (nI 99)), (1, .int (nI a)), (2, .int (nI b)), (3, .int (nI d))] := hl
  have in_X0 : ∀ w ∈ wsX00, w ∈ wsX4_born := by decide +kernel
  have lk0 := hts (.classLink RX4 63 RX0) (by decide +kernel)
  have lk1 := hts (.instantiable RX0 3) (by decide +kernel)
  have lk2 := hts (.initialized RX0) (by decide +kernel)
  have lk3 := hts (.methodLink RX4 65 yX0_init) (by decide +kernel)
  have lk4 := hts (.instanceMethod yX0_init) (by decide +kernel)
  refine lv_iload_n hx hb dX4_born_0 rfl (lv_at hl 0 rfl) ?_
  refine lv_bipush (v := (nI 116)) hx hb dX4_born_1 (by decide) ?_
  refine k_icmp_ne (tgt := 17) hx hb dX4_born_3 (by decide) (show 99 < 2 ^ 31 by first | omega | (split <;> omega)) (show 116 < 2 ^ 31 by first | omega | (split <;> omega)) (fun _ => ?_) (fun q9 => absurd q9 (by decide))
  refine lv_iload_n hx hb dX4_born_17 rfl (lv_at hl 0 rfl) ?_
  refine lv_bipush (v := (nI 99)) hx hb dX4_born_18 (by decide) ?_
  refine k_icmp_ne (tgt := 36) hx hb dX4_born_20 (by decide) (show 99 < 2 ^ 31 by first | omega | (split <;> omega)) (show 99 < 2 ^ 31 by first | omega | (split <;> omega)) (fun q9 => absurd q9 (by decide)) (fun _ => ?_)
  refine va_new (ci := 0) (fs := [.int (nI 0), .int (nI 0), .int (nI 0)]) (C := RX0) (T := TX0) (N := 3) hx hb hts in_X0 tyX0 tyX0_ok hown lk0 lk1 lk2 hK hP hD hS hA rfl (fun j hj => by rcases (show j = 0 ∨ j = 1 ∨ j = 2 by omega) with rfl | rfl | rfl <;> rfl) (show 0 + 1 ≤ 1 by decide) (show 0 + 3 ≤ 3 by decide) dX4_born_23 (fun q_1 H hP hD hS => ?_)
  have hP : va_P D vwCl [(q_1, .inr (0, [.int (nI 0), .int (nI 0), .int (nI 0)]))] H := hP
  have hD : va_D A [(q_1, .inr (0, [.int (nI 0), .int (nI 0), .int (nI 0)]))] := hD
  refine lv_dup hx hb dX4_born_26 rfl ?_
  refine lv_iload_n hx hb dX4_born_27 rfl (lv_at hl 1 rfl) ?_
  refine lv_iload_n hx hb dX4_born_28 rfl (lv_at hl 2 rfl) ?_
  refine lv_iload_n hx hb dX4_born_29 rfl (lv_at hl 3 rfl) ?_
  refine k_gov (S := Unit) (va_runI (As := [.int (nI a), .int (nI b), .int (nI d)]) (rest := [.ref q_1]) ⟨hx, hb, hml, hown, hts⟩ (c_X0_init_X0 l D cI cZ cS cP q_1 0 0 0 a b d  _) (cwI 3 hts gX4_born_X0_init rfl rfl rfl lk2 lk3 lk4 rfl (by decide +kernel) ⟨Nat.le_of_ble_eq_true rfl, Nat.le_of_ble_eq_true rfl⟩) (kPreS hN hK hP hD [0] rfl rfl) rfl rfl hl.1 rfl (lv_room (Nat.le_of_ble_eq_true rfl)) dX4_born_30 ⟨Nat.le_of_ble_eq_true rfl, Nat.le_of_ble_eq_true rfl⟩) hP hD hS hA [0] rfl [q_1] rfl (fun _ => rfl) 1 [] rfl (fun _u => [(q_1, .inr (0, [.int (nI a), .int (nI b), .int (nI d)]))]) (fun _ => rfl) [] [] (fun _ => rfl) rfl (fun _ => rfl) rfl (fun _u H locs hr_3 hP hD hS => ?_)
  have hP : va_P D vwCl [(q_1, .inr (0, [.int (nI a), .int (nI b), .int (nI d)]))] H := hP
  have hD : va_D A [(q_1, .inr (0, [.int (nI a), .int (nI b), .int (nI d)]))] := hD
  refine lv_goto (tgt := 46) hx hb dX4_born_33 (by decide) ?_
  exact ret () q_1 _ _ _ _ dX4_born_46 trivial hP hD hS
def rm_X4_born_X5 : Room := { frames := 4, cells := 1, slots := 3, locals := 89 }
set_option maxHeartbeats 4000000 in
set_option maxRecDepth 100000 in
theorem c_X4_born_X5 (l : Launch) (D : va_G) (cI cZ cS cP : ClassId) (a : Nat) (b : Nat) (d : Nat) : kMr (S := Unit) l yX4_born wsX4_born rm_X4_born_X5 D (kT cI cZ cS cP) [.int (nI 115), .int (nI a), .int (nI b), .int (nI d)] [] (fun _ => True) (fun _ ra => [(ra, .inr (5, [.int (nI a), .int (nI b), .int (nI d)]))]) := by
  refine kMet_r (cc := cX4_born) (maxL := 4) (Or.inl ⟨_, rfl⟩) (by decide) rfl (Nat.le_of_ble_eq_true rfl) ?_
  intro p e s m args below meth c A Q ls C hlocks hin hN hK hP hD hS hA hl ret
  obtain ⟨hx, hb, hml, hown, hts⟩ := C
  have hl : lv_has ls 4 [(0, .int (nI 115)), (1, .int (nI a)), (2, .int (nI b)), (3, .int (nI d))] := hl
  have in_X5 : ∀ w ∈ wsX50, w ∈ wsX4_born := by decide +kernel
  have lk0 := hts (.classLink RX4 9 RX5) (by decide +kernel)
  have lk1 := hts (.instantiable RX5 3) (by decide +kernel)
  have lk2 := hts (.initialized RX5) (by decide +kernel)
  have lk3 := hts (.methodLink RX4 66 yX5_init) (by decide +kernel)
  have lk4 := hts (.instanceMethod yX5_init) (by decide +kernel)
  refine lv_iload_n hx hb dX4_born_0 rfl (lv_at hl 0 rfl) ?_
  refine lv_bipush (v := (nI 116)) hx hb dX4_born_1 (by decide) ?_
  refine k_icmp_ne (tgt := 17) hx hb dX4_born_3 (by decide) (show 115 < 2 ^ 31 by first | omega | (split <;> omega)) (show 116 < 2 ^ 31 by first | omega | (split <;> omega)) (fun _ => ?_) (fun q9 => absurd q9 (by decide))
  refine lv_iload_n hx hb dX4_born_17 rfl (lv_at hl 0 rfl) ?_
  refine lv_bipush (v := (nI 99)) hx hb dX4_born_18 (by decide) ?_
  refine k_icmp_ne (tgt := 36) hx hb dX4_born_20 (by decide) (show 115 < 2 ^ 31 by first | omega | (split <;> omega)) (show 99 < 2 ^ 31 by first | omega | (split <;> omega)) (fun _ => ?_) (fun q9 => absurd q9 (by decide))
  refine va_new (ci := 5) (fs := [.int (nI 0), .int (nI 0), .int (nI 0)]) (C := RX5) (T := TX5) (N := 3) hx hb hts in_X5 tyX5 tyX5_ok hown lk0 lk1 lk2 hK hP hD hS hA rfl (fun j hj => by rcases (show j = 0 ∨ j = 1 ∨ j = 2 by omega) with rfl | rfl | rfl <;> rfl) (show 0 + 1 ≤ 1 by decide) (show 0 + 3 ≤ 3 by decide) dX4_born_36 (fun q_1 H hP hD hS => ?_)
  have hP : va_P D vwCl [(q_1, .inr (5, [.int (nI 0), .int (nI 0), .int (nI 0)]))] H := hP
  have hD : va_D A [(q_1, .inr (5, [.int (nI 0), .int (nI 0), .int (nI 0)]))] := hD
  refine lv_dup hx hb dX4_born_39 rfl ?_
  refine lv_iload_n hx hb dX4_born_40 rfl (lv_at hl 1 rfl) ?_
  refine lv_iload_n hx hb dX4_born_41 rfl (lv_at hl 2 rfl) ?_
  refine lv_iload_n hx hb dX4_born_42 rfl (lv_at hl 3 rfl) ?_
  refine k_gov (S := Unit) (va_runI (As := [.int (nI a), .int (nI b), .int (nI d)]) (rest := [.ref q_1]) ⟨hx, hb, hml, hown, hts⟩ (c_X5_init_X5 l D cI cZ cS cP q_1 0 0 0 a b d  _) (cwI 3 hts gX4_born_X5_init rfl rfl rfl lk2 lk3 lk4 rfl (by decide +kernel) ⟨Nat.le_of_ble_eq_true rfl, Nat.le_of_ble_eq_true rfl⟩) (kPreS hN hK hP hD [0] rfl rfl) rfl rfl hl.1 rfl (lv_room (Nat.le_of_ble_eq_true rfl)) dX4_born_43 ⟨Nat.le_of_ble_eq_true rfl, Nat.le_of_ble_eq_true rfl⟩) hP hD hS hA [0] rfl [q_1] rfl (fun _ => rfl) 1 [] rfl (fun _u => [(q_1, .inr (5, [.int (nI a), .int (nI b), .int (nI d)]))]) (fun _ => rfl) [] [] (fun _ => rfl) rfl (fun _ => rfl) rfl (fun _u H locs hr_3 hP hD hS => ?_)
  have hP : va_P D vwCl [(q_1, .inr (5, [.int (nI a), .int (nI b), .int (nI d)]))] H := hP
  have hD : va_D A [(q_1, .inr (5, [.int (nI a), .int (nI b), .int (nI d)]))] := hD
  exact ret () q_1 _ _ _ _ dX4_born_46 trivial hP hD hS
