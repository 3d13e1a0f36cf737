theorem t64n {k : Nat} (h : k < 2 ^ 31) : (nI k).toInt64 = lN k := by
  apply Int64.toInt_inj.mp
  rw [t64, lN_toInt h, nI_toInt h]
def rm_X11_trace_k : Room := { frames := 0, cells := 0, slots := 0, locals := 0 }
set_option maxHeartbeats 4000000 in
set_option maxRecDepth 100000 in
theorem c_X11_trace_k (l : Launch) (D : va_G) (cI cZ cS cP : ClassId) (hM : Nat) (m1 : Nat) (m2 : Nat) (m3 : Nat) (m4 : Nat) (m5 : Nat) (m6 : Nat) (m7 : Nat) (m8 : Nat) (m9 : Nat) (m10 : Nat) (m11 : Nat) (m12 : Nat) (m13 : Nat) (m14 : Nat) (m15 : Nat) (m16 : Nat) (m17 : Nat) (m18 : Nat) (mf : Nat) (mn : Nat) (mb : Nat) (ra : Nat) (rn : Nat) (mw : Nat) (mh : Nat) (mm : Nat) (mr : Nat) (mt : Int32) : kMi (S := Unit) l yX11_trace wsX11_trace rm_X11_trace_k D (kT cI cZ cS cP) [.ref hM] [(hM, .inr (11, [.int (nI mf), .int (nI mn), .ref m1, .ref m2, .ref m3, .int (nI mb), .int (nI ra), .int (nI rn), .ref m4, .ref m5, .ref m6, .int (nI mw), .ref m7, .ref m8, .int (nI mh), .ref m9, .ref m10, .int (nI mm), .ref m11, .int (nI mr), .ref m12, .ref m13, .ref m14, .ref m15, .ref m16, .ref m17, .ref m18, .int mt]))] (fun r _ => r = mt) (fun _ => [(hM, .inr (11, [.int (nI mf), .int (nI mn), .ref m1, .ref m2, .ref m3, .int (nI mb), .int (nI ra), .int (nI rn), .ref m4, .ref m5, .ref m6, .int (nI mw), .ref m7, .ref m8, .int (nI mh), .ref m9, .ref m10, .int (nI mm), .ref m11, .int (nI mr), .ref m12, .ref m13, .ref m14, .ref m15, .ref m16, .ref m17, .ref m18, .int mt]))]) := by
  refine kMet_i (cc := cX11_trace) (maxL := 1) (ty := .int) (by decide) rfl (Nat.le_of_ble_eq_true rfl) (fun _ _ _ => rfl) ?_
  intro p e s m args below meth c A Q ls C hlocks hin hN hK hP hD hS hA hl ret
  obtain ⟨hx, hb, hml, hown, hts⟩ := C
  have hl : lv_has ls 1 [(0, .ref hM)] := hl
  have in_X11 : ∀ w ∈ wsX110, w ∈ wsX11_trace := by decide +kernel
  have lk0 := hts (.fieldLink RX11 208 "SilkWordModel" "traceNow" "I") (by decide +kernel)
  refine lv_aload_n hx hb dX11_trace_0 rfl (lv_at hl 0 rfl) ?_
  refine va_get (D := D) (ci := 11) (v := .int mt) (C := RX11) (T := TX11) (N := 28) hx hb hts in_X11 hown hK hP 0 rfl rfl 27 (by decide) lk0 (fun _ h9 => h9) rfl dX11_trace_1 ?_
  exact ret _ () _ _ _ _ dX11_trace_4 (rfl) hP hD hS
def rm_X11_fault_k : Room := { frames := 0, cells := 0, slots := 0, locals := 0 }
set_option maxHeartbeats 4000000 in
set_option maxRecDepth 100000 in
theorem c_X11_fault_k (l : Launch) (D : va_G) (cI cZ cS cP : ClassId) (hM : Nat) (m1 : Nat) (m2 : Nat) (m3 : Nat) (m4 : Nat) (m5 : Nat) (m6 : Nat) (m7 : Nat) (m8 : Nat) (m9 : Nat) (m10 : Nat) (m11 : Nat) (m12 : Nat) (m13 : Nat) (m14 : Nat) (m15 : Nat) (m16 : Nat) (m17 : Nat) (m18 : Nat) (mf : Nat) (mn : Nat) (mb : Nat) (ra : Nat) (rn : Nat) (mw : Nat) (mh : Nat) (mm : Nat) (mr : Nat) (mt : Int32) : kMi (S := Unit) l yX11_fault wsX11_fault rm_X11_fault_k D (kT cI cZ cS cP) [.ref hM] [(hM, .inr (11, [.int (nI mf), .int (nI mn), .ref m1, .ref m2, .ref m3, .int (nI mb), .int (nI ra), .int (nI rn), .ref m4, .ref m5, .ref m6, .int (nI mw), .ref m7, .ref m8, .int (nI mh), .ref m9, .ref m10, .int (nI mm), .ref m11, .int (nI mr), .ref m12, .ref m13, .ref m14, .ref m15, .ref m16, .ref m17, .ref m18, .int mt]))] (fun r _ => r = (nI mf)) (fun _ => [(hM, .inr (11, [.int (nI mf), .int (nI mn), .ref m1, .ref m2, .ref m3, .int (nI mb), .int (nI ra), .int (nI rn), .ref m4, .ref m5, .ref m6, .int (nI mw), .ref m7, .ref m8, .int (nI mh), .ref m9, .ref m10, .int (nI mm), .ref m11, .int (nI mr), .ref m12, .ref m13, .ref m14, .ref m15, .ref m16, .ref m17, .ref m18, .int mt]))]) := by
  refine kMet_i (cc := cX11_fault) (maxL := 1) (ty := .int) (by decide) rfl (Nat.le_of_ble_eq_true rfl) (fun _ _ _ => rfl) ?_
  intro p e s m args below meth c A Q ls C hlocks hin hN hK hP hD hS hA hl ret
  obtain ⟨hx, hb, hml, hown, hts⟩ := C
  have hl : lv_has ls 1 [(0, .ref hM)] := hl
  have in_X11 : ∀ w ∈ wsX110, w ∈ wsX11_fault := by decide +kernel
  have lk0 := hts (.fieldLink RX11 67 "SilkWordModel" "fault" "I") (by decide +kernel)
  refine lv_aload_n hx hb dX11_fault_0 rfl (lv_at hl 0 rfl) ?_
  refine va_get (D := D) (ci := 11) (v := .int (nI mf)) (C := RX11) (T := TX11) (N := 28) hx hb hts in_X11 hown hK hP 0 rfl rfl 0 (by decide) lk0 (fun _ h9 => h9) rfl dX11_fault_1 ?_
  exact ret _ () _ _ _ _ dX11_fault_4 (rfl) hP hD hS
def rm_X11_word_u : Room := { frames := 2, cells := 0, slots := 0, locals := 46 }
set_option maxHeartbeats 4000000 in
set_option maxRecDepth 100000 in
theorem c_X11_word_u (l : Launch) (D : va_G) (cI cZ cS cP : ClassId) (hM : Nat) (m1 : Nat) (m2 : Nat) (m3 : Nat) (m4 : Nat) (m5 : Nat) (m6 : Nat) (m7 : Nat) (m8 : Nat) (m9 : Nat) (m10 : Nat) (m11 : Nat) (m12 : Nat) (m13 : Nat) (m14 : Nat) (m15 : Nat) (m16 : Nat) (m17 : Nat) (m18 : Nat) (mf : Nat) (mn : Nat) (mb : Nat) (ra : Nat) (rn : Nat) (mw : Nat) (mh : Nat) (mm : Nat) (mr : Nat) (mt : Int32) (x : Int32) (y : Int32) (hn : mn ≤ 7) (hx1 : ¬ inR x mn) : kMi (S := Unit) l yX11_word wsX11_word rm_X11_word_u D (kT cI cZ cS cP) [.ref hM, .int x, .int y] [(hM, .inr (11, [.int (nI mf), .int (nI mn), .ref m1, .ref m2, .ref m3, .int (nI mb), .int (nI ra), .int (nI rn), .ref m4, .ref m5, .ref m6, .int (nI mw), .ref m7, .ref m8, .int (nI mh), .ref m9, .ref m10, .int (nI mm), .ref m11, .int (nI mr), .ref m12, .ref m13, .ref m14, .ref m15, .ref m16, .ref m17, .ref m18, .int mt]))] (fun r _ => r = (-1)) (fun _ => [(hM, .inr (11, [.int (nI mf), .int (nI mn), .ref m1, .ref m2, .ref m3, .int (nI mb), .int (nI ra), .int (nI rn), .ref m4, .ref m5, .ref m6, .int (nI mw), .ref m7, .ref m8, .int (nI mh), .ref m9, .ref m10, .int (nI mm), .ref m11, .int (nI mr), .ref m12, .ref m13, .ref m14, .ref m15, .ref m16, .ref m17, .ref m18, .int mt]))]) := by
  refine kMet_i (cc := cX11_word) (maxL := 3) (ty := .int) (by decide) rfl (Nat.le_of_ble_eq_true rfl) (fun _ _ _ => rfl) ?_
  intro p e s m args below meth c A Q ls C hlocks hin hN hK hP hD hS hA hl ret
  obtain ⟨hx, hb, hml, hown, hts⟩ := C
  have hl : lv_has ls 3 [(0, .ref hM), (1, .int x), (2, .int y)] := hl
  refine lv_aload_n hx hb dX11_word_0 rfl (lv_at hl 0 rfl) ?_
  refine lv_iload_n hx hb dX11_word_1 rfl (lv_at hl 1 rfl) ?_
  refine k_goi (S := Unit) (va_runV (As := [.int x]) (rest := []) ⟨hx, hb, hml, hown, hts⟩ (c_X11_noPerson l D cI cZ cS cP hM m1 m2 m3 m4 m5 m6 m7 m8 m9 m10 m11 m12 m13 m14 m15 m16 m17 m18 mf mn mb ra rn mw mh mm mr mt x (by first | assumption | omega) _) (cwV 1 hts gX11_word_X11_noPerson rfl rfl rfl (by decide +kernel) ⟨Nat.le_of_ble_eq_true rfl, Nat.le_of_ble_eq_true rfl⟩) (kPreV hN hK hP hD [0] rfl rfl (q0 := 0) (ci := 11) (q := (RX11, TX11, 28)) rfl rfl) rfl rfl hl.1 rfl (lv_room (Nat.le_of_ble_eq_true rfl)) dX11_word_2 ⟨Nat.le_of_ble_eq_true rfl, Nat.le_of_ble_eq_true rfl⟩) hP hD hS hA [0] rfl [hM] rfl (fun _ => rfl) 1 [] rfl (fun _u => [(hM, .inr (11, [.int (nI mf), .int (nI mn), .ref m1, .ref m2, .ref m3, .int (nI mb), .int (nI ra), .int (nI rn), .ref m4, .ref m5, .ref m6, .int (nI mw), .ref m7, .ref m8, .int (nI mh), .ref m9, .ref m10, .int (nI mm), .ref m11, .int (nI mr), .ref m12, .ref m13, .ref m14, .ref m15, .ref m16, .ref m17, .ref m18, .int mt]))]) (fun _ => rfl) [] [] (fun _ => rfl) rfl (fun _ => rfl) rfl (fun r_1 _u H locs hr_2 hP hD hS => ?_)
  have hP : va_P D vwCl [(hM, .inr (11, [.int (nI mf), .int (nI mn), .ref m1, .ref m2, .ref m3, .int (nI mb), .int (nI ra), .int (nI rn), .ref m4, .ref m5, .ref m6, .int (nI mw), .ref m7, .ref m8, .int (nI mh), .ref m9, .ref m10, .int (nI mm), .ref m11, .int (nI mr), .ref m12, .ref m13, .ref m14, .ref m15, .ref m16, .ref m17, .ref m18, .int mt]))] H := hP
  have hD : va_D A [(hM, .inr (11, [.int (nI mf), .int (nI mn), .ref m1, .ref m2, .ref m3, .int (nI mb), .int (nI ra), .int (nI rn), .ref m4, .ref m5, .ref m6, .int (nI mw), .ref m7, .ref m8, .int (nI mh), .ref m9, .ref m10, .int (nI mm), .ref m11, .int (nI mr), .ref m12, .ref m13, .ref m14, .ref m15, .ref m16, .ref m17, .ref m18, .int mt]))] := hD
  subst hr_2
  refine k_ifn_eq (tgt := 10) hx hb dX11_word_5 (by decide) (fun c_3 => absurd c_3 hx1) (fun c_3 => ?_)
  refine lv_iconst (v := (-1)) hx hb dX11_word_8 (by decide) ?_
  exact ret _ () _ _ _ _ dX11_word_9 (rfl) hP hD hS
def rm_X11_word_o : Room := { frames := 2, cells := 0, slots := 0, locals := 46 }
set_option maxHeartbeats 4000000 in
set_option maxRecDepth 100000 in
theorem c_X11_word_o (l : Launch) (D : va_G) (cI cZ cS cP : ClassId) (hM : Nat) (m1 : Nat) (m2 : Nat) (m3 : Nat) (m4 : Nat) (m5 : Nat) (m6 : Nat) (m7 : Nat) (m8 : Nat) (m9 : Nat) (m10 : Nat) (m11 : Nat) (m12 : Nat) (m13 : Nat) (m14 : Nat) (m15 : Nat) (m16 : Nat) (m17 : Nat) (m18 : Nat) (mf : Nat) (mn : Nat) (mb : Nat) (ra : Nat) (rn : Nat) (mw : Nat) (mh : Nat) (mm : Nat) (mr : Nat) (mt : Int32) (a : Nat) (y : Int32) (hn : mn ≤ 7) (ha : a < mn) (hx1 : ¬ inR y 40) : kMi (S := Unit) l yX11_word wsX11_word rm_X11_word_o D (kT cI cZ cS cP) [.ref hM, .int (nI a), .int y] [(hM, .inr (11, [.int (nI mf), .int (nI mn), .ref m1, .ref m2, .ref m3, .int (nI mb), .int (nI ra), .int (nI rn), .ref m4, .ref m5, .ref m6, .int (nI mw), .ref m7, .ref m8, .int (nI mh), .ref m9, .ref m10, .int (nI mm), .ref m11, .int (nI mr), .ref m12, .ref m13, .ref m14, .ref m15, .ref m16, .ref m17, .ref m18, .int mt]))] (fun r _ => r = (-2)) (fun _ => [(hM, .inr (11, [.int (nI mf), .int (nI mn), .ref m1, .ref m2, .ref m3, .int (nI mb), .int (nI ra), .int (nI rn), .ref m4, .ref m5, .ref m6, .int (nI mw), .ref m7, .ref m8, .int (nI mh), .ref m9, .ref m10, .int (nI mm), .ref m11, .int (nI mr), .ref m12, .ref m13, .ref m14, .ref m15, .ref m16, .ref m17, .ref m18, .int mt]))]) := by
  refine kMet_i (cc := cX11_word) (maxL := 3) (ty := .int) (by decide) rfl (Nat.le_of_ble_eq_true rfl) (fun _ _ _ => rfl) ?_
  intro p e s m args below meth c A Q ls C hlocks hin hN hK hP hD hS hA hl ret
  obtain ⟨hx, hb, hml, hown, hts⟩ := C
  have hl : lv_has ls 3 [(0, .ref hM), (1, .int (nI a)), (2, .int y)] := hl
  refine lv_aload_n hx hb dX11_word_0 rfl (lv_at hl 0 rfl) ?_
  refine lv_iload_n hx hb dX11_word_1 rfl (lv_at hl 1 rfl) ?_
  refine k_goi (S := Unit) (va_runV (As := [.int (nI a)]) (rest := []) ⟨hx, hb, hml, hown, hts⟩ (c_X11_noPerson l D cI cZ cS cP hM m1 m2 m3 m4 m5 m6 m7 m8 m9 m10 m11 m12 m13 m14 m15 m16 m17 m18 mf mn mb ra rn mw mh mm mr mt (nI a) (by first | assumption | omega) _) (cwV 1 hts gX11_word_X11_noPerson rfl rfl rfl (by decide +kernel) ⟨Nat.le_of_ble_eq_true rfl, Nat.le_of_ble_eq_true rfl⟩) (kPreV hN hK hP hD [0] rfl rfl (q0 := 0) (ci := 11) (q := (RX11, TX11, 28)) rfl rfl) rfl rfl hl.1 rfl (lv_room (Nat.le_of_ble_eq_true rfl)) dX11_word_2 ⟨Nat.le_of_ble_eq_true rfl, Nat.le_of_ble_eq_true rfl⟩) hP hD hS hA [0] rfl [hM] rfl (fun _ => rfl) 1 [] rfl (fun _u => [(hM, .inr (11, [.int (nI mf), .int (nI mn), .ref m1, .ref m2, .ref m3, .int (nI mb), .int (nI ra), .int (nI rn), .ref m4, .ref m5, .ref m6, .int (nI mw), .ref m7, .ref m8, .int (nI mh), .ref m9, .ref m10, .int (nI mm), .ref m11, .int (nI mr), .ref m12, .ref m13, .ref m14, .ref m15, .ref m16, .ref m17, .ref m18, .int mt]))]) (fun _ => rfl) [] [] (fun _ => rfl) rfl (fun _ => rfl) rfl (fun r_1 _u H locs hr_2 hP hD hS => ?_)
  have hP : va_P D vwCl [(hM, .inr (11, [.int (nI mf), .int (nI mn), .ref m1, .ref m2, .ref m3, .int (nI mb), .int (nI ra), .int (nI rn), .ref m4, .ref m5, .ref m6, .int (nI mw), .ref m7, .ref m8, .int (nI mh), .ref m9, .ref m10, .int (nI mm), .ref m11, .int (nI mr), .ref m12, .ref m13, .ref m14, .ref m15, .ref m16, .ref m17, .ref m18, .int mt]))] H := hP
  have hD : va_D A [(hM, .inr (11, [.int (nI mf), .int (nI mn), .ref m1, .ref m2, .ref m3, .int (nI mb), .int (nI ra), .int (nI rn), .ref m4, .ref m5, .ref m6, .int (nI mw), .ref m7, .ref m8, .int (nI mh), .ref m9, .ref m10, .int (nI mm), .ref m11, .int (nI mr), .ref m12, .ref m13, .ref m14, .ref m15, .ref m16, .ref m17, .ref m18, .int mt]))] := hD
  subst hr_2
  refine k_ifn_eq (tgt := 10) hx hb dX11_word_5 (by decide) (fun c_3 => ?_) (fun c_3 => absurd ((inR_nI (by omega)).mpr (by omega)) c_3)
  refine lv_iload_n hx hb dX11_word_10 rfl (lv_at hl 2 rfl) ?_
  refine k_goi (S := Unit) (va_runS (As := [.int y]) (rest := []) ⟨hx, hb, hml, hown, hts⟩ (c_X11_isDay l D cI cZ cS cP y  _) (va_cwS 1 hts gX11_word_X11_isDay rfl rfl rfl (by decide +kernel) ⟨Nat.le_of_ble_eq_true rfl, Nat.le_of_ble_eq_true rfl⟩) (kPreS hN hK hP hD [] rfl rfl) rfl rfl hl.1 rfl (lv_room (Nat.le_of_ble_eq_true rfl)) dX11_word_11 ⟨Nat.le_of_ble_eq_true rfl, Nat.le_of_ble_eq_true rfl⟩) hP hD hS hA [] rfl [] rfl (fun _ => rfl) 1 [0] rfl (fun _u => [(hM, .inr (11, [.int (nI mf), .int (nI mn), .ref m1, .ref m2, .ref m3, .int (nI mb), .int (nI ra), .int (nI rn), .ref m4, .ref m5, .ref m6, .int (nI mw), .ref m7, .ref m8, .int (nI mh), .ref m9, .ref m10, .int (nI mm), .ref m11, .int (nI mr), .ref m12, .ref m13, .ref m14, .ref m15, .ref m16, .ref m17, .ref m18, .int mt]))]) (fun _ => rfl) [(hM, .inr (11, [.int (nI mf), .int (nI mn), .ref m1, .ref m2, .ref m3, .int (nI mb), .int (nI ra), .int (nI rn), .ref m4, .ref m5, .ref m6, .int (nI mw), .ref m7, .ref m8, .int (nI mh), .ref m9, .ref m10, .int (nI mm), .ref m11, .int (nI mr), .ref m12, .ref m13, .ref m14, .ref m15, .ref m16, .ref m17, .ref m18, .int mt]))] [] (fun _ => rfl) rfl (fun _ => rfl) rfl (fun r_4 _u H locs hr_5 hP hD hS => ?_)
  have hP : va_P D vwCl [(hM, .inr (11, [.int (nI mf), .int (nI mn), .ref m1, .ref m2, .ref m3, .int (nI mb), .int (nI ra), .int (nI rn), .ref m4, .ref m5, .ref m6, .int (nI mw), .ref m7, .ref m8, .int (nI mh), .ref m9, .ref m10, .int (nI mm), .ref m11, .int (nI mr), .ref m12, .ref m13, .ref m14, .ref m15, .ref m16, .ref m17, .ref m18, .int mt]))] H := hP
  have hD : va_D A [(hM, .inr (11, [.int (nI mf), .int (nI mn), .ref m1, .ref m2, .ref m3, .int (nI mb), .int (nI ra), .int (nI rn), .ref m4, .ref m5, .ref m6, .int (nI mw), .ref m7, .ref m8, .int (nI mh), .ref m9, .ref m10, .int (nI mm), .ref m11, .int (nI mr), .ref m12, .ref m13, .ref m14, .ref m15, .ref m16, .ref m17, .ref m18, .int mt]))] := hD
  subst hr_5
  refine k_ifc_ne (tgt := 20) hx hb dX11_word_14 (by decide) (fun c_6 => absurd c_6 hx1) (fun c_6 => ?_)
  refine lv_bipush (v := (-2)) hx hb dX11_word_17 (by decide) ?_
  exact ret _ () _ _ _ _ dX11_word_19 (rfl) hP hD hS
def rm_X11_word_full : Room := { frames := 2, cells := 0, slots := 0, locals := 46 }
set_option maxHeartbeats 4000000 in
set_option maxRecDepth 100000 in
theorem c_X11_word_full (l : Launch) (D : va_G) (cI cZ cS cP : ClassId) (hM : Nat) (m1 : Nat) (m2 : Nat) (m3 : Nat) (m4 : Nat) (m5 : Nat) (m6 : Nat) (m7 : Nat) (m8 : Nat) (m9 : Nat) (m10 : Nat) (m11 : Nat) (m12 : Nat) (m13 : Nat) (m14 : Nat) (m15 : Nat) (m16 : Nat) (m17 : Nat) (m18 : Nat) (mf : Nat) (mn : Nat) (mb : Nat) (ra : Nat) (rn : Nat) (mw : Nat) (mh : Nat) (mm : Nat) (mr : Nat) (mt : Int32) (a : Nat) (d : Nat) (hn : mn ≤ 7) (ha : a < mn) (hd : d < 40) (hw6 : mw = 6) : kMi (S := Unit) l yX11_word wsX11_word rm_X11_word_full D (kT cI cZ cS cP) [.ref hM, .int (nI a), .int (nI d)] [(hM, .inr (11, [.int (nI mf), .int (nI mn), .ref m1, .ref m2, .ref m3, .int (nI mb), .int (nI ra), .int (nI rn), .ref m4, .ref m5, .ref m6, .int (nI mw), .ref m7, .ref m8, .int (nI mh), .ref m9, .ref m10, .int (nI mm), .ref m11, .int (nI mr), .ref m12, .ref m13, .ref m14, .ref m15, .ref m16, .ref m17, .ref m18, .int mt]))] (fun r _ => r = (-4)) (fun _ => [(hM, .inr (11, [.int (nI mf), .int (nI mn), .ref m1, .ref m2, .ref m3, .int (nI mb), .int (nI ra), .int (nI rn), .ref m4, .ref m5, .ref m6, .int (nI mw), .ref m7, .ref m8, .int (nI mh), .ref m9, .ref m10, .int (nI mm), .ref m11, .int (nI mr), .ref m12, .ref m13, .ref m14, .ref m15, .ref m16, .ref m17, .ref m18, .int mt]))]) := by
  refine kMet_i (cc := cX11_word) (maxL := 3) (ty := .int) (by decide) rfl (Nat.le_of_ble_eq_true rfl) (fun _ _ _ => rfl) ?_
  intro p e s m args below meth c A Q ls C hlocks hin hN hK hP hD hS hA hl ret
  obtain ⟨hx, hb, hml, hown, hts⟩ := C
  have hl : lv_has ls 3 [(0, .ref hM), (1, .int (nI a)), (2, .int (nI d))] := hl
  have in_X11 : ∀ w ∈ wsX110, w ∈ wsX11_word := by decide +kernel
  have lk0 := hts (.fieldLink RX11 129 "SilkWordModel" "words" "I") (by decide +kernel)
  refine lv_aload_n hx hb dX11_word_0 rfl (lv_at hl 0 rfl) ?_
  refine lv_iload_n hx hb dX11_word_1 rfl (lv_at hl 1 rfl) ?_
  refine k_goi (S := Unit) (va_runV (As := [.int (nI a)]) (rest := []) ⟨hx, hb, hml, hown, hts⟩ (c_X11_noPerson l D cI cZ cS cP hM m1 m2 m3 m4 m5 m6 m7 m8 m9 m10 m11 m12 m13 m14 m15 m16 m17 m18 mf mn mb ra rn mw mh mm mr mt (nI a) (by first | assumption | omega) _) (cwV 1 hts gX11_word_X11_noPerson rfl rfl rfl (by decide +kernel) ⟨Nat.le_of_ble_eq_true rfl, Nat.le_of_ble_eq_true rfl⟩) (kPreV hN hK hP hD [0] rfl rfl (q0 := 0) (ci := 11) (q := (RX11, TX11, 28)) rfl rfl) rfl rfl hl.1 rfl (lv_room (Nat.le_of_ble_eq_true rfl)) dX11_word_2 ⟨Nat.le_of_ble_eq_true rfl, Nat.le_of_ble_eq_true rfl⟩) hP hD hS hA [0] rfl [hM] rfl (fun _ => rfl) 1 [] rfl (fun _u => [(hM, .inr (11, [.int (nI mf), .int (nI mn), .ref m1, .ref m2, .ref m3, .int (nI mb), .int (nI ra), .int (nI rn), .ref m4, .ref m5, .ref m6, .int (nI mw), .ref m7, .ref m8, .int (nI mh), .ref m9, .ref m10, .int (nI mm), .ref m11, .int (nI mr), .ref m12, .ref m13, .ref m14, .ref m15, .ref m16, .ref m17, .ref m18, .int mt]))]) (fun _ => rfl) [] [] (fun _ => rfl) rfl (fun _ => rfl) rfl (fun r_1 _u H locs hr_2 hP hD hS => ?_)
  have hP : va_P D vwCl [(hM, .inr (11, [.int (nI mf), .int (nI mn), .ref m1, .ref m2, .ref m3, .int (nI mb), .int (nI ra), .int (nI rn), .ref m4, .ref m5, .ref m6, .int (nI mw), .ref m7, .ref m8, .int (nI mh), .ref m9, .ref m10, .int (nI mm), .ref m11, .int (nI mr), .ref m12, .ref m13, .ref m14, .ref m15, .ref m16, .ref m17, .ref m18, .int mt]))] H := hP
  have hD : va_D A [(hM, .inr (11, [.int (nI mf), .int (nI mn), .ref m1, .ref m2, .ref m3, .int (nI mb), .int (nI ra), .int (nI rn), .ref m4, .ref m5, .ref m6, .int (nI mw), .ref m7, .ref m8, .int (nI mh), .ref m9, .ref m10, .int (nI mm), .ref m11, .int (nI mr), .ref m12, .ref m13, .ref m14, .ref m15, .ref m16, .ref m17, .ref m18, .int mt]))] := hD
  subst hr_2
  refine k_ifn_eq (tgt := 10) hx hb dX11_word_5 (by decide) (fun c_3 => ?_) (fun c_3 => absurd ((inR_nI (by omega)).mpr (by omega)) c_3)
  refine lv_iload_n hx hb dX11_word_10 rfl (lv_at hl 2 rfl) ?_
  refine k_goi (S := Unit) (va_runS (As := [.int (nI d)]) (rest := []) ⟨hx, hb, hml, hown, hts⟩ (c_X11_isDay l D cI cZ cS cP (nI d)  _) (va_cwS 1 hts gX11_word_X11_isDay rfl rfl rfl (by decide +kernel) ⟨Nat.le_of_ble_eq_true rfl, Nat.le_of_ble_eq_true rfl⟩) (kPreS hN hK hP hD [] rfl rfl) rfl rfl hl.1 rfl (lv_room (Nat.le_of_ble_eq_true rfl)) dX11_word_11 ⟨Nat.le_of_ble_eq_true rfl, Nat.le_of_ble_eq_true rfl⟩) hP hD hS hA [] rfl [] rfl (fun _ => rfl) 1 [0] rfl (fun _u => [(hM, .inr (11, [.int (nI mf), .int (nI mn), .ref m1, .ref m2, .ref m3, .int (nI mb), .int (nI ra), .int (nI rn), .ref m4, .ref m5, .ref m6, .int (nI mw), .ref m7, .ref m8, .int (nI mh), .ref m9, .ref m10, .int (nI mm), .ref m11, .int (nI mr), .ref m12, .ref m13, .ref m14, .ref m15, .ref m16, .ref m17, .ref m18, .int mt]))]) (fun _ => rfl) [(hM, .inr (11, [.int (nI mf), .int (nI mn), .ref m1, .ref m2, .ref m3, .int (nI mb), .int (nI ra), .int (nI rn), .ref m4, .ref m5, .ref m6, .int (nI mw), .ref m7, .ref m8, .int (nI mh), .ref m9, .ref m10, .int (nI mm), .ref m11, .int (nI mr), .ref m12, .ref m13, .ref m14, .ref m15, .ref m16, .ref m17, .ref m18, .int mt]))] [] (fun _ => rfl) rfl (fun _ => rfl) rfl (fun r_4 _u H locs hr_5 hP hD hS => ?_)
  have hP : va_P D vwCl [(hM, .inr (11, [.int (nI mf), .int (nI mn), .ref m1, .ref m2, .ref m3, .int (nI mb), .int (nI ra), .int (nI rn), .ref m4, .ref m5, .ref m6, .int (nI mw), .ref m7, .ref m8, .int (nI mh), .ref m9, .ref m10, .int (nI mm), .ref m11, .int (nI mr), .ref m12, .ref m13, .ref m14, .ref m15, .ref m16, .ref m17, .ref m18, .int mt]))] H := hP
  have hD : va_D A [(hM, .inr (11, [.int (nI mf), .int (nI mn), .ref m1, .ref m2, .ref m3, .int (nI mb), .int (nI ra), .int (nI rn), .ref m4, .ref m5, .ref m6, .int (nI mw), .ref m7, .ref m8, .int (nI mh), .ref m9, .ref m10, .int (nI mm), .ref m11, .int (nI mr), .ref m12, .ref m13, .ref m14, .ref m15, .ref m16, .ref m17, .ref m18, .int mt]))] := hD
  subst hr_5
  refine k_ifc_ne (tgt := 20) hx hb dX11_word_14 (by decide) (fun c_6 => ?_) (fun c_6 => absurd ((inR_nI (by omega)).mpr (by omega)) c_6)
  refine lv_aload_n hx hb dX11_word_20 rfl (lv_at hl 0 rfl) ?_
  refine va_get (D := D) (ci := 11) (v := .int (nI mw)) (C := RX11) (T := TX11) (N := 28) hx hb hts in_X11 hown hK hP 0 rfl rfl 11 (by decide) lk0 (fun _ h9 => h9) rfl dX11_word_21 ?_
  refine lv_bipush (v := (nI 6)) hx hb dX11_word_24 (by decide) ?_
  refine k_icmp_ne (tgt := 32) hx hb dX11_word_26 (by decide) (show mw < 2 ^ 31 by first | omega | (split <;> omega)) (show 6 < 2 ^ 31 by first | omega | (split <;> omega)) (fun c_7 => absurd c_7 (by omega)) (fun c_7 => ?_)
  refine lv_bipush (v := (-4)) hx hb dX11_word_29 (by decide) ?_
  exact ret _ () _ _ _ _ dX11_word_31 (rfl) hP hD hS
def rm_X11_word_ok : Room := { frames := 2, cells := 0, slots := 0, locals := 46 }
set_option maxHeartbeats 4000000 in
set_option maxRecDepth 100000 in
theorem c_X11_word_ok (l : Launch) (D : va_G) (cI cZ cS cP : ClassId) (hM : Nat) (m1 : Nat) (m2 : Nat) (m3 : Nat) (m4 : Nat) (m5 : Nat) (m6 : Nat) (m7 : Nat) (m8 : Nat) (m9 : Nat) (m10 : Nat) (m11 : Nat) (m12 : Nat) (m13 : Nat) (m14 : Nat) (m15 : Nat) (m16 : Nat) (m17 : Nat) (m18 : Nat) (mf : Nat) (mn : Nat) (mb : Nat) (ra : Nat) (rn : Nat) (mw : Nat) (mh : Nat) (mm : Nat) (mr : Nat) (mt : Int32) (wp : Nat → Nat) (wd : Nat → Nat) (a : Nat) (d : Nat) (hn : mn ≤ 7) (hwp : ∀ i, wp i < 7) (hwd : ∀ i, wd i < 40) (ha : a < mn) (hd : d < 40) (hw6 : mw < 6) : kMi (S := Unit) l yX11_word wsX11_word rm_X11_word_ok D (kT cI cZ cS cP) [.ref hM, .int (nI a), .int (nI d)] [(hM, .inr (11, [.int (nI mf), .int (nI mn), .ref m1, .ref m2, .ref m3, .int (nI mb), .int (nI ra), .int (nI rn), .ref m4, .ref m5, .ref m6, .int (nI mw), .ref m7, .ref m8, .int (nI mh), .ref m9, .ref m10, .int (nI mm), .ref m11, .int (nI mr), .ref m12, .ref m13, .ref m14, .ref m15, .ref m16, .ref m17, .ref m18, .int mt])), (m7, .inl (cI, 7, .inl (nA wp))), (m8, .inl (cI, 7, .inl (nA wd)))] (fun r _ => r = (nI mw)) (fun _ => [(hM, .inr (11, [.int (nI mf), .int (nI mn), .ref m1, .ref m2, .ref m3, .int (nI mb), .int (nI ra), .int (nI rn), .ref m4, .ref m5, .ref m6, .int (nI (mw + 1)), .ref m7, .ref m8, .int (nI mh), .ref m9, .ref m10, .int (nI mm), .ref m11, .int (nI mr), .ref m12, .ref m13, .ref m14, .ref m15, .ref m16, .ref m17, .ref m18, .int mt])), (m7, .inl (cI, 7, .inl (nA (va_up wp mw a)))), (m8, .inl (cI, 7, .inl (nA (va_up wd mw d))))]) := by
  refine kMet_i (cc := cX11_word) (maxL := 3) (ty := .int) (by decide) rfl (Nat.le_of_ble_eq_true rfl) (fun _ _ _ => rfl) ?_
  intro p e s m args below meth c A Q ls C hlocks hin hN hK hP hD hS hA hl ret
  obtain ⟨hx, hb, hml, hown, hts⟩ := C
  have hl : lv_has ls 3 [(0, .ref hM), (1, .int (nI a)), (2, .int (nI d))] := hl
  have in_X11 : ∀ w ∈ wsX110, w ∈ wsX11_word := by decide +kernel
  have lk0 := hts (.fieldLink RX11 129 "SilkWordModel" "words" "I") (by decide +kernel)
  have lk1 := hts (.fieldLink RX11 28 "SilkWordModel" "wordAt" "[I") (by decide +kernel)
  have lk2 := hts (.fieldLink RX11 31 "SilkWordModel" "wordOn" "[I") (by decide +kernel)
  refine lv_aload_n hx hb dX11_word_0 rfl (lv_at hl 0 rfl) ?_
  refine lv_iload_n hx hb dX11_word_1 rfl (lv_at hl 1 rfl) ?_
  refine k_goi (S := Unit) (va_runV (As := [.int (nI a)]) (rest := []) ⟨hx, hb, hml, hown, hts⟩ (c_X11_noPerson l D cI cZ cS cP hM m1 m2 m3 m4 m5 m6 m7 m8 m9 m10 m11 m12 m13 m14 m15 m16 m17 m18 mf mn mb ra rn mw mh mm mr mt (nI a) (by first | assumption | omega) _) (cwV 1 hts gX11_word_X11_noPerson rfl rfl rfl (by decide +kernel) ⟨Nat.le_of_ble_eq_true rfl, Nat.le_of_ble_eq_true rfl⟩) (kPreV hN hK hP hD [0] rfl rfl (q0 := 0) (ci := 11) (q := (RX11, TX11, 28)) rfl rfl) rfl rfl hl.1 rfl (lv_room (Nat.le_of_ble_eq_true rfl)) dX11_word_2 ⟨Nat.le_of_ble_eq_true rfl, Nat.le_of_ble_eq_true rfl⟩) hP hD hS hA [0] rfl [hM] rfl (fun _ => rfl) 3 [1, 2] rfl (fun _u => [(hM, .inr (11, [.int (nI mf), .int (nI mn), .ref m1, .ref m2, .ref m3, .int (nI mb), .int (nI ra), .int (nI rn), .ref m4, .ref m5, .ref m6, .int (nI mw), .ref m7, .ref m8, .int (nI mh), .ref m9, .ref m10, .int (nI mm), .ref m11, .int (nI mr), .ref m12, .ref m13, .ref m14, .ref m15, .ref m16, .ref m17, .ref m18, .int mt])), (m7, .inl (cI, 7, .inl (nA wp))), (m8, .inl (cI, 7, .inl (nA wd)))]) (fun _ => rfl) [(m7, .inl (cI, 7, .inl (nA wp))), (m8, .inl (cI, 7, .inl (nA wd)))] [] (fun _ => rfl) rfl (fun _ => rfl) rfl (fun r_1 _u H locs hr_2 hP hD hS => ?_)
  have hP : va_P D vwCl [(hM, .inr (11, [.int (nI mf), .int (nI mn), .ref m1, .ref m2, .ref m3, .int (nI mb), .int (nI ra), .int (nI rn), .ref m4, .ref m5, .ref m6, .int (nI mw), .ref m7, .ref m8, .int (nI mh), .ref m9, .ref m10, .int (nI mm), .ref m11, .int (nI mr), .ref m12, .ref m13, .ref m14, .ref m15, .ref m16, .ref m17, .ref m18, .int mt])), (m7, .inl (cI, 7, .inl (nA wp))), (m8, .inl (cI, 7, .inl (nA wd)))] H := hP
  have hD : va_D A [(hM, .inr (11, [.int (nI mf), .int (nI mn), .ref m1, .ref m2, .ref m3, .int (nI mb), .int (nI ra), .int (nI rn), .ref m4, .ref m5, .ref m6, .int (nI mw), .ref m7, .ref m8, .int (nI mh), .ref m9, .ref m10, .int (nI mm), .ref m11, .int (nI mr), .ref m12, .ref m13, .ref m14, .ref m15, .ref m16, .ref m17, .ref m18, .int mt])), (m7, .inl (cI, 7, .inl (nA wp))), (m8, .inl (cI, 7, .inl (nA wd)))] := hD
  subst hr_2
  refine k_ifn_eq (tgt := 10) hx hb dX11_word_5 (by decide) (fun c_3 => ?_) (fun c_3 => absurd ((inR_nI (by omega)).mpr (by omega)) c_3)
  refine lv_iload_n hx hb dX11_word_10 rfl (lv_at hl 2 rfl) ?_
  refine k_goi (S := Unit) (va_runS (As := [.int (nI d)]) (rest := []) ⟨hx, hb, hml, hown, hts⟩ (c_X11_isDay l D cI cZ cS cP (nI d)  _) (va_cwS 1 hts gX11_word_X11_isDay rfl rfl rfl (by decide +kernel) ⟨Nat.le_of_ble_eq_true rfl, Nat.le_of_ble_eq_true rfl⟩) (kPreS hN hK hP hD [] rfl rfl) rfl rfl hl.1 rfl (lv_room (Nat.le_of_ble_eq_true rfl)) dX11_word_11 ⟨Nat.le_of_ble_eq_true rfl, Nat.le_of_ble_eq_true rfl⟩) hP hD hS hA [] rfl [] rfl (fun _ => rfl) 3 [0, 1, 2] rfl (fun _u => [(hM, .inr (11, [.int (nI mf), .int (nI mn), .ref m1, .ref m2, .ref m3, .int (nI mb), .int (nI ra), .int (nI rn), .ref m4, .ref m5, .ref m6, .int (nI mw), .ref m7, .ref m8, .int (nI mh), .ref m9, .ref m10, .int (nI mm), .ref m11, .int (nI mr), .ref m12, .ref m13, .ref m14, .ref m15, .ref m16, .ref m17, .ref m18, .int mt])), (m7, .inl (cI, 7, .inl (nA wp))), (m8, .inl (cI, 7, .inl (nA wd)))]) (fun _ => rfl) [(hM, .inr (11, [.int (nI mf), .int (nI mn), .ref m1, .ref m2, .ref m3, .int (nI mb), .int (nI ra), .int (nI rn), .ref m4, .ref m5, .ref m6, .int (nI mw), .ref m7, .ref m8, .int (nI mh), .ref m9, .ref m10, .int (nI mm), .ref m11, .int (nI mr), .ref m12, .ref m13, .ref m14, .ref m15, .ref m16, .ref m17, .ref m18, .int mt])), (m7, .inl (cI, 7, .inl (nA wp))), (m8, .inl (cI, 7, .inl (nA wd)))] [] (fun _ => rfl) rfl (fun _ => rfl) rfl (fun r_4 _u H locs hr_5 hP hD hS => ?_)
  have hP : va_P D vwCl [(hM, .inr (11, [.int (nI mf), .int (nI mn), .ref m1, .ref m2, .ref m3, .int (nI mb), .int (nI ra), .int (nI rn), .ref m4, .ref m5, .ref m6, .int (nI mw), .ref m7, .ref m8, .int (nI mh), .ref m9, .ref m10, .int (nI mm), .ref m11, .int (nI mr), .ref m12, .ref m13, .ref m14, .ref m15, .ref m16, .ref m17, .ref m18, .int mt])), (m7, .inl (cI, 7, .inl (nA wp))), (m8, .inl (cI, 7, .inl (nA wd)))] H := hP
  have hD : va_D A [(hM, .inr (11, [.int (nI mf), .int (nI mn), .ref m1, .ref m2, .ref m3, .int (nI mb), .int (nI ra), .int (nI rn), .ref m4, .ref m5, .ref m6, .int (nI mw), .ref m7, .ref m8, .int (nI mh), .ref m9, .ref m10, .int (nI mm), .ref m11, .int (nI mr), .ref m12, .ref m13, .ref m14, .ref m15, .ref m16, .ref m17, .ref m18, .int mt])), (m7, .inl (cI, 7, .inl (nA wp))), (m8, .inl (cI, 7, .inl (nA wd)))] := hD
  subst hr_5
  refine k_ifc_ne (tgt := 20) hx hb dX11_word_14 (by decide) (fun c_6 => ?_) (fun c_6 => absurd ((inR_nI (by omega)).mpr (by omega)) c_6)
  refine lv_aload_n hx hb dX11_word_20 rfl (lv_at hl 0 rfl) ?_
  refine va_get (D := D) (ci := 11) (v := .int (nI mw)) (C := RX11) (T := TX11) (N := 28) hx hb hts in_X11 hown hK hP 0 rfl rfl 11 (by decide) lk0 (fun _ h9 => h9) rfl dX11_word_21 ?_
  refine lv_bipush (v := (nI 6)) hx hb dX11_word_24 (by decide) ?_
  refine k_icmp_ne (tgt := 32) hx hb dX11_word_26 (by decide) (show mw < 2 ^ 31 by first | omega | (split <;> omega)) (show 6 < 2 ^ 31 by first | omega | (split <;> omega)) (fun c_7 => ?_) (fun c_7 => absurd c_7 (by omega))
  refine lv_aload_n hx hb dX11_word_32 rfl (lv_at hl 0 rfl) ?_
  refine va_get (D := D) (ci := 11) (v := .ref m7) (C := RX11) (T := TX11) (N := 28) hx hb hts in_X11 hown hK hP 0 rfl rfl 12 (by decide) lk1 (fun _ h9 => h9) rfl dX11_word_33 ?_
  refine lv_aload_n hx hb dX11_word_36 rfl (lv_at hl 0 rfl) ?_
  refine va_get (D := D) (ci := 11) (v := .int (nI mw)) (C := RX11) (T := TX11) (N := 28) hx hb hts in_X11 hown hK hP 0 rfl rfl 11 (by decide) lk0 (fun _ h9 => h9) rfl dX11_word_37 ?_
  refine lv_iload_n hx hb dX11_word_40 rfl (lv_at hl 1 rfl) ?_
  refine k_iastN (y := a) hx hb hK hP hD hS 1 0 rfl rfl (show mw < 7 by omega) (by decide) dX11_word_41 (fun H locs hP hD hS => ?_)
  have hb_8 : ∀ i, (va_up wp mw a) i < 7 := up_lt hwp (show a < 7 by first | omega | (split <;> omega))
  have hP : va_P D vwCl [(hM, .inr (11, [.int (nI mf), .int (nI mn), .ref m1, .ref m2, .ref m3, .int (nI mb), .int (nI ra), .int (nI rn), .ref m4, .ref m5, .ref m6, .int (nI mw), .ref m7, .ref m8, .int (nI mh), .ref m9, .ref m10, .int (nI mm), .ref m11, .int (nI mr), .ref m12, .ref m13, .ref m14, .ref m15, .ref m16, .ref m17, .ref m18, .int mt])), (m7, .inl (cI, 7, .inl (nA (va_up wp mw a)))), (m8, .inl (cI, 7, .inl (nA wd)))] H := hP
  have hD : va_D A [(hM, .inr (11, [.int (nI mf), .int (nI mn), .ref m1, .ref m2, .ref m3, .int (nI mb), .int (nI ra), .int (nI rn), .ref m4, .ref m5, .ref m6, .int (nI mw), .ref m7, .ref m8, .int (nI mh), .ref m9, .ref m10, .int (nI mm), .ref m11, .int (nI mr), .ref m12, .ref m13, .ref m14, .ref m15, .ref m16, .ref m17, .ref m18, .int mt])), (m7, .inl (cI, 7, .inl (nA (va_up wp mw a)))), (m8, .inl (cI, 7, .inl (nA wd)))] := hD
  refine lv_aload_n hx hb dX11_word_42 rfl (lv_at hl 0 rfl) ?_
  refine va_get (D := D) (ci := 11) (v := .ref m8) (C := RX11) (T := TX11) (N := 28) hx hb hts in_X11 hown hK hP 0 rfl rfl 13 (by decide) lk2 (fun _ h9 => h9) rfl dX11_word_43 ?_
  refine lv_aload_n hx hb dX11_word_46 rfl (lv_at hl 0 rfl) ?_
  refine va_get (D := D) (ci := 11) (v := .int (nI mw)) (C := RX11) (T := TX11) (N := 28) hx hb hts in_X11 hown hK hP 0 rfl rfl 11 (by decide) lk0 (fun _ h9 => h9) rfl dX11_word_47 ?_
  refine lv_iload_n hx hb dX11_word_50 rfl (lv_at hl 2 rfl) ?_
  refine k_iastN (y := d) hx hb hK hP hD hS 2 0 rfl rfl (show mw < 7 by omega) (by decide) dX11_word_51 (fun H locs hP hD hS => ?_)
  have hb_9 : ∀ i, (va_up wd mw d) i < 40 := up_lt hwd (show d < 40 by first | omega | (split <;> omega))
  have hP : va_P D vwCl [(hM, .inr (11, [.int (nI mf), .int (nI mn), .ref m1, .ref m2, .ref m3, .int (nI mb), .int (nI ra), .int (nI rn), .ref m4, .ref m5, .ref m6, .int (nI mw), .ref m7, .ref m8, .int (nI mh), .ref m9, .ref m10, .int (nI mm), .ref m11, .int (nI mr), .ref m12, .ref m13, .ref m14, .ref m15, .ref m16, .ref m17, .ref m18, .int mt])), (m7, .inl (cI, 7, .inl (nA (va_up wp mw a)))), (m8, .inl (cI, 7, .inl (nA (va_up wd mw d))))] H := hP
  have hD : va_D A [(hM, .inr (11, [.int (nI mf), .int (nI mn), .ref m1, .ref m2, .ref m3, .int (nI mb), .int (nI ra), .int (nI rn), .ref m4, .ref m5, .ref m6, .int (nI mw), .ref m7, .ref m8, .int (nI mh), .ref m9, .ref m10, .int (nI mm), .ref m11, .int (nI mr), .ref m12, .ref m13, .ref m14, .ref m15, .ref m16, .ref m17, .ref m18, .int mt])), (m7, .inl (cI, 7, .inl (nA (va_up wp mw a)))), (m8, .inl (cI, 7, .inl (nA (va_up wd mw d))))] := hD
  refine lv_aload_n hx hb dX11_word_52 rfl (lv_at hl 0 rfl) ?_
  refine lv_dup hx hb dX11_word_53 rfl ?_
  refine va_get (D := D) (ci := 11) (v := .int (nI mw)) (C := RX11) (T := TX11) (N := 28) hx hb hts in_X11 hown hK hP 0 rfl rfl 11 (by decide) lk0 (fun _ h9 => h9) rfl dX11_word_54 ?_
  refine lv_iconst (v := (nI 1)) hx hb dX11_word_57 (by decide) ?_
  refine lv_iadd hx hb dX11_word_58 ?_
  refine k_eqi (show ((nI mw) + (nI 1)) = (nI (mw + 1)) from nI_add mw 1) ?_
  refine va_put (D := D) (ci := 11) (v := .int (nI (mw + 1))) (ty := .int) (C := RX11) (T := TX11) (N := 28) hx hb hts in_X11 tyX11 tyX11_ok nmX11 hown hK hP hD hS 0 rfl rfl 11 (by decide) lk0 (fun _ h9 => h9) rfl (by decide +kernel) rfl rfl (Nat.le_of_ble_eq_true rfl) dX11_word_59 (fun H locs hP hD hS => ?_)
  have hP : va_P D vwCl [(hM, .inr (11, [.int (nI mf), .int (nI mn), .ref m1, .ref m2, .ref m3, .int (nI mb), .int (nI ra), .int (nI rn), .ref m4, .ref m5, .ref m6, .int (nI (mw + 1)), .ref m7, .ref m8, .int (nI mh), .ref m9, .ref m10, .int (nI mm), .ref m11, .int (nI mr), .ref m12, .ref m13, .ref m14, .ref m15, .ref m16, .ref m17, .ref m18, .int mt])), (m7, .inl (cI, 7, .inl (nA (va_up wp mw a)))), (m8, .inl (cI, 7, .inl (nA (va_up wd mw d))))] H := hP
  have hD : va_D A [(hM, .inr (11, [.int (nI mf), .int (nI mn), .ref m1, .ref m2, .ref m3, .int (nI mb), .int (nI ra), .int (nI rn), .ref m4, .ref m5, .ref m6, .int (nI (mw + 1)), .ref m7, .ref m8, .int (nI mh), .ref m9, .ref m10, .int (nI mm), .ref m11, .int (nI mr), .ref m12, .ref m13, .ref m14, .ref m15, .ref m16, .ref m17, .ref m18, .int mt])), (m7, .inl (cI, 7, .inl (nA (va_up wp mw a)))), (m8, .inl (cI, 7, .inl (nA (va_up wd mw d))))] := hD
  refine lv_aload_n hx hb dX11_word_62 rfl (lv_at hl 0 rfl) ?_
  refine va_get (D := D) (ci := 11) (v := .int (nI (mw + 1))) (C := RX11) (T := TX11) (N := 28) hx hb hts in_X11 hown hK hP 0 rfl rfl 11 (by decide) lk0 (fun _ h9 => h9) rfl dX11_word_63 ?_
  refine lv_iconst (v := (nI 1)) hx hb dX11_word_66 (by decide) ?_
  refine lv_isub hx hb dX11_word_67 ?_
  refine k_eqi (show ((nI (mw + 1)) - (nI 1)) = (nI ((mw + 1) - 1)) from pk_sub (show 1 ≤ (mw + 1) by omega)) ?_
  exact ret _ () _ _ _ _ dX11_word_68 (congrArg nI (show (mw + 1) - 1 = mw by omega)) hP hD hS
def rm_X11_unsay_o : Room := { frames := 1, cells := 0, slots := 0, locals := 25 }
set_option maxHeartbeats 4000000 in
set_option maxRecDepth 100000 in
theorem c_X11_unsay_o (l : Launch) (D : va_G) (cI cZ cS cP : ClassId) (hM : Nat) (m1 : Nat) (m2 : Nat) (m3 : Nat) (m4 : Nat) (m5 : Nat) (m6 : Nat) (m7 : Nat) (m8 : Nat) (m9 : Nat) (m10 : Nat) (m11 : Nat) (m12 : Nat) (m13 : Nat) (m14 : Nat) (m15 : Nat) (m16 : Nat) (m17 : Nat) (m18 : Nat) (mf : Nat) (mn : Nat) (mb : Nat) (ra : Nat) (rn : Nat) (mw : Nat) (mh : Nat) (mm : Nat) (mr : Nat) (mt : Int32) (x : Int32) (hh0 : mw ≤ 7) (hx1 : ¬ inR x (mw + 1)) : kMi (S := Unit) l yX11_unsay wsX11_unsay rm_X11_unsay_o D (kT cI cZ cS cP) [.ref hM, .int x] [(hM, .inr (11, [.int (nI mf), .int (nI mn), .ref m1, .ref m2, .ref m3, .int (nI mb), .int (nI ra), .int (nI rn), .ref m4, .ref m5, .ref m6, .int (nI mw), .ref m7, .ref m8, .int (nI mh), .ref m9, .ref m10, .int (nI mm), .ref m11, .int (nI mr), .ref m12, .ref m13, .ref m14, .ref m15, .ref m16, .ref m17, .ref m18, .int mt]))] (fun r _ => r = (-2)) (fun _ => [(hM, .inr (11, [.int (nI mf), .int (nI mn), .ref m1, .ref m2, .ref m3, .int (nI mb), .int (nI ra), .int (nI rn), .ref m4, .ref m5, .ref m6, .int (nI mw), .ref m7, .ref m8, .int (nI mh), .ref m9, .ref m10, .int (nI mm), .ref m11, .int (nI mr), .ref m12, .ref m13, .ref m14, .ref m15, .ref m16, .ref m17, .ref m18, .int mt]))]) := by
  refine kMet_i (cc := cX11_unsay) (maxL := 2) (ty := .int) (by decide) rfl (Nat.le_of_ble_eq_true rfl) (fun _ _ _ => rfl) ?_
  intro p e s m args below meth c A Q ls C hlocks hin hN hK hP hD hS hA hl ret
  obtain ⟨hx, hb, hml, hown, hts⟩ := C
  have hl : lv_has ls 2 [(0, .ref hM), (1, .int x)] := hl
  have in_X11 : ∀ w ∈ wsX110, w ∈ wsX11_unsay := by decide +kernel
  have lk0 := hts (.fieldLink RX11 129 "SilkWordModel" "words" "I") (by decide +kernel)
  refine lv_iload_n hx hb dX11_unsay_0 rfl (lv_at hl 1 rfl) ?_
  refine lv_i2l (v := x.toInt64) hx hb dX11_unsay_1 (rfl) ?_
  refine lv_lconst (v := lN 0) hx hb dX11_unsay_2 (by decide) ?_
  refine lv_aload_n hx hb dX11_unsay_3 rfl (lv_at hl 0 rfl) ?_
  refine va_get (D := D) (ci := 11) (v := .int (nI mw)) (C := RX11) (T := TX11) (N := 28) hx hb hts in_X11 hown hK hP 0 rfl rfl 11 (by decide) lk0 (fun _ h9 => h9) rfl dX11_unsay_4 ?_
  refine lv_i2l (v := (lN mw)) hx hb dX11_unsay_7 (nI_l (show mw < 2 ^ 31 by omega)) ?_
  refine k_goi (S := Unit) (va_runS (As := [.long x.toInt64, .long (lN 0), .long (lN mw)]) (rest := []) ⟨hx, hb, hml, hown, hts⟩ (c_X11_in l D cI cZ cS cP x.toInt64 (lN 0) (lN mw)  _) (va_cwS 3 hts gX11_unsay_X11_in rfl rfl rfl (by decide +kernel) ⟨Nat.le_of_ble_eq_true rfl, Nat.le_of_ble_eq_true rfl⟩) (kPreS hN hK hP hD [] rfl rfl) rfl rfl hl.1 rfl (lv_room (Nat.le_of_ble_eq_true rfl)) dX11_unsay_8 ⟨Nat.le_of_ble_eq_true rfl, Nat.le_of_ble_eq_true rfl⟩) hP hD hS hA [] rfl [] rfl (fun _ => rfl) 1 [0] rfl (fun _u => [(hM, .inr (11, [.int (nI mf), .int (nI mn), .ref m1, .ref m2, .ref m3, .int (nI mb), .int (nI ra), .int (nI rn), .ref m4, .ref m5, .ref m6, .int (nI mw), .ref m7, .ref m8, .int (nI mh), .ref m9, .ref m10, .int (nI mm), .ref m11, .int (nI mr), .ref m12, .ref m13, .ref m14, .ref m15, .ref m16, .ref m17, .ref m18, .int mt]))]) (fun _ => rfl) [(hM, .inr (11, [.int (nI mf), .int (nI mn), .ref m1, .ref m2, .ref m3, .int (nI mb), .int (nI ra), .int (nI rn), .ref m4, .ref m5, .ref m6, .int (nI mw), .ref m7, .ref m8, .int (nI mh), .ref m9, .ref m10, .int (nI mm), .ref m11, .int (nI mr), .ref m12, .ref m13, .ref m14, .ref m15, .ref m16, .ref m17, .ref m18, .int mt]))] [] (fun _ => rfl) rfl (fun _ => rfl) rfl (fun r_1 _u H locs hr_2 hP hD hS => ?_)
  have hP : va_P D vwCl [(hM, .inr (11, [.int (nI mf), .int (nI mn), .ref m1, .ref m2, .ref m3, .int (nI mb), .int (nI ra), .int (nI rn), .ref m4, .ref m5, .ref m6, .int (nI mw), .ref m7, .ref m8, .int (nI mh), .ref m9, .ref m10, .int (nI mm), .ref m11, .int (nI mr), .ref m12, .ref m13, .ref m14, .ref m15, .ref m16, .ref m17, .ref m18, .int mt]))] H := hP
  have hD : va_D A [(hM, .inr (11, [.int (nI mf), .int (nI mn), .ref m1, .ref m2, .ref m3, .int (nI mb), .int (nI ra), .int (nI rn), .ref m4, .ref m5, .ref m6, .int (nI mw), .ref m7, .ref m8, .int (nI mh), .ref m9, .ref m10, .int (nI mm), .ref m11, .int (nI mr), .ref m12, .ref m13, .ref m14, .ref m15, .ref m16, .ref m17, .ref m18, .int mt]))] := hD
  subst hr_2
  refine k_eqi (show (nI (if (lN 0) ≤ x.toInt64 ∧ x.toInt64 ≤ (lN mw) then 1 else 0)) = (nI (if inR x (mw + 1) then 1 else 0)) from congrArg nI (k_ifc (inMk (by omega)))) ?_
  refine k_ifc_ne (tgt := 17) hx hb dX11_unsay_11 (by decide) (fun c_3 => absurd c_3 hx1) (fun c_3 => ?_)
  refine lv_bipush (v := (-2)) hx hb dX11_unsay_14 (by decide) ?_
  exact ret _ () _ _ _ _ dX11_unsay_16 (rfl) hP hD hS
def rm_X11_unsay_ok : Room := { frames := 1, cells := 0, slots := 0, locals := 25 }
set_option maxHeartbeats 4000000 in
set_option maxRecDepth 100000 in
theorem c_X11_unsay_ok (l : Launch) (D : va_G) (cI cZ cS cP : ClassId) (hM : Nat) (m1 : Nat) (m2 : Nat) (m3 : Nat) (m4 : Nat) (m5 : Nat) (m6 : Nat) (m7 : Nat) (m8 : Nat) (m9 : Nat) (m10 : Nat) (m11 : Nat) (m12 : Nat) (m13 : Nat) (m14 : Nat) (m15 : Nat) (m16 : Nat) (m17 : Nat) (m18 : Nat) (mf : Nat) (mn : Nat) (mb : Nat) (ra : Nat) (rn : Nat) (mw : Nat) (mh : Nat) (mm : Nat) (mr : Nat) (mt : Int32) (k : Nat) (hh0 : mw ≤ 7) (hk1 : k ≤ mw) : kMi (S := Unit) l yX11_unsay wsX11_unsay rm_X11_unsay_ok D (kT cI cZ cS cP) [.ref hM, .int (nI k)] [(hM, .inr (11, [.int (nI mf), .int (nI mn), .ref m1, .ref m2, .ref m3, .int (nI mb), .int (nI ra), .int (nI rn), .ref m4, .ref m5, .ref m6, .int (nI mw), .ref m7, .ref m8, .int (nI mh), .ref m9, .ref m10, .int (nI mm), .ref m11, .int (nI mr), .ref m12, .ref m13, .ref m14, .ref m15, .ref m16, .ref m17, .ref m18, .int mt]))] (fun r _ => r = (nI (mw - k))) (fun _ => [(hM, .inr (11, [.int (nI mf), .int (nI mn), .ref m1, .ref m2, .ref m3, .int (nI mb), .int (nI ra), .int (nI rn), .ref m4, .ref m5, .ref m6, .int (nI (mw - k)), .ref m7, .ref m8, .int (nI mh), .ref m9, .ref m10, .int (nI mm), .ref m11, .int (nI mr), .ref m12, .ref m13, .ref m14, .ref m15, .ref m16, .ref m17, .ref m18, .int mt]))]) := by
  refine kMet_i (cc := cX11_unsay) (maxL := 2) (ty := .int) (by decide) rfl (Nat.le_of_ble_eq_true rfl) (fun _ _ _ => rfl) ?_
  intro p e s m args below meth c A Q ls C hlocks hin hN hK hP hD hS hA hl ret
  obtain ⟨hx, hb, hml, hown, hts⟩ := C
  have hl : lv_has ls 2 [(0, .ref hM), (1, .int (nI k))] := hl
  have in_X11 : ∀ w ∈ wsX110, w ∈ wsX11_unsay := by decide +kernel
  have lk0 := hts (.fieldLink RX11 129 "SilkWordModel" "words" "I") (by decide +kernel)
  refine lv_iload_n hx hb dX11_unsay_0 rfl (lv_at hl 1 rfl) ?_
  refine lv_i2l (v := (lN k)) hx hb dX11_unsay_1 (nI_l (show k < 2 ^ 31 by omega)) ?_
  refine lv_lconst (v := lN 0) hx hb dX11_unsay_2 (by decide) ?_
  refine lv_aload_n hx hb dX11_unsay_3 rfl (lv_at hl 0 rfl) ?_
  refine va_get (D := D) (ci := 11) (v := .int (nI mw)) (C := RX11) (T := TX11) (N := 28) hx hb hts in_X11 hown hK hP 0 rfl rfl 11 (by decide) lk0 (fun _ h9 => h9) rfl dX11_unsay_4 ?_
  refine lv_i2l (v := (lN mw)) hx hb dX11_unsay_7 (nI_l (show mw < 2 ^ 31 by omega)) ?_
  refine k_goi (S := Unit) (va_runS (As := [.long (lN k), .long (lN 0), .long (lN mw)]) (rest := []) ⟨hx, hb, hml, hown, hts⟩ (c_X11_in l D cI cZ cS cP (lN k) (lN 0) (lN mw)  _) (va_cwS 3 hts gX11_unsay_X11_in rfl rfl rfl (by decide +kernel) ⟨Nat.le_of_ble_eq_true rfl, Nat.le_of_ble_eq_true rfl⟩) (kPreS hN hK hP hD [] rfl rfl) rfl rfl hl.1 rfl (lv_room (Nat.le_of_ble_eq_true rfl)) dX11_unsay_8 ⟨Nat.le_of_ble_eq_true rfl, Nat.le_of_ble_eq_true rfl⟩) hP hD hS hA [] rfl [] rfl (fun _ => rfl) 1 [0] rfl (fun _u => [(hM, .inr (11, [.int (nI mf), .int (nI mn), .ref m1, .ref m2, .ref m3, .int (nI mb), .int (nI ra), .int (nI rn), .ref m4, .ref m5, .ref m6, .int (nI mw), .ref m7, .ref m8, .int (nI mh), .ref m9, .ref m10, .int (nI mm), .ref m11, .int (nI mr), .ref m12, .ref m13, .ref m14, .ref m15, .ref m16, .ref m17, .ref m18, .int mt]))]) (fun _ => rfl) [(hM, .inr (11, [.int (nI mf), .int (nI mn), .ref m1, .ref m2, .ref m3, .int (nI mb), .int (nI ra), .int (nI rn), .ref m4, .ref m5, .ref m6, .int (nI mw), .ref m7, .ref m8, .int (nI mh), .ref m9, .ref m10, .int (nI mm), .ref m11, .int (nI mr), .ref m12, .ref m13, .ref m14, .ref m15, .ref m16, .ref m17, .ref m18, .int mt]))] [] (fun _ => rfl) rfl (fun _ => rfl) rfl (fun r_1 _u H locs hr_2 hP hD hS => ?_)
  have hP : va_P D vwCl [(hM, .inr (11, [.int (nI mf), .int (nI mn), .ref m1, .ref m2, .ref m3, .int (nI mb), .int (nI ra), .int (nI rn), .ref m4, .ref m5, .ref m6, .int (nI mw), .ref m7, .ref m8, .int (nI mh), .ref m9, .ref m10, .int (nI mm), .ref m11, .int (nI mr), .ref m12, .ref m13, .ref m14, .ref m15, .ref m16, .ref m17, .ref m18, .int mt]))] H := hP
  have hD : va_D A [(hM, .inr (11, [.int (nI mf), .int (nI mn), .ref m1, .ref m2, .ref m3, .int (nI mb), .int (nI ra), .int (nI rn), .ref m4, .ref m5, .ref m6, .int (nI mw), .ref m7, .ref m8, .int (nI mh), .ref m9, .ref m10, .int (nI mm), .ref m11, .int (nI mr), .ref m12, .ref m13, .ref m14, .ref m15, .ref m16, .ref m17, .ref m18, .int mt]))] := hD
  subst hr_2
  refine k_eqi (show (nI (if (lN 0) ≤ (lN k) ∧ (lN k) ≤ (lN mw) then 1 else 0)) = (nI (if inR (nI k) (mw + 1) then 1 else 0)) from congrArg nI (k_ifc (by rw [← t64n (show k < 2 ^ 31 by omega)]; exact inMk (by omega)))) ?_
  refine k_ifc_ne (tgt := 17) hx hb dX11_unsay_11 (by decide) (fun c_3 => ?_) (fun c_3 => absurd ((inR_nI (by omega)).mpr (by omega)) c_3)
  refine lv_aload_n hx hb dX11_unsay_17 rfl (lv_at hl 0 rfl) ?_
  refine lv_dup hx hb dX11_unsay_18 rfl ?_
  refine va_get (D := D) (ci := 11) (v := .int (nI mw)) (C := RX11) (T := TX11) (N := 28) hx hb hts in_X11 hown hK hP 0 rfl rfl 11 (by decide) lk0 (fun _ h9 => h9) rfl dX11_unsay_19 ?_
  refine lv_iload_n hx hb dX11_unsay_22 rfl (lv_at hl 1 rfl) ?_
  refine lv_isub hx hb dX11_unsay_23 ?_
  refine k_eqi (show ((nI mw) - (nI k)) = (nI (mw - k)) from pk_sub (show k ≤ mw by omega)) ?_
  refine va_put (D := D) (ci := 11) (v := .int (nI (mw - k))) (ty := .int) (C := RX11) (T := TX11) (N := 28) hx hb hts in_X11 tyX11 tyX11_ok nmX11 hown hK hP hD hS 0 rfl rfl 11 (by decide) lk0 (fun _ h9 => h9) rfl (by decide +kernel) rfl rfl (Nat.le_of_ble_eq_true rfl) dX11_unsay_24 (fun H locs hP hD hS => ?_)
  have hP : va_P D vwCl [(hM, .inr (11, [.int (nI mf), .int (nI mn), .ref m1, .ref m2, .ref m3, .int (nI mb), .int (nI ra), .int (nI rn), .ref m4, .ref m5, .ref m6, .int (nI (mw - k)), .ref m7, .ref m8, .int (nI mh), .ref m9, .ref m10, .int (nI mm), .ref m11, .int (nI mr), .ref m12, .ref m13, .ref m14, .ref m15, .ref m16, .ref m17, .ref m18, .int mt]))] H := hP
  have hD : va_D A [(hM, .inr (11, [.int (nI mf), .int (nI mn), .ref m1, .ref m2, .ref m3, .int (nI mb), .int (nI ra), .int (nI rn), .ref m4, .ref m5, .ref m6, .int (nI (mw - k)), .ref m7, .ref m8, .int (nI mh), .ref m9, .ref m10, .int (nI mm), .ref m11, .int (nI mr), .ref m12, .ref m13, .ref m14, .ref m15, .ref m16, .ref m17, .ref m18, .int mt]))] := hD
  refine lv_aload_n hx hb dX11_unsay_27 rfl (lv_at hl 0 rfl) ?_
  refine va_get (D := D) (ci := 11) (v := .int (nI (mw - k))) (C := RX11) (T := TX11) (N := 28) hx hb hts in_X11 hown hK hP 0 rfl rfl 11 (by decide) lk0 (fun _ h9 => h9) rfl dX11_unsay_28 ?_
  exact ret _ () _ _ _ _ dX11_unsay_31 (rfl) hP hD hS
def rm_X11_forget_o : Room := { frames := 1, cells := 0, slots := 0, locals := 25 }
set_option maxHeartbeats 4000000 in
set_option maxRecDepth 100000 in
theorem c_X11_forget_o (l : Launch) (D : va_G) (cI cZ cS cP : ClassId) (hM : Nat) (m1 : Nat) (m2 : Nat) (m3 : Nat) (m4 : Nat) (m5 : Nat) (m6 : Nat) (m7 : Nat) (m8 : Nat) (m9 : Nat) (m10 : Nat) (m11 : Nat) (m12 : Nat) (m13 : Nat) (m14 : Nat) (m15 : Nat) (m16 : Nat) (m17 : Nat) (m18 : Nat) (mf : Nat) (mn : Nat) (mb : Nat) (ra : Nat) (rn : Nat) (mw : Nat) (mh : Nat) (mm : Nat) (mr : Nat) (mt : Int32) (x : Int32) (hh0 : mh ≤ 7) (hx1 : ¬ inR x (mh + 1)) : kMi (S := Unit) l yX11_forget wsX11_forget rm_X11_forget_o D (kT cI cZ cS cP) [.ref hM, .int x] [(hM, .inr (11, [.int (nI mf), .int (nI mn), .ref m1, .ref m2, .ref m3, .int (nI mb), .int (nI ra), .int (nI rn), .ref m4, .ref m5, .ref m6, .int (nI mw), .ref m7, .ref m8, .int (nI mh), .ref m9, .ref m10, .int (nI mm), .ref m11, .int (nI mr), .ref m12, .ref m13, .ref m14, .ref m15, .ref m16, .ref m17, .ref m18, .int mt]))] (fun r _ => r = (-2)) (fun _ => [(hM, .inr (11, [.int (nI mf), .int (nI mn), .ref m1, .ref m2, .ref m3, .int (nI mb), .int (nI ra), .int (nI rn), .ref m4, .ref m5, .ref m6, .int (nI mw), .ref m7, .ref m8, .int (nI mh), .ref m9, .ref m10, .int (nI mm), .ref m11, .int (nI mr), .ref m12, .ref m13, .ref m14, .ref m15, .ref m16, .ref m17, .ref m18, .int mt]))]) := by
  refine kMet_i (cc := cX11_forget) (maxL := 2) (ty := .int) (by decide) rfl (Nat.le_of_ble_eq_true rfl) (fun _ _ _ => rfl) ?_
  intro p e s m args below meth c A Q ls C hlocks hin hN hK hP hD hS hA hl ret
  obtain ⟨hx, hb, hml, hown, hts⟩ := C
  have hl : lv_has ls 2 [(0, .ref hM), (1, .int x)] := hl
  have in_X11 : ∀ w ∈ wsX110, w ∈ wsX11_forget := by decide +kernel
  have lk0 := hts (.fieldLink RX11 132 "SilkWordModel" "whispersNow" "I") (by decide +kernel)
  refine lv_iload_n hx hb dX11_forget_0 rfl (lv_at hl 1 rfl) ?_
  refine lv_i2l (v := x.toInt64) hx hb dX11_forget_1 (rfl) ?_
  refine lv_lconst (v := lN 0) hx hb dX11_forget_2 (by decide) ?_
  refine lv_aload_n hx hb dX11_forget_3 rfl (lv_at hl 0 rfl) ?_
  refine va_get (D := D) (ci := 11) (v := .int (nI mh)) (C := RX11) (T := TX11) (N := 28) hx hb hts in_X11 hown hK hP 0 rfl rfl 14 (by decide) lk0 (fun _ h9 => h9) rfl dX11_forget_4 ?_
  refine lv_i2l (v := (lN mh)) hx hb dX11_forget_7 (nI_l (show mh < 2 ^ 31 by omega)) ?_
  refine k_goi (S := Unit) (va_runS (As := [.long x.toInt64, .long (lN 0), .long (lN mh)]) (rest := []) ⟨hx, hb, hml, hown, hts⟩ (c_X11_in l D cI cZ cS cP x.toInt64 (lN 0) (lN mh)  _) (va_cwS 3 hts gX11_forget_X11_in rfl rfl rfl (by decide +kernel) ⟨Nat.le_of_ble_eq_true rfl, Nat.le_of_ble_eq_true rfl⟩) (kPreS hN hK hP hD [] rfl rfl) rfl rfl hl.1 rfl (lv_room (Nat.le_of_ble_eq_true rfl)) dX11_forget_8 ⟨Nat.le_of_ble_eq_true rfl, Nat.le_of_ble_eq_true rfl⟩) hP hD hS hA [] rfl [] rfl (fun _ => rfl) 1 [0] rfl (fun _u => [(hM, .inr (11, [.int (nI mf), .int (nI mn), .ref m1, .ref m2, .ref m3, .int (nI mb), .int (nI ra), .int (nI rn), .ref m4, .ref m5, .ref m6, .int (nI mw), .ref m7, .ref m8, .int (nI mh), .ref m9, .ref m10, .int (nI mm), .ref m11, .int (nI mr), .ref m12, .ref m13, .ref m14, .ref m15, .ref m16, .ref m17, .ref m18, .int mt]))]) (fun _ => rfl) [(hM, .inr (11, [.int (nI mf), .int (nI mn), .ref m1, .ref m2, .ref m3, .int (nI mb), .int (nI ra), .int (nI rn), .ref m4, .ref m5, .ref m6, .int (nI mw), .ref m7, .ref m8, .int (nI mh), .ref m9, .ref m10, .int (nI mm), .ref m11, .int (nI mr), .ref m12, .ref m13, .ref m14, .ref m15, .ref m16, .ref m17, .ref m18, .int mt]))] [] (fun _ => rfl) rfl (fun _ => rfl) rfl (fun r_1 _u H locs hr_2 hP hD hS => ?_)
  have hP : va_P D vwCl [(hM, .inr (11, [.int (nI mf), .int (nI mn), .ref m1, .ref m2, .ref m3, .int (nI mb), .int (nI ra), .int (nI rn), .ref m4, .ref m5, .ref m6, .int (nI mw), .ref m7, .ref m8, .int (nI mh), .ref m9, .ref m10, .int (nI mm), .ref m11, .int (nI mr), .ref m12, .ref m13, .ref m14, .ref m15, .ref m16, .ref m17, .ref m18, .int mt]))] H := hP
  have hD : va_D A [(hM, .inr (11, [.int (nI mf), .int (nI mn), .ref m1, .ref m2, .ref m3, .int (nI mb), .int (nI ra), .int (nI rn), .ref m4, .ref m5, .ref m6, .int (nI mw), .ref m7, .ref m8, .int (nI mh), .ref m9, .ref m10, .int (nI mm), .ref m11, .int (nI mr), .ref m12, .ref m13, .ref m14, .ref m15, .ref m16, .ref m17, .ref m18, .int mt]))] := hD
  subst hr_2
  refine k_eqi (show (nI (if (lN 0) ≤ x.toInt64 ∧ x.toInt64 ≤ (lN mh) then 1 else 0)) = (nI (if inR x (mh + 1) then 1 else 0)) from congrArg nI (k_ifc (inMk (by omega)))) ?_
  refine k_ifc_ne (tgt := 17) hx hb dX11_forget_11 (by decide) (fun c_3 => absurd c_3 hx1) (fun c_3 => ?_)
  refine lv_bipush (v := (-2)) hx hb dX11_forget_14 (by decide) ?_
  exact ret _ () _ _ _ _ dX11_forget_16 (rfl) hP hD hS
def rm_X11_forget_ok : Room := { frames := 1, cells := 0, slots := 0, locals := 25 }
set_option maxHeartbeats 4000000 in
set_option maxRecDepth 100000 in
theorem c_X11_forget_ok (l : Launch) (D : va_G) (cI cZ cS cP : ClassId) (hM : Nat) (m1 : Nat) (m2 : Nat) (m3 : Nat) (m4 : Nat) (m5 : Nat) (m6 : Nat) (m7 : Nat) (m8 : Nat) (m9 : Nat) (m10 : Nat) (m11 : Nat) (m12 : Nat) (m13 : Nat) (m14 : Nat) (m15 : Nat) (m16 : Nat) (m17 : Nat) (m18 : Nat) (mf : Nat) (mn : Nat) (mb : Nat) (ra : Nat) (rn : Nat) (mw : Nat) (mh : Nat) (mm : Nat) (mr : Nat) (mt : Int32) (k : Nat) (hh0 : mh ≤ 7) (hk1 : k ≤ mh) : kMi (S := Unit) l yX11_forget wsX11_forget rm_X11_forget_ok D (kT cI cZ cS cP) [.ref hM, .int (nI k)] [(hM, .inr (11, [.int (nI mf), .int (nI mn), .ref m1, .ref m2, .ref m3, .int (nI mb), .int (nI ra), .int (nI rn), .ref m4, .ref m5, .ref m6, .int (nI mw), .ref m7, .ref m8, .int (nI mh), .ref m9, .ref m10, .int (nI mm), .ref m11, .int (nI mr), .ref m12, .ref m13, .ref m14, .ref m15, .ref m16, .ref m17, .ref m18, .int mt]))] (fun r _ => r = (nI (mh - k))) (fun _ => [(hM, .inr (11, [.int (nI mf), .int (nI mn), .ref m1, .ref m2, .ref m3, .int (nI mb), .int (nI ra), .int (nI rn), .ref m4, .ref m5, .ref m6, .int (nI mw), .ref m7, .ref m8, .int (nI (mh - k)), .ref m9, .ref m10, .int (nI mm), .ref m11, .int (nI mr), .ref m12, .ref m13, .ref m14, .ref m15, .ref m16, .ref m17, .ref m18, .int mt]))]) := by
  refine kMet_i (cc := cX11_forget) (maxL := 2) (ty := .int) (by decide) rfl (Nat.le_of_ble_eq_true rfl) (fun _ _ _ => rfl) ?_
  intro p e s m args below meth c A Q ls C hlocks hin hN hK hP hD hS hA hl ret
  obtain ⟨hx, hb, hml, hown, hts⟩ := C
  have hl : lv_has ls 2 [(0, .ref hM), (1, .int (nI k))] := hl
  have in_X11 : ∀ w ∈ wsX110, w ∈ wsX11_forget := by decide +kernel
  have lk0 := hts (.fieldLink RX11 132 "SilkWordModel" "whispersNow" "I") (by decide +kernel)
  refine lv_iload_n hx hb dX11_forget_0 rfl (lv_at hl 1 rfl) ?_
  refine lv_i2l (v := (lN k)) hx hb dX11_forget_1 (nI_l (show k < 2 ^ 31 by omega)) ?_
  refine lv_lconst (v := lN 0) hx hb dX11_forget_2 (by decide) ?_
  refine lv_aload_n hx hb dX11_forget_3 rfl (lv_at hl 0 rfl) ?_
  refine va_get (D := D) (ci := 11) (v := .int (nI mh)) (C := RX11) (T := TX11) (N := 28) hx hb hts in_X11 hown hK hP 0 rfl rfl 14 (by decide) lk0 (fun _ h9 => h9) rfl dX11_forget_4 ?_
  refine lv_i2l (v := (lN mh)) hx hb dX11_forget_7 (nI_l (show mh < 2 ^ 31 by omega)) ?_
  refine k_goi (S := Unit) (va_runS (As := [.long (lN k), .long (lN 0), .long (lN mh)]) (rest := []) ⟨hx, hb, hml, hown, hts⟩ (c_X11_in l D cI cZ cS cP (lN k) (lN 0) (lN mh)  _) (va_cwS 3 hts gX11_forget_X11_in rfl rfl rfl (by decide +kernel) ⟨Nat.le_of_ble_eq_true rfl, Nat.le_of_ble_eq_true rfl⟩) (kPreS hN hK hP hD [] rfl rfl) rfl rfl hl.1 rfl (lv_room (Nat.le_of_ble_eq_true rfl)) dX11_forget_8 ⟨Nat.le_of_ble_eq_true rfl, Nat.le_of_ble_eq_true rfl⟩) hP hD hS hA [] rfl [] rfl (fun _ => rfl) 1 [0] rfl (fun _u => [(hM, .inr (11, [.int (nI mf), .int (nI mn), .ref m1, .ref m2, .ref m3, .int (nI mb), .int (nI ra), .int (nI rn), .ref m4, .ref m5, .ref m6, .int (nI mw), .ref m7, .ref m8, .int (nI mh), .ref m9, .ref m10, .int (nI mm), .ref m11, .int (nI mr), .ref m12, .ref m13, .ref m14, .ref m15, .ref m16, .ref m17, .ref m18, .int mt]))]) (fun _ => rfl) [(hM, .inr (11, [.int (nI mf), .int (nI mn), .ref m1, .ref m2, .ref m3, .int (nI mb), .int (nI ra), .int (nI rn), .ref m4, .ref m5, .ref m6, .int (nI mw), .ref m7, .ref m8, .int (nI mh), .ref m9, .ref m10, .int (nI mm), .ref m11, .int (nI mr), .ref m12, .ref m13, .ref m14, .ref m15, .ref m16, .ref m17, .ref m18, .int mt]))] [] (fun _ => rfl) rfl (fun _ => rfl) rfl (fun r_1 _u H locs hr_2 hP hD hS => ?_)
  have hP : va_P D vwCl [(hM, .inr (11, [.int (nI mf), .int (nI mn), .ref m1, .ref m2, .ref m3, .int (nI mb), .int (nI ra), .int (nI rn), .ref m4, .ref m5, .ref m6, .int (nI mw), .ref m7, .ref m8, .int (nI mh), .ref m9, .ref m10, .int (nI mm), .ref m11, .int (nI mr), .ref m12, .ref m13, .ref m14, .ref m15, .ref m16, .ref m17, .ref m18, .int mt]))] H := hP
  have hD : va_D A [(hM, .inr (11, [.int (nI mf), .int (nI mn), .ref m1, .ref m2, .ref m3, .int (nI mb), .int (nI ra), .int (nI rn), .ref m4, .ref m5, .ref m6, .int (nI mw), .ref m7, .ref m8, .int (nI mh), .ref m9, .ref m10, .int (nI mm), .ref m11, .int (nI mr), .ref m12, .ref m13, .ref m14, .ref m15, .ref m16, .ref m17, .ref m18, .int mt]))] := hD
  subst hr_2
  refine k_eqi (show (nI (if (lN 0) ≤ (lN k) ∧ (lN k) ≤ (lN mh) then 1 else 0)) = (nI (if inR (nI k) (mh + 1) then 1 else 0)) from congrArg nI (k_ifc (by rw [← t64n (show k < 2 ^ 31 by omega)]; exact inMk (by omega)))) ?_
  refine k_ifc_ne (tgt := 17) hx hb dX11_forget_11 (by decide) (fun c_3 => ?_) (fun c_3 => absurd ((inR_nI (by omega)).mpr (by omega)) c_3)
  refine lv_aload_n hx hb dX11_forget_17 rfl (lv_at hl 0 rfl) ?_
  refine lv_dup hx hb dX11_forget_18 rfl ?_
  refine va_get (D := D) (ci := 11) (v := .int (nI mh)) (C := RX11) (T := TX11) (N := 28) hx hb hts in_X11 hown hK hP 0 rfl rfl 14 (by decide) lk0 (fun _ h9 => h9) rfl dX11_forget_19 ?_
  refine lv_iload_n hx hb dX11_forget_22 rfl (lv_at hl 1 rfl) ?_
  refine lv_isub hx hb dX11_forget_23 ?_
  refine k_eqi (show ((nI mh) - (nI k)) = (nI (mh - k)) from pk_sub (show k ≤ mh by omega)) ?_
  refine va_put (D := D) (ci := 11) (v := .int (nI (mh - k))) (ty := .int) (C := RX11) (T := TX11) (N := 28) hx hb hts in_X11 tyX11 tyX11_ok nmX11 hown hK hP hD hS 0 rfl rfl 14 (by decide) lk0 (fun _ h9 => h9) rfl (by decide +kernel) rfl rfl (Nat.le_of_ble_eq_true rfl) dX11_forget_24 (fun H locs hP hD hS => ?_)
  have hP : va_P D vwCl [(hM, .inr (11, [.int (nI mf), .int (nI mn), .ref m1, .ref m2, .ref m3, .int (nI mb), .int (nI ra), .int (nI rn), .ref m4, .ref m5, .ref m6, .int (nI mw), .ref m7, .ref m8, .int (nI (mh - k)), .ref m9, .ref m10, .int (nI mm), .ref m11, .int (nI mr), .ref m12, .ref m13, .ref m14, .ref m15, .ref m16, .ref m17, .ref m18, .int mt]))] H := hP
  have hD : va_D A [(hM, .inr (11, [.int (nI mf), .int (nI mn), .ref m1, .ref m2, .ref m3, .int (nI mb), .int (nI ra), .int (nI rn), .ref m4, .ref m5, .ref m6, .int (nI mw), .ref m7, .ref m8, .int (nI (mh - k)), .ref m9, .ref m10, .int (nI mm), .ref m11, .int (nI mr), .ref m12, .ref m13, .ref m14, .ref m15, .ref m16, .ref m17, .ref m18, .int mt]))] := hD
  refine lv_aload_n hx hb dX11_forget_27 rfl (lv_at hl 0 rfl) ?_
  refine va_get (D := D) (ci := 11) (v := .int (nI (mh - k))) (C := RX11) (T := TX11) (N := 28) hx hb hts in_X11 hown hK hP 0 rfl rfl 14 (by decide) lk0 (fun _ h9 => h9) rfl dX11_forget_28 ?_
  exact ret _ () _ _ _ _ dX11_forget_31 (rfl) hP hD hS
def rm_X11_back_o : Room := { frames := 1, cells := 0, slots := 0, locals := 25 }
set_option maxHeartbeats 4000000 in
set_option maxRecDepth 100000 in
theorem c_X11_back_o (l : Launch) (D : va_G) (cI cZ cS cP : ClassId) (hM : Nat) (m1 : Nat) (m2 : Nat) (m3 : Nat) (m4 : Nat) (m5 : Nat) (m6 : Nat) (m7 : Nat) (m8 : Nat) (m9 : Nat) (m10 : Nat) (m11 : Nat) (m12 : Nat) (m13 : Nat) (m14 : Nat) (m15 : Nat) (m16 : Nat) (m17 : Nat) (m18 : Nat) (mf : Nat) (mn : Nat) (mb : Nat) (ra : Nat) (rn : Nat) (mw : Nat) (mh : Nat) (mm : Nat) (mr : Nat) (mt : Int32) (x : Int32) (hh0 : mr ≤ 8) (hx1 : ¬ inR x (mr + 1)) : kMi (S := Unit) l yX11_back wsX11_back rm_X11_back_o D (kT cI cZ cS cP) [.ref hM, .int x] [(hM, .inr (11, [.int (nI mf), .int (nI mn), .ref m1, .ref m2, .ref m3, .int (nI mb), .int (nI ra), .int (nI rn), .ref m4, .ref m5, .ref m6, .int (nI mw), .ref m7, .ref m8, .int (nI mh), .ref m9, .ref m10, .int (nI mm), .ref m11, .int (nI mr), .ref m12, .ref m13, .ref m14, .ref m15, .ref m16, .ref m17, .ref m18, .int mt]))] (fun r _ => r = (-2)) (fun _ => [(hM, .inr (11, [.int (nI mf), .int (nI mn), .ref m1, .ref m2, .ref m3, .int (nI mb), .int (nI ra), .int (nI rn), .ref m4, .ref m5, .ref m6, .int (nI mw), .ref m7, .ref m8, .int (nI mh), .ref m9, .ref m10, .int (nI mm), .ref m11, .int (nI mr), .ref m12, .ref m13, .ref m14, .ref m15, .ref m16, .ref m17, .ref m18, .int mt]))]) := by
  refine kMet_i (cc := cX11_back) (maxL := 2) (ty := .int) (by decide) rfl (Nat.le_of_ble_eq_true rfl) (fun _ _ _ => rfl) ?_
  intro p e s m args below meth c A Q ls C hlocks hin hN hK hP hD hS hA hl ret
  obtain ⟨hx, hb, hml, hown, hts⟩ := C
  have hl : lv_has ls 2 [(0, .ref hM), (1, .int x)] := hl
  have in_X11 : ∀ w ∈ wsX110, w ∈ wsX11_back := by decide +kernel
  have lk0 := hts (.fieldLink RX11 135 "SilkWordModel" "readings" "I") (by decide +kernel)
  refine lv_iload_n hx hb dX11_back_0 rfl (lv_at hl 1 rfl) ?_
  refine lv_i2l (v := x.toInt64) hx hb dX11_back_1 (rfl) ?_
  refine lv_lconst (v := lN 0) hx hb dX11_back_2 (by decide) ?_
  refine lv_aload_n hx hb dX11_back_3 rfl (lv_at hl 0 rfl) ?_
  refine va_get (D := D) (ci := 11) (v := .int (nI mr)) (C := RX11) (T := TX11) (N := 28) hx hb hts in_X11 hown hK hP 0 rfl rfl 19 (by decide) lk0 (fun _ h9 => h9) rfl dX11_back_4 ?_
  refine lv_i2l (v := (lN mr)) hx hb dX11_back_7 (nI_l (show mr < 2 ^ 31 by omega)) ?_
  refine k_goi (S := Unit) (va_runS (As := [.long x.toInt64, .long (lN 0), .long (lN mr)]) (rest := []) ⟨hx, hb, hml, hown, hts⟩ (c_X11_in l D cI cZ cS cP x.toInt64 (lN 0) (lN mr)  _) (va_cwS 3 hts gX11_back_X11_in rfl rfl rfl (by decide +kernel) ⟨Nat.le_of_ble_eq_true rfl, Nat.le_of_ble_eq_true rfl⟩) (kPreS hN hK hP hD [] rfl rfl) rfl rfl hl.1 rfl (lv_room (Nat.le_of_ble_eq_true rfl)) dX11_back_8 ⟨Nat.le_of_ble_eq_true rfl, Nat.le_of_ble_eq_true rfl⟩) hP hD hS hA [] rfl [] rfl (fun _ => rfl) 1 [0] rfl (fun _u => [(hM, .inr (11, [.int (nI mf), .int (nI mn), .ref m1, .ref m2, .ref m3, .int (nI mb), .int (nI ra), .int (nI rn), .ref m4, .ref m5, .ref m6, .int (nI mw), .ref m7, .ref m8, .int (nI mh), .ref m9, .ref m10, .int (nI mm), .ref m11, .int (nI mr), .ref m12, .ref m13, .ref m14, .ref m15, .ref m16, .ref m17, .ref m18, .int mt]))]) (fun _ => rfl) [(hM, .inr (11, [.int (nI mf), .int (nI mn), .ref m1, .ref m2, .ref m3, .int (nI mb), .int (nI ra), .int (nI rn), .ref m4, .ref m5, .ref m6, .int (nI mw), .ref m7, .ref m8, .int (nI mh), .ref m9, .ref m10, .int (nI mm), .ref m11, .int (nI mr), .ref m12, .ref m13, .ref m14, .ref m15, .ref m16, .ref m17, .ref m18, .int mt]))] [] (fun _ => rfl) rfl (fun _ => rfl) rfl (fun r_1 _u H locs hr_2 hP hD hS => ?_)
  have hP : va_P D vwCl [(hM, .inr (11, [.int (nI mf), .int (nI mn), .ref m1, .ref m2, .ref m3, .int (nI mb), .int (nI ra), .int (nI rn), .ref m4, .ref m5, .ref m6, .int (nI mw), .ref m7, .ref m8, .int (nI mh), .ref m9, .ref m10, .int (nI mm), .ref m11, .int (nI mr), .ref m12, .ref m13, .ref m14, .ref m15, .ref m16, .ref m17, .ref m18, .int mt]))] H := hP
  have hD : va_D A [(hM, .inr (11, [.int (nI mf), .int (nI mn), .ref m1, .ref m2, .ref m3, .int (nI mb), .int (nI ra), .int (nI rn), .ref m4, .ref m5, .ref m6, .int (nI mw), .ref m7, .ref m8, .int (nI mh), .ref m9, .ref m10, .int (nI mm), .ref m11, .int (nI mr), .ref m12, .ref m13, .ref m14, .ref m15, .ref m16, .ref m17, .ref m18, .int mt]))] := hD
  subst hr_2
  refine k_eqi (show (nI (if (lN 0) ≤ x.toInt64 ∧ x.toInt64 ≤ (lN mr) then 1 else 0)) = (nI (if inR x (mr + 1) then 1 else 0)) from congrArg nI (k_ifc (inMk (by omega)))) ?_
  refine k_ifc_ne (tgt := 17) hx hb dX11_back_11 (by decide) (fun c_3 => absurd c_3 hx1) (fun c_3 => ?_)
  refine lv_bipush (v := (-2)) hx hb dX11_back_14 (by decide) ?_
  exact ret _ () _ _ _ _ dX11_back_16 (rfl) hP hD hS
def rm_X11_back_ok : Room := { frames := 1, cells := 0, slots := 0, locals := 25 }
set_option maxHeartbeats 4000000 in
set_option maxRecDepth 100000 in
theorem c_X11_back_ok (l : Launch) (D : va_G) (cI cZ cS cP : ClassId) (hM : Nat) (m1 : Nat) (m2 : Nat) (m3 : Nat) (m4 : Nat) (m5 : Nat) (m6 : Nat) (m7 : Nat) (m8 : Nat) (m9 : Nat) (m10 : Nat) (m11 : Nat) (m12 : Nat) (m13 : Nat) (m14 : Nat) (m15 : Nat) (m16 : Nat) (m17 : Nat) (m18 : Nat) (mf : Nat) (mn : Nat) (mb : Nat) (ra : Nat) (rn : Nat) (mw : Nat) (mh : Nat) (mm : Nat) (mr : Nat) (mt : Int32) (k : Nat) (hh0 : mr ≤ 8) (hk1 : k ≤ mr) : kMi (S := Unit) l yX11_back wsX11_back rm_X11_back_ok D (kT cI cZ cS cP) [.ref hM, .int (nI k)] [(hM, .inr (11, [.int (nI mf), .int (nI mn), .ref m1, .ref m2, .ref m3, .int (nI mb), .int (nI ra), .int (nI rn), .ref m4, .ref m5, .ref m6, .int (nI mw), .ref m7, .ref m8, .int (nI mh), .ref m9, .ref m10, .int (nI mm), .ref m11, .int (nI mr), .ref m12, .ref m13, .ref m14, .ref m15, .ref m16, .ref m17, .ref m18, .int mt]))] (fun r _ => r = (nI (mr - k))) (fun _ => [(hM, .inr (11, [.int (nI mf), .int (nI mn), .ref m1, .ref m2, .ref m3, .int (nI mb), .int (nI ra), .int (nI rn), .ref m4, .ref m5, .ref m6, .int (nI mw), .ref m7, .ref m8, .int (nI mh), .ref m9, .ref m10, .int (nI mm), .ref m11, .int (nI (mr - k)), .ref m12, .ref m13, .ref m14, .ref m15, .ref m16, .ref m17, .ref m18, .int mt]))]) := by
  refine kMet_i (cc := cX11_back) (maxL := 2) (ty := .int) (by decide) rfl (Nat.le_of_ble_eq_true rfl) (fun _ _ _ => rfl) ?_
  intro p e s m args below meth c A Q ls C hlocks hin hN hK hP hD hS hA hl ret
  obtain ⟨hx, hb, hml, hown, hts⟩ := C
  have hl : lv_has ls 2 [(0, .ref hM), (1, .int (nI k))] := hl
  have in_X11 : ∀ w ∈ wsX110, w ∈ wsX11_back := by decide +kernel
  have lk0 := hts (.fieldLink RX11 135 "SilkWordModel" "readings" "I") (by decide +kernel)
  refine lv_iload_n hx hb dX11_back_0 rfl (lv_at hl 1 rfl) ?_
  refine lv_i2l (v := (lN k)) hx hb dX11_back_1 (nI_l (show k < 2 ^ 31 by omega)) ?_
  refine lv_lconst (v := lN 0) hx hb dX11_back_2 (by decide) ?_
  refine lv_aload_n hx hb dX11_back_3 rfl (lv_at hl 0 rfl) ?_
  refine va_get (D := D) (ci := 11) (v := .int (nI mr)) (C := RX11) (T := TX11) (N := 28) hx hb hts in_X11 hown hK hP 0 rfl rfl 19 (by decide) lk0 (fun _ h9 => h9) rfl dX11_back_4 ?_
  refine lv_i2l (v := (lN mr)) hx hb dX11_back_7 (nI_l (show mr < 2 ^ 31 by omega)) ?_
  refine k_goi (S := Unit) (va_runS (As := [.long (lN k), .long (lN 0), .long (lN mr)]) (rest := []) ⟨hx, hb, hml, hown, hts⟩ (c_X11_in l D cI cZ cS cP (lN k) (lN 0) (lN mr)  _) (va_cwS 3 hts gX11_back_X11_in rfl rfl rfl (by decide +kernel) ⟨Nat.le_of_ble_eq_true rfl, Nat.le_of_ble_eq_true rfl⟩) (kPreS hN hK hP hD [] rfl rfl) rfl rfl hl.1 rfl (lv_room (Nat.le_of_ble_eq_true rfl)) dX11_back_8 ⟨Nat.le_of_ble_eq_true rfl, Nat.le_of_ble_eq_true rfl⟩) hP hD hS hA [] rfl [] rfl (fun _ => rfl) 1 [0] rfl (fun _u => [(hM, .inr (11, [.int (nI mf), .int (nI mn), .ref m1, .ref m2, .ref m3, .int (nI mb), .int (nI ra), .int (nI rn), .ref m4, .ref m5, .ref m6, .int (nI mw), .ref m7, .ref m8, .int (nI mh), .ref m9, .ref m10, .int (nI mm), .ref m11, .int (nI mr), .ref m12, .ref m13, .ref m14, .ref m15, .ref m16, .ref m17, .ref m18, .int mt]))]) (fun _ => rfl) [(hM, .inr (11, [.int (nI mf), .int (nI mn), .ref m1, .ref m2, .ref m3, .int (nI mb), .int (nI ra), .int (nI rn), .ref m4, .ref m5, .ref m6, .int (nI mw), .ref m7, .ref m8, .int (nI mh), .ref m9, .ref m10, .int (nI mm), .ref m11, .int (nI mr), .ref m12, .ref m13, .ref m14, .ref m15, .ref m16, .ref m17, .ref m18, .int mt]))] [] (fun _ => rfl) rfl (fun _ => rfl) rfl (fun r_1 _u H locs hr_2 hP hD hS => ?_)
  have hP : va_P D vwCl [(hM, .inr (11, [.int (nI mf), .int (nI mn), .ref m1, .ref m2, .ref m3, .int (nI mb), .int (nI ra), .int (nI rn), .ref m4, .ref m5, .ref m6, .int (nI mw), .ref m7, .ref m8, .int (nI mh), .ref m9, .ref m10, .int (nI mm), .ref m11, .int (nI mr), .ref m12, .ref m13, .ref m14, .ref m15, .ref m16, .ref m17, .ref m18, .int mt]))] H := hP
  have hD : va_D A [(hM, .inr (11, [.int (nI mf), .int (nI mn), .ref m1, .ref m2, .ref m3, .int (nI mb), .int (nI ra), .int (nI rn), .ref m4, .ref m5, .ref m6, .int (nI mw), .ref m7, .ref m8, .int (nI mh), .ref m9, .ref m10, .int (nI mm), .ref m11, .int (nI mr), .ref m12, .ref m13, .ref m14, .ref m15, .ref m16, .ref m17, .ref m18, .int mt]))] := hD
  subst hr_2
  refine k_eqi (show (nI (if (lN 0) ≤ (lN k) ∧ (lN k) ≤ (lN mr) then 1 else 0)) = (nI (if inR (nI k) (mr + 1) then 1 else 0)) from congrArg nI (k_ifc (by rw [← t64n (show k < 2 ^ 31 by omega)]; exact inMk (by omega)))) ?_
  refine k_ifc_ne (tgt := 17) hx hb dX11_back_11 (by decide) (fun c_3 => ?_) (fun c_3 => absurd ((inR_nI (by omega)).mpr (by omega)) c_3)
  refine lv_aload_n hx hb dX11_back_17 rfl (lv_at hl 0 rfl) ?_
  refine lv_dup hx hb dX11_back_18 rfl ?_
  refine va_get (D := D) (ci := 11) (v := .int (nI mr)) (C := RX11) (T := TX11) (N := 28) hx hb hts in_X11 hown hK hP 0 rfl rfl 19 (by decide) lk0 (fun _ h9 => h9) rfl dX11_back_19 ?_
  refine lv_iload_n hx hb dX11_back_22 rfl (lv_at hl 1 rfl) ?_
  refine lv_isub hx hb dX11_back_23 ?_
  refine k_eqi (show ((nI mr) - (nI k)) = (nI (mr - k)) from pk_sub (show k ≤ mr by omega)) ?_
  refine va_put (D := D) (ci := 11) (v := .int (nI (mr - k))) (ty := .int) (C := RX11) (T := TX11) (N := 28) hx hb hts in_X11 tyX11 tyX11_ok nmX11 hown hK hP hD hS 0 rfl rfl 19 (by decide) lk0 (fun _ h9 => h9) rfl (by decide +kernel) rfl rfl (Nat.le_of_ble_eq_true rfl) dX11_back_24 (fun H locs hP hD hS => ?_)
  have hP : va_P D vwCl [(hM, .inr (11, [.int (nI mf), .int (nI mn), .ref m1, .ref m2, .ref m3, .int (nI mb), .int (nI ra), .int (nI rn), .ref m4, .ref m5, .ref m6, .int (nI mw), .ref m7, .ref m8, .int (nI mh), .ref m9, .ref m10, .int (nI mm), .ref m11, .int (nI (mr - k)), .ref m12, .ref m13, .ref m14, .ref m15, .ref m16, .ref m17, .ref m18, .int mt]))] H := hP
  have hD : va_D A [(hM, .inr (11, [.int (nI mf), .int (nI mn), .ref m1, .ref m2, .ref m3, .int (nI mb), .int (nI ra), .int (nI rn), .ref m4, .ref m5, .ref m6, .int (nI mw), .ref m7, .ref m8, .int (nI mh), .ref m9, .ref m10, .int (nI mm), .ref m11, .int (nI (mr - k)), .ref m12, .ref m13, .ref m14, .ref m15, .ref m16, .ref m17, .ref m18, .int mt]))] := hD
  refine lv_aload_n hx hb dX11_back_27 rfl (lv_at hl 0 rfl) ?_
  refine va_get (D := D) (ci := 11) (v := .int (nI (mr - k))) (C := RX11) (T := TX11) (N := 28) hx hb hts in_X11 hown hK hP 0 rfl rfl 19 (by decide) lk0 (fun _ h9 => h9) rfl dX11_back_28 ?_
  exact ret _ () _ _ _ _ dX11_back_31 (rfl) hP hD hS
def rm_X11_many_1 : Room := { frames := 0, cells := 0, slots := 0, locals := 0 }
set_option maxHeartbeats 4000000 in
set_option maxRecDepth 100000 in
theorem c_X11_many_1 (l : Launch) (D : va_G) (cI cZ cS cP : ClassId) (hM : Nat) (m1 : Nat) (m2 : Nat) (m3 : Nat) (m4 : Nat) (m5 : Nat) (m6 : Nat) (m7 : Nat) (m8 : Nat) (m9 : Nat) (m10 : Nat) (m11 : Nat) (m12 : Nat) (m13 : Nat) (m14 : Nat) (m15 : Nat) (m16 : Nat) (m17 : Nat) (m18 : Nat) (mf : Nat) (mn : Nat) (mb : Nat) (ra : Nat) (rn : Nat) (mw : Nat) (mh : Nat) (mm : Nat) (mr : Nat) (mt : Int32) : kMi (S := Unit) l yX11_many wsX11_many rm_X11_many_1 D (kT cI cZ cS cP) [.ref hM, .int (nI 1)] [(hM, .inr (11, [.int (nI mf), .int (nI mn), .ref m1, .ref m2, .ref m3, .int (nI mb), .int (nI ra), .int (nI rn), .ref m4, .ref m5, .ref m6, .int (nI mw), .ref m7, .ref m8, .int (nI mh), .ref m9, .ref m10, .int (nI mm), .ref m11, .int (nI mr), .ref m12, .ref m13, .ref m14, .ref m15, .ref m16, .ref m17, .ref m18, .int mt]))] (fun r _ => r = (nI mw)) (fun _ => [(hM, .inr (11, [.int (nI mf), .int (nI mn), .ref m1, .ref m2, .ref m3, .int (nI mb), .int (nI ra), .int (nI rn), .ref m4, .ref m5, .ref m6, .int (nI mw), .ref m7, .ref m8, .int (nI mh), .ref m9, .ref m10, .int (nI mm), .ref m11, .int (nI mr), .ref m12, .ref m13, .ref m14, .ref m15, .ref m16, .ref m17, .ref m18, .int mt]))]) := by
  refine kMet_i (cc := cX11_many) (maxL := 2) (ty := .int) (by decide) rfl (Nat.le_of_ble_eq_true rfl) (fun _ _ _ => rfl) ?_
  intro p e s m args below meth c A Q ls C hlocks hin hN hK hP hD hS hA hl ret
  obtain ⟨hx, hb, hml, hown, hts⟩ := C
  have hl : lv_has ls 2 [(0, .ref hM), (1, .int (nI 1))] := hl
  have in_X11 : ∀ w ∈ wsX110, w ∈ wsX11_many := by decide +kernel
  have lk0 := hts (.fieldLink RX11 75 "SilkWordModel" "persons" "I") (by decide +kernel)
  have lk1 := hts (.fieldLink RX11 129 "SilkWordModel" "words" "I") (by decide +kernel)
  have lk2 := hts (.fieldLink RX11 132 "SilkWordModel" "whispersNow" "I") (by decide +kernel)
  have lk3 := hts (.fieldLink RX11 135 "SilkWordModel" "readings" "I") (by decide +kernel)
  refine lv_iload_n hx hb dX11_many_0 rfl (lv_at hl 1 rfl) ?_
  rcases (show 1 = 0 ∨ 1 = 1 ∨ 1 = 2 ∨ 1 = 3 ∨ (1 < 0 ∨ 3 < 1) by omega) with c_1 | c_1 | c_1 | c_1 | c_1
  · skip
    refine lv_tableIn (off := 31) (tgt := 32) hx hb dX11_many_1 (by rw [c_1]; decide) (by rw [c_1]; decide) (by rw [c_1]; decide) (by decide) ?_
    refine lv_aload_n hx hb dX11_many_32 rfl (lv_at hl 0 rfl) ?_
    refine va_get (D := D) (ci := 11) (v := .int (nI mn)) (C := RX11) (T := TX11) (N := 28) hx hb hts in_X11 hown hK hP 0 rfl rfl 1 (by decide) lk0 (fun _ h9 => h9) rfl dX11_many_33 ?_
    exact ret _ () _ _ _ _ dX11_many_36 (congrArg nI (show mn = mw by first | rfl | omega)) hP hD hS
  · skip
    refine lv_tableIn (off := 36) (tgt := 37) hx hb dX11_many_1 (by rw [c_1]; decide) (by rw [c_1]; decide) (by rw [c_1]; decide) (by decide) ?_
    refine lv_aload_n hx hb dX11_many_37 rfl (lv_at hl 0 rfl) ?_
    refine va_get (D := D) (ci := 11) (v := .int (nI mw)) (C := RX11) (T := TX11) (N := 28) hx hb hts in_X11 hown hK hP 0 rfl rfl 11 (by decide) lk1 (fun _ h9 => h9) rfl dX11_many_38 ?_
    exact ret _ () _ _ _ _ dX11_many_41 (rfl) hP hD hS
  · skip
    refine lv_tableIn (off := 41) (tgt := 42) hx hb dX11_many_1 (by rw [c_1]; decide) (by rw [c_1]; decide) (by rw [c_1]; decide) (by decide) ?_
    refine lv_aload_n hx hb dX11_many_42 rfl (lv_at hl 0 rfl) ?_
    refine va_get (D := D) (ci := 11) (v := .int (nI mh)) (C := RX11) (T := TX11) (N := 28) hx hb hts in_X11 hown hK hP 0 rfl rfl 14 (by decide) lk2 (fun _ h9 => h9) rfl dX11_many_43 ?_
    exact ret _ () _ _ _ _ dX11_many_46 (congrArg nI (show mh = mw by first | rfl | omega)) hP hD hS
  · skip
    refine lv_tableIn (off := 46) (tgt := 47) hx hb dX11_many_1 (by rw [c_1]; decide) (by rw [c_1]; decide) (by rw [c_1]; decide) (by decide) ?_
    refine lv_aload_n hx hb dX11_many_47 rfl (lv_at hl 0 rfl) ?_
    refine va_get (D := D) (ci := 11) (v := .int (nI mr)) (C := RX11) (T := TX11) (N := 28) hx hb hts in_X11 hown hK hP 0 rfl rfl 19 (by decide) lk3 (fun _ h9 => h9) rfl dX11_many_48 ?_
    exact ret _ () _ _ _ _ dX11_many_51 (congrArg nI (show mr = mw by first | rfl | omega)) hP hD hS
  · skip
    refine lv_tableOut (tgt := 52) hx hb dX11_many_1 (by rw [nI_toInt (by omega)]; omega) (by decide) ?_
    refine lv_bipush (v := (-2)) hx hb dX11_many_52 (by decide) ?_
    exact ret _ () _ _ _ _ dX11_many_54 (show ((-2) : Int32) = (nI mw) by first | rfl | omega) hP hD hS
def rm_X11_many_2 : Room := { frames := 0, cells := 0, slots := 0, locals := 0 }
set_option maxHeartbeats 4000000 in
set_option maxRecDepth 100000 in
theorem c_X11_many_2 (l : Launch) (D : va_G) (cI cZ cS cP : ClassId) (hM : Nat) (m1 : Nat) (m2 : Nat) (m3 : Nat) (m4 : Nat) (m5 : Nat) (m6 : Nat) (m7 : Nat) (m8 : Nat) (m9 : Nat) (m10 : Nat) (m11 : Nat) (m12 : Nat) (m13 : Nat) (m14 : Nat) (m15 : Nat) (m16 : Nat) (m17 : Nat) (m18 : Nat) (mf : Nat) (mn : Nat) (mb : Nat) (ra : Nat) (rn : Nat) (mw : Nat) (mh : Nat) (mm : Nat) (mr : Nat) (mt : Int32) : kMi (S := Unit) l yX11_many wsX11_many rm_X11_many_2 D (kT cI cZ cS cP) [.ref hM, .int (nI 2)] [(hM, .inr (11, [.int (nI mf), .int (nI mn), .ref m1, .ref m2, .ref m3, .int (nI mb), .int (nI ra), .int (nI rn), .ref m4, .ref m5, .ref m6, .int (nI mw), .ref m7, .ref m8, .int (nI mh), .ref m9, .ref m10, .int (nI mm), .ref m11, .int (nI mr), .ref m12, .ref m13, .ref m14, .ref m15, .ref m16, .ref m17, .ref m18, .int mt]))] (fun r _ => r = (nI mh)) (fun _ => [(hM, .inr (11, [.int (nI mf), .int (nI mn), .ref m1, .ref m2, .ref m3, .int (nI mb), .int (nI ra), .int (nI rn), .ref m4, .ref m5, .ref m6, .int (nI mw), .ref m7, .ref m8, .int (nI mh), .ref m9, .ref m10, .int (nI mm), .ref m11, .int (nI mr), .ref m12, .ref m13, .ref m14, .ref m15, .ref m16, .ref m17, .ref m18, .int mt]))]) := by
  refine kMet_i (cc := cX11_many) (maxL := 2) (ty := .int) (by decide) rfl (Nat.le_of_ble_eq_true rfl) (fun _ _ _ => rfl) ?_
  intro p e s m args below meth c A Q ls C hlocks hin hN hK hP hD hS hA hl ret
  obtain ⟨hx, hb, hml, hown, hts⟩ := C
  have hl : lv_has ls 2 [(0, .ref hM), (1, .int (nI 2))] := hl
  have in_X11 : ∀ w ∈ wsX110, w ∈ wsX11_many := by decide +kernel
  have lk0 := hts (.fieldLink RX11 75 "SilkWordModel" "persons" "I") (by decide +kernel)
  have lk1 := hts (.fieldLink RX11 129 "SilkWordModel" "words" "I") (by decide +kernel)
  have lk2 := hts (.fieldLink RX11 132 "SilkWordModel" "whispersNow" "I") (by decide +kernel)
  have lk3 := hts (.fieldLink RX11 135 "SilkWordModel" "readings" "I") (by decide +kernel)
  refine lv_iload_n hx hb dX11_many_0 rfl (lv_at hl 1 rfl) ?_
  rcases (show 2 = 0 ∨ 2 = 1 ∨ 2 = 2 ∨ 2 = 3 ∨ (2 < 0 ∨ 3 < 2) by omega) with c_1 | c_1 | c_1 | c_1 | c_1
  · skip
    refine lv_tableIn (off := 31) (tgt := 32) hx hb dX11_many_1 (by rw [c_1]; decide) (by rw [c_1]; decide) (by rw [c_1]; decide) (by decide) ?_
    refine lv_aload_n hx hb dX11_many_32 rfl (lv_at hl 0 rfl) ?_
    refine va_get (D := D) (ci := 11) (v := .int (nI mn)) (C := RX11) (T := TX11) (N := 28) hx hb hts in_X11 hown hK hP 0 rfl rfl 1 (by decide) lk0 (fun _ h9 => h9) rfl dX11_many_33 ?_
    exact ret _ () _ _ _ _ dX11_many_36 (congrArg nI (show mn = mh by first | rfl | omega)) hP hD hS
  · skip
    refine lv_tableIn (off := 36) (tgt := 37) hx hb dX11_many_1 (by rw [c_1]; decide) (by rw [c_1]; decide) (by rw [c_1]; decide) (by decide) ?_
    refine lv_aload_n hx hb dX11_many_37 rfl (lv_at hl 0 rfl) ?_
    refine va_get (D := D) (ci := 11) (v := .int (nI mw)) (C := RX11) (T := TX11) (N := 28) hx hb hts in_X11 hown hK hP 0 rfl rfl 11 (by decide) lk1 (fun _ h9 => h9) rfl dX11_many_38 ?_
    exact ret _ () _ _ _ _ dX11_many_41 (congrArg nI (show mw = mh by first | rfl | omega)) hP hD hS
  · skip
    refine lv_tableIn (off := 41) (tgt := 42) hx hb dX11_many_1 (by rw [c_1]; decide) (by rw [c_1]; decide) (by rw [c_1]; decide) (by decide) ?_
    refine lv_aload_n hx hb dX11_many_42 rfl (lv_at hl 0 rfl) ?_
    refine va_get (D := D) (ci := 11) (v := .int (nI mh)) (C := RX11) (T := TX11) (N := 28) hx hb hts in_X11 hown hK hP 0 rfl rfl 14 (by decide) lk2 (fun _ h9 => h9) rfl dX11_many_43 ?_
    exact ret _ () _ _ _ _ dX11_many_46 (rfl) hP hD hS
  · skip
    refine lv_tableIn (off := 46) (tgt := 47) hx hb dX11_many_1 (by rw [c_1]; decide) (by rw [c_1]; decide) (by rw [c_1]; decide) (by decide) ?_
    refine lv_aload_n hx hb dX11_many_47 rfl (lv_at hl 0 rfl) ?_
    refine va_get (D := D) (ci := 11) (v := .int (nI mr)) (C := RX11) (T := TX11) (N := 28) hx hb hts in_X11 hown hK hP 0 rfl rfl 19 (by decide) lk3 (fun _ h9 => h9) rfl dX11_many_48 ?_
    exact ret _ () _ _ _ _ dX11_many_51 (congrArg nI (show mr = mh by first | rfl | omega)) hP hD hS
  · skip
    refine lv_tableOut (tgt := 52) hx hb dX11_many_1 (by rw [nI_toInt (by omega)]; omega) (by decide) ?_
    refine lv_bipush (v := (-2)) hx hb dX11_many_52 (by decide) ?_
    exact ret _ () _ _ _ _ dX11_many_54 (show ((-2) : Int32) = (nI mh) by first | rfl | omega) hP hD hS
def rm_X11_many_3 : Room := { frames := 0, cells := 0, slots := 0, locals := 0 }
set_option maxHeartbeats 4000000 in
set_option maxRecDepth 100000 in
theorem c_X11_many_3 (l : Launch) (D : va_G) (cI cZ cS cP : ClassId) (hM : Nat) (m1 : Nat) (m2 : Nat) (m3 : Nat) (m4 : Nat) (m5 : Nat) (m6 : Nat) (m7 : Nat) (m8 : Nat) (m9 : Nat) (m10 : Nat) (m11 : Nat) (m12 : Nat) (m13 : Nat) (m14 : Nat) (m15 : Nat) (m16 : Nat) (m17 : Nat) (m18 : Nat) (mf : Nat) (mn : Nat) (mb : Nat) (ra : Nat) (rn : Nat) (mw : Nat) (mh : Nat) (mm : Nat) (mr : Nat) (mt : Int32) : kMi (S := Unit) l yX11_many wsX11_many rm_X11_many_3 D (kT cI cZ cS cP) [.ref hM, .int (nI 3)] [(hM, .inr (11, [.int (nI mf), .int (nI mn), .ref m1, .ref m2, .ref m3, .int (nI mb), .int (nI ra), .int (nI rn), .ref m4, .ref m5, .ref m6, .int (nI mw), .ref m7, .ref m8, .int (nI mh), .ref m9, .ref m10, .int (nI mm), .ref m11, .int (nI mr), .ref m12, .ref m13, .ref m14, .ref m15, .ref m16, .ref m17, .ref m18, .int mt]))] (fun r _ => r = (nI mr)) (fun _ => [(hM, .inr (11, [.int (nI mf), .int (nI mn), .ref m1, .ref m2, .ref m3, .int (nI mb), .int (nI ra), .int (nI rn), .ref m4, .ref m5, .ref m6, .int (nI mw), .ref m7, .ref m8, .int (nI mh), .ref m9, .ref m10, .int (nI mm), .ref m11, .int (nI mr), .ref m12, .ref m13, .ref m14, .ref m15, .ref m16, .ref m17, .ref m18, .int mt]))]) := by
  refine kMet_i (cc := cX11_many) (maxL := 2) (ty := .int) (by decide) rfl (Nat.le_of_ble_eq_true rfl) (fun _ _ _ => rfl) ?_
  intro p e s m args below meth c A Q ls C hlocks hin hN hK hP hD hS hA hl ret
  obtain ⟨hx, hb, hml, hown, hts⟩ := C
  have hl : lv_has ls 2 [(0, .ref hM), (1, .int (nI 3))] := hl
  have in_X11 : ∀ w ∈ wsX110, w ∈ wsX11_many := by decide +kernel
  have lk0 := hts (.fieldLink RX11 75 "SilkWordModel" "persons" "I") (by decide +kernel)
  have lk1 := hts (.fieldLink RX11 129 "SilkWordModel" "words" "I") (by decide +kernel)
  have lk2 := hts (.fieldLink RX11 132 "SilkWordModel" "whispersNow" "I") (by decide +kernel)
  have lk3 := hts (.fieldLink RX11 135 "SilkWordModel" "readings" "I") (by decide +kernel)
  refine lv_iload_n hx hb dX11_many_0 rfl (lv_at hl 1 rfl) ?_
  rcases (show 3 = 0 ∨ 3 = 1 ∨ 3 = 2 ∨ 3 = 3 ∨ (3 < 0 ∨ 3 < 3) by omega) with c_1 | c_1 | c_1 | c_1 | c_1
  · skip
    refine lv_tableIn (off := 31) (tgt := 32) hx hb dX11_many_1 (by rw [c_1]; decide) (by rw [c_1]; decide) (by rw [c_1]; decide) (by decide) ?_
    refine lv_aload_n hx hb dX11_many_32 rfl (lv_at hl 0 rfl) ?_
    refine va_get (D := D) (ci := 11) (v := .int (nI mn)) (C := RX11) (T := TX11) (N := 28) hx hb hts in_X11 hown hK hP 0 rfl rfl 1 (by decide) lk0 (fun _ h9 => h9) rfl dX11_many_33 ?_
    exact ret _ () _ _ _ _ dX11_many_36 (congrArg nI (show mn = mr by first | rfl | omega)) hP hD hS
  · skip
    refine lv_tableIn (off := 36) (tgt := 37) hx hb dX11_many_1 (by rw [c_1]; decide) (by rw [c_1]; decide) (by rw [c_1]; decide) (by decide) ?_
    refine lv_aload_n hx hb dX11_many_37 rfl (lv_at hl 0 rfl) ?_
    refine va_get (D := D) (ci := 11) (v := .int (nI mw)) (C := RX11) (T := TX11) (N := 28) hx hb hts in_X11 hown hK hP 0 rfl rfl 11 (by decide) lk1 (fun _ h9 => h9) rfl dX11_many_38 ?_
    exact ret _ () _ _ _ _ dX11_many_41 (congrArg nI (show mw = mr by first | rfl | omega)) hP hD hS
  · skip
    refine lv_tableIn (off := 41) (tgt := 42) hx hb dX11_many_1 (by rw [c_1]; decide) (by rw [c_1]; decide) (by rw [c_1]; decide) (by decide) ?_
    refine lv_aload_n hx hb dX11_many_42 rfl (lv_at hl 0 rfl) ?_
    refine va_get (D := D) (ci := 11) (v := .int (nI mh)) (C := RX11) (T := TX11) (N := 28) hx hb hts in_X11 hown hK hP 0 rfl rfl 14 (by decide) lk2 (fun _ h9 => h9) rfl dX11_many_43 ?_
    exact ret _ () _ _ _ _ dX11_many_46 (congrArg nI (show mh = mr by first | rfl | omega)) hP hD hS
  · skip
    refine lv_tableIn (off := 46) (tgt := 47) hx hb dX11_many_1 (by rw [c_1]; decide) (by rw [c_1]; decide) (by rw [c_1]; decide) (by decide) ?_
    refine lv_aload_n hx hb dX11_many_47 rfl (lv_at hl 0 rfl) ?_
    refine va_get (D := D) (ci := 11) (v := .int (nI mr)) (C := RX11) (T := TX11) (N := 28) hx hb hts in_X11 hown hK hP 0 rfl rfl 19 (by decide) lk3 (fun _ h9 => h9) rfl dX11_many_48 ?_
    exact ret _ () _ _ _ _ dX11_many_51 (rfl) hP hD hS
  · skip
    refine lv_tableOut (tgt := 52) hx hb dX11_many_1 (by rw [nI_toInt (by omega)]; omega) (by decide) ?_
    refine lv_bipush (v := (-2)) hx hb dX11_many_52 (by decide) ?_
    exact ret _ () _ _ _ _ dX11_many_54 (show ((-2) : Int32) = (nI mr) by first | rfl | omega) hP hD hS
def rm_X11_whisper_u : Room := { frames := 2, cells := 0, slots := 0, locals := 46 }
set_option maxHeartbeats 4000000 in
set_option maxRecDepth 100000 in
theorem c_X11_whisper_u (l : Launch) (D : va_G) (cI cZ cS cP : ClassId) (hM : Nat) (m1 : Nat) (m2 : Nat) (m3 : Nat) (m4 : Nat) (m5 : Nat) (m6 : Nat) (m7 : Nat) (m8 : Nat) (m9 : Nat) (m10 : Nat) (m11 : Nat) (m12 : Nat) (m13 : Nat) (m14 : Nat) (m15 : Nat) (m16 : Nat) (m17 : Nat) (m18 : Nat) (mf : Nat) (mn : Nat) (mb : Nat) (ra : Nat) (rn : Nat) (mw : Nat) (mh : Nat) (mm : Nat) (mr : Nat) (mt : Int32) (x : Int32) (y : Int32) (hn : mn ≤ 7) (hx1 : ¬ inR x mn) : kMi (S := Unit) l yX11_whisper wsX11_whisper rm_X11_whisper_u D (kT cI cZ cS cP) [.ref hM, .int x, .int y] [(hM, .inr (11, [.int (nI mf), .int (nI mn), .ref m1, .ref m2, .ref m3, .int (nI mb), .int (nI ra), .int (nI rn), .ref m4, .ref m5, .ref m6, .int (nI mw), .ref m7, .ref m8, .int (nI mh), .ref m9, .ref m10, .int (nI mm), .ref m11, .int (nI mr), .ref m12, .ref m13, .ref m14, .ref m15, .ref m16, .ref m17, .ref m18, .int mt]))] (fun r _ => r = (-1)) (fun _ => [(hM, .inr (11, [.int (nI mf), .int (nI mn), .ref m1, .ref m2, .ref m3, .int (nI mb), .int (nI ra), .int (nI rn), .ref m4, .ref m5, .ref m6, .int (nI mw), .ref m7, .ref m8, .int (nI mh), .ref m9, .ref m10, .int (nI mm), .ref m11, .int (nI mr), .ref m12, .ref m13, .ref m14, .ref m15, .ref m16, .ref m17, .ref m18, .int mt]))]) := by
  refine kMet_i (cc := cX11_whisper) (maxL := 3) (ty := .int) (by decide) rfl (Nat.le_of_ble_eq_true rfl) (fun _ _ _ => rfl) ?_
  intro p e s m args below meth c A Q ls C hlocks hin hN hK hP hD hS hA hl ret
  obtain ⟨hx, hb, hml, hown, hts⟩ := C
  have hl : lv_has ls 3 [(0, .ref hM), (1, .int x), (2, .int y)] := hl
  refine lv_aload_n hx hb dX11_whisper_0 rfl (lv_at hl 0 rfl) ?_
  refine lv_iload_n hx hb dX11_whisper_1 rfl (lv_at hl 1 rfl) ?_
  refine k_goi (S := Unit) (va_runV (As := [.int x]) (rest := []) ⟨hx, hb, hml, hown, hts⟩ (c_X11_noPerson l D cI cZ cS cP hM m1 m2 m3 m4 m5 m6 m7 m8 m9 m10 m11 m12 m13 m14 m15 m16 m17 m18 mf mn mb ra rn mw mh mm mr mt x (by first | assumption | omega) _) (cwV 1 hts gX11_whisper_X11_noPerson rfl rfl rfl (by decide +kernel) ⟨Nat.le_of_ble_eq_true rfl, Nat.le_of_ble_eq_true rfl⟩) (kPreV hN hK hP hD [0] rfl rfl (q0 := 0) (ci := 11) (q := (RX11, TX11, 28)) rfl rfl) rfl rfl hl.1 rfl (lv_room (Nat.le_of_ble_eq_true rfl)) dX11_whisper_2 ⟨Nat.le_of_ble_eq_true rfl, Nat.le_of_ble_eq_true rfl⟩) hP hD hS hA [0] rfl [hM] rfl (fun _ => rfl) 1 [] rfl (fun _u => [(hM, .inr (11, [.int (nI mf), .int (nI mn), .ref m1, .ref m2, .ref m3, .int (nI mb), .int (nI ra), .int (nI rn), .ref m4, .ref m5, .ref m6, .int (nI mw), .ref m7, .ref m8, .int (nI mh), .ref m9, .ref m10, .int (nI mm), .ref m11, .int (nI mr), .ref m12, .ref m13, .ref m14, .ref m15, .ref m16, .ref m17, .ref m18, .int mt]))]) (fun _ => rfl) [] [] (fun _ => rfl) rfl (fun _ => rfl) rfl (fun r_1 _u H locs hr_2 hP hD hS => ?_)
  have hP : va_P D vwCl [(hM, .inr (11, [.int (nI mf), .int (nI mn), .ref m1, .ref m2, .ref m3, .int (nI mb), .int (nI ra), .int (nI rn), .ref m4, .ref m5, .ref m6, .int (nI mw), .ref m7, .ref m8, .int (nI mh), .ref m9, .ref m10, .int (nI mm), .ref m11, .int (nI mr), .ref m12, .ref m13, .ref m14, .ref m15, .ref m16, .ref m17, .ref m18, .int mt]))] H := hP
  have hD : va_D A [(hM, .inr (11, [.int (nI mf), .int (nI mn), .ref m1, .ref m2, .ref m3, .int (nI mb), .int (nI ra), .int (nI rn), .ref m4, .ref m5, .ref m6, .int (nI mw), .ref m7, .ref m8, .int (nI mh), .ref m9, .ref m10, .int (nI mm), .ref m11, .int (nI mr), .ref m12, .ref m13, .ref m14, .ref m15, .ref m16, .ref m17, .ref m18, .int mt]))] := hD
  subst hr_2
  refine k_ifn_ne (tgt := 21) hx hb dX11_whisper_5 (by decide) (fun c_3 => ?_) (fun c_3 => absurd c_3 hx1)
  refine lv_iconst (v := (-1)) hx hb dX11_whisper_21 (by decide) ?_
  exact ret _ () _ _ _ _ dX11_whisper_22 (rfl) hP hD hS
def rm_X11_whisper_v : Room := { frames := 2, cells := 0, slots := 0, locals := 46 }
set_option maxHeartbeats 4000000 in
set_option maxRecDepth 100000 in
theorem c_X11_whisper_v (l : Launch) (D : va_G) (cI cZ cS cP : ClassId) (hM : Nat) (m1 : Nat) (m2 : Nat) (m3 : Nat) (m4 : Nat) (m5 : Nat) (m6 : Nat) (m7 : Nat) (m8 : Nat) (m9 : Nat) (m10 : Nat) (m11 : Nat) (m12 : Nat) (m13 : Nat) (m14 : Nat) (m15 : Nat) (m16 : Nat) (m17 : Nat) (m18 : Nat) (mf : Nat) (mn : Nat) (mb : Nat) (ra : Nat) (rn : Nat) (mw : Nat) (mh : Nat) (mm : Nat) (mr : Nat) (mt : Int32) (a : Nat) (y : Int32) (hn : mn ≤ 7) (ha : a < mn) (hx1 : ¬ inR y mn) : kMi (S := Unit) l yX11_whisper wsX11_whisper rm_X11_whisper_v D (kT cI cZ cS cP) [.ref hM, .int (nI a), .int y] [(hM, .inr (11, [.int (nI mf), .int (nI mn), .ref m1, .ref m2, .ref m3, .int (nI mb), .int (nI ra), .int (nI rn), .ref m4, .ref m5, .ref m6, .int (nI mw), .ref m7, .ref m8, .int (nI mh), .ref m9, .ref m10, .int (nI mm), .ref m11, .int (nI mr), .ref m12, .ref m13, .ref m14, .ref m15, .ref m16, .ref m17, .ref m18, .int mt]))] (fun r _ => r = (-1)) (fun _ => [(hM, .inr (11, [.int (nI mf), .int (nI mn), .ref m1, .ref m2, .ref m3, .int (nI mb), .int (nI ra), .int (nI rn), .ref m4, .ref m5, .ref m6, .int (nI mw), .ref m7, .ref m8, .int (nI mh), .ref m9, .ref m10, .int (nI mm), .ref m11, .int (nI mr), .ref m12, .ref m13, .ref m14, .ref m15, .ref m16, .ref m17, .ref m18, .int mt]))]) := by
  refine kMet_i (cc := cX11_whisper) (maxL := 3) (ty := .int) (by decide) rfl (Nat.le_of_ble_eq_true rfl) (fun _ _ _ => rfl) ?_
  intro p e s m args below meth c A Q ls C hlocks hin hN hK hP hD hS hA hl ret
  obtain ⟨hx, hb, hml, hown, hts⟩ := C
  have hl : lv_has ls 3 [(0, .ref hM), (1, .int (nI a)), (2, .int y)] := hl
  refine lv_aload_n hx hb dX11_whisper_0 rfl (lv_at hl 0 rfl) ?_
  refine lv_iload_n hx hb dX11_whisper_1 rfl (lv_at hl 1 rfl) ?_
  refine k_goi (S := Unit) (va_runV (As := [.int (nI a)]) (rest := []) ⟨hx, hb, hml, hown, hts⟩ (c_X11_noPerson l D cI cZ cS cP hM m1 m2 m3 m4 m5 m6 m7 m8 m9 m10 m11 m12 m13 m14 m15 m16 m17 m18 mf mn mb ra rn mw mh mm mr mt (nI a) (by first | assumption | omega) _) (cwV 1 hts gX11_whisper_X11_noPerson rfl rfl rfl (by decide +kernel) ⟨Nat.le_of_ble_eq_true rfl, Nat.le_of_ble_eq_true rfl⟩) (kPreV hN hK hP hD [0] rfl rfl (q0 := 0) (ci := 11) (q := (RX11, TX11, 28)) rfl rfl) rfl rfl hl.1 rfl (lv_room (Nat.le_of_ble_eq_true rfl)) dX11_whisper_2 ⟨Nat.le_of_ble_eq_true rfl, Nat.le_of_ble_eq_true rfl⟩) hP hD hS hA [0] rfl [hM] rfl (fun _ => rfl) 1 [] rfl (fun _u => [(hM, .inr (11, [.int (nI mf), .int (nI mn), .ref m1, .ref m2, .ref m3, .int (nI mb), .int (nI ra), .int (nI rn), .ref m4, .ref m5, .ref m6, .int (nI mw), .ref m7, .ref m8, .int (nI mh), .ref m9, .ref m10, .int (nI mm), .ref m11, .int (nI mr), .ref m12, .ref m13, .ref m14, .ref m15, .ref m16, .ref m17, .ref m18, .int mt]))]) (fun _ => rfl) [] [] (fun _ => rfl) rfl (fun _ => rfl) rfl (fun r_1 _u H locs hr_2 hP hD hS => ?_)
  have hP : va_P D vwCl [(hM, .inr (11, [.int (nI mf), .int (nI mn), .ref m1, .ref m2, .ref m3, .int (nI mb), .int (nI ra), .int (nI rn), .ref m4, .ref m5, .ref m6, .int (nI mw), .ref m7, .ref m8, .int (nI mh), .ref m9, .ref m10, .int (nI mm), .ref m11, .int (nI mr), .ref m12, .ref m13, .ref m14, .ref m15, .ref m16, .ref m17, .ref m18, .int mt]))] H := hP
  have hD : va_D A [(hM, .inr (11, [.int (nI mf), .int (nI mn), .ref m1, .ref m2, .ref m3, .int (nI mb), .int (nI ra), .int (nI rn), .ref m4, .ref m5, .ref m6, .int (nI mw), .ref m7, .ref m8, .int (nI mh), .ref m9, .ref m10, .int (nI mm), .ref m11, .int (nI mr), .ref m12, .ref m13, .ref m14, .ref m15, .ref m16, .ref m17, .ref m18, .int mt]))] := hD
  subst hr_2
  refine k_ifn_ne (tgt := 21) hx hb dX11_whisper_5 (by decide) (fun c_3 => absurd ((inR_nI (by omega)).mpr (by omega)) c_3) (fun c_3 => ?_)
  refine lv_aload_n hx hb dX11_whisper_8 rfl (lv_at hl 0 rfl) ?_
  refine lv_iload_n hx hb dX11_whisper_9 rfl (lv_at hl 2 rfl) ?_
  refine k_goi (S := Unit) (va_runV (As := [.int y]) (rest := []) ⟨hx, hb, hml, hown, hts⟩ (c_X11_noPerson l D cI cZ cS cP hM m1 m2 m3 m4 m5 m6 m7 m8 m9 m10 m11 m12 m13 m14 m15 m16 m17 m18 mf mn mb ra rn mw mh mm mr mt y (by first | assumption | omega) _) (cwV 1 hts gX11_whisper_X11_noPerson rfl rfl rfl (by decide +kernel) ⟨Nat.le_of_ble_eq_true rfl, Nat.le_of_ble_eq_true rfl⟩) (kPreV hN hK hP hD [0] rfl rfl (q0 := 0) (ci := 11) (q := (RX11, TX11, 28)) rfl rfl) rfl rfl hl.1 rfl (lv_room (Nat.le_of_ble_eq_true rfl)) dX11_whisper_10 ⟨Nat.le_of_ble_eq_true rfl, Nat.le_of_ble_eq_true rfl⟩) hP hD hS hA [0] rfl [hM] rfl (fun _ => rfl) 1 [] rfl (fun _u => [(hM, .inr (11, [.int (nI mf), .int (nI mn), .ref m1, .ref m2, .ref m3, .int (nI mb), .int (nI ra), .int (nI rn), .ref m4, .ref m5, .ref m6, .int (nI mw), .ref m7, .ref m8, .int (nI mh), .ref m9, .ref m10, .int (nI mm), .ref m11, .int (nI mr), .ref m12, .ref m13, .ref m14, .ref m15, .ref m16, .ref m17, .ref m18, .int mt]))]) (fun _ => rfl) [] [] (fun _ => rfl) rfl (fun _ => rfl) rfl (fun r_4 _u H locs hr_5 hP hD hS => ?_)
  have hP : va_P D vwCl [(hM, .inr (11, [.int (nI mf), .int (nI mn), .ref m1, .ref m2, .ref m3, .int (nI mb), .int (nI ra), .int (nI rn), .ref m4, .ref m5, .ref m6, .int (nI mw), .ref m7, .ref m8, .int (nI mh), .ref m9, .ref m10, .int (nI mm), .ref m11, .int (nI mr), .ref m12, .ref m13, .ref m14, .ref m15, .ref m16, .ref m17, .ref m18, .int mt]))] H := hP
  have hD : va_D A [(hM, .inr (11, [.int (nI mf), .int (nI mn), .ref m1, .ref m2, .ref m3, .int (nI mb), .int (nI ra), .int (nI rn), .ref m4, .ref m5, .ref m6, .int (nI mw), .ref m7, .ref m8, .int (nI mh), .ref m9, .ref m10, .int (nI mm), .ref m11, .int (nI mr), .ref m12, .ref m13, .ref m14, .ref m15, .ref m16, .ref m17, .ref m18, .int mt]))] := hD
  subst hr_5
  refine k_ifn_ne (tgt := 21) hx hb dX11_whisper_13 (by decide) (fun c_6 => ?_) (fun c_6 => absurd c_6 hx1)
  refine lv_iconst (v := (-1)) hx hb dX11_whisper_21 (by decide) ?_
  exact ret _ () _ _ _ _ dX11_whisper_22 (rfl) hP hD hS
def rm_X11_whisper_one : Room := { frames := 2, cells := 0, slots := 0, locals := 46 }
set_option maxHeartbeats 4000000 in
set_option maxRecDepth 100000 in
theorem c_X11_whisper_one (l : Launch) (D : va_G) (cI cZ cS cP : ClassId) (hM : Nat) (m1 : Nat) (m2 : Nat) (m3 : Nat) (m4 : Nat) (m5 : Nat) (m6 : Nat) (m7 : Nat) (m8 : Nat) (m9 : Nat) (m10 : Nat) (m11 : Nat) (m12 : Nat) (m13 : Nat) (m14 : Nat) (m15 : Nat) (m16 : Nat) (m17 : Nat) (m18 : Nat) (mf : Nat) (mn : Nat) (mb : Nat) (ra : Nat) (rn : Nat) (mw : Nat) (mh : Nat) (mm : Nat) (mr : Nat) (mt : Int32) (a : Nat) (hn : mn ≤ 7) (ha : a < mn) : kMi (S := Unit) l yX11_whisper wsX11_whisper rm_X11_whisper_one D (kT cI cZ cS cP) [.ref hM, .int (nI a), .int (nI a)] [(hM, .inr (11, [.int (nI mf), .int (nI mn), .ref m1, .ref m2, .ref m3, .int (nI mb), .int (nI ra), .int (nI rn), .ref m4, .ref m5, .ref m6, .int (nI mw), .ref m7, .ref m8, .int (nI mh), .ref m9, .ref m10, .int (nI mm), .ref m11, .int (nI mr), .ref m12, .ref m13, .ref m14, .ref m15, .ref m16, .ref m17, .ref m18, .int mt]))] (fun r _ => r = (-1)) (fun _ => [(hM, .inr (11, [.int (nI mf), .int (nI mn), .ref m1, .ref m2, .ref m3, .int (nI mb), .int (nI ra), .int (nI rn), .ref m4, .ref m5, .ref m6, .int (nI mw), .ref m7, .ref m8, .int (nI mh), .ref m9, .ref m10, .int (nI mm), .ref m11, .int (nI mr), .ref m12, .ref m13, .ref m14, .ref m15, .ref m16, .ref m17, .ref m18, .int mt]))]) := by
  refine kMet_i (cc := cX11_whisper) (maxL := 3) (ty := .int) (by decide) rfl (Nat.le_of_ble_eq_true rfl) (fun _ _ _ => rfl) ?_
  intro p e s m args below meth c A Q ls C hlocks hin hN hK hP hD hS hA hl ret
  obtain ⟨hx, hb, hml, hown, hts⟩ := C
  have hl : lv_has ls 3 [(0, .ref hM), (1, .int (nI a)), (2, .int (nI a))] := hl
  refine lv_aload_n hx hb dX11_whisper_0 rfl (lv_at hl 0 rfl) ?_
  refine lv_iload_n hx hb dX11_whisper_1 rfl (lv_at hl 1 rfl) ?_
  refine k_goi (S := Unit) (va_runV (As := [.int (nI a)]) (rest := []) ⟨hx, hb, hml, hown, hts⟩ (c_X11_noPerson l D cI cZ cS cP hM m1 m2 m3 m4 m5 m6 m7 m8 m9 m10 m11 m12 m13 m14 m15 m16 m17 m18 mf mn mb ra rn mw mh mm mr mt (nI a) (by first | assumption | omega) _) (cwV 1 hts gX11_whisper_X11_noPerson rfl rfl rfl (by decide +kernel) ⟨Nat.le_of_ble_eq_true rfl, Nat.le_of_ble_eq_true rfl⟩) (kPreV hN hK hP hD [0] rfl rfl (q0 := 0) (ci := 11) (q := (RX11, TX11, 28)) rfl rfl) rfl rfl hl.1 rfl (lv_room (Nat.le_of_ble_eq_true rfl)) dX11_whisper_2 ⟨Nat.le_of_ble_eq_true rfl, Nat.le_of_ble_eq_true rfl⟩) hP hD hS hA [0] rfl [hM] rfl (fun _ => rfl) 1 [] rfl (fun _u => [(hM, .inr (11, [.int (nI mf), .int (nI mn), .ref m1, .ref m2, .ref m3, .int (nI mb), .int (nI ra), .int (nI rn), .ref m4, .ref m5, .ref m6, .int (nI mw), .ref m7, .ref m8, .int (nI mh), .ref m9, .ref m10, .int (nI mm), .ref m11, .int (nI mr), .ref m12, .ref m13, .ref m14, .ref m15, .ref m16, .ref m17, .ref m18, .int mt]))]) (fun _ => rfl) [] [] (fun _ => rfl) rfl (fun _ => rfl) rfl (fun r_1 _u H locs hr_2 hP hD hS => ?_)
  have hP : va_P D vwCl [(hM, .inr (11, [.int (nI mf), .int (nI mn), .ref m1, .ref m2, .ref m3, .int (nI mb), .int (nI ra), .int (nI rn), .ref m4, .ref m5, .ref m6, .int (nI mw), .ref m7, .ref m8, .int (nI mh), .ref m9, .ref m10, .int (nI mm), .ref m11, .int (nI mr), .ref m12, .ref m13, .ref m14, .ref m15, .ref m16, .ref m17, .ref m18, .int mt]))] H := hP
  have hD : va_D A [(hM, .inr (11, [.int (nI mf), .int (nI mn), .ref m1, .ref m2, .ref m3, .int (nI mb), .int (nI ra), .int (nI rn), .ref m4, .ref m5, .ref m6, .int (nI mw), .ref m7, .ref m8, .int (nI mh), .ref m9, .ref m10, .int (nI mm), .ref m11, .int (nI mr), .ref m12, .ref m13, .ref m14, .ref m15, .ref m16, .ref m17, .ref m18, .int mt]))] := hD
  subst hr_2
  refine k_ifn_ne (tgt := 21) hx hb dX11_whisper_5 (by decide) (fun c_3 => absurd ((inR_nI (by omega)).mpr (by omega)) c_3) (fun c_3 => ?_)
  refine lv_aload_n hx hb dX11_whisper_8 rfl (lv_at hl 0 rfl) ?_
  refine lv_iload_n hx hb dX11_whisper_9 rfl (lv_at hl 2 rfl) ?_
  refine k_goi (S := Unit) (va_runV (As := [.int (nI a)]) (rest := []) ⟨hx, hb, hml, hown, hts⟩ (c_X11_noPerson l D cI cZ cS cP hM m1 m2 m3 m4 m5 m6 m7 m8 m9 m10 m11 m12 m13 m14 m15 m16 m17 m18 mf mn mb ra rn mw mh mm mr mt (nI a) (by first | assumption | omega) _) (cwV 1 hts gX11_whisper_X11_noPerson rfl rfl rfl (by decide +kernel) ⟨Nat.le_of_ble_eq_true rfl, Nat.le_of_ble_eq_true rfl⟩) (kPreV hN hK hP hD [0] rfl rfl (q0 := 0) (ci := 11) (q := (RX11, TX11, 28)) rfl rfl) rfl rfl hl.1 rfl (lv_room (Nat.le_of_ble_eq_true rfl)) dX11_whisper_10 ⟨Nat.le_of_ble_eq_true rfl, Nat.le_of_ble_eq_true rfl⟩) hP hD hS hA [0] rfl [hM] rfl (fun _ => rfl) 1 [] rfl (fun _u => [(hM, .inr (11, [.int (nI mf), .int (nI mn), .ref m1, .ref m2, .ref m3, .int (nI mb), .int (nI ra), .int (nI rn), .ref m4, .ref m5, .ref m6, .int (nI mw), .ref m7, .ref m8, .int (nI mh), .ref m9, .ref m10, .int (nI mm), .ref m11, .int (nI mr), .ref m12, .ref m13, .ref m14, .ref m15, .ref m16, .ref m17, .ref m18, .int mt]))]) (fun _ => rfl) [] [] (fun _ => rfl) rfl (fun _ => rfl) rfl (fun r_4 _u H locs hr_5 hP hD hS => ?_)
  have hP : va_P D vwCl [(hM, .inr (11, [.int (nI mf), .int (nI mn), .ref m1, .ref m2, .ref m3, .int (nI mb), .int (nI ra), .int (nI rn), .ref m4, .ref m5, .ref m6, .int (nI mw), .ref m7, .ref m8, .int (nI mh), .ref m9, .ref m10, .int (nI mm), .ref m11, .int (nI mr), .ref m12, .ref m13, .ref m14, .ref m15, .ref m16, .ref m17, .ref m18, .int mt]))] H := hP
  have hD : va_D A [(hM, .inr (11, [.int (nI mf), .int (nI mn), .ref m1, .ref m2, .ref m3, .int (nI mb), .int (nI ra), .int (nI rn), .ref m4, .ref m5, .ref m6, .int (nI mw), .ref m7, .ref m8, .int (nI mh), .ref m9, .ref m10, .int (nI mm), .ref m11, .int (nI mr), .ref m12, .ref m13, .ref m14, .ref m15, .ref m16, .ref m17, .ref m18, .int mt]))] := hD
  subst hr_5
  refine k_ifn_ne (tgt := 21) hx hb dX11_whisper_13 (by decide) (fun c_6 => absurd ((inR_nI (by omega)).mpr (by omega)) c_6) (fun c_6 => ?_)
  refine lv_iload_n hx hb dX11_whisper_16 rfl (lv_at hl 1 rfl) ?_
  refine lv_iload_n hx hb dX11_whisper_17 rfl (lv_at hl 2 rfl) ?_
  refine k_icmp_ne (tgt := 23) hx hb dX11_whisper_18 (by decide) (show a < 2 ^ 31 by first | omega | (split <;> omega)) (show a < 2 ^ 31 by first | omega | (split <;> omega)) (fun c_7 => absurd c_7 (by omega)) (fun c_7 => ?_)
  refine lv_iconst (v := (-1)) hx hb dX11_whisper_21 (by decide) ?_
  exact ret _ () _ _ _ _ dX11_whisper_22 (rfl) hP hD hS
def rm_X11_whisper_full : Room := { frames := 2, cells := 0, slots := 0, locals := 46 }
set_option maxHeartbeats 4000000 in
set_option maxRecDepth 100000 in
theorem c_X11_whisper_full (l : Launch) (D : va_G) (cI cZ cS cP : ClassId) (hM : Nat) (m1 : Nat) (m2 : Nat) (m3 : Nat) (m4 : Nat) (m5 : Nat) (m6 : Nat) (m7 : Nat) (m8 : Nat) (m9 : Nat) (m10 : Nat) (m11 : Nat) (m12 : Nat) (m13 : Nat) (m14 : Nat) (m15 : Nat) (m16 : Nat) (m17 : Nat) (m18 : Nat) (mf : Nat) (mn : Nat) (mb : Nat) (ra : Nat) (rn : Nat) (mw : Nat) (mh : Nat) (mm : Nat) (mr : Nat) (mt : Int32) (a : Nat) (b : Nat) (hn : mn ≤ 7) (ha : a < mn) (hb1 : b < mn) (hab : a ≠ b) (hw6 : mh = 6) : kMi (S := Unit) l yX11_whisper wsX11_whisper rm_X11_whisper_full D (kT cI cZ cS cP) [.ref hM, .int (nI a), .int (nI b)] [(hM, .inr (11, [.int (nI mf), .int (nI mn), .ref m1, .ref m2, .ref m3, .int (nI mb), .int (nI ra), .int (nI rn), .ref m4, .ref m5, .ref m6, .int (nI mw), .ref m7, .ref m8, .int (nI mh), .ref m9, .ref m10, .int (nI mm), .ref m11, .int (nI mr), .ref m12, .ref m13, .ref m14, .ref m15, .ref m16, .ref m17, .ref m18, .int mt]))] (fun r _ => r = (-4)) (fun _ => [(hM, .inr (11, [.int (nI mf), .int (nI mn), .ref m1, .ref m2, .ref m3, .int (nI mb), .int (nI ra), .int (nI rn), .ref m4, .ref m5, .ref m6, .int (nI mw), .ref m7, .ref m8, .int (nI mh), .ref m9, .ref m10, .int (nI mm), .ref m11, .int (nI mr), .ref m12, .ref m13, .ref m14, .ref m15, .ref m16, .ref m17, .ref m18, .int mt]))]) := by
  refine kMet_i (cc := cX11_whisper) (maxL := 3) (ty := .int) (by decide) rfl (Nat.le_of_ble_eq_true rfl) (fun _ _ _ => rfl) ?_
  intro p e s m args below meth c A Q ls C hlocks hin hN hK hP hD hS hA hl ret
  obtain ⟨hx, hb, hml, hown, hts⟩ := C
  have hl : lv_has ls 3 [(0, .ref hM), (1, .int (nI a)), (2, .int (nI b))] := hl
  have in_X11 : ∀ w ∈ wsX110, w ∈ wsX11_whisper := by decide +kernel
  have lk0 := hts (.fieldLink RX11 132 "SilkWordModel" "whispersNow" "I") (by decide +kernel)
  refine lv_aload_n hx hb dX11_whisper_0 rfl (lv_at hl 0 rfl) ?_
  refine lv_iload_n hx hb dX11_whisper_1 rfl (lv_at hl 1 rfl) ?_
  refine k_goi (S := Unit) (va_runV (As := [.int (nI a)]) (rest := []) ⟨hx, hb, hml, hown, hts⟩ (c_X11_noPerson l D cI cZ cS cP hM m1 m2 m3 m4 m5 m6 m7 m8 m9 m10 m11 m12 m13 m14 m15 m16 m17 m18 mf mn mb ra rn mw mh mm mr mt (nI a) (by first | assumption | omega) _) (cwV 1 hts gX11_whisper_X11_noPerson rfl rfl rfl (by decide +kernel) ⟨Nat.le_of_ble_eq_true rfl, Nat.le_of_ble_eq_true rfl⟩) (kPreV hN hK hP hD [0] rfl rfl (q0 := 0) (ci := 11) (q := (RX11, TX11, 28)) rfl rfl) rfl rfl hl.1 rfl (lv_room (Nat.le_of_ble_eq_true rfl)) dX11_whisper_2 ⟨Nat.le_of_ble_eq_true rfl, Nat.le_of_ble_eq_true rfl⟩) hP hD hS hA [0] rfl [hM] rfl (fun _ => rfl) 1 [] rfl (fun _u => [(hM, .inr (11, [.int (nI mf), .int (nI mn), .ref m1, .ref m2, .ref m3, .int (nI mb), .int (nI ra), .int (nI rn), .ref m4, .ref m5, .ref m6, .int (nI mw), .ref m7, .ref m8, .int (nI mh), .ref m9, .ref m10, .int (nI mm), .ref m11, .int (nI mr), .ref m12, .ref m13, .ref m14, .ref m15, .ref m16, .ref m17, .ref m18, .int mt]))]) (fun _ => rfl) [] [] (fun _ => rfl) rfl (fun _ => rfl) rfl (fun r_1 _u H locs hr_2 hP hD hS => ?_)
  have hP : va_P D vwCl [(hM, .inr (11, [.int (nI mf), .int (nI mn), .ref m1, .ref m2, .ref m3, .int (nI mb), .int (nI ra), .int (nI rn), .ref m4, .ref m5, .ref m6, .int (nI mw), .ref m7, .ref m8, .int (nI mh), .ref m9, .ref m10, .int (nI mm), .ref m11, .int (nI mr), .ref m12, .ref m13, .ref m14, .ref m15, .ref m16, .ref m17, .ref m18, .int mt]))] H := hP
  have hD : va_D A [(hM, .inr (11, [.int (nI mf), .int (nI mn), .ref m1, .ref m2, .ref m3, .int (nI mb), .int (nI ra), .int (nI rn), .ref m4, .ref m5, .ref m6, .int (nI mw), .ref m7, .ref m8, .int (nI mh), .ref m9, .ref m10, .int (nI mm), .ref m11, .int (nI mr), .ref m12, .ref m13, .ref m14, .ref m15, .ref m16, .ref m17, .ref m18, .int mt]))] := hD
  subst hr_2
  refine k_ifn_ne (tgt := 21) hx hb dX11_whisper_5 (by decide) (fun c_3 => absurd ((inR_nI (by omega)).mpr (by omega)) c_3) (fun c_3 => ?_)
  refine lv_aload_n hx hb dX11_whisper_8 rfl (lv_at hl 0 rfl) ?_
  refine lv_iload_n hx hb dX11_whisper_9 rfl (lv_at hl 2 rfl) ?_
  refine k_goi (S := Unit) (va_runV (As := [.int (nI b)]) (rest := []) ⟨hx, hb, hml, hown, hts⟩ (c_X11_noPerson l D cI cZ cS cP hM m1 m2 m3 m4 m5 m6 m7 m8 m9 m10 m11 m12 m13 m14 m15 m16 m17 m18 mf mn mb ra rn mw mh mm mr mt (nI b) (by first | assumption | omega) _) (cwV 1 hts gX11_whisper_X11_noPerson rfl rfl rfl (by decide +kernel) ⟨Nat.le_of_ble_eq_true rfl, Nat.le_of_ble_eq_true rfl⟩) (kPreV hN hK hP hD [0] rfl rfl (q0 := 0) (ci := 11) (q := (RX11, TX11, 28)) rfl rfl) rfl rfl hl.1 rfl (lv_room (Nat.le_of_ble_eq_true rfl)) dX11_whisper_10 ⟨Nat.le_of_ble_eq_true rfl, Nat.le_of_ble_eq_true rfl⟩) hP hD hS hA [0] rfl [hM] rfl (fun _ => rfl) 1 [] rfl (fun _u => [(hM, .inr (11, [.int (nI mf), .int (nI mn), .ref m1, .ref m2, .ref m3, .int (nI mb), .int (nI ra), .int (nI rn), .ref m4, .ref m5, .ref m6, .int (nI mw), .ref m7, .ref m8, .int (nI mh), .ref m9, .ref m10, .int (nI mm), .ref m11, .int (nI mr), .ref m12, .ref m13, .ref m14, .ref m15, .ref m16, .ref m17, .ref m18, .int mt]))]) (fun _ => rfl) [] [] (fun _ => rfl) rfl (fun _ => rfl) rfl (fun r_4 _u H locs hr_5 hP hD hS => ?_)
  have hP : va_P D vwCl [(hM, .inr (11, [.int (nI mf), .int (nI mn), .ref m1, .ref m2, .ref m3, .int (nI mb), .int (nI ra), .int (nI rn), .ref m4, .ref m5, .ref m6, .int (nI mw), .ref m7, .ref m8, .int (nI mh), .ref m9, .ref m10, .int (nI mm), .ref m11, .int (nI mr), .ref m12, .ref m13, .ref m14, .ref m15, .ref m16, .ref m17, .ref m18, .int mt]))] H := hP
  have hD : va_D A [(hM, .inr (11, [.int (nI mf), .int (nI mn), .ref m1, .ref m2, .ref m3, .int (nI mb), .int (nI ra), .int (nI rn), .ref m4, .ref m5, .ref m6, .int (nI mw), .ref m7, .ref m8, .int (nI mh), .ref m9, .ref m10, .int (nI mm), .ref m11, .int (nI mr), .ref m12, .ref m13, .ref m14, .ref m15, .ref m16, .ref m17, .ref m18, .int mt]))] := hD
  subst hr_5
  refine k_ifn_ne (tgt := 21) hx hb dX11_whisper_13 (by decide) (fun c_6 => absurd ((inR_nI (by omega)).mpr (by omega)) c_6) (fun c_6 => ?_)
  refine lv_iload_n hx hb dX11_whisper_16 rfl (lv_at hl 1 rfl) ?_
  refine lv_iload_n hx hb dX11_whisper_17 rfl (lv_at hl 2 rfl) ?_
  refine k_icmp_ne (tgt := 23) hx hb dX11_whisper_18 (by decide) (show a < 2 ^ 31 by first | omega | (split <;> omega)) (show b < 2 ^ 31 by first | omega | (split <;> omega)) (fun c_7 => ?_) (fun c_7 => absurd c_7 (by omega))
  refine lv_aload_n hx hb dX11_whisper_23 rfl (lv_at hl 0 rfl) ?_
  refine va_get (D := D) (ci := 11) (v := .int (nI mh)) (C := RX11) (T := TX11) (N := 28) hx hb hts in_X11 hown hK hP 0 rfl rfl 14 (by decide) lk0 (fun _ h9 => h9) rfl dX11_whisper_24 ?_
  refine lv_bipush (v := (nI 6)) hx hb dX11_whisper_27 (by decide) ?_
  refine k_icmp_ne (tgt := 35) hx hb dX11_whisper_29 (by decide) (show mh < 2 ^ 31 by first | omega | (split <;> omega)) (show 6 < 2 ^ 31 by first | omega | (split <;> omega)) (fun c_8 => absurd c_8 (by omega)) (fun c_8 => ?_)
  refine lv_bipush (v := (-4)) hx hb dX11_whisper_32 (by decide) ?_
  exact ret _ () _ _ _ _ dX11_whisper_34 (rfl) hP hD hS
def rm_X11_whisper_ok : Room := { frames := 2, cells := 0, slots := 0, locals := 46 }
set_option maxHeartbeats 4000000 in
set_option maxRecDepth 100000 in
theorem c_X11_whisper_ok (l : Launch) (D : va_G) (cI cZ cS cP : ClassId) (hM : Nat) (m1 : Nat) (m2 : Nat) (m3 : Nat) (m4 : Nat) (m5 : Nat) (m6 : Nat) (m7 : Nat) (m8 : Nat) (m9 : Nat) (m10 : Nat) (m11 : Nat) (m12 : Nat) (m13 : Nat) (m14 : Nat) (m15 : Nat) (m16 : Nat) (m17 : Nat) (m18 : Nat) (mf : Nat) (mn : Nat) (mb : Nat) (ra : Nat) (rn : Nat) (mw : Nat) (mh : Nat) (mm : Nat) (mr : Nat) (mt : Int32) (ho : Nat → Nat) (hh : Nat → Nat) (a : Nat) (b : Nat) (hn : mn ≤ 7) (hho : ∀ i, ho i < 7) (hhh : ∀ i, hh i < 7) (ha : a < mn) (hb1 : b < mn) (hab : a ≠ b) (hw6 : mh < 6) : kMi (S := Unit) l yX11_whisper wsX11_whisper rm_X11_whisper_ok D (kT cI cZ cS cP) [.ref hM, .int (nI a), .int (nI b)] [(hM, .inr (11, [.int (nI mf), .int (nI mn), .ref m1, .ref m2, .ref m3, .int (nI mb), .int (nI ra), .int (nI rn), .ref m4, .ref m5, .ref m6, .int (nI mw), .ref m7, .ref m8, .int (nI mh), .ref m9, .ref m10, .int (nI mm), .ref m11, .int (nI mr), .ref m12, .ref m13, .ref m14, .ref m15, .ref m16, .ref m17, .ref m18, .int mt])), (m9, .inl (cI, 7, .inl (nA ho))), (m10, .inl (cI, 7, .inl (nA hh)))] (fun r _ => r = (nI mh)) (fun _ => [(hM, .inr (11, [.int (nI mf), .int (nI mn), .ref m1, .ref m2, .ref m3, .int (nI mb), .int (nI ra), .int (nI rn), .ref m4, .ref m5, .ref m6, .int (nI mw), .ref m7, .ref m8, .int (nI (mh + 1)), .ref m9, .ref m10, .int (nI mm), .ref m11, .int (nI mr), .ref m12, .ref m13, .ref m14, .ref m15, .ref m16, .ref m17, .ref m18, .int mt])), (m9, .inl (cI, 7, .inl (nA (va_up ho mh a)))), (m10, .inl (cI, 7, .inl (nA (va_up hh mh b))))]) := by
  refine kMet_i (cc := cX11_whisper) (maxL := 3) (ty := .int) (by decide) rfl (Nat.le_of_ble_eq_true rfl) (fun _ _ _ => rfl) ?_
  intro p e s m args below meth c A Q ls C hlocks hin hN hK hP hD hS hA hl ret
  obtain ⟨hx, hb, hml, hown, hts⟩ := C
  have hl : lv_has ls 3 [(0, .ref hM), (1, .int (nI a)), (2, .int (nI b))] := hl
  have in_X11 : ∀ w ∈ wsX110, w ∈ wsX11_whisper := by decide +kernel
  have lk0 := hts (.fieldLink RX11 132 "SilkWordModel" "whispersNow" "I") (by decide +kernel)
  have lk1 := hts (.fieldLink RX11 34 "SilkWordModel" "whisperA" "[I") (by decide +kernel)
  have lk2 := hts (.fieldLink RX11 37 "SilkWordModel" "whisperB" "[I") (by decide +kernel)
  refine lv_aload_n hx hb dX11_whisper_0 rfl (lv_at hl 0 rfl) ?_
  refine lv_iload_n hx hb dX11_whisper_1 rfl (lv_at hl 1 rfl) ?_
  refine k_goi (S := Unit) (va_runV (As := [.int (nI a)]) (rest := []) ⟨hx, hb, hml, hown, hts⟩ (c_X11_noPerson l D cI cZ cS cP hM m1 m2 m3 m4 m5 m6 m7 m8 m9 m10 m11 m12 m13 m14 m15 m16 m17 m18 mf mn mb ra rn mw mh mm mr mt (nI a) (by first | assumption | omega) _) (cwV 1 hts gX11_whisper_X11_noPerson rfl rfl rfl (by decide +kernel) ⟨Nat.le_of_ble_eq_true rfl, Nat.le_of_ble_eq_true rfl⟩) (kPreV hN hK hP hD [0] rfl rfl (q0 := 0) (ci := 11) (q := (RX11, TX11, 28)) rfl rfl) rfl rfl hl.1 rfl (lv_room (Nat.le_of_ble_eq_true rfl)) dX11_whisper_2 ⟨Nat.le_of_ble_eq_true rfl, Nat.le_of_ble_eq_true rfl⟩) hP hD hS hA [0] rfl [hM] rfl (fun _ => rfl) 3 [1, 2] rfl (fun _u => [(hM, .inr (11, [.int (nI mf), .int (nI mn), .ref m1, .ref m2, .ref m3, .int (nI mb), .int (nI ra), .int (nI rn), .ref m4, .ref m5, .ref m6, .int (nI mw), .ref m7, .ref m8, .int (nI mh), .ref m9, .ref m10, .int (nI mm), .ref m11, .int (nI mr), .ref m12, .ref m13, .ref m14, .ref m15, .ref m16, .ref m17, .ref m18, .int mt])), (m9, .inl (cI, 7, .inl (nA ho))), (m10, .inl (cI, 7, .inl (nA hh)))]) (fun _ => rfl) [(m9, .inl (cI, 7, .inl (nA ho))), (m10, .inl (cI, 7, .inl (nA hh)))] [] (fun _ => rfl) rfl (fun _ => rfl) rfl (fun r_1 _u H locs hr_2 hP hD hS => ?_)
  have hP : va_P D vwCl [(hM, .inr (11, [.int (nI mf), .int (nI mn), .ref m1, .ref m2, .ref m3, .int (nI mb), .int (nI ra), .int (nI rn), .ref m4, .ref m5, .ref m6, .int (nI mw), .ref m7, .ref m8, .int (nI mh), .ref m9, .ref m10, .int (nI mm), .ref m11, .int (nI mr), .ref m12, .ref m13, .ref m14, .ref m15, .ref m16, .ref m17, .ref m18, .int mt])), (m9, .inl (cI, 7, .inl (nA ho))), (m10, .inl (cI, 7, .inl (nA hh)))] H := hP
  have hD : va_D A [(hM, .inr (11, [.int (nI mf), .int (nI mn), .ref m1, .ref m2, .ref m3, .int (nI mb), .int (nI ra), .int (nI rn), .ref m4, .ref m5, .ref m6, .int (nI mw), .ref m7, .ref m8, .int (nI mh), .ref m9, .ref m10, .int (nI mm), .ref m11, .int (nI mr), .ref m12, .ref m13, .ref m14, .ref m15, .ref m16, .ref m17, .ref m18, .int mt])), (m9, .inl (cI, 7, .inl (nA ho))), (m10, .inl (cI, 7, .inl (nA hh)))] := hD
  subst hr_2
  refine k_ifn_ne (tgt := 21) hx hb dX11_whisper_5 (by decide) (fun c_3 => absurd ((inR_nI (by omega)).mpr (by omega)) c_3) (fun c_3 => ?_)
  refine lv_aload_n hx hb dX11_whisper_8 rfl (lv_at hl 0 rfl) ?_
  refine lv_iload_n hx hb dX11_whisper_9 rfl (lv_at hl 2 rfl) ?_
  refine k_goi (S := Unit) (va_runV (As := [.int (nI b)]) (rest := []) ⟨hx, hb, hml, hown, hts⟩ (c_X11_noPerson l D cI cZ cS cP hM m1 m2 m3 m4 m5 m6 m7 m8 m9 m10 m11 m12 m13 m14 m15 m16 m17 m18 mf mn mb ra rn mw mh mm mr mt (nI b) (by first | assumption | omega) _) (cwV 1 hts gX11_whisper_X11_noPerson rfl rfl rfl (by decide +kernel) ⟨Nat.le_of_ble_eq_true rfl, Nat.le_of_ble_eq_true rfl⟩) (kPreV hN hK hP hD [0] rfl rfl (q0 := 0) (ci := 11) (q := (RX11, TX11, 28)) rfl rfl) rfl rfl hl.1 rfl (lv_room (Nat.le_of_ble_eq_true rfl)) dX11_whisper_10 ⟨Nat.le_of_ble_eq_true rfl, Nat.le_of_ble_eq_true rfl⟩) hP hD hS hA [0] rfl [hM] rfl (fun _ => rfl) 3 [1, 2] rfl (fun _u => [(hM, .inr (11, [.int (nI mf), .int (nI mn), .ref m1, .ref m2, .ref m3, .int (nI mb), .int (nI ra), .int (nI rn), .ref m4, .ref m5, .ref m6, .int (nI mw), .ref m7, .ref m8, .int (nI mh), .ref m9, .ref m10, .int (nI mm), .ref m11, .int (nI mr), .ref m12, .ref m13, .ref m14, .ref m15, .ref m16, .ref m17, .ref m18, .int mt])), (m9, .inl (cI, 7, .inl (nA ho))), (m10, .inl (cI, 7, .inl (nA hh)))]) (fun _ => rfl) [(m9, .inl (cI, 7, .inl (nA ho))), (m10, .inl (cI, 7, .inl (nA hh)))] [] (fun _ => rfl) rfl (fun _ => rfl) rfl (fun r_4 _u H locs hr_5 hP hD hS => ?_)
  have hP : va_P D vwCl [(hM, .inr (11, [.int (nI mf), .int (nI mn), .ref m1, .ref m2, .ref m3, .int (nI mb), .int (nI ra), .int (nI rn), .ref m4, .ref m5, .ref m6, .int (nI mw), .ref m7, .ref m8, .int (nI mh), .ref m9, .ref m10, .int (nI mm), .ref m11, .int (nI mr), .ref m12, .ref m13, .ref m14, .ref m15, .ref m16, .ref m17, .ref m18, .int mt])), (m9, .inl (cI, 7, .inl (nA ho))), (m10, .inl (cI, 7, .inl (nA hh)))] H := hP
  have hD : va_D A [(hM, .inr (11, [.int (nI mf), .int (nI mn), .ref m1, .ref m2, .ref m3, .int (nI mb), .int (nI ra), .int (nI rn), .ref m4, .ref m5, .ref m6, .int (nI mw), .ref m7, .ref m8, .int (nI mh), .ref m9, .ref m10, .int (nI mm), .ref m11, .int (nI mr), .ref m12, .ref m13, .ref m14, .ref m15, .ref m16, .ref m17, .ref m18, .int mt])), (m9, .inl (cI, 7, .inl (nA ho))), (m10, .inl (cI, 7, .inl (nA hh)))] := hD
  subst hr_5
  refine k_ifn_ne (tgt := 21) hx hb dX11_whisper_13 (by decide) (fun c_6 => absurd ((inR_nI (by omega)).mpr (by omega)) c_6) (fun c_6 => ?_)
  refine lv_iload_n hx hb dX11_whisper_16 rfl (lv_at hl 1 rfl) ?_
  refine lv_iload_n hx hb dX11_whisper_17 rfl (lv_at hl 2 rfl) ?_
  refine k_icmp_ne (tgt := 23) hx hb dX11_whisper_18 (by decide) (show a < 2 ^ 31 by first | omega | (split <;> omega)) (show b < 2 ^ 31 by first | omega | (split <;> omega)) (fun c_7 => ?_) (fun c_7 => absurd c_7 (by omega))
  refine lv_aload_n hx hb dX11_whisper_23 rfl (lv_at hl 0 rfl) ?_
  refine va_get (D := D) (ci := 11) (v := .int (nI mh)) (C := RX11) (T := TX11) (N := 28) hx hb hts in_X11 hown hK hP 0 rfl rfl 14 (by decide) lk0 (fun _ h9 => h9) rfl dX11_whisper_24 ?_
  refine lv_bipush (v := (nI 6)) hx hb dX11_whisper_27 (by decide) ?_
  refine k_icmp_ne (tgt := 35) hx hb dX11_whisper_29 (by decide) (show mh < 2 ^ 31 by first | omega | (split <;> omega)) (show 6 < 2 ^ 31 by first | omega | (split <;> omega)) (fun c_8 => ?_) (fun c_8 => absurd c_8 (by omega))
  refine lv_aload_n hx hb dX11_whisper_35 rfl (lv_at hl 0 rfl) ?_
  refine va_get (D := D) (ci := 11) (v := .ref m9) (C := RX11) (T := TX11) (N := 28) hx hb hts in_X11 hown hK hP 0 rfl rfl 15 (by decide) lk1 (fun _ h9 => h9) rfl dX11_whisper_36 ?_
  refine lv_aload_n hx hb dX11_whisper_39 rfl (lv_at hl 0 rfl) ?_
  refine va_get (D := D) (ci := 11) (v := .int (nI mh)) (C := RX11) (T := TX11) (N := 28) hx hb hts in_X11 hown hK hP 0 rfl rfl 14 (by decide) lk0 (fun _ h9 => h9) rfl dX11_whisper_40 ?_
  refine lv_iload_n hx hb dX11_whisper_43 rfl (lv_at hl 1 rfl) ?_
  refine k_iastN (y := a) hx hb hK hP hD hS 1 0 rfl rfl (show mh < 7 by omega) (by decide) dX11_whisper_44 (fun H locs hP hD hS => ?_)
  have hb_9 : ∀ i, (va_up ho mh a) i < 7 := up_lt hho (show a < 7 by first | omega | (split <;> omega))
  have hP : va_P D vwCl [(hM, .inr (11, [.int (nI mf), .int (nI mn), .ref m1, .ref m2, .ref m3, .int (nI mb), .int (nI ra), .int (nI rn), .ref m4, .ref m5, .ref m6, .int (nI mw), .ref m7, .ref m8, .int (nI mh), .ref m9, .ref m10, .int (nI mm), .ref m11, .int (nI mr), .ref m12, .ref m13, .ref m14, .ref m15, .ref m16, .ref m17, .ref m18, .int mt])), (m9, .inl (cI, 7, .inl (nA (va_up ho mh a)))), (m10, .inl (cI, 7, .inl (nA hh)))] H := hP
  have hD : va_D A [(hM, .inr (11, [.int (nI mf), .int (nI mn), .ref m1, .ref m2, .ref m3, .int (nI mb), .int (nI ra), .int (nI rn), .ref m4, .ref m5, .ref m6, .int (nI mw), .ref m7, .ref m8, .int (nI mh), .ref m9, .ref m10, .int (nI mm), .ref m11, .int (nI mr), .ref m12, .ref m13, .ref m14, .ref m15, .ref m16, .ref m17, .ref m18, .int mt])), (m9, .inl (cI, 7, .inl (nA (va_up ho mh a)))), (m10, .inl (cI, 7, .inl (nA hh)))] := hD
  refine lv_aload_n hx hb dX11_whisper_45 rfl (lv_at hl 0 rfl) ?_
  refine va_get (D := D) (ci := 11) (v := .ref m10) (C := RX11) (T := TX11) (N := 28) hx hb hts in_X11 hown hK hP 0 rfl rfl 16 (by decide) lk2 (fun _ h9 => h9) rfl dX11_whisper_46 ?_
  refine lv_aload_n hx hb dX11_whisper_49 rfl (lv_at hl 0 rfl) ?_
  refine va_get (D := D) (ci := 11) (v := .int (nI mh)) (C := RX11) (T := TX11) (N := 28) hx hb hts in_X11 hown hK hP 0 rfl rfl 14 (by decide) lk0 (fun _ h9 => h9) rfl dX11_whisper_50 ?_
  refine lv_iload_n hx hb dX11_whisper_53 rfl (lv_at hl 2 rfl) ?_
  refine k_iastN (y := b) hx hb hK hP hD hS 2 0 rfl rfl (show mh < 7 by omega) (by decide) dX11_whisper_54 (fun H locs hP hD hS => ?_)
  have hb_10 : ∀ i, (va_up hh mh b) i < 7 := up_lt hhh (show b < 7 by first | omega | (split <;> omega))
  have hP : va_P D vwCl [(hM, .inr (11, [.int (nI mf), .int (nI mn), .ref m1, .ref m2, .ref m3, .int (nI mb), .int (nI ra), .int (nI rn), .ref m4, .ref m5, .ref m6, .int (nI mw), .ref m7, .ref m8, .int (nI mh), .ref m9, .ref m10, .int (nI mm), .ref m11, .int (nI mr), .ref m12, .ref m13, .ref m14, .ref m15, .ref m16, .ref m17, .ref m18, .int mt])), (m9, .inl (cI, 7, .inl (nA (va_up ho mh a)))), (m10, .inl (cI, 7, .inl (nA (va_up hh mh b))))] H := hP
  have hD : va_D A [(hM, .inr (11, [.int (nI mf), .int (nI mn), .ref m1, .ref m2, .ref m3, .int (nI mb), .int (nI ra), .int (nI rn), .ref m4, .ref m5, .ref m6, .int (nI mw), .ref m7, .ref m8, .int (nI mh), .ref m9, .ref m10, .int (nI mm), .ref m11, .int (nI mr), .ref m12, .ref m13, .ref m14, .ref m15, .ref m16, .ref m17, .ref m18, .int mt])), (m9, .inl (cI, 7, .inl (nA (va_up ho mh a)))), (m10, .inl (cI, 7, .inl (nA (va_up hh mh b))))] := hD
  refine lv_aload_n hx hb dX11_whisper_55 rfl (lv_at hl 0 rfl) ?_
  refine lv_dup hx hb dX11_whisper_56 rfl ?_
  refine va_get (D := D) (ci := 11) (v := .int (nI mh)) (C := RX11) (T := TX11) (N := 28) hx hb hts in_X11 hown hK hP 0 rfl rfl 14 (by decide) lk0 (fun _ h9 => h9) rfl dX11_whisper_57 ?_
  refine lv_iconst (v := (nI 1)) hx hb dX11_whisper_60 (by decide) ?_
  refine lv_iadd hx hb dX11_whisper_61 ?_
  refine k_eqi (show ((nI mh) + (nI 1)) = (nI (mh + 1)) from nI_add mh 1) ?_
  refine va_put (D := D) (ci := 11) (v := .int (nI (mh + 1))) (ty := .int) (C := RX11) (T := TX11) (N := 28) hx hb hts in_X11 tyX11 tyX11_ok nmX11 hown hK hP hD hS 0 rfl rfl 14 (by decide) lk0 (fun _ h9 => h9) rfl (by decide +kernel) rfl rfl (Nat.le_of_ble_eq_true rfl) dX11_whisper_62 (fun H locs hP hD hS => ?_)
  have hP : va_P D vwCl [(hM, .inr (11, [.int (nI mf), .int (nI mn), .ref m1, .ref m2, .ref m3, .int (nI mb), .int (nI ra), .int (nI rn), .ref m4, .ref m5, .ref m6, .int (nI mw), .ref m7, .ref m8, .int (nI (mh + 1)), .ref m9, .ref m10, .int (nI mm), .ref m11, .int (nI mr), .ref m12, .ref m13, .ref m14, .ref m15, .ref m16, .ref m17, .ref m18, .int mt])), (m9, .inl (cI, 7, .inl (nA (va_up ho mh a)))), (m10, .inl (cI, 7, .inl (nA (va_up hh mh b))))] H := hP
  have hD : va_D A [(hM, .inr (11, [.int (nI mf), .int (nI mn), .ref m1, .ref m2, .ref m3, .int (nI mb), .int (nI ra), .int (nI rn), .ref m4, .ref m5, .ref m6, .int (nI mw), .ref m7, .ref m8, .int (nI (mh + 1)), .ref m9, .ref m10, .int (nI mm), .ref m11, .int (nI mr), .ref m12, .ref m13, .ref m14, .ref m15, .ref m16, .ref m17, .ref m18, .int mt])), (m9, .inl (cI, 7, .inl (nA (va_up ho mh a)))), (m10, .inl (cI, 7, .inl (nA (va_up hh mh b))))] := hD
  refine lv_aload_n hx hb dX11_whisper_65 rfl (lv_at hl 0 rfl) ?_
  refine va_get (D := D) (ci := 11) (v := .int (nI (mh + 1))) (C := RX11) (T := TX11) (N := 28) hx hb hts in_X11 hown hK hP 0 rfl rfl 14 (by decide) lk0 (fun _ h9 => h9) rfl dX11_whisper_66 ?_
  refine lv_iconst (v := (nI 1)) hx hb dX11_whisper_69 (by decide) ?_
  refine lv_isub hx hb dX11_whisper_70 ?_
  refine k_eqi (show ((nI (mh + 1)) - (nI 1)) = (nI ((mh + 1) - 1)) from pk_sub (show 1 ≤ (mh + 1) by omega)) ?_
  exact ret _ () _ _ _ _ dX11_whisper_71 (congrArg nI (show (mh + 1) - 1 = mh by omega)) hP hD hS
def rm_X11_many_0 : Room := { frames := 0, cells := 0, slots := 0, locals := 0 }
set_option maxHeartbeats 4000000 in
set_option maxRecDepth 100000 in
theorem c_X11_many_0 (l : Launch) (D : va_G) (cI cZ cS cP : ClassId) (hM : Nat) (m1 : Nat) (m2 : Nat) (m3 : Nat) (m4 : Nat) (m5 : Nat) (m6 : Nat) (m7 : Nat) (m8 : Nat) (m9 : Nat) (m10 : Nat) (m11 : Nat) (m12 : Nat) (m13 : Nat) (m14 : Nat) (m15 : Nat) (m16 : Nat) (m17 : Nat) (m18 : Nat) (mf : Nat) (mn : Nat) (mb : Nat) (ra : Nat) (rn : Nat) (mw : Nat) (mh : Nat) (mm : Nat) (mr : Nat) (mt : Int32) : kMi (S := Unit) l yX11_many wsX11_many rm_X11_many_0 D (kT cI cZ cS cP) [.ref hM, .int (nI 0)] [(hM, .inr (11, [.int (nI mf), .int (nI mn), .ref m1, .ref m2, .ref m3, .int (nI mb), .int (nI ra), .int (nI rn), .ref m4, .ref m5, .ref m6, .int (nI mw), .ref m7, .ref m8, .int (nI mh), .ref m9, .ref m10, .int (nI mm), .ref m11, .int (nI mr), .ref m12, .ref m13, .ref m14, .ref m15, .ref m16, .ref m17, .ref m18, .int mt]))] (fun r _ => r = (nI mn)) (fun _ => [(hM, .inr (11, [.int (nI mf), .int (nI mn), .ref m1, .ref m2, .ref m3, .int (nI mb), .int (nI ra), .int (nI rn), .ref m4, .ref m5, .ref m6, .int (nI mw), .ref m7, .ref m8, .int (nI mh), .ref m9, .ref m10, .int (nI mm), .ref m11, .int (nI mr), .ref m12, .ref m13, .ref m14, .ref m15, .ref m16, .ref m17, .ref m18, .int mt]))]) := by
  refine kMet_i (cc := cX11_many) (maxL := 2) (ty := .int) (by decide) rfl (Nat.le_of_ble_eq_true rfl) (fun _ _ _ => rfl) ?_
  intro p e s m args below meth c A Q ls C hlocks hin hN hK hP hD hS hA hl ret
  obtain ⟨hx, hb, hml, hown, hts⟩ := C
  have hl : lv_has ls 2 [(0, .ref hM), (1, .int (nI 0))] := hl
  have in_X11 : ∀ w ∈ wsX110, w ∈ wsX11_many := by decide +kernel
  have lk0 := hts (.fieldLink RX11 75 "SilkWordModel" "persons" "I") (by decide +kernel)
  have lk1 := hts (.fieldLink RX11 129 "SilkWordModel" "words" "I") (by decide +kernel)
  have lk2 := hts (.fieldLink RX11 132 "SilkWordModel" "whispersNow" "I") (by decide +kernel)
  have lk3 := hts (.fieldLink RX11 135 "SilkWordModel" "readings" "I") (by decide +kernel)
  refine lv_iload_n hx hb dX11_many_0 rfl (lv_at hl 1 rfl) ?_
  rcases (show 0 = 0 ∨ 0 = 1 ∨ 0 = 2 ∨ 0 = 3 ∨ (0 < 0 ∨ 3 < 0) by omega) with c_1 | c_1 | c_1 | c_1 | c_1
  · skip
    refine lv_tableIn (off := 31) (tgt := 32) hx hb dX11_many_1 (by rw [c_1]; decide) (by rw [c_1]; decide) (by rw [c_1]; decide) (by decide) ?_
    refine lv_aload_n hx hb dX11_many_32 rfl (lv_at hl 0 rfl) ?_
    refine va_get (D := D) (ci := 11) (v := .int (nI mn)) (C := RX11) (T := TX11) (N := 28) hx hb hts in_X11 hown hK hP 0 rfl rfl 1 (by decide) lk0 (fun _ h9 => h9) rfl dX11_many_33 ?_
    exact ret _ () _ _ _ _ dX11_many_36 (rfl) hP hD hS
  · skip
    refine lv_tableIn (off := 36) (tgt := 37) hx hb dX11_many_1 (by rw [c_1]; decide) (by rw [c_1]; decide) (by rw [c_1]; decide) (by decide) ?_
    refine lv_aload_n hx hb dX11_many_37 rfl (lv_at hl 0 rfl) ?_
    refine va_get (D := D) (ci := 11) (v := .int (nI mw)) (C := RX11) (T := TX11) (N := 28) hx hb hts in_X11 hown hK hP 0 rfl rfl 11 (by decide) lk1 (fun _ h9 => h9) rfl dX11_many_38 ?_
    exact ret _ () _ _ _ _ dX11_many_41 (congrArg nI (show mw = mn by first | rfl | omega)) hP hD hS
  · skip
    refine lv_tableIn (off := 41) (tgt := 42) hx hb dX11_many_1 (by rw [c_1]; decide) (by rw [c_1]; decide) (by rw [c_1]; decide) (by decide) ?_
    refine lv_aload_n hx hb dX11_many_42 rfl (lv_at hl 0 rfl) ?_
    refine va_get (D := D) (ci := 11) (v := .int (nI mh)) (C := RX11) (T := TX11) (N := 28) hx hb hts in_X11 hown hK hP 0 rfl rfl 14 (by decide) lk2 (fun _ h9 => h9) rfl dX11_many_43 ?_
    exact ret _ () _ _ _ _ dX11_many_46 (congrArg nI (show mh = mn by first | rfl | omega)) hP hD hS
  · skip
    refine lv_tableIn (off := 46) (tgt := 47) hx hb dX11_many_1 (by rw [c_1]; decide) (by rw [c_1]; decide) (by rw [c_1]; decide) (by decide) ?_
    refine lv_aload_n hx hb dX11_many_47 rfl (lv_at hl 0 rfl) ?_
    refine va_get (D := D) (ci := 11) (v := .int (nI mr)) (C := RX11) (T := TX11) (N := 28) hx hb hts in_X11 hown hK hP 0 rfl rfl 19 (by decide) lk3 (fun _ h9 => h9) rfl dX11_many_48 ?_
    exact ret _ () _ _ _ _ dX11_many_51 (congrArg nI (show mr = mn by first | rfl | omega)) hP hD hS
  · skip
    refine lv_tableOut (tgt := 52) hx hb dX11_many_1 (by rw [nI_toInt (by omega)]; omega) (by decide) ?_
    refine lv_bipush (v := (-2)) hx hb dX11_many_52 (by decide) ?_
    exact ret _ () _ _ _ _ dX11_many_54 (show ((-2) : Int32) = (nI mn) by first | rfl | omega) hP hD hS
