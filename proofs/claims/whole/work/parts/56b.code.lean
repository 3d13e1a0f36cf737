def rm_X11_codeAt_in : Room := { frames := 0, cells := 0, slots := 0, locals := 0 }
set_option maxHeartbeats 4000000 in
set_option maxRecDepth 100000 in
theorem c_X11_codeAt_in (l : Launch) (D : va_G) (cI cZ cS cP : ClassId) (hM : Nat) (m1 : Nat) (m2 : Nat) (m3 : Nat) (m4 : Nat) (m5 : Nat) (m6 : Nat) (m7 : Nat) (m8 : Nat) (m9 : Nat) (m10 : Nat) (m11 : Nat) (m12 : Nat) (m13 : Nat) (m14 : Nat) (m15 : Nat) (m16 : Nat) (m17 : Nat) (m18 : Nat) (mf : Nat) (mn : Nat) (mb : Nat) (ra : Nat) (rn : Nat) (mw : Nat) (mh : Nat) (mm : Nat) (mr : Nat) (mt : Int32) (sc : Nat → Int32) (fr : Nat) (nn : Nat) (hfr : fr + nn ≤ 240) (hra : ra < nn) : kMi (S := Unit) l yX11_codeAt wsX11_codeAt rm_X11_codeAt_in D (kT cI cZ cS cP) [.ref hM, .int (nI fr), .int (nI nn)] [(hM, .inr (11, [.int (nI mf), .int (nI mn), .ref m1, .ref m2, .ref m3, .int (nI mb), .int (nI ra), .int (nI rn), .ref m4, .ref m5, .ref m6, .int (nI mw), .ref m7, .ref m8, .int (nI mh), .ref m9, .ref m10, .int (nI mm), .ref m11, .int (nI mr), .ref m12, .ref m13, .ref m14, .ref m15, .ref m16, .ref m17, .ref m18, .int mt])), (m17, .inl (cI, 240, .inl sc))] (fun r _ => r = (sc (fr + ra))) (fun _ => [(hM, .inr (11, [.int (nI mf), .int (nI mn), .ref m1, .ref m2, .ref m3, .int (nI mb), .int (nI ra), .int (nI rn), .ref m4, .ref m5, .ref m6, .int (nI mw), .ref m7, .ref m8, .int (nI mh), .ref m9, .ref m10, .int (nI mm), .ref m11, .int (nI mr), .ref m12, .ref m13, .ref m14, .ref m15, .ref m16, .ref m17, .ref m18, .int mt])), (m17, .inl (cI, 240, .inl sc))]) := by
  refine kMet_i (cc := cX11_codeAt) (maxL := 3) (ty := .int) (by decide) rfl (Nat.le_of_ble_eq_true rfl) (fun _ _ _ => rfl) ?_
  intro p e s m args below meth c A Q ls C hlocks hin hN hK hP hD hS hA hl ret
  obtain ⟨hx, hb, hml, hown, hts⟩ := C
  have hl : lv_has ls 3 [(0, .ref hM), (1, .int (nI fr)), (2, .int (nI nn))] := hl
  have in_X11 : ∀ w ∈ wsX110, w ∈ wsX11_codeAt := by decide +kernel
  have lk0 := hts (.fieldLink RX11 84 "SilkWordModel" "readAt" "I") (by decide +kernel)
  have lk1 := hts (.fieldLink RX11 59 "SilkWordModel" "sheet" "[I") (by decide +kernel)
  refine lv_aload_n hx hb dX11_codeAt_0 rfl (lv_at hl 0 rfl) ?_
  refine va_get (D := D) (ci := 11) (v := .int (nI ra)) (C := RX11) (T := TX11) (N := 28) hx hb hts in_X11 hown hK hP 0 rfl rfl 6 (by decide) lk0 (fun _ h9 => h9) rfl dX11_codeAt_1 ?_
  refine lv_iload_n hx hb dX11_codeAt_4 rfl (lv_at hl 2 rfl) ?_
  refine k_icmp_ge (tgt := 22) hx hb dX11_codeAt_5 (by decide) (show ra < 2 ^ 31 by first | omega | (split <;> omega)) (show nn < 2 ^ 31 by first | omega | (split <;> omega)) (fun c_1 => absurd c_1 (by omega)) (fun c_1 => ?_)
  refine lv_aload_n hx hb dX11_codeAt_8 rfl (lv_at hl 0 rfl) ?_
  refine va_get (D := D) (ci := 11) (v := .ref m17) (C := RX11) (T := TX11) (N := 28) hx hb hts in_X11 hown hK hP 0 rfl rfl 25 (by decide) lk1 (fun _ h9 => h9) rfl dX11_codeAt_9 ?_
  refine lv_iload_n hx hb dX11_codeAt_12 rfl (lv_at hl 1 rfl) ?_
  refine lv_aload_n hx hb dX11_codeAt_13 rfl (lv_at hl 0 rfl) ?_
  refine va_get (D := D) (ci := 11) (v := .int (nI ra)) (C := RX11) (T := TX11) (N := 28) hx hb hts in_X11 hown hK hP 0 rfl rfl 6 (by decide) lk0 (fun _ h9 => h9) rfl dX11_codeAt_14 ?_
  refine lv_iadd hx hb dX11_codeAt_17 ?_
  refine k_eqi (show ((nI fr) + (nI ra)) = (nI (fr + ra)) from nI_add fr ra) ?_
  refine k_iald hx hb hK hP 1 0 rfl rfl (show (fr + ra) < 240 by omega) (by decide) dX11_codeAt_18 ?_
  refine lv_goto (tgt := 24) hx hb dX11_codeAt_19 (by decide) ?_
  exact ret _ () _ _ _ _ dX11_codeAt_24 (rfl) hP hD hS
def rm_X11_codeAt_out : Room := { frames := 0, cells := 0, slots := 0, locals := 0 }
set_option maxHeartbeats 4000000 in
set_option maxRecDepth 100000 in
theorem c_X11_codeAt_out (l : Launch) (D : va_G) (cI cZ cS cP : ClassId) (hM : Nat) (m1 : Nat) (m2 : Nat) (m3 : Nat) (m4 : Nat) (m5 : Nat) (m6 : Nat) (m7 : Nat) (m8 : Nat) (m9 : Nat) (m10 : Nat) (m11 : Nat) (m12 : Nat) (m13 : Nat) (m14 : Nat) (m15 : Nat) (m16 : Nat) (m17 : Nat) (m18 : Nat) (mf : Nat) (mn : Nat) (mb : Nat) (ra : Nat) (rn : Nat) (mw : Nat) (mh : Nat) (mm : Nat) (mr : Nat) (mt : Int32) (sc : Nat → Int32) (fr : Nat) (nn : Nat) (hfr : fr + nn ≤ 240) (hra : nn ≤ ra) (hra2 : ra ≤ 240) : kMi (S := Unit) l yX11_codeAt wsX11_codeAt rm_X11_codeAt_out D (kT cI cZ cS cP) [.ref hM, .int (nI fr), .int (nI nn)] [(hM, .inr (11, [.int (nI mf), .int (nI mn), .ref m1, .ref m2, .ref m3, .int (nI mb), .int (nI ra), .int (nI rn), .ref m4, .ref m5, .ref m6, .int (nI mw), .ref m7, .ref m8, .int (nI mh), .ref m9, .ref m10, .int (nI mm), .ref m11, .int (nI mr), .ref m12, .ref m13, .ref m14, .ref m15, .ref m16, .ref m17, .ref m18, .int mt])), (m17, .inl (cI, 240, .inl sc))] (fun r _ => r = (-9)) (fun _ => [(hM, .inr (11, [.int (nI mf), .int (nI mn), .ref m1, .ref m2, .ref m3, .int (nI mb), .int (nI ra), .int (nI rn), .ref m4, .ref m5, .ref m6, .int (nI mw), .ref m7, .ref m8, .int (nI mh), .ref m9, .ref m10, .int (nI mm), .ref m11, .int (nI mr), .ref m12, .ref m13, .ref m14, .ref m15, .ref m16, .ref m17, .ref m18, .int mt])), (m17, .inl (cI, 240, .inl sc))]) := by
  refine kMet_i (cc := cX11_codeAt) (maxL := 3) (ty := .int) (by decide) rfl (Nat.le_of_ble_eq_true rfl) (fun _ _ _ => rfl) ?_
  intro p e s m args below meth c A Q ls C hlocks hin hN hK hP hD hS hA hl ret
  obtain ⟨hx, hb, hml, hown, hts⟩ := C
  have hl : lv_has ls 3 [(0, .ref hM), (1, .int (nI fr)), (2, .int (nI nn))] := hl
  have in_X11 : ∀ w ∈ wsX110, w ∈ wsX11_codeAt := by decide +kernel
  have lk0 := hts (.fieldLink RX11 84 "SilkWordModel" "readAt" "I") (by decide +kernel)
  refine lv_aload_n hx hb dX11_codeAt_0 rfl (lv_at hl 0 rfl) ?_
  refine va_get (D := D) (ci := 11) (v := .int (nI ra)) (C := RX11) (T := TX11) (N := 28) hx hb hts in_X11 hown hK hP 0 rfl rfl 6 (by decide) lk0 (fun _ h9 => h9) rfl dX11_codeAt_1 ?_
  refine lv_iload_n hx hb dX11_codeAt_4 rfl (lv_at hl 2 rfl) ?_
  refine k_icmp_ge (tgt := 22) hx hb dX11_codeAt_5 (by decide) (show ra < 2 ^ 31 by first | omega | (split <;> omega)) (show nn < 2 ^ 31 by first | omega | (split <;> omega)) (fun c_1 => ?_) (fun c_1 => absurd c_1 (by omega))
  refine lv_bipush (v := (-9)) hx hb dX11_codeAt_22 (by decide) ?_
  exact ret _ () _ _ _ _ dX11_codeAt_24 (rfl) hP hD hS
def rm_X11_figure_in : Room := { frames := 1, cells := 0, slots := 0, locals := 25 }
set_option maxHeartbeats 4000000 in
set_option maxRecDepth 100000 in
theorem c_X11_figure_in (l : Launch) (D : va_G) (cI cZ cS cP : ClassId) (hM : Nat) (m1 : Nat) (m2 : Nat) (m3 : Nat) (m4 : Nat) (m5 : Nat) (m6 : Nat) (m7 : Nat) (m8 : Nat) (m9 : Nat) (m10 : Nat) (m11 : Nat) (m12 : Nat) (m13 : Nat) (m14 : Nat) (m15 : Nat) (m16 : Nat) (m17 : Nat) (m18 : Nat) (mf : Nat) (mn : Nat) (mb : Nat) (ra : Nat) (rn : Nat) (mw : Nat) (mh : Nat) (mm : Nat) (mr : Nat) (mt : Int32) (sc : Nat → Int32) (fr : Nat) (nn : Nat) (mst : Nat) (v : Nat) (hfr : fr + nn ≤ 240) (hms : mst ≤ 9) (hra : ra < nn) (hv : sc (fr + ra) - nI 48 = nI v) (hvm : v ≤ mst) : kMi (S := Unit) l yX11_figure wsX11_figure rm_X11_figure_in D (kT cI cZ cS cP) [.ref hM, .int (nI fr), .int (nI nn), .int (nI mst)] [(hM, .inr (11, [.int (nI mf), .int (nI mn), .ref m1, .ref m2, .ref m3, .int (nI mb), .int (nI ra), .int (nI rn), .ref m4, .ref m5, .ref m6, .int (nI mw), .ref m7, .ref m8, .int (nI mh), .ref m9, .ref m10, .int (nI mm), .ref m11, .int (nI mr), .ref m12, .ref m13, .ref m14, .ref m15, .ref m16, .ref m17, .ref m18, .int mt])), (m17, .inl (cI, 240, .inl sc))] (fun r _ => r = (nI v)) (fun _ => [(hM, .inr (11, [.int (nI mf), .int (nI mn), .ref m1, .ref m2, .ref m3, .int (nI mb), .int (nI (ra + 1)), .int (nI rn), .ref m4, .ref m5, .ref m6, .int (nI mw), .ref m7, .ref m8, .int (nI mh), .ref m9, .ref m10, .int (nI mm), .ref m11, .int (nI mr), .ref m12, .ref m13, .ref m14, .ref m15, .ref m16, .ref m17, .ref m18, .int mt])), (m17, .inl (cI, 240, .inl sc))]) := by
  refine kMet_i (cc := cX11_figure) (maxL := 6) (ty := .int) (by decide) rfl (Nat.le_of_ble_eq_true rfl) (fun _ _ _ => rfl) ?_
  intro p e s m args below meth c A Q ls C hlocks hin hN hK hP hD hS hA hl ret
  obtain ⟨hx, hb, hml, hown, hts⟩ := C
  have hl : lv_has ls 6 [(0, .ref hM), (1, .int (nI fr)), (2, .int (nI nn)), (3, .int (nI mst))] := hl
  have in_X11 : ∀ w ∈ wsX110, w ∈ wsX11_figure := by decide +kernel
  have lk0 := hts (.fieldLink RX11 84 "SilkWordModel" "readAt" "I") (by decide +kernel)
  refine lv_aload_n hx hb dX11_figure_0 rfl (lv_at hl 0 rfl) ?_
  refine lv_iload_n hx hb dX11_figure_1 rfl (lv_at hl 1 rfl) ?_
  refine lv_iload_n hx hb dX11_figure_2 rfl (lv_at hl 2 rfl) ?_
  refine k_goi (S := Unit) (va_runV (As := [.int (nI fr), .int (nI nn)]) (rest := []) ⟨hx, hb, hml, hown, hts⟩ (c_X11_codeAt_in l D cI cZ cS cP hM m1 m2 m3 m4 m5 m6 m7 m8 m9 m10 m11 m12 m13 m14 m15 m16 m17 m18 mf mn mb ra rn mw mh mm mr mt sc fr nn (by first | assumption | omega) (by first | assumption | omega) _) (cwV 2 hts gX11_figure_X11_codeAt rfl rfl rfl (by decide +kernel) ⟨Nat.le_of_ble_eq_true rfl, Nat.le_of_ble_eq_true rfl⟩) (kPreV hN hK hP hD [0, 1] rfl rfl (q0 := 0) (ci := 11) (q := (RX11, TX11, 28)) rfl rfl) rfl rfl hl.1 rfl (lv_room (Nat.le_of_ble_eq_true rfl)) dX11_figure_3 ⟨Nat.le_of_ble_eq_true rfl, Nat.le_of_ble_eq_true rfl⟩) hP hD hS hA [0, 1] rfl [hM, m17] rfl (fun _ => rfl) 2 [] rfl (fun _u => [(hM, .inr (11, [.int (nI mf), .int (nI mn), .ref m1, .ref m2, .ref m3, .int (nI mb), .int (nI ra), .int (nI rn), .ref m4, .ref m5, .ref m6, .int (nI mw), .ref m7, .ref m8, .int (nI mh), .ref m9, .ref m10, .int (nI mm), .ref m11, .int (nI mr), .ref m12, .ref m13, .ref m14, .ref m15, .ref m16, .ref m17, .ref m18, .int mt])), (m17, .inl (cI, 240, .inl sc))]) (fun _ => rfl) [] [] (fun _ => rfl) rfl (fun _ => rfl) rfl (fun r_1 _u H locs hr_2 hP hD hS => ?_)
  have hP : va_P D vwCl [(hM, .inr (11, [.int (nI mf), .int (nI mn), .ref m1, .ref m2, .ref m3, .int (nI mb), .int (nI ra), .int (nI rn), .ref m4, .ref m5, .ref m6, .int (nI mw), .ref m7, .ref m8, .int (nI mh), .ref m9, .ref m10, .int (nI mm), .ref m11, .int (nI mr), .ref m12, .ref m13, .ref m14, .ref m15, .ref m16, .ref m17, .ref m18, .int mt])), (m17, .inl (cI, 240, .inl sc))] H := hP
  have hD : va_D A [(hM, .inr (11, [.int (nI mf), .int (nI mn), .ref m1, .ref m2, .ref m3, .int (nI mb), .int (nI ra), .int (nI rn), .ref m4, .ref m5, .ref m6, .int (nI mw), .ref m7, .ref m8, .int (nI mh), .ref m9, .ref m10, .int (nI mm), .ref m11, .int (nI mr), .ref m12, .ref m13, .ref m14, .ref m15, .ref m16, .ref m17, .ref m18, .int mt])), (m17, .inl (cI, 240, .inl sc))] := hD
  subst hr_2
  refine lv_bipush (v := (nI 48)) hx hb dX11_figure_6 (by decide) ?_
  refine lv_isub hx hb dX11_figure_8 ?_
  refine k_eqi (show ((sc (fr + ra)) - (nI 48)) = (nI v) from hv) ?_
  refine lv_istore (lv' := [(4, .int (nI v)), (0, .ref hM), (1, .int (nI fr)), (2, .int (nI nn)), (3, .int (nI mst))]) hx hb dX11_figure_9 hl (by decide) rfl (fun ls hl => ?_)
  refine lv_iload hx hb dX11_figure_11 (lv_at hl 0 rfl) ?_
  refine lv_i2l (v := (lN v)) hx hb dX11_figure_13 (nI_l (show v < 2 ^ 31 by omega)) ?_
  refine lv_lconst (v := lN 0) hx hb dX11_figure_14 (by decide) ?_
  refine lv_iload_n hx hb dX11_figure_15 rfl (lv_at hl 4 rfl) ?_
  refine lv_i2l (v := (lN mst)) hx hb dX11_figure_16 (nI_l (show mst < 2 ^ 31 by omega)) ?_
  refine k_goi (S := Unit) (va_runS (As := [.long (lN v), .long (lN 0), .long (lN mst)]) (rest := []) ⟨hx, hb, hml, hown, hts⟩ (c_X11_in l D cI cZ cS cP (lN v) (lN 0) (lN mst)  _) (va_cwS 3 hts gX11_figure_X11_in rfl rfl rfl (by decide +kernel) ⟨Nat.le_of_ble_eq_true rfl, Nat.le_of_ble_eq_true rfl⟩) (kPreS hN hK hP hD [] rfl rfl) rfl rfl hl.1 rfl (lv_room (Nat.le_of_ble_eq_true rfl)) dX11_figure_17 ⟨Nat.le_of_ble_eq_true rfl, Nat.le_of_ble_eq_true rfl⟩) hP hD hS hA [] rfl [] rfl (fun _ => rfl) 2 [0, 1] rfl (fun _u => [(hM, .inr (11, [.int (nI mf), .int (nI mn), .ref m1, .ref m2, .ref m3, .int (nI mb), .int (nI ra), .int (nI rn), .ref m4, .ref m5, .ref m6, .int (nI mw), .ref m7, .ref m8, .int (nI mh), .ref m9, .ref m10, .int (nI mm), .ref m11, .int (nI mr), .ref m12, .ref m13, .ref m14, .ref m15, .ref m16, .ref m17, .ref m18, .int mt])), (m17, .inl (cI, 240, .inl sc))]) (fun _ => rfl) [(hM, .inr (11, [.int (nI mf), .int (nI mn), .ref m1, .ref m2, .ref m3, .int (nI mb), .int (nI ra), .int (nI rn), .ref m4, .ref m5, .ref m6, .int (nI mw), .ref m7, .ref m8, .int (nI mh), .ref m9, .ref m10, .int (nI mm), .ref m11, .int (nI mr), .ref m12, .ref m13, .ref m14, .ref m15, .ref m16, .ref m17, .ref m18, .int mt])), (m17, .inl (cI, 240, .inl sc))] [] (fun _ => rfl) rfl (fun _ => rfl) rfl (fun r_3 _u H locs hr_4 hP hD hS => ?_)
  have hP : va_P D vwCl [(hM, .inr (11, [.int (nI mf), .int (nI mn), .ref m1, .ref m2, .ref m3, .int (nI mb), .int (nI ra), .int (nI rn), .ref m4, .ref m5, .ref m6, .int (nI mw), .ref m7, .ref m8, .int (nI mh), .ref m9, .ref m10, .int (nI mm), .ref m11, .int (nI mr), .ref m12, .ref m13, .ref m14, .ref m15, .ref m16, .ref m17, .ref m18, .int mt])), (m17, .inl (cI, 240, .inl sc))] H := hP
  have hD : va_D A [(hM, .inr (11, [.int (nI mf), .int (nI mn), .ref m1, .ref m2, .ref m3, .int (nI mb), .int (nI ra), .int (nI rn), .ref m4, .ref m5, .ref m6, .int (nI mw), .ref m7, .ref m8, .int (nI mh), .ref m9, .ref m10, .int (nI mm), .ref m11, .int (nI mr), .ref m12, .ref m13, .ref m14, .ref m15, .ref m16, .ref m17, .ref m18, .int mt])), (m17, .inl (cI, 240, .inl sc))] := hD
  subst hr_4
  refine k_eqi (show (nI (if (lN 0) ≤ (lN v) ∧ (lN v) ≤ (lN mst) then 1 else 0)) = (nI 1) from congrArg nI (if_pos (by rw [← t64n (show v < 2 ^ 31 by omega)]; exact (inMk (by omega)).mpr ((inR_nI (by omega)).mpr (by omega))))) ?_
  refine lv_istore (lv' := [(5, .int (nI 1)), (4, .int (nI v)), (0, .ref hM), (1, .int (nI fr)), (2, .int (nI nn)), (3, .int (nI mst))]) hx hb dX11_figure_20 hl (by decide) rfl (fun ls hl => ?_)
  refine lv_aload_n hx hb dX11_figure_22 rfl (lv_at hl 2 rfl) ?_
  refine lv_dup hx hb dX11_figure_23 rfl ?_
  refine va_get (D := D) (ci := 11) (v := .int (nI ra)) (C := RX11) (T := TX11) (N := 28) hx hb hts in_X11 hown hK hP 0 rfl rfl 6 (by decide) lk0 (fun _ h9 => h9) rfl dX11_figure_24 ?_
  refine lv_iload hx hb dX11_figure_27 (lv_at hl 0 rfl) ?_
  refine k_if_eq (tgt := 36) hx hb dX11_figure_29 (by decide) (show 1 < 2 ^ 31 by first | omega | (split <;> omega)) (fun q9 => absurd q9 (by decide)) (fun _ => ?_)
  refine lv_iconst (v := (nI 1)) hx hb dX11_figure_32 (by decide) ?_
  refine lv_goto (tgt := 37) hx hb dX11_figure_33 (by decide) ?_
  refine lv_iadd hx hb dX11_figure_37 ?_
  refine k_eqi (show ((nI ra) + (nI 1)) = (nI (ra + 1)) from nI_add ra 1) ?_
  refine va_put (D := D) (ci := 11) (v := .int (nI (ra + 1))) (ty := .int) (C := RX11) (T := TX11) (N := 28) hx hb hts in_X11 tyX11 tyX11_ok nmX11 hown hK hP hD hS 0 rfl rfl 6 (by decide) lk0 (fun _ h9 => h9) rfl (by decide +kernel) rfl rfl (Nat.le_of_ble_eq_true rfl) dX11_figure_38 (fun H locs hP hD hS => ?_)
  have hP : va_P D vwCl [(hM, .inr (11, [.int (nI mf), .int (nI mn), .ref m1, .ref m2, .ref m3, .int (nI mb), .int (nI (ra + 1)), .int (nI rn), .ref m4, .ref m5, .ref m6, .int (nI mw), .ref m7, .ref m8, .int (nI mh), .ref m9, .ref m10, .int (nI mm), .ref m11, .int (nI mr), .ref m12, .ref m13, .ref m14, .ref m15, .ref m16, .ref m17, .ref m18, .int mt])), (m17, .inl (cI, 240, .inl sc))] H := hP
  have hD : va_D A [(hM, .inr (11, [.int (nI mf), .int (nI mn), .ref m1, .ref m2, .ref m3, .int (nI mb), .int (nI (ra + 1)), .int (nI rn), .ref m4, .ref m5, .ref m6, .int (nI mw), .ref m7, .ref m8, .int (nI mh), .ref m9, .ref m10, .int (nI mm), .ref m11, .int (nI mr), .ref m12, .ref m13, .ref m14, .ref m15, .ref m16, .ref m17, .ref m18, .int mt])), (m17, .inl (cI, 240, .inl sc))] := hD
  refine lv_iload hx hb dX11_figure_41 (lv_at hl 0 rfl) ?_
  refine k_if_eq (tgt := 51) hx hb dX11_figure_43 (by decide) (show 1 < 2 ^ 31 by first | omega | (split <;> omega)) (fun q9 => absurd q9 (by decide)) (fun _ => ?_)
  refine lv_iload hx hb dX11_figure_46 (lv_at hl 1 rfl) ?_
  refine lv_goto (tgt := 53) hx hb dX11_figure_48 (by decide) ?_
  exact ret _ () _ _ _ _ dX11_figure_53 (rfl) hP hD hS
def rm_X11_figure_end : Room := { frames := 1, cells := 0, slots := 0, locals := 25 }
set_option maxHeartbeats 4000000 in
set_option maxRecDepth 100000 in
theorem c_X11_figure_end (l : Launch) (D : va_G) (cI cZ cS cP : ClassId) (hM : Nat) (m1 : Nat) (m2 : Nat) (m3 : Nat) (m4 : Nat) (m5 : Nat) (m6 : Nat) (m7 : Nat) (m8 : Nat) (m9 : Nat) (m10 : Nat) (m11 : Nat) (m12 : Nat) (m13 : Nat) (m14 : Nat) (m15 : Nat) (m16 : Nat) (m17 : Nat) (m18 : Nat) (mf : Nat) (mn : Nat) (mb : Nat) (ra : Nat) (rn : Nat) (mw : Nat) (mh : Nat) (mm : Nat) (mr : Nat) (mt : Int32) (sc : Nat → Int32) (fr : Nat) (nn : Nat) (mst : Nat) (hfr : fr + nn ≤ 240) (hms : mst ≤ 9) (hra : nn ≤ ra) (hra2 : ra ≤ 240) : kMi (S := Unit) l yX11_figure wsX11_figure rm_X11_figure_end D (kT cI cZ cS cP) [.ref hM, .int (nI fr), .int (nI nn), .int (nI mst)] [(hM, .inr (11, [.int (nI mf), .int (nI mn), .ref m1, .ref m2, .ref m3, .int (nI mb), .int (nI ra), .int (nI rn), .ref m4, .ref m5, .ref m6, .int (nI mw), .ref m7, .ref m8, .int (nI mh), .ref m9, .ref m10, .int (nI mm), .ref m11, .int (nI mr), .ref m12, .ref m13, .ref m14, .ref m15, .ref m16, .ref m17, .ref m18, .int mt])), (m17, .inl (cI, 240, .inl sc))] (fun r _ => r = (-9)) (fun _ => [(hM, .inr (11, [.int (nI mf), .int (nI mn), .ref m1, .ref m2, .ref m3, .int (nI mb), .int (nI ra), .int (nI rn), .ref m4, .ref m5, .ref m6, .int (nI mw), .ref m7, .ref m8, .int (nI mh), .ref m9, .ref m10, .int (nI mm), .ref m11, .int (nI mr), .ref m12, .ref m13, .ref m14, .ref m15, .ref m16, .ref m17, .ref m18, .int mt])), (m17, .inl (cI, 240, .inl sc))]) := by
  refine kMet_i (cc := cX11_figure) (maxL := 6) (ty := .int) (by decide) rfl (Nat.le_of_ble_eq_true rfl) (fun _ _ _ => rfl) ?_
  intro p e s m args below meth c A Q ls C hlocks hin hN hK hP hD hS hA hl ret
  obtain ⟨hx, hb, hml, hown, hts⟩ := C
  have hl : lv_has ls 6 [(0, .ref hM), (1, .int (nI fr)), (2, .int (nI nn)), (3, .int (nI mst))] := hl
  have in_X11 : ∀ w ∈ wsX110, w ∈ wsX11_figure := by decide +kernel
  have lk0 := hts (.fieldLink RX11 84 "SilkWordModel" "readAt" "I") (by decide +kernel)
  refine lv_aload_n hx hb dX11_figure_0 rfl (lv_at hl 0 rfl) ?_
  refine lv_iload_n hx hb dX11_figure_1 rfl (lv_at hl 1 rfl) ?_
  refine lv_iload_n hx hb dX11_figure_2 rfl (lv_at hl 2 rfl) ?_
  refine k_goi (S := Unit) (va_runV (As := [.int (nI fr), .int (nI nn)]) (rest := []) ⟨hx, hb, hml, hown, hts⟩ (c_X11_codeAt_out l D cI cZ cS cP hM m1 m2 m3 m4 m5 m6 m7 m8 m9 m10 m11 m12 m13 m14 m15 m16 m17 m18 mf mn mb ra rn mw mh mm mr mt sc fr nn (by first | assumption | omega) (by first | assumption | omega) (by first | assumption | omega) _) (cwV 2 hts gX11_figure_X11_codeAt rfl rfl rfl (by decide +kernel) ⟨Nat.le_of_ble_eq_true rfl, Nat.le_of_ble_eq_true rfl⟩) (kPreV hN hK hP hD [0, 1] rfl rfl (q0 := 0) (ci := 11) (q := (RX11, TX11, 28)) rfl rfl) rfl rfl hl.1 rfl (lv_room (Nat.le_of_ble_eq_true rfl)) dX11_figure_3 ⟨Nat.le_of_ble_eq_true rfl, Nat.le_of_ble_eq_true rfl⟩) hP hD hS hA [0, 1] rfl [hM, m17] rfl (fun _ => rfl) 2 [] rfl (fun _u => [(hM, .inr (11, [.int (nI mf), .int (nI mn), .ref m1, .ref m2, .ref m3, .int (nI mb), .int (nI ra), .int (nI rn), .ref m4, .ref m5, .ref m6, .int (nI mw), .ref m7, .ref m8, .int (nI mh), .ref m9, .ref m10, .int (nI mm), .ref m11, .int (nI mr), .ref m12, .ref m13, .ref m14, .ref m15, .ref m16, .ref m17, .ref m18, .int mt])), (m17, .inl (cI, 240, .inl sc))]) (fun _ => rfl) [] [] (fun _ => rfl) rfl (fun _ => rfl) rfl (fun r_1 _u H locs hr_2 hP hD hS => ?_)
  have hP : va_P D vwCl [(hM, .inr (11, [.int (nI mf), .int (nI mn), .ref m1, .ref m2, .ref m3, .int (nI mb), .int (nI ra), .int (nI rn), .ref m4, .ref m5, .ref m6, .int (nI mw), .ref m7, .ref m8, .int (nI mh), .ref m9, .ref m10, .int (nI mm), .ref m11, .int (nI mr), .ref m12, .ref m13, .ref m14, .ref m15, .ref m16, .ref m17, .ref m18, .int mt])), (m17, .inl (cI, 240, .inl sc))] H := hP
  have hD : va_D A [(hM, .inr (11, [.int (nI mf), .int (nI mn), .ref m1, .ref m2, .ref m3, .int (nI mb), .int (nI ra), .int (nI rn), .ref m4, .ref m5, .ref m6, .int (nI mw), .ref m7, .ref m8, .int (nI mh), .ref m9, .ref m10, .int (nI mm), .ref m11, .int (nI mr), .ref m12, .ref m13, .ref m14, .ref m15, .ref m16, .ref m17, .ref m18, .int mt])), (m17, .inl (cI, 240, .inl sc))] := hD
  subst hr_2
  refine lv_bipush (v := (nI 48)) hx hb dX11_figure_6 (by decide) ?_
  refine lv_isub hx hb dX11_figure_8 ?_
  refine lv_istore (lv' := [(4, .int ((-9) - (nI 48))), (0, .ref hM), (1, .int (nI fr)), (2, .int (nI nn)), (3, .int (nI mst))]) hx hb dX11_figure_9 hl (by decide) rfl (fun ls hl => ?_)
  refine lv_iload hx hb dX11_figure_11 (lv_at hl 0 rfl) ?_
  refine lv_i2l (v := (((-9) - (nI 48)).toInt64)) hx hb dX11_figure_13 (rfl) ?_
  refine lv_lconst (v := lN 0) hx hb dX11_figure_14 (by decide) ?_
  refine lv_iload_n hx hb dX11_figure_15 rfl (lv_at hl 4 rfl) ?_
  refine lv_i2l (v := (lN mst)) hx hb dX11_figure_16 (nI_l (show mst < 2 ^ 31 by omega)) ?_
  refine k_goi (S := Unit) (va_runS (As := [.long (((-9) - (nI 48)).toInt64), .long (lN 0), .long (lN mst)]) (rest := []) ⟨hx, hb, hml, hown, hts⟩ (c_X11_in l D cI cZ cS cP (((-9) - (nI 48)).toInt64) (lN 0) (lN mst)  _) (va_cwS 3 hts gX11_figure_X11_in rfl rfl rfl (by decide +kernel) ⟨Nat.le_of_ble_eq_true rfl, Nat.le_of_ble_eq_true rfl⟩) (kPreS hN hK hP hD [] rfl rfl) rfl rfl hl.1 rfl (lv_room (Nat.le_of_ble_eq_true rfl)) dX11_figure_17 ⟨Nat.le_of_ble_eq_true rfl, Nat.le_of_ble_eq_true rfl⟩) hP hD hS hA [] rfl [] rfl (fun _ => rfl) 2 [0, 1] rfl (fun _u => [(hM, .inr (11, [.int (nI mf), .int (nI mn), .ref m1, .ref m2, .ref m3, .int (nI mb), .int (nI ra), .int (nI rn), .ref m4, .ref m5, .ref m6, .int (nI mw), .ref m7, .ref m8, .int (nI mh), .ref m9, .ref m10, .int (nI mm), .ref m11, .int (nI mr), .ref m12, .ref m13, .ref m14, .ref m15, .ref m16, .ref m17, .ref m18, .int mt])), (m17, .inl (cI, 240, .inl sc))]) (fun _ => rfl) [(hM, .inr (11, [.int (nI mf), .int (nI mn), .ref m1, .ref m2, .ref m3, .int (nI mb), .int (nI ra), .int (nI rn), .ref m4, .ref m5, .ref m6, .int (nI mw), .ref m7, .ref m8, .int (nI mh), .ref m9, .ref m10, .int (nI mm), .ref m11, .int (nI mr), .ref m12, .ref m13, .ref m14, .ref m15, .ref m16, .ref m17, .ref m18, .int mt])), (m17, .inl (cI, 240, .inl sc))] [] (fun _ => rfl) rfl (fun _ => rfl) rfl (fun r_3 _u H locs hr_4 hP hD hS => ?_)
  have hP : va_P D vwCl [(hM, .inr (11, [.int (nI mf), .int (nI mn), .ref m1, .ref m2, .ref m3, .int (nI mb), .int (nI ra), .int (nI rn), .ref m4, .ref m5, .ref m6, .int (nI mw), .ref m7, .ref m8, .int (nI mh), .ref m9, .ref m10, .int (nI mm), .ref m11, .int (nI mr), .ref m12, .ref m13, .ref m14, .ref m15, .ref m16, .ref m17, .ref m18, .int mt])), (m17, .inl (cI, 240, .inl sc))] H := hP
  have hD : va_D A [(hM, .inr (11, [.int (nI mf), .int (nI mn), .ref m1, .ref m2, .ref m3, .int (nI mb), .int (nI ra), .int (nI rn), .ref m4, .ref m5, .ref m6, .int (nI mw), .ref m7, .ref m8, .int (nI mh), .ref m9, .ref m10, .int (nI mm), .ref m11, .int (nI mr), .ref m12, .ref m13, .ref m14, .ref m15, .ref m16, .ref m17, .ref m18, .int mt])), (m17, .inl (cI, 240, .inl sc))] := hD
  subst hr_4
  refine k_eqi (show (nI (if (lN 0) ≤ (((-9) - (nI 48)).toInt64) ∧ (((-9) - (nI 48)).toInt64) ≤ (lN mst) then 1 else 0)) = (nI 0) from congrArg nI (if_neg (fun z9 => m57 hms ((inMk (by omega)).mp z9)))) ?_
  refine lv_istore (lv' := [(5, .int (nI 0)), (4, .int ((-9) - (nI 48))), (0, .ref hM), (1, .int (nI fr)), (2, .int (nI nn)), (3, .int (nI mst))]) hx hb dX11_figure_20 hl (by decide) rfl (fun ls hl => ?_)
  refine lv_aload_n hx hb dX11_figure_22 rfl (lv_at hl 2 rfl) ?_
  refine lv_dup hx hb dX11_figure_23 rfl ?_
  refine va_get (D := D) (ci := 11) (v := .int (nI ra)) (C := RX11) (T := TX11) (N := 28) hx hb hts in_X11 hown hK hP 0 rfl rfl 6 (by decide) lk0 (fun _ h9 => h9) rfl dX11_figure_24 ?_
  refine lv_iload hx hb dX11_figure_27 (lv_at hl 0 rfl) ?_
  refine k_if_eq (tgt := 36) hx hb dX11_figure_29 (by decide) (show 0 < 2 ^ 31 by first | omega | (split <;> omega)) (fun _ => ?_) (fun q9 => absurd q9 (by decide))
  refine lv_iconst (v := (nI 0)) hx hb dX11_figure_36 (by decide) ?_
  refine lv_iadd hx hb dX11_figure_37 ?_
  refine k_eqi (show ((nI ra) + (nI 0)) = (nI (ra + 0)) from nI_add ra 0) ?_
  refine va_put (D := D) (ci := 11) (v := .int (nI (ra + 0))) (ty := .int) (C := RX11) (T := TX11) (N := 28) hx hb hts in_X11 tyX11 tyX11_ok nmX11 hown hK hP hD hS 0 rfl rfl 6 (by decide) lk0 (fun _ h9 => h9) rfl (by decide +kernel) rfl rfl (Nat.le_of_ble_eq_true rfl) dX11_figure_38 (fun H locs hP hD hS => ?_)
  have hP : va_P D vwCl [(hM, .inr (11, [.int (nI mf), .int (nI mn), .ref m1, .ref m2, .ref m3, .int (nI mb), .int (nI (ra + 0)), .int (nI rn), .ref m4, .ref m5, .ref m6, .int (nI mw), .ref m7, .ref m8, .int (nI mh), .ref m9, .ref m10, .int (nI mm), .ref m11, .int (nI mr), .ref m12, .ref m13, .ref m14, .ref m15, .ref m16, .ref m17, .ref m18, .int mt])), (m17, .inl (cI, 240, .inl sc))] H := hP
  have hD : va_D A [(hM, .inr (11, [.int (nI mf), .int (nI mn), .ref m1, .ref m2, .ref m3, .int (nI mb), .int (nI (ra + 0)), .int (nI rn), .ref m4, .ref m5, .ref m6, .int (nI mw), .ref m7, .ref m8, .int (nI mh), .ref m9, .ref m10, .int (nI mm), .ref m11, .int (nI mr), .ref m12, .ref m13, .ref m14, .ref m15, .ref m16, .ref m17, .ref m18, .int mt])), (m17, .inl (cI, 240, .inl sc))] := hD
  refine lv_iload hx hb dX11_figure_41 (lv_at hl 0 rfl) ?_
  refine k_if_eq (tgt := 51) hx hb dX11_figure_43 (by decide) (show 0 < 2 ^ 31 by first | omega | (split <;> omega)) (fun _ => ?_) (fun q9 => absurd q9 (by decide))
  refine lv_bipush (v := (-9)) hx hb dX11_figure_51 (by decide) ?_
  have e_5 : (nI (ra + 0)) = (nI ra) := congrArg nI (show ra + 0 = ra by omega)
  have q_6 : ([(hM, .inr (11, [.int (nI mf), .int (nI mn), .ref m1, .ref m2, .ref m3, .int (nI mb), .int (nI (ra + 0)), .int (nI rn), .ref m4, .ref m5, .ref m6, .int (nI mw), .ref m7, .ref m8, .int (nI mh), .ref m9, .ref m10, .int (nI mm), .ref m11, .int (nI mr), .ref m12, .ref m13, .ref m14, .ref m15, .ref m16, .ref m17, .ref m18, .int mt])), (m17, .inl (cI, 240, .inl sc))] : va_W) = [(hM, .inr (11, [.int (nI mf), .int (nI mn), .ref m1, .ref m2, .ref m3, .int (nI mb), .int (nI ra), .int (nI rn), .ref m4, .ref m5, .ref m6, .int (nI mw), .ref m7, .ref m8, .int (nI mh), .ref m9, .ref m10, .int (nI mm), .ref m11, .int (nI mr), .ref m12, .ref m13, .ref m14, .ref m15, .ref m16, .ref m17, .ref m18, .int mt])), (m17, .inl (cI, 240, .inl sc))] := by rw [← e_5]
  exact ret _ () _ _ _ _ dX11_figure_53 (rfl) (kP_cast hP q_6) (kD_cast hD q_6) hS
def rm_X11_figure_bad : Room := { frames := 1, cells := 0, slots := 0, locals := 25 }
set_option maxHeartbeats 4000000 in
set_option maxRecDepth 100000 in
theorem c_X11_figure_bad (l : Launch) (D : va_G) (cI cZ cS cP : ClassId) (hM : Nat) (m1 : Nat) (m2 : Nat) (m3 : Nat) (m4 : Nat) (m5 : Nat) (m6 : Nat) (m7 : Nat) (m8 : Nat) (m9 : Nat) (m10 : Nat) (m11 : Nat) (m12 : Nat) (m13 : Nat) (m14 : Nat) (m15 : Nat) (m16 : Nat) (m17 : Nat) (m18 : Nat) (mf : Nat) (mn : Nat) (mb : Nat) (ra : Nat) (rn : Nat) (mw : Nat) (mh : Nat) (mm : Nat) (mr : Nat) (mt : Int32) (sc : Nat → Int32) (fr : Nat) (nn : Nat) (mst : Nat) (hfr : fr + nn ≤ 240) (hms : mst ≤ 9) (hra : ra < nn) (hv : ¬ inR (sc (fr + ra) - nI 48) (mst + 1)) : kMi (S := Unit) l yX11_figure wsX11_figure rm_X11_figure_bad D (kT cI cZ cS cP) [.ref hM, .int (nI fr), .int (nI nn), .int (nI mst)] [(hM, .inr (11, [.int (nI mf), .int (nI mn), .ref m1, .ref m2, .ref m3, .int (nI mb), .int (nI ra), .int (nI rn), .ref m4, .ref m5, .ref m6, .int (nI mw), .ref m7, .ref m8, .int (nI mh), .ref m9, .ref m10, .int (nI mm), .ref m11, .int (nI mr), .ref m12, .ref m13, .ref m14, .ref m15, .ref m16, .ref m17, .ref m18, .int mt])), (m17, .inl (cI, 240, .inl sc))] (fun r _ => r = (-9)) (fun _ => [(hM, .inr (11, [.int (nI mf), .int (nI mn), .ref m1, .ref m2, .ref m3, .int (nI mb), .int (nI ra), .int (nI rn), .ref m4, .ref m5, .ref m6, .int (nI mw), .ref m7, .ref m8, .int (nI mh), .ref m9, .ref m10, .int (nI mm), .ref m11, .int (nI mr), .ref m12, .ref m13, .ref m14, .ref m15, .ref m16, .ref m17, .ref m18, .int mt])), (m17, .inl (cI, 240, .inl sc))]) := by
  refine kMet_i (cc := cX11_figure) (maxL := 6) (ty := .int) (by decide) rfl (Nat.le_of_ble_eq_true rfl) (fun _ _ _ => rfl) ?_
  intro p e s m args below meth c A Q ls C hlocks hin hN hK hP hD hS hA hl ret
  obtain ⟨hx, hb, hml, hown, hts⟩ := C
  have hl : lv_has ls 6 [(0, .ref hM), (1, .int (nI fr)), (2, .int (nI nn)), (3, .int (nI mst))] := hl
  have in_X11 : ∀ w ∈ wsX110, w ∈ wsX11_figure := by decide +kernel
  have lk0 := hts (.fieldLink RX11 84 "SilkWordModel" "readAt" "I") (by decide +kernel)
  refine lv_aload_n hx hb dX11_figure_0 rfl (lv_at hl 0 rfl) ?_
  refine lv_iload_n hx hb dX11_figure_1 rfl (lv_at hl 1 rfl) ?_
  refine lv_iload_n hx hb dX11_figure_2 rfl (lv_at hl 2 rfl) ?_
  refine k_goi (S := Unit) (va_runV (As := [.int (nI fr), .int (nI nn)]) (rest := []) ⟨hx, hb, hml, hown, hts⟩ (c_X11_codeAt_in l D cI cZ cS cP hM m1 m2 m3 m4 m5 m6 m7 m8 m9 m10 m11 m12 m13 m14 m15 m16 m17 m18 mf mn mb ra rn mw mh mm mr mt sc fr nn (by first | assumption | omega) (by first | assumption | omega) _) (cwV 2 hts gX11_figure_X11_codeAt rfl rfl rfl (by decide +kernel) ⟨Nat.le_of_ble_eq_true rfl, Nat.le_of_ble_eq_true rfl⟩) (kPreV hN hK hP hD [0, 1] rfl rfl (q0 := 0) (ci := 11) (q := (RX11, TX11, 28)) rfl rfl) rfl rfl hl.1 rfl (lv_room (Nat.le_of_ble_eq_true rfl)) dX11_figure_3 ⟨Nat.le_of_ble_eq_true rfl, Nat.le_of_ble_eq_true rfl⟩) hP hD hS hA [0, 1] rfl [hM, m17] rfl (fun _ => rfl) 2 [] rfl (fun _u => [(hM, .inr (11, [.int (nI mf), .int (nI mn), .ref m1, .ref m2, .ref m3, .int (nI mb), .int (nI ra), .int (nI rn), .ref m4, .ref m5, .ref m6, .int (nI mw), .ref m7, .ref m8, .int (nI mh), .ref m9, .ref m10, .int (nI mm), .ref m11, .int (nI mr), .ref m12, .ref m13, .ref m14, .ref m15, .ref m16, .ref m17, .ref m18, .int mt])), (m17, .inl (cI, 240, .inl sc))]) (fun _ => rfl) [] [] (fun _ => rfl) rfl (fun _ => rfl) rfl (fun r_1 _u H locs hr_2 hP hD hS => ?_)
  have hP : va_P D vwCl [(hM, .inr (11, [.int (nI mf), .int (nI mn), .ref m1, .ref m2, .ref m3, .int (nI mb), .int (nI ra), .int (nI rn), .ref m4, .ref m5, .ref m6, .int (nI mw), .ref m7, .ref m8, .int (nI mh), .ref m9, .ref m10, .int (nI mm), .ref m11, .int (nI mr), .ref m12, .ref m13, .ref m14, .ref m15, .ref m16, .ref m17, .ref m18, .int mt])), (m17, .inl (cI, 240, .inl sc))] H := hP
  have hD : va_D A [(hM, .inr (11, [.int (nI mf), .int (nI mn), .ref m1, .ref m2, .ref m3, .int (nI mb), .int (nI ra), .int (nI rn), .ref m4, .ref m5, .ref m6, .int (nI mw), .ref m7, .ref m8, .int (nI mh), .ref m9, .ref m10, .int (nI mm), .ref m11, .int (nI mr), .ref m12, .ref m13, .ref m14, .ref m15, .ref m16, .ref m17, .ref m18, .int mt])), (m17, .inl (cI, 240, .inl sc))] := hD
  subst hr_2
  refine lv_bipush (v := (nI 48)) hx hb dX11_figure_6 (by decide) ?_
  refine lv_isub hx hb dX11_figure_8 ?_
  refine lv_istore (lv' := [(4, .int ((sc (fr + ra)) - (nI 48))), (0, .ref hM), (1, .int (nI fr)), (2, .int (nI nn)), (3, .int (nI mst))]) hx hb dX11_figure_9 hl (by decide) rfl (fun ls hl => ?_)
  refine lv_iload hx hb dX11_figure_11 (lv_at hl 0 rfl) ?_
  refine lv_i2l (v := (((sc (fr + ra)) - (nI 48)).toInt64)) hx hb dX11_figure_13 (rfl) ?_
  refine lv_lconst (v := lN 0) hx hb dX11_figure_14 (by decide) ?_
  refine lv_iload_n hx hb dX11_figure_15 rfl (lv_at hl 4 rfl) ?_
  refine lv_i2l (v := (lN mst)) hx hb dX11_figure_16 (nI_l (show mst < 2 ^ 31 by omega)) ?_
  refine k_goi (S := Unit) (va_runS (As := [.long (((sc (fr + ra)) - (nI 48)).toInt64), .long (lN 0), .long (lN mst)]) (rest := []) ⟨hx, hb, hml, hown, hts⟩ (c_X11_in l D cI cZ cS cP (((sc (fr + ra)) - (nI 48)).toInt64) (lN 0) (lN mst)  _) (va_cwS 3 hts gX11_figure_X11_in rfl rfl rfl (by decide +kernel) ⟨Nat.le_of_ble_eq_true rfl, Nat.le_of_ble_eq_true rfl⟩) (kPreS hN hK hP hD [] rfl rfl) rfl rfl hl.1 rfl (lv_room (Nat.le_of_ble_eq_true rfl)) dX11_figure_17 ⟨Nat.le_of_ble_eq_true rfl, Nat.le_of_ble_eq_true rfl⟩) hP hD hS hA [] rfl [] rfl (fun _ => rfl) 2 [0, 1] rfl (fun _u => [(hM, .inr (11, [.int (nI mf), .int (nI mn), .ref m1, .ref m2, .ref m3, .int (nI mb), .int (nI ra), .int (nI rn), .ref m4, .ref m5, .ref m6, .int (nI mw), .ref m7, .ref m8, .int (nI mh), .ref m9, .ref m10, .int (nI mm), .ref m11, .int (nI mr), .ref m12, .ref m13, .ref m14, .ref m15, .ref m16, .ref m17, .ref m18, .int mt])), (m17, .inl (cI, 240, .inl sc))]) (fun _ => rfl) [(hM, .inr (11, [.int (nI mf), .int (nI mn), .ref m1, .ref m2, .ref m3, .int (nI mb), .int (nI ra), .int (nI rn), .ref m4, .ref m5, .ref m6, .int (nI mw), .ref m7, .ref m8, .int (nI mh), .ref m9, .ref m10, .int (nI mm), .ref m11, .int (nI mr), .ref m12, .ref m13, .ref m14, .ref m15, .ref m16, .ref m17, .ref m18, .int mt])), (m17, .inl (cI, 240, .inl sc))] [] (fun _ => rfl) rfl (fun _ => rfl) rfl (fun r_3 _u H locs hr_4 hP hD hS => ?_)
  have hP : va_P D vwCl [(hM, .inr (11, [.int (nI mf), .int (nI mn), .ref m1, .ref m2, .ref m3, .int (nI mb), .int (nI ra), .int (nI rn), .ref m4, .ref m5, .ref m6, .int (nI mw), .ref m7, .ref m8, .int (nI mh), .ref m9, .ref m10, .int (nI mm), .ref m11, .int (nI mr), .ref m12, .ref m13, .ref m14, .ref m15, .ref m16, .ref m17, .ref m18, .int mt])), (m17, .inl (cI, 240, .inl sc))] H := hP
  have hD : va_D A [(hM, .inr (11, [.int (nI mf), .int (nI mn), .ref m1, .ref m2, .ref m3, .int (nI mb), .int (nI ra), .int (nI rn), .ref m4, .ref m5, .ref m6, .int (nI mw), .ref m7, .ref m8, .int (nI mh), .ref m9, .ref m10, .int (nI mm), .ref m11, .int (nI mr), .ref m12, .ref m13, .ref m14, .ref m15, .ref m16, .ref m17, .ref m18, .int mt])), (m17, .inl (cI, 240, .inl sc))] := hD
  subst hr_4
  refine k_eqi (show (nI (if (lN 0) ≤ (((sc (fr + ra)) - (nI 48)).toInt64) ∧ (((sc (fr + ra)) - (nI 48)).toInt64) ≤ (lN mst) then 1 else 0)) = (nI 0) from congrArg nI (if_neg (fun z9 => hv ((inMk (by omega)).mp z9)))) ?_
  refine lv_istore (lv' := [(5, .int (nI 0)), (4, .int ((sc (fr + ra)) - (nI 48))), (0, .ref hM), (1, .int (nI fr)), (2, .int (nI nn)), (3, .int (nI mst))]) hx hb dX11_figure_20 hl (by decide) rfl (fun ls hl => ?_)
  refine lv_aload_n hx hb dX11_figure_22 rfl (lv_at hl 2 rfl) ?_
  refine lv_dup hx hb dX11_figure_23 rfl ?_
  refine va_get (D := D) (ci := 11) (v := .int (nI ra)) (C := RX11) (T := TX11) (N := 28) hx hb hts in_X11 hown hK hP 0 rfl rfl 6 (by decide) lk0 (fun _ h9 => h9) rfl dX11_figure_24 ?_
  refine lv_iload hx hb dX11_figure_27 (lv_at hl 0 rfl) ?_
  refine k_if_eq (tgt := 36) hx hb dX11_figure_29 (by decide) (show 0 < 2 ^ 31 by first | omega | (split <;> omega)) (fun _ => ?_) (fun q9 => absurd q9 (by decide))
  refine lv_iconst (v := (nI 0)) hx hb dX11_figure_36 (by decide) ?_
  refine lv_iadd hx hb dX11_figure_37 ?_
  refine k_eqi (show ((nI ra) + (nI 0)) = (nI (ra + 0)) from nI_add ra 0) ?_
  refine va_put (D := D) (ci := 11) (v := .int (nI (ra + 0))) (ty := .int) (C := RX11) (T := TX11) (N := 28) hx hb hts in_X11 tyX11 tyX11_ok nmX11 hown hK hP hD hS 0 rfl rfl 6 (by decide) lk0 (fun _ h9 => h9) rfl (by decide +kernel) rfl rfl (Nat.le_of_ble_eq_true rfl) dX11_figure_38 (fun H locs hP hD hS => ?_)
  have hP : va_P D vwCl [(hM, .inr (11, [.int (nI mf), .int (nI mn), .ref m1, .ref m2, .ref m3, .int (nI mb), .int (nI (ra + 0)), .int (nI rn), .ref m4, .ref m5, .ref m6, .int (nI mw), .ref m7, .ref m8, .int (nI mh), .ref m9, .ref m10, .int (nI mm), .ref m11, .int (nI mr), .ref m12, .ref m13, .ref m14, .ref m15, .ref m16, .ref m17, .ref m18, .int mt])), (m17, .inl (cI, 240, .inl sc))] H := hP
  have hD : va_D A [(hM, .inr (11, [.int (nI mf), .int (nI mn), .ref m1, .ref m2, .ref m3, .int (nI mb), .int (nI (ra + 0)), .int (nI rn), .ref m4, .ref m5, .ref m6, .int (nI mw), .ref m7, .ref m8, .int (nI mh), .ref m9, .ref m10, .int (nI mm), .ref m11, .int (nI mr), .ref m12, .ref m13, .ref m14, .ref m15, .ref m16, .ref m17, .ref m18, .int mt])), (m17, .inl (cI, 240, .inl sc))] := hD
  refine lv_iload hx hb dX11_figure_41 (lv_at hl 0 rfl) ?_
  refine k_if_eq (tgt := 51) hx hb dX11_figure_43 (by decide) (show 0 < 2 ^ 31 by first | omega | (split <;> omega)) (fun _ => ?_) (fun q9 => absurd q9 (by decide))
  refine lv_bipush (v := (-9)) hx hb dX11_figure_51 (by decide) ?_
  have e_5 : (nI (ra + 0)) = (nI ra) := congrArg nI (show ra + 0 = ra by omega)
  have q_6 : ([(hM, .inr (11, [.int (nI mf), .int (nI mn), .ref m1, .ref m2, .ref m3, .int (nI mb), .int (nI (ra + 0)), .int (nI rn), .ref m4, .ref m5, .ref m6, .int (nI mw), .ref m7, .ref m8, .int (nI mh), .ref m9, .ref m10, .int (nI mm), .ref m11, .int (nI mr), .ref m12, .ref m13, .ref m14, .ref m15, .ref m16, .ref m17, .ref m18, .int mt])), (m17, .inl (cI, 240, .inl sc))] : va_W) = [(hM, .inr (11, [.int (nI mf), .int (nI mn), .ref m1, .ref m2, .ref m3, .int (nI mb), .int (nI ra), .int (nI rn), .ref m4, .ref m5, .ref m6, .int (nI mw), .ref m7, .ref m8, .int (nI mh), .ref m9, .ref m10, .int (nI mm), .ref m11, .int (nI mr), .ref m12, .ref m13, .ref m14, .ref m15, .ref m16, .ref m17, .ref m18, .int mt])), (m17, .inl (cI, 240, .inl sc))] := by rw [← e_5]
  exact ret _ () _ _ _ _ dX11_figure_53 (rfl) (kP_cast hP q_6) (kD_cast hD q_6) hS
