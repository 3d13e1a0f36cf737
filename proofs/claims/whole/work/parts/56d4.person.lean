def rm_X11_readsPerson_w1 : Room := { frames := 2, cells := 0, slots := 0, locals := 50 }
set_option maxHeartbeats 4000000 in
set_option maxRecDepth 100000 in
theorem c_X11_readsPerson_w1 (l : Launch) (D : va_G) (cI cZ cS cP : ClassId) (hM : Nat) (m1 : Nat) (m2 : Nat) (m3 : Nat) (m4 : Nat) (m5 : Nat) (m6 : Nat) (m7 : Nat) (m8 : Nat) (m9 : Nat) (m10 : Nat) (m11 : Nat) (m12 : Nat) (m13 : Nat) (m14 : Nat) (m15 : Nat) (m16 : Nat) (m17 : Nat) (m18 : Nat) (mf : Nat) (mn : Nat) (mb : Nat) (ra : Nat) (rn : Nat) (mw : Nat) (mh : Nat) (mm : Nat) (mr : Nat) (mt : Int32) (sc : Nat → Int32) (fr : Nat) (nn : Nat) (v : Nat) (hfr : fr + nn ≤ 240) (hrn : rn < 7) (h0 : sc (fr + ra) = nI 59) (hn0 : ra < nn) (hn1 : ra + 1 < nn) (h1 : ¬ (sc (fr + (ra + 1)) = nI 115 ∨ sc (fr + (ra + 1)) = nI 99 ∨ sc (fr + (ra + 1)) = nI 116)) : kMi (S := Unit) l yX11_readsPerson wsX11_readsPerson rm_X11_readsPerson_w1 D (kT cI cZ cS cP) [.ref hM, .int (nI fr), .int (nI nn)] [(hM, .inr (11, [.int (nI mf), .int (nI mn), .ref m1, .ref m2, .ref m3, .int (nI mb), .int (nI ra), .int (nI rn), .ref m4, .ref m5, .ref m6, .int (nI mw), .ref m7, .ref m8, .int (nI mh), .ref m9, .ref m10, .int (nI mm), .ref m11, .int (nI mr), .ref m12, .ref m13, .ref m14, .ref m15, .ref m16, .ref m17, .ref m18, .int mt])), (m17, .inl (cI, 240, .inl sc))] (fun r _ => r = (nI 0)) (fun _ => [(hM, .inr (11, [.int (nI mf), .int (nI mn), .ref m1, .ref m2, .ref m3, .int (nI mb), .int (nI (ra + 1)), .int (nI rn), .ref m4, .ref m5, .ref m6, .int (nI mw), .ref m7, .ref m8, .int (nI mh), .ref m9, .ref m10, .int (nI mm), .ref m11, .int (nI mr), .ref m12, .ref m13, .ref m14, .ref m15, .ref m16, .ref m17, .ref m18, .int mt])), (m17, .inl (cI, 240, .inl sc))]) := by
  refine kMet_i (cc := cX11_readsPerson) (maxL := 6) (ty := .boolean) (by decide) rfl (Nat.le_of_ble_eq_true rfl) (fun _ _ q => by (first | subst q | (obtain ⟨q, -⟩ := q; subst q)); (first | exact kz_nr | decide)) ?_
  intro p e s m args below meth c A Q ls C hlocks hin hN hK hP hD hS hA hl ret
  obtain ⟨hx, hb, hml, hown, hts⟩ := C
  have hl : lv_has ls 6 [(0, .ref hM), (1, .int (nI fr)), (2, .int (nI nn))] := hl
  have in_X11 : ∀ w ∈ wsX110, w ∈ wsX11_readsPerson := by decide +kernel
  have lk0 := hts (.fieldLink RX11 91 "SilkWordModel" "readPersons" "I") (by decide +kernel)
  have lk1 := hts (.fieldLink RX11 84 "SilkWordModel" "readAt" "I") (by decide +kernel)
  refine lv_aload_n hx hb dX11_readsPerson_0 rfl (lv_at hl 0 rfl) ?_
  refine va_get (D := D) (ci := 11) (v := .int (nI rn)) (C := RX11) (T := TX11) (N := 28) hx hb hts in_X11 hown hK hP 0 rfl rfl 7 (by decide) lk0 (fun _ h9 => h9) rfl dX11_readsPerson_1 ?_
  refine lv_bipush (v := (nI 7)) hx hb dX11_readsPerson_4 (by decide) ?_
  refine k_icmp_eq (tgt := 20) hx hb dX11_readsPerson_6 (by decide) (show rn < 2 ^ 31 by first | omega | (split <;> omega)) (show 7 < 2 ^ 31 by first | omega | (split <;> omega)) (fun c_1 => absurd c_1 (by omega)) (fun c_1 => ?_)
  refine lv_aload_n hx hb dX11_readsPerson_9 rfl (lv_at hl 0 rfl) ?_
  refine lv_iload_n hx hb dX11_readsPerson_10 rfl (lv_at hl 1 rfl) ?_
  refine lv_iload_n hx hb dX11_readsPerson_11 rfl (lv_at hl 2 rfl) ?_
  refine k_goi (S := Unit) (va_runV (As := [.int (nI fr), .int (nI nn)]) (rest := []) ⟨hx, hb, hml, hown, hts⟩ (c_X11_codeAt_in l D cI cZ cS cP hM m1 m2 m3 m4 m5 m6 m7 m8 m9 m10 m11 m12 m13 m14 m15 m16 m17 m18 mf mn mb ra rn mw mh mm mr mt sc fr nn (by first | assumption | omega) (by first | assumption | omega) _) (cwV 2 hts gX11_readsPerson_X11_codeAt rfl rfl rfl (by decide +kernel) ⟨Nat.le_of_ble_eq_true rfl, Nat.le_of_ble_eq_true rfl⟩) (kPreV hN hK hP hD [0, 1] rfl rfl (q0 := 0) (ci := 11) (q := (RX11, TX11, 28)) rfl rfl) rfl rfl hl.1 rfl (lv_room (Nat.le_of_ble_eq_true rfl)) dX11_readsPerson_12 ⟨Nat.le_of_ble_eq_true rfl, Nat.le_of_ble_eq_true rfl⟩) hP hD hS hA [0, 1] rfl [hM, m17] rfl (fun _ => rfl) 2 [] rfl (fun _u => [(hM, .inr (11, [.int (nI mf), .int (nI mn), .ref m1, .ref m2, .ref m3, .int (nI mb), .int (nI ra), .int (nI rn), .ref m4, .ref m5, .ref m6, .int (nI mw), .ref m7, .ref m8, .int (nI mh), .ref m9, .ref m10, .int (nI mm), .ref m11, .int (nI mr), .ref m12, .ref m13, .ref m14, .ref m15, .ref m16, .ref m17, .ref m18, .int mt])), (m17, .inl (cI, 240, .inl sc))]) (fun _ => rfl) [] [] (fun _ => rfl) rfl (fun _ => rfl) rfl (fun r_2 _u H locs hr_3 hP hD hS => ?_)
  have hP : va_P D vwCl [(hM, .inr (11, [.int (nI mf), .int (nI mn), .ref m1, .ref m2, .ref m3, .int (nI mb), .int (nI ra), .int (nI rn), .ref m4, .ref m5, .ref m6, .int (nI mw), .ref m7, .ref m8, .int (nI mh), .ref m9, .ref m10, .int (nI mm), .ref m11, .int (nI mr), .ref m12, .ref m13, .ref m14, .ref m15, .ref m16, .ref m17, .ref m18, .int mt])), (m17, .inl (cI, 240, .inl sc))] H := hP
  have hD : va_D A [(hM, .inr (11, [.int (nI mf), .int (nI mn), .ref m1, .ref m2, .ref m3, .int (nI mb), .int (nI ra), .int (nI rn), .ref m4, .ref m5, .ref m6, .int (nI mw), .ref m7, .ref m8, .int (nI mh), .ref m9, .ref m10, .int (nI mm), .ref m11, .int (nI mr), .ref m12, .ref m13, .ref m14, .ref m15, .ref m16, .ref m17, .ref m18, .int mt])), (m17, .inl (cI, 240, .inl sc))] := hD
  subst hr_3
  refine k_eqi (show (sc (fr + ra)) = (nI 59) from h0) ?_
  refine lv_bipush (v := (nI 59)) hx hb dX11_readsPerson_15 (by decide) ?_
  refine k_icmp_eq (tgt := 22) hx hb dX11_readsPerson_17 (by decide) (show 59 < 2 ^ 31 by first | omega | (split <;> omega)) (show 59 < 2 ^ 31 by first | omega | (split <;> omega)) (fun _ => ?_) (fun q9 => absurd q9 (by decide))
  refine lv_aload_n hx hb dX11_readsPerson_22 rfl (lv_at hl 0 rfl) ?_
  refine lv_dup hx hb dX11_readsPerson_23 rfl ?_
  refine va_get (D := D) (ci := 11) (v := .int (nI ra)) (C := RX11) (T := TX11) (N := 28) hx hb hts in_X11 hown hK hP 0 rfl rfl 6 (by decide) lk1 (fun _ h9 => h9) rfl dX11_readsPerson_24 ?_
  refine lv_iconst (v := (nI 1)) hx hb dX11_readsPerson_27 (by decide) ?_
  refine lv_iadd hx hb dX11_readsPerson_28 ?_
  refine k_eqi (show ((nI ra) + (nI 1)) = (nI (ra + 1)) from nI_add ra 1) ?_
  refine va_put (D := D) (ci := 11) (v := .int (nI (ra + 1))) (ty := .int) (C := RX11) (T := TX11) (N := 28) hx hb hts in_X11 tyX11 tyX11_ok nmX11 hown hK hP hD hS 0 rfl rfl 6 (by decide) lk1 (fun _ h9 => h9) rfl (by decide +kernel) rfl rfl (Nat.le_of_ble_eq_true rfl) dX11_readsPerson_29 (fun H locs hP hD hS => ?_)
  have hP : va_P D vwCl [(hM, .inr (11, [.int (nI mf), .int (nI mn), .ref m1, .ref m2, .ref m3, .int (nI mb), .int (nI (ra + 1)), .int (nI rn), .ref m4, .ref m5, .ref m6, .int (nI mw), .ref m7, .ref m8, .int (nI mh), .ref m9, .ref m10, .int (nI mm), .ref m11, .int (nI mr), .ref m12, .ref m13, .ref m14, .ref m15, .ref m16, .ref m17, .ref m18, .int mt])), (m17, .inl (cI, 240, .inl sc))] H := hP
  have hD : va_D A [(hM, .inr (11, [.int (nI mf), .int (nI mn), .ref m1, .ref m2, .ref m3, .int (nI mb), .int (nI (ra + 1)), .int (nI rn), .ref m4, .ref m5, .ref m6, .int (nI mw), .ref m7, .ref m8, .int (nI mh), .ref m9, .ref m10, .int (nI mm), .ref m11, .int (nI mr), .ref m12, .ref m13, .ref m14, .ref m15, .ref m16, .ref m17, .ref m18, .int mt])), (m17, .inl (cI, 240, .inl sc))] := hD
  refine lv_aload_n hx hb dX11_readsPerson_32 rfl (lv_at hl 0 rfl) ?_
  refine lv_iload_n hx hb dX11_readsPerson_33 rfl (lv_at hl 1 rfl) ?_
  refine lv_iload_n hx hb dX11_readsPerson_34 rfl (lv_at hl 2 rfl) ?_
  refine k_goi (S := Unit) (va_runV (As := [.int (nI fr), .int (nI nn)]) (rest := []) ⟨hx, hb, hml, hown, hts⟩ (c_X11_codeAt_in l D cI cZ cS cP hM m1 m2 m3 m4 m5 m6 m7 m8 m9 m10 m11 m12 m13 m14 m15 m16 m17 m18 mf mn mb (ra + 1) rn mw mh mm mr mt sc fr nn (by first | assumption | omega) (by first | assumption | omega) _) (cwV 2 hts gX11_readsPerson_X11_codeAt rfl rfl rfl (by decide +kernel) ⟨Nat.le_of_ble_eq_true rfl, Nat.le_of_ble_eq_true rfl⟩) (kPreV hN hK hP hD [0, 1] rfl rfl (q0 := 0) (ci := 11) (q := (RX11, TX11, 28)) rfl rfl) rfl rfl hl.1 rfl (lv_room (Nat.le_of_ble_eq_true rfl)) dX11_readsPerson_35 ⟨Nat.le_of_ble_eq_true rfl, Nat.le_of_ble_eq_true rfl⟩) hP hD hS hA [0, 1] rfl [hM, m17] rfl (fun _ => rfl) 2 [] rfl (fun _u => [(hM, .inr (11, [.int (nI mf), .int (nI mn), .ref m1, .ref m2, .ref m3, .int (nI mb), .int (nI (ra + 1)), .int (nI rn), .ref m4, .ref m5, .ref m6, .int (nI mw), .ref m7, .ref m8, .int (nI mh), .ref m9, .ref m10, .int (nI mm), .ref m11, .int (nI mr), .ref m12, .ref m13, .ref m14, .ref m15, .ref m16, .ref m17, .ref m18, .int mt])), (m17, .inl (cI, 240, .inl sc))]) (fun _ => rfl) [] [] (fun _ => rfl) rfl (fun _ => rfl) rfl (fun r_4 _u H locs hr_5 hP hD hS => ?_)
  have hP : va_P D vwCl [(hM, .inr (11, [.int (nI mf), .int (nI mn), .ref m1, .ref m2, .ref m3, .int (nI mb), .int (nI (ra + 1)), .int (nI rn), .ref m4, .ref m5, .ref m6, .int (nI mw), .ref m7, .ref m8, .int (nI mh), .ref m9, .ref m10, .int (nI mm), .ref m11, .int (nI mr), .ref m12, .ref m13, .ref m14, .ref m15, .ref m16, .ref m17, .ref m18, .int mt])), (m17, .inl (cI, 240, .inl sc))] H := hP
  have hD : va_D A [(hM, .inr (11, [.int (nI mf), .int (nI mn), .ref m1, .ref m2, .ref m3, .int (nI mb), .int (nI (ra + 1)), .int (nI rn), .ref m4, .ref m5, .ref m6, .int (nI mw), .ref m7, .ref m8, .int (nI mh), .ref m9, .ref m10, .int (nI mm), .ref m11, .int (nI mr), .ref m12, .ref m13, .ref m14, .ref m15, .ref m16, .ref m17, .ref m18, .int mt])), (m17, .inl (cI, 240, .inl sc))] := hD
  subst hr_5
  refine lv_istore_n (lv' := [(3, .int (sc (fr + (ra + 1)))), (0, .ref hM), (1, .int (nI fr)), (2, .int (nI nn))]) hx hb dX11_readsPerson_38 rfl hl (by decide) rfl (fun ls hl => ?_)
  refine lv_iload_n hx hb dX11_readsPerson_39 rfl (lv_at hl 0 rfl) ?_
  refine lv_bipush (v := (nI 115)) hx hb dX11_readsPerson_40 (by decide) ?_
  refine lv_icmp_eq (tgt := 59) hx hb dX11_readsPerson_42 (by decide) (fun c_6 => absurd c_6 (fun q => h1 (Or.inl q))) (fun c_6 => ?_)
  refine lv_iload_n hx hb dX11_readsPerson_45 rfl (lv_at hl 0 rfl) ?_
  refine lv_bipush (v := (nI 99)) hx hb dX11_readsPerson_46 (by decide) ?_
  refine lv_icmp_eq (tgt := 59) hx hb dX11_readsPerson_48 (by decide) (fun c_7 => absurd c_7 (fun q => h1 (Or.inr (Or.inl q)))) (fun c_7 => ?_)
  refine lv_iload_n hx hb dX11_readsPerson_51 rfl (lv_at hl 0 rfl) ?_
  refine lv_bipush (v := (nI 116)) hx hb dX11_readsPerson_52 (by decide) ?_
  refine lv_icmp_eq (tgt := 59) hx hb dX11_readsPerson_54 (by decide) (fun c_8 => absurd c_8 (fun q => h1 (Or.inr (Or.inr q)))) (fun c_8 => ?_)
  refine lv_iconst (v := (nI 0)) hx hb dX11_readsPerson_57 (by decide) ?_
  exact ret _ () _ _ _ _ dX11_readsPerson_58 (rfl) hP hD hS
