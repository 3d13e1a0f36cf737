set_option maxHeartbeats 4000000 in
set_option maxRecDepth 100000 in
/-- THE LAW, from its entry -/
theorem whole_start {p : Program} {e : Env} {s : State} {m : MethodId} {below : List Frame} {meth : Method} {c : Code} (l : Launch) {b L : Nat} {xs : Nat → Int32} (hL : L ≤ 384) (C0 : lw_At p s m meth c b L xs) : W p l e room_1 s m #[Value.ref b] below meth c s.heap [] 0 0 (lw_Z below #[Value.ref b] s) (entryFrame m ([Value.ref b] : List Value).toArray 4) := by
  obtain ⟨hx, hb, hr, hml, hown, hts, hX, hbl, hlocks, hgv⟩ := id C0
  have htl : ∀ w ∈ wsL_law, w.before #[Value.ref b] s = true := fun w h => hts w (wsL_law_in w h)
  have hA : ∀ q : Nat, s.heap.size ≤ q → (fun q : Nat => s.heap.size ≤ q) q := fun _ h => h
  have hN : kN s := ⟨va_Nw.of rfl (hts (.methodLinkNest RX10 17 yX3_init "SilkWord") (List.mem_of_getElem? (i := 61) (by decide +kernel))),
    va_Nw.of rfl (hts (.methodLinkNest RX10 20 yX4_init "SilkWord") (List.mem_of_getElem? (i := 81) (by decide +kernel))),
    va_Nw.of rfl (hts (.methodLinkNest RX10 27 yX7_init "SilkWord") (List.mem_of_getElem? (i := 102) (by decide +kernel))),
    va_Nw.of rfl (hts (.methodLinkNest RX10 34 yX1_init "SilkWord") (List.mem_of_getElem? (i := 130) (by decide +kernel))),
    va_Nw.of rfl (hts (.methodLinkNest RX10 41 yX2_init "SilkWord") (List.mem_of_getElem? (i := 143) (by decide +kernel))),
    va_Nw.of rfl (hts (.methodLinkNest RX10 57 yX8_init "SilkWord") (List.mem_of_getElem? (i := 189) (by decide +kernel))),
    va_Nw.of rfl (hts (.methodLinkNest RX9 11 yX7_init "SilkWord") (List.mem_of_getElem? (i := 168) (by decide +kernel))),
    va_Nw.of rfl (hts (.methodLinkNest RX9 20 yX1_init "SilkWord") (List.mem_of_getElem? (i := 170) (by decide +kernel))),
    va_Nw.of rfl (hts (.methodLinkNest RX7 54 yX10_isIn "SilkWord") (List.mem_of_getElem? (i := 371) (by decide +kernel))),
    va_Nw.of rfl (hts (.methodLinkNest RX1 57 yX10_isIn "SilkWord") (List.mem_of_getElem? (i := 473) (by decide +kernel))),
    va_Nw.of rfl (hts (.methodLinkNest RX1 64 yX10_isDay "SilkWord") (List.mem_of_getElem? (i := 494) (by decide +kernel))),
    va_Nw.of rfl (hts (.methodLinkNest RX9 57 yX10_isIn "SilkWord") (List.mem_of_getElem? (i := 539) (by decide +kernel))),
    va_Nw.of rfl (hts (.methodLinkNest RX2 38 yX10_isIn "SilkWord") (List.mem_of_getElem? (i := 633) (by decide +kernel))),
    va_Nw.of rfl (hts (.castable "SilkWord$Tailor" "SilkWord$Subject") (List.mem_of_getElem? (i := 1122) (by decide +kernel))),
    va_AO.of (hts (.arrayOver (.object "SilkWord$Sheet")) (List.mem_of_getElem? (i := 59) (by decide +kernel))),
    va_AO.of (hts (.arrayOver (.object "SilkWord$Subject")) (List.mem_of_getElem? (i := 86) (by decide +kernel))),
    va_Nw.of rfl (hts (.castable "SilkWord$Courtier" "SilkWord$Subject") (List.mem_of_getElem? (i := 1123) (by decide +kernel)))⟩
  obtain ⟨c0, i0, hKn0⟩ := u_known (C := RX0) (T := TX0) (N := 3) (n := 3) hts in_wsX00 (hts (.instantiable RX0 3) (List.mem_of_getElem? (i := 299) (by decide +kernel)))
  obtain ⟨c1, i1, hKn1⟩ := u_known (C := RX1) (T := TX1) (N := 2) (n := 2) hts in_wsX10 (hts (.instantiable RX1 2) (List.mem_of_getElem? (i := 129) (by decide +kernel)))
  obtain ⟨c2, i2, hKn2⟩ := u_known (C := RX2) (T := TX2) (N := 4) (n := 4) hts in_wsX20 (hts (.instantiable RX2 4) (List.mem_of_getElem? (i := 142) (by decide +kernel)))
  obtain ⟨c3, i3, hKn3⟩ := u_known (C := RX3) (T := TX3) (N := 4) (n := 4) hts in_wsX30 (hts (.instantiable RX3 4) (List.mem_of_getElem? (i := 60) (by decide +kernel)))
  obtain ⟨c4, i4, hKn4⟩ := u_known (C := RX4) (T := TX4) (N := 4) (n := 4) hts in_wsX40 (hts (.instantiable RX4 4) (List.mem_of_getElem? (i := 80) (by decide +kernel)))
  obtain ⟨c5, i5, hKn5⟩ := u_known (C := RX5) (T := TX5) (N := 3) (n := 3) hts in_wsX50 (hts (.instantiable RX5 3) (List.mem_of_getElem? (i := 305) (by decide +kernel)))
  obtain ⟨c6, i6, hKn6⟩ := u_known (C := RX6) (T := TX6) (N := 3) (n := 3) hts in_wsX60 (hts (.instantiable RX6 3) (List.mem_of_getElem? (i := 274) (by decide +kernel)))
  obtain ⟨c7, i7, hKn7⟩ := u_known (C := RX7) (T := TX7) (N := 7) (n := 7) hts in_wsX70 (hts (.instantiable RX7 7) (List.mem_of_getElem? (i := 101) (by decide +kernel)))
  obtain ⟨c8, i8, hKn8⟩ := u_known (C := RX8) (T := TX8) (N := 1) (n := 1) hts in_wsX80 (hts (.instantiable RX8 1) (List.mem_of_getElem? (i := 188) (by decide +kernel)))
  obtain ⟨c9, i9, hKn9⟩ := u_known (C := RX9) (T := TX9) (N := 5) (n := 5) hts in_wsX90 (hts (.instantiable RX9 5) (List.mem_of_getElem? (i := 162) (by decide +kernel)))
  obtain ⟨c10, i10, hKn10⟩ := u_known (C := RX10) (T := TX10) (N := 8) (n := 8) hts in_wsX100 (hts (.instantiable RX10 8) (List.mem_of_getElem? (i := 51) (by decide +kernel)))
  obtain ⟨c11, i11, hKn11⟩ := u_known (C := RX11) (T := TX11) (N := 28) (n := 28) hts in_wsX110 (hts (.instantiable RX11 28) (List.mem_of_getElem? (i := 770) (by decide +kernel)))
  obtain ⟨dC, dI, hKc⟩ : ∃ (dC : Nat → ClassId) (dI : Nat → Nat → Nat), ∀ (k : Nat) (q : vw_C), vwCl[k]? = some q → u_Kn s q.1 q.2.1 q.2.2 (dC k) (dI k) := by
    refine ⟨fun k => if k = 0 then c0 else if k = 1 then c1 else if k = 2 then c2 else if k = 3 then c3 else if k = 4 then c4 else if k = 5 then c5 else if k = 6 then c6 else if k = 7 then c7 else if k = 8 then c8 else if k = 9 then c9 else if k = 10 then c10 else c11, fun k => if k = 0 then i0 else if k = 1 then i1 else if k = 2 then i2 else if k = 3 then i3 else if k = 4 then i4 else if k = 5 then i5 else if k = 6 then i6 else if k = 7 then i7 else if k = 8 then i8 else if k = 9 then i9 else if k = 10 then i10 else i11, ?_⟩
    intro k q hq
    match k, hq with
    | 0, hq => cases hq; exact hKn0
    | 1, hq => cases hq; exact hKn1
    | 2, hq => cases hq; exact hKn2
    | 3, hq => cases hq; exact hKn3
    | 4, hq => cases hq; exact hKn4
    | 5, hq => cases hq; exact hKn5
    | 6, hq => cases hq; exact hKn6
    | 7, hq => cases hq; exact hKn7
    | 8, hq => cases hq; exact hKn8
    | 9, hq => cases hq; exact hKn9
    | 10, hq => cases hq; exact hKn10
    | 11, hq => cases hq; exact hKn11
    | k + 12, hq => simp [vwCl] at hq
  obtain ⟨cI, kI, coI, eI1, eI2, eI3⟩ := Cond.arrayClass_spec (hts (.arrayClass .int) (List.mem_of_getElem? (i := 78) (by decide +kernel)))
  obtain ⟨cZ, kZ, coZ, eZ1, eZ2, eZ3⟩ := Cond.arrayClass_spec (hts (.arrayClass .boolean) (List.mem_of_getElem? (i := 160) (by decide +kernel)))
  obtain ⟨coS, cS, kS, eS1, -, eS2, eS3, eS4⟩ := Cond.arrayOver_spec (hts (.arrayOver (.object "SilkWord$Sheet")) (List.mem_of_getElem? (i := 59) (by decide +kernel)))
  obtain ⟨coP, cP, kP9, eP1, -, eP2, eP3, eP4⟩ := Cond.arrayOver_spec (hts (.arrayOver (.object "SilkWord$Subject")) (List.mem_of_getElem? (i := 86) (by decide +kernel)))
  have hK : va_K (dC, dI) vwCl (kT cI cZ cS cP) s := by
    refine ⟨hKc, fun k q h => ?_⟩
    match k, h with
    | 0, h => cases h; exact ⟨fun n z => ⟨fun k h => (by cases h), kI, eI2, coI, eI3⟩, eI1⟩
    | 1, h => cases h; exact ⟨fun n z => ⟨fun k h => (by cases h), kZ, eZ2, coZ, eZ3⟩, eZ1⟩
    | 2, h => cases h; exact ⟨fun n z => ⟨fun k h => (by cases h), kS, eS2, coS, eS3⟩, kS, coS, eS2, eS3, eS1, eS4⟩
    | 3, h => cases h; exact ⟨fun n z => ⟨fun k h => (by cases h), kP9, eP2, coP, eP3⟩, kP9, coP, eP2, eP3, eP1, eP4⟩
    | k + 4, h => simp at h
  have hS : va_S (fun q : Nat => s.heap.size ≤ q) s.heap s.heap [] := va_S.rf
  have hP : va_P (dC, dI) vwCl [] s.heap := fun k q h => by simp at h
  have hD : va_D (fun q : Nat => s.heap.size ≤ q) [] := ⟨fun i j p q h => by simp at h, fun k q h => by simp at h⟩
  have hl := lv_entry ([.ref b]) (n := 4) (Nat.le_of_ble_eq_true rfl)
  rw [lg_entry_eq]
  generalize (lg_sl ([.ref b]) ++ List.replicate (4 - (lg_sl ([.ref b])).length) Slot.unset).toArray = ls at hl ⊢
  have hl : lv_has ls 4 [(0, .ref b)] := hl
  refine va_new (D := (dC, dI)) (cl := vwCl) (tys := kT cI cZ cS cP) (ci := 10) (fs := [.null, .null, .null, .null, .null, .null, .null, .int (nI 0)]) (C := RX10) (T := TX10) (N := 8) hx hb hts in_wsX100 tyX10 tyX10_ok hown (hts (.classLink RL 7 RX10) (List.mem_of_getElem? (i := 50) (by decide +kernel))) (hts (.instantiable RX10 8) (List.mem_of_getElem? (i := 51) (by decide +kernel))) (hts (.initialized RX10) (List.mem_of_getElem? (i := 35) (by decide +kernel))) hK hP hD hS hA rfl (fun j hj => by rcases (show j = 0 ∨ j = 1 ∨ j = 2 ∨ j = 3 ∨ j = 4 ∨ j = 5 ∨ j = 6 ∨ j = 7 by omega) with rfl | rfl | rfl | rfl | rfl | rfl | rfl | rfl <;> rfl) (Nat.le_of_ble_eq_true rfl) (Nat.le_of_ble_eq_true rfl) dL_law_0 (fun q0 H hP hD hS => ?_)
  have hP : va_P (dC, dI) vwCl [(q0, .inr (10, [.null, .null, .null, .null, .null, .null, .null, .int (nI 0)]))] H := hP
  have hD : va_D (fun q : Nat => s.heap.size ≤ q) [(q0, .inr (10, [.null, .null, .null, .null, .null, .null, .null, .int (nI 0)]))] := hD
  refine lv_dup hx hb dL_law_3 rfl ?_
  refine k_jov (S := Nat × Nat × Nat × Nat × Nat × Nat × Nat × Nat × Nat × Nat × Nat × Nat × Nat × Nat × Nat × Nat × Nat × Nat × Nat × Nat × Nat × Nat × Nat × Nat × Nat × Nat × Nat × Nat × Nat × Nat × Nat × Nat × Nat × Nat × Nat) (va_runI (As := []) (rest := [.ref q0]) ⟨hx, hb, hml, hown, htl⟩ (c_X10_init l (dC, dI) cI cZ cS cP q0 _) (cwI 0 htl gL_law_X10_init rfl rfl rfl (hts (.initialized RX10) (List.mem_of_getElem? (i := 35) (by decide +kernel))) (hts (.methodLink RL 9 yX10_init) (List.mem_of_getElem? (i := 52) (by decide +kernel))) (hts (.instanceMethod yX10_init) (List.mem_of_getElem? (i := 53) (by decide +kernel))) rfl (by decide +kernel) ⟨Nat.le_of_ble_eq_true rfl, Nat.le_of_ble_eq_true rfl⟩) (kPreS hN hK hP hD [0] rfl rfl) rfl rfl hl.1 rfl (lv_room (Nat.le_of_ble_eq_true rfl)) dL_law_4 ⟨Nat.le_of_ble_eq_true rfl, Nat.le_of_ble_eq_true rfl⟩) hP hD hS hA [0] [] rfl (show _ = List.map some ([] : va_W) from rfl) rfl (by decide) (fun u1 H locs _ hP hD hS => ?_)
  have hP : va_P (dC, dI) vwCl (W36 cI cZ cS cP q0 u1) H := hP
  have hD : va_D (fun q : Nat => s.heap.size ≤ q) (W36 cI cZ cS cP q0 u1) := hD
  refine lv_astore_n (lv' := [(1, .ref q0), (0, .ref b)]) hx hb dL_law_7 rfl hl (by decide) rfl (fun ls hl => ?_)
  refine va_new (D := (dC, dI)) (cl := vwCl) (tys := kT cI cZ cS cP) (ci := 11) (fs := [.int (nI 0), .int (nI 0), .null, .null, .null, .int (nI 0), .int (nI 0), .int (nI 0), .null, .null, .null, .int (nI 0), .null, .null, .int (nI 0), .null, .null, .int (nI 0), .null, .int (nI 0), .null, .null, .null, .null, .null, .null, .null, .int (nI 0)]) (C := RX11) (T := TX11) (N := 28) hx hb hts in_wsX110 tyX11 tyX11_ok hown (hts (.classLink RL 10 RX11) (List.mem_of_getElem? (i := 769) (by decide +kernel))) (hts (.instantiable RX11 28) (List.mem_of_getElem? (i := 770) (by decide +kernel))) (hts (.initialized RX11) (List.mem_of_getElem? (i := 43) (by decide +kernel))) hK hP hD hS hA rfl (fun j hj => by rcases (show j = 0 ∨ j = 1 ∨ j = 2 ∨ j = 3 ∨ j = 4 ∨ j = 5 ∨ j = 6 ∨ j = 7 ∨ j = 8 ∨ j = 9 ∨ j = 10 ∨ j = 11 ∨ j = 12 ∨ j = 13 ∨ j = 14 ∨ j = 15 ∨ j = 16 ∨ j = 17 ∨ j = 18 ∨ j = 19 ∨ j = 20 ∨ j = 21 ∨ j = 22 ∨ j = 23 ∨ j = 24 ∨ j = 25 ∨ j = 26 ∨ j = 27 by omega) with rfl | rfl | rfl | rfl | rfl | rfl | rfl | rfl | rfl | rfl | rfl | rfl | rfl | rfl | rfl | rfl | rfl | rfl | rfl | rfl | rfl | rfl | rfl | rfl | rfl | rfl | rfl | rfl <;> rfl) (Nat.le_of_ble_eq_true rfl) (Nat.le_of_ble_eq_true rfl) dL_law_8 (fun q1 H hP hD hS => ?_)
  refine lv_dup hx hb dL_law_11 rfl ?_
  refine k_jov (S := Nat × Nat × Nat × Nat × Nat × Nat × Nat × Nat × Nat × Nat × Nat × Nat × Nat × Nat × Nat × Nat × Nat × Nat) (va_runI (As := []) (rest := [.ref q1]) ⟨hx, hb, hml, hown, htl⟩ (c_X11_init l (dC, dI) cI cZ cS cP q1 _) (cwI 0 htl gL_law_X11_init rfl rfl rfl (hts (.initialized RX11) (List.mem_of_getElem? (i := 43) (by decide +kernel))) (hts (.methodLink RL 12 yX11_init) (List.mem_of_getElem? (i := 771) (by decide +kernel))) (hts (.instanceMethod yX11_init) (List.mem_of_getElem? (i := 772) (by decide +kernel))) rfl (by decide +kernel) ⟨Nat.le_of_ble_eq_true rfl, Nat.le_of_ble_eq_true rfl⟩) (kPreS hN hK hP hD [36] rfl rfl) rfl rfl hl.1 rfl (lv_room (Nat.le_of_ble_eq_true rfl)) dL_law_12 ⟨Nat.le_of_ble_eq_true rfl, Nat.le_of_ble_eq_true rfl⟩) hP hD hS hA [36] [0, 1, 2, 3, 4, 5, 6, 7, 8, 9, 10, 11, 12, 13, 14, 15, 16, 17, 18, 19, 20, 21, 22, 23, 24, 25, 26, 27, 28, 29, 30, 31, 32, 33, 34, 35] rfl (show _ = List.map some (W36 cI cZ cS cP q0 u1) from rfl) rfl (by decide) (fun u2 H locs _ hP hD hS => ?_)
  have hP : va_P (dC, dI) vwCl (W36 cI cZ cS cP q0 u1 ++ W19 cI cZ q1 u2) H := hP
  have hD : va_D (fun q : Nat => s.heap.size ≤ q) (W36 cI cZ cS cP q0 u1 ++ W19 cI cZ q1 u2) := hD
  rw [JW0] at hP hD
  refine lv_astore_n (lv' := [(2, .ref q1), (1, .ref q0), (0, .ref b)]) hx hb dL_law_15 rfl hl (by decide) rfl (fun ls hl => ?_)
  refine lv_iconst (v := nI 0) hx hb dL_law_16 (by decide) ?_
  refine lv_istore_n (lv' := [(3, .int (nI 0)), (2, .ref q1), (1, .ref q0), (0, .ref b)]) hx hb dL_law_17 rfl hl (by decide) rfl (fun ls hl => ?_)
  refine W.widen (k := 55) (n := 956) (Nat.le_of_ble_eq_true rfl) (Nat.le_of_ble_eq_true rfl) ?_
  exact law_loop (hO := adf q0 q1 u1 u2 0) (hM := adf q0 q1 u1 u2 36) (J := Inv (adf q0 q1 u1 u2) cI cZ cS cP) hL C0 htl hN hK ⟨op_street, op_ofPerson, op_word, op_unsay, op_bribe, op_whisper, op_forget, op_says, op_crowd, op_heard, op_silence, op_noticed, op_fewest, op_bribes, op_whispers, op_worth, op_asked, op_reading, op_back, op_where, op_paid, op_odds, op_sheet, op_lose, op_put, op_cell, op_copy, op_tell, op_bow, op_as, op_trace, op_fault, op_many⟩ L 0 55 956 (Nat.zero_le L) (by omega) (by omega) (by omega) H locs _ ls (inv0 (adf q0 q1 u1 u2) cI cZ cS cP) hP hD hS (lv_sub hl [3, 2, 1, 0] rfl)
