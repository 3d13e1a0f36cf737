theorem m57 {m : Nat} (hm : m ≤ 9) : ¬ inR ((-9) - (nI 48)) (m + 1) := by
  unfold inR
  have : ((-9 : Int32) - nI 48).toInt = -57 := by decide
  omega
theorem kdc_ok {c : Int32} (h : c = nI 115 ∨ c = nI 99 ∨ c = nI 116) : (if c = nI 115 then 0 else (if c = nI 99 then 1 else 2)) = kdc c := by
  rcases h with h | h | h <;> rw [h] <;> decide
theorem dg_in {x : Int32} {v m : Nat} (h : x - nI 48 = nI v) (hv : v ≤ m) (hm : m ≤ 9) : inR (x - nI 48) (m + 1) := by
  rw [h]
  exact (inR_nI (by omega)).mpr (by omega)
/-- what the text's places say, from the model's side -/
theorem tx_59 {f : Nat → Int32} {fr q : Nat} (h : goB (4 * q + 1) (f (fr + (4 * q + 1))) = true) : f (fr + (4 * q + 1)) = nI 59 ∧ q < 7 := by
  have := (go_1 (pl := 4 * q + 1) (by omega) (by omega)).mpr h
  exact ⟨this.1, by omega⟩
theorem tx_kd {f : Nat → Int32} {fr q : Nat} (h : goB (4 * q + 1 + 1) (f (fr + (4 * q + 1 + 1))) = true) : f (fr + (4 * q + 1 + 1)) = nI 115 ∨ f (fr + (4 * q + 1 + 1)) = nI 99 ∨ f (fr + (4 * q + 1 + 1)) = nI 116 := (go_2 (pl := 4 * q + 1 + 1) (by omega) (by omega)).mpr h
theorem tx_lo {f : Nat → Int32} {fr q : Nat} (h : goB (4 * q + 1 + 1 + 1) (f (fr + (4 * q + 1 + 1 + 1))) = true) : f (fr + (4 * q + 1 + 1 + 1)) - nI 48 = nI (tlo f fr q) ∧ tlo f fr q ≤ 5 := by
  have := dg_ok (m := 5) (by decide) ((go_3 (pl := 4 * q + 1 + 1 + 1) (by omega) (by omega)).mpr h)
  unfold tlo
  rw [show fr + 2 + q * 4 + 1 = fr + (4 * q + 1 + 1 + 1) by omega]
  exact this
theorem tx_er {f : Nat → Int32} {fr q : Nat} (h : goB (4 * q + 1 + 1 + 1 + 1) (f (fr + (4 * q + 1 + 1 + 1 + 1))) = true) : f (fr + (4 * q + 1 + 1 + 1 + 1)) - nI 48 = nI (ter f fr q) ∧ ter f fr q ≤ 6 := by
  have := dg_ok (m := 6) (by decide) ((go_4 (pl := 4 * q + 1 + 1 + 1 + 1) (by omega) (by omega)).mpr h)
  unfold ter
  rw [show fr + 2 + q * 4 + 2 = fr + (4 * q + 1 + 1 + 1 + 1) by omega]
  exact this
theorem dg_no {x : Int32} {m : Nat} (hm : m ≤ 9) (h : ¬ ((¬ (x < nI 48)) ∧ (¬ (nI (48 + m) < x)))) : ¬ inR (x - nI 48) (m + 1) := by
  intro z
  apply h
  obtain ⟨j, hj, e⟩ := inR_nat z
  have ex : x = nI (j + 48) := by
    rw [← nI_add, ← e]
    exact (Int32.sub_add_cancel x (nI 48)).symm
  rw [ex]
  exact ⟨nI_nlt (by omega) (by omega), nI_nlt (by omega) (by omega)⟩
theorem fs_all {P : Nat → Bool} : ∀ {k : Nat}, fs P k = none → ∀ z, z < k → ¬ P z = true
  | 0, _, z, h => by omega
  | k + 1, e, z, h => by
    cases e3 : fs P k with
    | some j => simp [fs, e3] at e
    | none =>
      by_cases c : z = k
      · subst c
        intro hp
        simp [fs, e3, hp] at e
      · exact fs_all e3 z (by omega)
theorem fs_some {P : Nat → Bool} : ∀ {k j : Nat}, fs P k = some j → j < k ∧ P j = true ∧ fs P j = none
  | 0, j, h => by simp [fs] at h
  | k + 1, j, h => by
    cases e3 : fs P k with
    | some i =>
      simp [fs, e3] at h
      subst h
      have := fs_some e3
      exact ⟨by omega, this.2⟩
    | none =>
      by_cases c : P k = true
      · simp [fs, e3, c] at h
        subst h
        exact ⟨by omega, c, e3⟩
      · simp [fs, e3, c] at h
/-- where a text goes wrong -/
theorem fwr_some {f : Nat → Int32} {fr n j : Nat} (h : fwr f fr n = some j) : (∀ z, z < j → goB z (f (fr + z)) = true) ∧ j ≤ n ∧ (j = n ∧ ¬ (8 < n ∧ n % 4 = 1) ∨ j < n ∧ ¬ goB j (f (fr + j)) = true) := by
  unfold fwr at h
  cases e : fs (fwP f fr) n with
  | some i =>
    rw [e] at h
    simp only [Option.some.injEq] at h
    subst h
    obtain ⟨h1, h2, h3⟩ := fs_some e
    refine ⟨fun z hz => ?_, by omega, Or.inr ⟨h1, ?_⟩⟩
    · have := fs_all h3 z hz
      simpa [fwP] using this
    · simpa [fwP] using h2
  | none =>
    rw [e] at h
    simp only at h
    by_cases c : 8 < n ∧ n % 4 = 1
    · rw [if_pos c] at h; cases h
    · rw [if_neg c] at h
      simp only [Option.some.injEq] at h
      subst h
      refine ⟨fun z hz => ?_, Nat.le_refl _, Or.inl ⟨rfl, c⟩⟩
      have := fs_all e z hz
      simpa [fwP] using this
theorem fwr_none {f : Nat → Int32} {fr n : Nat} (h : fwr f fr n = none) : (∀ z, z < n → goB z (f (fr + z)) = true) ∧ 8 < n ∧ n % 4 = 1 ∧ n ≤ 29 := by
  unfold fwr at h
  cases e : fs (fwP f fr) n with
  | some i => rw [e] at h; cases h
  | none =>
    rw [e] at h
    simp only at h
    have hall : ∀ z, z < n → goB z (f (fr + z)) = true := by
      intro z hz
      have := fs_all e z hz
      simpa [fwP] using this
    by_cases c : 8 < n ∧ n % 4 = 1
    · refine ⟨hall, c.1, c.2, ?_⟩
      by_cases c2 : n ≤ 29
      · exact c2
      · have h29 := (go_1 (pl := 29) (by decide) (by decide)).mpr (hall 29 (by omega))
        omega
    · rw [if_neg c] at h; cases h
theorem cpN_s2 {f g : Nat → Nat} {k x : Nat} (h : x = f k) : va_up (cpN f g k) k x = cpN f g (k + 1) := by
  rw [h]; exact cpN_s f g k
theorem cpN_ltm {f g : Nat → Nat} {B k : Nat} (hf : ∀ i, i < k → f i < B) (hg : ∀ i, g i < B) : ∀ i, cpN f g k i < B := by
  intro i; unfold cpN; split
  · next h => exact hf i h
  · exact hg i
theorem kdc_lt (c : Int32) : kdc c < 3 := by unfold kdc; (repeat' split) <;> decide
def rm_X11_codeAt_in : Room := { frames := 0, cells := 0, slots := 0, locals := 0 }
set_option maxHeartbeats 4000000 in
set_option maxRecDepth 100000 in
theorem c_X11_codeAt_in (l : Launch) (D : va_G) (cI cZ cS cP : ClassId) (hM : Nat) (m1 : Nat) (m2 : Nat) (m3 : Nat) (m4 : Nat) (m5 : Nat) (m6 : Nat) (m7 : Nat) (m8 : Nat) (m9 : Nat) (m10 : Nat) (m11 : Nat) (m12 : Nat) (m13 : Nat) (m14 : Nat) (m15 : Nat) (m16 : Nat) (m17 : Nat) (m18 : Nat) (mf : Nat) (mn : Nat) (mb : Nat) (ra : Nat) (rn : Nat) (mw : Nat) (mh : Nat) (mm : Nat) (mr : Nat) (mt : Int32) (sc : Nat → Int32) (fr : Nat) (nn : Nat) (hfr : fr + nn ≤ 240) (hra : ra < nn) : kMi (S := Unit) l yX11_codeAt wsX11_codeAt rm_X11_codeAt_in D (kT cI cZ cS cP) [.ref hM, .int (nI fr), .int (nI nn)] [(hM, .inr (11, [.int (nI mf), .int (nI mn), .ref m1, .ref m2, .ref m3, .int (nI mb), .int (nI ra), .int (nI rn), .ref m4, .ref m5, .ref m6, .int (nI mw), .ref m7, .ref m8, .int (nI mh), .ref m9, .ref m10, .int (nI mm), .ref m11, .int (nI mr), .ref m12, .ref m13, .ref m14, .ref m15, .ref m16, .ref m17, .ref m18, .int mt])), (m17, .inl (cI, 240, .inl sc))] (fun r _ => r = (sc (fr + ra))) (fun _ => [(hM, .inr (11, [.int (nI mf), .int (nI mn), .ref m1, .ref m2, .ref m3, .int (nI mb), .int (nI ra), .int (nI rn), .ref m4, .ref m5, .ref m6, .int (nI mw), .ref m7, .ref m8, .int (nI mh), .ref m9, .ref m10, .int (nI mm), .ref m11, .int (nI mr), .ref m12, .ref m13, .ref m14, .ref m15, .ref m16, .ref m17, .ref m18, .int mt])), (m17, .inl (cI, 240, .inl sc))]) := by
  refine kMet_i (cc := cX11_codeAt) (maxL := 3) (ty := .int) (by decide) rfl (Nat.le_of_ble_eq_true rfl) (fun _ _ _ => rfl) ?_
  intro p e s m args below meth c A Q ls C hlocks hin hN hK hP hD hS hA hl ret
  obtain ⟨hx, hb, hml, hown, hts⟩ := C
  have hl : lv_has ls 3 [(0, .ref hM), (1, .int (nI fr)), (2, .int (nI nn))] := hl
  have in_X11 : ∀ w ∈ wsX110, w ∈ wsX11_codeAt := by decide +kernel
  have lk0 := hts (.fieldLink RX11 84 "SilkWordModel" "readAt" "I") (by decide +kernel)
  have lk1 := hts (.fieldLink RX11 59 "SilkWordModel" "sheet" "[I") (by decide +kernel)
  refine lv_aload_n hx hb dX11_codeAt_0 rfl (lv_at hl 0 rfl) ?_
  refine va_get (D := D) (ci := 11) (v := .int (nI ra)) (C := RX11) (T := TX11) (N := 28) hx hb hts in_X11 hown hK hP 0 rfl rfl 6 (by decide) lk0 (fun _ h9 => h9) rfl dX11_codeAt_1 ?_
  refine lv_iload_n hx hb dX11_codeAt_4 rfl (lv_at hl 2 rfl) ?_
  refine k_icmp_ge (tgt := 22) hx hb dX11_codeAt_5 (by decide) (show ra < 2 ^ 31 by first | omega | (split <;> omega)) (show nn < 2 ^ 31 by first | omega | (split <;> omega)) (fun c_1 => absurd c_1 (by omega)) (fun c_1 => ?_)
  refine lv_aload_n hx hb dX11_codeAt_8 rfl (lv_at hl 0 rfl) ?_
  refine va_get (D := D) (ci := 11) (v := .ref m17) (C := RX11) (T := TX11) (N := 28) hx hb hts in_X11 hown hK hP 0 rfl rfl 25 (by decide) lk1 (fun _ h9 => h9) rfl dX11_codeAt_9 ?_
  refine lv_iload_n hx hb dX11_codeAt_12 rfl (lv_at hl 1 rfl) ?_
  refine lv_aload_n hx hb dX11_codeAt_13 rfl (lv_at hl 0 rfl) ?_
  refine va_get (D := D) (ci := 11) (v := .int (nI ra)) (C := RX11) (T := TX11) (N := 28) hx hb hts in_X11 hown hK hP 0 rfl rfl 6 (by decide) lk0 (fun _ h9 => h9) rfl dX11_codeAt_14 ?_
  refine lv_iadd hx hb dX11_codeAt_17 ?_
  refine k_eqi (show ((nI fr) + (nI ra)) = (nI (fr + ra)) from nI_add fr ra) ?_
  refine k_iald hx hb hK hP 1 0 rfl rfl (show (fr + ra) < 240 by omega) (by decide) dX11_codeAt_18 ?_
  refine lv_goto (tgt := 24) hx hb dX11_codeAt_19 (by decide) ?_
  exact ret _ () _ _ _ _ dX11_codeAt_24 (rfl) hP hD hS
def rm_X11_codeAt_out : Room := { frames := 0, cells := 0, slots := 0, locals := 0 }
set_option maxHeartbeats 4000000 in
set_option maxRecDepth 100000 in
theorem c_X11_codeAt_out (l : Launch) (D : va_G) (cI cZ cS cP : ClassId) (hM : Nat) (m1 : Nat) (m2 : Nat) (m3 : Nat) (m4 : Nat) (m5 : Nat) (m6 : Nat) (m7 : Nat) (m8 : Nat) (m9 : Nat) (m10 : Nat) (m11 : Nat) (m12 : Nat) (m13 : Nat) (m14 : Nat) (m15 : Nat) (m16 : Nat) (m17 : Nat) (m18 : Nat) (mf : Nat) (mn : Nat) (mb : Nat) (ra : Nat) (rn : Nat) (mw : Nat) (mh : Nat) (mm : Nat) (mr : Nat) (mt : Int32) (sc : Nat → Int32) (fr : Nat) (nn : Nat) (hfr : fr + nn ≤ 240) (hra : nn ≤ ra) (hra2 : ra ≤ 240) : kMi (S := Unit) l yX11_codeAt wsX11_codeAt rm_X11_codeAt_out D (kT cI cZ cS cP) [.ref hM, .int (nI fr), .int (nI nn)] [(hM, .inr (11, [.int (nI mf), .int (nI mn), .ref m1, .ref m2, .ref m3, .int (nI mb), .int (nI ra), .int (nI rn), .ref m4, .ref m5, .ref m6, .int (nI mw), .ref m7, .ref m8, .int (nI mh), .ref m9, .ref m10, .int (nI mm), .ref m11, .int (nI mr), .ref m12, .ref m13, .ref m14, .ref m15, .ref m16, .ref m17, .ref m18, .int mt])), (m17, .inl (cI, 240, .inl sc))] (fun r _ => r = (-9)) (fun _ => [(hM, .inr (11, [.int (nI mf), .int (nI mn), .ref m1, .ref m2, .ref m3, .int (nI mb), .int (nI ra), .int (nI rn), .ref m4, .ref m5, .ref m6, .int (nI mw), .ref m7, .ref m8, .int (nI mh), .ref m9, .ref m10, .int (nI mm), .ref m11, .int (nI mr), .ref m12, .ref m13, .ref m14, .ref m15, .ref m16, .ref m17, .ref m18, .int mt])), (m17, .inl (cI, 240, .inl sc))]) := by
  refine kMet_i (cc := cX11_codeAt) (maxL := 3) (ty := .int) (by decide) rfl (Nat.le_of_ble_eq_true rfl) (fun _ _ _ => rfl) ?_
  intro p e s m args below meth c A Q ls C hlocks hin hN hK hP hD hS hA hl ret
  obtain ⟨hx, hb, hml, hown, hts⟩ := C
  have hl : lv_has ls 3 [(0, .ref hM), (1, .int (nI fr)), (2, .int (nI nn))] := hl
  have in_X11 : ∀ w ∈ wsX110, w ∈ wsX11_codeAt := by decide +kernel
  have lk0 := hts (.fieldLink RX11 84 "SilkWordModel" "readAt" "I") (by decide +kernel)
  refine lv_aload_n hx hb dX11_codeAt_0 rfl (lv_at hl 0 rfl) ?_
  refine va_get (D := D) (ci := 11) (v := .int (nI ra)) (C := RX11) (T := TX11) (N := 28) hx hb hts in_X11 hown hK hP 0 rfl rfl 6 (by decide) lk0 (fun _ h9 => h9) rfl dX11_codeAt_1 ?_
  refine lv_iload_n hx hb dX11_codeAt_4 rfl (lv_at hl 2 rfl) ?_
  refine k_icmp_ge (tgt := 22) hx hb dX11_codeAt_5 (by decide) (show ra < 2 ^ 31 by first | omega | (split <;> omega)) (show nn < 2 ^ 31 by first | omega | (split <;> omega)) (fun c_1 => ?_) (fun c_1 => absurd c_1 (by omega))
  refine lv_bipush (v := (-9)) hx hb dX11_codeAt_22 (by decide) ?_
  exact ret _ () _ _ _ _ dX11_codeAt_24 (rfl) hP hD hS
def rm_X11_figure_in : Room := { frames := 1, cells := 0, slots := 0, locals := 25 }
set_option maxHeartbeats 4000000 in
set_option maxRecDepth 100000 in
theorem c_X11_figure_in (l : Launch) (D : va_G) (cI cZ cS cP : ClassId) (hM : Nat) (m1 : Nat) (m2 : Nat) (m3 : Nat) (m4 : Nat) (m5 : Nat) (m6 : Nat) (m7 : Nat) (m8 : Nat) (m9 : Nat) (m10 : Nat) (m11 : Nat) (m12 : Nat) (m13 : Nat) (m14 : Nat) (m15 : Nat) (m16 : Nat) (m17 : Nat) (m18 : Nat) (mf : Nat) (mn : Nat) (mb : Nat) (ra : Nat) (rn : Nat) (mw : Nat) (mh : Nat) (mm : Nat) (mr : Nat) (mt : Int32) (sc : Nat → Int32) (fr : Nat) (nn : Nat) (mst : Nat) (v : Nat) (hfr : fr + nn ≤ 240) (hms : mst ≤ 9) (hra : ra < nn) (hv : sc (fr + ra) - nI 48 = nI v) (hvm : v ≤ mst) : kMi (S := Unit) l yX11_figure wsX11_figure rm_X11_figure_in D (kT cI cZ cS cP) [.ref hM, .int (nI fr), .int (nI nn), .int (nI mst)] [(hM, .inr (11, [.int (nI mf), .int (nI mn), .ref m1, .ref m2, .ref m3, .int (nI mb), .int (nI ra), .int (nI rn), .ref m4, .ref m5, .ref m6, .int (nI mw), .ref m7, .ref m8, .int (nI mh), .ref m9, .ref m10, .int (nI mm), .ref m11, .int (nI mr), .ref m12, .ref m13, .ref m14, .ref m15, .ref m16, .ref m17, .ref m18, .int mt])), (m17, .inl (cI, 240, .inl sc))] (fun r _ => r = (nI v)) (fun _ => [(hM, .inr (11, [.int (nI mf), .int (nI mn), .ref m1, .ref m2, .ref m3, .int (nI mb), .int (nI (ra + 1)), .int (nI rn), .ref m4, .ref m5, .ref m6, .int (nI mw), .ref m7, .ref m8, .int (nI mh), .ref m9, .ref m10, .int (nI mm), .ref m11, .int (nI mr), .ref m12, .ref m13, .ref m14, .ref m15, .ref m16, .ref m17, .ref m18, .int mt])), (m17, .inl (cI, 240, .inl sc))]) := by
  refine kMet_i (cc := cX11_figure) (maxL := 6) (ty := .int) (by decide) rfl (Nat.le_of_ble_eq_true rfl) (fun _ _ _ => rfl) ?_
  intro p e s m args below meth c A Q ls C hlocks hin hN hK hP hD hS hA hl ret
  obtain ⟨hx, hb, hml, hown, hts⟩ := C
  have hl : lv_has ls 6 [(0, .ref hM), (1, .int (nI fr)), (2, .int (nI nn)), (3, .int (nI mst))] := hl
  have in_X11 : ∀ w ∈ wsX110, w ∈ wsX11_figure := by decide +kernel
  have lk0 := hts (.fieldLink RX11 84 "SilkWordModel" "readAt" "I") (by decide +kernel)
  refine lv_aload_n hx hb dX11_figure_0 rfl (lv_at hl 0 rfl) ?_
  refine lv_iload_n hx hb dX11_figure_1 rfl (lv_at hl 1 rfl) ?_
  refine lv_iload_n hx hb dX11_figure_2 rfl (lv_at hl 2 rfl) ?_
  refine k_goi (S := Unit) (va_runV (As := [.int (nI fr), .int (nI nn)]) (rest := []) ⟨hx, hb, hml, hown, hts⟩ (c_X11_codeAt_in l D cI cZ cS cP hM m1 m2 m3 m4 m5 m6 m7 m8 m9 m10 m11 m12 m13 m14 m15 m16 m17 m18 mf mn mb ra rn mw mh mm mr mt sc fr nn (by first | assumption | omega) (by first | assumption | omega) _) (cwV 2 hts gX11_figure_X11_codeAt rfl rfl rfl (by decide +kernel) ⟨Nat.le_of_ble_eq_true rfl, Nat.le_of_ble_eq_true rfl⟩) (kPreV hN hK hP hD [0, 1] rfl rfl (q0 := 0) (ci := 11) (q := (RX11, TX11, 28)) rfl rfl) rfl rfl hl.1 rfl (lv_room (Nat.le_of_ble_eq_true rfl)) dX11_figure_3 ⟨Nat.le_of_ble_eq_true rfl, Nat.le_of_ble_eq_true rfl⟩) hP hD hS hA [0, 1] rfl [hM, m17] rfl (fun _ => rfl) 2 [] rfl (fun _u => [(hM, .inr (11, [.int (nI mf), .int (nI mn), .ref m1, .ref m2, .ref m3, .int (nI mb), .int (nI ra), .int (nI rn), .ref m4, .ref m5, .ref m6, .int (nI mw), .ref m7, .ref m8, .int (nI mh), .ref m9, .ref m10, .int (nI mm), .ref m11, .int (nI mr), .ref m12, .ref m13, .ref m14, .ref m15, .ref m16, .ref m17, .ref m18, .int mt])), (m17, .inl (cI, 240, .inl sc))]) (fun _ => rfl) [] [] (fun _ => rfl) rfl (fun _ => rfl) rfl (fun r_1 _u H locs hr_2 hP hD hS => ?_)
  have hP : va_P D vwCl [(hM, .inr (11, [.int (nI mf), .int (nI mn), .ref m1, .ref m2, .ref m3, .int (nI mb), .int (nI ra), .int (nI rn), .ref m4, .ref m5, .ref m6, .int (nI mw), .ref m7, .ref m8, .int (nI mh), .ref m9, .ref m10, .int (nI mm), .ref m11, .int (nI mr), .ref m12, .ref m13, .ref m14, .ref m15, .ref m16, .ref m17, .ref m18, .int mt])), (m17, .inl (cI, 240, .inl sc))] H := hP
  have hD : va_D A [(hM, .inr (11, [.int (nI mf), .int (nI mn), .ref m1, .ref m2, .ref m3, .int (nI mb), .int (nI ra), .int (nI rn), .ref m4, .ref m5, .ref m6, .int (nI mw), .ref m7, .ref m8, .int (nI mh), .ref m9, .ref m10, .int (nI mm), .ref m11, .int (nI mr), .ref m12, .ref m13, .ref m14, .ref m15, .ref m16, .ref m17, .ref m18, .int mt])), (m17, .inl (cI, 240, .inl sc))] := hD
  subst hr_2
  refine lv_bipush (v := (nI 48)) hx hb dX11_figure_6 (by decide) ?_
  refine lv_isub hx hb dX11_figure_8 ?_
  refine k_eqi (show ((sc (fr + ra)) - (nI 48)) = (nI v) from hv) ?_
  refine lv_istore (lv' := [(4, .int (nI v)), (0, .ref hM), (1, .int (nI fr)), (2, .int (nI nn)), (3, .int (nI mst))]) hx hb dX11_figure_9 hl (by decide) rfl (fun ls hl => ?_)
  refine lv_iload hx hb dX11_figure_11 (lv_at hl 0 rfl) ?_
  refine lv_i2l (v := (lN v)) hx hb dX11_figure_13 (nI_l (show v < 2 ^ 31 by omega)) ?_
  refine lv_lconst (v := lN 0) hx hb dX11_figure_14 (by decide) ?_
  refine lv_iload_n hx hb dX11_figure_15 rfl (lv_at hl 4 rfl) ?_
  refine lv_i2l (v := (lN mst)) hx hb dX11_figure_16 (nI_l (show mst < 2 ^ 31 by omega)) ?_
  refine k_goi (S := Unit) (va_runS (As := [.long (lN v), .long (lN 0), .long (lN mst)]) (rest := []) ⟨hx, hb, hml, hown, hts⟩ (c_X11_in l D cI cZ cS cP (lN v) (lN 0) (lN mst)  _) (va_cwS 3 hts gX11_figure_X11_in rfl rfl rfl (by decide +kernel) ⟨Nat.le_of_ble_eq_true rfl, Nat.le_of_ble_eq_true rfl⟩) (kPreS hN hK hP hD [] rfl rfl) rfl rfl hl.1 rfl (lv_room (Nat.le_of_ble_eq_true rfl)) dX11_figure_17 ⟨Nat.le_of_ble_eq_true rfl, Nat.le_of_ble_eq_true rfl⟩) hP hD hS hA [] rfl [] rfl (fun _ => rfl) 2 [0, 1] rfl (fun _u => [(hM, .inr (11, [.int (nI mf), .int (nI mn), .ref m1, .ref m2, .ref m3, .int (nI mb), .int (nI ra), .int (nI rn), .ref m4, .ref m5, .ref m6, .int (nI mw), .ref m7, .ref m8, .int (nI mh), .ref m9, .ref m10, .int (nI mm), .ref m11, .int (nI mr), .ref m12, .ref m13, .ref m14, .ref m15, .ref m16, .ref m17, .ref m18, .int mt])), (m17, .inl (cI, 240, .inl sc))]) (fun _ => rfl) [(hM, .inr (11, [.int (nI mf), .int (nI mn), .ref m1, .ref m2, .ref m3, .int (nI mb), .int (nI ra), .int (nI rn), .ref m4, .ref m5, .ref m6, .int (nI mw), .ref m7, .ref m8, .int (nI mh), .ref m9, .ref m10, .int (nI mm), .ref m11, .int (nI mr), .ref m12, .ref m13, .ref m14, .ref m15, .ref m16, .ref m17, .ref m18, .int mt])), (m17, .inl (cI, 240, .inl sc))] [] (fun _ => rfl) rfl (fun _ => rfl) rfl (fun r_3 _u H locs hr_4 hP hD hS => ?_)
  have hP : va_P D vwCl [(hM, .inr (11, [.int (nI mf), .int (nI mn), .ref m1, .ref m2, .ref m3, .int (nI mb), .int (nI ra), .int (nI rn), .ref m4, .ref m5, .ref m6, .int (nI mw), .ref m7, .ref m8, .int (nI mh), .ref m9, .ref m10, .int (nI mm), .ref m11, .int (nI mr), .ref m12, .ref m13, .ref m14, .ref m15, .ref m16, .ref m17, .ref m18, .int mt])), (m17, .inl (cI, 240, .inl sc))] H := hP
  have hD : va_D A [(hM, .inr (11, [.int (nI mf), .int (nI mn), .ref m1, .ref m2, .ref m3, .int (nI mb), .int (nI ra), .int (nI rn), .ref m4, .ref m5, .ref m6, .int (nI mw), .ref m7, .ref m8, .int (nI mh), .ref m9, .ref m10, .int (nI mm), .ref m11, .int (nI mr), .ref m12, .ref m13, .ref m14, .ref m15, .ref m16, .ref m17, .ref m18, .int mt])), (m17, .inl (cI, 240, .inl sc))] := hD
  subst hr_4
  refine k_eqi (show (nI (if (lN 0) ≤ (lN v) ∧ (lN v) ≤ (lN mst) then 1 else 0)) = (nI 1) from congrArg nI (if_pos (by rw [← t64n (show v < 2 ^ 31 by omega)]; exact (inMk (by omega)).mpr ((inR_nI (by omega)).mpr (by omega))))) ?_
  refine lv_istore (lv' := [(5, .int (nI 1)), (4, .int (nI v)), (0, .ref hM), (1, .int (nI fr)), (2, .int (nI nn)), (3, .int (nI mst))]) hx hb dX11_figure_20 hl (by decide) rfl (fun ls hl => ?_)
  refine lv_aload_n hx hb dX11_figure_22 rfl (lv_at hl 2 rfl) ?_
  refine lv_dup hx hb dX11_figure_23 rfl ?_
  refine va_get (D := D) (ci := 11) (v := .int (nI ra)) (C := RX11) (T := TX11) (N := 28) hx hb hts in_X11 hown hK hP 0 rfl rfl 6 (by decide) lk0 (fun _ h9 => h9) rfl dX11_figure_24 ?_
  refine lv_iload hx hb dX11_figure_27 (lv_at hl 0 rfl) ?_
  refine k_if_eq (tgt := 36) hx hb dX11_figure_29 (by decide) (show 1 < 2 ^ 31 by first | omega | (split <;> omega)) (fun q9 => absurd q9 (by decide)) (fun _ => ?_)
  refine lv_iconst (v := (nI 1)) hx hb dX11_figure_32 (by decide) ?_
  refine lv_goto (tgt := 37) hx hb dX11_figure_33 (by decide) ?_
  refine lv_iadd hx hb dX11_figure_37 ?_
  refine k_eqi (show ((nI ra) + (nI 1)) = (nI (ra + 1)) from nI_add ra 1) ?_
  refine va_put (D := D) (ci := 11) (v := .int (nI (ra + 1))) (ty := .int) (C := RX11) (T := TX11) (N := 28) hx hb hts in_X11 tyX11 tyX11_ok nmX11 hown hK hP hD hS 0 rfl rfl 6 (by decide) lk0 (fun _ h9 => h9) rfl (by decide +kernel) rfl rfl (Nat.le_of_ble_eq_true rfl) dX11_figure_38 (fun H locs hP hD hS => ?_)
  have hP : va_P D vwCl [(hM, .inr (11, [.int (nI mf), .int (nI mn), .ref m1, .ref m2, .ref m3, .int (nI mb), .int (nI (ra + 1)), .int (nI rn), .ref m4, .ref m5, .ref m6, .int (nI mw), .ref m7, .ref m8, .int (nI mh), .ref m9, .ref m10, .int (nI mm), .ref m11, .int (nI mr), .ref m12, .ref m13, .ref m14, .ref m15, .ref m16, .ref m17, .ref m18, .int mt])), (m17, .inl (cI, 240, .inl sc))] H := hP
  have hD : va_D A [(hM, .inr (11, [.int (nI mf), .int (nI mn), .ref m1, .ref m2, .ref m3, .int (nI mb), .int (nI (ra + 1)), .int (nI rn), .ref m4, .ref m5, .ref m6, .int (nI mw), .ref m7, .ref m8, .int (nI mh), .ref m9, .ref m10, .int (nI mm), .ref m11, .int (nI mr), .ref m12, .ref m13, .ref m14, .ref m15, .ref m16, .ref m17, .ref m18, .int mt])), (m17, .inl (cI, 240, .inl sc))] := hD
  refine lv_iload hx hb dX11_figure_41 (lv_at hl 0 rfl) ?_
  refine k_if_eq (tgt := 51) hx hb dX11_figure_43 (by decide) (show 1 < 2 ^ 31 by first | omega | (split <;> omega)) (fun q9 => absurd q9 (by decide)) (fun _ => ?_)
  refine lv_iload hx hb dX11_figure_46 (lv_at hl 1 rfl) ?_
  refine lv_goto (tgt := 53) hx hb dX11_figure_48 (by decide) ?_
  exact ret _ () _ _ _ _ dX11_figure_53 (rfl) hP hD hS
def rm_X11_figure_end : Room := { frames := 1, cells := 0, slots := 0, locals := 25 }
set_option maxHeartbeats 4000000 in
set_option maxRecDepth 100000 in
theorem c_X11_figure_end (l : Launch) (D : va_G) (cI cZ cS cP : ClassId) (hM : Nat) (m1 : Nat) (m2 : Nat) (m3 : Nat) (m4 : Nat) (m5 : Nat) (m6 : Nat) (m7 : Nat) (m8 : Nat) (m9 : Nat) (m10 : Nat) (m11 : Nat) (m12 : Nat) (m13 : Nat) (m14 : Nat) (m15 : Nat) (m16 : Nat) (m17 : Nat) (m18 : Nat) (mf : Nat) (mn : Nat) (mb : Nat) (ra : Nat) (rn : Nat) (mw : Nat) (mh : Nat) (mm : Nat) (mr : Nat) (mt : Int32) (sc : Nat → Int32) (fr : Nat) (nn : Nat) (mst : Nat) (hfr : fr + nn ≤ 240) (hms : mst ≤ 9) (hra : nn ≤ ra) (hra2 : ra ≤ 240) : kMi (S := Unit) l yX11_figure wsX11_figure rm_X11_figure_end D (kT cI cZ cS cP) [.ref hM, .int (nI fr), .int (nI nn), .int (nI mst)] [(hM, .inr (11, [.int (nI mf), .int (nI mn), .ref m1, .ref m2, .ref m3, .int (nI mb), .int (nI ra), .int (nI rn), .ref m4, .ref m5, .ref m6, .int (nI mw), .ref m7, .ref m8, .int (nI mh), .ref m9, .ref m10, .int (nI mm), .ref m11, .int (nI mr), .ref m12, .ref m13, .ref m14, .ref m15, .ref m16, .ref m17, .ref m18, .int mt])), (m17, .inl (cI, 240, .inl sc))] (fun r _ => r = (-9)) (fun _ => [(hM, .inr (11, [.int (nI mf), .int (nI mn), .ref m1, .ref m2, .ref m3, .int (nI mb), .int (nI ra), .int (nI rn), .ref m4, .ref m5, .ref m6, .int (nI mw), .ref m7, .ref m8, .int (nI mh), .ref m9, .ref m10, .int (nI mm), .ref m11, .int (nI mr), .ref m12, .ref m13, .ref m14, .ref m15, .ref m16, .ref m17, .ref m18, .int mt])), (m17, .inl (cI, 240, .inl sc))]) := by
  refine kMet_i (cc := cX11_figure) (maxL := 6) (ty := .int) (by decide) rfl (Nat.le_of_ble_eq_true rfl) (fun _ _ _ => rfl) ?_
  intro p e s m args below meth c A Q ls C hlocks hin hN hK hP hD hS hA hl ret
  obtain ⟨hx, hb, hml, hown, hts⟩ := C
  have hl : lv_has ls 6 [(0, .ref hM), (1, .int (nI fr)), (2, .int (nI nn)), (3, .int (nI mst))] := hl
  have in_X11 : ∀ w ∈ wsX110, w ∈ wsX11_figure := by decide +kernel
  have lk0 := hts (.fieldLink RX11 84 "SilkWordModel" "readAt" "I") (by decide +kernel)
  refine lv_aload_n hx hb dX11_figure_0 rfl (lv_at hl 0 rfl) ?_
  refine lv_iload_n hx hb dX11_figure_1 rfl (lv_at hl 1 rfl) ?_
  refine lv_iload_n hx hb dX11_figure_2 rfl (lv_at hl 2 rfl) ?_
  refine k_goi (S := Unit) (va_runV (As := [.int (nI fr), .int (nI nn)]) (rest := []) ⟨hx, hb, hml, hown, hts⟩ (c_X11_codeAt_out l D cI cZ cS cP hM m1 m2 m3 m4 m5 m6 m7 m8 m9 m10 m11 m12 m13 m14 m15 m16 m17 m18 mf mn mb ra rn mw mh mm mr mt sc fr nn (by first | assumption | omega) (by first | assumption | omega) (by first | assumption | omega) _) (cwV 2 hts gX11_figure_X11_codeAt rfl rfl rfl (by decide +kernel) ⟨Nat.le_of_ble_eq_true rfl, Nat.le_of_ble_eq_true rfl⟩) (kPreV hN hK hP hD [0, 1] rfl rfl (q0 := 0) (ci := 11) (q := (RX11, TX11, 28)) rfl rfl) rfl rfl hl.1 rfl (lv_room (Nat.le_of_ble_eq_true rfl)) dX11_figure_3 ⟨Nat.le_of_ble_eq_true rfl, Nat.le_of_ble_eq_true rfl⟩) hP hD hS hA [0, 1] rfl [hM, m17] rfl (fun _ => rfl) 2 [] rfl (fun _u => [(hM, .inr (11, [.int (nI mf), .int (nI mn), .ref m1, .ref m2, .ref m3, .int (nI mb), .int (nI ra), .int (nI rn), .ref m4, .ref m5, .ref m6, .int (nI mw), .ref m7, .ref m8, .int (nI mh), .ref m9, .ref m10, .int (nI mm), .ref m11, .int (nI mr), .ref m12, .ref m13, .ref m14, .ref m15, .ref m16, .ref m17, .ref m18, .int mt])), (m17, .inl (cI, 240, .inl sc))]) (fun _ => rfl) [] [] (fun _ => rfl) rfl (fun _ => rfl) rfl (fun r_1 _u H locs hr_2 hP hD hS => ?_)
  have hP : va_P D vwCl [(hM, .inr (11, [.int (nI mf), .int (nI mn), .ref m1, .ref m2, .ref m3, .int (nI mb), .int (nI ra), .int (nI rn), .ref m4, .ref m5, .ref m6, .int (nI mw), .ref m7, .ref m8, .int (nI mh), .ref m9, .ref m10, .int (nI mm), .ref m11, .int (nI mr), .ref m12, .ref m13, .ref m14, .ref m15, .ref m16, .ref m17, .ref m18, .int mt])), (m17, .inl (cI, 240, .inl sc))] H := hP
  have hD : va_D A [(hM, .inr (11, [.int (nI mf), .int (nI mn), .ref m1, .ref m2, .ref m3, .int (nI mb), .int (nI ra), .int (nI rn), .ref m4, .ref m5, .ref m6, .int (nI mw), .ref m7, .ref m8, .int (nI mh), .ref m9, .ref m10, .int (nI mm), .ref m11, .int (nI mr), .ref m12, .ref m13, .ref m14, .ref m15, .ref m16, .ref m17, .ref m18, .int mt])), (m17, .inl (cI, 240, .inl sc))] := hD
  subst hr_2
  refine lv_bipush (v := (nI 48)) hx hb dX11_figure_6 (by decide) ?_
  refine lv_isub hx hb dX11_figure_8 ?_
  refine lv_istore (lv' := [(4, .int ((-9) - (nI 48))), (0, .ref hM), (1, .int (nI fr)), (2, .int (nI nn)), (3, .int (nI mst))]) hx hb dX11_figure_9 hl (by decide) rfl (fun ls hl => ?_)
  refine lv_iload hx hb dX11_figure_11 (lv_at hl 0 rfl) ?_
  refine lv_i2l (v := (((-9) - (nI 48)).toInt64)) hx hb dX11_figure_13 (rfl) ?_
  refine lv_lconst (v := lN 0) hx hb dX11_figure_14 (by decide) ?_
  refine lv_iload_n hx hb dX11_figure_15 rfl (lv_at hl 4 rfl) ?_
  refine lv_i2l (v := (lN mst)) hx hb dX11_figure_16 (nI_l (show mst < 2 ^ 31 by omega)) ?_
  refine k_goi (S := Unit) (va_runS (As := [.long (((-9) - (nI 48)).toInt64), .long (lN 0), .long (lN mst)]) (rest := []) ⟨hx, hb, hml, hown, hts⟩ (c_X11_in l D cI cZ cS cP (((-9) - (nI 48)).toInt64) (lN 0) (lN mst)  _) (va_cwS 3 hts gX11_figure_X11_in rfl rfl rfl (by decide +kernel) ⟨Nat.le_of_ble_eq_true rfl, Nat.le_of_ble_eq_true rfl⟩) (kPreS hN hK hP hD [] rfl rfl) rfl rfl hl.1 rfl (lv_room (Nat.le_of_ble_eq_true rfl)) dX11_figure_17 ⟨Nat.le_of_ble_eq_true rfl, Nat.le_of_ble_eq_true rfl⟩) hP hD hS hA [] rfl [] rfl (fun _ => rfl) 2 [0, 1] rfl (fun _u => [(hM, .inr (11, [.int (nI mf), .int (nI mn), .ref m1, .ref m2, .ref m3, .int (nI mb), .int (nI ra), .int (nI rn), .ref m4, .ref m5, .ref m6, .int (nI mw), .ref m7, .ref m8, .int (nI mh), .ref m9, .ref m10, .int (nI mm), .ref m11, .int (nI mr), .ref m12, .ref m13, .ref m14, .ref m15, .ref m16, .ref m17, .ref m18, .int mt])), (m17, .inl (cI, 240, .inl sc))]) (fun _ => rfl) [(hM, .inr (11, [.int (nI mf), .int (nI mn), .ref m1, .ref m2, .ref m3, .int (nI mb), .int (nI ra), .int (nI rn), .ref m4, .ref m5, .ref m6, .int (nI mw), .ref m7, .ref m8, .int (nI mh), .ref m9, .ref m10, .int (nI mm), .ref m11, .int (nI mr), .ref m12, .ref m13, .ref m14, .ref m15, .ref m16, .ref m17, .ref m18, .int mt])), (m17, .inl (cI, 240, .inl sc))] [] (fun _ => rfl) rfl (fun _ => rfl) rfl (fun r_3 _u H locs hr_4 hP hD hS => ?_)
  have hP : va_P D vwCl [(hM, .inr (11, [.int (nI mf), .int (nI mn), .ref m1, .ref m2, .ref m3, .int (nI mb), .int (nI ra), .int (nI rn), .ref m4, .ref m5, .ref m6, .int (nI mw), .ref m7, .ref m8, .int (nI mh), .ref m9, .ref m10, .int (nI mm), .ref m11, .int (nI mr), .ref m12, .ref m13, .ref m14, .ref m15, .ref m16, .ref m17, .ref m18, .int mt])), (m17, .inl (cI, 240, .inl sc))] H := hP
  have hD : va_D A [(hM, .inr (11, [.int (nI mf), .int (nI mn), .ref m1, .ref m2, .ref m3, .int (nI mb), .int (nI ra), .int (nI rn), .ref m4, .ref m5, .ref m6, .int (nI mw), .ref m7, .ref m8, .int (nI mh), .ref m9, .ref m10, .int (nI mm), .ref m11, .int (nI mr), .ref m12, .ref m13, .ref m14, .ref m15, .ref m16, .ref m17, .ref m18, .int mt])), (m17, .inl (cI, 240, .inl sc))] := hD
  subst hr_4
  refine k_eqi (show (nI (if (lN 0) ≤ (((-9) - (nI 48)).toInt64) ∧ (((-9) - (nI 48)).toInt64) ≤ (lN mst) then 1 else 0)) = (nI 0) from congrArg nI (if_neg (fun z9 => m57 hms ((inMk (by omega)).mp z9)))) ?_
  refine lv_istore (lv' := [(5, .int (nI 0)), (4, .int ((-9) - (nI 48))), (0, .ref hM), (1, .int (nI fr)), (2, .int (nI nn)), (3, .int (nI mst))]) hx hb dX11_figure_20 hl (by decide) rfl (fun ls hl => ?_)
  refine lv_aload_n hx hb dX11_figure_22 rfl (lv_at hl 2 rfl) ?_
  refine lv_dup hx hb dX11_figure_23 rfl ?_
  refine va_get (D := D) (ci := 11) (v := .int (nI ra)) (C := RX11) (T := TX11) (N := 28) hx hb hts in_X11 hown hK hP 0 rfl rfl 6 (by decide) lk0 (fun _ h9 => h9) rfl dX11_figure_24 ?_
  refine lv_iload hx hb dX11_figure_27 (lv_at hl 0 rfl) ?_
  refine k_if_eq (tgt := 36) hx hb dX11_figure_29 (by decide) (show 0 < 2 ^ 31 by first | omega | (split <;> omega)) (fun _ => ?_) (fun q9 => absurd q9 (by decide))
  refine lv_iconst (v := (nI 0)) hx hb dX11_figure_36 (by decide) ?_
  refine lv_iadd hx hb dX11_figure_37 ?_
  refine k_eqi (show ((nI ra) + (nI 0)) = (nI (ra + 0)) from nI_add ra 0) ?_
  refine va_put (D := D) (ci := 11) (v := .int (nI (ra + 0))) (ty := .int) (C := RX11) (T := TX11) (N := 28) hx hb hts in_X11 tyX11 tyX11_ok nmX11 hown hK hP hD hS 0 rfl rfl 6 (by decide) lk0 (fun _ h9 => h9) rfl (by decide +kernel) rfl rfl (Nat.le_of_ble_eq_true rfl) dX11_figure_38 (fun H locs hP hD hS => ?_)
  have hP : va_P D vwCl [(hM, .inr (11, [.int (nI mf), .int (nI mn), .ref m1, .ref m2, .ref m3, .int (nI mb), .int (nI (ra + 0)), .int (nI rn), .ref m4, .ref m5, .ref m6, .int (nI mw), .ref m7, .ref m8, .int (nI mh), .ref m9, .ref m10, .int (nI mm), .ref m11, .int (nI mr), .ref m12, .ref m13, .ref m14, .ref m15, .ref m16, .ref m17, .ref m18, .int mt])), (m17, .inl (cI, 240, .inl sc))] H := hP
  have hD : va_D A [(hM, .inr (11, [.int (nI mf), .int (nI mn), .ref m1, .ref m2, .ref m3, .int (nI mb), .int (nI (ra + 0)), .int (nI rn), .ref m4, .ref m5, .ref m6, .int (nI mw), .ref m7, .ref m8, .int (nI mh), .ref m9, .ref m10, .int (nI mm), .ref m11, .int (nI mr), .ref m12, .ref m13, .ref m14, .ref m15, .ref m16, .ref m17, .ref m18, .int mt])), (m17, .inl (cI, 240, .inl sc))] := hD
  refine lv_iload hx hb dX11_figure_41 (lv_at hl 0 rfl) ?_
  refine k_if_eq (tgt := 51) hx hb dX11_figure_43 (by decide) (show 0 < 2 ^ 31 by first | omega | (split <;> omega)) (fun _ => ?_) (fun q9 => absurd q9 (by decide))
  refine lv_bipush (v := (-9)) hx hb dX11_figure_51 (by decide) ?_
  have e_5 : (nI (ra + 0)) = (nI ra) := congrArg nI (show ra + 0 = ra by omega)
  have q_6 : ([(hM, .inr (11, [.int (nI mf), .int (nI mn), .ref m1, .ref m2, .ref m3, .int (nI mb), .int (nI (ra + 0)), .int (nI rn), .ref m4, .ref m5, .ref m6, .int (nI mw), .ref m7, .ref m8, .int (nI mh), .ref m9, .ref m10, .int (nI mm), .ref m11, .int (nI mr), .ref m12, .ref m13, .ref m14, .ref m15, .ref m16, .ref m17, .ref m18, .int mt])), (m17, .inl (cI, 240, .inl sc))] : va_W) = [(hM, .inr (11, [.int (nI mf), .int (nI mn), .ref m1, .ref m2, .ref m3, .int (nI mb), .int (nI ra), .int (nI rn), .ref m4, .ref m5, .ref m6, .int (nI mw), .ref m7, .ref m8, .int (nI mh), .ref m9, .ref m10, .int (nI mm), .ref m11, .int (nI mr), .ref m12, .ref m13, .ref m14, .ref m15, .ref m16, .ref m17, .ref m18, .int mt])), (m17, .inl (cI, 240, .inl sc))] := by rw [← e_5]
  exact ret _ () _ _ _ _ dX11_figure_53 (rfl) (kP_cast hP q_6) (kD_cast hD q_6) hS
def rm_X11_figure_bad : Room := { frames := 1, cells := 0, slots := 0, locals := 25 }
set_option maxHeartbeats 4000000 in
set_option maxRecDepth 100000 in
theorem c_X11_figure_bad (l : Launch) (D : va_G) (cI cZ cS cP : ClassId) (hM : Nat) (m1 : Nat) (m2 : Nat) (m3 : Nat) (m4 : Nat) (m5 : Nat) (m6 : Nat) (m7 : Nat) (m8 : Nat) (m9 : Nat) (m10 : Nat) (m11 : Nat) (m12 : Nat) (m13 : Nat) (m14 : Nat) (m15 : Nat) (m16 : Nat) (m17 : Nat) (m18 : Nat) (mf : Nat) (mn : Nat) (mb : Nat) (ra : Nat) (rn : Nat) (mw : Nat) (mh : Nat) (mm : Nat) (mr : Nat) (mt : Int32) (sc : Nat → Int32) (fr : Nat) (nn : Nat) (mst : Nat) (hfr : fr + nn ≤ 240) (hms : mst ≤ 9) (hra : ra < nn) (hv : ¬ inR (sc (fr + ra) - nI 48) (mst + 1)) : kMi (S := Unit) l yX11_figure wsX11_figure rm_X11_figure_bad D (kT cI cZ cS cP) [.ref hM, .int (nI fr), .int (nI nn), .int (nI mst)] [(hM, .inr (11, [.int (nI mf), .int (nI mn), .ref m1, .ref m2, .ref m3, .int (nI mb), .int (nI ra), .int (nI rn), .ref m4, .ref m5, .ref m6, .int (nI mw), .ref m7, .ref m8, .int (nI mh), .ref m9, .ref m10, .int (nI mm), .ref m11, .int (nI mr), .ref m12, .ref m13, .ref m14, .ref m15, .ref m16, .ref m17, .ref m18, .int mt])), (m17, .inl (cI, 240, .inl sc))] (fun r _ => r = (-9)) (fun _ => [(hM, .inr (11, [.int (nI mf), .int (nI mn), .ref m1, .ref m2, .ref m3, .int (nI mb), .int (nI ra), .int (nI rn), .ref m4, .ref m5, .ref m6, .int (nI mw), .ref m7, .ref m8, .int (nI mh), .ref m9, .ref m10, .int (nI mm), .ref m11, .int (nI mr), .ref m12, .ref m13, .ref m14, .ref m15, .ref m16, .ref m17, .ref m18, .int mt])), (m17, .inl (cI, 240, .inl sc))]) := by
  refine kMet_i (cc := cX11_figure) (maxL := 6) (ty := .int) (by decide) rfl (Nat.le_of_ble_eq_true rfl) (fun _ _ _ => rfl) ?_
  intro p e s m args below meth c A Q ls C hlocks hin hN hK hP hD hS hA hl ret
  obtain ⟨hx, hb, hml, hown, hts⟩ := C
  have hl : lv_has ls 6 [(0, .ref hM), (1, .int (nI fr)), (2, .int (nI nn)), (3, .int (nI mst))] := hl
  have in_X11 : ∀ w ∈ wsX110, w ∈ wsX11_figure := by decide +kernel
  have lk0 := hts (.fieldLink RX11 84 "SilkWordModel" "readAt" "I") (by decide +kernel)
  refine lv_aload_n hx hb dX11_figure_0 rfl (lv_at hl 0 rfl) ?_
  refine lv_iload_n hx hb dX11_figure_1 rfl (lv_at hl 1 rfl) ?_
  refine lv_iload_n hx hb dX11_figure_2 rfl (lv_at hl 2 rfl) ?_
  refine k_goi (S := Unit) (va_runV (As := [.int (nI fr), .int (nI nn)]) (rest := []) ⟨hx, hb, hml, hown, hts⟩ (c_X11_codeAt_in l D cI cZ cS cP hM m1 m2 m3 m4 m5 m6 m7 m8 m9 m10 m11 m12 m13 m14 m15 m16 m17 m18 mf mn mb ra rn mw mh mm mr mt sc fr nn (by first | assumption | omega) (by first | assumption | omega) _) (cwV 2 hts gX11_figure_X11_codeAt rfl rfl rfl (by decide +kernel) ⟨Nat.le_of_ble_eq_true rfl, Nat.le_of_ble_eq_true rfl⟩) (kPreV hN hK hP hD [0, 1] rfl rfl (q0 := 0) (ci := 11) (q := (RX11, TX11, 28)) rfl rfl) rfl rfl hl.1 rfl (lv_room (Nat.le_of_ble_eq_true rfl)) dX11_figure_3 ⟨Nat.le_of_ble_eq_true rfl, Nat.le_of_ble_eq_true rfl⟩) hP hD hS hA [0, 1] rfl [hM, m17] rfl (fun _ => rfl) 2 [] rfl (fun _u => [(hM, .inr (11, [.int (nI mf), .int (nI mn), .ref m1, .ref m2, .ref m3, .int (nI mb), .int (nI ra), .int (nI rn), .ref m4, .ref m5, .ref m6, .int (nI mw), .ref m7, .ref m8, .int (nI mh), .ref m9, .ref m10, .int (nI mm), .ref m11, .int (nI mr), .ref m12, .ref m13, .ref m14, .ref m15, .ref m16, .ref m17, .ref m18, .int mt])), (m17, .inl (cI, 240, .inl sc))]) (fun _ => rfl) [] [] (fun _ => rfl) rfl (fun _ => rfl) rfl (fun r_1 _u H locs hr_2 hP hD hS => ?_)
  have hP : va_P D vwCl [(hM, .inr (11, [.int (nI mf), .int (nI mn), .ref m1, .ref m2, .ref m3, .int (nI mb), .int (nI ra), .int (nI rn), .ref m4, .ref m5, .ref m6, .int (nI mw), .ref m7, .ref m8, .int (nI mh), .ref m9, .ref m10, .int (nI mm), .ref m11, .int (nI mr), .ref m12, .ref m13, .ref m14, .ref m15, .ref m16, .ref m17, .ref m18, .int mt])), (m17, .inl (cI, 240, .inl sc))] H := hP
  have hD : va_D A [(hM, .inr (11, [.int (nI mf), .int (nI mn), .ref m1, .ref m2, .ref m3, .int (nI mb), .int (nI ra), .int (nI rn), .ref m4, .ref m5, .ref m6, .int (nI mw), .ref m7, .ref m8, .int (nI mh), .ref m9, .ref m10, .int (nI mm), .ref m11, .int (nI mr), .ref m12, .ref m13, .ref m14, .ref m15, .ref m16, .ref m17, .ref m18, .int mt])), (m17, .inl (cI, 240, .inl sc))] := hD
  subst hr_2
  refine lv_bipush (v := (nI 48)) hx hb dX11_figure_6 (by decide) ?_
  refine lv_isub hx hb dX11_figure_8 ?_
  refine lv_istore (lv' := [(4, .int ((sc (fr + ra)) - (nI 48))), (0, .ref hM), (1, .int (nI fr)), (2, .int (nI nn)), (3, .int (nI mst))]) hx hb dX11_figure_9 hl (by decide) rfl (fun ls hl => ?_)
  refine lv_iload hx hb dX11_figure_11 (lv_at hl 0 rfl) ?_
  refine lv_i2l (v := (((sc (fr + ra)) - (nI 48)).toInt64)) hx hb dX11_figure_13 (rfl) ?_
  refine lv_lconst (v := lN 0) hx hb dX11_figure_14 (by decide) ?_
  refine lv_iload_n hx hb dX11_figure_15 rfl (lv_at hl 4 rfl) ?_
  refine lv_i2l (v := (lN mst)) hx hb dX11_figure_16 (nI_l (show mst < 2 ^ 31 by omega)) ?_
  refine k_goi (S := Unit) (va_runS (As := [.long (((sc (fr + ra)) - (nI 48)).toInt64), .long (lN 0), .long (lN mst)]) (rest := []) ⟨hx, hb, hml, hown, hts⟩ (c_X11_in l D cI cZ cS cP (((sc (fr + ra)) - (nI 48)).toInt64) (lN 0) (lN mst)  _) (va_cwS 3 hts gX11_figure_X11_in rfl rfl rfl (by decide +kernel) ⟨Nat.le_of_ble_eq_true rfl, Nat.le_of_ble_eq_true rfl⟩) (kPreS hN hK hP hD [] rfl rfl) rfl rfl hl.1 rfl (lv_room (Nat.le_of_ble_eq_true rfl)) dX11_figure_17 ⟨Nat.le_of_ble_eq_true rfl, Nat.le_of_ble_eq_true rfl⟩) hP hD hS hA [] rfl [] rfl (fun _ => rfl) 2 [0, 1] rfl (fun _u => [(hM, .inr (11, [.int (nI mf), .int (nI mn), .ref m1, .ref m2, .ref m3, .int (nI mb), .int (nI ra), .int (nI rn), .ref m4, .ref m5, .ref m6, .int (nI mw), .ref m7, .ref m8, .int (nI mh), .ref m9, .ref m10, .int (nI mm), .ref m11, .int (nI mr), .ref m12, .ref m13, .ref m14, .ref m15, .ref m16, .ref m17, .ref m18, .int mt])), (m17, .inl (cI, 240, .inl sc))]) (fun _ => rfl) [(hM, .inr (11, [.int (nI mf), .int (nI mn), .ref m1, .ref m2, .ref m3, .int (nI mb), .int (nI ra), .int (nI rn), .ref m4, .ref m5, .ref m6, .int (nI mw), .ref m7, .ref m8, .int (nI mh), .ref m9, .ref m10, .int (nI mm), .ref m11, .int (nI mr), .ref m12, .ref m13, .ref m14, .ref m15, .ref m16, .ref m17, .ref m18, .int mt])), (m17, .inl (cI, 240, .inl sc))] [] (fun _ => rfl) rfl (fun _ => rfl) rfl (fun r_3 _u H locs hr_4 hP hD hS => ?_)
  have hP : va_P D vwCl [(hM, .inr (11, [.int (nI mf), .int (nI mn), .ref m1, .ref m2, .ref m3, .int (nI mb), .int (nI ra), .int (nI rn), .ref m4, .ref m5, .ref m6, .int (nI mw), .ref m7, .ref m8, .int (nI mh), .ref m9, .ref m10, .int (nI mm), .ref m11, .int (nI mr), .ref m12, .ref m13, .ref m14, .ref m15, .ref m16, .ref m17, .ref m18, .int mt])), (m17, .inl (cI, 240, .inl sc))] H := hP
  have hD : va_D A [(hM, .inr (11, [.int (nI mf), .int (nI mn), .ref m1, .ref m2, .ref m3, .int (nI mb), .int (nI ra), .int (nI rn), .ref m4, .ref m5, .ref m6, .int (nI mw), .ref m7, .ref m8, .int (nI mh), .ref m9, .ref m10, .int (nI mm), .ref m11, .int (nI mr), .ref m12, .ref m13, .ref m14, .ref m15, .ref m16, .ref m17, .ref m18, .int mt])), (m17, .inl (cI, 240, .inl sc))] := hD
  subst hr_4
  refine k_eqi (show (nI (if (lN 0) ≤ (((sc (fr + ra)) - (nI 48)).toInt64) ∧ (((sc (fr + ra)) - (nI 48)).toInt64) ≤ (lN mst) then 1 else 0)) = (nI 0) from congrArg nI (if_neg (fun z9 => hv ((inMk (by omega)).mp z9)))) ?_
  refine lv_istore (lv' := [(5, .int (nI 0)), (4, .int ((sc (fr + ra)) - (nI 48))), (0, .ref hM), (1, .int (nI fr)), (2, .int (nI nn)), (3, .int (nI mst))]) hx hb dX11_figure_20 hl (by decide) rfl (fun ls hl => ?_)
  refine lv_aload_n hx hb dX11_figure_22 rfl (lv_at hl 2 rfl) ?_
  refine lv_dup hx hb dX11_figure_23 rfl ?_
  refine va_get (D := D) (ci := 11) (v := .int (nI ra)) (C := RX11) (T := TX11) (N := 28) hx hb hts in_X11 hown hK hP 0 rfl rfl 6 (by decide) lk0 (fun _ h9 => h9) rfl dX11_figure_24 ?_
  refine lv_iload hx hb dX11_figure_27 (lv_at hl 0 rfl) ?_
  refine k_if_eq (tgt := 36) hx hb dX11_figure_29 (by decide) (show 0 < 2 ^ 31 by first | omega | (split <;> omega)) (fun _ => ?_) (fun q9 => absurd q9 (by decide))
  refine lv_iconst (v := (nI 0)) hx hb dX11_figure_36 (by decide) ?_
  refine lv_iadd hx hb dX11_figure_37 ?_
  refine k_eqi (show ((nI ra) + (nI 0)) = (nI (ra + 0)) from nI_add ra 0) ?_
  refine va_put (D := D) (ci := 11) (v := .int (nI (ra + 0))) (ty := .int) (C := RX11) (T := TX11) (N := 28) hx hb hts in_X11 tyX11 tyX11_ok nmX11 hown hK hP hD hS 0 rfl rfl 6 (by decide) lk0 (fun _ h9 => h9) rfl (by decide +kernel) rfl rfl (Nat.le_of_ble_eq_true rfl) dX11_figure_38 (fun H locs hP hD hS => ?_)
  have hP : va_P D vwCl [(hM, .inr (11, [.int (nI mf), .int (nI mn), .ref m1, .ref m2, .ref m3, .int (nI mb), .int (nI (ra + 0)), .int (nI rn), .ref m4, .ref m5, .ref m6, .int (nI mw), .ref m7, .ref m8, .int (nI mh), .ref m9, .ref m10, .int (nI mm), .ref m11, .int (nI mr), .ref m12, .ref m13, .ref m14, .ref m15, .ref m16, .ref m17, .ref m18, .int mt])), (m17, .inl (cI, 240, .inl sc))] H := hP
  have hD : va_D A [(hM, .inr (11, [.int (nI mf), .int (nI mn), .ref m1, .ref m2, .ref m3, .int (nI mb), .int (nI (ra + 0)), .int (nI rn), .ref m4, .ref m5, .ref m6, .int (nI mw), .ref m7, .ref m8, .int (nI mh), .ref m9, .ref m10, .int (nI mm), .ref m11, .int (nI mr), .ref m12, .ref m13, .ref m14, .ref m15, .ref m16, .ref m17, .ref m18, .int mt])), (m17, .inl (cI, 240, .inl sc))] := hD
  refine lv_iload hx hb dX11_figure_41 (lv_at hl 0 rfl) ?_
  refine k_if_eq (tgt := 51) hx hb dX11_figure_43 (by decide) (show 0 < 2 ^ 31 by first | omega | (split <;> omega)) (fun _ => ?_) (fun q9 => absurd q9 (by decide))
  refine lv_bipush (v := (-9)) hx hb dX11_figure_51 (by decide) ?_
  have e_5 : (nI (ra + 0)) = (nI ra) := congrArg nI (show ra + 0 = ra by omega)
  have q_6 : ([(hM, .inr (11, [.int (nI mf), .int (nI mn), .ref m1, .ref m2, .ref m3, .int (nI mb), .int (nI (ra + 0)), .int (nI rn), .ref m4, .ref m5, .ref m6, .int (nI mw), .ref m7, .ref m8, .int (nI mh), .ref m9, .ref m10, .int (nI mm), .ref m11, .int (nI mr), .ref m12, .ref m13, .ref m14, .ref m15, .ref m16, .ref m17, .ref m18, .int mt])), (m17, .inl (cI, 240, .inl sc))] : va_W) = [(hM, .inr (11, [.int (nI mf), .int (nI mn), .ref m1, .ref m2, .ref m3, .int (nI mb), .int (nI ra), .int (nI rn), .ref m4, .ref m5, .ref m6, .int (nI mw), .ref m7, .ref m8, .int (nI mh), .ref m9, .ref m10, .int (nI mm), .ref m11, .int (nI mr), .ref m12, .ref m13, .ref m14, .ref m15, .ref m16, .ref m17, .ref m18, .int mt])), (m17, .inl (cI, 240, .inl sc))] := by rw [← e_5]
  exact ret _ () _ _ _ _ dX11_figure_53 (rfl) (kP_cast hP q_6) (kD_cast hD q_6) hS
def rm_X11_readsPerson_ok : Room := { frames := 2, cells := 0, slots := 0, locals := 50 }
set_option maxHeartbeats 4000000 in
set_option maxRecDepth 100000 in
theorem c_X11_readsPerson_ok (l : Launch) (D : va_G) (cI cZ cS cP : ClassId) (hM : Nat) (m1 : Nat) (m2 : Nat) (m3 : Nat) (m4 : Nat) (m5 : Nat) (m6 : Nat) (m7 : Nat) (m8 : Nat) (m9 : Nat) (m10 : Nat) (m11 : Nat) (m12 : Nat) (m13 : Nat) (m14 : Nat) (m15 : Nat) (m16 : Nat) (m17 : Nat) (m18 : Nat) (mf : Nat) (mn : Nat) (mb : Nat) (ra : Nat) (rn : Nat) (mw : Nat) (mh : Nat) (mm : Nat) (mr : Nat) (mt : Int32) (sc : Nat → Int32) (qk : Nat → Nat) (ql : Nat → Nat) (qe : Nat → Nat) (fr : Nat) (nn : Nat) (v : Nat) (w : Nat) (hfr : fr + nn ≤ 240) (hqk : ∀ i, qk i < 3) (hql : ∀ i, ql i < 6) (hqe : ∀ i, qe i < 7) (hrn : rn < 7) (h0 : sc (fr + ra) = nI 59) (hn0 : ra < nn) (h1 : sc (fr + (ra + 1)) = nI 115 ∨ sc (fr + (ra + 1)) = nI 99 ∨ sc (fr + (ra + 1)) = nI 116) (hn1 : ra + 1 < nn) (h2 : sc (fr + ((ra + 1) + 1)) - nI 48 = nI v) (hv : v ≤ 5) (hn2 : (ra + 1) + 1 < nn) (h3 : sc (fr + (((ra + 1) + 1) + 1)) - nI 48 = nI w) (hw : w ≤ 6) (hn3 : ((ra + 1) + 1) + 1 < nn) : kMi (S := Unit) l yX11_readsPerson wsX11_readsPerson rm_X11_readsPerson_ok D (kT cI cZ cS cP) [.ref hM, .int (nI fr), .int (nI nn)] [(hM, .inr (11, [.int (nI mf), .int (nI mn), .ref m1, .ref m2, .ref m3, .int (nI mb), .int (nI ra), .int (nI rn), .ref m4, .ref m5, .ref m6, .int (nI mw), .ref m7, .ref m8, .int (nI mh), .ref m9, .ref m10, .int (nI mm), .ref m11, .int (nI mr), .ref m12, .ref m13, .ref m14, .ref m15, .ref m16, .ref m17, .ref m18, .int mt])), (m17, .inl (cI, 240, .inl sc)), (m4, .inl (cI, 7, .inl (nA qk))), (m5, .inl (cI, 7, .inl (nA ql))), (m6, .inl (cI, 7, .inl (nA qe)))] (fun r _ => r = (nI 1)) (fun _ => [(hM, .inr (11, [.int (nI mf), .int (nI mn), .ref m1, .ref m2, .ref m3, .int (nI mb), .int (nI (ra + 4)), .int (nI (rn + 1)), .ref m4, .ref m5, .ref m6, .int (nI mw), .ref m7, .ref m8, .int (nI mh), .ref m9, .ref m10, .int (nI mm), .ref m11, .int (nI mr), .ref m12, .ref m13, .ref m14, .ref m15, .ref m16, .ref m17, .ref m18, .int mt])), (m17, .inl (cI, 240, .inl sc)), (m4, .inl (cI, 7, .inl (nA (va_up qk rn (kdc (sc (fr + (ra + 1)))))))), (m5, .inl (cI, 7, .inl (nA (va_up ql rn v)))), (m6, .inl (cI, 7, .inl (nA (va_up qe rn w))))]) := by
  refine kMet_i (cc := cX11_readsPerson) (maxL := 6) (ty := .boolean) (by decide) rfl (Nat.le_of_ble_eq_true rfl) (fun _ _ q => by (first | subst q | (obtain ⟨q, -⟩ := q; subst q)); (first | exact kz_nr | decide)) ?_
  intro p e s m args below meth c A Q ls C hlocks hin hN hK hP hD hS hA hl ret
  obtain ⟨hx, hb, hml, hown, hts⟩ := C
  have hl : lv_has ls 6 [(0, .ref hM), (1, .int (nI fr)), (2, .int (nI nn))] := hl
  have in_X11 : ∀ w ∈ wsX110, w ∈ wsX11_readsPerson := by decide +kernel
  have lk0 := hts (.fieldLink RX11 91 "SilkWordModel" "readPersons" "I") (by decide +kernel)
  have lk1 := hts (.fieldLink RX11 84 "SilkWordModel" "readAt" "I") (by decide +kernel)
  have lk2 := hts (.fieldLink RX11 19 "SilkWordModel" "readKind" "[I") (by decide +kernel)
  have lk3 := hts (.fieldLink RX11 22 "SilkWordModel" "readLoses" "[I") (by decide +kernel)
  have lk4 := hts (.fieldLink RX11 25 "SilkWordModel" "readEar" "[I") (by decide +kernel)
  refine lv_aload_n hx hb dX11_readsPerson_0 rfl (lv_at hl 0 rfl) ?_
  refine va_get (D := D) (ci := 11) (v := .int (nI rn)) (C := RX11) (T := TX11) (N := 28) hx hb hts in_X11 hown hK hP 0 rfl rfl 7 (by decide) lk0 (fun _ h9 => h9) rfl dX11_readsPerson_1 ?_
  refine lv_bipush (v := (nI 7)) hx hb dX11_readsPerson_4 (by decide) ?_
  refine k_icmp_eq (tgt := 20) hx hb dX11_readsPerson_6 (by decide) (show rn < 2 ^ 31 by first | omega | (split <;> omega)) (show 7 < 2 ^ 31 by first | omega | (split <;> omega)) (fun c_1 => absurd c_1 (by omega)) (fun c_1 => ?_)
  refine lv_aload_n hx hb dX11_readsPerson_9 rfl (lv_at hl 0 rfl) ?_
  refine lv_iload_n hx hb dX11_readsPerson_10 rfl (lv_at hl 1 rfl) ?_
  refine lv_iload_n hx hb dX11_readsPerson_11 rfl (lv_at hl 2 rfl) ?_
  refine k_goi (S := Unit) (va_runV (As := [.int (nI fr), .int (nI nn)]) (rest := []) ⟨hx, hb, hml, hown, hts⟩ (c_X11_codeAt_in l D cI cZ cS cP hM m1 m2 m3 m4 m5 m6 m7 m8 m9 m10 m11 m12 m13 m14 m15 m16 m17 m18 mf mn mb ra rn mw mh mm mr mt sc fr nn (by first | assumption | omega) (by first | assumption | omega) _) (cwV 2 hts gX11_readsPerson_X11_codeAt rfl rfl rfl (by decide +kernel) ⟨Nat.le_of_ble_eq_true rfl, Nat.le_of_ble_eq_true rfl⟩) (kPreV hN hK hP hD [0, 1] rfl rfl (q0 := 0) (ci := 11) (q := (RX11, TX11, 28)) rfl rfl) rfl rfl hl.1 rfl (lv_room (Nat.le_of_ble_eq_true rfl)) dX11_readsPerson_12 ⟨Nat.le_of_ble_eq_true rfl, Nat.le_of_ble_eq_true rfl⟩) hP hD hS hA [0, 1] rfl [hM, m17] rfl (fun _ => rfl) 5 [2, 3, 4] rfl (fun _u => [(hM, .inr (11, [.int (nI mf), .int (nI mn), .ref m1, .ref m2, .ref m3, .int (nI mb), .int (nI ra), .int (nI rn), .ref m4, .ref m5, .ref m6, .int (nI mw), .ref m7, .ref m8, .int (nI mh), .ref m9, .ref m10, .int (nI mm), .ref m11, .int (nI mr), .ref m12, .ref m13, .ref m14, .ref m15, .ref m16, .ref m17, .ref m18, .int mt])), (m17, .inl (cI, 240, .inl sc)), (m4, .inl (cI, 7, .inl (nA qk))), (m5, .inl (cI, 7, .inl (nA ql))), (m6, .inl (cI, 7, .inl (nA qe)))]) (fun _ => rfl) [(m4, .inl (cI, 7, .inl (nA qk))), (m5, .inl (cI, 7, .inl (nA ql))), (m6, .inl (cI, 7, .inl (nA qe)))] [] (fun _ => rfl) rfl (fun _ => rfl) rfl (fun r_2 _u H locs hr_3 hP hD hS => ?_)
  have hP : va_P D vwCl [(hM, .inr (11, [.int (nI mf), .int (nI mn), .ref m1, .ref m2, .ref m3, .int (nI mb), .int (nI ra), .int (nI rn), .ref m4, .ref m5, .ref m6, .int (nI mw), .ref m7, .ref m8, .int (nI mh), .ref m9, .ref m10, .int (nI mm), .ref m11, .int (nI mr), .ref m12, .ref m13, .ref m14, .ref m15, .ref m16, .ref m17, .ref m18, .int mt])), (m17, .inl (cI, 240, .inl sc)), (m4, .inl (cI, 7, .inl (nA qk))), (m5, .inl (cI, 7, .inl (nA ql))), (m6, .inl (cI, 7, .inl (nA qe)))] H := hP
  have hD : va_D A [(hM, .inr (11, [.int (nI mf), .int (nI mn), .ref m1, .ref m2, .ref m3, .int (nI mb), .int (nI ra), .int (nI rn), .ref m4, .ref m5, .ref m6, .int (nI mw), .ref m7, .ref m8, .int (nI mh), .ref m9, .ref m10, .int (nI mm), .ref m11, .int (nI mr), .ref m12, .ref m13, .ref m14, .ref m15, .ref m16, .ref m17, .ref m18, .int mt])), (m17, .inl (cI, 240, .inl sc)), (m4, .inl (cI, 7, .inl (nA qk))), (m5, .inl (cI, 7, .inl (nA ql))), (m6, .inl (cI, 7, .inl (nA qe)))] := hD
  subst hr_3
  refine k_eqi (show (sc (fr + ra)) = (nI 59) from h0) ?_
  refine lv_bipush (v := (nI 59)) hx hb dX11_readsPerson_15 (by decide) ?_
  refine k_icmp_eq (tgt := 22) hx hb dX11_readsPerson_17 (by decide) (show 59 < 2 ^ 31 by first | omega | (split <;> omega)) (show 59 < 2 ^ 31 by first | omega | (split <;> omega)) (fun _ => ?_) (fun q9 => absurd q9 (by decide))
  refine lv_aload_n hx hb dX11_readsPerson_22 rfl (lv_at hl 0 rfl) ?_
  refine lv_dup hx hb dX11_readsPerson_23 rfl ?_
  refine va_get (D := D) (ci := 11) (v := .int (nI ra)) (C := RX11) (T := TX11) (N := 28) hx hb hts in_X11 hown hK hP 0 rfl rfl 6 (by decide) lk1 (fun _ h9 => h9) rfl dX11_readsPerson_24 ?_
  refine lv_iconst (v := (nI 1)) hx hb dX11_readsPerson_27 (by decide) ?_
  refine lv_iadd hx hb dX11_readsPerson_28 ?_
  refine k_eqi (show ((nI ra) + (nI 1)) = (nI (ra + 1)) from nI_add ra 1) ?_
  refine va_put (D := D) (ci := 11) (v := .int (nI (ra + 1))) (ty := .int) (C := RX11) (T := TX11) (N := 28) hx hb hts in_X11 tyX11 tyX11_ok nmX11 hown hK hP hD hS 0 rfl rfl 6 (by decide) lk1 (fun _ h9 => h9) rfl (by decide +kernel) rfl rfl (Nat.le_of_ble_eq_true rfl) dX11_readsPerson_29 (fun H locs hP hD hS => ?_)
  have hP : va_P D vwCl [(hM, .inr (11, [.int (nI mf), .int (nI mn), .ref m1, .ref m2, .ref m3, .int (nI mb), .int (nI (ra + 1)), .int (nI rn), .ref m4, .ref m5, .ref m6, .int (nI mw), .ref m7, .ref m8, .int (nI mh), .ref m9, .ref m10, .int (nI mm), .ref m11, .int (nI mr), .ref m12, .ref m13, .ref m14, .ref m15, .ref m16, .ref m17, .ref m18, .int mt])), (m17, .inl (cI, 240, .inl sc)), (m4, .inl (cI, 7, .inl (nA qk))), (m5, .inl (cI, 7, .inl (nA ql))), (m6, .inl (cI, 7, .inl (nA qe)))] H := hP
  have hD : va_D A [(hM, .inr (11, [.int (nI mf), .int (nI mn), .ref m1, .ref m2, .ref m3, .int (nI mb), .int (nI (ra + 1)), .int (nI rn), .ref m4, .ref m5, .ref m6, .int (nI mw), .ref m7, .ref m8, .int (nI mh), .ref m9, .ref m10, .int (nI mm), .ref m11, .int (nI mr), .ref m12, .ref m13, .ref m14, .ref m15, .ref m16, .ref m17, .ref m18, .int mt])), (m17, .inl (cI, 240, .inl sc)), (m4, .inl (cI, 7, .inl (nA qk))), (m5, .inl (cI, 7, .inl (nA ql))), (m6, .inl (cI, 7, .inl (nA qe)))] := hD
  refine lv_aload_n hx hb dX11_readsPerson_32 rfl (lv_at hl 0 rfl) ?_
  refine lv_iload_n hx hb dX11_readsPerson_33 rfl (lv_at hl 1 rfl) ?_
  refine lv_iload_n hx hb dX11_readsPerson_34 rfl (lv_at hl 2 rfl) ?_
  refine k_goi (S := Unit) (va_runV (As := [.int (nI fr), .int (nI nn)]) (rest := []) ⟨hx, hb, hml, hown, hts⟩ (c_X11_codeAt_in l D cI cZ cS cP hM m1 m2 m3 m4 m5 m6 m7 m8 m9 m10 m11 m12 m13 m14 m15 m16 m17 m18 mf mn mb (ra + 1) rn mw mh mm mr mt sc fr nn (by first | assumption | omega) (by first | assumption | omega) _) (cwV 2 hts gX11_readsPerson_X11_codeAt rfl rfl rfl (by decide +kernel) ⟨Nat.le_of_ble_eq_true rfl, Nat.le_of_ble_eq_true rfl⟩) (kPreV hN hK hP hD [0, 1] rfl rfl (q0 := 0) (ci := 11) (q := (RX11, TX11, 28)) rfl rfl) rfl rfl hl.1 rfl (lv_room (Nat.le_of_ble_eq_true rfl)) dX11_readsPerson_35 ⟨Nat.le_of_ble_eq_true rfl, Nat.le_of_ble_eq_true rfl⟩) hP hD hS hA [0, 1] rfl [hM, m17] rfl (fun _ => rfl) 5 [2, 3, 4] rfl (fun _u => [(hM, .inr (11, [.int (nI mf), .int (nI mn), .ref m1, .ref m2, .ref m3, .int (nI mb), .int (nI (ra + 1)), .int (nI rn), .ref m4, .ref m5, .ref m6, .int (nI mw), .ref m7, .ref m8, .int (nI mh), .ref m9, .ref m10, .int (nI mm), .ref m11, .int (nI mr), .ref m12, .ref m13, .ref m14, .ref m15, .ref m16, .ref m17, .ref m18, .int mt])), (m17, .inl (cI, 240, .inl sc)), (m4, .inl (cI, 7, .inl (nA qk))), (m5, .inl (cI, 7, .inl (nA ql))), (m6, .inl (cI, 7, .inl (nA qe)))]) (fun _ => rfl) [(m4, .inl (cI, 7, .inl (nA qk))), (m5, .inl (cI, 7, .inl (nA ql))), (m6, .inl (cI, 7, .inl (nA qe)))] [] (fun _ => rfl) rfl (fun _ => rfl) rfl (fun r_4 _u H locs hr_5 hP hD hS => ?_)
  have hP : va_P D vwCl [(hM, .inr (11, [.int (nI mf), .int (nI mn), .ref m1, .ref m2, .ref m3, .int (nI mb), .int (nI (ra + 1)), .int (nI rn), .ref m4, .ref m5, .ref m6, .int (nI mw), .ref m7, .ref m8, .int (nI mh), .ref m9, .ref m10, .int (nI mm), .ref m11, .int (nI mr), .ref m12, .ref m13, .ref m14, .ref m15, .ref m16, .ref m17, .ref m18, .int mt])), (m17, .inl (cI, 240, .inl sc)), (m4, .inl (cI, 7, .inl (nA qk))), (m5, .inl (cI, 7, .inl (nA ql))), (m6, .inl (cI, 7, .inl (nA qe)))] H := hP
  have hD : va_D A [(hM, .inr (11, [.int (nI mf), .int (nI mn), .ref m1, .ref m2, .ref m3, .int (nI mb), .int (nI (ra + 1)), .int (nI rn), .ref m4, .ref m5, .ref m6, .int (nI mw), .ref m7, .ref m8, .int (nI mh), .ref m9, .ref m10, .int (nI mm), .ref m11, .int (nI mr), .ref m12, .ref m13, .ref m14, .ref m15, .ref m16, .ref m17, .ref m18, .int mt])), (m17, .inl (cI, 240, .inl sc)), (m4, .inl (cI, 7, .inl (nA qk))), (m5, .inl (cI, 7, .inl (nA ql))), (m6, .inl (cI, 7, .inl (nA qe)))] := hD
  subst hr_5
  rcases h1 with h1 | h1 | h1
  · skip
    have hkd : kdc (sc (fr + (ra + 1))) = 0 := by rw [h1]; decide
    refine k_eqi (show (sc (fr + (ra + 1))) = (nI 115) from h1) ?_
    refine lv_istore_n (lv' := [(3, .int (nI 115)), (0, .ref hM), (1, .int (nI fr)), (2, .int (nI nn))]) hx hb dX11_readsPerson_38 rfl hl (by decide) rfl (fun ls hl => ?_)
    refine lv_iload_n hx hb dX11_readsPerson_39 rfl (lv_at hl 0 rfl) ?_
    refine lv_bipush (v := (nI 115)) hx hb dX11_readsPerson_40 (by decide) ?_
    refine k_icmp_eq (tgt := 59) hx hb dX11_readsPerson_42 (by decide) (show 115 < 2 ^ 31 by first | omega | (split <;> omega)) (show 115 < 2 ^ 31 by first | omega | (split <;> omega)) (fun _ => ?_) (fun q9 => absurd q9 (by decide))
    refine lv_aload_n hx hb dX11_readsPerson_59 rfl (lv_at hl 1 rfl) ?_
    refine lv_dup hx hb dX11_readsPerson_60 rfl ?_
    refine va_get (D := D) (ci := 11) (v := .int (nI (ra + 1))) (C := RX11) (T := TX11) (N := 28) hx hb hts in_X11 hown hK hP 0 rfl rfl 6 (by decide) lk1 (fun _ h9 => h9) rfl dX11_readsPerson_61 ?_
    refine lv_iconst (v := (nI 1)) hx hb dX11_readsPerson_64 (by decide) ?_
    refine lv_iadd hx hb dX11_readsPerson_65 ?_
    refine k_eqi (show ((nI (ra + 1)) + (nI 1)) = (nI ((ra + 1) + 1)) from nI_add (ra + 1) 1) ?_
    refine va_put (D := D) (ci := 11) (v := .int (nI ((ra + 1) + 1))) (ty := .int) (C := RX11) (T := TX11) (N := 28) hx hb hts in_X11 tyX11 tyX11_ok nmX11 hown hK hP hD hS 0 rfl rfl 6 (by decide) lk1 (fun _ h9 => h9) rfl (by decide +kernel) rfl rfl (Nat.le_of_ble_eq_true rfl) dX11_readsPerson_66 (fun H locs hP hD hS => ?_)
    have hP : va_P D vwCl [(hM, .inr (11, [.int (nI mf), .int (nI mn), .ref m1, .ref m2, .ref m3, .int (nI mb), .int (nI ((ra + 1) + 1)), .int (nI rn), .ref m4, .ref m5, .ref m6, .int (nI mw), .ref m7, .ref m8, .int (nI mh), .ref m9, .ref m10, .int (nI mm), .ref m11, .int (nI mr), .ref m12, .ref m13, .ref m14, .ref m15, .ref m16, .ref m17, .ref m18, .int mt])), (m17, .inl (cI, 240, .inl sc)), (m4, .inl (cI, 7, .inl (nA qk))), (m5, .inl (cI, 7, .inl (nA ql))), (m6, .inl (cI, 7, .inl (nA qe)))] H := hP
    have hD : va_D A [(hM, .inr (11, [.int (nI mf), .int (nI mn), .ref m1, .ref m2, .ref m3, .int (nI mb), .int (nI ((ra + 1) + 1)), .int (nI rn), .ref m4, .ref m5, .ref m6, .int (nI mw), .ref m7, .ref m8, .int (nI mh), .ref m9, .ref m10, .int (nI mm), .ref m11, .int (nI mr), .ref m12, .ref m13, .ref m14, .ref m15, .ref m16, .ref m17, .ref m18, .int mt])), (m17, .inl (cI, 240, .inl sc)), (m4, .inl (cI, 7, .inl (nA qk))), (m5, .inl (cI, 7, .inl (nA ql))), (m6, .inl (cI, 7, .inl (nA qe)))] := hD
    refine lv_aload_n hx hb dX11_readsPerson_69 rfl (lv_at hl 1 rfl) ?_
    refine lv_iload_n hx hb dX11_readsPerson_70 rfl (lv_at hl 2 rfl) ?_
    refine lv_iload_n hx hb dX11_readsPerson_71 rfl (lv_at hl 3 rfl) ?_
    refine lv_iconst (v := (nI 5)) hx hb dX11_readsPerson_72 (by decide) ?_
    refine k_goi (S := Unit) (va_runV (As := [.int (nI fr), .int (nI nn), .int (nI 5)]) (rest := []) ⟨hx, hb, hml, hown, hts⟩ (c_X11_figure_in l D cI cZ cS cP hM m1 m2 m3 m4 m5 m6 m7 m8 m9 m10 m11 m12 m13 m14 m15 m16 m17 m18 mf mn mb ((ra + 1) + 1) rn mw mh mm mr mt sc fr nn 5 v (by first | assumption | omega) (by first | assumption | omega) (by first | assumption | omega) (by first | assumption | omega) (by first | assumption | omega) _) (cwV 3 hts gX11_readsPerson_X11_figure rfl rfl rfl (by decide +kernel) ⟨Nat.le_of_ble_eq_true rfl, Nat.le_of_ble_eq_true rfl⟩) (kPreV hN hK hP hD [0, 1] rfl rfl (q0 := 0) (ci := 11) (q := (RX11, TX11, 28)) rfl rfl) rfl rfl hl.1 rfl (lv_room (Nat.le_of_ble_eq_true rfl)) dX11_readsPerson_73 ⟨Nat.le_of_ble_eq_true rfl, Nat.le_of_ble_eq_true rfl⟩) hP hD hS hA [0, 1] rfl [hM, m17] rfl (fun _ => rfl) 5 [2, 3, 4] rfl (fun _u => [(hM, .inr (11, [.int (nI mf), .int (nI mn), .ref m1, .ref m2, .ref m3, .int (nI mb), .int (nI (((ra + 1) + 1) + 1)), .int (nI rn), .ref m4, .ref m5, .ref m6, .int (nI mw), .ref m7, .ref m8, .int (nI mh), .ref m9, .ref m10, .int (nI mm), .ref m11, .int (nI mr), .ref m12, .ref m13, .ref m14, .ref m15, .ref m16, .ref m17, .ref m18, .int mt])), (m17, .inl (cI, 240, .inl sc)), (m4, .inl (cI, 7, .inl (nA qk))), (m5, .inl (cI, 7, .inl (nA ql))), (m6, .inl (cI, 7, .inl (nA qe)))]) (fun _ => rfl) [(m4, .inl (cI, 7, .inl (nA qk))), (m5, .inl (cI, 7, .inl (nA ql))), (m6, .inl (cI, 7, .inl (nA qe)))] [] (fun _ => rfl) rfl (fun _ => rfl) rfl (fun r_6 _u H locs hr_7 hP hD hS => ?_)
    have hP : va_P D vwCl [(hM, .inr (11, [.int (nI mf), .int (nI mn), .ref m1, .ref m2, .ref m3, .int (nI mb), .int (nI (((ra + 1) + 1) + 1)), .int (nI rn), .ref m4, .ref m5, .ref m6, .int (nI mw), .ref m7, .ref m8, .int (nI mh), .ref m9, .ref m10, .int (nI mm), .ref m11, .int (nI mr), .ref m12, .ref m13, .ref m14, .ref m15, .ref m16, .ref m17, .ref m18, .int mt])), (m17, .inl (cI, 240, .inl sc)), (m4, .inl (cI, 7, .inl (nA qk))), (m5, .inl (cI, 7, .inl (nA ql))), (m6, .inl (cI, 7, .inl (nA qe)))] H := hP
    have hD : va_D A [(hM, .inr (11, [.int (nI mf), .int (nI mn), .ref m1, .ref m2, .ref m3, .int (nI mb), .int (nI (((ra + 1) + 1) + 1)), .int (nI rn), .ref m4, .ref m5, .ref m6, .int (nI mw), .ref m7, .ref m8, .int (nI mh), .ref m9, .ref m10, .int (nI mm), .ref m11, .int (nI mr), .ref m12, .ref m13, .ref m14, .ref m15, .ref m16, .ref m17, .ref m18, .int mt])), (m17, .inl (cI, 240, .inl sc)), (m4, .inl (cI, 7, .inl (nA qk))), (m5, .inl (cI, 7, .inl (nA ql))), (m6, .inl (cI, 7, .inl (nA qe)))] := hD
    subst hr_7
    refine lv_istore (lv' := [(4, .int (nI v)), (3, .int (nI 115)), (0, .ref hM), (1, .int (nI fr)), (2, .int (nI nn))]) hx hb dX11_readsPerson_76 hl (by decide) rfl (fun ls hl => ?_)
    refine lv_iload hx hb dX11_readsPerson_78 (lv_at hl 0 rfl) ?_
    refine k_if_ge (tgt := 88) hx hb dX11_readsPerson_80 (by decide) (show v < 2 ^ 31 by first | omega | (split <;> omega)) ?_
    refine lv_aload_n hx hb dX11_readsPerson_88 rfl (lv_at hl 2 rfl) ?_
    refine lv_iload_n hx hb dX11_readsPerson_89 rfl (lv_at hl 3 rfl) ?_
    refine lv_iload_n hx hb dX11_readsPerson_90 rfl (lv_at hl 4 rfl) ?_
    refine lv_bipush (v := (nI 6)) hx hb dX11_readsPerson_91 (by decide) ?_
    refine k_goi (S := Unit) (va_runV (As := [.int (nI fr), .int (nI nn), .int (nI 6)]) (rest := []) ⟨hx, hb, hml, hown, hts⟩ (c_X11_figure_in l D cI cZ cS cP hM m1 m2 m3 m4 m5 m6 m7 m8 m9 m10 m11 m12 m13 m14 m15 m16 m17 m18 mf mn mb (((ra + 1) + 1) + 1) rn mw mh mm mr mt sc fr nn 6 w (by first | assumption | omega) (by first | assumption | omega) (by first | assumption | omega) (by first | assumption | omega) (by first | assumption | omega) _) (cwV 3 hts gX11_readsPerson_X11_figure rfl rfl rfl (by decide +kernel) ⟨Nat.le_of_ble_eq_true rfl, Nat.le_of_ble_eq_true rfl⟩) (kPreV hN hK hP hD [0, 1] rfl rfl (q0 := 0) (ci := 11) (q := (RX11, TX11, 28)) rfl rfl) rfl rfl hl.1 rfl (lv_room (Nat.le_of_ble_eq_true rfl)) dX11_readsPerson_93 ⟨Nat.le_of_ble_eq_true rfl, Nat.le_of_ble_eq_true rfl⟩) hP hD hS hA [0, 1] rfl [hM, m17] rfl (fun _ => rfl) 5 [2, 3, 4] rfl (fun _u => [(hM, .inr (11, [.int (nI mf), .int (nI mn), .ref m1, .ref m2, .ref m3, .int (nI mb), .int (nI ((((ra + 1) + 1) + 1) + 1)), .int (nI rn), .ref m4, .ref m5, .ref m6, .int (nI mw), .ref m7, .ref m8, .int (nI mh), .ref m9, .ref m10, .int (nI mm), .ref m11, .int (nI mr), .ref m12, .ref m13, .ref m14, .ref m15, .ref m16, .ref m17, .ref m18, .int mt])), (m17, .inl (cI, 240, .inl sc)), (m4, .inl (cI, 7, .inl (nA qk))), (m5, .inl (cI, 7, .inl (nA ql))), (m6, .inl (cI, 7, .inl (nA qe)))]) (fun _ => rfl) [(m4, .inl (cI, 7, .inl (nA qk))), (m5, .inl (cI, 7, .inl (nA ql))), (m6, .inl (cI, 7, .inl (nA qe)))] [] (fun _ => rfl) rfl (fun _ => rfl) rfl (fun r_8 _u H locs hr_9 hP hD hS => ?_)
    have hP : va_P D vwCl [(hM, .inr (11, [.int (nI mf), .int (nI mn), .ref m1, .ref m2, .ref m3, .int (nI mb), .int (nI ((((ra + 1) + 1) + 1) + 1)), .int (nI rn), .ref m4, .ref m5, .ref m6, .int (nI mw), .ref m7, .ref m8, .int (nI mh), .ref m9, .ref m10, .int (nI mm), .ref m11, .int (nI mr), .ref m12, .ref m13, .ref m14, .ref m15, .ref m16, .ref m17, .ref m18, .int mt])), (m17, .inl (cI, 240, .inl sc)), (m4, .inl (cI, 7, .inl (nA qk))), (m5, .inl (cI, 7, .inl (nA ql))), (m6, .inl (cI, 7, .inl (nA qe)))] H := hP
    have hD : va_D A [(hM, .inr (11, [.int (nI mf), .int (nI mn), .ref m1, .ref m2, .ref m3, .int (nI mb), .int (nI ((((ra + 1) + 1) + 1) + 1)), .int (nI rn), .ref m4, .ref m5, .ref m6, .int (nI mw), .ref m7, .ref m8, .int (nI mh), .ref m9, .ref m10, .int (nI mm), .ref m11, .int (nI mr), .ref m12, .ref m13, .ref m14, .ref m15, .ref m16, .ref m17, .ref m18, .int mt])), (m17, .inl (cI, 240, .inl sc)), (m4, .inl (cI, 7, .inl (nA qk))), (m5, .inl (cI, 7, .inl (nA ql))), (m6, .inl (cI, 7, .inl (nA qe)))] := hD
    subst hr_9
    refine lv_istore (lv' := [(5, .int (nI w)), (4, .int (nI v)), (3, .int (nI 115)), (0, .ref hM), (1, .int (nI fr)), (2, .int (nI nn))]) hx hb dX11_readsPerson_96 hl (by decide) rfl (fun ls hl => ?_)
    refine lv_iload hx hb dX11_readsPerson_98 (lv_at hl 0 rfl) ?_
    refine k_if_ge (tgt := 105) hx hb dX11_readsPerson_100 (by decide) (show w < 2 ^ 31 by first | omega | (split <;> omega)) ?_
    refine lv_aload_n hx hb dX11_readsPerson_105 rfl (lv_at hl 3 rfl) ?_
    refine va_get (D := D) (ci := 11) (v := .ref m4) (C := RX11) (T := TX11) (N := 28) hx hb hts in_X11 hown hK hP 0 rfl rfl 8 (by decide) lk2 (fun _ h9 => h9) rfl dX11_readsPerson_106 ?_
    refine lv_aload_n hx hb dX11_readsPerson_109 rfl (lv_at hl 3 rfl) ?_
    refine va_get (D := D) (ci := 11) (v := .int (nI rn)) (C := RX11) (T := TX11) (N := 28) hx hb hts in_X11 hown hK hP 0 rfl rfl 7 (by decide) lk0 (fun _ h9 => h9) rfl dX11_readsPerson_110 ?_
    refine lv_iload_n hx hb dX11_readsPerson_113 rfl (lv_at hl 2 rfl) ?_
    refine lv_bipush (v := (nI 115)) hx hb dX11_readsPerson_114 (by decide) ?_
    refine k_icmp_ne (tgt := 123) hx hb dX11_readsPerson_116 (by decide) (show 115 < 2 ^ 31 by first | omega | (split <;> omega)) (show 115 < 2 ^ 31 by first | omega | (split <;> omega)) (fun q9 => absurd q9 (by decide)) (fun _ => ?_)
    refine lv_iconst (v := (nI 0)) hx hb dX11_readsPerson_119 (by decide) ?_
    refine lv_goto (tgt := 134) hx hb dX11_readsPerson_120 (by decide) ?_
    refine k_iastN (y := 0) hx hb hK hP hD hS 2 0 rfl rfl (show rn < 7 by omega) (by decide) dX11_readsPerson_134 (fun H locs hP hD hS => ?_)
    have hb_10 : ∀ i, (va_up qk rn 0) i < 3 := up_lt hqk (show 0 < 3 by first | omega | (split <;> omega))
    have hP : va_P D vwCl [(hM, .inr (11, [.int (nI mf), .int (nI mn), .ref m1, .ref m2, .ref m3, .int (nI mb), .int (nI ((((ra + 1) + 1) + 1) + 1)), .int (nI rn), .ref m4, .ref m5, .ref m6, .int (nI mw), .ref m7, .ref m8, .int (nI mh), .ref m9, .ref m10, .int (nI mm), .ref m11, .int (nI mr), .ref m12, .ref m13, .ref m14, .ref m15, .ref m16, .ref m17, .ref m18, .int mt])), (m17, .inl (cI, 240, .inl sc)), (m4, .inl (cI, 7, .inl (nA (va_up qk rn 0)))), (m5, .inl (cI, 7, .inl (nA ql))), (m6, .inl (cI, 7, .inl (nA qe)))] H := hP
    have hD : va_D A [(hM, .inr (11, [.int (nI mf), .int (nI mn), .ref m1, .ref m2, .ref m3, .int (nI mb), .int (nI ((((ra + 1) + 1) + 1) + 1)), .int (nI rn), .ref m4, .ref m5, .ref m6, .int (nI mw), .ref m7, .ref m8, .int (nI mh), .ref m9, .ref m10, .int (nI mm), .ref m11, .int (nI mr), .ref m12, .ref m13, .ref m14, .ref m15, .ref m16, .ref m17, .ref m18, .int mt])), (m17, .inl (cI, 240, .inl sc)), (m4, .inl (cI, 7, .inl (nA (va_up qk rn 0)))), (m5, .inl (cI, 7, .inl (nA ql))), (m6, .inl (cI, 7, .inl (nA qe)))] := hD
    refine lv_aload_n hx hb dX11_readsPerson_135 rfl (lv_at hl 3 rfl) ?_
    refine va_get (D := D) (ci := 11) (v := .ref m5) (C := RX11) (T := TX11) (N := 28) hx hb hts in_X11 hown hK hP 0 rfl rfl 9 (by decide) lk3 (fun _ h9 => h9) rfl dX11_readsPerson_136 ?_
    refine lv_aload_n hx hb dX11_readsPerson_139 rfl (lv_at hl 3 rfl) ?_
    refine va_get (D := D) (ci := 11) (v := .int (nI rn)) (C := RX11) (T := TX11) (N := 28) hx hb hts in_X11 hown hK hP 0 rfl rfl 7 (by decide) lk0 (fun _ h9 => h9) rfl dX11_readsPerson_140 ?_
    refine lv_iload hx hb dX11_readsPerson_143 (lv_at hl 1 rfl) ?_
    refine k_iastN (y := v) hx hb hK hP hD hS 3 0 rfl rfl (show rn < 7 by omega) (by decide) dX11_readsPerson_145 (fun H locs hP hD hS => ?_)
    have hb_11 : ∀ i, (va_up ql rn v) i < 6 := up_lt hql (show v < 6 by first | omega | (split <;> omega))
    have hP : va_P D vwCl [(hM, .inr (11, [.int (nI mf), .int (nI mn), .ref m1, .ref m2, .ref m3, .int (nI mb), .int (nI ((((ra + 1) + 1) + 1) + 1)), .int (nI rn), .ref m4, .ref m5, .ref m6, .int (nI mw), .ref m7, .ref m8, .int (nI mh), .ref m9, .ref m10, .int (nI mm), .ref m11, .int (nI mr), .ref m12, .ref m13, .ref m14, .ref m15, .ref m16, .ref m17, .ref m18, .int mt])), (m17, .inl (cI, 240, .inl sc)), (m4, .inl (cI, 7, .inl (nA (va_up qk rn 0)))), (m5, .inl (cI, 7, .inl (nA (va_up ql rn v)))), (m6, .inl (cI, 7, .inl (nA qe)))] H := hP
    have hD : va_D A [(hM, .inr (11, [.int (nI mf), .int (nI mn), .ref m1, .ref m2, .ref m3, .int (nI mb), .int (nI ((((ra + 1) + 1) + 1) + 1)), .int (nI rn), .ref m4, .ref m5, .ref m6, .int (nI mw), .ref m7, .ref m8, .int (nI mh), .ref m9, .ref m10, .int (nI mm), .ref m11, .int (nI mr), .ref m12, .ref m13, .ref m14, .ref m15, .ref m16, .ref m17, .ref m18, .int mt])), (m17, .inl (cI, 240, .inl sc)), (m4, .inl (cI, 7, .inl (nA (va_up qk rn 0)))), (m5, .inl (cI, 7, .inl (nA (va_up ql rn v)))), (m6, .inl (cI, 7, .inl (nA qe)))] := hD
    refine lv_aload_n hx hb dX11_readsPerson_146 rfl (lv_at hl 3 rfl) ?_
    refine va_get (D := D) (ci := 11) (v := .ref m6) (C := RX11) (T := TX11) (N := 28) hx hb hts in_X11 hown hK hP 0 rfl rfl 10 (by decide) lk4 (fun _ h9 => h9) rfl dX11_readsPerson_147 ?_
    refine lv_aload_n hx hb dX11_readsPerson_150 rfl (lv_at hl 3 rfl) ?_
    refine va_get (D := D) (ci := 11) (v := .int (nI rn)) (C := RX11) (T := TX11) (N := 28) hx hb hts in_X11 hown hK hP 0 rfl rfl 7 (by decide) lk0 (fun _ h9 => h9) rfl dX11_readsPerson_151 ?_
    refine lv_iload hx hb dX11_readsPerson_154 (lv_at hl 0 rfl) ?_
    refine k_iastN (y := w) hx hb hK hP hD hS 4 0 rfl rfl (show rn < 7 by omega) (by decide) dX11_readsPerson_156 (fun H locs hP hD hS => ?_)
    have hb_12 : ∀ i, (va_up qe rn w) i < 7 := up_lt hqe (show w < 7 by first | omega | (split <;> omega))
    have hP : va_P D vwCl [(hM, .inr (11, [.int (nI mf), .int (nI mn), .ref m1, .ref m2, .ref m3, .int (nI mb), .int (nI ((((ra + 1) + 1) + 1) + 1)), .int (nI rn), .ref m4, .ref m5, .ref m6, .int (nI mw), .ref m7, .ref m8, .int (nI mh), .ref m9, .ref m10, .int (nI mm), .ref m11, .int (nI mr), .ref m12, .ref m13, .ref m14, .ref m15, .ref m16, .ref m17, .ref m18, .int mt])), (m17, .inl (cI, 240, .inl sc)), (m4, .inl (cI, 7, .inl (nA (va_up qk rn 0)))), (m5, .inl (cI, 7, .inl (nA (va_up ql rn v)))), (m6, .inl (cI, 7, .inl (nA (va_up qe rn w))))] H := hP
    have hD : va_D A [(hM, .inr (11, [.int (nI mf), .int (nI mn), .ref m1, .ref m2, .ref m3, .int (nI mb), .int (nI ((((ra + 1) + 1) + 1) + 1)), .int (nI rn), .ref m4, .ref m5, .ref m6, .int (nI mw), .ref m7, .ref m8, .int (nI mh), .ref m9, .ref m10, .int (nI mm), .ref m11, .int (nI mr), .ref m12, .ref m13, .ref m14, .ref m15, .ref m16, .ref m17, .ref m18, .int mt])), (m17, .inl (cI, 240, .inl sc)), (m4, .inl (cI, 7, .inl (nA (va_up qk rn 0)))), (m5, .inl (cI, 7, .inl (nA (va_up ql rn v)))), (m6, .inl (cI, 7, .inl (nA (va_up qe rn w))))] := hD
    refine lv_aload_n hx hb dX11_readsPerson_157 rfl (lv_at hl 3 rfl) ?_
    refine lv_dup hx hb dX11_readsPerson_158 rfl ?_
    refine va_get (D := D) (ci := 11) (v := .int (nI rn)) (C := RX11) (T := TX11) (N := 28) hx hb hts in_X11 hown hK hP 0 rfl rfl 7 (by decide) lk0 (fun _ h9 => h9) rfl dX11_readsPerson_159 ?_
    refine lv_iconst (v := (nI 1)) hx hb dX11_readsPerson_162 (by decide) ?_
    refine lv_iadd hx hb dX11_readsPerson_163 ?_
    refine k_eqi (show ((nI rn) + (nI 1)) = (nI (rn + 1)) from nI_add rn 1) ?_
    refine va_put (D := D) (ci := 11) (v := .int (nI (rn + 1))) (ty := .int) (C := RX11) (T := TX11) (N := 28) hx hb hts in_X11 tyX11 tyX11_ok nmX11 hown hK hP hD hS 0 rfl rfl 7 (by decide) lk0 (fun _ h9 => h9) rfl (by decide +kernel) rfl rfl (Nat.le_of_ble_eq_true rfl) dX11_readsPerson_164 (fun H locs hP hD hS => ?_)
    have hP : va_P D vwCl [(hM, .inr (11, [.int (nI mf), .int (nI mn), .ref m1, .ref m2, .ref m3, .int (nI mb), .int (nI ((((ra + 1) + 1) + 1) + 1)), .int (nI (rn + 1)), .ref m4, .ref m5, .ref m6, .int (nI mw), .ref m7, .ref m8, .int (nI mh), .ref m9, .ref m10, .int (nI mm), .ref m11, .int (nI mr), .ref m12, .ref m13, .ref m14, .ref m15, .ref m16, .ref m17, .ref m18, .int mt])), (m17, .inl (cI, 240, .inl sc)), (m4, .inl (cI, 7, .inl (nA (va_up qk rn 0)))), (m5, .inl (cI, 7, .inl (nA (va_up ql rn v)))), (m6, .inl (cI, 7, .inl (nA (va_up qe rn w))))] H := hP
    have hD : va_D A [(hM, .inr (11, [.int (nI mf), .int (nI mn), .ref m1, .ref m2, .ref m3, .int (nI mb), .int (nI ((((ra + 1) + 1) + 1) + 1)), .int (nI (rn + 1)), .ref m4, .ref m5, .ref m6, .int (nI mw), .ref m7, .ref m8, .int (nI mh), .ref m9, .ref m10, .int (nI mm), .ref m11, .int (nI mr), .ref m12, .ref m13, .ref m14, .ref m15, .ref m16, .ref m17, .ref m18, .int mt])), (m17, .inl (cI, 240, .inl sc)), (m4, .inl (cI, 7, .inl (nA (va_up qk rn 0)))), (m5, .inl (cI, 7, .inl (nA (va_up ql rn v)))), (m6, .inl (cI, 7, .inl (nA (va_up qe rn w))))] := hD
    refine lv_iconst (v := (nI 1)) hx hb dX11_readsPerson_167 (by decide) ?_
    have e_13 : (nI ((((ra + 1) + 1) + 1) + 1)) = (nI (ra + 4)) := congrArg nI (show (((ra + 1) + 1) + 1) + 1 = ra + 4 by omega)
    have e_14 : nA (va_up qk rn 0) = nA (va_up qk rn (kdc (sc (fr + (ra + 1))))) := congrArg nA (show (va_up qk rn 0) = (va_up qk rn (kdc (sc (fr + (ra + 1))))) by rw [hkd])
    have q_15 : ([(hM, .inr (11, [.int (nI mf), .int (nI mn), .ref m1, .ref m2, .ref m3, .int (nI mb), .int (nI ((((ra + 1) + 1) + 1) + 1)), .int (nI (rn + 1)), .ref m4, .ref m5, .ref m6, .int (nI mw), .ref m7, .ref m8, .int (nI mh), .ref m9, .ref m10, .int (nI mm), .ref m11, .int (nI mr), .ref m12, .ref m13, .ref m14, .ref m15, .ref m16, .ref m17, .ref m18, .int mt])), (m17, .inl (cI, 240, .inl sc)), (m4, .inl (cI, 7, .inl (nA (va_up qk rn 0)))), (m5, .inl (cI, 7, .inl (nA (va_up ql rn v)))), (m6, .inl (cI, 7, .inl (nA (va_up qe rn w))))] : va_W) = [(hM, .inr (11, [.int (nI mf), .int (nI mn), .ref m1, .ref m2, .ref m3, .int (nI mb), .int (nI (ra + 4)), .int (nI (rn + 1)), .ref m4, .ref m5, .ref m6, .int (nI mw), .ref m7, .ref m8, .int (nI mh), .ref m9, .ref m10, .int (nI mm), .ref m11, .int (nI mr), .ref m12, .ref m13, .ref m14, .ref m15, .ref m16, .ref m17, .ref m18, .int mt])), (m17, .inl (cI, 240, .inl sc)), (m4, .inl (cI, 7, .inl (nA (va_up qk rn (kdc (sc (fr + (ra + 1)))))))), (m5, .inl (cI, 7, .inl (nA (va_up ql rn v)))), (m6, .inl (cI, 7, .inl (nA (va_up qe rn w))))] := by rw [← e_13, ← e_14]
    exact ret _ () _ _ _ _ dX11_readsPerson_168 (rfl) (kP_cast hP q_15) (kD_cast hD q_15) hS
  · skip
    have hkd : kdc (sc (fr + (ra + 1))) = 1 := by rw [h1]; decide
    refine k_eqi (show (sc (fr + (ra + 1))) = (nI 99) from h1) ?_
    refine lv_istore_n (lv' := [(3, .int (nI 99)), (0, .ref hM), (1, .int (nI fr)), (2, .int (nI nn))]) hx hb dX11_readsPerson_38 rfl hl (by decide) rfl (fun ls hl => ?_)
    refine lv_iload_n hx hb dX11_readsPerson_39 rfl (lv_at hl 0 rfl) ?_
    refine lv_bipush (v := (nI 115)) hx hb dX11_readsPerson_40 (by decide) ?_
    refine k_icmp_eq (tgt := 59) hx hb dX11_readsPerson_42 (by decide) (show 99 < 2 ^ 31 by first | omega | (split <;> omega)) (show 115 < 2 ^ 31 by first | omega | (split <;> omega)) (fun q9 => absurd q9 (by decide)) (fun _ => ?_)
    refine lv_iload_n hx hb dX11_readsPerson_45 rfl (lv_at hl 0 rfl) ?_
    refine lv_bipush (v := (nI 99)) hx hb dX11_readsPerson_46 (by decide) ?_
    refine k_icmp_eq (tgt := 59) hx hb dX11_readsPerson_48 (by decide) (show 99 < 2 ^ 31 by first | omega | (split <;> omega)) (show 99 < 2 ^ 31 by first | omega | (split <;> omega)) (fun _ => ?_) (fun q9 => absurd q9 (by decide))
    refine lv_aload_n hx hb dX11_readsPerson_59 rfl (lv_at hl 1 rfl) ?_
    refine lv_dup hx hb dX11_readsPerson_60 rfl ?_
    refine va_get (D := D) (ci := 11) (v := .int (nI (ra + 1))) (C := RX11) (T := TX11) (N := 28) hx hb hts in_X11 hown hK hP 0 rfl rfl 6 (by decide) lk1 (fun _ h9 => h9) rfl dX11_readsPerson_61 ?_
    refine lv_iconst (v := (nI 1)) hx hb dX11_readsPerson_64 (by decide) ?_
    refine lv_iadd hx hb dX11_readsPerson_65 ?_
    refine k_eqi (show ((nI (ra + 1)) + (nI 1)) = (nI ((ra + 1) + 1)) from nI_add (ra + 1) 1) ?_
    refine va_put (D := D) (ci := 11) (v := .int (nI ((ra + 1) + 1))) (ty := .int) (C := RX11) (T := TX11) (N := 28) hx hb hts in_X11 tyX11 tyX11_ok nmX11 hown hK hP hD hS 0 rfl rfl 6 (by decide) lk1 (fun _ h9 => h9) rfl (by decide +kernel) rfl rfl (Nat.le_of_ble_eq_true rfl) dX11_readsPerson_66 (fun H locs hP hD hS => ?_)
    have hP : va_P D vwCl [(hM, .inr (11, [.int (nI mf), .int (nI mn), .ref m1, .ref m2, .ref m3, .int (nI mb), .int (nI ((ra + 1) + 1)), .int (nI rn), .ref m4, .ref m5, .ref m6, .int (nI mw), .ref m7, .ref m8, .int (nI mh), .ref m9, .ref m10, .int (nI mm), .ref m11, .int (nI mr), .ref m12, .ref m13, .ref m14, .ref m15, .ref m16, .ref m17, .ref m18, .int mt])), (m17, .inl (cI, 240, .inl sc)), (m4, .inl (cI, 7, .inl (nA qk))), (m5, .inl (cI, 7, .inl (nA ql))), (m6, .inl (cI, 7, .inl (nA qe)))] H := hP
    have hD : va_D A [(hM, .inr (11, [.int (nI mf), .int (nI mn), .ref m1, .ref m2, .ref m3, .int (nI mb), .int (nI ((ra + 1) + 1)), .int (nI rn), .ref m4, .ref m5, .ref m6, .int (nI mw), .ref m7, .ref m8, .int (nI mh), .ref m9, .ref m10, .int (nI mm), .ref m11, .int (nI mr), .ref m12, .ref m13, .ref m14, .ref m15, .ref m16, .ref m17, .ref m18, .int mt])), (m17, .inl (cI, 240, .inl sc)), (m4, .inl (cI, 7, .inl (nA qk))), (m5, .inl (cI, 7, .inl (nA ql))), (m6, .inl (cI, 7, .inl (nA qe)))] := hD
    refine lv_aload_n hx hb dX11_readsPerson_69 rfl (lv_at hl 1 rfl) ?_
    refine lv_iload_n hx hb dX11_readsPerson_70 rfl (lv_at hl 2 rfl) ?_
    refine lv_iload_n hx hb dX11_readsPerson_71 rfl (lv_at hl 3 rfl) ?_
    refine lv_iconst (v := (nI 5)) hx hb dX11_readsPerson_72 (by decide) ?_
    refine k_goi (S := Unit) (va_runV (As := [.int (nI fr), .int (nI nn), .int (nI 5)]) (rest := []) ⟨hx, hb, hml, hown, hts⟩ (c_X11_figure_in l D cI cZ cS cP hM m1 m2 m3 m4 m5 m6 m7 m8 m9 m10 m11 m12 m13 m14 m15 m16 m17 m18 mf mn mb ((ra + 1) + 1) rn mw mh mm mr mt sc fr nn 5 v (by first | assumption | omega) (by first | assumption | omega) (by first | assumption | omega) (by first | assumption | omega) (by first | assumption | omega) _) (cwV 3 hts gX11_readsPerson_X11_figure rfl rfl rfl (by decide +kernel) ⟨Nat.le_of_ble_eq_true rfl, Nat.le_of_ble_eq_true rfl⟩) (kPreV hN hK hP hD [0, 1] rfl rfl (q0 := 0) (ci := 11) (q := (RX11, TX11, 28)) rfl rfl) rfl rfl hl.1 rfl (lv_room (Nat.le_of_ble_eq_true rfl)) dX11_readsPerson_73 ⟨Nat.le_of_ble_eq_true rfl, Nat.le_of_ble_eq_true rfl⟩) hP hD hS hA [0, 1] rfl [hM, m17] rfl (fun _ => rfl) 5 [2, 3, 4] rfl (fun _u => [(hM, .inr (11, [.int (nI mf), .int (nI mn), .ref m1, .ref m2, .ref m3, .int (nI mb), .int (nI (((ra + 1) + 1) + 1)), .int (nI rn), .ref m4, .ref m5, .ref m6, .int (nI mw), .ref m7, .ref m8, .int (nI mh), .ref m9, .ref m10, .int (nI mm), .ref m11, .int (nI mr), .ref m12, .ref m13, .ref m14, .ref m15, .ref m16, .ref m17, .ref m18, .int mt])), (m17, .inl (cI, 240, .inl sc)), (m4, .inl (cI, 7, .inl (nA qk))), (m5, .inl (cI, 7, .inl (nA ql))), (m6, .inl (cI, 7, .inl (nA qe)))]) (fun _ => rfl) [(m4, .inl (cI, 7, .inl (nA qk))), (m5, .inl (cI, 7, .inl (nA ql))), (m6, .inl (cI, 7, .inl (nA qe)))] [] (fun _ => rfl) rfl (fun _ => rfl) rfl (fun r_16 _u H locs hr_17 hP hD hS => ?_)
    have hP : va_P D vwCl [(hM, .inr (11, [.int (nI mf), .int (nI mn), .ref m1, .ref m2, .ref m3, .int (nI mb), .int (nI (((ra + 1) + 1) + 1)), .int (nI rn), .ref m4, .ref m5, .ref m6, .int (nI mw), .ref m7, .ref m8, .int (nI mh), .ref m9, .ref m10, .int (nI mm), .ref m11, .int (nI mr), .ref m12, .ref m13, .ref m14, .ref m15, .ref m16, .ref m17, .ref m18, .int mt])), (m17, .inl (cI, 240, .inl sc)), (m4, .inl (cI, 7, .inl (nA qk))), (m5, .inl (cI, 7, .inl (nA ql))), (m6, .inl (cI, 7, .inl (nA qe)))] H := hP
    have hD : va_D A [(hM, .inr (11, [.int (nI mf), .int (nI mn), .ref m1, .ref m2, .ref m3, .int (nI mb), .int (nI (((ra + 1) + 1) + 1)), .int (nI rn), .ref m4, .ref m5, .ref m6, .int (nI mw), .ref m7, .ref m8, .int (nI mh), .ref m9, .ref m10, .int (nI mm), .ref m11, .int (nI mr), .ref m12, .ref m13, .ref m14, .ref m15, .ref m16, .ref m17, .ref m18, .int mt])), (m17, .inl (cI, 240, .inl sc)), (m4, .inl (cI, 7, .inl (nA qk))), (m5, .inl (cI, 7, .inl (nA ql))), (m6, .inl (cI, 7, .inl (nA qe)))] := hD
    subst hr_17
    refine lv_istore (lv' := [(4, .int (nI v)), (3, .int (nI 99)), (0, .ref hM), (1, .int (nI fr)), (2, .int (nI nn))]) hx hb dX11_readsPerson_76 hl (by decide) rfl (fun ls hl => ?_)
    refine lv_iload hx hb dX11_readsPerson_78 (lv_at hl 0 rfl) ?_
    refine k_if_ge (tgt := 88) hx hb dX11_readsPerson_80 (by decide) (show v < 2 ^ 31 by first | omega | (split <;> omega)) ?_
    refine lv_aload_n hx hb dX11_readsPerson_88 rfl (lv_at hl 2 rfl) ?_
    refine lv_iload_n hx hb dX11_readsPerson_89 rfl (lv_at hl 3 rfl) ?_
    refine lv_iload_n hx hb dX11_readsPerson_90 rfl (lv_at hl 4 rfl) ?_
    refine lv_bipush (v := (nI 6)) hx hb dX11_readsPerson_91 (by decide) ?_
    refine k_goi (S := Unit) (va_runV (As := [.int (nI fr), .int (nI nn), .int (nI 6)]) (rest := []) ⟨hx, hb, hml, hown, hts⟩ (c_X11_figure_in l D cI cZ cS cP hM m1 m2 m3 m4 m5 m6 m7 m8 m9 m10 m11 m12 m13 m14 m15 m16 m17 m18 mf mn mb (((ra + 1) + 1) + 1) rn mw mh mm mr mt sc fr nn 6 w (by first | assumption | omega) (by first | assumption | omega) (by first | assumption | omega) (by first | assumption | omega) (by first | assumption | omega) _) (cwV 3 hts gX11_readsPerson_X11_figure rfl rfl rfl (by decide +kernel) ⟨Nat.le_of_ble_eq_true rfl, Nat.le_of_ble_eq_true rfl⟩) (kPreV hN hK hP hD [0, 1] rfl rfl (q0 := 0) (ci := 11) (q := (RX11, TX11, 28)) rfl rfl) rfl rfl hl.1 rfl (lv_room (Nat.le_of_ble_eq_true rfl)) dX11_readsPerson_93 ⟨Nat.le_of_ble_eq_true rfl, Nat.le_of_ble_eq_true rfl⟩) hP hD hS hA [0, 1] rfl [hM, m17] rfl (fun _ => rfl) 5 [2, 3, 4] rfl (fun _u => [(hM, .inr (11, [.int (nI mf), .int (nI mn), .ref m1, .ref m2, .ref m3, .int (nI mb), .int (nI ((((ra + 1) + 1) + 1) + 1)), .int (nI rn), .ref m4, .ref m5, .ref m6, .int (nI mw), .ref m7, .ref m8, .int (nI mh), .ref m9, .ref m10, .int (nI mm), .ref m11, .int (nI mr), .ref m12, .ref m13, .ref m14, .ref m15, .ref m16, .ref m17, .ref m18, .int mt])), (m17, .inl (cI, 240, .inl sc)), (m4, .inl (cI, 7, .inl (nA qk))), (m5, .inl (cI, 7, .inl (nA ql))), (m6, .inl (cI, 7, .inl (nA qe)))]) (fun _ => rfl) [(m4, .inl (cI, 7, .inl (nA qk))), (m5, .inl (cI, 7, .inl (nA ql))), (m6, .inl (cI, 7, .inl (nA qe)))] [] (fun _ => rfl) rfl (fun _ => rfl) rfl (fun r_18 _u H locs hr_19 hP hD hS => ?_)
    have hP : va_P D vwCl [(hM, .inr (11, [.int (nI mf), .int (nI mn), .ref m1, .ref m2, .ref m3, .int (nI mb), .int (nI ((((ra + 1) + 1) + 1) + 1)), .int (nI rn), .ref m4, .ref m5, .ref m6, .int (nI mw), .ref m7, .ref m8, .int (nI mh), .ref m9, .ref m10, .int (nI mm), .ref m11, .int (nI mr), .ref m12, .ref m13, .ref m14, .ref m15, .ref m16, .ref m17, .ref m18, .int mt])), (m17, .inl (cI, 240, .inl sc)), (m4, .inl (cI, 7, .inl (nA qk))), (m5, .inl (cI, 7, .inl (nA ql))), (m6, .inl (cI, 7, .inl (nA qe)))] H := hP
    have hD : va_D A [(hM, .inr (11, [.int (nI mf), .int (nI mn), .ref m1, .ref m2, .ref m3, .int (nI mb), .int (nI ((((ra + 1) + 1) + 1) + 1)), .int (nI rn), .ref m4, .ref m5, .ref m6, .int (nI mw), .ref m7, .ref m8, .int (nI mh), .ref m9, .ref m10, .int (nI mm), .ref m11, .int (nI mr), .ref m12, .ref m13, .ref m14, .ref m15, .ref m16, .ref m17, .ref m18, .int mt])), (m17, .inl (cI, 240, .inl sc)), (m4, .inl (cI, 7, .inl (nA qk))), (m5, .inl (cI, 7, .inl (nA ql))), (m6, .inl (cI, 7, .inl (nA qe)))] := hD
    subst hr_19
    refine lv_istore (lv' := [(5, .int (nI w)), (4, .int (nI v)), (3, .int (nI 99)), (0, .ref hM), (1, .int (nI fr)), (2, .int (nI nn))]) hx hb dX11_readsPerson_96 hl (by decide) rfl (fun ls hl => ?_)
    refine lv_iload hx hb dX11_readsPerson_98 (lv_at hl 0 rfl) ?_
    refine k_if_ge (tgt := 105) hx hb dX11_readsPerson_100 (by decide) (show w < 2 ^ 31 by first | omega | (split <;> omega)) ?_
    refine lv_aload_n hx hb dX11_readsPerson_105 rfl (lv_at hl 3 rfl) ?_
    refine va_get (D := D) (ci := 11) (v := .ref m4) (C := RX11) (T := TX11) (N := 28) hx hb hts in_X11 hown hK hP 0 rfl rfl 8 (by decide) lk2 (fun _ h9 => h9) rfl dX11_readsPerson_106 ?_
    refine lv_aload_n hx hb dX11_readsPerson_109 rfl (lv_at hl 3 rfl) ?_
    refine va_get (D := D) (ci := 11) (v := .int (nI rn)) (C := RX11) (T := TX11) (N := 28) hx hb hts in_X11 hown hK hP 0 rfl rfl 7 (by decide) lk0 (fun _ h9 => h9) rfl dX11_readsPerson_110 ?_
    refine lv_iload_n hx hb dX11_readsPerson_113 rfl (lv_at hl 2 rfl) ?_
    refine lv_bipush (v := (nI 115)) hx hb dX11_readsPerson_114 (by decide) ?_
    refine k_icmp_ne (tgt := 123) hx hb dX11_readsPerson_116 (by decide) (show 99 < 2 ^ 31 by first | omega | (split <;> omega)) (show 115 < 2 ^ 31 by first | omega | (split <;> omega)) (fun _ => ?_) (fun q9 => absurd q9 (by decide))
    refine lv_iload_n hx hb dX11_readsPerson_123 rfl (lv_at hl 2 rfl) ?_
    refine lv_bipush (v := (nI 99)) hx hb dX11_readsPerson_124 (by decide) ?_
    refine k_icmp_ne (tgt := 133) hx hb dX11_readsPerson_126 (by decide) (show 99 < 2 ^ 31 by first | omega | (split <;> omega)) (show 99 < 2 ^ 31 by first | omega | (split <;> omega)) (fun q9 => absurd q9 (by decide)) (fun _ => ?_)
    refine lv_iconst (v := (nI 1)) hx hb dX11_readsPerson_129 (by decide) ?_
    refine lv_goto (tgt := 134) hx hb dX11_readsPerson_130 (by decide) ?_
    refine k_iastN (y := 1) hx hb hK hP hD hS 2 0 rfl rfl (show rn < 7 by omega) (by decide) dX11_readsPerson_134 (fun H locs hP hD hS => ?_)
    have hb_20 : ∀ i, (va_up qk rn 1) i < 3 := up_lt hqk (show 1 < 3 by first | omega | (split <;> omega))
    have hP : va_P D vwCl [(hM, .inr (11, [.int (nI mf), .int (nI mn), .ref m1, .ref m2, .ref m3, .int (nI mb), .int (nI ((((ra + 1) + 1) + 1) + 1)), .int (nI rn), .ref m4, .ref m5, .ref m6, .int (nI mw), .ref m7, .ref m8, .int (nI mh), .ref m9, .ref m10, .int (nI mm), .ref m11, .int (nI mr), .ref m12, .ref m13, .ref m14, .ref m15, .ref m16, .ref m17, .ref m18, .int mt])), (m17, .inl (cI, 240, .inl sc)), (m4, .inl (cI, 7, .inl (nA (va_up qk rn 1)))), (m5, .inl (cI, 7, .inl (nA ql))), (m6, .inl (cI, 7, .inl (nA qe)))] H := hP
    have hD : va_D A [(hM, .inr (11, [.int (nI mf), .int (nI mn), .ref m1, .ref m2, .ref m3, .int (nI mb), .int (nI ((((ra + 1) + 1) + 1) + 1)), .int (nI rn), .ref m4, .ref m5, .ref m6, .int (nI mw), .ref m7, .ref m8, .int (nI mh), .ref m9, .ref m10, .int (nI mm), .ref m11, .int (nI mr), .ref m12, .ref m13, .ref m14, .ref m15, .ref m16, .ref m17, .ref m18, .int mt])), (m17, .inl (cI, 240, .inl sc)), (m4, .inl (cI, 7, .inl (nA (va_up qk rn 1)))), (m5, .inl (cI, 7, .inl (nA ql))), (m6, .inl (cI, 7, .inl (nA qe)))] := hD
    refine lv_aload_n hx hb dX11_readsPerson_135 rfl (lv_at hl 3 rfl) ?_
    refine va_get (D := D) (ci := 11) (v := .ref m5) (C := RX11) (T := TX11) (N := 28) hx hb hts in_X11 hown hK hP 0 rfl rfl 9 (by decide) lk3 (fun _ h9 => h9) rfl dX11_readsPerson_136 ?_
    refine lv_aload_n hx hb dX11_readsPerson_139 rfl (lv_at hl 3 rfl) ?_
    refine va_get (D := D) (ci := 11) (v := .int (nI rn)) (C := RX11) (T := TX11) (N := 28) hx hb hts in_X11 hown hK hP 0 rfl rfl 7 (by decide) lk0 (fun _ h9 => h9) rfl dX11_readsPerson_140 ?_
    refine lv_iload hx hb dX11_readsPerson_143 (lv_at hl 1 rfl) ?_
    refine k_iastN (y := v) hx hb hK hP hD hS 3 0 rfl rfl (show rn < 7 by omega) (by decide) dX11_readsPerson_145 (fun H locs hP hD hS => ?_)
    have hb_21 : ∀ i, (va_up ql rn v) i < 6 := up_lt hql (show v < 6 by first | omega | (split <;> omega))
    have hP : va_P D vwCl [(hM, .inr (11, [.int (nI mf), .int (nI mn), .ref m1, .ref m2, .ref m3, .int (nI mb), .int (nI ((((ra + 1) + 1) + 1) + 1)), .int (nI rn), .ref m4, .ref m5, .ref m6, .int (nI mw), .ref m7, .ref m8, .int (nI mh), .ref m9, .ref m10, .int (nI mm), .ref m11, .int (nI mr), .ref m12, .ref m13, .ref m14, .ref m15, .ref m16, .ref m17, .ref m18, .int mt])), (m17, .inl (cI, 240, .inl sc)), (m4, .inl (cI, 7, .inl (nA (va_up qk rn 1)))), (m5, .inl (cI, 7, .inl (nA (va_up ql rn v)))), (m6, .inl (cI, 7, .inl (nA qe)))] H := hP
    have hD : va_D A [(hM, .inr (11, [.int (nI mf), .int (nI mn), .ref m1, .ref m2, .ref m3, .int (nI mb), .int (nI ((((ra + 1) + 1) + 1) + 1)), .int (nI rn), .ref m4, .ref m5, .ref m6, .int (nI mw), .ref m7, .ref m8, .int (nI mh), .ref m9, .ref m10, .int (nI mm), .ref m11, .int (nI mr), .ref m12, .ref m13, .ref m14, .ref m15, .ref m16, .ref m17, .ref m18, .int mt])), (m17, .inl (cI, 240, .inl sc)), (m4, .inl (cI, 7, .inl (nA (va_up qk rn 1)))), (m5, .inl (cI, 7, .inl (nA (va_up ql rn v)))), (m6, .inl (cI, 7, .inl (nA qe)))] := hD
    refine lv_aload_n hx hb dX11_readsPerson_146 rfl (lv_at hl 3 rfl) ?_
    refine va_get (D := D) (ci := 11) (v := .ref m6) (C := RX11) (T := TX11) (N := 28) hx hb hts in_X11 hown hK hP 0 rfl rfl 10 (by decide) lk4 (fun _ h9 => h9) rfl dX11_readsPerson_147 ?_
    refine lv_aload_n hx hb dX11_readsPerson_150 rfl (lv_at hl 3 rfl) ?_
    refine va_get (D := D) (ci := 11) (v := .int (nI rn)) (C := RX11) (T := TX11) (N := 28) hx hb hts in_X11 hown hK hP 0 rfl rfl 7 (by decide) lk0 (fun _ h9 => h9) rfl dX11_readsPerson_151 ?_
    refine lv_iload hx hb dX11_readsPerson_154 (lv_at hl 0 rfl) ?_
    refine k_iastN (y := w) hx hb hK hP hD hS 4 0 rfl rfl (show rn < 7 by omega) (by decide) dX11_readsPerson_156 (fun H locs hP hD hS => ?_)
    have hb_22 : ∀ i, (va_up qe rn w) i < 7 := up_lt hqe (show w < 7 by first | omega | (split <;> omega))
    have hP : va_P D vwCl [(hM, .inr (11, [.int (nI mf), .int (nI mn), .ref m1, .ref m2, .ref m3, .int (nI mb), .int (nI ((((ra + 1) + 1) + 1) + 1)), .int (nI rn), .ref m4, .ref m5, .ref m6, .int (nI mw), .ref m7, .ref m8, .int (nI mh), .ref m9, .ref m10, .int (nI mm), .ref m11, .int (nI mr), .ref m12, .ref m13, .ref m14, .ref m15, .ref m16, .ref m17, .ref m18, .int mt])), (m17, .inl (cI, 240, .inl sc)), (m4, .inl (cI, 7, .inl (nA (va_up qk rn 1)))), (m5, .inl (cI, 7, .inl (nA (va_up ql rn v)))), (m6, .inl (cI, 7, .inl (nA (va_up qe rn w))))] H := hP
    have hD : va_D A [(hM, .inr (11, [.int (nI mf), .int (nI mn), .ref m1, .ref m2, .ref m3, .int (nI mb), .int (nI ((((ra + 1) + 1) + 1) + 1)), .int (nI rn), .ref m4, .ref m5, .ref m6, .int (nI mw), .ref m7, .ref m8, .int (nI mh), .ref m9, .ref m10, .int (nI mm), .ref m11, .int (nI mr), .ref m12, .ref m13, .ref m14, .ref m15, .ref m16, .ref m17, .ref m18, .int mt])), (m17, .inl (cI, 240, .inl sc)), (m4, .inl (cI, 7, .inl (nA (va_up qk rn 1)))), (m5, .inl (cI, 7, .inl (nA (va_up ql rn v)))), (m6, .inl (cI, 7, .inl (nA (va_up qe rn w))))] := hD
    refine lv_aload_n hx hb dX11_readsPerson_157 rfl (lv_at hl 3 rfl) ?_
    refine lv_dup hx hb dX11_readsPerson_158 rfl ?_
    refine va_get (D := D) (ci := 11) (v := .int (nI rn)) (C := RX11) (T := TX11) (N := 28) hx hb hts in_X11 hown hK hP 0 rfl rfl 7 (by decide) lk0 (fun _ h9 => h9) rfl dX11_readsPerson_159 ?_
    refine lv_iconst (v := (nI 1)) hx hb dX11_readsPerson_162 (by decide) ?_
    refine lv_iadd hx hb dX11_readsPerson_163 ?_
    refine k_eqi (show ((nI rn) + (nI 1)) = (nI (rn + 1)) from nI_add rn 1) ?_
    refine va_put (D := D) (ci := 11) (v := .int (nI (rn + 1))) (ty := .int) (C := RX11) (T := TX11) (N := 28) hx hb hts in_X11 tyX11 tyX11_ok nmX11 hown hK hP hD hS 0 rfl rfl 7 (by decide) lk0 (fun _ h9 => h9) rfl (by decide +kernel) rfl rfl (Nat.le_of_ble_eq_true rfl) dX11_readsPerson_164 (fun H locs hP hD hS => ?_)
    have hP : va_P D vwCl [(hM, .inr (11, [.int (nI mf), .int (nI mn), .ref m1, .ref m2, .ref m3, .int (nI mb), .int (nI ((((ra + 1) + 1) + 1) + 1)), .int (nI (rn + 1)), .ref m4, .ref m5, .ref m6, .int (nI mw), .ref m7, .ref m8, .int (nI mh), .ref m9, .ref m10, .int (nI mm), .ref m11, .int (nI mr), .ref m12, .ref m13, .ref m14, .ref m15, .ref m16, .ref m17, .ref m18, .int mt])), (m17, .inl (cI, 240, .inl sc)), (m4, .inl (cI, 7, .inl (nA (va_up qk rn 1)))), (m5, .inl (cI, 7, .inl (nA (va_up ql rn v)))), (m6, .inl (cI, 7, .inl (nA (va_up qe rn w))))] H := hP
    have hD : va_D A [(hM, .inr (11, [.int (nI mf), .int (nI mn), .ref m1, .ref m2, .ref m3, .int (nI mb), .int (nI ((((ra + 1) + 1) + 1) + 1)), .int (nI (rn + 1)), .ref m4, .ref m5, .ref m6, .int (nI mw), .ref m7, .ref m8, .int (nI mh), .ref m9, .ref m10, .int (nI mm), .ref m11, .int (nI mr), .ref m12, .ref m13, .ref m14, .ref m15, .ref m16, .ref m17, .ref m18, .int mt])), (m17, .inl (cI, 240, .inl sc)), (m4, .inl (cI, 7, .inl (nA (va_up qk rn 1)))), (m5, .inl (cI, 7, .inl (nA (va_up ql rn v)))), (m6, .inl (cI, 7, .inl (nA (va_up qe rn w))))] := hD
    refine lv_iconst (v := (nI 1)) hx hb dX11_readsPerson_167 (by decide) ?_
    have e_23 : (nI ((((ra + 1) + 1) + 1) + 1)) = (nI (ra + 4)) := congrArg nI (show (((ra + 1) + 1) + 1) + 1 = ra + 4 by omega)
    have e_24 : nA (va_up qk rn 1) = nA (va_up qk rn (kdc (sc (fr + (ra + 1))))) := congrArg nA (show (va_up qk rn 1) = (va_up qk rn (kdc (sc (fr + (ra + 1))))) by rw [hkd])
    have q_25 : ([(hM, .inr (11, [.int (nI mf), .int (nI mn), .ref m1, .ref m2, .ref m3, .int (nI mb), .int (nI ((((ra + 1) + 1) + 1) + 1)), .int (nI (rn + 1)), .ref m4, .ref m5, .ref m6, .int (nI mw), .ref m7, .ref m8, .int (nI mh), .ref m9, .ref m10, .int (nI mm), .ref m11, .int (nI mr), .ref m12, .ref m13, .ref m14, .ref m15, .ref m16, .ref m17, .ref m18, .int mt])), (m17, .inl (cI, 240, .inl sc)), (m4, .inl (cI, 7, .inl (nA (va_up qk rn 1)))), (m5, .inl (cI, 7, .inl (nA (va_up ql rn v)))), (m6, .inl (cI, 7, .inl (nA (va_up qe rn w))))] : va_W) = [(hM, .inr (11, [.int (nI mf), .int (nI mn), .ref m1, .ref m2, .ref m3, .int (nI mb), .int (nI (ra + 4)), .int (nI (rn + 1)), .ref m4, .ref m5, .ref m6, .int (nI mw), .ref m7, .ref m8, .int (nI mh), .ref m9, .ref m10, .int (nI mm), .ref m11, .int (nI mr), .ref m12, .ref m13, .ref m14, .ref m15, .ref m16, .ref m17, .ref m18, .int mt])), (m17, .inl (cI, 240, .inl sc)), (m4, .inl (cI, 7, .inl (nA (va_up qk rn (kdc (sc (fr + (ra + 1)))))))), (m5, .inl (cI, 7, .inl (nA (va_up ql rn v)))), (m6, .inl (cI, 7, .inl (nA (va_up qe rn w))))] := by rw [← e_23, ← e_24]
    exact ret _ () _ _ _ _ dX11_readsPerson_168 (rfl) (kP_cast hP q_25) (kD_cast hD q_25) hS
  · skip
    have hkd : kdc (sc (fr + (ra + 1))) = 2 := by rw [h1]; decide
    refine k_eqi (show (sc (fr + (ra + 1))) = (nI 116) from h1) ?_
    refine lv_istore_n (lv' := [(3, .int (nI 116)), (0, .ref hM), (1, .int (nI fr)), (2, .int (nI nn))]) hx hb dX11_readsPerson_38 rfl hl (by decide) rfl (fun ls hl => ?_)
    refine lv_iload_n hx hb dX11_readsPerson_39 rfl (lv_at hl 0 rfl) ?_
    refine lv_bipush (v := (nI 115)) hx hb dX11_readsPerson_40 (by decide) ?_
    refine k_icmp_eq (tgt := 59) hx hb dX11_readsPerson_42 (by decide) (show 116 < 2 ^ 31 by first | omega | (split <;> omega)) (show 115 < 2 ^ 31 by first | omega | (split <;> omega)) (fun q9 => absurd q9 (by decide)) (fun _ => ?_)
    refine lv_iload_n hx hb dX11_readsPerson_45 rfl (lv_at hl 0 rfl) ?_
    refine lv_bipush (v := (nI 99)) hx hb dX11_readsPerson_46 (by decide) ?_
    refine k_icmp_eq (tgt := 59) hx hb dX11_readsPerson_48 (by decide) (show 116 < 2 ^ 31 by first | omega | (split <;> omega)) (show 99 < 2 ^ 31 by first | omega | (split <;> omega)) (fun q9 => absurd q9 (by decide)) (fun _ => ?_)
    refine lv_iload_n hx hb dX11_readsPerson_51 rfl (lv_at hl 0 rfl) ?_
    refine lv_bipush (v := (nI 116)) hx hb dX11_readsPerson_52 (by decide) ?_
    refine k_icmp_eq (tgt := 59) hx hb dX11_readsPerson_54 (by decide) (show 116 < 2 ^ 31 by first | omega | (split <;> omega)) (show 116 < 2 ^ 31 by first | omega | (split <;> omega)) (fun _ => ?_) (fun q9 => absurd q9 (by decide))
    refine lv_aload_n hx hb dX11_readsPerson_59 rfl (lv_at hl 1 rfl) ?_
    refine lv_dup hx hb dX11_readsPerson_60 rfl ?_
    refine va_get (D := D) (ci := 11) (v := .int (nI (ra + 1))) (C := RX11) (T := TX11) (N := 28) hx hb hts in_X11 hown hK hP 0 rfl rfl 6 (by decide) lk1 (fun _ h9 => h9) rfl dX11_readsPerson_61 ?_
    refine lv_iconst (v := (nI 1)) hx hb dX11_readsPerson_64 (by decide) ?_
    refine lv_iadd hx hb dX11_readsPerson_65 ?_
    refine k_eqi (show ((nI (ra + 1)) + (nI 1)) = (nI ((ra + 1) + 1)) from nI_add (ra + 1) 1) ?_
    refine va_put (D := D) (ci := 11) (v := .int (nI ((ra + 1) + 1))) (ty := .int) (C := RX11) (T := TX11) (N := 28) hx hb hts in_X11 tyX11 tyX11_ok nmX11 hown hK hP hD hS 0 rfl rfl 6 (by decide) lk1 (fun _ h9 => h9) rfl (by decide +kernel) rfl rfl (Nat.le_of_ble_eq_true rfl) dX11_readsPerson_66 (fun H locs hP hD hS => ?_)
    have hP : va_P D vwCl [(hM, .inr (11, [.int (nI mf), .int (nI mn), .ref m1, .ref m2, .ref m3, .int (nI mb), .int (nI ((ra + 1) + 1)), .int (nI rn), .ref m4, .ref m5, .ref m6, .int (nI mw), .ref m7, .ref m8, .int (nI mh), .ref m9, .ref m10, .int (nI mm), .ref m11, .int (nI mr), .ref m12, .ref m13, .ref m14, .ref m15, .ref m16, .ref m17, .ref m18, .int mt])), (m17, .inl (cI, 240, .inl sc)), (m4, .inl (cI, 7, .inl (nA qk))), (m5, .inl (cI, 7, .inl (nA ql))), (m6, .inl (cI, 7, .inl (nA qe)))] H := hP
    have hD : va_D A [(hM, .inr (11, [.int (nI mf), .int (nI mn), .ref m1, .ref m2, .ref m3, .int (nI mb), .int (nI ((ra + 1) + 1)), .int (nI rn), .ref m4, .ref m5, .ref m6, .int (nI mw), .ref m7, .ref m8, .int (nI mh), .ref m9, .ref m10, .int (nI mm), .ref m11, .int (nI mr), .ref m12, .ref m13, .ref m14, .ref m15, .ref m16, .ref m17, .ref m18, .int mt])), (m17, .inl (cI, 240, .inl sc)), (m4, .inl (cI, 7, .inl (nA qk))), (m5, .inl (cI, 7, .inl (nA ql))), (m6, .inl (cI, 7, .inl (nA qe)))] := hD
    refine lv_aload_n hx hb dX11_readsPerson_69 rfl (lv_at hl 1 rfl) ?_
    refine lv_iload_n hx hb dX11_readsPerson_70 rfl (lv_at hl 2 rfl) ?_
    refine lv_iload_n hx hb dX11_readsPerson_71 rfl (lv_at hl 3 rfl) ?_
    refine lv_iconst (v := (nI 5)) hx hb dX11_readsPerson_72 (by decide) ?_
    refine k_goi (S := Unit) (va_runV (As := [.int (nI fr), .int (nI nn), .int (nI 5)]) (rest := []) ⟨hx, hb, hml, hown, hts⟩ (c_X11_figure_in l D cI cZ cS cP hM m1 m2 m3 m4 m5 m6 m7 m8 m9 m10 m11 m12 m13 m14 m15 m16 m17 m18 mf mn mb ((ra + 1) + 1) rn mw mh mm mr mt sc fr nn 5 v (by first | assumption | omega) (by first | assumption | omega) (by first | assumption | omega) (by first | assumption | omega) (by first | assumption | omega) _) (cwV 3 hts gX11_readsPerson_X11_figure rfl rfl rfl (by decide +kernel) ⟨Nat.le_of_ble_eq_true rfl, Nat.le_of_ble_eq_true rfl⟩) (kPreV hN hK hP hD [0, 1] rfl rfl (q0 := 0) (ci := 11) (q := (RX11, TX11, 28)) rfl rfl) rfl rfl hl.1 rfl (lv_room (Nat.le_of_ble_eq_true rfl)) dX11_readsPerson_73 ⟨Nat.le_of_ble_eq_true rfl, Nat.le_of_ble_eq_true rfl⟩) hP hD hS hA [0, 1] rfl [hM, m17] rfl (fun _ => rfl) 5 [2, 3, 4] rfl (fun _u => [(hM, .inr (11, [.int (nI mf), .int (nI mn), .ref m1, .ref m2, .ref m3, .int (nI mb), .int (nI (((ra + 1) + 1) + 1)), .int (nI rn), .ref m4, .ref m5, .ref m6, .int (nI mw), .ref m7, .ref m8, .int (nI mh), .ref m9, .ref m10, .int (nI mm), .ref m11, .int (nI mr), .ref m12, .ref m13, .ref m14, .ref m15, .ref m16, .ref m17, .ref m18, .int mt])), (m17, .inl (cI, 240, .inl sc)), (m4, .inl (cI, 7, .inl (nA qk))), (m5, .inl (cI, 7, .inl (nA ql))), (m6, .inl (cI, 7, .inl (nA qe)))]) (fun _ => rfl) [(m4, .inl (cI, 7, .inl (nA qk))), (m5, .inl (cI, 7, .inl (nA ql))), (m6, .inl (cI, 7, .inl (nA qe)))] [] (fun _ => rfl) rfl (fun _ => rfl) rfl (fun r_26 _u H locs hr_27 hP hD hS => ?_)
    have hP : va_P D vwCl [(hM, .inr (11, [.int (nI mf), .int (nI mn), .ref m1, .ref m2, .ref m3, .int (nI mb), .int (nI (((ra + 1) + 1) + 1)), .int (nI rn), .ref m4, .ref m5, .ref m6, .int (nI mw), .ref m7, .ref m8, .int (nI mh), .ref m9, .ref m10, .int (nI mm), .ref m11, .int (nI mr), .ref m12, .ref m13, .ref m14, .ref m15, .ref m16, .ref m17, .ref m18, .int mt])), (m17, .inl (cI, 240, .inl sc)), (m4, .inl (cI, 7, .inl (nA qk))), (m5, .inl (cI, 7, .inl (nA ql))), (m6, .inl (cI, 7, .inl (nA qe)))] H := hP
    have hD : va_D A [(hM, .inr (11, [.int (nI mf), .int (nI mn), .ref m1, .ref m2, .ref m3, .int (nI mb), .int (nI (((ra + 1) + 1) + 1)), .int (nI rn), .ref m4, .ref m5, .ref m6, .int (nI mw), .ref m7, .ref m8, .int (nI mh), .ref m9, .ref m10, .int (nI mm), .ref m11, .int (nI mr), .ref m12, .ref m13, .ref m14, .ref m15, .ref m16, .ref m17, .ref m18, .int mt])), (m17, .inl (cI, 240, .inl sc)), (m4, .inl (cI, 7, .inl (nA qk))), (m5, .inl (cI, 7, .inl (nA ql))), (m6, .inl (cI, 7, .inl (nA qe)))] := hD
    subst hr_27
    refine lv_istore (lv' := [(4, .int (nI v)), (3, .int (nI 116)), (0, .ref hM), (1, .int (nI fr)), (2, .int (nI nn))]) hx hb dX11_readsPerson_76 hl (by decide) rfl (fun ls hl => ?_)
    refine lv_iload hx hb dX11_readsPerson_78 (lv_at hl 0 rfl) ?_
    refine k_if_ge (tgt := 88) hx hb dX11_readsPerson_80 (by decide) (show v < 2 ^ 31 by first | omega | (split <;> omega)) ?_
    refine lv_aload_n hx hb dX11_readsPerson_88 rfl (lv_at hl 2 rfl) ?_
    refine lv_iload_n hx hb dX11_readsPerson_89 rfl (lv_at hl 3 rfl) ?_
    refine lv_iload_n hx hb dX11_readsPerson_90 rfl (lv_at hl 4 rfl) ?_
    refine lv_bipush (v := (nI 6)) hx hb dX11_readsPerson_91 (by decide) ?_
    refine k_goi (S := Unit) (va_runV (As := [.int (nI fr), .int (nI nn), .int (nI 6)]) (rest := []) ⟨hx, hb, hml, hown, hts⟩ (c_X11_figure_in l D cI cZ cS cP hM m1 m2 m3 m4 m5 m6 m7 m8 m9 m10 m11 m12 m13 m14 m15 m16 m17 m18 mf mn mb (((ra + 1) + 1) + 1) rn mw mh mm mr mt sc fr nn 6 w (by first | assumption | omega) (by first | assumption | omega) (by first | assumption | omega) (by first | assumption | omega) (by first | assumption | omega) _) (cwV 3 hts gX11_readsPerson_X11_figure rfl rfl rfl (by decide +kernel) ⟨Nat.le_of_ble_eq_true rfl, Nat.le_of_ble_eq_true rfl⟩) (kPreV hN hK hP hD [0, 1] rfl rfl (q0 := 0) (ci := 11) (q := (RX11, TX11, 28)) rfl rfl) rfl rfl hl.1 rfl (lv_room (Nat.le_of_ble_eq_true rfl)) dX11_readsPerson_93 ⟨Nat.le_of_ble_eq_true rfl, Nat.le_of_ble_eq_true rfl⟩) hP hD hS hA [0, 1] rfl [hM, m17] rfl (fun _ => rfl) 5 [2, 3, 4] rfl (fun _u => [(hM, .inr (11, [.int (nI mf), .int (nI mn), .ref m1, .ref m2, .ref m3, .int (nI mb), .int (nI ((((ra + 1) + 1) + 1) + 1)), .int (nI rn), .ref m4, .ref m5, .ref m6, .int (nI mw), .ref m7, .ref m8, .int (nI mh), .ref m9, .ref m10, .int (nI mm), .ref m11, .int (nI mr), .ref m12, .ref m13, .ref m14, .ref m15, .ref m16, .ref m17, .ref m18, .int mt])), (m17, .inl (cI, 240, .inl sc)), (m4, .inl (cI, 7, .inl (nA qk))), (m5, .inl (cI, 7, .inl (nA ql))), (m6, .inl (cI, 7, .inl (nA qe)))]) (fun _ => rfl) [(m4, .inl (cI, 7, .inl (nA qk))), (m5, .inl (cI, 7, .inl (nA ql))), (m6, .inl (cI, 7, .inl (nA qe)))] [] (fun _ => rfl) rfl (fun _ => rfl) rfl (fun r_28 _u H locs hr_29 hP hD hS => ?_)
    have hP : va_P D vwCl [(hM, .inr (11, [.int (nI mf), .int (nI mn), .ref m1, .ref m2, .ref m3, .int (nI mb), .int (nI ((((ra + 1) + 1) + 1) + 1)), .int (nI rn), .ref m4, .ref m5, .ref m6, .int (nI mw), .ref m7, .ref m8, .int (nI mh), .ref m9, .ref m10, .int (nI mm), .ref m11, .int (nI mr), .ref m12, .ref m13, .ref m14, .ref m15, .ref m16, .ref m17, .ref m18, .int mt])), (m17, .inl (cI, 240, .inl sc)), (m4, .inl (cI, 7, .inl (nA qk))), (m5, .inl (cI, 7, .inl (nA ql))), (m6, .inl (cI, 7, .inl (nA qe)))] H := hP
    have hD : va_D A [(hM, .inr (11, [.int (nI mf), .int (nI mn), .ref m1, .ref m2, .ref m3, .int (nI mb), .int (nI ((((ra + 1) + 1) + 1) + 1)), .int (nI rn), .ref m4, .ref m5, .ref m6, .int (nI mw), .ref m7, .ref m8, .int (nI mh), .ref m9, .ref m10, .int (nI mm), .ref m11, .int (nI mr), .ref m12, .ref m13, .ref m14, .ref m15, .ref m16, .ref m17, .ref m18, .int mt])), (m17, .inl (cI, 240, .inl sc)), (m4, .inl (cI, 7, .inl (nA qk))), (m5, .inl (cI, 7, .inl (nA ql))), (m6, .inl (cI, 7, .inl (nA qe)))] := hD
    subst hr_29
    refine lv_istore (lv' := [(5, .int (nI w)), (4, .int (nI v)), (3, .int (nI 116)), (0, .ref hM), (1, .int (nI fr)), (2, .int (nI nn))]) hx hb dX11_readsPerson_96 hl (by decide) rfl (fun ls hl => ?_)
    refine lv_iload hx hb dX11_readsPerson_98 (lv_at hl 0 rfl) ?_
    refine k_if_ge (tgt := 105) hx hb dX11_readsPerson_100 (by decide) (show w < 2 ^ 31 by first | omega | (split <;> omega)) ?_
    refine lv_aload_n hx hb dX11_readsPerson_105 rfl (lv_at hl 3 rfl) ?_
    refine va_get (D := D) (ci := 11) (v := .ref m4) (C := RX11) (T := TX11) (N := 28) hx hb hts in_X11 hown hK hP 0 rfl rfl 8 (by decide) lk2 (fun _ h9 => h9) rfl dX11_readsPerson_106 ?_
    refine lv_aload_n hx hb dX11_readsPerson_109 rfl (lv_at hl 3 rfl) ?_
    refine va_get (D := D) (ci := 11) (v := .int (nI rn)) (C := RX11) (T := TX11) (N := 28) hx hb hts in_X11 hown hK hP 0 rfl rfl 7 (by decide) lk0 (fun _ h9 => h9) rfl dX11_readsPerson_110 ?_
    refine lv_iload_n hx hb dX11_readsPerson_113 rfl (lv_at hl 2 rfl) ?_
    refine lv_bipush (v := (nI 115)) hx hb dX11_readsPerson_114 (by decide) ?_
    refine k_icmp_ne (tgt := 123) hx hb dX11_readsPerson_116 (by decide) (show 116 < 2 ^ 31 by first | omega | (split <;> omega)) (show 115 < 2 ^ 31 by first | omega | (split <;> omega)) (fun _ => ?_) (fun q9 => absurd q9 (by decide))
    refine lv_iload_n hx hb dX11_readsPerson_123 rfl (lv_at hl 2 rfl) ?_
    refine lv_bipush (v := (nI 99)) hx hb dX11_readsPerson_124 (by decide) ?_
    refine k_icmp_ne (tgt := 133) hx hb dX11_readsPerson_126 (by decide) (show 116 < 2 ^ 31 by first | omega | (split <;> omega)) (show 99 < 2 ^ 31 by first | omega | (split <;> omega)) (fun _ => ?_) (fun q9 => absurd q9 (by decide))
    refine lv_iconst (v := (nI 2)) hx hb dX11_readsPerson_133 (by decide) ?_
    refine k_iastN (y := 2) hx hb hK hP hD hS 2 0 rfl rfl (show rn < 7 by omega) (by decide) dX11_readsPerson_134 (fun H locs hP hD hS => ?_)
    have hb_30 : ∀ i, (va_up qk rn 2) i < 3 := up_lt hqk (show 2 < 3 by first | omega | (split <;> omega))
    have hP : va_P D vwCl [(hM, .inr (11, [.int (nI mf), .int (nI mn), .ref m1, .ref m2, .ref m3, .int (nI mb), .int (nI ((((ra + 1) + 1) + 1) + 1)), .int (nI rn), .ref m4, .ref m5, .ref m6, .int (nI mw), .ref m7, .ref m8, .int (nI mh), .ref m9, .ref m10, .int (nI mm), .ref m11, .int (nI mr), .ref m12, .ref m13, .ref m14, .ref m15, .ref m16, .ref m17, .ref m18, .int mt])), (m17, .inl (cI, 240, .inl sc)), (m4, .inl (cI, 7, .inl (nA (va_up qk rn 2)))), (m5, .inl (cI, 7, .inl (nA ql))), (m6, .inl (cI, 7, .inl (nA qe)))] H := hP
    have hD : va_D A [(hM, .inr (11, [.int (nI mf), .int (nI mn), .ref m1, .ref m2, .ref m3, .int (nI mb), .int (nI ((((ra + 1) + 1) + 1) + 1)), .int (nI rn), .ref m4, .ref m5, .ref m6, .int (nI mw), .ref m7, .ref m8, .int (nI mh), .ref m9, .ref m10, .int (nI mm), .ref m11, .int (nI mr), .ref m12, .ref m13, .ref m14, .ref m15, .ref m16, .ref m17, .ref m18, .int mt])), (m17, .inl (cI, 240, .inl sc)), (m4, .inl (cI, 7, .inl (nA (va_up qk rn 2)))), (m5, .inl (cI, 7, .inl (nA ql))), (m6, .inl (cI, 7, .inl (nA qe)))] := hD
    refine lv_aload_n hx hb dX11_readsPerson_135 rfl (lv_at hl 3 rfl) ?_
    refine va_get (D := D) (ci := 11) (v := .ref m5) (C := RX11) (T := TX11) (N := 28) hx hb hts in_X11 hown hK hP 0 rfl rfl 9 (by decide) lk3 (fun _ h9 => h9) rfl dX11_readsPerson_136 ?_
    refine lv_aload_n hx hb dX11_readsPerson_139 rfl (lv_at hl 3 rfl) ?_
    refine va_get (D := D) (ci := 11) (v := .int (nI rn)) (C := RX11) (T := TX11) (N := 28) hx hb hts in_X11 hown hK hP 0 rfl rfl 7 (by decide) lk0 (fun _ h9 => h9) rfl dX11_readsPerson_140 ?_
    refine lv_iload hx hb dX11_readsPerson_143 (lv_at hl 1 rfl) ?_
    refine k_iastN (y := v) hx hb hK hP hD hS 3 0 rfl rfl (show rn < 7 by omega) (by decide) dX11_readsPerson_145 (fun H locs hP hD hS => ?_)
    have hb_31 : ∀ i, (va_up ql rn v) i < 6 := up_lt hql (show v < 6 by first | omega | (split <;> omega))
    have hP : va_P D vwCl [(hM, .inr (11, [.int (nI mf), .int (nI mn), .ref m1, .ref m2, .ref m3, .int (nI mb), .int (nI ((((ra + 1) + 1) + 1) + 1)), .int (nI rn), .ref m4, .ref m5, .ref m6, .int (nI mw), .ref m7, .ref m8, .int (nI mh), .ref m9, .ref m10, .int (nI mm), .ref m11, .int (nI mr), .ref m12, .ref m13, .ref m14, .ref m15, .ref m16, .ref m17, .ref m18, .int mt])), (m17, .inl (cI, 240, .inl sc)), (m4, .inl (cI, 7, .inl (nA (va_up qk rn 2)))), (m5, .inl (cI, 7, .inl (nA (va_up ql rn v)))), (m6, .inl (cI, 7, .inl (nA qe)))] H := hP
    have hD : va_D A [(hM, .inr (11, [.int (nI mf), .int (nI mn), .ref m1, .ref m2, .ref m3, .int (nI mb), .int (nI ((((ra + 1) + 1) + 1) + 1)), .int (nI rn), .ref m4, .ref m5, .ref m6, .int (nI mw), .ref m7, .ref m8, .int (nI mh), .ref m9, .ref m10, .int (nI mm), .ref m11, .int (nI mr), .ref m12, .ref m13, .ref m14, .ref m15, .ref m16, .ref m17, .ref m18, .int mt])), (m17, .inl (cI, 240, .inl sc)), (m4, .inl (cI, 7, .inl (nA (va_up qk rn 2)))), (m5, .inl (cI, 7, .inl (nA (va_up ql rn v)))), (m6, .inl (cI, 7, .inl (nA qe)))] := hD
    refine lv_aload_n hx hb dX11_readsPerson_146 rfl (lv_at hl 3 rfl) ?_
    refine va_get (D := D) (ci := 11) (v := .ref m6) (C := RX11) (T := TX11) (N := 28) hx hb hts in_X11 hown hK hP 0 rfl rfl 10 (by decide) lk4 (fun _ h9 => h9) rfl dX11_readsPerson_147 ?_
    refine lv_aload_n hx hb dX11_readsPerson_150 rfl (lv_at hl 3 rfl) ?_
    refine va_get (D := D) (ci := 11) (v := .int (nI rn)) (C := RX11) (T := TX11) (N := 28) hx hb hts in_X11 hown hK hP 0 rfl rfl 7 (by decide) lk0 (fun _ h9 => h9) rfl dX11_readsPerson_151 ?_
    refine lv_iload hx hb dX11_readsPerson_154 (lv_at hl 0 rfl) ?_
    refine k_iastN (y := w) hx hb hK hP hD hS 4 0 rfl rfl (show rn < 7 by omega) (by decide) dX11_readsPerson_156 (fun H locs hP hD hS => ?_)
    have hb_32 : ∀ i, (va_up qe rn w) i < 7 := up_lt hqe (show w < 7 by first | omega | (split <;> omega))
    have hP : va_P D vwCl [(hM, .inr (11, [.int (nI mf), .int (nI mn), .ref m1, .ref m2, .ref m3, .int (nI mb), .int (nI ((((ra + 1) + 1) + 1) + 1)), .int (nI rn), .ref m4, .ref m5, .ref m6, .int (nI mw), .ref m7, .ref m8, .int (nI mh), .ref m9, .ref m10, .int (nI mm), .ref m11, .int (nI mr), .ref m12, .ref m13, .ref m14, .ref m15, .ref m16, .ref m17, .ref m18, .int mt])), (m17, .inl (cI, 240, .inl sc)), (m4, .inl (cI, 7, .inl (nA (va_up qk rn 2)))), (m5, .inl (cI, 7, .inl (nA (va_up ql rn v)))), (m6, .inl (cI, 7, .inl (nA (va_up qe rn w))))] H := hP
    have hD : va_D A [(hM, .inr (11, [.int (nI mf), .int (nI mn), .ref m1, .ref m2, .ref m3, .int (nI mb), .int (nI ((((ra + 1) + 1) + 1) + 1)), .int (nI rn), .ref m4, .ref m5, .ref m6, .int (nI mw), .ref m7, .ref m8, .int (nI mh), .ref m9, .ref m10, .int (nI mm), .ref m11, .int (nI mr), .ref m12, .ref m13, .ref m14, .ref m15, .ref m16, .ref m17, .ref m18, .int mt])), (m17, .inl (cI, 240, .inl sc)), (m4, .inl (cI, 7, .inl (nA (va_up qk rn 2)))), (m5, .inl (cI, 7, .inl (nA (va_up ql rn v)))), (m6, .inl (cI, 7, .inl (nA (va_up qe rn w))))] := hD
    refine lv_aload_n hx hb dX11_readsPerson_157 rfl (lv_at hl 3 rfl) ?_
    refine lv_dup hx hb dX11_readsPerson_158 rfl ?_
    refine va_get (D := D) (ci := 11) (v := .int (nI rn)) (C := RX11) (T := TX11) (N := 28) hx hb hts in_X11 hown hK hP 0 rfl rfl 7 (by decide) lk0 (fun _ h9 => h9) rfl dX11_readsPerson_159 ?_
    refine lv_iconst (v := (nI 1)) hx hb dX11_readsPerson_162 (by decide) ?_
    refine lv_iadd hx hb dX11_readsPerson_163 ?_
    refine k_eqi (show ((nI rn) + (nI 1)) = (nI (rn + 1)) from nI_add rn 1) ?_
    refine va_put (D := D) (ci := 11) (v := .int (nI (rn + 1))) (ty := .int) (C := RX11) (T := TX11) (N := 28) hx hb hts in_X11 tyX11 tyX11_ok nmX11 hown hK hP hD hS 0 rfl rfl 7 (by decide) lk0 (fun _ h9 => h9) rfl (by decide +kernel) rfl rfl (Nat.le_of_ble_eq_true rfl) dX11_readsPerson_164 (fun H locs hP hD hS => ?_)
    have hP : va_P D vwCl [(hM, .inr (11, [.int (nI mf), .int (nI mn), .ref m1, .ref m2, .ref m3, .int (nI mb), .int (nI ((((ra + 1) + 1) + 1) + 1)), .int (nI (rn + 1)), .ref m4, .ref m5, .ref m6, .int (nI mw), .ref m7, .ref m8, .int (nI mh), .ref m9, .ref m10, .int (nI mm), .ref m11, .int (nI mr), .ref m12, .ref m13, .ref m14, .ref m15, .ref m16, .ref m17, .ref m18, .int mt])), (m17, .inl (cI, 240, .inl sc)), (m4, .inl (cI, 7, .inl (nA (va_up qk rn 2)))), (m5, .inl (cI, 7, .inl (nA (va_up ql rn v)))), (m6, .inl (cI, 7, .inl (nA (va_up qe rn w))))] H := hP
    have hD : va_D A [(hM, .inr (11, [.int (nI mf), .int (nI mn), .ref m1, .ref m2, .ref m3, .int (nI mb), .int (nI ((((ra + 1) + 1) + 1) + 1)), .int (nI (rn + 1)), .ref m4, .ref m5, .ref m6, .int (nI mw), .ref m7, .ref m8, .int (nI mh), .ref m9, .ref m10, .int (nI mm), .ref m11, .int (nI mr), .ref m12, .ref m13, .ref m14, .ref m15, .ref m16, .ref m17, .ref m18, .int mt])), (m17, .inl (cI, 240, .inl sc)), (m4, .inl (cI, 7, .inl (nA (va_up qk rn 2)))), (m5, .inl (cI, 7, .inl (nA (va_up ql rn v)))), (m6, .inl (cI, 7, .inl (nA (va_up qe rn w))))] := hD
    refine lv_iconst (v := (nI 1)) hx hb dX11_readsPerson_167 (by decide) ?_
    have e_33 : (nI ((((ra + 1) + 1) + 1) + 1)) = (nI (ra + 4)) := congrArg nI (show (((ra + 1) + 1) + 1) + 1 = ra + 4 by omega)
    have e_34 : nA (va_up qk rn 2) = nA (va_up qk rn (kdc (sc (fr + (ra + 1))))) := congrArg nA (show (va_up qk rn 2) = (va_up qk rn (kdc (sc (fr + (ra + 1))))) by rw [hkd])
    have q_35 : ([(hM, .inr (11, [.int (nI mf), .int (nI mn), .ref m1, .ref m2, .ref m3, .int (nI mb), .int (nI ((((ra + 1) + 1) + 1) + 1)), .int (nI (rn + 1)), .ref m4, .ref m5, .ref m6, .int (nI mw), .ref m7, .ref m8, .int (nI mh), .ref m9, .ref m10, .int (nI mm), .ref m11, .int (nI mr), .ref m12, .ref m13, .ref m14, .ref m15, .ref m16, .ref m17, .ref m18, .int mt])), (m17, .inl (cI, 240, .inl sc)), (m4, .inl (cI, 7, .inl (nA (va_up qk rn 2)))), (m5, .inl (cI, 7, .inl (nA (va_up ql rn v)))), (m6, .inl (cI, 7, .inl (nA (va_up qe rn w))))] : va_W) = [(hM, .inr (11, [.int (nI mf), .int (nI mn), .ref m1, .ref m2, .ref m3, .int (nI mb), .int (nI (ra + 4)), .int (nI (rn + 1)), .ref m4, .ref m5, .ref m6, .int (nI mw), .ref m7, .ref m8, .int (nI mh), .ref m9, .ref m10, .int (nI mm), .ref m11, .int (nI mr), .ref m12, .ref m13, .ref m14, .ref m15, .ref m16, .ref m17, .ref m18, .int mt])), (m17, .inl (cI, 240, .inl sc)), (m4, .inl (cI, 7, .inl (nA (va_up qk rn (kdc (sc (fr + (ra + 1)))))))), (m5, .inl (cI, 7, .inl (nA (va_up ql rn v)))), (m6, .inl (cI, 7, .inl (nA (va_up qe rn w))))] := by rw [← e_33, ← e_34]
    exact ret _ () _ _ _ _ dX11_readsPerson_168 (rfl) (kP_cast hP q_35) (kD_cast hD q_35) hS
def rm_X11_readsPerson_full : Room := { frames := 2, cells := 0, slots := 0, locals := 50 }
set_option maxHeartbeats 4000000 in
set_option maxRecDepth 100000 in
theorem c_X11_readsPerson_full (l : Launch) (D : va_G) (cI cZ cS cP : ClassId) (hM : Nat) (m1 : Nat) (m2 : Nat) (m3 : Nat) (m4 : Nat) (m5 : Nat) (m6 : Nat) (m7 : Nat) (m8 : Nat) (m9 : Nat) (m10 : Nat) (m11 : Nat) (m12 : Nat) (m13 : Nat) (m14 : Nat) (m15 : Nat) (m16 : Nat) (m17 : Nat) (m18 : Nat) (mf : Nat) (mn : Nat) (mb : Nat) (ra : Nat) (rn : Nat) (mw : Nat) (mh : Nat) (mm : Nat) (mr : Nat) (mt : Int32) (sc : Nat → Int32) (fr : Nat) (nn : Nat) (v : Nat) (hfr : fr + nn ≤ 240) (hrn : rn = 7) : kMi (S := Unit) l yX11_readsPerson wsX11_readsPerson rm_X11_readsPerson_full D (kT cI cZ cS cP) [.ref hM, .int (nI fr), .int (nI nn)] [(hM, .inr (11, [.int (nI mf), .int (nI mn), .ref m1, .ref m2, .ref m3, .int (nI mb), .int (nI ra), .int (nI rn), .ref m4, .ref m5, .ref m6, .int (nI mw), .ref m7, .ref m8, .int (nI mh), .ref m9, .ref m10, .int (nI mm), .ref m11, .int (nI mr), .ref m12, .ref m13, .ref m14, .ref m15, .ref m16, .ref m17, .ref m18, .int mt])), (m17, .inl (cI, 240, .inl sc))] (fun r _ => r = (nI 0)) (fun _ => [(hM, .inr (11, [.int (nI mf), .int (nI mn), .ref m1, .ref m2, .ref m3, .int (nI mb), .int (nI ra), .int (nI rn), .ref m4, .ref m5, .ref m6, .int (nI mw), .ref m7, .ref m8, .int (nI mh), .ref m9, .ref m10, .int (nI mm), .ref m11, .int (nI mr), .ref m12, .ref m13, .ref m14, .ref m15, .ref m16, .ref m17, .ref m18, .int mt])), (m17, .inl (cI, 240, .inl sc))]) := by
  refine kMet_i (cc := cX11_readsPerson) (maxL := 6) (ty := .boolean) (by decide) rfl (Nat.le_of_ble_eq_true rfl) (fun _ _ q => by (first | subst q | (obtain ⟨q, -⟩ := q; subst q)); (first | exact kz_nr | decide)) ?_
  intro p e s m args below meth c A Q ls C hlocks hin hN hK hP hD hS hA hl ret
  obtain ⟨hx, hb, hml, hown, hts⟩ := C
  have hl : lv_has ls 6 [(0, .ref hM), (1, .int (nI fr)), (2, .int (nI nn))] := hl
  have in_X11 : ∀ w ∈ wsX110, w ∈ wsX11_readsPerson := by decide +kernel
  have lk0 := hts (.fieldLink RX11 91 "SilkWordModel" "readPersons" "I") (by decide +kernel)
  refine lv_aload_n hx hb dX11_readsPerson_0 rfl (lv_at hl 0 rfl) ?_
  refine va_get (D := D) (ci := 11) (v := .int (nI rn)) (C := RX11) (T := TX11) (N := 28) hx hb hts in_X11 hown hK hP 0 rfl rfl 7 (by decide) lk0 (fun _ h9 => h9) rfl dX11_readsPerson_1 ?_
  refine lv_bipush (v := (nI 7)) hx hb dX11_readsPerson_4 (by decide) ?_
  refine k_icmp_eq (tgt := 20) hx hb dX11_readsPerson_6 (by decide) (show rn < 2 ^ 31 by first | omega | (split <;> omega)) (show 7 < 2 ^ 31 by first | omega | (split <;> omega)) (fun c_1 => ?_) (fun c_1 => absurd c_1 (by omega))
  refine lv_iconst (v := (nI 0)) hx hb dX11_readsPerson_20 (by decide) ?_
  exact ret _ () _ _ _ _ dX11_readsPerson_21 (rfl) hP hD hS
def rm_X11_readsPerson_e0 : Room := { frames := 2, cells := 0, slots := 0, locals := 50 }
set_option maxHeartbeats 4000000 in
set_option maxRecDepth 100000 in
theorem c_X11_readsPerson_e0 (l : Launch) (D : va_G) (cI cZ cS cP : ClassId) (hM : Nat) (m1 : Nat) (m2 : Nat) (m3 : Nat) (m4 : Nat) (m5 : Nat) (m6 : Nat) (m7 : Nat) (m8 : Nat) (m9 : Nat) (m10 : Nat) (m11 : Nat) (m12 : Nat) (m13 : Nat) (m14 : Nat) (m15 : Nat) (m16 : Nat) (m17 : Nat) (m18 : Nat) (mf : Nat) (mn : Nat) (mb : Nat) (ra : Nat) (rn : Nat) (mw : Nat) (mh : Nat) (mm : Nat) (mr : Nat) (mt : Int32) (sc : Nat → Int32) (fr : Nat) (nn : Nat) (v : Nat) (hfr : fr + nn ≤ 240) (hrn : rn < 7) (hn0 : nn ≤ ra) (hra2 : ra ≤ 200) : kMi (S := Unit) l yX11_readsPerson wsX11_readsPerson rm_X11_readsPerson_e0 D (kT cI cZ cS cP) [.ref hM, .int (nI fr), .int (nI nn)] [(hM, .inr (11, [.int (nI mf), .int (nI mn), .ref m1, .ref m2, .ref m3, .int (nI mb), .int (nI ra), .int (nI rn), .ref m4, .ref m5, .ref m6, .int (nI mw), .ref m7, .ref m8, .int (nI mh), .ref m9, .ref m10, .int (nI mm), .ref m11, .int (nI mr), .ref m12, .ref m13, .ref m14, .ref m15, .ref m16, .ref m17, .ref m18, .int mt])), (m17, .inl (cI, 240, .inl sc))] (fun r _ => r = (nI 0)) (fun _ => [(hM, .inr (11, [.int (nI mf), .int (nI mn), .ref m1, .ref m2, .ref m3, .int (nI mb), .int (nI ra), .int (nI rn), .ref m4, .ref m5, .ref m6, .int (nI mw), .ref m7, .ref m8, .int (nI mh), .ref m9, .ref m10, .int (nI mm), .ref m11, .int (nI mr), .ref m12, .ref m13, .ref m14, .ref m15, .ref m16, .ref m17, .ref m18, .int mt])), (m17, .inl (cI, 240, .inl sc))]) := by
  refine kMet_i (cc := cX11_readsPerson) (maxL := 6) (ty := .boolean) (by decide) rfl (Nat.le_of_ble_eq_true rfl) (fun _ _ q => by (first | subst q | (obtain ⟨q, -⟩ := q; subst q)); (first | exact kz_nr | decide)) ?_
  intro p e s m args below meth c A Q ls C hlocks hin hN hK hP hD hS hA hl ret
  obtain ⟨hx, hb, hml, hown, hts⟩ := C
  have hl : lv_has ls 6 [(0, .ref hM), (1, .int (nI fr)), (2, .int (nI nn))] := hl
  have in_X11 : ∀ w ∈ wsX110, w ∈ wsX11_readsPerson := by decide +kernel
  have lk0 := hts (.fieldLink RX11 91 "SilkWordModel" "readPersons" "I") (by decide +kernel)
  refine lv_aload_n hx hb dX11_readsPerson_0 rfl (lv_at hl 0 rfl) ?_
  refine va_get (D := D) (ci := 11) (v := .int (nI rn)) (C := RX11) (T := TX11) (N := 28) hx hb hts in_X11 hown hK hP 0 rfl rfl 7 (by decide) lk0 (fun _ h9 => h9) rfl dX11_readsPerson_1 ?_
  refine lv_bipush (v := (nI 7)) hx hb dX11_readsPerson_4 (by decide) ?_
  refine k_icmp_eq (tgt := 20) hx hb dX11_readsPerson_6 (by decide) (show rn < 2 ^ 31 by first | omega | (split <;> omega)) (show 7 < 2 ^ 31 by first | omega | (split <;> omega)) (fun c_1 => absurd c_1 (by omega)) (fun c_1 => ?_)
  refine lv_aload_n hx hb dX11_readsPerson_9 rfl (lv_at hl 0 rfl) ?_
  refine lv_iload_n hx hb dX11_readsPerson_10 rfl (lv_at hl 1 rfl) ?_
  refine lv_iload_n hx hb dX11_readsPerson_11 rfl (lv_at hl 2 rfl) ?_
  refine k_goi (S := Unit) (va_runV (As := [.int (nI fr), .int (nI nn)]) (rest := []) ⟨hx, hb, hml, hown, hts⟩ (c_X11_codeAt_out l D cI cZ cS cP hM m1 m2 m3 m4 m5 m6 m7 m8 m9 m10 m11 m12 m13 m14 m15 m16 m17 m18 mf mn mb ra rn mw mh mm mr mt sc fr nn (by first | assumption | omega) (by first | assumption | omega) (by first | assumption | omega) _) (cwV 2 hts gX11_readsPerson_X11_codeAt rfl rfl rfl (by decide +kernel) ⟨Nat.le_of_ble_eq_true rfl, Nat.le_of_ble_eq_true rfl⟩) (kPreV hN hK hP hD [0, 1] rfl rfl (q0 := 0) (ci := 11) (q := (RX11, TX11, 28)) rfl rfl) rfl rfl hl.1 rfl (lv_room (Nat.le_of_ble_eq_true rfl)) dX11_readsPerson_12 ⟨Nat.le_of_ble_eq_true rfl, Nat.le_of_ble_eq_true rfl⟩) hP hD hS hA [0, 1] rfl [hM, m17] rfl (fun _ => rfl) 2 [] rfl (fun _u => [(hM, .inr (11, [.int (nI mf), .int (nI mn), .ref m1, .ref m2, .ref m3, .int (nI mb), .int (nI ra), .int (nI rn), .ref m4, .ref m5, .ref m6, .int (nI mw), .ref m7, .ref m8, .int (nI mh), .ref m9, .ref m10, .int (nI mm), .ref m11, .int (nI mr), .ref m12, .ref m13, .ref m14, .ref m15, .ref m16, .ref m17, .ref m18, .int mt])), (m17, .inl (cI, 240, .inl sc))]) (fun _ => rfl) [] [] (fun _ => rfl) rfl (fun _ => rfl) rfl (fun r_2 _u H locs hr_3 hP hD hS => ?_)
  have hP : va_P D vwCl [(hM, .inr (11, [.int (nI mf), .int (nI mn), .ref m1, .ref m2, .ref m3, .int (nI mb), .int (nI ra), .int (nI rn), .ref m4, .ref m5, .ref m6, .int (nI mw), .ref m7, .ref m8, .int (nI mh), .ref m9, .ref m10, .int (nI mm), .ref m11, .int (nI mr), .ref m12, .ref m13, .ref m14, .ref m15, .ref m16, .ref m17, .ref m18, .int mt])), (m17, .inl (cI, 240, .inl sc))] H := hP
  have hD : va_D A [(hM, .inr (11, [.int (nI mf), .int (nI mn), .ref m1, .ref m2, .ref m3, .int (nI mb), .int (nI ra), .int (nI rn), .ref m4, .ref m5, .ref m6, .int (nI mw), .ref m7, .ref m8, .int (nI mh), .ref m9, .ref m10, .int (nI mm), .ref m11, .int (nI mr), .ref m12, .ref m13, .ref m14, .ref m15, .ref m16, .ref m17, .ref m18, .int mt])), (m17, .inl (cI, 240, .inl sc))] := hD
  subst hr_3
  refine lv_bipush (v := (nI 59)) hx hb dX11_readsPerson_15 (by decide) ?_
  refine lv_icmp_eq (tgt := 22) hx hb dX11_readsPerson_17 (by decide) (fun c_4 => absurd c_4 (by decide)) (fun c_4 => ?_)
  refine lv_iconst (v := (nI 0)) hx hb dX11_readsPerson_20 (by decide) ?_
  exact ret _ () _ _ _ _ dX11_readsPerson_21 (rfl) hP hD hS
def rm_X11_readsPerson_w0 : Room := { frames := 2, cells := 0, slots := 0, locals := 50 }
set_option maxHeartbeats 4000000 in
set_option maxRecDepth 100000 in
theorem c_X11_readsPerson_w0 (l : Launch) (D : va_G) (cI cZ cS cP : ClassId) (hM : Nat) (m1 : Nat) (m2 : Nat) (m3 : Nat) (m4 : Nat) (m5 : Nat) (m6 : Nat) (m7 : Nat) (m8 : Nat) (m9 : Nat) (m10 : Nat) (m11 : Nat) (m12 : Nat) (m13 : Nat) (m14 : Nat) (m15 : Nat) (m16 : Nat) (m17 : Nat) (m18 : Nat) (mf : Nat) (mn : Nat) (mb : Nat) (ra : Nat) (rn : Nat) (mw : Nat) (mh : Nat) (mm : Nat) (mr : Nat) (mt : Int32) (sc : Nat → Int32) (fr : Nat) (nn : Nat) (v : Nat) (hfr : fr + nn ≤ 240) (hrn : rn < 7) (hn0 : ra < nn) (h0 : ¬ sc (fr + ra) = nI 59) : kMi (S := Unit) l yX11_readsPerson wsX11_readsPerson rm_X11_readsPerson_w0 D (kT cI cZ cS cP) [.ref hM, .int (nI fr), .int (nI nn)] [(hM, .inr (11, [.int (nI mf), .int (nI mn), .ref m1, .ref m2, .ref m3, .int (nI mb), .int (nI ra), .int (nI rn), .ref m4, .ref m5, .ref m6, .int (nI mw), .ref m7, .ref m8, .int (nI mh), .ref m9, .ref m10, .int (nI mm), .ref m11, .int (nI mr), .ref m12, .ref m13, .ref m14, .ref m15, .ref m16, .ref m17, .ref m18, .int mt])), (m17, .inl (cI, 240, .inl sc))] (fun r _ => r = (nI 0)) (fun _ => [(hM, .inr (11, [.int (nI mf), .int (nI mn), .ref m1, .ref m2, .ref m3, .int (nI mb), .int (nI ra), .int (nI rn), .ref m4, .ref m5, .ref m6, .int (nI mw), .ref m7, .ref m8, .int (nI mh), .ref m9, .ref m10, .int (nI mm), .ref m11, .int (nI mr), .ref m12, .ref m13, .ref m14, .ref m15, .ref m16, .ref m17, .ref m18, .int mt])), (m17, .inl (cI, 240, .inl sc))]) := by
  refine kMet_i (cc := cX11_readsPerson) (maxL := 6) (ty := .boolean) (by decide) rfl (Nat.le_of_ble_eq_true rfl) (fun _ _ q => by (first | subst q | (obtain ⟨q, -⟩ := q; subst q)); (first | exact kz_nr | decide)) ?_
  intro p e s m args below meth c A Q ls C hlocks hin hN hK hP hD hS hA hl ret
  obtain ⟨hx, hb, hml, hown, hts⟩ := C
  have hl : lv_has ls 6 [(0, .ref hM), (1, .int (nI fr)), (2, .int (nI nn))] := hl
  have in_X11 : ∀ w ∈ wsX110, w ∈ wsX11_readsPerson := by decide +kernel
  have lk0 := hts (.fieldLink RX11 91 "SilkWordModel" "readPersons" "I") (by decide +kernel)
  refine lv_aload_n hx hb dX11_readsPerson_0 rfl (lv_at hl 0 rfl) ?_
  refine va_get (D := D) (ci := 11) (v := .int (nI rn)) (C := RX11) (T := TX11) (N := 28) hx hb hts in_X11 hown hK hP 0 rfl rfl 7 (by decide) lk0 (fun _ h9 => h9) rfl dX11_readsPerson_1 ?_
  refine lv_bipush (v := (nI 7)) hx hb dX11_readsPerson_4 (by decide) ?_
  refine k_icmp_eq (tgt := 20) hx hb dX11_readsPerson_6 (by decide) (show rn < 2 ^ 31 by first | omega | (split <;> omega)) (show 7 < 2 ^ 31 by first | omega | (split <;> omega)) (fun c_1 => absurd c_1 (by omega)) (fun c_1 => ?_)
  refine lv_aload_n hx hb dX11_readsPerson_9 rfl (lv_at hl 0 rfl) ?_
  refine lv_iload_n hx hb dX11_readsPerson_10 rfl (lv_at hl 1 rfl) ?_
  refine lv_iload_n hx hb dX11_readsPerson_11 rfl (lv_at hl 2 rfl) ?_
  refine k_goi (S := Unit) (va_runV (As := [.int (nI fr), .int (nI nn)]) (rest := []) ⟨hx, hb, hml, hown, hts⟩ (c_X11_codeAt_in l D cI cZ cS cP hM m1 m2 m3 m4 m5 m6 m7 m8 m9 m10 m11 m12 m13 m14 m15 m16 m17 m18 mf mn mb ra rn mw mh mm mr mt sc fr nn (by first | assumption | omega) (by first | assumption | omega) _) (cwV 2 hts gX11_readsPerson_X11_codeAt rfl rfl rfl (by decide +kernel) ⟨Nat.le_of_ble_eq_true rfl, Nat.le_of_ble_eq_true rfl⟩) (kPreV hN hK hP hD [0, 1] rfl rfl (q0 := 0) (ci := 11) (q := (RX11, TX11, 28)) rfl rfl) rfl rfl hl.1 rfl (lv_room (Nat.le_of_ble_eq_true rfl)) dX11_readsPerson_12 ⟨Nat.le_of_ble_eq_true rfl, Nat.le_of_ble_eq_true rfl⟩) hP hD hS hA [0, 1] rfl [hM, m17] rfl (fun _ => rfl) 2 [] rfl (fun _u => [(hM, .inr (11, [.int (nI mf), .int (nI mn), .ref m1, .ref m2, .ref m3, .int (nI mb), .int (nI ra), .int (nI rn), .ref m4, .ref m5, .ref m6, .int (nI mw), .ref m7, .ref m8, .int (nI mh), .ref m9, .ref m10, .int (nI mm), .ref m11, .int (nI mr), .ref m12, .ref m13, .ref m14, .ref m15, .ref m16, .ref m17, .ref m18, .int mt])), (m17, .inl (cI, 240, .inl sc))]) (fun _ => rfl) [] [] (fun _ => rfl) rfl (fun _ => rfl) rfl (fun r_2 _u H locs hr_3 hP hD hS => ?_)
  have hP : va_P D vwCl [(hM, .inr (11, [.int (nI mf), .int (nI mn), .ref m1, .ref m2, .ref m3, .int (nI mb), .int (nI ra), .int (nI rn), .ref m4, .ref m5, .ref m6, .int (nI mw), .ref m7, .ref m8, .int (nI mh), .ref m9, .ref m10, .int (nI mm), .ref m11, .int (nI mr), .ref m12, .ref m13, .ref m14, .ref m15, .ref m16, .ref m17, .ref m18, .int mt])), (m17, .inl (cI, 240, .inl sc))] H := hP
  have hD : va_D A [(hM, .inr (11, [.int (nI mf), .int (nI mn), .ref m1, .ref m2, .ref m3, .int (nI mb), .int (nI ra), .int (nI rn), .ref m4, .ref m5, .ref m6, .int (nI mw), .ref m7, .ref m8, .int (nI mh), .ref m9, .ref m10, .int (nI mm), .ref m11, .int (nI mr), .ref m12, .ref m13, .ref m14, .ref m15, .ref m16, .ref m17, .ref m18, .int mt])), (m17, .inl (cI, 240, .inl sc))] := hD
  subst hr_3
  refine lv_bipush (v := (nI 59)) hx hb dX11_readsPerson_15 (by decide) ?_
  refine lv_icmp_eq (tgt := 22) hx hb dX11_readsPerson_17 (by decide) (fun c_4 => absurd c_4 (h0)) (fun c_4 => ?_)
  refine lv_iconst (v := (nI 0)) hx hb dX11_readsPerson_20 (by decide) ?_
  exact ret _ () _ _ _ _ dX11_readsPerson_21 (rfl) hP hD hS
def rm_X11_readsPerson_e1 : Room := { frames := 2, cells := 0, slots := 0, locals := 50 }
set_option maxHeartbeats 4000000 in
set_option maxRecDepth 100000 in
theorem c_X11_readsPerson_e1 (l : Launch) (D : va_G) (cI cZ cS cP : ClassId) (hM : Nat) (m1 : Nat) (m2 : Nat) (m3 : Nat) (m4 : Nat) (m5 : Nat) (m6 : Nat) (m7 : Nat) (m8 : Nat) (m9 : Nat) (m10 : Nat) (m11 : Nat) (m12 : Nat) (m13 : Nat) (m14 : Nat) (m15 : Nat) (m16 : Nat) (m17 : Nat) (m18 : Nat) (mf : Nat) (mn : Nat) (mb : Nat) (ra : Nat) (rn : Nat) (mw : Nat) (mh : Nat) (mm : Nat) (mr : Nat) (mt : Int32) (sc : Nat → Int32) (fr : Nat) (nn : Nat) (v : Nat) (hfr : fr + nn ≤ 240) (hrn : rn < 7) (h0 : sc (fr + ra) = nI 59) (hn0 : ra < nn) (hn1 : nn ≤ ra + 1) (hra2 : ra ≤ 200) : kMi (S := Unit) l yX11_readsPerson wsX11_readsPerson rm_X11_readsPerson_e1 D (kT cI cZ cS cP) [.ref hM, .int (nI fr), .int (nI nn)] [(hM, .inr (11, [.int (nI mf), .int (nI mn), .ref m1, .ref m2, .ref m3, .int (nI mb), .int (nI ra), .int (nI rn), .ref m4, .ref m5, .ref m6, .int (nI mw), .ref m7, .ref m8, .int (nI mh), .ref m9, .ref m10, .int (nI mm), .ref m11, .int (nI mr), .ref m12, .ref m13, .ref m14, .ref m15, .ref m16, .ref m17, .ref m18, .int mt])), (m17, .inl (cI, 240, .inl sc))] (fun r _ => r = (nI 0)) (fun _ => [(hM, .inr (11, [.int (nI mf), .int (nI mn), .ref m1, .ref m2, .ref m3, .int (nI mb), .int (nI (ra + 1)), .int (nI rn), .ref m4, .ref m5, .ref m6, .int (nI mw), .ref m7, .ref m8, .int (nI mh), .ref m9, .ref m10, .int (nI mm), .ref m11, .int (nI mr), .ref m12, .ref m13, .ref m14, .ref m15, .ref m16, .ref m17, .ref m18, .int mt])), (m17, .inl (cI, 240, .inl sc))]) := by
  refine kMet_i (cc := cX11_readsPerson) (maxL := 6) (ty := .boolean) (by decide) rfl (Nat.le_of_ble_eq_true rfl) (fun _ _ q => by (first | subst q | (obtain ⟨q, -⟩ := q; subst q)); (first | exact kz_nr | decide)) ?_
  intro p e s m args below meth c A Q ls C hlocks hin hN hK hP hD hS hA hl ret
  obtain ⟨hx, hb, hml, hown, hts⟩ := C
  have hl : lv_has ls 6 [(0, .ref hM), (1, .int (nI fr)), (2, .int (nI nn))] := hl
  have in_X11 : ∀ w ∈ wsX110, w ∈ wsX11_readsPerson := by decide +kernel
  have lk0 := hts (.fieldLink RX11 91 "SilkWordModel" "readPersons" "I") (by decide +kernel)
  have lk1 := hts (.fieldLink RX11 84 "SilkWordModel" "readAt" "I") (by decide +kernel)
  refine lv_aload_n hx hb dX11_readsPerson_0 rfl (lv_at hl 0 rfl) ?_
  refine va_get (D := D) (ci := 11) (v := .int (nI rn)) (C := RX11) (T := TX11) (N := 28) hx hb hts in_X11 hown hK hP 0 rfl rfl 7 (by decide) lk0 (fun _ h9 => h9) rfl dX11_readsPerson_1 ?_
  refine lv_bipush (v := (nI 7)) hx hb dX11_readsPerson_4 (by decide) ?_
  refine k_icmp_eq (tgt := 20) hx hb dX11_readsPerson_6 (by decide) (show rn < 2 ^ 31 by first | omega | (split <;> omega)) (show 7 < 2 ^ 31 by first | omega | (split <;> omega)) (fun c_1 => absurd c_1 (by omega)) (fun c_1 => ?_)
  refine lv_aload_n hx hb dX11_readsPerson_9 rfl (lv_at hl 0 rfl) ?_
  refine lv_iload_n hx hb dX11_readsPerson_10 rfl (lv_at hl 1 rfl) ?_
  refine lv_iload_n hx hb dX11_readsPerson_11 rfl (lv_at hl 2 rfl) ?_
  refine k_goi (S := Unit) (va_runV (As := [.int (nI fr), .int (nI nn)]) (rest := []) ⟨hx, hb, hml, hown, hts⟩ (c_X11_codeAt_in l D cI cZ cS cP hM m1 m2 m3 m4 m5 m6 m7 m8 m9 m10 m11 m12 m13 m14 m15 m16 m17 m18 mf mn mb ra rn mw mh mm mr mt sc fr nn (by first | assumption | omega) (by first | assumption | omega) _) (cwV 2 hts gX11_readsPerson_X11_codeAt rfl rfl rfl (by decide +kernel) ⟨Nat.le_of_ble_eq_true rfl, Nat.le_of_ble_eq_true rfl⟩) (kPreV hN hK hP hD [0, 1] rfl rfl (q0 := 0) (ci := 11) (q := (RX11, TX11, 28)) rfl rfl) rfl rfl hl.1 rfl (lv_room (Nat.le_of_ble_eq_true rfl)) dX11_readsPerson_12 ⟨Nat.le_of_ble_eq_true rfl, Nat.le_of_ble_eq_true rfl⟩) hP hD hS hA [0, 1] rfl [hM, m17] rfl (fun _ => rfl) 2 [] rfl (fun _u => [(hM, .inr (11, [.int (nI mf), .int (nI mn), .ref m1, .ref m2, .ref m3, .int (nI mb), .int (nI ra), .int (nI rn), .ref m4, .ref m5, .ref m6, .int (nI mw), .ref m7, .ref m8, .int (nI mh), .ref m9, .ref m10, .int (nI mm), .ref m11, .int (nI mr), .ref m12, .ref m13, .ref m14, .ref m15, .ref m16, .ref m17, .ref m18, .int mt])), (m17, .inl (cI, 240, .inl sc))]) (fun _ => rfl) [] [] (fun _ => rfl) rfl (fun _ => rfl) rfl (fun r_2 _u H locs hr_3 hP hD hS => ?_)
  have hP : va_P D vwCl [(hM, .inr (11, [.int (nI mf), .int (nI mn), .ref m1, .ref m2, .ref m3, .int (nI mb), .int (nI ra), .int (nI rn), .ref m4, .ref m5, .ref m6, .int (nI mw), .ref m7, .ref m8, .int (nI mh), .ref m9, .ref m10, .int (nI mm), .ref m11, .int (nI mr), .ref m12, .ref m13, .ref m14, .ref m15, .ref m16, .ref m17, .ref m18, .int mt])), (m17, .inl (cI, 240, .inl sc))] H := hP
  have hD : va_D A [(hM, .inr (11, [.int (nI mf), .int (nI mn), .ref m1, .ref m2, .ref m3, .int (nI mb), .int (nI ra), .int (nI rn), .ref m4, .ref m5, .ref m6, .int (nI mw), .ref m7, .ref m8, .int (nI mh), .ref m9, .ref m10, .int (nI mm), .ref m11, .int (nI mr), .ref m12, .ref m13, .ref m14, .ref m15, .ref m16, .ref m17, .ref m18, .int mt])), (m17, .inl (cI, 240, .inl sc))] := hD
  subst hr_3
  refine k_eqi (show (sc (fr + ra)) = (nI 59) from h0) ?_
  refine lv_bipush (v := (nI 59)) hx hb dX11_readsPerson_15 (by decide) ?_
  refine k_icmp_eq (tgt := 22) hx hb dX11_readsPerson_17 (by decide) (show 59 < 2 ^ 31 by first | omega | (split <;> omega)) (show 59 < 2 ^ 31 by first | omega | (split <;> omega)) (fun _ => ?_) (fun q9 => absurd q9 (by decide))
  refine lv_aload_n hx hb dX11_readsPerson_22 rfl (lv_at hl 0 rfl) ?_
  refine lv_dup hx hb dX11_readsPerson_23 rfl ?_
  refine va_get (D := D) (ci := 11) (v := .int (nI ra)) (C := RX11) (T := TX11) (N := 28) hx hb hts in_X11 hown hK hP 0 rfl rfl 6 (by decide) lk1 (fun _ h9 => h9) rfl dX11_readsPerson_24 ?_
  refine lv_iconst (v := (nI 1)) hx hb dX11_readsPerson_27 (by decide) ?_
  refine lv_iadd hx hb dX11_readsPerson_28 ?_
  refine k_eqi (show ((nI ra) + (nI 1)) = (nI (ra + 1)) from nI_add ra 1) ?_
  refine va_put (D := D) (ci := 11) (v := .int (nI (ra + 1))) (ty := .int) (C := RX11) (T := TX11) (N := 28) hx hb hts in_X11 tyX11 tyX11_ok nmX11 hown hK hP hD hS 0 rfl rfl 6 (by decide) lk1 (fun _ h9 => h9) rfl (by decide +kernel) rfl rfl (Nat.le_of_ble_eq_true rfl) dX11_readsPerson_29 (fun H locs hP hD hS => ?_)
  have hP : va_P D vwCl [(hM, .inr (11, [.int (nI mf), .int (nI mn), .ref m1, .ref m2, .ref m3, .int (nI mb), .int (nI (ra + 1)), .int (nI rn), .ref m4, .ref m5, .ref m6, .int (nI mw), .ref m7, .ref m8, .int (nI mh), .ref m9, .ref m10, .int (nI mm), .ref m11, .int (nI mr), .ref m12, .ref m13, .ref m14, .ref m15, .ref m16, .ref m17, .ref m18, .int mt])), (m17, .inl (cI, 240, .inl sc))] H := hP
  have hD : va_D A [(hM, .inr (11, [.int (nI mf), .int (nI mn), .ref m1, .ref m2, .ref m3, .int (nI mb), .int (nI (ra + 1)), .int (nI rn), .ref m4, .ref m5, .ref m6, .int (nI mw), .ref m7, .ref m8, .int (nI mh), .ref m9, .ref m10, .int (nI mm), .ref m11, .int (nI mr), .ref m12, .ref m13, .ref m14, .ref m15, .ref m16, .ref m17, .ref m18, .int mt])), (m17, .inl (cI, 240, .inl sc))] := hD
  refine lv_aload_n hx hb dX11_readsPerson_32 rfl (lv_at hl 0 rfl) ?_
  refine lv_iload_n hx hb dX11_readsPerson_33 rfl (lv_at hl 1 rfl) ?_
  refine lv_iload_n hx hb dX11_readsPerson_34 rfl (lv_at hl 2 rfl) ?_
  refine k_goi (S := Unit) (va_runV (As := [.int (nI fr), .int (nI nn)]) (rest := []) ⟨hx, hb, hml, hown, hts⟩ (c_X11_codeAt_out l D cI cZ cS cP hM m1 m2 m3 m4 m5 m6 m7 m8 m9 m10 m11 m12 m13 m14 m15 m16 m17 m18 mf mn mb (ra + 1) rn mw mh mm mr mt sc fr nn (by first | assumption | omega) (by first | assumption | omega) (by first | assumption | omega) _) (cwV 2 hts gX11_readsPerson_X11_codeAt rfl rfl rfl (by decide +kernel) ⟨Nat.le_of_ble_eq_true rfl, Nat.le_of_ble_eq_true rfl⟩) (kPreV hN hK hP hD [0, 1] rfl rfl (q0 := 0) (ci := 11) (q := (RX11, TX11, 28)) rfl rfl) rfl rfl hl.1 rfl (lv_room (Nat.le_of_ble_eq_true rfl)) dX11_readsPerson_35 ⟨Nat.le_of_ble_eq_true rfl, Nat.le_of_ble_eq_true rfl⟩) hP hD hS hA [0, 1] rfl [hM, m17] rfl (fun _ => rfl) 2 [] rfl (fun _u => [(hM, .inr (11, [.int (nI mf), .int (nI mn), .ref m1, .ref m2, .ref m3, .int (nI mb), .int (nI (ra + 1)), .int (nI rn), .ref m4, .ref m5, .ref m6, .int (nI mw), .ref m7, .ref m8, .int (nI mh), .ref m9, .ref m10, .int (nI mm), .ref m11, .int (nI mr), .ref m12, .ref m13, .ref m14, .ref m15, .ref m16, .ref m17, .ref m18, .int mt])), (m17, .inl (cI, 240, .inl sc))]) (fun _ => rfl) [] [] (fun _ => rfl) rfl (fun _ => rfl) rfl (fun r_4 _u H locs hr_5 hP hD hS => ?_)
  have hP : va_P D vwCl [(hM, .inr (11, [.int (nI mf), .int (nI mn), .ref m1, .ref m2, .ref m3, .int (nI mb), .int (nI (ra + 1)), .int (nI rn), .ref m4, .ref m5, .ref m6, .int (nI mw), .ref m7, .ref m8, .int (nI mh), .ref m9, .ref m10, .int (nI mm), .ref m11, .int (nI mr), .ref m12, .ref m13, .ref m14, .ref m15, .ref m16, .ref m17, .ref m18, .int mt])), (m17, .inl (cI, 240, .inl sc))] H := hP
  have hD : va_D A [(hM, .inr (11, [.int (nI mf), .int (nI mn), .ref m1, .ref m2, .ref m3, .int (nI mb), .int (nI (ra + 1)), .int (nI rn), .ref m4, .ref m5, .ref m6, .int (nI mw), .ref m7, .ref m8, .int (nI mh), .ref m9, .ref m10, .int (nI mm), .ref m11, .int (nI mr), .ref m12, .ref m13, .ref m14, .ref m15, .ref m16, .ref m17, .ref m18, .int mt])), (m17, .inl (cI, 240, .inl sc))] := hD
  subst hr_5
  refine lv_istore_n (lv' := [(3, .int (-9)), (0, .ref hM), (1, .int (nI fr)), (2, .int (nI nn))]) hx hb dX11_readsPerson_38 rfl hl (by decide) rfl (fun ls hl => ?_)
  refine lv_iload_n hx hb dX11_readsPerson_39 rfl (lv_at hl 0 rfl) ?_
  refine lv_bipush (v := (nI 115)) hx hb dX11_readsPerson_40 (by decide) ?_
  refine lv_icmp_eq (tgt := 59) hx hb dX11_readsPerson_42 (by decide) (fun c_6 => absurd c_6 (by decide)) (fun c_6 => ?_)
  refine lv_iload_n hx hb dX11_readsPerson_45 rfl (lv_at hl 0 rfl) ?_
  refine lv_bipush (v := (nI 99)) hx hb dX11_readsPerson_46 (by decide) ?_
  refine lv_icmp_eq (tgt := 59) hx hb dX11_readsPerson_48 (by decide) (fun c_7 => absurd c_7 (by decide)) (fun c_7 => ?_)
  refine lv_iload_n hx hb dX11_readsPerson_51 rfl (lv_at hl 0 rfl) ?_
  refine lv_bipush (v := (nI 116)) hx hb dX11_readsPerson_52 (by decide) ?_
  refine lv_icmp_eq (tgt := 59) hx hb dX11_readsPerson_54 (by decide) (fun c_8 => absurd c_8 (by decide)) (fun c_8 => ?_)
  refine lv_iconst (v := (nI 0)) hx hb dX11_readsPerson_57 (by decide) ?_
  exact ret _ () _ _ _ _ dX11_readsPerson_58 (rfl) hP hD hS
def rm_X11_readsPerson_w1 : Room := { frames := 2, cells := 0, slots := 0, locals := 50 }
set_option maxHeartbeats 4000000 in
set_option maxRecDepth 100000 in
theorem c_X11_readsPerson_w1 (l : Launch) (D : va_G) (cI cZ cS cP : ClassId) (hM : Nat) (m1 : Nat) (m2 : Nat) (m3 : Nat) (m4 : Nat) (m5 : Nat) (m6 : Nat) (m7 : Nat) (m8 : Nat) (m9 : Nat) (m10 : Nat) (m11 : Nat) (m12 : Nat) (m13 : Nat) (m14 : Nat) (m15 : Nat) (m16 : Nat) (m17 : Nat) (m18 : Nat) (mf : Nat) (mn : Nat) (mb : Nat) (ra : Nat) (rn : Nat) (mw : Nat) (mh : Nat) (mm : Nat) (mr : Nat) (mt : Int32) (sc : Nat → Int32) (fr : Nat) (nn : Nat) (v : Nat) (hfr : fr + nn ≤ 240) (hrn : rn < 7) (h0 : sc (fr + ra) = nI 59) (hn0 : ra < nn) (hn1 : ra + 1 < nn) (h1 : ¬ (sc (fr + (ra + 1)) = nI 115 ∨ sc (fr + (ra + 1)) = nI 99 ∨ sc (fr + (ra + 1)) = nI 116)) : kMi (S := Unit) l yX11_readsPerson wsX11_readsPerson rm_X11_readsPerson_w1 D (kT cI cZ cS cP) [.ref hM, .int (nI fr), .int (nI nn)] [(hM, .inr (11, [.int (nI mf), .int (nI mn), .ref m1, .ref m2, .ref m3, .int (nI mb), .int (nI ra), .int (nI rn), .ref m4, .ref m5, .ref m6, .int (nI mw), .ref m7, .ref m8, .int (nI mh), .ref m9, .ref m10, .int (nI mm), .ref m11, .int (nI mr), .ref m12, .ref m13, .ref m14, .ref m15, .ref m16, .ref m17, .ref m18, .int mt])), (m17, .inl (cI, 240, .inl sc))] (fun r _ => r = (nI 0)) (fun _ => [(hM, .inr (11, [.int (nI mf), .int (nI mn), .ref m1, .ref m2, .ref m3, .int (nI mb), .int (nI (ra + 1)), .int (nI rn), .ref m4, .ref m5, .ref m6, .int (nI mw), .ref m7, .ref m8, .int (nI mh), .ref m9, .ref m10, .int (nI mm), .ref m11, .int (nI mr), .ref m12, .ref m13, .ref m14, .ref m15, .ref m16, .ref m17, .ref m18, .int mt])), (m17, .inl (cI, 240, .inl sc))]) := by
  refine kMet_i (cc := cX11_readsPerson) (maxL := 6) (ty := .boolean) (by decide) rfl (Nat.le_of_ble_eq_true rfl) (fun _ _ q => by (first | subst q | (obtain ⟨q, -⟩ := q; subst q)); (first | exact kz_nr | decide)) ?_
  intro p e s m args below meth c A Q ls C hlocks hin hN hK hP hD hS hA hl ret
  obtain ⟨hx, hb, hml, hown, hts⟩ := C
  have hl : lv_has ls 6 [(0, .ref hM), (1, .int (nI fr)), (2, .int (nI nn))] := hl
  have in_X11 : ∀ w ∈ wsX110, w ∈ wsX11_readsPerson := by decide +kernel
  have lk0 := hts (.fieldLink RX11 91 "SilkWordModel" "readPersons" "I") (by decide +kernel)
  have lk1 := hts (.fieldLink RX11 84 "SilkWordModel" "readAt" "I") (by decide +kernel)
  refine lv_aload_n hx hb dX11_readsPerson_0 rfl (lv_at hl 0 rfl) ?_
  refine va_get (D := D) (ci := 11) (v := .int (nI rn)) (C := RX11) (T := TX11) (N := 28) hx hb hts in_X11 hown hK hP 0 rfl rfl 7 (by decide) lk0 (fun _ h9 => h9) rfl dX11_readsPerson_1 ?_
  refine lv_bipush (v := (nI 7)) hx hb dX11_readsPerson_4 (by decide) ?_
  refine k_icmp_eq (tgt := 20) hx hb dX11_readsPerson_6 (by decide) (show rn < 2 ^ 31 by first | omega | (split <;> omega)) (show 7 < 2 ^ 31 by first | omega | (split <;> omega)) (fun c_1 => absurd c_1 (by omega)) (fun c_1 => ?_)
  refine lv_aload_n hx hb dX11_readsPerson_9 rfl (lv_at hl 0 rfl) ?_
  refine lv_iload_n hx hb dX11_readsPerson_10 rfl (lv_at hl 1 rfl) ?_
  refine lv_iload_n hx hb dX11_readsPerson_11 rfl (lv_at hl 2 rfl) ?_
  refine k_goi (S := Unit) (va_runV (As := [.int (nI fr), .int (nI nn)]) (rest := []) ⟨hx, hb, hml, hown, hts⟩ (c_X11_codeAt_in l D cI cZ cS cP hM m1 m2 m3 m4 m5 m6 m7 m8 m9 m10 m11 m12 m13 m14 m15 m16 m17 m18 mf mn mb ra rn mw mh mm mr mt sc fr nn (by first | assumption | omega) (by first | assumption | omega) _) (cwV 2 hts gX11_readsPerson_X11_codeAt rfl rfl rfl (by decide +kernel) ⟨Nat.le_of_ble_eq_true rfl, Nat.le_of_ble_eq_true rfl⟩) (kPreV hN hK hP hD [0, 1] rfl rfl (q0 := 0) (ci := 11) (q := (RX11, TX11, 28)) rfl rfl) rfl rfl hl.1 rfl (lv_room (Nat.le_of_ble_eq_true rfl)) dX11_readsPerson_12 ⟨Nat.le_of_ble_eq_true rfl, Nat.le_of_ble_eq_true rfl⟩) hP hD hS hA [0, 1] rfl [hM, m17] rfl (fun _ => rfl) 2 [] rfl (fun _u => [(hM, .inr (11, [.int (nI mf), .int (nI mn), .ref m1, .ref m2, .ref m3, .int (nI mb), .int (nI ra), .int (nI rn), .ref m4, .ref m5, .ref m6, .int (nI mw), .ref m7, .ref m8, .int (nI mh), .ref m9, .ref m10, .int (nI mm), .ref m11, .int (nI mr), .ref m12, .ref m13, .ref m14, .ref m15, .ref m16, .ref m17, .ref m18, .int mt])), (m17, .inl (cI, 240, .inl sc))]) (fun _ => rfl) [] [] (fun _ => rfl) rfl (fun _ => rfl) rfl (fun r_2 _u H locs hr_3 hP hD hS => ?_)
  have hP : va_P D vwCl [(hM, .inr (11, [.int (nI mf), .int (nI mn), .ref m1, .ref m2, .ref m3, .int (nI mb), .int (nI ra), .int (nI rn), .ref m4, .ref m5, .ref m6, .int (nI mw), .ref m7, .ref m8, .int (nI mh), .ref m9, .ref m10, .int (nI mm), .ref m11, .int (nI mr), .ref m12, .ref m13, .ref m14, .ref m15, .ref m16, .ref m17, .ref m18, .int mt])), (m17, .inl (cI, 240, .inl sc))] H := hP
  have hD : va_D A [(hM, .inr (11, [.int (nI mf), .int (nI mn), .ref m1, .ref m2, .ref m3, .int (nI mb), .int (nI ra), .int (nI rn), .ref m4, .ref m5, .ref m6, .int (nI mw), .ref m7, .ref m8, .int (nI mh), .ref m9, .ref m10, .int (nI mm), .ref m11, .int (nI mr), .ref m12, .ref m13, .ref m14, .ref m15, .ref m16, .ref m17, .ref m18, .int mt])), (m17, .inl (cI, 240, .inl sc))] := hD
  subst hr_3
  refine k_eqi (show (sc (fr + ra)) = (nI 59) from h0) ?_
  refine lv_bipush (v := (nI 59)) hx hb dX11_readsPerson_15 (by decide) ?_
  refine k_icmp_eq (tgt := 22) hx hb dX11_readsPerson_17 (by decide) (show 59 < 2 ^ 31 by first | omega | (split <;> omega)) (show 59 < 2 ^ 31 by first | omega | (split <;> omega)) (fun _ => ?_) (fun q9 => absurd q9 (by decide))
  refine lv_aload_n hx hb dX11_readsPerson_22 rfl (lv_at hl 0 rfl) ?_
  refine lv_dup hx hb dX11_readsPerson_23 rfl ?_
  refine va_get (D := D) (ci := 11) (v := .int (nI ra)) (C := RX11) (T := TX11) (N := 28) hx hb hts in_X11 hown hK hP 0 rfl rfl 6 (by decide) lk1 (fun _ h9 => h9) rfl dX11_readsPerson_24 ?_
  refine lv_iconst (v := (nI 1)) hx hb dX11_readsPerson_27 (by decide) ?_
  refine lv_iadd hx hb dX11_readsPerson_28 ?_
  refine k_eqi (show ((nI ra) + (nI 1)) = (nI (ra + 1)) from nI_add ra 1) ?_
  refine va_put (D := D) (ci := 11) (v := .int (nI (ra + 1))) (ty := .int) (C := RX11) (T := TX11) (N := 28) hx hb hts in_X11 tyX11 tyX11_ok nmX11 hown hK hP hD hS 0 rfl rfl 6 (by decide) lk1 (fun _ h9 => h9) rfl (by decide +kernel) rfl rfl (Nat.le_of_ble_eq_true rfl) dX11_readsPerson_29 (fun H locs hP hD hS => ?_)
  have hP : va_P D vwCl [(hM, .inr (11, [.int (nI mf), .int (nI mn), .ref m1, .ref m2, .ref m3, .int (nI mb), .int (nI (ra + 1)), .int (nI rn), .ref m4, .ref m5, .ref m6, .int (nI mw), .ref m7, .ref m8, .int (nI mh), .ref m9, .ref m10, .int (nI mm), .ref m11, .int (nI mr), .ref m12, .ref m13, .ref m14, .ref m15, .ref m16, .ref m17, .ref m18, .int mt])), (m17, .inl (cI, 240, .inl sc))] H := hP
  have hD : va_D A [(hM, .inr (11, [.int (nI mf), .int (nI mn), .ref m1, .ref m2, .ref m3, .int (nI mb), .int (nI (ra + 1)), .int (nI rn), .ref m4, .ref m5, .ref m6, .int (nI mw), .ref m7, .ref m8, .int (nI mh), .ref m9, .ref m10, .int (nI mm), .ref m11, .int (nI mr), .ref m12, .ref m13, .ref m14, .ref m15, .ref m16, .ref m17, .ref m18, .int mt])), (m17, .inl (cI, 240, .inl sc))] := hD
  refine lv_aload_n hx hb dX11_readsPerson_32 rfl (lv_at hl 0 rfl) ?_
  refine lv_iload_n hx hb dX11_readsPerson_33 rfl (lv_at hl 1 rfl) ?_
  refine lv_iload_n hx hb dX11_readsPerson_34 rfl (lv_at hl 2 rfl) ?_
  refine k_goi (S := Unit) (va_runV (As := [.int (nI fr), .int (nI nn)]) (rest := []) ⟨hx, hb, hml, hown, hts⟩ (c_X11_codeAt_in l D cI cZ cS cP hM m1 m2 m3 m4 m5 m6 m7 m8 m9 m10 m11 m12 m13 m14 m15 m16 m17 m18 mf mn mb (ra + 1) rn mw mh mm mr mt sc fr nn (by first | assumption | omega) (by first | assumption | omega) _) (cwV 2 hts gX11_readsPerson_X11_codeAt rfl rfl rfl (by decide +kernel) ⟨Nat.le_of_ble_eq_true rfl, Nat.le_of_ble_eq_true rfl⟩) (kPreV hN hK hP hD [0, 1] rfl rfl (q0 := 0) (ci := 11) (q := (RX11, TX11, 28)) rfl rfl) rfl rfl hl.1 rfl (lv_room (Nat.le_of_ble_eq_true rfl)) dX11_readsPerson_35 ⟨Nat.le_of_ble_eq_true rfl, Nat.le_of_ble_eq_true rfl⟩) hP hD hS hA [0, 1] rfl [hM, m17] rfl (fun _ => rfl) 2 [] rfl (fun _u => [(hM, .inr (11, [.int (nI mf), .int (nI mn), .ref m1, .ref m2, .ref m3, .int (nI mb), .int (nI (ra + 1)), .int (nI rn), .ref m4, .ref m5, .ref m6, .int (nI mw), .ref m7, .ref m8, .int (nI mh), .ref m9, .ref m10, .int (nI mm), .ref m11, .int (nI mr), .ref m12, .ref m13, .ref m14, .ref m15, .ref m16, .ref m17, .ref m18, .int mt])), (m17, .inl (cI, 240, .inl sc))]) (fun _ => rfl) [] [] (fun _ => rfl) rfl (fun _ => rfl) rfl (fun r_4 _u H locs hr_5 hP hD hS => ?_)
  have hP : va_P D vwCl [(hM, .inr (11, [.int (nI mf), .int (nI mn), .ref m1, .ref m2, .ref m3, .int (nI mb), .int (nI (ra + 1)), .int (nI rn), .ref m4, .ref m5, .ref m6, .int (nI mw), .ref m7, .ref m8, .int (nI mh), .ref m9, .ref m10, .int (nI mm), .ref m11, .int (nI mr), .ref m12, .ref m13, .ref m14, .ref m15, .ref m16, .ref m17, .ref m18, .int mt])), (m17, .inl (cI, 240, .inl sc))] H := hP
  have hD : va_D A [(hM, .inr (11, [.int (nI mf), .int (nI mn), .ref m1, .ref m2, .ref m3, .int (nI mb), .int (nI (ra + 1)), .int (nI rn), .ref m4, .ref m5, .ref m6, .int (nI mw), .ref m7, .ref m8, .int (nI mh), .ref m9, .ref m10, .int (nI mm), .ref m11, .int (nI mr), .ref m12, .ref m13, .ref m14, .ref m15, .ref m16, .ref m17, .ref m18, .int mt])), (m17, .inl (cI, 240, .inl sc))] := hD
  subst hr_5
  refine lv_istore_n (lv' := [(3, .int (sc (fr + (ra + 1)))), (0, .ref hM), (1, .int (nI fr)), (2, .int (nI nn))]) hx hb dX11_readsPerson_38 rfl hl (by decide) rfl (fun ls hl => ?_)
  refine lv_iload_n hx hb dX11_readsPerson_39 rfl (lv_at hl 0 rfl) ?_
  refine lv_bipush (v := (nI 115)) hx hb dX11_readsPerson_40 (by decide) ?_
  refine lv_icmp_eq (tgt := 59) hx hb dX11_readsPerson_42 (by decide) (fun c_6 => absurd c_6 (fun q => h1 (Or.inl q))) (fun c_6 => ?_)
  refine lv_iload_n hx hb dX11_readsPerson_45 rfl (lv_at hl 0 rfl) ?_
  refine lv_bipush (v := (nI 99)) hx hb dX11_readsPerson_46 (by decide) ?_
  refine lv_icmp_eq (tgt := 59) hx hb dX11_readsPerson_48 (by decide) (fun c_7 => absurd c_7 (fun q => h1 (Or.inr (Or.inl q)))) (fun c_7 => ?_)
  refine lv_iload_n hx hb dX11_readsPerson_51 rfl (lv_at hl 0 rfl) ?_
  refine lv_bipush (v := (nI 116)) hx hb dX11_readsPerson_52 (by decide) ?_
  refine lv_icmp_eq (tgt := 59) hx hb dX11_readsPerson_54 (by decide) (fun c_8 => absurd c_8 (fun q => h1 (Or.inr (Or.inr q)))) (fun c_8 => ?_)
  refine lv_iconst (v := (nI 0)) hx hb dX11_readsPerson_57 (by decide) ?_
  exact ret _ () _ _ _ _ dX11_readsPerson_58 (rfl) hP hD hS
def rm_X11_readsPerson_e2 : Room := { frames := 2, cells := 0, slots := 0, locals := 50 }
set_option maxHeartbeats 4000000 in
set_option maxRecDepth 100000 in
theorem c_X11_readsPerson_e2 (l : Launch) (D : va_G) (cI cZ cS cP : ClassId) (hM : Nat) (m1 : Nat) (m2 : Nat) (m3 : Nat) (m4 : Nat) (m5 : Nat) (m6 : Nat) (m7 : Nat) (m8 : Nat) (m9 : Nat) (m10 : Nat) (m11 : Nat) (m12 : Nat) (m13 : Nat) (m14 : Nat) (m15 : Nat) (m16 : Nat) (m17 : Nat) (m18 : Nat) (mf : Nat) (mn : Nat) (mb : Nat) (ra : Nat) (rn : Nat) (mw : Nat) (mh : Nat) (mm : Nat) (mr : Nat) (mt : Int32) (sc : Nat → Int32) (fr : Nat) (nn : Nat) (v : Nat) (hfr : fr + nn ≤ 240) (hrn : rn < 7) (h0 : sc (fr + ra) = nI 59) (hn0 : ra < nn) (h1 : sc (fr + (ra + 1)) = nI 115 ∨ sc (fr + (ra + 1)) = nI 99 ∨ sc (fr + (ra + 1)) = nI 116) (hn1 : ra + 1 < nn) (hn2 : nn ≤ (ra + 1) + 1) (hra2 : ra ≤ 200) : kMi (S := Unit) l yX11_readsPerson wsX11_readsPerson rm_X11_readsPerson_e2 D (kT cI cZ cS cP) [.ref hM, .int (nI fr), .int (nI nn)] [(hM, .inr (11, [.int (nI mf), .int (nI mn), .ref m1, .ref m2, .ref m3, .int (nI mb), .int (nI ra), .int (nI rn), .ref m4, .ref m5, .ref m6, .int (nI mw), .ref m7, .ref m8, .int (nI mh), .ref m9, .ref m10, .int (nI mm), .ref m11, .int (nI mr), .ref m12, .ref m13, .ref m14, .ref m15, .ref m16, .ref m17, .ref m18, .int mt])), (m17, .inl (cI, 240, .inl sc))] (fun r _ => r = (nI 0)) (fun _ => [(hM, .inr (11, [.int (nI mf), .int (nI mn), .ref m1, .ref m2, .ref m3, .int (nI mb), .int (nI (ra + 2)), .int (nI rn), .ref m4, .ref m5, .ref m6, .int (nI mw), .ref m7, .ref m8, .int (nI mh), .ref m9, .ref m10, .int (nI mm), .ref m11, .int (nI mr), .ref m12, .ref m13, .ref m14, .ref m15, .ref m16, .ref m17, .ref m18, .int mt])), (m17, .inl (cI, 240, .inl sc))]) := by
  refine kMet_i (cc := cX11_readsPerson) (maxL := 6) (ty := .boolean) (by decide) rfl (Nat.le_of_ble_eq_true rfl) (fun _ _ q => by (first | subst q | (obtain ⟨q, -⟩ := q; subst q)); (first | exact kz_nr | decide)) ?_
  intro p e s m args below meth c A Q ls C hlocks hin hN hK hP hD hS hA hl ret
  obtain ⟨hx, hb, hml, hown, hts⟩ := C
  have hl : lv_has ls 6 [(0, .ref hM), (1, .int (nI fr)), (2, .int (nI nn))] := hl
  have in_X11 : ∀ w ∈ wsX110, w ∈ wsX11_readsPerson := by decide +kernel
  have lk0 := hts (.fieldLink RX11 91 "SilkWordModel" "readPersons" "I") (by decide +kernel)
  have lk1 := hts (.fieldLink RX11 84 "SilkWordModel" "readAt" "I") (by decide +kernel)
  refine lv_aload_n hx hb dX11_readsPerson_0 rfl (lv_at hl 0 rfl) ?_
  refine va_get (D := D) (ci := 11) (v := .int (nI rn)) (C := RX11) (T := TX11) (N := 28) hx hb hts in_X11 hown hK hP 0 rfl rfl 7 (by decide) lk0 (fun _ h9 => h9) rfl dX11_readsPerson_1 ?_
  refine lv_bipush (v := (nI 7)) hx hb dX11_readsPerson_4 (by decide) ?_
  refine k_icmp_eq (tgt := 20) hx hb dX11_readsPerson_6 (by decide) (show rn < 2 ^ 31 by first | omega | (split <;> omega)) (show 7 < 2 ^ 31 by first | omega | (split <;> omega)) (fun c_1 => absurd c_1 (by omega)) (fun c_1 => ?_)
  refine lv_aload_n hx hb dX11_readsPerson_9 rfl (lv_at hl 0 rfl) ?_
  refine lv_iload_n hx hb dX11_readsPerson_10 rfl (lv_at hl 1 rfl) ?_
  refine lv_iload_n hx hb dX11_readsPerson_11 rfl (lv_at hl 2 rfl) ?_
  refine k_goi (S := Unit) (va_runV (As := [.int (nI fr), .int (nI nn)]) (rest := []) ⟨hx, hb, hml, hown, hts⟩ (c_X11_codeAt_in l D cI cZ cS cP hM m1 m2 m3 m4 m5 m6 m7 m8 m9 m10 m11 m12 m13 m14 m15 m16 m17 m18 mf mn mb ra rn mw mh mm mr mt sc fr nn (by first | assumption | omega) (by first | assumption | omega) _) (cwV 2 hts gX11_readsPerson_X11_codeAt rfl rfl rfl (by decide +kernel) ⟨Nat.le_of_ble_eq_true rfl, Nat.le_of_ble_eq_true rfl⟩) (kPreV hN hK hP hD [0, 1] rfl rfl (q0 := 0) (ci := 11) (q := (RX11, TX11, 28)) rfl rfl) rfl rfl hl.1 rfl (lv_room (Nat.le_of_ble_eq_true rfl)) dX11_readsPerson_12 ⟨Nat.le_of_ble_eq_true rfl, Nat.le_of_ble_eq_true rfl⟩) hP hD hS hA [0, 1] rfl [hM, m17] rfl (fun _ => rfl) 2 [] rfl (fun _u => [(hM, .inr (11, [.int (nI mf), .int (nI mn), .ref m1, .ref m2, .ref m3, .int (nI mb), .int (nI ra), .int (nI rn), .ref m4, .ref m5, .ref m6, .int (nI mw), .ref m7, .ref m8, .int (nI mh), .ref m9, .ref m10, .int (nI mm), .ref m11, .int (nI mr), .ref m12, .ref m13, .ref m14, .ref m15, .ref m16, .ref m17, .ref m18, .int mt])), (m17, .inl (cI, 240, .inl sc))]) (fun _ => rfl) [] [] (fun _ => rfl) rfl (fun _ => rfl) rfl (fun r_2 _u H locs hr_3 hP hD hS => ?_)
  have hP : va_P D vwCl [(hM, .inr (11, [.int (nI mf), .int (nI mn), .ref m1, .ref m2, .ref m3, .int (nI mb), .int (nI ra), .int (nI rn), .ref m4, .ref m5, .ref m6, .int (nI mw), .ref m7, .ref m8, .int (nI mh), .ref m9, .ref m10, .int (nI mm), .ref m11, .int (nI mr), .ref m12, .ref m13, .ref m14, .ref m15, .ref m16, .ref m17, .ref m18, .int mt])), (m17, .inl (cI, 240, .inl sc))] H := hP
  have hD : va_D A [(hM, .inr (11, [.int (nI mf), .int (nI mn), .ref m1, .ref m2, .ref m3, .int (nI mb), .int (nI ra), .int (nI rn), .ref m4, .ref m5, .ref m6, .int (nI mw), .ref m7, .ref m8, .int (nI mh), .ref m9, .ref m10, .int (nI mm), .ref m11, .int (nI mr), .ref m12, .ref m13, .ref m14, .ref m15, .ref m16, .ref m17, .ref m18, .int mt])), (m17, .inl (cI, 240, .inl sc))] := hD
  subst hr_3
  refine k_eqi (show (sc (fr + ra)) = (nI 59) from h0) ?_
  refine lv_bipush (v := (nI 59)) hx hb dX11_readsPerson_15 (by decide) ?_
  refine k_icmp_eq (tgt := 22) hx hb dX11_readsPerson_17 (by decide) (show 59 < 2 ^ 31 by first | omega | (split <;> omega)) (show 59 < 2 ^ 31 by first | omega | (split <;> omega)) (fun _ => ?_) (fun q9 => absurd q9 (by decide))
  refine lv_aload_n hx hb dX11_readsPerson_22 rfl (lv_at hl 0 rfl) ?_
  refine lv_dup hx hb dX11_readsPerson_23 rfl ?_
  refine va_get (D := D) (ci := 11) (v := .int (nI ra)) (C := RX11) (T := TX11) (N := 28) hx hb hts in_X11 hown hK hP 0 rfl rfl 6 (by decide) lk1 (fun _ h9 => h9) rfl dX11_readsPerson_24 ?_
  refine lv_iconst (v := (nI 1)) hx hb dX11_readsPerson_27 (by decide) ?_
  refine lv_iadd hx hb dX11_readsPerson_28 ?_
  refine k_eqi (show ((nI ra) + (nI 1)) = (nI (ra + 1)) from nI_add ra 1) ?_
  refine va_put (D := D) (ci := 11) (v := .int (nI (ra + 1))) (ty := .int) (C := RX11) (T := TX11) (N := 28) hx hb hts in_X11 tyX11 tyX11_ok nmX11 hown hK hP hD hS 0 rfl rfl 6 (by decide) lk1 (fun _ h9 => h9) rfl (by decide +kernel) rfl rfl (Nat.le_of_ble_eq_true rfl) dX11_readsPerson_29 (fun H locs hP hD hS => ?_)
  have hP : va_P D vwCl [(hM, .inr (11, [.int (nI mf), .int (nI mn), .ref m1, .ref m2, .ref m3, .int (nI mb), .int (nI (ra + 1)), .int (nI rn), .ref m4, .ref m5, .ref m6, .int (nI mw), .ref m7, .ref m8, .int (nI mh), .ref m9, .ref m10, .int (nI mm), .ref m11, .int (nI mr), .ref m12, .ref m13, .ref m14, .ref m15, .ref m16, .ref m17, .ref m18, .int mt])), (m17, .inl (cI, 240, .inl sc))] H := hP
  have hD : va_D A [(hM, .inr (11, [.int (nI mf), .int (nI mn), .ref m1, .ref m2, .ref m3, .int (nI mb), .int (nI (ra + 1)), .int (nI rn), .ref m4, .ref m5, .ref m6, .int (nI mw), .ref m7, .ref m8, .int (nI mh), .ref m9, .ref m10, .int (nI mm), .ref m11, .int (nI mr), .ref m12, .ref m13, .ref m14, .ref m15, .ref m16, .ref m17, .ref m18, .int mt])), (m17, .inl (cI, 240, .inl sc))] := hD
  refine lv_aload_n hx hb dX11_readsPerson_32 rfl (lv_at hl 0 rfl) ?_
  refine lv_iload_n hx hb dX11_readsPerson_33 rfl (lv_at hl 1 rfl) ?_
  refine lv_iload_n hx hb dX11_readsPerson_34 rfl (lv_at hl 2 rfl) ?_
  refine k_goi (S := Unit) (va_runV (As := [.int (nI fr), .int (nI nn)]) (rest := []) ⟨hx, hb, hml, hown, hts⟩ (c_X11_codeAt_in l D cI cZ cS cP hM m1 m2 m3 m4 m5 m6 m7 m8 m9 m10 m11 m12 m13 m14 m15 m16 m17 m18 mf mn mb (ra + 1) rn mw mh mm mr mt sc fr nn (by first | assumption | omega) (by first | assumption | omega) _) (cwV 2 hts gX11_readsPerson_X11_codeAt rfl rfl rfl (by decide +kernel) ⟨Nat.le_of_ble_eq_true rfl, Nat.le_of_ble_eq_true rfl⟩) (kPreV hN hK hP hD [0, 1] rfl rfl (q0 := 0) (ci := 11) (q := (RX11, TX11, 28)) rfl rfl) rfl rfl hl.1 rfl (lv_room (Nat.le_of_ble_eq_true rfl)) dX11_readsPerson_35 ⟨Nat.le_of_ble_eq_true rfl, Nat.le_of_ble_eq_true rfl⟩) hP hD hS hA [0, 1] rfl [hM, m17] rfl (fun _ => rfl) 2 [] rfl (fun _u => [(hM, .inr (11, [.int (nI mf), .int (nI mn), .ref m1, .ref m2, .ref m3, .int (nI mb), .int (nI (ra + 1)), .int (nI rn), .ref m4, .ref m5, .ref m6, .int (nI mw), .ref m7, .ref m8, .int (nI mh), .ref m9, .ref m10, .int (nI mm), .ref m11, .int (nI mr), .ref m12, .ref m13, .ref m14, .ref m15, .ref m16, .ref m17, .ref m18, .int mt])), (m17, .inl (cI, 240, .inl sc))]) (fun _ => rfl) [] [] (fun _ => rfl) rfl (fun _ => rfl) rfl (fun r_4 _u H locs hr_5 hP hD hS => ?_)
  have hP : va_P D vwCl [(hM, .inr (11, [.int (nI mf), .int (nI mn), .ref m1, .ref m2, .ref m3, .int (nI mb), .int (nI (ra + 1)), .int (nI rn), .ref m4, .ref m5, .ref m6, .int (nI mw), .ref m7, .ref m8, .int (nI mh), .ref m9, .ref m10, .int (nI mm), .ref m11, .int (nI mr), .ref m12, .ref m13, .ref m14, .ref m15, .ref m16, .ref m17, .ref m18, .int mt])), (m17, .inl (cI, 240, .inl sc))] H := hP
  have hD : va_D A [(hM, .inr (11, [.int (nI mf), .int (nI mn), .ref m1, .ref m2, .ref m3, .int (nI mb), .int (nI (ra + 1)), .int (nI rn), .ref m4, .ref m5, .ref m6, .int (nI mw), .ref m7, .ref m8, .int (nI mh), .ref m9, .ref m10, .int (nI mm), .ref m11, .int (nI mr), .ref m12, .ref m13, .ref m14, .ref m15, .ref m16, .ref m17, .ref m18, .int mt])), (m17, .inl (cI, 240, .inl sc))] := hD
  subst hr_5
  rcases h1 with h1 | h1 | h1
  · skip
    have hkd : kdc (sc (fr + (ra + 1))) = 0 := by rw [h1]; decide
    refine k_eqi (show (sc (fr + (ra + 1))) = (nI 115) from h1) ?_
    refine lv_istore_n (lv' := [(3, .int (nI 115)), (0, .ref hM), (1, .int (nI fr)), (2, .int (nI nn))]) hx hb dX11_readsPerson_38 rfl hl (by decide) rfl (fun ls hl => ?_)
    refine lv_iload_n hx hb dX11_readsPerson_39 rfl (lv_at hl 0 rfl) ?_
    refine lv_bipush (v := (nI 115)) hx hb dX11_readsPerson_40 (by decide) ?_
    refine k_icmp_eq (tgt := 59) hx hb dX11_readsPerson_42 (by decide) (show 115 < 2 ^ 31 by first | omega | (split <;> omega)) (show 115 < 2 ^ 31 by first | omega | (split <;> omega)) (fun _ => ?_) (fun q9 => absurd q9 (by decide))
    refine lv_aload_n hx hb dX11_readsPerson_59 rfl (lv_at hl 1 rfl) ?_
    refine lv_dup hx hb dX11_readsPerson_60 rfl ?_
    refine va_get (D := D) (ci := 11) (v := .int (nI (ra + 1))) (C := RX11) (T := TX11) (N := 28) hx hb hts in_X11 hown hK hP 0 rfl rfl 6 (by decide) lk1 (fun _ h9 => h9) rfl dX11_readsPerson_61 ?_
    refine lv_iconst (v := (nI 1)) hx hb dX11_readsPerson_64 (by decide) ?_
    refine lv_iadd hx hb dX11_readsPerson_65 ?_
    refine k_eqi (show ((nI (ra + 1)) + (nI 1)) = (nI ((ra + 1) + 1)) from nI_add (ra + 1) 1) ?_
    refine va_put (D := D) (ci := 11) (v := .int (nI ((ra + 1) + 1))) (ty := .int) (C := RX11) (T := TX11) (N := 28) hx hb hts in_X11 tyX11 tyX11_ok nmX11 hown hK hP hD hS 0 rfl rfl 6 (by decide) lk1 (fun _ h9 => h9) rfl (by decide +kernel) rfl rfl (Nat.le_of_ble_eq_true rfl) dX11_readsPerson_66 (fun H locs hP hD hS => ?_)
    have hP : va_P D vwCl [(hM, .inr (11, [.int (nI mf), .int (nI mn), .ref m1, .ref m2, .ref m3, .int (nI mb), .int (nI ((ra + 1) + 1)), .int (nI rn), .ref m4, .ref m5, .ref m6, .int (nI mw), .ref m7, .ref m8, .int (nI mh), .ref m9, .ref m10, .int (nI mm), .ref m11, .int (nI mr), .ref m12, .ref m13, .ref m14, .ref m15, .ref m16, .ref m17, .ref m18, .int mt])), (m17, .inl (cI, 240, .inl sc))] H := hP
    have hD : va_D A [(hM, .inr (11, [.int (nI mf), .int (nI mn), .ref m1, .ref m2, .ref m3, .int (nI mb), .int (nI ((ra + 1) + 1)), .int (nI rn), .ref m4, .ref m5, .ref m6, .int (nI mw), .ref m7, .ref m8, .int (nI mh), .ref m9, .ref m10, .int (nI mm), .ref m11, .int (nI mr), .ref m12, .ref m13, .ref m14, .ref m15, .ref m16, .ref m17, .ref m18, .int mt])), (m17, .inl (cI, 240, .inl sc))] := hD
    refine lv_aload_n hx hb dX11_readsPerson_69 rfl (lv_at hl 1 rfl) ?_
    refine lv_iload_n hx hb dX11_readsPerson_70 rfl (lv_at hl 2 rfl) ?_
    refine lv_iload_n hx hb dX11_readsPerson_71 rfl (lv_at hl 3 rfl) ?_
    refine lv_iconst (v := (nI 5)) hx hb dX11_readsPerson_72 (by decide) ?_
    refine k_goi (S := Unit) (va_runV (As := [.int (nI fr), .int (nI nn), .int (nI 5)]) (rest := []) ⟨hx, hb, hml, hown, hts⟩ (c_X11_figure_end l D cI cZ cS cP hM m1 m2 m3 m4 m5 m6 m7 m8 m9 m10 m11 m12 m13 m14 m15 m16 m17 m18 mf mn mb ((ra + 1) + 1) rn mw mh mm mr mt sc fr nn 5 (by first | assumption | omega) (by first | assumption | omega) (by first | assumption | omega) (by first | assumption | omega) _) (cwV 3 hts gX11_readsPerson_X11_figure rfl rfl rfl (by decide +kernel) ⟨Nat.le_of_ble_eq_true rfl, Nat.le_of_ble_eq_true rfl⟩) (kPreV hN hK hP hD [0, 1] rfl rfl (q0 := 0) (ci := 11) (q := (RX11, TX11, 28)) rfl rfl) rfl rfl hl.1 rfl (lv_room (Nat.le_of_ble_eq_true rfl)) dX11_readsPerson_73 ⟨Nat.le_of_ble_eq_true rfl, Nat.le_of_ble_eq_true rfl⟩) hP hD hS hA [0, 1] rfl [hM, m17] rfl (fun _ => rfl) 2 [] rfl (fun _u => [(hM, .inr (11, [.int (nI mf), .int (nI mn), .ref m1, .ref m2, .ref m3, .int (nI mb), .int (nI ((ra + 1) + 1)), .int (nI rn), .ref m4, .ref m5, .ref m6, .int (nI mw), .ref m7, .ref m8, .int (nI mh), .ref m9, .ref m10, .int (nI mm), .ref m11, .int (nI mr), .ref m12, .ref m13, .ref m14, .ref m15, .ref m16, .ref m17, .ref m18, .int mt])), (m17, .inl (cI, 240, .inl sc))]) (fun _ => rfl) [] [] (fun _ => rfl) rfl (fun _ => rfl) rfl (fun r_6 _u H locs hr_7 hP hD hS => ?_)
    have hP : va_P D vwCl [(hM, .inr (11, [.int (nI mf), .int (nI mn), .ref m1, .ref m2, .ref m3, .int (nI mb), .int (nI ((ra + 1) + 1)), .int (nI rn), .ref m4, .ref m5, .ref m6, .int (nI mw), .ref m7, .ref m8, .int (nI mh), .ref m9, .ref m10, .int (nI mm), .ref m11, .int (nI mr), .ref m12, .ref m13, .ref m14, .ref m15, .ref m16, .ref m17, .ref m18, .int mt])), (m17, .inl (cI, 240, .inl sc))] H := hP
    have hD : va_D A [(hM, .inr (11, [.int (nI mf), .int (nI mn), .ref m1, .ref m2, .ref m3, .int (nI mb), .int (nI ((ra + 1) + 1)), .int (nI rn), .ref m4, .ref m5, .ref m6, .int (nI mw), .ref m7, .ref m8, .int (nI mh), .ref m9, .ref m10, .int (nI mm), .ref m11, .int (nI mr), .ref m12, .ref m13, .ref m14, .ref m15, .ref m16, .ref m17, .ref m18, .int mt])), (m17, .inl (cI, 240, .inl sc))] := hD
    subst hr_7
    refine lv_istore (lv' := [(4, .int (-9)), (3, .int (nI 115)), (0, .ref hM), (1, .int (nI fr)), (2, .int (nI nn))]) hx hb dX11_readsPerson_76 hl (by decide) rfl (fun ls hl => ?_)
    refine lv_iload hx hb dX11_readsPerson_78 (lv_at hl 0 rfl) ?_
    refine lv_if_ge (tgt := 88) hx hb dX11_readsPerson_80 (by decide) (fun q9 => absurd q9 (by decide)) (fun _ => ?_)
    refine lv_bipush (v := (-9)) hx hb dX11_readsPerson_83 (by decide) ?_
    refine lv_goto (tgt := 96) hx hb dX11_readsPerson_85 (by decide) ?_
    refine lv_istore (lv' := [(5, .int (-9)), (4, .int (-9)), (3, .int (nI 115)), (0, .ref hM), (1, .int (nI fr)), (2, .int (nI nn))]) hx hb dX11_readsPerson_96 hl (by decide) rfl (fun ls hl => ?_)
    refine lv_iload hx hb dX11_readsPerson_98 (lv_at hl 0 rfl) ?_
    refine lv_if_ge (tgt := 105) hx hb dX11_readsPerson_100 (by decide) (fun q9 => absurd q9 (by decide)) (fun _ => ?_)
    refine lv_iconst (v := (nI 0)) hx hb dX11_readsPerson_103 (by decide) ?_
    have e_8 : (nI ((ra + 1) + 1)) = (nI (ra + 2)) := congrArg nI (show (ra + 1) + 1 = ra + 2 by omega)
    have q_9 : ([(hM, .inr (11, [.int (nI mf), .int (nI mn), .ref m1, .ref m2, .ref m3, .int (nI mb), .int (nI ((ra + 1) + 1)), .int (nI rn), .ref m4, .ref m5, .ref m6, .int (nI mw), .ref m7, .ref m8, .int (nI mh), .ref m9, .ref m10, .int (nI mm), .ref m11, .int (nI mr), .ref m12, .ref m13, .ref m14, .ref m15, .ref m16, .ref m17, .ref m18, .int mt])), (m17, .inl (cI, 240, .inl sc))] : va_W) = [(hM, .inr (11, [.int (nI mf), .int (nI mn), .ref m1, .ref m2, .ref m3, .int (nI mb), .int (nI (ra + 2)), .int (nI rn), .ref m4, .ref m5, .ref m6, .int (nI mw), .ref m7, .ref m8, .int (nI mh), .ref m9, .ref m10, .int (nI mm), .ref m11, .int (nI mr), .ref m12, .ref m13, .ref m14, .ref m15, .ref m16, .ref m17, .ref m18, .int mt])), (m17, .inl (cI, 240, .inl sc))] := by rw [← e_8]
    exact ret _ () _ _ _ _ dX11_readsPerson_104 (rfl) (kP_cast hP q_9) (kD_cast hD q_9) hS
  · skip
    have hkd : kdc (sc (fr + (ra + 1))) = 1 := by rw [h1]; decide
    refine k_eqi (show (sc (fr + (ra + 1))) = (nI 99) from h1) ?_
    refine lv_istore_n (lv' := [(3, .int (nI 99)), (0, .ref hM), (1, .int (nI fr)), (2, .int (nI nn))]) hx hb dX11_readsPerson_38 rfl hl (by decide) rfl (fun ls hl => ?_)
    refine lv_iload_n hx hb dX11_readsPerson_39 rfl (lv_at hl 0 rfl) ?_
    refine lv_bipush (v := (nI 115)) hx hb dX11_readsPerson_40 (by decide) ?_
    refine k_icmp_eq (tgt := 59) hx hb dX11_readsPerson_42 (by decide) (show 99 < 2 ^ 31 by first | omega | (split <;> omega)) (show 115 < 2 ^ 31 by first | omega | (split <;> omega)) (fun q9 => absurd q9 (by decide)) (fun _ => ?_)
    refine lv_iload_n hx hb dX11_readsPerson_45 rfl (lv_at hl 0 rfl) ?_
    refine lv_bipush (v := (nI 99)) hx hb dX11_readsPerson_46 (by decide) ?_
    refine k_icmp_eq (tgt := 59) hx hb dX11_readsPerson_48 (by decide) (show 99 < 2 ^ 31 by first | omega | (split <;> omega)) (show 99 < 2 ^ 31 by first | omega | (split <;> omega)) (fun _ => ?_) (fun q9 => absurd q9 (by decide))
    refine lv_aload_n hx hb dX11_readsPerson_59 rfl (lv_at hl 1 rfl) ?_
    refine lv_dup hx hb dX11_readsPerson_60 rfl ?_
    refine va_get (D := D) (ci := 11) (v := .int (nI (ra + 1))) (C := RX11) (T := TX11) (N := 28) hx hb hts in_X11 hown hK hP 0 rfl rfl 6 (by decide) lk1 (fun _ h9 => h9) rfl dX11_readsPerson_61 ?_
    refine lv_iconst (v := (nI 1)) hx hb dX11_readsPerson_64 (by decide) ?_
    refine lv_iadd hx hb dX11_readsPerson_65 ?_
    refine k_eqi (show ((nI (ra + 1)) + (nI 1)) = (nI ((ra + 1) + 1)) from nI_add (ra + 1) 1) ?_
    refine va_put (D := D) (ci := 11) (v := .int (nI ((ra + 1) + 1))) (ty := .int) (C := RX11) (T := TX11) (N := 28) hx hb hts in_X11 tyX11 tyX11_ok nmX11 hown hK hP hD hS 0 rfl rfl 6 (by decide) lk1 (fun _ h9 => h9) rfl (by decide +kernel) rfl rfl (Nat.le_of_ble_eq_true rfl) dX11_readsPerson_66 (fun H locs hP hD hS => ?_)
    have hP : va_P D vwCl [(hM, .inr (11, [.int (nI mf), .int (nI mn), .ref m1, .ref m2, .ref m3, .int (nI mb), .int (nI ((ra + 1) + 1)), .int (nI rn), .ref m4, .ref m5, .ref m6, .int (nI mw), .ref m7, .ref m8, .int (nI mh), .ref m9, .ref m10, .int (nI mm), .ref m11, .int (nI mr), .ref m12, .ref m13, .ref m14, .ref m15, .ref m16, .ref m17, .ref m18, .int mt])), (m17, .inl (cI, 240, .inl sc))] H := hP
    have hD : va_D A [(hM, .inr (11, [.int (nI mf), .int (nI mn), .ref m1, .ref m2, .ref m3, .int (nI mb), .int (nI ((ra + 1) + 1)), .int (nI rn), .ref m4, .ref m5, .ref m6, .int (nI mw), .ref m7, .ref m8, .int (nI mh), .ref m9, .ref m10, .int (nI mm), .ref m11, .int (nI mr), .ref m12, .ref m13, .ref m14, .ref m15, .ref m16, .ref m17, .ref m18, .int mt])), (m17, .inl (cI, 240, .inl sc))] := hD
    refine lv_aload_n hx hb dX11_readsPerson_69 rfl (lv_at hl 1 rfl) ?_
    refine lv_iload_n hx hb dX11_readsPerson_70 rfl (lv_at hl 2 rfl) ?_
    refine lv_iload_n hx hb dX11_readsPerson_71 rfl (lv_at hl 3 rfl) ?_
    refine lv_iconst (v := (nI 5)) hx hb dX11_readsPerson_72 (by decide) ?_
    refine k_goi (S := Unit) (va_runV (As := [.int (nI fr), .int (nI nn), .int (nI 5)]) (rest := []) ⟨hx, hb, hml, hown, hts⟩ (c_X11_figure_end l D cI cZ cS cP hM m1 m2 m3 m4 m5 m6 m7 m8 m9 m10 m11 m12 m13 m14 m15 m16 m17 m18 mf mn mb ((ra + 1) + 1) rn mw mh mm mr mt sc fr nn 5 (by first | assumption | omega) (by first | assumption | omega) (by first | assumption | omega) (by first | assumption | omega) _) (cwV 3 hts gX11_readsPerson_X11_figure rfl rfl rfl (by decide +kernel) ⟨Nat.le_of_ble_eq_true rfl, Nat.le_of_ble_eq_true rfl⟩) (kPreV hN hK hP hD [0, 1] rfl rfl (q0 := 0) (ci := 11) (q := (RX11, TX11, 28)) rfl rfl) rfl rfl hl.1 rfl (lv_room (Nat.le_of_ble_eq_true rfl)) dX11_readsPerson_73 ⟨Nat.le_of_ble_eq_true rfl, Nat.le_of_ble_eq_true rfl⟩) hP hD hS hA [0, 1] rfl [hM, m17] rfl (fun _ => rfl) 2 [] rfl (fun _u => [(hM, .inr (11, [.int (nI mf), .int (nI mn), .ref m1, .ref m2, .ref m3, .int (nI mb), .int (nI ((ra + 1) + 1)), .int (nI rn), .ref m4, .ref m5, .ref m6, .int (nI mw), .ref m7, .ref m8, .int (nI mh), .ref m9, .ref m10, .int (nI mm), .ref m11, .int (nI mr), .ref m12, .ref m13, .ref m14, .ref m15, .ref m16, .ref m17, .ref m18, .int mt])), (m17, .inl (cI, 240, .inl sc))]) (fun _ => rfl) [] [] (fun _ => rfl) rfl (fun _ => rfl) rfl (fun r_10 _u H locs hr_11 hP hD hS => ?_)
    have hP : va_P D vwCl [(hM, .inr (11, [.int (nI mf), .int (nI mn), .ref m1, .ref m2, .ref m3, .int (nI mb), .int (nI ((ra + 1) + 1)), .int (nI rn), .ref m4, .ref m5, .ref m6, .int (nI mw), .ref m7, .ref m8, .int (nI mh), .ref m9, .ref m10, .int (nI mm), .ref m11, .int (nI mr), .ref m12, .ref m13, .ref m14, .ref m15, .ref m16, .ref m17, .ref m18, .int mt])), (m17, .inl (cI, 240, .inl sc))] H := hP
    have hD : va_D A [(hM, .inr (11, [.int (nI mf), .int (nI mn), .ref m1, .ref m2, .ref m3, .int (nI mb), .int (nI ((ra + 1) + 1)), .int (nI rn), .ref m4, .ref m5, .ref m6, .int (nI mw), .ref m7, .ref m8, .int (nI mh), .ref m9, .ref m10, .int (nI mm), .ref m11, .int (nI mr), .ref m12, .ref m13, .ref m14, .ref m15, .ref m16, .ref m17, .ref m18, .int mt])), (m17, .inl (cI, 240, .inl sc))] := hD
    subst hr_11
    refine lv_istore (lv' := [(4, .int (-9)), (3, .int (nI 99)), (0, .ref hM), (1, .int (nI fr)), (2, .int (nI nn))]) hx hb dX11_readsPerson_76 hl (by decide) rfl (fun ls hl => ?_)
    refine lv_iload hx hb dX11_readsPerson_78 (lv_at hl 0 rfl) ?_
    refine lv_if_ge (tgt := 88) hx hb dX11_readsPerson_80 (by decide) (fun q9 => absurd q9 (by decide)) (fun _ => ?_)
    refine lv_bipush (v := (-9)) hx hb dX11_readsPerson_83 (by decide) ?_
    refine lv_goto (tgt := 96) hx hb dX11_readsPerson_85 (by decide) ?_
    refine lv_istore (lv' := [(5, .int (-9)), (4, .int (-9)), (3, .int (nI 99)), (0, .ref hM), (1, .int (nI fr)), (2, .int (nI nn))]) hx hb dX11_readsPerson_96 hl (by decide) rfl (fun ls hl => ?_)
    refine lv_iload hx hb dX11_readsPerson_98 (lv_at hl 0 rfl) ?_
    refine lv_if_ge (tgt := 105) hx hb dX11_readsPerson_100 (by decide) (fun q9 => absurd q9 (by decide)) (fun _ => ?_)
    refine lv_iconst (v := (nI 0)) hx hb dX11_readsPerson_103 (by decide) ?_
    have e_12 : (nI ((ra + 1) + 1)) = (nI (ra + 2)) := congrArg nI (show (ra + 1) + 1 = ra + 2 by omega)
    have q_13 : ([(hM, .inr (11, [.int (nI mf), .int (nI mn), .ref m1, .ref m2, .ref m3, .int (nI mb), .int (nI ((ra + 1) + 1)), .int (nI rn), .ref m4, .ref m5, .ref m6, .int (nI mw), .ref m7, .ref m8, .int (nI mh), .ref m9, .ref m10, .int (nI mm), .ref m11, .int (nI mr), .ref m12, .ref m13, .ref m14, .ref m15, .ref m16, .ref m17, .ref m18, .int mt])), (m17, .inl (cI, 240, .inl sc))] : va_W) = [(hM, .inr (11, [.int (nI mf), .int (nI mn), .ref m1, .ref m2, .ref m3, .int (nI mb), .int (nI (ra + 2)), .int (nI rn), .ref m4, .ref m5, .ref m6, .int (nI mw), .ref m7, .ref m8, .int (nI mh), .ref m9, .ref m10, .int (nI mm), .ref m11, .int (nI mr), .ref m12, .ref m13, .ref m14, .ref m15, .ref m16, .ref m17, .ref m18, .int mt])), (m17, .inl (cI, 240, .inl sc))] := by rw [← e_12]
    exact ret _ () _ _ _ _ dX11_readsPerson_104 (rfl) (kP_cast hP q_13) (kD_cast hD q_13) hS
  · skip
    have hkd : kdc (sc (fr + (ra + 1))) = 2 := by rw [h1]; decide
    refine k_eqi (show (sc (fr + (ra + 1))) = (nI 116) from h1) ?_
    refine lv_istore_n (lv' := [(3, .int (nI 116)), (0, .ref hM), (1, .int (nI fr)), (2, .int (nI nn))]) hx hb dX11_readsPerson_38 rfl hl (by decide) rfl (fun ls hl => ?_)
    refine lv_iload_n hx hb dX11_readsPerson_39 rfl (lv_at hl 0 rfl) ?_
    refine lv_bipush (v := (nI 115)) hx hb dX11_readsPerson_40 (by decide) ?_
    refine k_icmp_eq (tgt := 59) hx hb dX11_readsPerson_42 (by decide) (show 116 < 2 ^ 31 by first | omega | (split <;> omega)) (show 115 < 2 ^ 31 by first | omega | (split <;> omega)) (fun q9 => absurd q9 (by decide)) (fun _ => ?_)
    refine lv_iload_n hx hb dX11_readsPerson_45 rfl (lv_at hl 0 rfl) ?_
    refine lv_bipush (v := (nI 99)) hx hb dX11_readsPerson_46 (by decide) ?_
    refine k_icmp_eq (tgt := 59) hx hb dX11_readsPerson_48 (by decide) (show 116 < 2 ^ 31 by first | omega | (split <;> omega)) (show 99 < 2 ^ 31 by first | omega | (split <;> omega)) (fun q9 => absurd q9 (by decide)) (fun _ => ?_)
    refine lv_iload_n hx hb dX11_readsPerson_51 rfl (lv_at hl 0 rfl) ?_
    refine lv_bipush (v := (nI 116)) hx hb dX11_readsPerson_52 (by decide) ?_
    refine k_icmp_eq (tgt := 59) hx hb dX11_readsPerson_54 (by decide) (show 116 < 2 ^ 31 by first | omega | (split <;> omega)) (show 116 < 2 ^ 31 by first | omega | (split <;> omega)) (fun _ => ?_) (fun q9 => absurd q9 (by decide))
    refine lv_aload_n hx hb dX11_readsPerson_59 rfl (lv_at hl 1 rfl) ?_
    refine lv_dup hx hb dX11_readsPerson_60 rfl ?_
    refine va_get (D := D) (ci := 11) (v := .int (nI (ra + 1))) (C := RX11) (T := TX11) (N := 28) hx hb hts in_X11 hown hK hP 0 rfl rfl 6 (by decide) lk1 (fun _ h9 => h9) rfl dX11_readsPerson_61 ?_
    refine lv_iconst (v := (nI 1)) hx hb dX11_readsPerson_64 (by decide) ?_
    refine lv_iadd hx hb dX11_readsPerson_65 ?_
    refine k_eqi (show ((nI (ra + 1)) + (nI 1)) = (nI ((ra + 1) + 1)) from nI_add (ra + 1) 1) ?_
    refine va_put (D := D) (ci := 11) (v := .int (nI ((ra + 1) + 1))) (ty := .int) (C := RX11) (T := TX11) (N := 28) hx hb hts in_X11 tyX11 tyX11_ok nmX11 hown hK hP hD hS 0 rfl rfl 6 (by decide) lk1 (fun _ h9 => h9) rfl (by decide +kernel) rfl rfl (Nat.le_of_ble_eq_true rfl) dX11_readsPerson_66 (fun H locs hP hD hS => ?_)
    have hP : va_P D vwCl [(hM, .inr (11, [.int (nI mf), .int (nI mn), .ref m1, .ref m2, .ref m3, .int (nI mb), .int (nI ((ra + 1) + 1)), .int (nI rn), .ref m4, .ref m5, .ref m6, .int (nI mw), .ref m7, .ref m8, .int (nI mh), .ref m9, .ref m10, .int (nI mm), .ref m11, .int (nI mr), .ref m12, .ref m13, .ref m14, .ref m15, .ref m16, .ref m17, .ref m18, .int mt])), (m17, .inl (cI, 240, .inl sc))] H := hP
    have hD : va_D A [(hM, .inr (11, [.int (nI mf), .int (nI mn), .ref m1, .ref m2, .ref m3, .int (nI mb), .int (nI ((ra + 1) + 1)), .int (nI rn), .ref m4, .ref m5, .ref m6, .int (nI mw), .ref m7, .ref m8, .int (nI mh), .ref m9, .ref m10, .int (nI mm), .ref m11, .int (nI mr), .ref m12, .ref m13, .ref m14, .ref m15, .ref m16, .ref m17, .ref m18, .int mt])), (m17, .inl (cI, 240, .inl sc))] := hD
    refine lv_aload_n hx hb dX11_readsPerson_69 rfl (lv_at hl 1 rfl) ?_
    refine lv_iload_n hx hb dX11_readsPerson_70 rfl (lv_at hl 2 rfl) ?_
    refine lv_iload_n hx hb dX11_readsPerson_71 rfl (lv_at hl 3 rfl) ?_
    refine lv_iconst (v := (nI 5)) hx hb dX11_readsPerson_72 (by decide) ?_
    refine k_goi (S := Unit) (va_runV (As := [.int (nI fr), .int (nI nn), .int (nI 5)]) (rest := []) ⟨hx, hb, hml, hown, hts⟩ (c_X11_figure_end l D cI cZ cS cP hM m1 m2 m3 m4 m5 m6 m7 m8 m9 m10 m11 m12 m13 m14 m15 m16 m17 m18 mf mn mb ((ra + 1) + 1) rn mw mh mm mr mt sc fr nn 5 (by first | assumption | omega) (by first | assumption | omega) (by first | assumption | omega) (by first | assumption | omega) _) (cwV 3 hts gX11_readsPerson_X11_figure rfl rfl rfl (by decide +kernel) ⟨Nat.le_of_ble_eq_true rfl, Nat.le_of_ble_eq_true rfl⟩) (kPreV hN hK hP hD [0, 1] rfl rfl (q0 := 0) (ci := 11) (q := (RX11, TX11, 28)) rfl rfl) rfl rfl hl.1 rfl (lv_room (Nat.le_of_ble_eq_true rfl)) dX11_readsPerson_73 ⟨Nat.le_of_ble_eq_true rfl, Nat.le_of_ble_eq_true rfl⟩) hP hD hS hA [0, 1] rfl [hM, m17] rfl (fun _ => rfl) 2 [] rfl (fun _u => [(hM, .inr (11, [.int (nI mf), .int (nI mn), .ref m1, .ref m2, .ref m3, .int (nI mb), .int (nI ((ra + 1) + 1)), .int (nI rn), .ref m4, .ref m5, .ref m6, .int (nI mw), .ref m7, .ref m8, .int (nI mh), .ref m9, .ref m10, .int (nI mm), .ref m11, .int (nI mr), .ref m12, .ref m13, .ref m14, .ref m15, .ref m16, .ref m17, .ref m18, .int mt])), (m17, .inl (cI, 240, .inl sc))]) (fun _ => rfl) [] [] (fun _ => rfl) rfl (fun _ => rfl) rfl (fun r_14 _u H locs hr_15 hP hD hS => ?_)
    have hP : va_P D vwCl [(hM, .inr (11, [.int (nI mf), .int (nI mn), .ref m1, .ref m2, .ref m3, .int (nI mb), .int (nI ((ra + 1) + 1)), .int (nI rn), .ref m4, .ref m5, .ref m6, .int (nI mw), .ref m7, .ref m8, .int (nI mh), .ref m9, .ref m10, .int (nI mm), .ref m11, .int (nI mr), .ref m12, .ref m13, .ref m14, .ref m15, .ref m16, .ref m17, .ref m18, .int mt])), (m17, .inl (cI, 240, .inl sc))] H := hP
    have hD : va_D A [(hM, .inr (11, [.int (nI mf), .int (nI mn), .ref m1, .ref m2, .ref m3, .int (nI mb), .int (nI ((ra + 1) + 1)), .int (nI rn), .ref m4, .ref m5, .ref m6, .int (nI mw), .ref m7, .ref m8, .int (nI mh), .ref m9, .ref m10, .int (nI mm), .ref m11, .int (nI mr), .ref m12, .ref m13, .ref m14, .ref m15, .ref m16, .ref m17, .ref m18, .int mt])), (m17, .inl (cI, 240, .inl sc))] := hD
    subst hr_15
    refine lv_istore (lv' := [(4, .int (-9)), (3, .int (nI 116)), (0, .ref hM), (1, .int (nI fr)), (2, .int (nI nn))]) hx hb dX11_readsPerson_76 hl (by decide) rfl (fun ls hl => ?_)
    refine lv_iload hx hb dX11_readsPerson_78 (lv_at hl 0 rfl) ?_
    refine lv_if_ge (tgt := 88) hx hb dX11_readsPerson_80 (by decide) (fun q9 => absurd q9 (by decide)) (fun _ => ?_)
    refine lv_bipush (v := (-9)) hx hb dX11_readsPerson_83 (by decide) ?_
    refine lv_goto (tgt := 96) hx hb dX11_readsPerson_85 (by decide) ?_
    refine lv_istore (lv' := [(5, .int (-9)), (4, .int (-9)), (3, .int (nI 116)), (0, .ref hM), (1, .int (nI fr)), (2, .int (nI nn))]) hx hb dX11_readsPerson_96 hl (by decide) rfl (fun ls hl => ?_)
    refine lv_iload hx hb dX11_readsPerson_98 (lv_at hl 0 rfl) ?_
    refine lv_if_ge (tgt := 105) hx hb dX11_readsPerson_100 (by decide) (fun q9 => absurd q9 (by decide)) (fun _ => ?_)
    refine lv_iconst (v := (nI 0)) hx hb dX11_readsPerson_103 (by decide) ?_
    have e_16 : (nI ((ra + 1) + 1)) = (nI (ra + 2)) := congrArg nI (show (ra + 1) + 1 = ra + 2 by omega)
    have q_17 : ([(hM, .inr (11, [.int (nI mf), .int (nI mn), .ref m1, .ref m2, .ref m3, .int (nI mb), .int (nI ((ra + 1) + 1)), .int (nI rn), .ref m4, .ref m5, .ref m6, .int (nI mw), .ref m7, .ref m8, .int (nI mh), .ref m9, .ref m10, .int (nI mm), .ref m11, .int (nI mr), .ref m12, .ref m13, .ref m14, .ref m15, .ref m16, .ref m17, .ref m18, .int mt])), (m17, .inl (cI, 240, .inl sc))] : va_W) = [(hM, .inr (11, [.int (nI mf), .int (nI mn), .ref m1, .ref m2, .ref m3, .int (nI mb), .int (nI (ra + 2)), .int (nI rn), .ref m4, .ref m5, .ref m6, .int (nI mw), .ref m7, .ref m8, .int (nI mh), .ref m9, .ref m10, .int (nI mm), .ref m11, .int (nI mr), .ref m12, .ref m13, .ref m14, .ref m15, .ref m16, .ref m17, .ref m18, .int mt])), (m17, .inl (cI, 240, .inl sc))] := by rw [← e_16]
    exact ret _ () _ _ _ _ dX11_readsPerson_104 (rfl) (kP_cast hP q_17) (kD_cast hD q_17) hS
def rm_X11_readsPerson_w2 : Room := { frames := 2, cells := 0, slots := 0, locals := 50 }
set_option maxHeartbeats 4000000 in
set_option maxRecDepth 100000 in
theorem c_X11_readsPerson_w2 (l : Launch) (D : va_G) (cI cZ cS cP : ClassId) (hM : Nat) (m1 : Nat) (m2 : Nat) (m3 : Nat) (m4 : Nat) (m5 : Nat) (m6 : Nat) (m7 : Nat) (m8 : Nat) (m9 : Nat) (m10 : Nat) (m11 : Nat) (m12 : Nat) (m13 : Nat) (m14 : Nat) (m15 : Nat) (m16 : Nat) (m17 : Nat) (m18 : Nat) (mf : Nat) (mn : Nat) (mb : Nat) (ra : Nat) (rn : Nat) (mw : Nat) (mh : Nat) (mm : Nat) (mr : Nat) (mt : Int32) (sc : Nat → Int32) (fr : Nat) (nn : Nat) (v : Nat) (hfr : fr + nn ≤ 240) (hrn : rn < 7) (h0 : sc (fr + ra) = nI 59) (hn0 : ra < nn) (h1 : sc (fr + (ra + 1)) = nI 115 ∨ sc (fr + (ra + 1)) = nI 99 ∨ sc (fr + (ra + 1)) = nI 116) (hn1 : ra + 1 < nn) (hn2 : (ra + 1) + 1 < nn) (h2 : ¬ inR (sc (fr + ((ra + 1) + 1)) - nI 48) (5 + 1)) : kMi (S := Unit) l yX11_readsPerson wsX11_readsPerson rm_X11_readsPerson_w2 D (kT cI cZ cS cP) [.ref hM, .int (nI fr), .int (nI nn)] [(hM, .inr (11, [.int (nI mf), .int (nI mn), .ref m1, .ref m2, .ref m3, .int (nI mb), .int (nI ra), .int (nI rn), .ref m4, .ref m5, .ref m6, .int (nI mw), .ref m7, .ref m8, .int (nI mh), .ref m9, .ref m10, .int (nI mm), .ref m11, .int (nI mr), .ref m12, .ref m13, .ref m14, .ref m15, .ref m16, .ref m17, .ref m18, .int mt])), (m17, .inl (cI, 240, .inl sc))] (fun r _ => r = (nI 0)) (fun _ => [(hM, .inr (11, [.int (nI mf), .int (nI mn), .ref m1, .ref m2, .ref m3, .int (nI mb), .int (nI (ra + 2)), .int (nI rn), .ref m4, .ref m5, .ref m6, .int (nI mw), .ref m7, .ref m8, .int (nI mh), .ref m9, .ref m10, .int (nI mm), .ref m11, .int (nI mr), .ref m12, .ref m13, .ref m14, .ref m15, .ref m16, .ref m17, .ref m18, .int mt])), (m17, .inl (cI, 240, .inl sc))]) := by
  refine kMet_i (cc := cX11_readsPerson) (maxL := 6) (ty := .boolean) (by decide) rfl (Nat.le_of_ble_eq_true rfl) (fun _ _ q => by (first | subst q | (obtain ⟨q, -⟩ := q; subst q)); (first | exact kz_nr | decide)) ?_
  intro p e s m args below meth c A Q ls C hlocks hin hN hK hP hD hS hA hl ret
  obtain ⟨hx, hb, hml, hown, hts⟩ := C
  have hl : lv_has ls 6 [(0, .ref hM), (1, .int (nI fr)), (2, .int (nI nn))] := hl
  have in_X11 : ∀ w ∈ wsX110, w ∈ wsX11_readsPerson := by decide +kernel
  have lk0 := hts (.fieldLink RX11 91 "SilkWordModel" "readPersons" "I") (by decide +kernel)
  have lk1 := hts (.fieldLink RX11 84 "SilkWordModel" "readAt" "I") (by decide +kernel)
  refine lv_aload_n hx hb dX11_readsPerson_0 rfl (lv_at hl 0 rfl) ?_
  refine va_get (D := D) (ci := 11) (v := .int (nI rn)) (C := RX11) (T := TX11) (N := 28) hx hb hts in_X11 hown hK hP 0 rfl rfl 7 (by decide) lk0 (fun _ h9 => h9) rfl dX11_readsPerson_1 ?_
  refine lv_bipush (v := (nI 7)) hx hb dX11_readsPerson_4 (by decide) ?_
  refine k_icmp_eq (tgt := 20) hx hb dX11_readsPerson_6 (by decide) (show rn < 2 ^ 31 by first | omega | (split <;> omega)) (show 7 < 2 ^ 31 by first | omega | (split <;> omega)) (fun c_1 => absurd c_1 (by omega)) (fun c_1 => ?_)
  refine lv_aload_n hx hb dX11_readsPerson_9 rfl (lv_at hl 0 rfl) ?_
  refine lv_iload_n hx hb dX11_readsPerson_10 rfl (lv_at hl 1 rfl) ?_
  refine lv_iload_n hx hb dX11_readsPerson_11 rfl (lv_at hl 2 rfl) ?_
  refine k_goi (S := Unit) (va_runV (As := [.int (nI fr), .int (nI nn)]) (rest := []) ⟨hx, hb, hml, hown, hts⟩ (c_X11_codeAt_in l D cI cZ cS cP hM m1 m2 m3 m4 m5 m6 m7 m8 m9 m10 m11 m12 m13 m14 m15 m16 m17 m18 mf mn mb ra rn mw mh mm mr mt sc fr nn (by first | assumption | omega) (by first | assumption | omega) _) (cwV 2 hts gX11_readsPerson_X11_codeAt rfl rfl rfl (by decide +kernel) ⟨Nat.le_of_ble_eq_true rfl, Nat.le_of_ble_eq_true rfl⟩) (kPreV hN hK hP hD [0, 1] rfl rfl (q0 := 0) (ci := 11) (q := (RX11, TX11, 28)) rfl rfl) rfl rfl hl.1 rfl (lv_room (Nat.le_of_ble_eq_true rfl)) dX11_readsPerson_12 ⟨Nat.le_of_ble_eq_true rfl, Nat.le_of_ble_eq_true rfl⟩) hP hD hS hA [0, 1] rfl [hM, m17] rfl (fun _ => rfl) 2 [] rfl (fun _u => [(hM, .inr (11, [.int (nI mf), .int (nI mn), .ref m1, .ref m2, .ref m3, .int (nI mb), .int (nI ra), .int (nI rn), .ref m4, .ref m5, .ref m6, .int (nI mw), .ref m7, .ref m8, .int (nI mh), .ref m9, .ref m10, .int (nI mm), .ref m11, .int (nI mr), .ref m12, .ref m13, .ref m14, .ref m15, .ref m16, .ref m17, .ref m18, .int mt])), (m17, .inl (cI, 240, .inl sc))]) (fun _ => rfl) [] [] (fun _ => rfl) rfl (fun _ => rfl) rfl (fun r_2 _u H locs hr_3 hP hD hS => ?_)
  have hP : va_P D vwCl [(hM, .inr (11, [.int (nI mf), .int (nI mn), .ref m1, .ref m2, .ref m3, .int (nI mb), .int (nI ra), .int (nI rn), .ref m4, .ref m5, .ref m6, .int (nI mw), .ref m7, .ref m8, .int (nI mh), .ref m9, .ref m10, .int (nI mm), .ref m11, .int (nI mr), .ref m12, .ref m13, .ref m14, .ref m15, .ref m16, .ref m17, .ref m18, .int mt])), (m17, .inl (cI, 240, .inl sc))] H := hP
  have hD : va_D A [(hM, .inr (11, [.int (nI mf), .int (nI mn), .ref m1, .ref m2, .ref m3, .int (nI mb), .int (nI ra), .int (nI rn), .ref m4, .ref m5, .ref m6, .int (nI mw), .ref m7, .ref m8, .int (nI mh), .ref m9, .ref m10, .int (nI mm), .ref m11, .int (nI mr), .ref m12, .ref m13, .ref m14, .ref m15, .ref m16, .ref m17, .ref m18, .int mt])), (m17, .inl (cI, 240, .inl sc))] := hD
  subst hr_3
  refine k_eqi (show (sc (fr + ra)) = (nI 59) from h0) ?_
  refine lv_bipush (v := (nI 59)) hx hb dX11_readsPerson_15 (by decide) ?_
  refine k_icmp_eq (tgt := 22) hx hb dX11_readsPerson_17 (by decide) (show 59 < 2 ^ 31 by first | omega | (split <;> omega)) (show 59 < 2 ^ 31 by first | omega | (split <;> omega)) (fun _ => ?_) (fun q9 => absurd q9 (by decide))
  refine lv_aload_n hx hb dX11_readsPerson_22 rfl (lv_at hl 0 rfl) ?_
  refine lv_dup hx hb dX11_readsPerson_23 rfl ?_
  refine va_get (D := D) (ci := 11) (v := .int (nI ra)) (C := RX11) (T := TX11) (N := 28) hx hb hts in_X11 hown hK hP 0 rfl rfl 6 (by decide) lk1 (fun _ h9 => h9) rfl dX11_readsPerson_24 ?_
  refine lv_iconst (v := (nI 1)) hx hb dX11_readsPerson_27 (by decide) ?_
  refine lv_iadd hx hb dX11_readsPerson_28 ?_
  refine k_eqi (show ((nI ra) + (nI 1)) = (nI (ra + 1)) from nI_add ra 1) ?_
  refine va_put (D := D) (ci := 11) (v := .int (nI (ra + 1))) (ty := .int) (C := RX11) (T := TX11) (N := 28) hx hb hts in_X11 tyX11 tyX11_ok nmX11 hown hK hP hD hS 0 rfl rfl 6 (by decide) lk1 (fun _ h9 => h9) rfl (by decide +kernel) rfl rfl (Nat.le_of_ble_eq_true rfl) dX11_readsPerson_29 (fun H locs hP hD hS => ?_)
  have hP : va_P D vwCl [(hM, .inr (11, [.int (nI mf), .int (nI mn), .ref m1, .ref m2, .ref m3, .int (nI mb), .int (nI (ra + 1)), .int (nI rn), .ref m4, .ref m5, .ref m6, .int (nI mw), .ref m7, .ref m8, .int (nI mh), .ref m9, .ref m10, .int (nI mm), .ref m11, .int (nI mr), .ref m12, .ref m13, .ref m14, .ref m15, .ref m16, .ref m17, .ref m18, .int mt])), (m17, .inl (cI, 240, .inl sc))] H := hP
  have hD : va_D A [(hM, .inr (11, [.int (nI mf), .int (nI mn), .ref m1, .ref m2, .ref m3, .int (nI mb), .int (nI (ra + 1)), .int (nI rn), .ref m4, .ref m5, .ref m6, .int (nI mw), .ref m7, .ref m8, .int (nI mh), .ref m9, .ref m10, .int (nI mm), .ref m11, .int (nI mr), .ref m12, .ref m13, .ref m14, .ref m15, .ref m16, .ref m17, .ref m18, .int mt])), (m17, .inl (cI, 240, .inl sc))] := hD
  refine lv_aload_n hx hb dX11_readsPerson_32 rfl (lv_at hl 0 rfl) ?_
  refine lv_iload_n hx hb dX11_readsPerson_33 rfl (lv_at hl 1 rfl) ?_
  refine lv_iload_n hx hb dX11_readsPerson_34 rfl (lv_at hl 2 rfl) ?_
  refine k_goi (S := Unit) (va_runV (As := [.int (nI fr), .int (nI nn)]) (rest := []) ⟨hx, hb, hml, hown, hts⟩ (c_X11_codeAt_in l D cI cZ cS cP hM m1 m2 m3 m4 m5 m6 m7 m8 m9 m10 m11 m12 m13 m14 m15 m16 m17 m18 mf mn mb (ra + 1) rn mw mh mm mr mt sc fr nn (by first | assumption | omega) (by first | assumption | omega) _) (cwV 2 hts gX11_readsPerson_X11_codeAt rfl rfl rfl (by decide +kernel) ⟨Nat.le_of_ble_eq_true rfl, Nat.le_of_ble_eq_true rfl⟩) (kPreV hN hK hP hD [0, 1] rfl rfl (q0 := 0) (ci := 11) (q := (RX11, TX11, 28)) rfl rfl) rfl rfl hl.1 rfl (lv_room (Nat.le_of_ble_eq_true rfl)) dX11_readsPerson_35 ⟨Nat.le_of_ble_eq_true rfl, Nat.le_of_ble_eq_true rfl⟩) hP hD hS hA [0, 1] rfl [hM, m17] rfl (fun _ => rfl) 2 [] rfl (fun _u => [(hM, .inr (11, [.int (nI mf), .int (nI mn), .ref m1, .ref m2, .ref m3, .int (nI mb), .int (nI (ra + 1)), .int (nI rn), .ref m4, .ref m5, .ref m6, .int (nI mw), .ref m7, .ref m8, .int (nI mh), .ref m9, .ref m10, .int (nI mm), .ref m11, .int (nI mr), .ref m12, .ref m13, .ref m14, .ref m15, .ref m16, .ref m17, .ref m18, .int mt])), (m17, .inl (cI, 240, .inl sc))]) (fun _ => rfl) [] [] (fun _ => rfl) rfl (fun _ => rfl) rfl (fun r_4 _u H locs hr_5 hP hD hS => ?_)
  have hP : va_P D vwCl [(hM, .inr (11, [.int (nI mf), .int (nI mn), .ref m1, .ref m2, .ref m3, .int (nI mb), .int (nI (ra + 1)), .int (nI rn), .ref m4, .ref m5, .ref m6, .int (nI mw), .ref m7, .ref m8, .int (nI mh), .ref m9, .ref m10, .int (nI mm), .ref m11, .int (nI mr), .ref m12, .ref m13, .ref m14, .ref m15, .ref m16, .ref m17, .ref m18, .int mt])), (m17, .inl (cI, 240, .inl sc))] H := hP
  have hD : va_D A [(hM, .inr (11, [.int (nI mf), .int (nI mn), .ref m1, .ref m2, .ref m3, .int (nI mb), .int (nI (ra + 1)), .int (nI rn), .ref m4, .ref m5, .ref m6, .int (nI mw), .ref m7, .ref m8, .int (nI mh), .ref m9, .ref m10, .int (nI mm), .ref m11, .int (nI mr), .ref m12, .ref m13, .ref m14, .ref m15, .ref m16, .ref m17, .ref m18, .int mt])), (m17, .inl (cI, 240, .inl sc))] := hD
  subst hr_5
  rcases h1 with h1 | h1 | h1
  · skip
    have hkd : kdc (sc (fr + (ra + 1))) = 0 := by rw [h1]; decide
    refine k_eqi (show (sc (fr + (ra + 1))) = (nI 115) from h1) ?_
    refine lv_istore_n (lv' := [(3, .int (nI 115)), (0, .ref hM), (1, .int (nI fr)), (2, .int (nI nn))]) hx hb dX11_readsPerson_38 rfl hl (by decide) rfl (fun ls hl => ?_)
    refine lv_iload_n hx hb dX11_readsPerson_39 rfl (lv_at hl 0 rfl) ?_
    refine lv_bipush (v := (nI 115)) hx hb dX11_readsPerson_40 (by decide) ?_
    refine k_icmp_eq (tgt := 59) hx hb dX11_readsPerson_42 (by decide) (show 115 < 2 ^ 31 by first | omega | (split <;> omega)) (show 115 < 2 ^ 31 by first | omega | (split <;> omega)) (fun _ => ?_) (fun q9 => absurd q9 (by decide))
    refine lv_aload_n hx hb dX11_readsPerson_59 rfl (lv_at hl 1 rfl) ?_
    refine lv_dup hx hb dX11_readsPerson_60 rfl ?_
    refine va_get (D := D) (ci := 11) (v := .int (nI (ra + 1))) (C := RX11) (T := TX11) (N := 28) hx hb hts in_X11 hown hK hP 0 rfl rfl 6 (by decide) lk1 (fun _ h9 => h9) rfl dX11_readsPerson_61 ?_
    refine lv_iconst (v := (nI 1)) hx hb dX11_readsPerson_64 (by decide) ?_
    refine lv_iadd hx hb dX11_readsPerson_65 ?_
    refine k_eqi (show ((nI (ra + 1)) + (nI 1)) = (nI ((ra + 1) + 1)) from nI_add (ra + 1) 1) ?_
    refine va_put (D := D) (ci := 11) (v := .int (nI ((ra + 1) + 1))) (ty := .int) (C := RX11) (T := TX11) (N := 28) hx hb hts in_X11 tyX11 tyX11_ok nmX11 hown hK hP hD hS 0 rfl rfl 6 (by decide) lk1 (fun _ h9 => h9) rfl (by decide +kernel) rfl rfl (Nat.le_of_ble_eq_true rfl) dX11_readsPerson_66 (fun H locs hP hD hS => ?_)
    have hP : va_P D vwCl [(hM, .inr (11, [.int (nI mf), .int (nI mn), .ref m1, .ref m2, .ref m3, .int (nI mb), .int (nI ((ra + 1) + 1)), .int (nI rn), .ref m4, .ref m5, .ref m6, .int (nI mw), .ref m7, .ref m8, .int (nI mh), .ref m9, .ref m10, .int (nI mm), .ref m11, .int (nI mr), .ref m12, .ref m13, .ref m14, .ref m15, .ref m16, .ref m17, .ref m18, .int mt])), (m17, .inl (cI, 240, .inl sc))] H := hP
    have hD : va_D A [(hM, .inr (11, [.int (nI mf), .int (nI mn), .ref m1, .ref m2, .ref m3, .int (nI mb), .int (nI ((ra + 1) + 1)), .int (nI rn), .ref m4, .ref m5, .ref m6, .int (nI mw), .ref m7, .ref m8, .int (nI mh), .ref m9, .ref m10, .int (nI mm), .ref m11, .int (nI mr), .ref m12, .ref m13, .ref m14, .ref m15, .ref m16, .ref m17, .ref m18, .int mt])), (m17, .inl (cI, 240, .inl sc))] := hD
    refine lv_aload_n hx hb dX11_readsPerson_69 rfl (lv_at hl 1 rfl) ?_
    refine lv_iload_n hx hb dX11_readsPerson_70 rfl (lv_at hl 2 rfl) ?_
    refine lv_iload_n hx hb dX11_readsPerson_71 rfl (lv_at hl 3 rfl) ?_
    refine lv_iconst (v := (nI 5)) hx hb dX11_readsPerson_72 (by decide) ?_
    refine k_goi (S := Unit) (va_runV (As := [.int (nI fr), .int (nI nn), .int (nI 5)]) (rest := []) ⟨hx, hb, hml, hown, hts⟩ (c_X11_figure_bad l D cI cZ cS cP hM m1 m2 m3 m4 m5 m6 m7 m8 m9 m10 m11 m12 m13 m14 m15 m16 m17 m18 mf mn mb ((ra + 1) + 1) rn mw mh mm mr mt sc fr nn 5 (by first | assumption | omega) (by first | assumption | omega) (by first | assumption | omega) (by first | assumption | omega) _) (cwV 3 hts gX11_readsPerson_X11_figure rfl rfl rfl (by decide +kernel) ⟨Nat.le_of_ble_eq_true rfl, Nat.le_of_ble_eq_true rfl⟩) (kPreV hN hK hP hD [0, 1] rfl rfl (q0 := 0) (ci := 11) (q := (RX11, TX11, 28)) rfl rfl) rfl rfl hl.1 rfl (lv_room (Nat.le_of_ble_eq_true rfl)) dX11_readsPerson_73 ⟨Nat.le_of_ble_eq_true rfl, Nat.le_of_ble_eq_true rfl⟩) hP hD hS hA [0, 1] rfl [hM, m17] rfl (fun _ => rfl) 2 [] rfl (fun _u => [(hM, .inr (11, [.int (nI mf), .int (nI mn), .ref m1, .ref m2, .ref m3, .int (nI mb), .int (nI ((ra + 1) + 1)), .int (nI rn), .ref m4, .ref m5, .ref m6, .int (nI mw), .ref m7, .ref m8, .int (nI mh), .ref m9, .ref m10, .int (nI mm), .ref m11, .int (nI mr), .ref m12, .ref m13, .ref m14, .ref m15, .ref m16, .ref m17, .ref m18, .int mt])), (m17, .inl (cI, 240, .inl sc))]) (fun _ => rfl) [] [] (fun _ => rfl) rfl (fun _ => rfl) rfl (fun r_6 _u H locs hr_7 hP hD hS => ?_)
    have hP : va_P D vwCl [(hM, .inr (11, [.int (nI mf), .int (nI mn), .ref m1, .ref m2, .ref m3, .int (nI mb), .int (nI ((ra + 1) + 1)), .int (nI rn), .ref m4, .ref m5, .ref m6, .int (nI mw), .ref m7, .ref m8, .int (nI mh), .ref m9, .ref m10, .int (nI mm), .ref m11, .int (nI mr), .ref m12, .ref m13, .ref m14, .ref m15, .ref m16, .ref m17, .ref m18, .int mt])), (m17, .inl (cI, 240, .inl sc))] H := hP
    have hD : va_D A [(hM, .inr (11, [.int (nI mf), .int (nI mn), .ref m1, .ref m2, .ref m3, .int (nI mb), .int (nI ((ra + 1) + 1)), .int (nI rn), .ref m4, .ref m5, .ref m6, .int (nI mw), .ref m7, .ref m8, .int (nI mh), .ref m9, .ref m10, .int (nI mm), .ref m11, .int (nI mr), .ref m12, .ref m13, .ref m14, .ref m15, .ref m16, .ref m17, .ref m18, .int mt])), (m17, .inl (cI, 240, .inl sc))] := hD
    subst hr_7
    refine lv_istore (lv' := [(4, .int (-9)), (3, .int (nI 115)), (0, .ref hM), (1, .int (nI fr)), (2, .int (nI nn))]) hx hb dX11_readsPerson_76 hl (by decide) rfl (fun ls hl => ?_)
    refine lv_iload hx hb dX11_readsPerson_78 (lv_at hl 0 rfl) ?_
    refine lv_if_ge (tgt := 88) hx hb dX11_readsPerson_80 (by decide) (fun q9 => absurd q9 (by decide)) (fun _ => ?_)
    refine lv_bipush (v := (-9)) hx hb dX11_readsPerson_83 (by decide) ?_
    refine lv_goto (tgt := 96) hx hb dX11_readsPerson_85 (by decide) ?_
    refine lv_istore (lv' := [(5, .int (-9)), (4, .int (-9)), (3, .int (nI 115)), (0, .ref hM), (1, .int (nI fr)), (2, .int (nI nn))]) hx hb dX11_readsPerson_96 hl (by decide) rfl (fun ls hl => ?_)
    refine lv_iload hx hb dX11_readsPerson_98 (lv_at hl 0 rfl) ?_
    refine lv_if_ge (tgt := 105) hx hb dX11_readsPerson_100 (by decide) (fun q9 => absurd q9 (by decide)) (fun _ => ?_)
    refine lv_iconst (v := (nI 0)) hx hb dX11_readsPerson_103 (by decide) ?_
    have e_8 : (nI ((ra + 1) + 1)) = (nI (ra + 2)) := congrArg nI (show (ra + 1) + 1 = ra + 2 by omega)
    have q_9 : ([(hM, .inr (11, [.int (nI mf), .int (nI mn), .ref m1, .ref m2, .ref m3, .int (nI mb), .int (nI ((ra + 1) + 1)), .int (nI rn), .ref m4, .ref m5, .ref m6, .int (nI mw), .ref m7, .ref m8, .int (nI mh), .ref m9, .ref m10, .int (nI mm), .ref m11, .int (nI mr), .ref m12, .ref m13, .ref m14, .ref m15, .ref m16, .ref m17, .ref m18, .int mt])), (m17, .inl (cI, 240, .inl sc))] : va_W) = [(hM, .inr (11, [.int (nI mf), .int (nI mn), .ref m1, .ref m2, .ref m3, .int (nI mb), .int (nI (ra + 2)), .int (nI rn), .ref m4, .ref m5, .ref m6, .int (nI mw), .ref m7, .ref m8, .int (nI mh), .ref m9, .ref m10, .int (nI mm), .ref m11, .int (nI mr), .ref m12, .ref m13, .ref m14, .ref m15, .ref m16, .ref m17, .ref m18, .int mt])), (m17, .inl (cI, 240, .inl sc))] := by rw [← e_8]
    exact ret _ () _ _ _ _ dX11_readsPerson_104 (rfl) (kP_cast hP q_9) (kD_cast hD q_9) hS
  · skip
    have hkd : kdc (sc (fr + (ra + 1))) = 1 := by rw [h1]; decide
    refine k_eqi (show (sc (fr + (ra + 1))) = (nI 99) from h1) ?_
    refine lv_istore_n (lv' := [(3, .int (nI 99)), (0, .ref hM), (1, .int (nI fr)), (2, .int (nI nn))]) hx hb dX11_readsPerson_38 rfl hl (by decide) rfl (fun ls hl => ?_)
    refine lv_iload_n hx hb dX11_readsPerson_39 rfl (lv_at hl 0 rfl) ?_
    refine lv_bipush (v := (nI 115)) hx hb dX11_readsPerson_40 (by decide) ?_
    refine k_icmp_eq (tgt := 59) hx hb dX11_readsPerson_42 (by decide) (show 99 < 2 ^ 31 by first | omega | (split <;> omega)) (show 115 < 2 ^ 31 by first | omega | (split <;> omega)) (fun q9 => absurd q9 (by decide)) (fun _ => ?_)
    refine lv_iload_n hx hb dX11_readsPerson_45 rfl (lv_at hl 0 rfl) ?_
    refine lv_bipush (v := (nI 99)) hx hb dX11_readsPerson_46 (by decide) ?_
    refine k_icmp_eq (tgt := 59) hx hb dX11_readsPerson_48 (by decide) (show 99 < 2 ^ 31 by first | omega | (split <;> omega)) (show 99 < 2 ^ 31 by first | omega | (split <;> omega)) (fun _ => ?_) (fun q9 => absurd q9 (by decide))
    refine lv_aload_n hx hb dX11_readsPerson_59 rfl (lv_at hl 1 rfl) ?_
    refine lv_dup hx hb dX11_readsPerson_60 rfl ?_
    refine va_get (D := D) (ci := 11) (v := .int (nI (ra + 1))) (C := RX11) (T := TX11) (N := 28) hx hb hts in_X11 hown hK hP 0 rfl rfl 6 (by decide) lk1 (fun _ h9 => h9) rfl dX11_readsPerson_61 ?_
    refine lv_iconst (v := (nI 1)) hx hb dX11_readsPerson_64 (by decide) ?_
    refine lv_iadd hx hb dX11_readsPerson_65 ?_
    refine k_eqi (show ((nI (ra + 1)) + (nI 1)) = (nI ((ra + 1) + 1)) from nI_add (ra + 1) 1) ?_
    refine va_put (D := D) (ci := 11) (v := .int (nI ((ra + 1) + 1))) (ty := .int) (C := RX11) (T := TX11) (N := 28) hx hb hts in_X11 tyX11 tyX11_ok nmX11 hown hK hP hD hS 0 rfl rfl 6 (by decide) lk1 (fun _ h9 => h9) rfl (by decide +kernel) rfl rfl (Nat.le_of_ble_eq_true rfl) dX11_readsPerson_66 (fun H locs hP hD hS => ?_)
    have hP : va_P D vwCl [(hM, .inr (11, [.int (nI mf), .int (nI mn), .ref m1, .ref m2, .ref m3, .int (nI mb), .int (nI ((ra + 1) + 1)), .int (nI rn), .ref m4, .ref m5, .ref m6, .int (nI mw), .ref m7, .ref m8, .int (nI mh), .ref m9, .ref m10, .int (nI mm), .ref m11, .int (nI mr), .ref m12, .ref m13, .ref m14, .ref m15, .ref m16, .ref m17, .ref m18, .int mt])), (m17, .inl (cI, 240, .inl sc))] H := hP
    have hD : va_D A [(hM, .inr (11, [.int (nI mf), .int (nI mn), .ref m1, .ref m2, .ref m3, .int (nI mb), .int (nI ((ra + 1) + 1)), .int (nI rn), .ref m4, .ref m5, .ref m6, .int (nI mw), .ref m7, .ref m8, .int (nI mh), .ref m9, .ref m10, .int (nI mm), .ref m11, .int (nI mr), .ref m12, .ref m13, .ref m14, .ref m15, .ref m16, .ref m17, .ref m18, .int mt])), (m17, .inl (cI, 240, .inl sc))] := hD
    refine lv_aload_n hx hb dX11_readsPerson_69 rfl (lv_at hl 1 rfl) ?_
    refine lv_iload_n hx hb dX11_readsPerson_70 rfl (lv_at hl 2 rfl) ?_
    refine lv_iload_n hx hb dX11_readsPerson_71 rfl (lv_at hl 3 rfl) ?_
    refine lv_iconst (v := (nI 5)) hx hb dX11_readsPerson_72 (by decide) ?_
    refine k_goi (S := Unit) (va_runV (As := [.int (nI fr), .int (nI nn), .int (nI 5)]) (rest := []) ⟨hx, hb, hml, hown, hts⟩ (c_X11_figure_bad l D cI cZ cS cP hM m1 m2 m3 m4 m5 m6 m7 m8 m9 m10 m11 m12 m13 m14 m15 m16 m17 m18 mf mn mb ((ra + 1) + 1) rn mw mh mm mr mt sc fr nn 5 (by first | assumption | omega) (by first | assumption | omega) (by first | assumption | omega) (by first | assumption | omega) _) (cwV 3 hts gX11_readsPerson_X11_figure rfl rfl rfl (by decide +kernel) ⟨Nat.le_of_ble_eq_true rfl, Nat.le_of_ble_eq_true rfl⟩) (kPreV hN hK hP hD [0, 1] rfl rfl (q0 := 0) (ci := 11) (q := (RX11, TX11, 28)) rfl rfl) rfl rfl hl.1 rfl (lv_room (Nat.le_of_ble_eq_true rfl)) dX11_readsPerson_73 ⟨Nat.le_of_ble_eq_true rfl, Nat.le_of_ble_eq_true rfl⟩) hP hD hS hA [0, 1] rfl [hM, m17] rfl (fun _ => rfl) 2 [] rfl (fun _u => [(hM, .inr (11, [.int (nI mf), .int (nI mn), .ref m1, .ref m2, .ref m3, .int (nI mb), .int (nI ((ra + 1) + 1)), .int (nI rn), .ref m4, .ref m5, .ref m6, .int (nI mw), .ref m7, .ref m8, .int (nI mh), .ref m9, .ref m10, .int (nI mm), .ref m11, .int (nI mr), .ref m12, .ref m13, .ref m14, .ref m15, .ref m16, .ref m17, .ref m18, .int mt])), (m17, .inl (cI, 240, .inl sc))]) (fun _ => rfl) [] [] (fun _ => rfl) rfl (fun _ => rfl) rfl (fun r_10 _u H locs hr_11 hP hD hS => ?_)
    have hP : va_P D vwCl [(hM, .inr (11, [.int (nI mf), .int (nI mn), .ref m1, .ref m2, .ref m3, .int (nI mb), .int (nI ((ra + 1) + 1)), .int (nI rn), .ref m4, .ref m5, .ref m6, .int (nI mw), .ref m7, .ref m8, .int (nI mh), .ref m9, .ref m10, .int (nI mm), .ref m11, .int (nI mr), .ref m12, .ref m13, .ref m14, .ref m15, .ref m16, .ref m17, .ref m18, .int mt])), (m17, .inl (cI, 240, .inl sc))] H := hP
    have hD : va_D A [(hM, .inr (11, [.int (nI mf), .int (nI mn), .ref m1, .ref m2, .ref m3, .int (nI mb), .int (nI ((ra + 1) + 1)), .int (nI rn), .ref m4, .ref m5, .ref m6, .int (nI mw), .ref m7, .ref m8, .int (nI mh), .ref m9, .ref m10, .int (nI mm), .ref m11, .int (nI mr), .ref m12, .ref m13, .ref m14, .ref m15, .ref m16, .ref m17, .ref m18, .int mt])), (m17, .inl (cI, 240, .inl sc))] := hD
    subst hr_11
    refine lv_istore (lv' := [(4, .int (-9)), (3, .int (nI 99)), (0, .ref hM), (1, .int (nI fr)), (2, .int (nI nn))]) hx hb dX11_readsPerson_76 hl (by decide) rfl (fun ls hl => ?_)
    refine lv_iload hx hb dX11_readsPerson_78 (lv_at hl 0 rfl) ?_
    refine lv_if_ge (tgt := 88) hx hb dX11_readsPerson_80 (by decide) (fun q9 => absurd q9 (by decide)) (fun _ => ?_)
    refine lv_bipush (v := (-9)) hx hb dX11_readsPerson_83 (by decide) ?_
    refine lv_goto (tgt := 96) hx hb dX11_readsPerson_85 (by decide) ?_
    refine lv_istore (lv' := [(5, .int (-9)), (4, .int (-9)), (3, .int (nI 99)), (0, .ref hM), (1, .int (nI fr)), (2, .int (nI nn))]) hx hb dX11_readsPerson_96 hl (by decide) rfl (fun ls hl => ?_)
    refine lv_iload hx hb dX11_readsPerson_98 (lv_at hl 0 rfl) ?_
    refine lv_if_ge (tgt := 105) hx hb dX11_readsPerson_100 (by decide) (fun q9 => absurd q9 (by decide)) (fun _ => ?_)
    refine lv_iconst (v := (nI 0)) hx hb dX11_readsPerson_103 (by decide) ?_
    have e_12 : (nI ((ra + 1) + 1)) = (nI (ra + 2)) := congrArg nI (show (ra + 1) + 1 = ra + 2 by omega)
    have q_13 : ([(hM, .inr (11, [.int (nI mf), .int (nI mn), .ref m1, .ref m2, .ref m3, .int (nI mb), .int (nI ((ra + 1) + 1)), .int (nI rn), .ref m4, .ref m5, .ref m6, .int (nI mw), .ref m7, .ref m8, .int (nI mh), .ref m9, .ref m10, .int (nI mm), .ref m11, .int (nI mr), .ref m12, .ref m13, .ref m14, .ref m15, .ref m16, .ref m17, .ref m18, .int mt])), (m17, .inl (cI, 240, .inl sc))] : va_W) = [(hM, .inr (11, [.int (nI mf), .int (nI mn), .ref m1, .ref m2, .ref m3, .int (nI mb), .int (nI (ra + 2)), .int (nI rn), .ref m4, .ref m5, .ref m6, .int (nI mw), .ref m7, .ref m8, .int (nI mh), .ref m9, .ref m10, .int (nI mm), .ref m11, .int (nI mr), .ref m12, .ref m13, .ref m14, .ref m15, .ref m16, .ref m17, .ref m18, .int mt])), (m17, .inl (cI, 240, .inl sc))] := by rw [← e_12]
    exact ret _ () _ _ _ _ dX11_readsPerson_104 (rfl) (kP_cast hP q_13) (kD_cast hD q_13) hS
  · skip
    have hkd : kdc (sc (fr + (ra + 1))) = 2 := by rw [h1]; decide
    refine k_eqi (show (sc (fr + (ra + 1))) = (nI 116) from h1) ?_
    refine lv_istore_n (lv' := [(3, .int (nI 116)), (0, .ref hM), (1, .int (nI fr)), (2, .int (nI nn))]) hx hb dX11_readsPerson_38 rfl hl (by decide) rfl (fun ls hl => ?_)
    refine lv_iload_n hx hb dX11_readsPerson_39 rfl (lv_at hl 0 rfl) ?_
    refine lv_bipush (v := (nI 115)) hx hb dX11_readsPerson_40 (by decide) ?_
    refine k_icmp_eq (tgt := 59) hx hb dX11_readsPerson_42 (by decide) (show 116 < 2 ^ 31 by first | omega | (split <;> omega)) (show 115 < 2 ^ 31 by first | omega | (split <;> omega)) (fun q9 => absurd q9 (by decide)) (fun _ => ?_)
    refine lv_iload_n hx hb dX11_readsPerson_45 rfl (lv_at hl 0 rfl) ?_
    refine lv_bipush (v := (nI 99)) hx hb dX11_readsPerson_46 (by decide) ?_
    refine k_icmp_eq (tgt := 59) hx hb dX11_readsPerson_48 (by decide) (show 116 < 2 ^ 31 by first | omega | (split <;> omega)) (show 99 < 2 ^ 31 by first | omega | (split <;> omega)) (fun q9 => absurd q9 (by decide)) (fun _ => ?_)
    refine lv_iload_n hx hb dX11_readsPerson_51 rfl (lv_at hl 0 rfl) ?_
    refine lv_bipush (v := (nI 116)) hx hb dX11_readsPerson_52 (by decide) ?_
    refine k_icmp_eq (tgt := 59) hx hb dX11_readsPerson_54 (by decide) (show 116 < 2 ^ 31 by first | omega | (split <;> omega)) (show 116 < 2 ^ 31 by first | omega | (split <;> omega)) (fun _ => ?_) (fun q9 => absurd q9 (by decide))
    refine lv_aload_n hx hb dX11_readsPerson_59 rfl (lv_at hl 1 rfl) ?_
    refine lv_dup hx hb dX11_readsPerson_60 rfl ?_
    refine va_get (D := D) (ci := 11) (v := .int (nI (ra + 1))) (C := RX11) (T := TX11) (N := 28) hx hb hts in_X11 hown hK hP 0 rfl rfl 6 (by decide) lk1 (fun _ h9 => h9) rfl dX11_readsPerson_61 ?_
    refine lv_iconst (v := (nI 1)) hx hb dX11_readsPerson_64 (by decide) ?_
    refine lv_iadd hx hb dX11_readsPerson_65 ?_
    refine k_eqi (show ((nI (ra + 1)) + (nI 1)) = (nI ((ra + 1) + 1)) from nI_add (ra + 1) 1) ?_
    refine va_put (D := D) (ci := 11) (v := .int (nI ((ra + 1) + 1))) (ty := .int) (C := RX11) (T := TX11) (N := 28) hx hb hts in_X11 tyX11 tyX11_ok nmX11 hown hK hP hD hS 0 rfl rfl 6 (by decide) lk1 (fun _ h9 => h9) rfl (by decide +kernel) rfl rfl (Nat.le_of_ble_eq_true rfl) dX11_readsPerson_66 (fun H locs hP hD hS => ?_)
    have hP : va_P D vwCl [(hM, .inr (11, [.int (nI mf), .int (nI mn), .ref m1, .ref m2, .ref m3, .int (nI mb), .int (nI ((ra + 1) + 1)), .int (nI rn), .ref m4, .ref m5, .ref m6, .int (nI mw), .ref m7, .ref m8, .int (nI mh), .ref m9, .ref m10, .int (nI mm), .ref m11, .int (nI mr), .ref m12, .ref m13, .ref m14, .ref m15, .ref m16, .ref m17, .ref m18, .int mt])), (m17, .inl (cI, 240, .inl sc))] H := hP
    have hD : va_D A [(hM, .inr (11, [.int (nI mf), .int (nI mn), .ref m1, .ref m2, .ref m3, .int (nI mb), .int (nI ((ra + 1) + 1)), .int (nI rn), .ref m4, .ref m5, .ref m6, .int (nI mw), .ref m7, .ref m8, .int (nI mh), .ref m9, .ref m10, .int (nI mm), .ref m11, .int (nI mr), .ref m12, .ref m13, .ref m14, .ref m15, .ref m16, .ref m17, .ref m18, .int mt])), (m17, .inl (cI, 240, .inl sc))] := hD
    refine lv_aload_n hx hb dX11_readsPerson_69 rfl (lv_at hl 1 rfl) ?_
    refine lv_iload_n hx hb dX11_readsPerson_70 rfl (lv_at hl 2 rfl) ?_
    refine lv_iload_n hx hb dX11_readsPerson_71 rfl (lv_at hl 3 rfl) ?_
    refine lv_iconst (v := (nI 5)) hx hb dX11_readsPerson_72 (by decide) ?_
    refine k_goi (S := Unit) (va_runV (As := [.int (nI fr), .int (nI nn), .int (nI 5)]) (rest := []) ⟨hx, hb, hml, hown, hts⟩ (c_X11_figure_bad l D cI cZ cS cP hM m1 m2 m3 m4 m5 m6 m7 m8 m9 m10 m11 m12 m13 m14 m15 m16 m17 m18 mf mn mb ((ra + 1) + 1) rn mw mh mm mr mt sc fr nn 5 (by first | assumption | omega) (by first | assumption | omega) (by first | assumption | omega) (by first | assumption | omega) _) (cwV 3 hts gX11_readsPerson_X11_figure rfl rfl rfl (by decide +kernel) ⟨Nat.le_of_ble_eq_true rfl, Nat.le_of_ble_eq_true rfl⟩) (kPreV hN hK hP hD [0, 1] rfl rfl (q0 := 0) (ci := 11) (q := (RX11, TX11, 28)) rfl rfl) rfl rfl hl.1 rfl (lv_room (Nat.le_of_ble_eq_true rfl)) dX11_readsPerson_73 ⟨Nat.le_of_ble_eq_true rfl, Nat.le_of_ble_eq_true rfl⟩) hP hD hS hA [0, 1] rfl [hM, m17] rfl (fun _ => rfl) 2 [] rfl (fun _u => [(hM, .inr (11, [.int (nI mf), .int (nI mn), .ref m1, .ref m2, .ref m3, .int (nI mb), .int (nI ((ra + 1) + 1)), .int (nI rn), .ref m4, .ref m5, .ref m6, .int (nI mw), .ref m7, .ref m8, .int (nI mh), .ref m9, .ref m10, .int (nI mm), .ref m11, .int (nI mr), .ref m12, .ref m13, .ref m14, .ref m15, .ref m16, .ref m17, .ref m18, .int mt])), (m17, .inl (cI, 240, .inl sc))]) (fun _ => rfl) [] [] (fun _ => rfl) rfl (fun _ => rfl) rfl (fun r_14 _u H locs hr_15 hP hD hS => ?_)
    have hP : va_P D vwCl [(hM, .inr (11, [.int (nI mf), .int (nI mn), .ref m1, .ref m2, .ref m3, .int (nI mb), .int (nI ((ra + 1) + 1)), .int (nI rn), .ref m4, .ref m5, .ref m6, .int (nI mw), .ref m7, .ref m8, .int (nI mh), .ref m9, .ref m10, .int (nI mm), .ref m11, .int (nI mr), .ref m12, .ref m13, .ref m14, .ref m15, .ref m16, .ref m17, .ref m18, .int mt])), (m17, .inl (cI, 240, .inl sc))] H := hP
    have hD : va_D A [(hM, .inr (11, [.int (nI mf), .int (nI mn), .ref m1, .ref m2, .ref m3, .int (nI mb), .int (nI ((ra + 1) + 1)), .int (nI rn), .ref m4, .ref m5, .ref m6, .int (nI mw), .ref m7, .ref m8, .int (nI mh), .ref m9, .ref m10, .int (nI mm), .ref m11, .int (nI mr), .ref m12, .ref m13, .ref m14, .ref m15, .ref m16, .ref m17, .ref m18, .int mt])), (m17, .inl (cI, 240, .inl sc))] := hD
    subst hr_15
    refine lv_istore (lv' := [(4, .int (-9)), (3, .int (nI 116)), (0, .ref hM), (1, .int (nI fr)), (2, .int (nI nn))]) hx hb dX11_readsPerson_76 hl (by decide) rfl (fun ls hl => ?_)
    refine lv_iload hx hb dX11_readsPerson_78 (lv_at hl 0 rfl) ?_
    refine lv_if_ge (tgt := 88) hx hb dX11_readsPerson_80 (by decide) (fun q9 => absurd q9 (by decide)) (fun _ => ?_)
    refine lv_bipush (v := (-9)) hx hb dX11_readsPerson_83 (by decide) ?_
    refine lv_goto (tgt := 96) hx hb dX11_readsPerson_85 (by decide) ?_
    refine lv_istore (lv' := [(5, .int (-9)), (4, .int (-9)), (3, .int (nI 116)), (0, .ref hM), (1, .int (nI fr)), (2, .int (nI nn))]) hx hb dX11_readsPerson_96 hl (by decide) rfl (fun ls hl => ?_)
    refine lv_iload hx hb dX11_readsPerson_98 (lv_at hl 0 rfl) ?_
    refine lv_if_ge (tgt := 105) hx hb dX11_readsPerson_100 (by decide) (fun q9 => absurd q9 (by decide)) (fun _ => ?_)
    refine lv_iconst (v := (nI 0)) hx hb dX11_readsPerson_103 (by decide) ?_
    have e_16 : (nI ((ra + 1) + 1)) = (nI (ra + 2)) := congrArg nI (show (ra + 1) + 1 = ra + 2 by omega)
    have q_17 : ([(hM, .inr (11, [.int (nI mf), .int (nI mn), .ref m1, .ref m2, .ref m3, .int (nI mb), .int (nI ((ra + 1) + 1)), .int (nI rn), .ref m4, .ref m5, .ref m6, .int (nI mw), .ref m7, .ref m8, .int (nI mh), .ref m9, .ref m10, .int (nI mm), .ref m11, .int (nI mr), .ref m12, .ref m13, .ref m14, .ref m15, .ref m16, .ref m17, .ref m18, .int mt])), (m17, .inl (cI, 240, .inl sc))] : va_W) = [(hM, .inr (11, [.int (nI mf), .int (nI mn), .ref m1, .ref m2, .ref m3, .int (nI mb), .int (nI (ra + 2)), .int (nI rn), .ref m4, .ref m5, .ref m6, .int (nI mw), .ref m7, .ref m8, .int (nI mh), .ref m9, .ref m10, .int (nI mm), .ref m11, .int (nI mr), .ref m12, .ref m13, .ref m14, .ref m15, .ref m16, .ref m17, .ref m18, .int mt])), (m17, .inl (cI, 240, .inl sc))] := by rw [← e_16]
    exact ret _ () _ _ _ _ dX11_readsPerson_104 (rfl) (kP_cast hP q_17) (kD_cast hD q_17) hS
def rm_X11_readsPerson_e3 : Room := { frames := 2, cells := 0, slots := 0, locals := 50 }
set_option maxHeartbeats 4000000 in
set_option maxRecDepth 100000 in
theorem c_X11_readsPerson_e3 (l : Launch) (D : va_G) (cI cZ cS cP : ClassId) (hM : Nat) (m1 : Nat) (m2 : Nat) (m3 : Nat) (m4 : Nat) (m5 : Nat) (m6 : Nat) (m7 : Nat) (m8 : Nat) (m9 : Nat) (m10 : Nat) (m11 : Nat) (m12 : Nat) (m13 : Nat) (m14 : Nat) (m15 : Nat) (m16 : Nat) (m17 : Nat) (m18 : Nat) (mf : Nat) (mn : Nat) (mb : Nat) (ra : Nat) (rn : Nat) (mw : Nat) (mh : Nat) (mm : Nat) (mr : Nat) (mt : Int32) (sc : Nat → Int32) (fr : Nat) (nn : Nat) (v : Nat) (hfr : fr + nn ≤ 240) (hrn : rn < 7) (h0 : sc (fr + ra) = nI 59) (hn0 : ra < nn) (h1 : sc (fr + (ra + 1)) = nI 115 ∨ sc (fr + (ra + 1)) = nI 99 ∨ sc (fr + (ra + 1)) = nI 116) (hn1 : ra + 1 < nn) (h2 : sc (fr + ((ra + 1) + 1)) - nI 48 = nI v) (hv : v ≤ 5) (hn2 : (ra + 1) + 1 < nn) (hn3 : nn ≤ ((ra + 1) + 1) + 1) (hra2 : ra ≤ 200) : kMi (S := Unit) l yX11_readsPerson wsX11_readsPerson rm_X11_readsPerson_e3 D (kT cI cZ cS cP) [.ref hM, .int (nI fr), .int (nI nn)] [(hM, .inr (11, [.int (nI mf), .int (nI mn), .ref m1, .ref m2, .ref m3, .int (nI mb), .int (nI ra), .int (nI rn), .ref m4, .ref m5, .ref m6, .int (nI mw), .ref m7, .ref m8, .int (nI mh), .ref m9, .ref m10, .int (nI mm), .ref m11, .int (nI mr), .ref m12, .ref m13, .ref m14, .ref m15, .ref m16, .ref m17, .ref m18, .int mt])), (m17, .inl (cI, 240, .inl sc))] (fun r _ => r = (nI 0)) (fun _ => [(hM, .inr (11, [.int (nI mf), .int (nI mn), .ref m1, .ref m2, .ref m3, .int (nI mb), .int (nI (ra + 3)), .int (nI rn), .ref m4, .ref m5, .ref m6, .int (nI mw), .ref m7, .ref m8, .int (nI mh), .ref m9, .ref m10, .int (nI mm), .ref m11, .int (nI mr), .ref m12, .ref m13, .ref m14, .ref m15, .ref m16, .ref m17, .ref m18, .int mt])), (m17, .inl (cI, 240, .inl sc))]) := by
  refine kMet_i (cc := cX11_readsPerson) (maxL := 6) (ty := .boolean) (by decide) rfl (Nat.le_of_ble_eq_true rfl) (fun _ _ q => by (first | subst q | (obtain ⟨q, -⟩ := q; subst q)); (first | exact kz_nr | decide)) ?_
  intro p e s m args below meth c A Q ls C hlocks hin hN hK hP hD hS hA hl ret
  obtain ⟨hx, hb, hml, hown, hts⟩ := C
  have hl : lv_has ls 6 [(0, .ref hM), (1, .int (nI fr)), (2, .int (nI nn))] := hl
  have in_X11 : ∀ w ∈ wsX110, w ∈ wsX11_readsPerson := by decide +kernel
  have lk0 := hts (.fieldLink RX11 91 "SilkWordModel" "readPersons" "I") (by decide +kernel)
  have lk1 := hts (.fieldLink RX11 84 "SilkWordModel" "readAt" "I") (by decide +kernel)
  refine lv_aload_n hx hb dX11_readsPerson_0 rfl (lv_at hl 0 rfl) ?_
  refine va_get (D := D) (ci := 11) (v := .int (nI rn)) (C := RX11) (T := TX11) (N := 28) hx hb hts in_X11 hown hK hP 0 rfl rfl 7 (by decide) lk0 (fun _ h9 => h9) rfl dX11_readsPerson_1 ?_
  refine lv_bipush (v := (nI 7)) hx hb dX11_readsPerson_4 (by decide) ?_
  refine k_icmp_eq (tgt := 20) hx hb dX11_readsPerson_6 (by decide) (show rn < 2 ^ 31 by first | omega | (split <;> omega)) (show 7 < 2 ^ 31 by first | omega | (split <;> omega)) (fun c_1 => absurd c_1 (by omega)) (fun c_1 => ?_)
  refine lv_aload_n hx hb dX11_readsPerson_9 rfl (lv_at hl 0 rfl) ?_
  refine lv_iload_n hx hb dX11_readsPerson_10 rfl (lv_at hl 1 rfl) ?_
  refine lv_iload_n hx hb dX11_readsPerson_11 rfl (lv_at hl 2 rfl) ?_
  refine k_goi (S := Unit) (va_runV (As := [.int (nI fr), .int (nI nn)]) (rest := []) ⟨hx, hb, hml, hown, hts⟩ (c_X11_codeAt_in l D cI cZ cS cP hM m1 m2 m3 m4 m5 m6 m7 m8 m9 m10 m11 m12 m13 m14 m15 m16 m17 m18 mf mn mb ra rn mw mh mm mr mt sc fr nn (by first | assumption | omega) (by first | assumption | omega) _) (cwV 2 hts gX11_readsPerson_X11_codeAt rfl rfl rfl (by decide +kernel) ⟨Nat.le_of_ble_eq_true rfl, Nat.le_of_ble_eq_true rfl⟩) (kPreV hN hK hP hD [0, 1] rfl rfl (q0 := 0) (ci := 11) (q := (RX11, TX11, 28)) rfl rfl) rfl rfl hl.1 rfl (lv_room (Nat.le_of_ble_eq_true rfl)) dX11_readsPerson_12 ⟨Nat.le_of_ble_eq_true rfl, Nat.le_of_ble_eq_true rfl⟩) hP hD hS hA [0, 1] rfl [hM, m17] rfl (fun _ => rfl) 2 [] rfl (fun _u => [(hM, .inr (11, [.int (nI mf), .int (nI mn), .ref m1, .ref m2, .ref m3, .int (nI mb), .int (nI ra), .int (nI rn), .ref m4, .ref m5, .ref m6, .int (nI mw), .ref m7, .ref m8, .int (nI mh), .ref m9, .ref m10, .int (nI mm), .ref m11, .int (nI mr), .ref m12, .ref m13, .ref m14, .ref m15, .ref m16, .ref m17, .ref m18, .int mt])), (m17, .inl (cI, 240, .inl sc))]) (fun _ => rfl) [] [] (fun _ => rfl) rfl (fun _ => rfl) rfl (fun r_2 _u H locs hr_3 hP hD hS => ?_)
  have hP : va_P D vwCl [(hM, .inr (11, [.int (nI mf), .int (nI mn), .ref m1, .ref m2, .ref m3, .int (nI mb), .int (nI ra), .int (nI rn), .ref m4, .ref m5, .ref m6, .int (nI mw), .ref m7, .ref m8, .int (nI mh), .ref m9, .ref m10, .int (nI mm), .ref m11, .int (nI mr), .ref m12, .ref m13, .ref m14, .ref m15, .ref m16, .ref m17, .ref m18, .int mt])), (m17, .inl (cI, 240, .inl sc))] H := hP
  have hD : va_D A [(hM, .inr (11, [.int (nI mf), .int (nI mn), .ref m1, .ref m2, .ref m3, .int (nI mb), .int (nI ra), .int (nI rn), .ref m4, .ref m5, .ref m6, .int (nI mw), .ref m7, .ref m8, .int (nI mh), .ref m9, .ref m10, .int (nI mm), .ref m11, .int (nI mr), .ref m12, .ref m13, .ref m14, .ref m15, .ref m16, .ref m17, .ref m18, .int mt])), (m17, .inl (cI, 240, .inl sc))] := hD
  subst hr_3
  refine k_eqi (show (sc (fr + ra)) = (nI 59) from h0) ?_
  refine lv_bipush (v := (nI 59)) hx hb dX11_readsPerson_15 (by decide) ?_
  refine k_icmp_eq (tgt := 22) hx hb dX11_readsPerson_17 (by decide) (show 59 < 2 ^ 31 by first | omega | (split <;> omega)) (show 59 < 2 ^ 31 by first | omega | (split <;> omega)) (fun _ => ?_) (fun q9 => absurd q9 (by decide))
  refine lv_aload_n hx hb dX11_readsPerson_22 rfl (lv_at hl 0 rfl) ?_
  refine lv_dup hx hb dX11_readsPerson_23 rfl ?_
  refine va_get (D := D) (ci := 11) (v := .int (nI ra)) (C := RX11) (T := TX11) (N := 28) hx hb hts in_X11 hown hK hP 0 rfl rfl 6 (by decide) lk1 (fun _ h9 => h9) rfl dX11_readsPerson_24 ?_
  refine lv_iconst (v := (nI 1)) hx hb dX11_readsPerson_27 (by decide) ?_
  refine lv_iadd hx hb dX11_readsPerson_28 ?_
  refine k_eqi (show ((nI ra) + (nI 1)) = (nI (ra + 1)) from nI_add ra 1) ?_
  refine va_put (D := D) (ci := 11) (v := .int (nI (ra + 1))) (ty := .int) (C := RX11) (T := TX11) (N := 28) hx hb hts in_X11 tyX11 tyX11_ok nmX11 hown hK hP hD hS 0 rfl rfl 6 (by decide) lk1 (fun _ h9 => h9) rfl (by decide +kernel) rfl rfl (Nat.le_of_ble_eq_true rfl) dX11_readsPerson_29 (fun H locs hP hD hS => ?_)
  have hP : va_P D vwCl [(hM, .inr (11, [.int (nI mf), .int (nI mn), .ref m1, .ref m2, .ref m3, .int (nI mb), .int (nI (ra + 1)), .int (nI rn), .ref m4, .ref m5, .ref m6, .int (nI mw), .ref m7, .ref m8, .int (nI mh), .ref m9, .ref m10, .int (nI mm), .ref m11, .int (nI mr), .ref m12, .ref m13, .ref m14, .ref m15, .ref m16, .ref m17, .ref m18, .int mt])), (m17, .inl (cI, 240, .inl sc))] H := hP
  have hD : va_D A [(hM, .inr (11, [.int (nI mf), .int (nI mn), .ref m1, .ref m2, .ref m3, .int (nI mb), .int (nI (ra + 1)), .int (nI rn), .ref m4, .ref m5, .ref m6, .int (nI mw), .ref m7, .ref m8, .int (nI mh), .ref m9, .ref m10, .int (nI mm), .ref m11, .int (nI mr), .ref m12, .ref m13, .ref m14, .ref m15, .ref m16, .ref m17, .ref m18, .int mt])), (m17, .inl (cI, 240, .inl sc))] := hD
  refine lv_aload_n hx hb dX11_readsPerson_32 rfl (lv_at hl 0 rfl) ?_
  refine lv_iload_n hx hb dX11_readsPerson_33 rfl (lv_at hl 1 rfl) ?_
  refine lv_iload_n hx hb dX11_readsPerson_34 rfl (lv_at hl 2 rfl) ?_
  refine k_goi (S := Unit) (va_runV (As := [.int (nI fr), .int (nI nn)]) (rest := []) ⟨hx, hb, hml, hown, hts⟩ (c_X11_codeAt_in l D cI cZ cS cP hM m1 m2 m3 m4 m5 m6 m7 m8 m9 m10 m11 m12 m13 m14 m15 m16 m17 m18 mf mn mb (ra + 1) rn mw mh mm mr mt sc fr nn (by first | assumption | omega) (by first | assumption | omega) _) (cwV 2 hts gX11_readsPerson_X11_codeAt rfl rfl rfl (by decide +kernel) ⟨Nat.le_of_ble_eq_true rfl, Nat.le_of_ble_eq_true rfl⟩) (kPreV hN hK hP hD [0, 1] rfl rfl (q0 := 0) (ci := 11) (q := (RX11, TX11, 28)) rfl rfl) rfl rfl hl.1 rfl (lv_room (Nat.le_of_ble_eq_true rfl)) dX11_readsPerson_35 ⟨Nat.le_of_ble_eq_true rfl, Nat.le_of_ble_eq_true rfl⟩) hP hD hS hA [0, 1] rfl [hM, m17] rfl (fun _ => rfl) 2 [] rfl (fun _u => [(hM, .inr (11, [.int (nI mf), .int (nI mn), .ref m1, .ref m2, .ref m3, .int (nI mb), .int (nI (ra + 1)), .int (nI rn), .ref m4, .ref m5, .ref m6, .int (nI mw), .ref m7, .ref m8, .int (nI mh), .ref m9, .ref m10, .int (nI mm), .ref m11, .int (nI mr), .ref m12, .ref m13, .ref m14, .ref m15, .ref m16, .ref m17, .ref m18, .int mt])), (m17, .inl (cI, 240, .inl sc))]) (fun _ => rfl) [] [] (fun _ => rfl) rfl (fun _ => rfl) rfl (fun r_4 _u H locs hr_5 hP hD hS => ?_)
  have hP : va_P D vwCl [(hM, .inr (11, [.int (nI mf), .int (nI mn), .ref m1, .ref m2, .ref m3, .int (nI mb), .int (nI (ra + 1)), .int (nI rn), .ref m4, .ref m5, .ref m6, .int (nI mw), .ref m7, .ref m8, .int (nI mh), .ref m9, .ref m10, .int (nI mm), .ref m11, .int (nI mr), .ref m12, .ref m13, .ref m14, .ref m15, .ref m16, .ref m17, .ref m18, .int mt])), (m17, .inl (cI, 240, .inl sc))] H := hP
  have hD : va_D A [(hM, .inr (11, [.int (nI mf), .int (nI mn), .ref m1, .ref m2, .ref m3, .int (nI mb), .int (nI (ra + 1)), .int (nI rn), .ref m4, .ref m5, .ref m6, .int (nI mw), .ref m7, .ref m8, .int (nI mh), .ref m9, .ref m10, .int (nI mm), .ref m11, .int (nI mr), .ref m12, .ref m13, .ref m14, .ref m15, .ref m16, .ref m17, .ref m18, .int mt])), (m17, .inl (cI, 240, .inl sc))] := hD
  subst hr_5
  rcases h1 with h1 | h1 | h1
  · skip
    have hkd : kdc (sc (fr + (ra + 1))) = 0 := by rw [h1]; decide
    refine k_eqi (show (sc (fr + (ra + 1))) = (nI 115) from h1) ?_
    refine lv_istore_n (lv' := [(3, .int (nI 115)), (0, .ref hM), (1, .int (nI fr)), (2, .int (nI nn))]) hx hb dX11_readsPerson_38 rfl hl (by decide) rfl (fun ls hl => ?_)
    refine lv_iload_n hx hb dX11_readsPerson_39 rfl (lv_at hl 0 rfl) ?_
    refine lv_bipush (v := (nI 115)) hx hb dX11_readsPerson_40 (by decide) ?_
    refine k_icmp_eq (tgt := 59) hx hb dX11_readsPerson_42 (by decide) (show 115 < 2 ^ 31 by first | omega | (split <;> omega)) (show 115 < 2 ^ 31 by first | omega | (split <;> omega)) (fun _ => ?_) (fun q9 => absurd q9 (by decide))
    refine lv_aload_n hx hb dX11_readsPerson_59 rfl (lv_at hl 1 rfl) ?_
    refine lv_dup hx hb dX11_readsPerson_60 rfl ?_
    refine va_get (D := D) (ci := 11) (v := .int (nI (ra + 1))) (C := RX11) (T := TX11) (N := 28) hx hb hts in_X11 hown hK hP 0 rfl rfl 6 (by decide) lk1 (fun _ h9 => h9) rfl dX11_readsPerson_61 ?_
    refine lv_iconst (v := (nI 1)) hx hb dX11_readsPerson_64 (by decide) ?_
    refine lv_iadd hx hb dX11_readsPerson_65 ?_
    refine k_eqi (show ((nI (ra + 1)) + (nI 1)) = (nI ((ra + 1) + 1)) from nI_add (ra + 1) 1) ?_
    refine va_put (D := D) (ci := 11) (v := .int (nI ((ra + 1) + 1))) (ty := .int) (C := RX11) (T := TX11) (N := 28) hx hb hts in_X11 tyX11 tyX11_ok nmX11 hown hK hP hD hS 0 rfl rfl 6 (by decide) lk1 (fun _ h9 => h9) rfl (by decide +kernel) rfl rfl (Nat.le_of_ble_eq_true rfl) dX11_readsPerson_66 (fun H locs hP hD hS => ?_)
    have hP : va_P D vwCl [(hM, .inr (11, [.int (nI mf), .int (nI mn), .ref m1, .ref m2, .ref m3, .int (nI mb), .int (nI ((ra + 1) + 1)), .int (nI rn), .ref m4, .ref m5, .ref m6, .int (nI mw), .ref m7, .ref m8, .int (nI mh), .ref m9, .ref m10, .int (nI mm), .ref m11, .int (nI mr), .ref m12, .ref m13, .ref m14, .ref m15, .ref m16, .ref m17, .ref m18, .int mt])), (m17, .inl (cI, 240, .inl sc))] H := hP
    have hD : va_D A [(hM, .inr (11, [.int (nI mf), .int (nI mn), .ref m1, .ref m2, .ref m3, .int (nI mb), .int (nI ((ra + 1) + 1)), .int (nI rn), .ref m4, .ref m5, .ref m6, .int (nI mw), .ref m7, .ref m8, .int (nI mh), .ref m9, .ref m10, .int (nI mm), .ref m11, .int (nI mr), .ref m12, .ref m13, .ref m14, .ref m15, .ref m16, .ref m17, .ref m18, .int mt])), (m17, .inl (cI, 240, .inl sc))] := hD
    refine lv_aload_n hx hb dX11_readsPerson_69 rfl (lv_at hl 1 rfl) ?_
    refine lv_iload_n hx hb dX11_readsPerson_70 rfl (lv_at hl 2 rfl) ?_
    refine lv_iload_n hx hb dX11_readsPerson_71 rfl (lv_at hl 3 rfl) ?_
    refine lv_iconst (v := (nI 5)) hx hb dX11_readsPerson_72 (by decide) ?_
    refine k_goi (S := Unit) (va_runV (As := [.int (nI fr), .int (nI nn), .int (nI 5)]) (rest := []) ⟨hx, hb, hml, hown, hts⟩ (c_X11_figure_in l D cI cZ cS cP hM m1 m2 m3 m4 m5 m6 m7 m8 m9 m10 m11 m12 m13 m14 m15 m16 m17 m18 mf mn mb ((ra + 1) + 1) rn mw mh mm mr mt sc fr nn 5 v (by first | assumption | omega) (by first | assumption | omega) (by first | assumption | omega) (by first | assumption | omega) (by first | assumption | omega) _) (cwV 3 hts gX11_readsPerson_X11_figure rfl rfl rfl (by decide +kernel) ⟨Nat.le_of_ble_eq_true rfl, Nat.le_of_ble_eq_true rfl⟩) (kPreV hN hK hP hD [0, 1] rfl rfl (q0 := 0) (ci := 11) (q := (RX11, TX11, 28)) rfl rfl) rfl rfl hl.1 rfl (lv_room (Nat.le_of_ble_eq_true rfl)) dX11_readsPerson_73 ⟨Nat.le_of_ble_eq_true rfl, Nat.le_of_ble_eq_true rfl⟩) hP hD hS hA [0, 1] rfl [hM, m17] rfl (fun _ => rfl) 2 [] rfl (fun _u => [(hM, .inr (11, [.int (nI mf), .int (nI mn), .ref m1, .ref m2, .ref m3, .int (nI mb), .int (nI (((ra + 1) + 1) + 1)), .int (nI rn), .ref m4, .ref m5, .ref m6, .int (nI mw), .ref m7, .ref m8, .int (nI mh), .ref m9, .ref m10, .int (nI mm), .ref m11, .int (nI mr), .ref m12, .ref m13, .ref m14, .ref m15, .ref m16, .ref m17, .ref m18, .int mt])), (m17, .inl (cI, 240, .inl sc))]) (fun _ => rfl) [] [] (fun _ => rfl) rfl (fun _ => rfl) rfl (fun r_6 _u H locs hr_7 hP hD hS => ?_)
    have hP : va_P D vwCl [(hM, .inr (11, [.int (nI mf), .int (nI mn), .ref m1, .ref m2, .ref m3, .int (nI mb), .int (nI (((ra + 1) + 1) + 1)), .int (nI rn), .ref m4, .ref m5, .ref m6, .int (nI mw), .ref m7, .ref m8, .int (nI mh), .ref m9, .ref m10, .int (nI mm), .ref m11, .int (nI mr), .ref m12, .ref m13, .ref m14, .ref m15, .ref m16, .ref m17, .ref m18, .int mt])), (m17, .inl (cI, 240, .inl sc))] H := hP
    have hD : va_D A [(hM, .inr (11, [.int (nI mf), .int (nI mn), .ref m1, .ref m2, .ref m3, .int (nI mb), .int (nI (((ra + 1) + 1) + 1)), .int (nI rn), .ref m4, .ref m5, .ref m6, .int (nI mw), .ref m7, .ref m8, .int (nI mh), .ref m9, .ref m10, .int (nI mm), .ref m11, .int (nI mr), .ref m12, .ref m13, .ref m14, .ref m15, .ref m16, .ref m17, .ref m18, .int mt])), (m17, .inl (cI, 240, .inl sc))] := hD
    subst hr_7
    refine lv_istore (lv' := [(4, .int (nI v)), (3, .int (nI 115)), (0, .ref hM), (1, .int (nI fr)), (2, .int (nI nn))]) hx hb dX11_readsPerson_76 hl (by decide) rfl (fun ls hl => ?_)
    refine lv_iload hx hb dX11_readsPerson_78 (lv_at hl 0 rfl) ?_
    refine k_if_ge (tgt := 88) hx hb dX11_readsPerson_80 (by decide) (show v < 2 ^ 31 by first | omega | (split <;> omega)) ?_
    refine lv_aload_n hx hb dX11_readsPerson_88 rfl (lv_at hl 2 rfl) ?_
    refine lv_iload_n hx hb dX11_readsPerson_89 rfl (lv_at hl 3 rfl) ?_
    refine lv_iload_n hx hb dX11_readsPerson_90 rfl (lv_at hl 4 rfl) ?_
    refine lv_bipush (v := (nI 6)) hx hb dX11_readsPerson_91 (by decide) ?_
    refine k_goi (S := Unit) (va_runV (As := [.int (nI fr), .int (nI nn), .int (nI 6)]) (rest := []) ⟨hx, hb, hml, hown, hts⟩ (c_X11_figure_end l D cI cZ cS cP hM m1 m2 m3 m4 m5 m6 m7 m8 m9 m10 m11 m12 m13 m14 m15 m16 m17 m18 mf mn mb (((ra + 1) + 1) + 1) rn mw mh mm mr mt sc fr nn 6 (by first | assumption | omega) (by first | assumption | omega) (by first | assumption | omega) (by first | assumption | omega) _) (cwV 3 hts gX11_readsPerson_X11_figure rfl rfl rfl (by decide +kernel) ⟨Nat.le_of_ble_eq_true rfl, Nat.le_of_ble_eq_true rfl⟩) (kPreV hN hK hP hD [0, 1] rfl rfl (q0 := 0) (ci := 11) (q := (RX11, TX11, 28)) rfl rfl) rfl rfl hl.1 rfl (lv_room (Nat.le_of_ble_eq_true rfl)) dX11_readsPerson_93 ⟨Nat.le_of_ble_eq_true rfl, Nat.le_of_ble_eq_true rfl⟩) hP hD hS hA [0, 1] rfl [hM, m17] rfl (fun _ => rfl) 2 [] rfl (fun _u => [(hM, .inr (11, [.int (nI mf), .int (nI mn), .ref m1, .ref m2, .ref m3, .int (nI mb), .int (nI (((ra + 1) + 1) + 1)), .int (nI rn), .ref m4, .ref m5, .ref m6, .int (nI mw), .ref m7, .ref m8, .int (nI mh), .ref m9, .ref m10, .int (nI mm), .ref m11, .int (nI mr), .ref m12, .ref m13, .ref m14, .ref m15, .ref m16, .ref m17, .ref m18, .int mt])), (m17, .inl (cI, 240, .inl sc))]) (fun _ => rfl) [] [] (fun _ => rfl) rfl (fun _ => rfl) rfl (fun r_8 _u H locs hr_9 hP hD hS => ?_)
    have hP : va_P D vwCl [(hM, .inr (11, [.int (nI mf), .int (nI mn), .ref m1, .ref m2, .ref m3, .int (nI mb), .int (nI (((ra + 1) + 1) + 1)), .int (nI rn), .ref m4, .ref m5, .ref m6, .int (nI mw), .ref m7, .ref m8, .int (nI mh), .ref m9, .ref m10, .int (nI mm), .ref m11, .int (nI mr), .ref m12, .ref m13, .ref m14, .ref m15, .ref m16, .ref m17, .ref m18, .int mt])), (m17, .inl (cI, 240, .inl sc))] H := hP
    have hD : va_D A [(hM, .inr (11, [.int (nI mf), .int (nI mn), .ref m1, .ref m2, .ref m3, .int (nI mb), .int (nI (((ra + 1) + 1) + 1)), .int (nI rn), .ref m4, .ref m5, .ref m6, .int (nI mw), .ref m7, .ref m8, .int (nI mh), .ref m9, .ref m10, .int (nI mm), .ref m11, .int (nI mr), .ref m12, .ref m13, .ref m14, .ref m15, .ref m16, .ref m17, .ref m18, .int mt])), (m17, .inl (cI, 240, .inl sc))] := hD
    subst hr_9
    refine lv_istore (lv' := [(5, .int (-9)), (4, .int (nI v)), (3, .int (nI 115)), (0, .ref hM), (1, .int (nI fr)), (2, .int (nI nn))]) hx hb dX11_readsPerson_96 hl (by decide) rfl (fun ls hl => ?_)
    refine lv_iload hx hb dX11_readsPerson_98 (lv_at hl 0 rfl) ?_
    refine lv_if_ge (tgt := 105) hx hb dX11_readsPerson_100 (by decide) (fun q9 => absurd q9 (by decide)) (fun _ => ?_)
    refine lv_iconst (v := (nI 0)) hx hb dX11_readsPerson_103 (by decide) ?_
    have e_10 : (nI (((ra + 1) + 1) + 1)) = (nI (ra + 3)) := congrArg nI (show ((ra + 1) + 1) + 1 = ra + 3 by omega)
    have q_11 : ([(hM, .inr (11, [.int (nI mf), .int (nI mn), .ref m1, .ref m2, .ref m3, .int (nI mb), .int (nI (((ra + 1) + 1) + 1)), .int (nI rn), .ref m4, .ref m5, .ref m6, .int (nI mw), .ref m7, .ref m8, .int (nI mh), .ref m9, .ref m10, .int (nI mm), .ref m11, .int (nI mr), .ref m12, .ref m13, .ref m14, .ref m15, .ref m16, .ref m17, .ref m18, .int mt])), (m17, .inl (cI, 240, .inl sc))] : va_W) = [(hM, .inr (11, [.int (nI mf), .int (nI mn), .ref m1, .ref m2, .ref m3, .int (nI mb), .int (nI (ra + 3)), .int (nI rn), .ref m4, .ref m5, .ref m6, .int (nI mw), .ref m7, .ref m8, .int (nI mh), .ref m9, .ref m10, .int (nI mm), .ref m11, .int (nI mr), .ref m12, .ref m13, .ref m14, .ref m15, .ref m16, .ref m17, .ref m18, .int mt])), (m17, .inl (cI, 240, .inl sc))] := by rw [← e_10]
    exact ret _ () _ _ _ _ dX11_readsPerson_104 (rfl) (kP_cast hP q_11) (kD_cast hD q_11) hS
  · skip
    have hkd : kdc (sc (fr + (ra + 1))) = 1 := by rw [h1]; decide
    refine k_eqi (show (sc (fr + (ra + 1))) = (nI 99) from h1) ?_
    refine lv_istore_n (lv' := [(3, .int (nI 99)), (0, .ref hM), (1, .int (nI fr)), (2, .int (nI nn))]) hx hb dX11_readsPerson_38 rfl hl (by decide) rfl (fun ls hl => ?_)
    refine lv_iload_n hx hb dX11_readsPerson_39 rfl (lv_at hl 0 rfl) ?_
    refine lv_bipush (v := (nI 115)) hx hb dX11_readsPerson_40 (by decide) ?_
    refine k_icmp_eq (tgt := 59) hx hb dX11_readsPerson_42 (by decide) (show 99 < 2 ^ 31 by first | omega | (split <;> omega)) (show 115 < 2 ^ 31 by first | omega | (split <;> omega)) (fun q9 => absurd q9 (by decide)) (fun _ => ?_)
    refine lv_iload_n hx hb dX11_readsPerson_45 rfl (lv_at hl 0 rfl) ?_
    refine lv_bipush (v := (nI 99)) hx hb dX11_readsPerson_46 (by decide) ?_
    refine k_icmp_eq (tgt := 59) hx hb dX11_readsPerson_48 (by decide) (show 99 < 2 ^ 31 by first | omega | (split <;> omega)) (show 99 < 2 ^ 31 by first | omega | (split <;> omega)) (fun _ => ?_) (fun q9 => absurd q9 (by decide))
    refine lv_aload_n hx hb dX11_readsPerson_59 rfl (lv_at hl 1 rfl) ?_
    refine lv_dup hx hb dX11_readsPerson_60 rfl ?_
    refine va_get (D := D) (ci := 11) (v := .int (nI (ra + 1))) (C := RX11) (T := TX11) (N := 28) hx hb hts in_X11 hown hK hP 0 rfl rfl 6 (by decide) lk1 (fun _ h9 => h9) rfl dX11_readsPerson_61 ?_
    refine lv_iconst (v := (nI 1)) hx hb dX11_readsPerson_64 (by decide) ?_
    refine lv_iadd hx hb dX11_readsPerson_65 ?_
    refine k_eqi (show ((nI (ra + 1)) + (nI 1)) = (nI ((ra + 1) + 1)) from nI_add (ra + 1) 1) ?_
    refine va_put (D := D) (ci := 11) (v := .int (nI ((ra + 1) + 1))) (ty := .int) (C := RX11) (T := TX11) (N := 28) hx hb hts in_X11 tyX11 tyX11_ok nmX11 hown hK hP hD hS 0 rfl rfl 6 (by decide) lk1 (fun _ h9 => h9) rfl (by decide +kernel) rfl rfl (Nat.le_of_ble_eq_true rfl) dX11_readsPerson_66 (fun H locs hP hD hS => ?_)
    have hP : va_P D vwCl [(hM, .inr (11, [.int (nI mf), .int (nI mn), .ref m1, .ref m2, .ref m3, .int (nI mb), .int (nI ((ra + 1) + 1)), .int (nI rn), .ref m4, .ref m5, .ref m6, .int (nI mw), .ref m7, .ref m8, .int (nI mh), .ref m9, .ref m10, .int (nI mm), .ref m11, .int (nI mr), .ref m12, .ref m13, .ref m14, .ref m15, .ref m16, .ref m17, .ref m18, .int mt])), (m17, .inl (cI, 240, .inl sc))] H := hP
    have hD : va_D A [(hM, .inr (11, [.int (nI mf), .int (nI mn), .ref m1, .ref m2, .ref m3, .int (nI mb), .int (nI ((ra + 1) + 1)), .int (nI rn), .ref m4, .ref m5, .ref m6, .int (nI mw), .ref m7, .ref m8, .int (nI mh), .ref m9, .ref m10, .int (nI mm), .ref m11, .int (nI mr), .ref m12, .ref m13, .ref m14, .ref m15, .ref m16, .ref m17, .ref m18, .int mt])), (m17, .inl (cI, 240, .inl sc))] := hD
    refine lv_aload_n hx hb dX11_readsPerson_69 rfl (lv_at hl 1 rfl) ?_
    refine lv_iload_n hx hb dX11_readsPerson_70 rfl (lv_at hl 2 rfl) ?_
    refine lv_iload_n hx hb dX11_readsPerson_71 rfl (lv_at hl 3 rfl) ?_
    refine lv_iconst (v := (nI 5)) hx hb dX11_readsPerson_72 (by decide) ?_
    refine k_goi (S := Unit) (va_runV (As := [.int (nI fr), .int (nI nn), .int (nI 5)]) (rest := []) ⟨hx, hb, hml, hown, hts⟩ (c_X11_figure_in l D cI cZ cS cP hM m1 m2 m3 m4 m5 m6 m7 m8 m9 m10 m11 m12 m13 m14 m15 m16 m17 m18 mf mn mb ((ra + 1) + 1) rn mw mh mm mr mt sc fr nn 5 v (by first | assumption | omega) (by first | assumption | omega) (by first | assumption | omega) (by first | assumption | omega) (by first | assumption | omega) _) (cwV 3 hts gX11_readsPerson_X11_figure rfl rfl rfl (by decide +kernel) ⟨Nat.le_of_ble_eq_true rfl, Nat.le_of_ble_eq_true rfl⟩) (kPreV hN hK hP hD [0, 1] rfl rfl (q0 := 0) (ci := 11) (q := (RX11, TX11, 28)) rfl rfl) rfl rfl hl.1 rfl (lv_room (Nat.le_of_ble_eq_true rfl)) dX11_readsPerson_73 ⟨Nat.le_of_ble_eq_true rfl, Nat.le_of_ble_eq_true rfl⟩) hP hD hS hA [0, 1] rfl [hM, m17] rfl (fun _ => rfl) 2 [] rfl (fun _u => [(hM, .inr (11, [.int (nI mf), .int (nI mn), .ref m1, .ref m2, .ref m3, .int (nI mb), .int (nI (((ra + 1) + 1) + 1)), .int (nI rn), .ref m4, .ref m5, .ref m6, .int (nI mw), .ref m7, .ref m8, .int (nI mh), .ref m9, .ref m10, .int (nI mm), .ref m11, .int (nI mr), .ref m12, .ref m13, .ref m14, .ref m15, .ref m16, .ref m17, .ref m18, .int mt])), (m17, .inl (cI, 240, .inl sc))]) (fun _ => rfl) [] [] (fun _ => rfl) rfl (fun _ => rfl) rfl (fun r_12 _u H locs hr_13 hP hD hS => ?_)
    have hP : va_P D vwCl [(hM, .inr (11, [.int (nI mf), .int (nI mn), .ref m1, .ref m2, .ref m3, .int (nI mb), .int (nI (((ra + 1) + 1) + 1)), .int (nI rn), .ref m4, .ref m5, .ref m6, .int (nI mw), .ref m7, .ref m8, .int (nI mh), .ref m9, .ref m10, .int (nI mm), .ref m11, .int (nI mr), .ref m12, .ref m13, .ref m14, .ref m15, .ref m16, .ref m17, .ref m18, .int mt])), (m17, .inl (cI, 240, .inl sc))] H := hP
    have hD : va_D A [(hM, .inr (11, [.int (nI mf), .int (nI mn), .ref m1, .ref m2, .ref m3, .int (nI mb), .int (nI (((ra + 1) + 1) + 1)), .int (nI rn), .ref m4, .ref m5, .ref m6, .int (nI mw), .ref m7, .ref m8, .int (nI mh), .ref m9, .ref m10, .int (nI mm), .ref m11, .int (nI mr), .ref m12, .ref m13, .ref m14, .ref m15, .ref m16, .ref m17, .ref m18, .int mt])), (m17, .inl (cI, 240, .inl sc))] := hD
    subst hr_13
    refine lv_istore (lv' := [(4, .int (nI v)), (3, .int (nI 99)), (0, .ref hM), (1, .int (nI fr)), (2, .int (nI nn))]) hx hb dX11_readsPerson_76 hl (by decide) rfl (fun ls hl => ?_)
    refine lv_iload hx hb dX11_readsPerson_78 (lv_at hl 0 rfl) ?_
    refine k_if_ge (tgt := 88) hx hb dX11_readsPerson_80 (by decide) (show v < 2 ^ 31 by first | omega | (split <;> omega)) ?_
    refine lv_aload_n hx hb dX11_readsPerson_88 rfl (lv_at hl 2 rfl) ?_
    refine lv_iload_n hx hb dX11_readsPerson_89 rfl (lv_at hl 3 rfl) ?_
    refine lv_iload_n hx hb dX11_readsPerson_90 rfl (lv_at hl 4 rfl) ?_
    refine lv_bipush (v := (nI 6)) hx hb dX11_readsPerson_91 (by decide) ?_
    refine k_goi (S := Unit) (va_runV (As := [.int (nI fr), .int (nI nn), .int (nI 6)]) (rest := []) ⟨hx, hb, hml, hown, hts⟩ (c_X11_figure_end l D cI cZ cS cP hM m1 m2 m3 m4 m5 m6 m7 m8 m9 m10 m11 m12 m13 m14 m15 m16 m17 m18 mf mn mb (((ra + 1) + 1) + 1) rn mw mh mm mr mt sc fr nn 6 (by first | assumption | omega) (by first | assumption | omega) (by first | assumption | omega) (by first | assumption | omega) _) (cwV 3 hts gX11_readsPerson_X11_figure rfl rfl rfl (by decide +kernel) ⟨Nat.le_of_ble_eq_true rfl, Nat.le_of_ble_eq_true rfl⟩) (kPreV hN hK hP hD [0, 1] rfl rfl (q0 := 0) (ci := 11) (q := (RX11, TX11, 28)) rfl rfl) rfl rfl hl.1 rfl (lv_room (Nat.le_of_ble_eq_true rfl)) dX11_readsPerson_93 ⟨Nat.le_of_ble_eq_true rfl, Nat.le_of_ble_eq_true rfl⟩) hP hD hS hA [0, 1] rfl [hM, m17] rfl (fun _ => rfl) 2 [] rfl (fun _u => [(hM, .inr (11, [.int (nI mf), .int (nI mn), .ref m1, .ref m2, .ref m3, .int (nI mb), .int (nI (((ra + 1) + 1) + 1)), .int (nI rn), .ref m4, .ref m5, .ref m6, .int (nI mw), .ref m7, .ref m8, .int (nI mh), .ref m9, .ref m10, .int (nI mm), .ref m11, .int (nI mr), .ref m12, .ref m13, .ref m14, .ref m15, .ref m16, .ref m17, .ref m18, .int mt])), (m17, .inl (cI, 240, .inl sc))]) (fun _ => rfl) [] [] (fun _ => rfl) rfl (fun _ => rfl) rfl (fun r_14 _u H locs hr_15 hP hD hS => ?_)
    have hP : va_P D vwCl [(hM, .inr (11, [.int (nI mf), .int (nI mn), .ref m1, .ref m2, .ref m3, .int (nI mb), .int (nI (((ra + 1) + 1) + 1)), .int (nI rn), .ref m4, .ref m5, .ref m6, .int (nI mw), .ref m7, .ref m8, .int (nI mh), .ref m9, .ref m10, .int (nI mm), .ref m11, .int (nI mr), .ref m12, .ref m13, .ref m14, .ref m15, .ref m16, .ref m17, .ref m18, .int mt])), (m17, .inl (cI, 240, .inl sc))] H := hP
    have hD : va_D A [(hM, .inr (11, [.int (nI mf), .int (nI mn), .ref m1, .ref m2, .ref m3, .int (nI mb), .int (nI (((ra + 1) + 1) + 1)), .int (nI rn), .ref m4, .ref m5, .ref m6, .int (nI mw), .ref m7, .ref m8, .int (nI mh), .ref m9, .ref m10, .int (nI mm), .ref m11, .int (nI mr), .ref m12, .ref m13, .ref m14, .ref m15, .ref m16, .ref m17, .ref m18, .int mt])), (m17, .inl (cI, 240, .inl sc))] := hD
    subst hr_15
    refine lv_istore (lv' := [(5, .int (-9)), (4, .int (nI v)), (3, .int (nI 99)), (0, .ref hM), (1, .int (nI fr)), (2, .int (nI nn))]) hx hb dX11_readsPerson_96 hl (by decide) rfl (fun ls hl => ?_)
    refine lv_iload hx hb dX11_readsPerson_98 (lv_at hl 0 rfl) ?_
    refine lv_if_ge (tgt := 105) hx hb dX11_readsPerson_100 (by decide) (fun q9 => absurd q9 (by decide)) (fun _ => ?_)
    refine lv_iconst (v := (nI 0)) hx hb dX11_readsPerson_103 (by decide) ?_
    have e_16 : (nI (((ra + 1) + 1) + 1)) = (nI (ra + 3)) := congrArg nI (show ((ra + 1) + 1) + 1 = ra + 3 by omega)
    have q_17 : ([(hM, .inr (11, [.int (nI mf), .int (nI mn), .ref m1, .ref m2, .ref m3, .int (nI mb), .int (nI (((ra + 1) + 1) + 1)), .int (nI rn), .ref m4, .ref m5, .ref m6, .int (nI mw), .ref m7, .ref m8, .int (nI mh), .ref m9, .ref m10, .int (nI mm), .ref m11, .int (nI mr), .ref m12, .ref m13, .ref m14, .ref m15, .ref m16, .ref m17, .ref m18, .int mt])), (m17, .inl (cI, 240, .inl sc))] : va_W) = [(hM, .inr (11, [.int (nI mf), .int (nI mn), .ref m1, .ref m2, .ref m3, .int (nI mb), .int (nI (ra + 3)), .int (nI rn), .ref m4, .ref m5, .ref m6, .int (nI mw), .ref m7, .ref m8, .int (nI mh), .ref m9, .ref m10, .int (nI mm), .ref m11, .int (nI mr), .ref m12, .ref m13, .ref m14, .ref m15, .ref m16, .ref m17, .ref m18, .int mt])), (m17, .inl (cI, 240, .inl sc))] := by rw [← e_16]
    exact ret _ () _ _ _ _ dX11_readsPerson_104 (rfl) (kP_cast hP q_17) (kD_cast hD q_17) hS
  · skip
    have hkd : kdc (sc (fr + (ra + 1))) = 2 := by rw [h1]; decide
    refine k_eqi (show (sc (fr + (ra + 1))) = (nI 116) from h1) ?_
    refine lv_istore_n (lv' := [(3, .int (nI 116)), (0, .ref hM), (1, .int (nI fr)), (2, .int (nI nn))]) hx hb dX11_readsPerson_38 rfl hl (by decide) rfl (fun ls hl => ?_)
    refine lv_iload_n hx hb dX11_readsPerson_39 rfl (lv_at hl 0 rfl) ?_
    refine lv_bipush (v := (nI 115)) hx hb dX11_readsPerson_40 (by decide) ?_
    refine k_icmp_eq (tgt := 59) hx hb dX11_readsPerson_42 (by decide) (show 116 < 2 ^ 31 by first | omega | (split <;> omega)) (show 115 < 2 ^ 31 by first | omega | (split <;> omega)) (fun q9 => absurd q9 (by decide)) (fun _ => ?_)
    refine lv_iload_n hx hb dX11_readsPerson_45 rfl (lv_at hl 0 rfl) ?_
    refine lv_bipush (v := (nI 99)) hx hb dX11_readsPerson_46 (by decide) ?_
    refine k_icmp_eq (tgt := 59) hx hb dX11_readsPerson_48 (by decide) (show 116 < 2 ^ 31 by first | omega | (split <;> omega)) (show 99 < 2 ^ 31 by first | omega | (split <;> omega)) (fun q9 => absurd q9 (by decide)) (fun _ => ?_)
    refine lv_iload_n hx hb dX11_readsPerson_51 rfl (lv_at hl 0 rfl) ?_
    refine lv_bipush (v := (nI 116)) hx hb dX11_readsPerson_52 (by decide) ?_
    refine k_icmp_eq (tgt := 59) hx hb dX11_readsPerson_54 (by decide) (show 116 < 2 ^ 31 by first | omega | (split <;> omega)) (show 116 < 2 ^ 31 by first | omega | (split <;> omega)) (fun _ => ?_) (fun q9 => absurd q9 (by decide))
    refine lv_aload_n hx hb dX11_readsPerson_59 rfl (lv_at hl 1 rfl) ?_
    refine lv_dup hx hb dX11_readsPerson_60 rfl ?_
    refine va_get (D := D) (ci := 11) (v := .int (nI (ra + 1))) (C := RX11) (T := TX11) (N := 28) hx hb hts in_X11 hown hK hP 0 rfl rfl 6 (by decide) lk1 (fun _ h9 => h9) rfl dX11_readsPerson_61 ?_
    refine lv_iconst (v := (nI 1)) hx hb dX11_readsPerson_64 (by decide) ?_
    refine lv_iadd hx hb dX11_readsPerson_65 ?_
    refine k_eqi (show ((nI (ra + 1)) + (nI 1)) = (nI ((ra + 1) + 1)) from nI_add (ra + 1) 1) ?_
    refine va_put (D := D) (ci := 11) (v := .int (nI ((ra + 1) + 1))) (ty := .int) (C := RX11) (T := TX11) (N := 28) hx hb hts in_X11 tyX11 tyX11_ok nmX11 hown hK hP hD hS 0 rfl rfl 6 (by decide) lk1 (fun _ h9 => h9) rfl (by decide +kernel) rfl rfl (Nat.le_of_ble_eq_true rfl) dX11_readsPerson_66 (fun H locs hP hD hS => ?_)
    have hP : va_P D vwCl [(hM, .inr (11, [.int (nI mf), .int (nI mn), .ref m1, .ref m2, .ref m3, .int (nI mb), .int (nI ((ra + 1) + 1)), .int (nI rn), .ref m4, .ref m5, .ref m6, .int (nI mw), .ref m7, .ref m8, .int (nI mh), .ref m9, .ref m10, .int (nI mm), .ref m11, .int (nI mr), .ref m12, .ref m13, .ref m14, .ref m15, .ref m16, .ref m17, .ref m18, .int mt])), (m17, .inl (cI, 240, .inl sc))] H := hP
    have hD : va_D A [(hM, .inr (11, [.int (nI mf), .int (nI mn), .ref m1, .ref m2, .ref m3, .int (nI mb), .int (nI ((ra + 1) + 1)), .int (nI rn), .ref m4, .ref m5, .ref m6, .int (nI mw), .ref m7, .ref m8, .int (nI mh), .ref m9, .ref m10, .int (nI mm), .ref m11, .int (nI mr), .ref m12, .ref m13, .ref m14, .ref m15, .ref m16, .ref m17, .ref m18, .int mt])), (m17, .inl (cI, 240, .inl sc))] := hD
    refine lv_aload_n hx hb dX11_readsPerson_69 rfl (lv_at hl 1 rfl) ?_
    refine lv_iload_n hx hb dX11_readsPerson_70 rfl (lv_at hl 2 rfl) ?_
    refine lv_iload_n hx hb dX11_readsPerson_71 rfl (lv_at hl 3 rfl) ?_
    refine lv_iconst (v := (nI 5)) hx hb dX11_readsPerson_72 (by decide) ?_
    refine k_goi (S := Unit) (va_runV (As := [.int (nI fr), .int (nI nn), .int (nI 5)]) (rest := []) ⟨hx, hb, hml, hown, hts⟩ (c_X11_figure_in l D cI cZ cS cP hM m1 m2 m3 m4 m5 m6 m7 m8 m9 m10 m11 m12 m13 m14 m15 m16 m17 m18 mf mn mb ((ra + 1) + 1) rn mw mh mm mr mt sc fr nn 5 v (by first | assumption | omega) (by first | assumption | omega) (by first | assumption | omega) (by first | assumption | omega) (by first | assumption | omega) _) (cwV 3 hts gX11_readsPerson_X11_figure rfl rfl rfl (by decide +kernel) ⟨Nat.le_of_ble_eq_true rfl, Nat.le_of_ble_eq_true rfl⟩) (kPreV hN hK hP hD [0, 1] rfl rfl (q0 := 0) (ci := 11) (q := (RX11, TX11, 28)) rfl rfl) rfl rfl hl.1 rfl (lv_room (Nat.le_of_ble_eq_true rfl)) dX11_readsPerson_73 ⟨Nat.le_of_ble_eq_true rfl, Nat.le_of_ble_eq_true rfl⟩) hP hD hS hA [0, 1] rfl [hM, m17] rfl (fun _ => rfl) 2 [] rfl (fun _u => [(hM, .inr (11, [.int (nI mf), .int (nI mn), .ref m1, .ref m2, .ref m3, .int (nI mb), .int (nI (((ra + 1) + 1) + 1)), .int (nI rn), .ref m4, .ref m5, .ref m6, .int (nI mw), .ref m7, .ref m8, .int (nI mh), .ref m9, .ref m10, .int (nI mm), .ref m11, .int (nI mr), .ref m12, .ref m13, .ref m14, .ref m15, .ref m16, .ref m17, .ref m18, .int mt])), (m17, .inl (cI, 240, .inl sc))]) (fun _ => rfl) [] [] (fun _ => rfl) rfl (fun _ => rfl) rfl (fun r_18 _u H locs hr_19 hP hD hS => ?_)
    have hP : va_P D vwCl [(hM, .inr (11, [.int (nI mf), .int (nI mn), .ref m1, .ref m2, .ref m3, .int (nI mb), .int (nI (((ra + 1) + 1) + 1)), .int (nI rn), .ref m4, .ref m5, .ref m6, .int (nI mw), .ref m7, .ref m8, .int (nI mh), .ref m9, .ref m10, .int (nI mm), .ref m11, .int (nI mr), .ref m12, .ref m13, .ref m14, .ref m15, .ref m16, .ref m17, .ref m18, .int mt])), (m17, .inl (cI, 240, .inl sc))] H := hP
    have hD : va_D A [(hM, .inr (11, [.int (nI mf), .int (nI mn), .ref m1, .ref m2, .ref m3, .int (nI mb), .int (nI (((ra + 1) + 1) + 1)), .int (nI rn), .ref m4, .ref m5, .ref m6, .int (nI mw), .ref m7, .ref m8, .int (nI mh), .ref m9, .ref m10, .int (nI mm), .ref m11, .int (nI mr), .ref m12, .ref m13, .ref m14, .ref m15, .ref m16, .ref m17, .ref m18, .int mt])), (m17, .inl (cI, 240, .inl sc))] := hD
    subst hr_19
    refine lv_istore (lv' := [(4, .int (nI v)), (3, .int (nI 116)), (0, .ref hM), (1, .int (nI fr)), (2, .int (nI nn))]) hx hb dX11_readsPerson_76 hl (by decide) rfl (fun ls hl => ?_)
    refine lv_iload hx hb dX11_readsPerson_78 (lv_at hl 0 rfl) ?_
    refine k_if_ge (tgt := 88) hx hb dX11_readsPerson_80 (by decide) (show v < 2 ^ 31 by first | omega | (split <;> omega)) ?_
    refine lv_aload_n hx hb dX11_readsPerson_88 rfl (lv_at hl 2 rfl) ?_
    refine lv_iload_n hx hb dX11_readsPerson_89 rfl (lv_at hl 3 rfl) ?_
    refine lv_iload_n hx hb dX11_readsPerson_90 rfl (lv_at hl 4 rfl) ?_
    refine lv_bipush (v := (nI 6)) hx hb dX11_readsPerson_91 (by decide) ?_
    refine k_goi (S := Unit) (va_runV (As := [.int (nI fr), .int (nI nn), .int (nI 6)]) (rest := []) ⟨hx, hb, hml, hown, hts⟩ (c_X11_figure_end l D cI cZ cS cP hM m1 m2 m3 m4 m5 m6 m7 m8 m9 m10 m11 m12 m13 m14 m15 m16 m17 m18 mf mn mb (((ra + 1) + 1) + 1) rn mw mh mm mr mt sc fr nn 6 (by first | assumption | omega) (by first | assumption | omega) (by first | assumption | omega) (by first | assumption | omega) _) (cwV 3 hts gX11_readsPerson_X11_figure rfl rfl rfl (by decide +kernel) ⟨Nat.le_of_ble_eq_true rfl, Nat.le_of_ble_eq_true rfl⟩) (kPreV hN hK hP hD [0, 1] rfl rfl (q0 := 0) (ci := 11) (q := (RX11, TX11, 28)) rfl rfl) rfl rfl hl.1 rfl (lv_room (Nat.le_of_ble_eq_true rfl)) dX11_readsPerson_93 ⟨Nat.le_of_ble_eq_true rfl, Nat.le_of_ble_eq_true rfl⟩) hP hD hS hA [0, 1] rfl [hM, m17] rfl (fun _ => rfl) 2 [] rfl (fun _u => [(hM, .inr (11, [.int (nI mf), .int (nI mn), .ref m1, .ref m2, .ref m3, .int (nI mb), .int (nI (((ra + 1) + 1) + 1)), .int (nI rn), .ref m4, .ref m5, .ref m6, .int (nI mw), .ref m7, .ref m8, .int (nI mh), .ref m9, .ref m10, .int (nI mm), .ref m11, .int (nI mr), .ref m12, .ref m13, .ref m14, .ref m15, .ref m16, .ref m17, .ref m18, .int mt])), (m17, .inl (cI, 240, .inl sc))]) (fun _ => rfl) [] [] (fun _ => rfl) rfl (fun _ => rfl) rfl (fun r_20 _u H locs hr_21 hP hD hS => ?_)
    have hP : va_P D vwCl [(hM, .inr (11, [.int (nI mf), .int (nI mn), .ref m1, .ref m2, .ref m3, .int (nI mb), .int (nI (((ra + 1) + 1) + 1)), .int (nI rn), .ref m4, .ref m5, .ref m6, .int (nI mw), .ref m7, .ref m8, .int (nI mh), .ref m9, .ref m10, .int (nI mm), .ref m11, .int (nI mr), .ref m12, .ref m13, .ref m14, .ref m15, .ref m16, .ref m17, .ref m18, .int mt])), (m17, .inl (cI, 240, .inl sc))] H := hP
    have hD : va_D A [(hM, .inr (11, [.int (nI mf), .int (nI mn), .ref m1, .ref m2, .ref m3, .int (nI mb), .int (nI (((ra + 1) + 1) + 1)), .int (nI rn), .ref m4, .ref m5, .ref m6, .int (nI mw), .ref m7, .ref m8, .int (nI mh), .ref m9, .ref m10, .int (nI mm), .ref m11, .int (nI mr), .ref m12, .ref m13, .ref m14, .ref m15, .ref m16, .ref m17, .ref m18, .int mt])), (m17, .inl (cI, 240, .inl sc))] := hD
    subst hr_21
    refine lv_istore (lv' := [(5, .int (-9)), (4, .int (nI v)), (3, .int (nI 116)), (0, .ref hM), (1, .int (nI fr)), (2, .int (nI nn))]) hx hb dX11_readsPerson_96 hl (by decide) rfl (fun ls hl => ?_)
    refine lv_iload hx hb dX11_readsPerson_98 (lv_at hl 0 rfl) ?_
    refine lv_if_ge (tgt := 105) hx hb dX11_readsPerson_100 (by decide) (fun q9 => absurd q9 (by decide)) (fun _ => ?_)
    refine lv_iconst (v := (nI 0)) hx hb dX11_readsPerson_103 (by decide) ?_
    have e_22 : (nI (((ra + 1) + 1) + 1)) = (nI (ra + 3)) := congrArg nI (show ((ra + 1) + 1) + 1 = ra + 3 by omega)
    have q_23 : ([(hM, .inr (11, [.int (nI mf), .int (nI mn), .ref m1, .ref m2, .ref m3, .int (nI mb), .int (nI (((ra + 1) + 1) + 1)), .int (nI rn), .ref m4, .ref m5, .ref m6, .int (nI mw), .ref m7, .ref m8, .int (nI mh), .ref m9, .ref m10, .int (nI mm), .ref m11, .int (nI mr), .ref m12, .ref m13, .ref m14, .ref m15, .ref m16, .ref m17, .ref m18, .int mt])), (m17, .inl (cI, 240, .inl sc))] : va_W) = [(hM, .inr (11, [.int (nI mf), .int (nI mn), .ref m1, .ref m2, .ref m3, .int (nI mb), .int (nI (ra + 3)), .int (nI rn), .ref m4, .ref m5, .ref m6, .int (nI mw), .ref m7, .ref m8, .int (nI mh), .ref m9, .ref m10, .int (nI mm), .ref m11, .int (nI mr), .ref m12, .ref m13, .ref m14, .ref m15, .ref m16, .ref m17, .ref m18, .int mt])), (m17, .inl (cI, 240, .inl sc))] := by rw [← e_22]
    exact ret _ () _ _ _ _ dX11_readsPerson_104 (rfl) (kP_cast hP q_23) (kD_cast hD q_23) hS
def rm_X11_readsPerson_w3 : Room := { frames := 2, cells := 0, slots := 0, locals := 50 }
set_option maxHeartbeats 4000000 in
set_option maxRecDepth 100000 in
theorem c_X11_readsPerson_w3 (l : Launch) (D : va_G) (cI cZ cS cP : ClassId) (hM : Nat) (m1 : Nat) (m2 : Nat) (m3 : Nat) (m4 : Nat) (m5 : Nat) (m6 : Nat) (m7 : Nat) (m8 : Nat) (m9 : Nat) (m10 : Nat) (m11 : Nat) (m12 : Nat) (m13 : Nat) (m14 : Nat) (m15 : Nat) (m16 : Nat) (m17 : Nat) (m18 : Nat) (mf : Nat) (mn : Nat) (mb : Nat) (ra : Nat) (rn : Nat) (mw : Nat) (mh : Nat) (mm : Nat) (mr : Nat) (mt : Int32) (sc : Nat → Int32) (fr : Nat) (nn : Nat) (v : Nat) (hfr : fr + nn ≤ 240) (hrn : rn < 7) (h0 : sc (fr + ra) = nI 59) (hn0 : ra < nn) (h1 : sc (fr + (ra + 1)) = nI 115 ∨ sc (fr + (ra + 1)) = nI 99 ∨ sc (fr + (ra + 1)) = nI 116) (hn1 : ra + 1 < nn) (h2 : sc (fr + ((ra + 1) + 1)) - nI 48 = nI v) (hv : v ≤ 5) (hn2 : (ra + 1) + 1 < nn) (hn3 : ((ra + 1) + 1) + 1 < nn) (h3 : ¬ inR (sc (fr + (((ra + 1) + 1) + 1)) - nI 48) (6 + 1)) : kMi (S := Unit) l yX11_readsPerson wsX11_readsPerson rm_X11_readsPerson_w3 D (kT cI cZ cS cP) [.ref hM, .int (nI fr), .int (nI nn)] [(hM, .inr (11, [.int (nI mf), .int (nI mn), .ref m1, .ref m2, .ref m3, .int (nI mb), .int (nI ra), .int (nI rn), .ref m4, .ref m5, .ref m6, .int (nI mw), .ref m7, .ref m8, .int (nI mh), .ref m9, .ref m10, .int (nI mm), .ref m11, .int (nI mr), .ref m12, .ref m13, .ref m14, .ref m15, .ref m16, .ref m17, .ref m18, .int mt])), (m17, .inl (cI, 240, .inl sc))] (fun r _ => r = (nI 0)) (fun _ => [(hM, .inr (11, [.int (nI mf), .int (nI mn), .ref m1, .ref m2, .ref m3, .int (nI mb), .int (nI (ra + 3)), .int (nI rn), .ref m4, .ref m5, .ref m6, .int (nI mw), .ref m7, .ref m8, .int (nI mh), .ref m9, .ref m10, .int (nI mm), .ref m11, .int (nI mr), .ref m12, .ref m13, .ref m14, .ref m15, .ref m16, .ref m17, .ref m18, .int mt])), (m17, .inl (cI, 240, .inl sc))]) := by
  refine kMet_i (cc := cX11_readsPerson) (maxL := 6) (ty := .boolean) (by decide) rfl (Nat.le_of_ble_eq_true rfl) (fun _ _ q => by (first | subst q | (obtain ⟨q, -⟩ := q; subst q)); (first | exact kz_nr | decide)) ?_
  intro p e s m args below meth c A Q ls C hlocks hin hN hK hP hD hS hA hl ret
  obtain ⟨hx, hb, hml, hown, hts⟩ := C
  have hl : lv_has ls 6 [(0, .ref hM), (1, .int (nI fr)), (2, .int (nI nn))] := hl
  have in_X11 : ∀ w ∈ wsX110, w ∈ wsX11_readsPerson := by decide +kernel
  have lk0 := hts (.fieldLink RX11 91 "SilkWordModel" "readPersons" "I") (by decide +kernel)
  have lk1 := hts (.fieldLink RX11 84 "SilkWordModel" "readAt" "I") (by decide +kernel)
  refine lv_aload_n hx hb dX11_readsPerson_0 rfl (lv_at hl 0 rfl) ?_
  refine va_get (D := D) (ci := 11) (v := .int (nI rn)) (C := RX11) (T := TX11) (N := 28) hx hb hts in_X11 hown hK hP 0 rfl rfl 7 (by decide) lk0 (fun _ h9 => h9) rfl dX11_readsPerson_1 ?_
  refine lv_bipush (v := (nI 7)) hx hb dX11_readsPerson_4 (by decide) ?_
  refine k_icmp_eq (tgt := 20) hx hb dX11_readsPerson_6 (by decide) (show rn < 2 ^ 31 by first | omega | (split <;> omega)) (show 7 < 2 ^ 31 by first | omega | (split <;> omega)) (fun c_1 => absurd c_1 (by omega)) (fun c_1 => ?_)
  refine lv_aload_n hx hb dX11_readsPerson_9 rfl (lv_at hl 0 rfl) ?_
  refine lv_iload_n hx hb dX11_readsPerson_10 rfl (lv_at hl 1 rfl) ?_
  refine lv_iload_n hx hb dX11_readsPerson_11 rfl (lv_at hl 2 rfl) ?_
  refine k_goi (S := Unit) (va_runV (As := [.int (nI fr), .int (nI nn)]) (rest := []) ⟨hx, hb, hml, hown, hts⟩ (c_X11_codeAt_in l D cI cZ cS cP hM m1 m2 m3 m4 m5 m6 m7 m8 m9 m10 m11 m12 m13 m14 m15 m16 m17 m18 mf mn mb ra rn mw mh mm mr mt sc fr nn (by first | assumption | omega) (by first | assumption | omega) _) (cwV 2 hts gX11_readsPerson_X11_codeAt rfl rfl rfl (by decide +kernel) ⟨Nat.le_of_ble_eq_true rfl, Nat.le_of_ble_eq_true rfl⟩) (kPreV hN hK hP hD [0, 1] rfl rfl (q0 := 0) (ci := 11) (q := (RX11, TX11, 28)) rfl rfl) rfl rfl hl.1 rfl (lv_room (Nat.le_of_ble_eq_true rfl)) dX11_readsPerson_12 ⟨Nat.le_of_ble_eq_true rfl, Nat.le_of_ble_eq_true rfl⟩) hP hD hS hA [0, 1] rfl [hM, m17] rfl (fun _ => rfl) 2 [] rfl (fun _u => [(hM, .inr (11, [.int (nI mf), .int (nI mn), .ref m1, .ref m2, .ref m3, .int (nI mb), .int (nI ra), .int (nI rn), .ref m4, .ref m5, .ref m6, .int (nI mw), .ref m7, .ref m8, .int (nI mh), .ref m9, .ref m10, .int (nI mm), .ref m11, .int (nI mr), .ref m12, .ref m13, .ref m14, .ref m15, .ref m16, .ref m17, .ref m18, .int mt])), (m17, .inl (cI, 240, .inl sc))]) (fun _ => rfl) [] [] (fun _ => rfl) rfl (fun _ => rfl) rfl (fun r_2 _u H locs hr_3 hP hD hS => ?_)
  have hP : va_P D vwCl [(hM, .inr (11, [.int (nI mf), .int (nI mn), .ref m1, .ref m2, .ref m3, .int (nI mb), .int (nI ra), .int (nI rn), .ref m4, .ref m5, .ref m6, .int (nI mw), .ref m7, .ref m8, .int (nI mh), .ref m9, .ref m10, .int (nI mm), .ref m11, .int (nI mr), .ref m12, .ref m13, .ref m14, .ref m15, .ref m16, .ref m17, .ref m18, .int mt])), (m17, .inl (cI, 240, .inl sc))] H := hP
  have hD : va_D A [(hM, .inr (11, [.int (nI mf), .int (nI mn), .ref m1, .ref m2, .ref m3, .int (nI mb), .int (nI ra), .int (nI rn), .ref m4, .ref m5, .ref m6, .int (nI mw), .ref m7, .ref m8, .int (nI mh), .ref m9, .ref m10, .int (nI mm), .ref m11, .int (nI mr), .ref m12, .ref m13, .ref m14, .ref m15, .ref m16, .ref m17, .ref m18, .int mt])), (m17, .inl (cI, 240, .inl sc))] := hD
  subst hr_3
  refine k_eqi (show (sc (fr + ra)) = (nI 59) from h0) ?_
  refine lv_bipush (v := (nI 59)) hx hb dX11_readsPerson_15 (by decide) ?_
  refine k_icmp_eq (tgt := 22) hx hb dX11_readsPerson_17 (by decide) (show 59 < 2 ^ 31 by first | omega | (split <;> omega)) (show 59 < 2 ^ 31 by first | omega | (split <;> omega)) (fun _ => ?_) (fun q9 => absurd q9 (by decide))
  refine lv_aload_n hx hb dX11_readsPerson_22 rfl (lv_at hl 0 rfl) ?_
  refine lv_dup hx hb dX11_readsPerson_23 rfl ?_
  refine va_get (D := D) (ci := 11) (v := .int (nI ra)) (C := RX11) (T := TX11) (N := 28) hx hb hts in_X11 hown hK hP 0 rfl rfl 6 (by decide) lk1 (fun _ h9 => h9) rfl dX11_readsPerson_24 ?_
  refine lv_iconst (v := (nI 1)) hx hb dX11_readsPerson_27 (by decide) ?_
  refine lv_iadd hx hb dX11_readsPerson_28 ?_
  refine k_eqi (show ((nI ra) + (nI 1)) = (nI (ra + 1)) from nI_add ra 1) ?_
  refine va_put (D := D) (ci := 11) (v := .int (nI (ra + 1))) (ty := .int) (C := RX11) (T := TX11) (N := 28) hx hb hts in_X11 tyX11 tyX11_ok nmX11 hown hK hP hD hS 0 rfl rfl 6 (by decide) lk1 (fun _ h9 => h9) rfl (by decide +kernel) rfl rfl (Nat.le_of_ble_eq_true rfl) dX11_readsPerson_29 (fun H locs hP hD hS => ?_)
  have hP : va_P D vwCl [(hM, .inr (11, [.int (nI mf), .int (nI mn), .ref m1, .ref m2, .ref m3, .int (nI mb), .int (nI (ra + 1)), .int (nI rn), .ref m4, .ref m5, .ref m6, .int (nI mw), .ref m7, .ref m8, .int (nI mh), .ref m9, .ref m10, .int (nI mm), .ref m11, .int (nI mr), .ref m12, .ref m13, .ref m14, .ref m15, .ref m16, .ref m17, .ref m18, .int mt])), (m17, .inl (cI, 240, .inl sc))] H := hP
  have hD : va_D A [(hM, .inr (11, [.int (nI mf), .int (nI mn), .ref m1, .ref m2, .ref m3, .int (nI mb), .int (nI (ra + 1)), .int (nI rn), .ref m4, .ref m5, .ref m6, .int (nI mw), .ref m7, .ref m8, .int (nI mh), .ref m9, .ref m10, .int (nI mm), .ref m11, .int (nI mr), .ref m12, .ref m13, .ref m14, .ref m15, .ref m16, .ref m17, .ref m18, .int mt])), (m17, .inl (cI, 240, .inl sc))] := hD
  refine lv_aload_n hx hb dX11_readsPerson_32 rfl (lv_at hl 0 rfl) ?_
  refine lv_iload_n hx hb dX11_readsPerson_33 rfl (lv_at hl 1 rfl) ?_
  refine lv_iload_n hx hb dX11_readsPerson_34 rfl (lv_at hl 2 rfl) ?_
  refine k_goi (S := Unit) (va_runV (As := [.int (nI fr), .int (nI nn)]) (rest := []) ⟨hx, hb, hml, hown, hts⟩ (c_X11_codeAt_in l D cI cZ cS cP hM m1 m2 m3 m4 m5 m6 m7 m8 m9 m10 m11 m12 m13 m14 m15 m16 m17 m18 mf mn mb (ra + 1) rn mw mh mm mr mt sc fr nn (by first | assumption | omega) (by first | assumption | omega) _) (cwV 2 hts gX11_readsPerson_X11_codeAt rfl rfl rfl (by decide +kernel) ⟨Nat.le_of_ble_eq_true rfl, Nat.le_of_ble_eq_true rfl⟩) (kPreV hN hK hP hD [0, 1] rfl rfl (q0 := 0) (ci := 11) (q := (RX11, TX11, 28)) rfl rfl) rfl rfl hl.1 rfl (lv_room (Nat.le_of_ble_eq_true rfl)) dX11_readsPerson_35 ⟨Nat.le_of_ble_eq_true rfl, Nat.le_of_ble_eq_true rfl⟩) hP hD hS hA [0, 1] rfl [hM, m17] rfl (fun _ => rfl) 2 [] rfl (fun _u => [(hM, .inr (11, [.int (nI mf), .int (nI mn), .ref m1, .ref m2, .ref m3, .int (nI mb), .int (nI (ra + 1)), .int (nI rn), .ref m4, .ref m5, .ref m6, .int (nI mw), .ref m7, .ref m8, .int (nI mh), .ref m9, .ref m10, .int (nI mm), .ref m11, .int (nI mr), .ref m12, .ref m13, .ref m14, .ref m15, .ref m16, .ref m17, .ref m18, .int mt])), (m17, .inl (cI, 240, .inl sc))]) (fun _ => rfl) [] [] (fun _ => rfl) rfl (fun _ => rfl) rfl (fun r_4 _u H locs hr_5 hP hD hS => ?_)
  have hP : va_P D vwCl [(hM, .inr (11, [.int (nI mf), .int (nI mn), .ref m1, .ref m2, .ref m3, .int (nI mb), .int (nI (ra + 1)), .int (nI rn), .ref m4, .ref m5, .ref m6, .int (nI mw), .ref m7, .ref m8, .int (nI mh), .ref m9, .ref m10, .int (nI mm), .ref m11, .int (nI mr), .ref m12, .ref m13, .ref m14, .ref m15, .ref m16, .ref m17, .ref m18, .int mt])), (m17, .inl (cI, 240, .inl sc))] H := hP
  have hD : va_D A [(hM, .inr (11, [.int (nI mf), .int (nI mn), .ref m1, .ref m2, .ref m3, .int (nI mb), .int (nI (ra + 1)), .int (nI rn), .ref m4, .ref m5, .ref m6, .int (nI mw), .ref m7, .ref m8, .int (nI mh), .ref m9, .ref m10, .int (nI mm), .ref m11, .int (nI mr), .ref m12, .ref m13, .ref m14, .ref m15, .ref m16, .ref m17, .ref m18, .int mt])), (m17, .inl (cI, 240, .inl sc))] := hD
  subst hr_5
  rcases h1 with h1 | h1 | h1
  · skip
    have hkd : kdc (sc (fr + (ra + 1))) = 0 := by rw [h1]; decide
    refine k_eqi (show (sc (fr + (ra + 1))) = (nI 115) from h1) ?_
    refine lv_istore_n (lv' := [(3, .int (nI 115)), (0, .ref hM), (1, .int (nI fr)), (2, .int (nI nn))]) hx hb dX11_readsPerson_38 rfl hl (by decide) rfl (fun ls hl => ?_)
    refine lv_iload_n hx hb dX11_readsPerson_39 rfl (lv_at hl 0 rfl) ?_
    refine lv_bipush (v := (nI 115)) hx hb dX11_readsPerson_40 (by decide) ?_
    refine k_icmp_eq (tgt := 59) hx hb dX11_readsPerson_42 (by decide) (show 115 < 2 ^ 31 by first | omega | (split <;> omega)) (show 115 < 2 ^ 31 by first | omega | (split <;> omega)) (fun _ => ?_) (fun q9 => absurd q9 (by decide))
    refine lv_aload_n hx hb dX11_readsPerson_59 rfl (lv_at hl 1 rfl) ?_
    refine lv_dup hx hb dX11_readsPerson_60 rfl ?_
    refine va_get (D := D) (ci := 11) (v := .int (nI (ra + 1))) (C := RX11) (T := TX11) (N := 28) hx hb hts in_X11 hown hK hP 0 rfl rfl 6 (by decide) lk1 (fun _ h9 => h9) rfl dX11_readsPerson_61 ?_
    refine lv_iconst (v := (nI 1)) hx hb dX11_readsPerson_64 (by decide) ?_
    refine lv_iadd hx hb dX11_readsPerson_65 ?_
    refine k_eqi (show ((nI (ra + 1)) + (nI 1)) = (nI ((ra + 1) + 1)) from nI_add (ra + 1) 1) ?_
    refine va_put (D := D) (ci := 11) (v := .int (nI ((ra + 1) + 1))) (ty := .int) (C := RX11) (T := TX11) (N := 28) hx hb hts in_X11 tyX11 tyX11_ok nmX11 hown hK hP hD hS 0 rfl rfl 6 (by decide) lk1 (fun _ h9 => h9) rfl (by decide +kernel) rfl rfl (Nat.le_of_ble_eq_true rfl) dX11_readsPerson_66 (fun H locs hP hD hS => ?_)
    have hP : va_P D vwCl [(hM, .inr (11, [.int (nI mf), .int (nI mn), .ref m1, .ref m2, .ref m3, .int (nI mb), .int (nI ((ra + 1) + 1)), .int (nI rn), .ref m4, .ref m5, .ref m6, .int (nI mw), .ref m7, .ref m8, .int (nI mh), .ref m9, .ref m10, .int (nI mm), .ref m11, .int (nI mr), .ref m12, .ref m13, .ref m14, .ref m15, .ref m16, .ref m17, .ref m18, .int mt])), (m17, .inl (cI, 240, .inl sc))] H := hP
    have hD : va_D A [(hM, .inr (11, [.int (nI mf), .int (nI mn), .ref m1, .ref m2, .ref m3, .int (nI mb), .int (nI ((ra + 1) + 1)), .int (nI rn), .ref m4, .ref m5, .ref m6, .int (nI mw), .ref m7, .ref m8, .int (nI mh), .ref m9, .ref m10, .int (nI mm), .ref m11, .int (nI mr), .ref m12, .ref m13, .ref m14, .ref m15, .ref m16, .ref m17, .ref m18, .int mt])), (m17, .inl (cI, 240, .inl sc))] := hD
    refine lv_aload_n hx hb dX11_readsPerson_69 rfl (lv_at hl 1 rfl) ?_
    refine lv_iload_n hx hb dX11_readsPerson_70 rfl (lv_at hl 2 rfl) ?_
    refine lv_iload_n hx hb dX11_readsPerson_71 rfl (lv_at hl 3 rfl) ?_
    refine lv_iconst (v := (nI 5)) hx hb dX11_readsPerson_72 (by decide) ?_
    refine k_goi (S := Unit) (va_runV (As := [.int (nI fr), .int (nI nn), .int (nI 5)]) (rest := []) ⟨hx, hb, hml, hown, hts⟩ (c_X11_figure_in l D cI cZ cS cP hM m1 m2 m3 m4 m5 m6 m7 m8 m9 m10 m11 m12 m13 m14 m15 m16 m17 m18 mf mn mb ((ra + 1) + 1) rn mw mh mm mr mt sc fr nn 5 v (by first | assumption | omega) (by first | assumption | omega) (by first | assumption | omega) (by first | assumption | omega) (by first | assumption | omega) _) (cwV 3 hts gX11_readsPerson_X11_figure rfl rfl rfl (by decide +kernel) ⟨Nat.le_of_ble_eq_true rfl, Nat.le_of_ble_eq_true rfl⟩) (kPreV hN hK hP hD [0, 1] rfl rfl (q0 := 0) (ci := 11) (q := (RX11, TX11, 28)) rfl rfl) rfl rfl hl.1 rfl (lv_room (Nat.le_of_ble_eq_true rfl)) dX11_readsPerson_73 ⟨Nat.le_of_ble_eq_true rfl, Nat.le_of_ble_eq_true rfl⟩) hP hD hS hA [0, 1] rfl [hM, m17] rfl (fun _ => rfl) 2 [] rfl (fun _u => [(hM, .inr (11, [.int (nI mf), .int (nI mn), .ref m1, .ref m2, .ref m3, .int (nI mb), .int (nI (((ra + 1) + 1) + 1)), .int (nI rn), .ref m4, .ref m5, .ref m6, .int (nI mw), .ref m7, .ref m8, .int (nI mh), .ref m9, .ref m10, .int (nI mm), .ref m11, .int (nI mr), .ref m12, .ref m13, .ref m14, .ref m15, .ref m16, .ref m17, .ref m18, .int mt])), (m17, .inl (cI, 240, .inl sc))]) (fun _ => rfl) [] [] (fun _ => rfl) rfl (fun _ => rfl) rfl (fun r_6 _u H locs hr_7 hP hD hS => ?_)
    have hP : va_P D vwCl [(hM, .inr (11, [.int (nI mf), .int (nI mn), .ref m1, .ref m2, .ref m3, .int (nI mb), .int (nI (((ra + 1) + 1) + 1)), .int (nI rn), .ref m4, .ref m5, .ref m6, .int (nI mw), .ref m7, .ref m8, .int (nI mh), .ref m9, .ref m10, .int (nI mm), .ref m11, .int (nI mr), .ref m12, .ref m13, .ref m14, .ref m15, .ref m16, .ref m17, .ref m18, .int mt])), (m17, .inl (cI, 240, .inl sc))] H := hP
    have hD : va_D A [(hM, .inr (11, [.int (nI mf), .int (nI mn), .ref m1, .ref m2, .ref m3, .int (nI mb), .int (nI (((ra + 1) + 1) + 1)), .int (nI rn), .ref m4, .ref m5, .ref m6, .int (nI mw), .ref m7, .ref m8, .int (nI mh), .ref m9, .ref m10, .int (nI mm), .ref m11, .int (nI mr), .ref m12, .ref m13, .ref m14, .ref m15, .ref m16, .ref m17, .ref m18, .int mt])), (m17, .inl (cI, 240, .inl sc))] := hD
    subst hr_7
    refine lv_istore (lv' := [(4, .int (nI v)), (3, .int (nI 115)), (0, .ref hM), (1, .int (nI fr)), (2, .int (nI nn))]) hx hb dX11_readsPerson_76 hl (by decide) rfl (fun ls hl => ?_)
    refine lv_iload hx hb dX11_readsPerson_78 (lv_at hl 0 rfl) ?_
    refine k_if_ge (tgt := 88) hx hb dX11_readsPerson_80 (by decide) (show v < 2 ^ 31 by first | omega | (split <;> omega)) ?_
    refine lv_aload_n hx hb dX11_readsPerson_88 rfl (lv_at hl 2 rfl) ?_
    refine lv_iload_n hx hb dX11_readsPerson_89 rfl (lv_at hl 3 rfl) ?_
    refine lv_iload_n hx hb dX11_readsPerson_90 rfl (lv_at hl 4 rfl) ?_
    refine lv_bipush (v := (nI 6)) hx hb dX11_readsPerson_91 (by decide) ?_
    refine k_goi (S := Unit) (va_runV (As := [.int (nI fr), .int (nI nn), .int (nI 6)]) (rest := []) ⟨hx, hb, hml, hown, hts⟩ (c_X11_figure_bad l D cI cZ cS cP hM m1 m2 m3 m4 m5 m6 m7 m8 m9 m10 m11 m12 m13 m14 m15 m16 m17 m18 mf mn mb (((ra + 1) + 1) + 1) rn mw mh mm mr mt sc fr nn 6 (by first | assumption | omega) (by first | assumption | omega) (by first | assumption | omega) (by first | assumption | omega) _) (cwV 3 hts gX11_readsPerson_X11_figure rfl rfl rfl (by decide +kernel) ⟨Nat.le_of_ble_eq_true rfl, Nat.le_of_ble_eq_true rfl⟩) (kPreV hN hK hP hD [0, 1] rfl rfl (q0 := 0) (ci := 11) (q := (RX11, TX11, 28)) rfl rfl) rfl rfl hl.1 rfl (lv_room (Nat.le_of_ble_eq_true rfl)) dX11_readsPerson_93 ⟨Nat.le_of_ble_eq_true rfl, Nat.le_of_ble_eq_true rfl⟩) hP hD hS hA [0, 1] rfl [hM, m17] rfl (fun _ => rfl) 2 [] rfl (fun _u => [(hM, .inr (11, [.int (nI mf), .int (nI mn), .ref m1, .ref m2, .ref m3, .int (nI mb), .int (nI (((ra + 1) + 1) + 1)), .int (nI rn), .ref m4, .ref m5, .ref m6, .int (nI mw), .ref m7, .ref m8, .int (nI mh), .ref m9, .ref m10, .int (nI mm), .ref m11, .int (nI mr), .ref m12, .ref m13, .ref m14, .ref m15, .ref m16, .ref m17, .ref m18, .int mt])), (m17, .inl (cI, 240, .inl sc))]) (fun _ => rfl) [] [] (fun _ => rfl) rfl (fun _ => rfl) rfl (fun r_8 _u H locs hr_9 hP hD hS => ?_)
    have hP : va_P D vwCl [(hM, .inr (11, [.int (nI mf), .int (nI mn), .ref m1, .ref m2, .ref m3, .int (nI mb), .int (nI (((ra + 1) + 1) + 1)), .int (nI rn), .ref m4, .ref m5, .ref m6, .int (nI mw), .ref m7, .ref m8, .int (nI mh), .ref m9, .ref m10, .int (nI mm), .ref m11, .int (nI mr), .ref m12, .ref m13, .ref m14, .ref m15, .ref m16, .ref m17, .ref m18, .int mt])), (m17, .inl (cI, 240, .inl sc))] H := hP
    have hD : va_D A [(hM, .inr (11, [.int (nI mf), .int (nI mn), .ref m1, .ref m2, .ref m3, .int (nI mb), .int (nI (((ra + 1) + 1) + 1)), .int (nI rn), .ref m4, .ref m5, .ref m6, .int (nI mw), .ref m7, .ref m8, .int (nI mh), .ref m9, .ref m10, .int (nI mm), .ref m11, .int (nI mr), .ref m12, .ref m13, .ref m14, .ref m15, .ref m16, .ref m17, .ref m18, .int mt])), (m17, .inl (cI, 240, .inl sc))] := hD
    subst hr_9
    refine lv_istore (lv' := [(5, .int (-9)), (4, .int (nI v)), (3, .int (nI 115)), (0, .ref hM), (1, .int (nI fr)), (2, .int (nI nn))]) hx hb dX11_readsPerson_96 hl (by decide) rfl (fun ls hl => ?_)
    refine lv_iload hx hb dX11_readsPerson_98 (lv_at hl 0 rfl) ?_
    refine lv_if_ge (tgt := 105) hx hb dX11_readsPerson_100 (by decide) (fun q9 => absurd q9 (by decide)) (fun _ => ?_)
    refine lv_iconst (v := (nI 0)) hx hb dX11_readsPerson_103 (by decide) ?_
    have e_10 : (nI (((ra + 1) + 1) + 1)) = (nI (ra + 3)) := congrArg nI (show ((ra + 1) + 1) + 1 = ra + 3 by omega)
    have q_11 : ([(hM, .inr (11, [.int (nI mf), .int (nI mn), .ref m1, .ref m2, .ref m3, .int (nI mb), .int (nI (((ra + 1) + 1) + 1)), .int (nI rn), .ref m4, .ref m5, .ref m6, .int (nI mw), .ref m7, .ref m8, .int (nI mh), .ref m9, .ref m10, .int (nI mm), .ref m11, .int (nI mr), .ref m12, .ref m13, .ref m14, .ref m15, .ref m16, .ref m17, .ref m18, .int mt])), (m17, .inl (cI, 240, .inl sc))] : va_W) = [(hM, .inr (11, [.int (nI mf), .int (nI mn), .ref m1, .ref m2, .ref m3, .int (nI mb), .int (nI (ra + 3)), .int (nI rn), .ref m4, .ref m5, .ref m6, .int (nI mw), .ref m7, .ref m8, .int (nI mh), .ref m9, .ref m10, .int (nI mm), .ref m11, .int (nI mr), .ref m12, .ref m13, .ref m14, .ref m15, .ref m16, .ref m17, .ref m18, .int mt])), (m17, .inl (cI, 240, .inl sc))] := by rw [← e_10]
    exact ret _ () _ _ _ _ dX11_readsPerson_104 (rfl) (kP_cast hP q_11) (kD_cast hD q_11) hS
  · skip
    have hkd : kdc (sc (fr + (ra + 1))) = 1 := by rw [h1]; decide
    refine k_eqi (show (sc (fr + (ra + 1))) = (nI 99) from h1) ?_
    refine lv_istore_n (lv' := [(3, .int (nI 99)), (0, .ref hM), (1, .int (nI fr)), (2, .int (nI nn))]) hx hb dX11_readsPerson_38 rfl hl (by decide) rfl (fun ls hl => ?_)
    refine lv_iload_n hx hb dX11_readsPerson_39 rfl (lv_at hl 0 rfl) ?_
    refine lv_bipush (v := (nI 115)) hx hb dX11_readsPerson_40 (by decide) ?_
    refine k_icmp_eq (tgt := 59) hx hb dX11_readsPerson_42 (by decide) (show 99 < 2 ^ 31 by first | omega | (split <;> omega)) (show 115 < 2 ^ 31 by first | omega | (split <;> omega)) (fun q9 => absurd q9 (by decide)) (fun _ => ?_)
    refine lv_iload_n hx hb dX11_readsPerson_45 rfl (lv_at hl 0 rfl) ?_
    refine lv_bipush (v := (nI 99)) hx hb dX11_readsPerson_46 (by decide) ?_
    refine k_icmp_eq (tgt := 59) hx hb dX11_readsPerson_48 (by decide) (show 99 < 2 ^ 31 by first | omega | (split <;> omega)) (show 99 < 2 ^ 31 by first | omega | (split <;> omega)) (fun _ => ?_) (fun q9 => absurd q9 (by decide))
    refine lv_aload_n hx hb dX11_readsPerson_59 rfl (lv_at hl 1 rfl) ?_
    refine lv_dup hx hb dX11_readsPerson_60 rfl ?_
    refine va_get (D := D) (ci := 11) (v := .int (nI (ra + 1))) (C := RX11) (T := TX11) (N := 28) hx hb hts in_X11 hown hK hP 0 rfl rfl 6 (by decide) lk1 (fun _ h9 => h9) rfl dX11_readsPerson_61 ?_
    refine lv_iconst (v := (nI 1)) hx hb dX11_readsPerson_64 (by decide) ?_
    refine lv_iadd hx hb dX11_readsPerson_65 ?_
    refine k_eqi (show ((nI (ra + 1)) + (nI 1)) = (nI ((ra + 1) + 1)) from nI_add (ra + 1) 1) ?_
    refine va_put (D := D) (ci := 11) (v := .int (nI ((ra + 1) + 1))) (ty := .int) (C := RX11) (T := TX11) (N := 28) hx hb hts in_X11 tyX11 tyX11_ok nmX11 hown hK hP hD hS 0 rfl rfl 6 (by decide) lk1 (fun _ h9 => h9) rfl (by decide +kernel) rfl rfl (Nat.le_of_ble_eq_true rfl) dX11_readsPerson_66 (fun H locs hP hD hS => ?_)
    have hP : va_P D vwCl [(hM, .inr (11, [.int (nI mf), .int (nI mn), .ref m1, .ref m2, .ref m3, .int (nI mb), .int (nI ((ra + 1) + 1)), .int (nI rn), .ref m4, .ref m5, .ref m6, .int (nI mw), .ref m7, .ref m8, .int (nI mh), .ref m9, .ref m10, .int (nI mm), .ref m11, .int (nI mr), .ref m12, .ref m13, .ref m14, .ref m15, .ref m16, .ref m17, .ref m18, .int mt])), (m17, .inl (cI, 240, .inl sc))] H := hP
    have hD : va_D A [(hM, .inr (11, [.int (nI mf), .int (nI mn), .ref m1, .ref m2, .ref m3, .int (nI mb), .int (nI ((ra + 1) + 1)), .int (nI rn), .ref m4, .ref m5, .ref m6, .int (nI mw), .ref m7, .ref m8, .int (nI mh), .ref m9, .ref m10, .int (nI mm), .ref m11, .int (nI mr), .ref m12, .ref m13, .ref m14, .ref m15, .ref m16, .ref m17, .ref m18, .int mt])), (m17, .inl (cI, 240, .inl sc))] := hD
    refine lv_aload_n hx hb dX11_readsPerson_69 rfl (lv_at hl 1 rfl) ?_
    refine lv_iload_n hx hb dX11_readsPerson_70 rfl (lv_at hl 2 rfl) ?_
    refine lv_iload_n hx hb dX11_readsPerson_71 rfl (lv_at hl 3 rfl) ?_
    refine lv_iconst (v := (nI 5)) hx hb dX11_readsPerson_72 (by decide) ?_
    refine k_goi (S := Unit) (va_runV (As := [.int (nI fr), .int (nI nn), .int (nI 5)]) (rest := []) ⟨hx, hb, hml, hown, hts⟩ (c_X11_figure_in l D cI cZ cS cP hM m1 m2 m3 m4 m5 m6 m7 m8 m9 m10 m11 m12 m13 m14 m15 m16 m17 m18 mf mn mb ((ra + 1) + 1) rn mw mh mm mr mt sc fr nn 5 v (by first | assumption | omega) (by first | assumption | omega) (by first | assumption | omega) (by first | assumption | omega) (by first | assumption | omega) _) (cwV 3 hts gX11_readsPerson_X11_figure rfl rfl rfl (by decide +kernel) ⟨Nat.le_of_ble_eq_true rfl, Nat.le_of_ble_eq_true rfl⟩) (kPreV hN hK hP hD [0, 1] rfl rfl (q0 := 0) (ci := 11) (q := (RX11, TX11, 28)) rfl rfl) rfl rfl hl.1 rfl (lv_room (Nat.le_of_ble_eq_true rfl)) dX11_readsPerson_73 ⟨Nat.le_of_ble_eq_true rfl, Nat.le_of_ble_eq_true rfl⟩) hP hD hS hA [0, 1] rfl [hM, m17] rfl (fun _ => rfl) 2 [] rfl (fun _u => [(hM, .inr (11, [.int (nI mf), .int (nI mn), .ref m1, .ref m2, .ref m3, .int (nI mb), .int (nI (((ra + 1) + 1) + 1)), .int (nI rn), .ref m4, .ref m5, .ref m6, .int (nI mw), .ref m7, .ref m8, .int (nI mh), .ref m9, .ref m10, .int (nI mm), .ref m11, .int (nI mr), .ref m12, .ref m13, .ref m14, .ref m15, .ref m16, .ref m17, .ref m18, .int mt])), (m17, .inl (cI, 240, .inl sc))]) (fun _ => rfl) [] [] (fun _ => rfl) rfl (fun _ => rfl) rfl (fun r_12 _u H locs hr_13 hP hD hS => ?_)
    have hP : va_P D vwCl [(hM, .inr (11, [.int (nI mf), .int (nI mn), .ref m1, .ref m2, .ref m3, .int (nI mb), .int (nI (((ra + 1) + 1) + 1)), .int (nI rn), .ref m4, .ref m5, .ref m6, .int (nI mw), .ref m7, .ref m8, .int (nI mh), .ref m9, .ref m10, .int (nI mm), .ref m11, .int (nI mr), .ref m12, .ref m13, .ref m14, .ref m15, .ref m16, .ref m17, .ref m18, .int mt])), (m17, .inl (cI, 240, .inl sc))] H := hP
    have hD : va_D A [(hM, .inr (11, [.int (nI mf), .int (nI mn), .ref m1, .ref m2, .ref m3, .int (nI mb), .int (nI (((ra + 1) + 1) + 1)), .int (nI rn), .ref m4, .ref m5, .ref m6, .int (nI mw), .ref m7, .ref m8, .int (nI mh), .ref m9, .ref m10, .int (nI mm), .ref m11, .int (nI mr), .ref m12, .ref m13, .ref m14, .ref m15, .ref m16, .ref m17, .ref m18, .int mt])), (m17, .inl (cI, 240, .inl sc))] := hD
    subst hr_13
    refine lv_istore (lv' := [(4, .int (nI v)), (3, .int (nI 99)), (0, .ref hM), (1, .int (nI fr)), (2, .int (nI nn))]) hx hb dX11_readsPerson_76 hl (by decide) rfl (fun ls hl => ?_)
    refine lv_iload hx hb dX11_readsPerson_78 (lv_at hl 0 rfl) ?_
    refine k_if_ge (tgt := 88) hx hb dX11_readsPerson_80 (by decide) (show v < 2 ^ 31 by first | omega | (split <;> omega)) ?_
    refine lv_aload_n hx hb dX11_readsPerson_88 rfl (lv_at hl 2 rfl) ?_
    refine lv_iload_n hx hb dX11_readsPerson_89 rfl (lv_at hl 3 rfl) ?_
    refine lv_iload_n hx hb dX11_readsPerson_90 rfl (lv_at hl 4 rfl) ?_
    refine lv_bipush (v := (nI 6)) hx hb dX11_readsPerson_91 (by decide) ?_
    refine k_goi (S := Unit) (va_runV (As := [.int (nI fr), .int (nI nn), .int (nI 6)]) (rest := []) ⟨hx, hb, hml, hown, hts⟩ (c_X11_figure_bad l D cI cZ cS cP hM m1 m2 m3 m4 m5 m6 m7 m8 m9 m10 m11 m12 m13 m14 m15 m16 m17 m18 mf mn mb (((ra + 1) + 1) + 1) rn mw mh mm mr mt sc fr nn 6 (by first | assumption | omega) (by first | assumption | omega) (by first | assumption | omega) (by first | assumption | omega) _) (cwV 3 hts gX11_readsPerson_X11_figure rfl rfl rfl (by decide +kernel) ⟨Nat.le_of_ble_eq_true rfl, Nat.le_of_ble_eq_true rfl⟩) (kPreV hN hK hP hD [0, 1] rfl rfl (q0 := 0) (ci := 11) (q := (RX11, TX11, 28)) rfl rfl) rfl rfl hl.1 rfl (lv_room (Nat.le_of_ble_eq_true rfl)) dX11_readsPerson_93 ⟨Nat.le_of_ble_eq_true rfl, Nat.le_of_ble_eq_true rfl⟩) hP hD hS hA [0, 1] rfl [hM, m17] rfl (fun _ => rfl) 2 [] rfl (fun _u => [(hM, .inr (11, [.int (nI mf), .int (nI mn), .ref m1, .ref m2, .ref m3, .int (nI mb), .int (nI (((ra + 1) + 1) + 1)), .int (nI rn), .ref m4, .ref m5, .ref m6, .int (nI mw), .ref m7, .ref m8, .int (nI mh), .ref m9, .ref m10, .int (nI mm), .ref m11, .int (nI mr), .ref m12, .ref m13, .ref m14, .ref m15, .ref m16, .ref m17, .ref m18, .int mt])), (m17, .inl (cI, 240, .inl sc))]) (fun _ => rfl) [] [] (fun _ => rfl) rfl (fun _ => rfl) rfl (fun r_14 _u H locs hr_15 hP hD hS => ?_)
    have hP : va_P D vwCl [(hM, .inr (11, [.int (nI mf), .int (nI mn), .ref m1, .ref m2, .ref m3, .int (nI mb), .int (nI (((ra + 1) + 1) + 1)), .int (nI rn), .ref m4, .ref m5, .ref m6, .int (nI mw), .ref m7, .ref m8, .int (nI mh), .ref m9, .ref m10, .int (nI mm), .ref m11, .int (nI mr), .ref m12, .ref m13, .ref m14, .ref m15, .ref m16, .ref m17, .ref m18, .int mt])), (m17, .inl (cI, 240, .inl sc))] H := hP
    have hD : va_D A [(hM, .inr (11, [.int (nI mf), .int (nI mn), .ref m1, .ref m2, .ref m3, .int (nI mb), .int (nI (((ra + 1) + 1) + 1)), .int (nI rn), .ref m4, .ref m5, .ref m6, .int (nI mw), .ref m7, .ref m8, .int (nI mh), .ref m9, .ref m10, .int (nI mm), .ref m11, .int (nI mr), .ref m12, .ref m13, .ref m14, .ref m15, .ref m16, .ref m17, .ref m18, .int mt])), (m17, .inl (cI, 240, .inl sc))] := hD
    subst hr_15
    refine lv_istore (lv' := [(5, .int (-9)), (4, .int (nI v)), (3, .int (nI 99)), (0, .ref hM), (1, .int (nI fr)), (2, .int (nI nn))]) hx hb dX11_readsPerson_96 hl (by decide) rfl (fun ls hl => ?_)
    refine lv_iload hx hb dX11_readsPerson_98 (lv_at hl 0 rfl) ?_
    refine lv_if_ge (tgt := 105) hx hb dX11_readsPerson_100 (by decide) (fun q9 => absurd q9 (by decide)) (fun _ => ?_)
    refine lv_iconst (v := (nI 0)) hx hb dX11_readsPerson_103 (by decide) ?_
    have e_16 : (nI (((ra + 1) + 1) + 1)) = (nI (ra + 3)) := congrArg nI (show ((ra + 1) + 1) + 1 = ra + 3 by omega)
    have q_17 : ([(hM, .inr (11, [.int (nI mf), .int (nI mn), .ref m1, .ref m2, .ref m3, .int (nI mb), .int (nI (((ra + 1) + 1) + 1)), .int (nI rn), .ref m4, .ref m5, .ref m6, .int (nI mw), .ref m7, .ref m8, .int (nI mh), .ref m9, .ref m10, .int (nI mm), .ref m11, .int (nI mr), .ref m12, .ref m13, .ref m14, .ref m15, .ref m16, .ref m17, .ref m18, .int mt])), (m17, .inl (cI, 240, .inl sc))] : va_W) = [(hM, .inr (11, [.int (nI mf), .int (nI mn), .ref m1, .ref m2, .ref m3, .int (nI mb), .int (nI (ra + 3)), .int (nI rn), .ref m4, .ref m5, .ref m6, .int (nI mw), .ref m7, .ref m8, .int (nI mh), .ref m9, .ref m10, .int (nI mm), .ref m11, .int (nI mr), .ref m12, .ref m13, .ref m14, .ref m15, .ref m16, .ref m17, .ref m18, .int mt])), (m17, .inl (cI, 240, .inl sc))] := by rw [← e_16]
    exact ret _ () _ _ _ _ dX11_readsPerson_104 (rfl) (kP_cast hP q_17) (kD_cast hD q_17) hS
  · skip
    have hkd : kdc (sc (fr + (ra + 1))) = 2 := by rw [h1]; decide
    refine k_eqi (show (sc (fr + (ra + 1))) = (nI 116) from h1) ?_
    refine lv_istore_n (lv' := [(3, .int (nI 116)), (0, .ref hM), (1, .int (nI fr)), (2, .int (nI nn))]) hx hb dX11_readsPerson_38 rfl hl (by decide) rfl (fun ls hl => ?_)
    refine lv_iload_n hx hb dX11_readsPerson_39 rfl (lv_at hl 0 rfl) ?_
    refine lv_bipush (v := (nI 115)) hx hb dX11_readsPerson_40 (by decide) ?_
    refine k_icmp_eq (tgt := 59) hx hb dX11_readsPerson_42 (by decide) (show 116 < 2 ^ 31 by first | omega | (split <;> omega)) (show 115 < 2 ^ 31 by first | omega | (split <;> omega)) (fun q9 => absurd q9 (by decide)) (fun _ => ?_)
    refine lv_iload_n hx hb dX11_readsPerson_45 rfl (lv_at hl 0 rfl) ?_
    refine lv_bipush (v := (nI 99)) hx hb dX11_readsPerson_46 (by decide) ?_
    refine k_icmp_eq (tgt := 59) hx hb dX11_readsPerson_48 (by decide) (show 116 < 2 ^ 31 by first | omega | (split <;> omega)) (show 99 < 2 ^ 31 by first | omega | (split <;> omega)) (fun q9 => absurd q9 (by decide)) (fun _ => ?_)
    refine lv_iload_n hx hb dX11_readsPerson_51 rfl (lv_at hl 0 rfl) ?_
    refine lv_bipush (v := (nI 116)) hx hb dX11_readsPerson_52 (by decide) ?_
    refine k_icmp_eq (tgt := 59) hx hb dX11_readsPerson_54 (by decide) (show 116 < 2 ^ 31 by first | omega | (split <;> omega)) (show 116 < 2 ^ 31 by first | omega | (split <;> omega)) (fun _ => ?_) (fun q9 => absurd q9 (by decide))
    refine lv_aload_n hx hb dX11_readsPerson_59 rfl (lv_at hl 1 rfl) ?_
    refine lv_dup hx hb dX11_readsPerson_60 rfl ?_
    refine va_get (D := D) (ci := 11) (v := .int (nI (ra + 1))) (C := RX11) (T := TX11) (N := 28) hx hb hts in_X11 hown hK hP 0 rfl rfl 6 (by decide) lk1 (fun _ h9 => h9) rfl dX11_readsPerson_61 ?_
    refine lv_iconst (v := (nI 1)) hx hb dX11_readsPerson_64 (by decide) ?_
    refine lv_iadd hx hb dX11_readsPerson_65 ?_
    refine k_eqi (show ((nI (ra + 1)) + (nI 1)) = (nI ((ra + 1) + 1)) from nI_add (ra + 1) 1) ?_
    refine va_put (D := D) (ci := 11) (v := .int (nI ((ra + 1) + 1))) (ty := .int) (C := RX11) (T := TX11) (N := 28) hx hb hts in_X11 tyX11 tyX11_ok nmX11 hown hK hP hD hS 0 rfl rfl 6 (by decide) lk1 (fun _ h9 => h9) rfl (by decide +kernel) rfl rfl (Nat.le_of_ble_eq_true rfl) dX11_readsPerson_66 (fun H locs hP hD hS => ?_)
    have hP : va_P D vwCl [(hM, .inr (11, [.int (nI mf), .int (nI mn), .ref m1, .ref m2, .ref m3, .int (nI mb), .int (nI ((ra + 1) + 1)), .int (nI rn), .ref m4, .ref m5, .ref m6, .int (nI mw), .ref m7, .ref m8, .int (nI mh), .ref m9, .ref m10, .int (nI mm), .ref m11, .int (nI mr), .ref m12, .ref m13, .ref m14, .ref m15, .ref m16, .ref m17, .ref m18, .int mt])), (m17, .inl (cI, 240, .inl sc))] H := hP
    have hD : va_D A [(hM, .inr (11, [.int (nI mf), .int (nI mn), .ref m1, .ref m2, .ref m3, .int (nI mb), .int (nI ((ra + 1) + 1)), .int (nI rn), .ref m4, .ref m5, .ref m6, .int (nI mw), .ref m7, .ref m8, .int (nI mh), .ref m9, .ref m10, .int (nI mm), .ref m11, .int (nI mr), .ref m12, .ref m13, .ref m14, .ref m15, .ref m16, .ref m17, .ref m18, .int mt])), (m17, .inl (cI, 240, .inl sc))] := hD
    refine lv_aload_n hx hb dX11_readsPerson_69 rfl (lv_at hl 1 rfl) ?_
    refine lv_iload_n hx hb dX11_readsPerson_70 rfl (lv_at hl 2 rfl) ?_
    refine lv_iload_n hx hb dX11_readsPerson_71 rfl (lv_at hl 3 rfl) ?_
    refine lv_iconst (v := (nI 5)) hx hb dX11_readsPerson_72 (by decide) ?_
    refine k_goi (S := Unit) (va_runV (As := [.int (nI fr), .int (nI nn), .int (nI 5)]) (rest := []) ⟨hx, hb, hml, hown, hts⟩ (c_X11_figure_in l D cI cZ cS cP hM m1 m2 m3 m4 m5 m6 m7 m8 m9 m10 m11 m12 m13 m14 m15 m16 m17 m18 mf mn mb ((ra + 1) + 1) rn mw mh mm mr mt sc fr nn 5 v (by first | assumption | omega) (by first | assumption | omega) (by first | assumption | omega) (by first | assumption | omega) (by first | assumption | omega) _) (cwV 3 hts gX11_readsPerson_X11_figure rfl rfl rfl (by decide +kernel) ⟨Nat.le_of_ble_eq_true rfl, Nat.le_of_ble_eq_true rfl⟩) (kPreV hN hK hP hD [0, 1] rfl rfl (q0 := 0) (ci := 11) (q := (RX11, TX11, 28)) rfl rfl) rfl rfl hl.1 rfl (lv_room (Nat.le_of_ble_eq_true rfl)) dX11_readsPerson_73 ⟨Nat.le_of_ble_eq_true rfl, Nat.le_of_ble_eq_true rfl⟩) hP hD hS hA [0, 1] rfl [hM, m17] rfl (fun _ => rfl) 2 [] rfl (fun _u => [(hM, .inr (11, [.int (nI mf), .int (nI mn), .ref m1, .ref m2, .ref m3, .int (nI mb), .int (nI (((ra + 1) + 1) + 1)), .int (nI rn), .ref m4, .ref m5, .ref m6, .int (nI mw), .ref m7, .ref m8, .int (nI mh), .ref m9, .ref m10, .int (nI mm), .ref m11, .int (nI mr), .ref m12, .ref m13, .ref m14, .ref m15, .ref m16, .ref m17, .ref m18, .int mt])), (m17, .inl (cI, 240, .inl sc))]) (fun _ => rfl) [] [] (fun _ => rfl) rfl (fun _ => rfl) rfl (fun r_18 _u H locs hr_19 hP hD hS => ?_)
    have hP : va_P D vwCl [(hM, .inr (11, [.int (nI mf), .int (nI mn), .ref m1, .ref m2, .ref m3, .int (nI mb), .int (nI (((ra + 1) + 1) + 1)), .int (nI rn), .ref m4, .ref m5, .ref m6, .int (nI mw), .ref m7, .ref m8, .int (nI mh), .ref m9, .ref m10, .int (nI mm), .ref m11, .int (nI mr), .ref m12, .ref m13, .ref m14, .ref m15, .ref m16, .ref m17, .ref m18, .int mt])), (m17, .inl (cI, 240, .inl sc))] H := hP
    have hD : va_D A [(hM, .inr (11, [.int (nI mf), .int (nI mn), .ref m1, .ref m2, .ref m3, .int (nI mb), .int (nI (((ra + 1) + 1) + 1)), .int (nI rn), .ref m4, .ref m5, .ref m6, .int (nI mw), .ref m7, .ref m8, .int (nI mh), .ref m9, .ref m10, .int (nI mm), .ref m11, .int (nI mr), .ref m12, .ref m13, .ref m14, .ref m15, .ref m16, .ref m17, .ref m18, .int mt])), (m17, .inl (cI, 240, .inl sc))] := hD
    subst hr_19
    refine lv_istore (lv' := [(4, .int (nI v)), (3, .int (nI 116)), (0, .ref hM), (1, .int (nI fr)), (2, .int (nI nn))]) hx hb dX11_readsPerson_76 hl (by decide) rfl (fun ls hl => ?_)
    refine lv_iload hx hb dX11_readsPerson_78 (lv_at hl 0 rfl) ?_
    refine k_if_ge (tgt := 88) hx hb dX11_readsPerson_80 (by decide) (show v < 2 ^ 31 by first | omega | (split <;> omega)) ?_
    refine lv_aload_n hx hb dX11_readsPerson_88 rfl (lv_at hl 2 rfl) ?_
    refine lv_iload_n hx hb dX11_readsPerson_89 rfl (lv_at hl 3 rfl) ?_
    refine lv_iload_n hx hb dX11_readsPerson_90 rfl (lv_at hl 4 rfl) ?_
    refine lv_bipush (v := (nI 6)) hx hb dX11_readsPerson_91 (by decide) ?_
    refine k_goi (S := Unit) (va_runV (As := [.int (nI fr), .int (nI nn), .int (nI 6)]) (rest := []) ⟨hx, hb, hml, hown, hts⟩ (c_X11_figure_bad l D cI cZ cS cP hM m1 m2 m3 m4 m5 m6 m7 m8 m9 m10 m11 m12 m13 m14 m15 m16 m17 m18 mf mn mb (((ra + 1) + 1) + 1) rn mw mh mm mr mt sc fr nn 6 (by first | assumption | omega) (by first | assumption | omega) (by first | assumption | omega) (by first | assumption | omega) _) (cwV 3 hts gX11_readsPerson_X11_figure rfl rfl rfl (by decide +kernel) ⟨Nat.le_of_ble_eq_true rfl, Nat.le_of_ble_eq_true rfl⟩) (kPreV hN hK hP hD [0, 1] rfl rfl (q0 := 0) (ci := 11) (q := (RX11, TX11, 28)) rfl rfl) rfl rfl hl.1 rfl (lv_room (Nat.le_of_ble_eq_true rfl)) dX11_readsPerson_93 ⟨Nat.le_of_ble_eq_true rfl, Nat.le_of_ble_eq_true rfl⟩) hP hD hS hA [0, 1] rfl [hM, m17] rfl (fun _ => rfl) 2 [] rfl (fun _u => [(hM, .inr (11, [.int (nI mf), .int (nI mn), .ref m1, .ref m2, .ref m3, .int (nI mb), .int (nI (((ra + 1) + 1) + 1)), .int (nI rn), .ref m4, .ref m5, .ref m6, .int (nI mw), .ref m7, .ref m8, .int (nI mh), .ref m9, .ref m10, .int (nI mm), .ref m11, .int (nI mr), .ref m12, .ref m13, .ref m14, .ref m15, .ref m16, .ref m17, .ref m18, .int mt])), (m17, .inl (cI, 240, .inl sc))]) (fun _ => rfl) [] [] (fun _ => rfl) rfl (fun _ => rfl) rfl (fun r_20 _u H locs hr_21 hP hD hS => ?_)
    have hP : va_P D vwCl [(hM, .inr (11, [.int (nI mf), .int (nI mn), .ref m1, .ref m2, .ref m3, .int (nI mb), .int (nI (((ra + 1) + 1) + 1)), .int (nI rn), .ref m4, .ref m5, .ref m6, .int (nI mw), .ref m7, .ref m8, .int (nI mh), .ref m9, .ref m10, .int (nI mm), .ref m11, .int (nI mr), .ref m12, .ref m13, .ref m14, .ref m15, .ref m16, .ref m17, .ref m18, .int mt])), (m17, .inl (cI, 240, .inl sc))] H := hP
    have hD : va_D A [(hM, .inr (11, [.int (nI mf), .int (nI mn), .ref m1, .ref m2, .ref m3, .int (nI mb), .int (nI (((ra + 1) + 1) + 1)), .int (nI rn), .ref m4, .ref m5, .ref m6, .int (nI mw), .ref m7, .ref m8, .int (nI mh), .ref m9, .ref m10, .int (nI mm), .ref m11, .int (nI mr), .ref m12, .ref m13, .ref m14, .ref m15, .ref m16, .ref m17, .ref m18, .int mt])), (m17, .inl (cI, 240, .inl sc))] := hD
    subst hr_21
    refine lv_istore (lv' := [(5, .int (-9)), (4, .int (nI v)), (3, .int (nI 116)), (0, .ref hM), (1, .int (nI fr)), (2, .int (nI nn))]) hx hb dX11_readsPerson_96 hl (by decide) rfl (fun ls hl => ?_)
    refine lv_iload hx hb dX11_readsPerson_98 (lv_at hl 0 rfl) ?_
    refine lv_if_ge (tgt := 105) hx hb dX11_readsPerson_100 (by decide) (fun q9 => absurd q9 (by decide)) (fun _ => ?_)
    refine lv_iconst (v := (nI 0)) hx hb dX11_readsPerson_103 (by decide) ?_
    have e_22 : (nI (((ra + 1) + 1) + 1)) = (nI (ra + 3)) := congrArg nI (show ((ra + 1) + 1) + 1 = ra + 3 by omega)
    have q_23 : ([(hM, .inr (11, [.int (nI mf), .int (nI mn), .ref m1, .ref m2, .ref m3, .int (nI mb), .int (nI (((ra + 1) + 1) + 1)), .int (nI rn), .ref m4, .ref m5, .ref m6, .int (nI mw), .ref m7, .ref m8, .int (nI mh), .ref m9, .ref m10, .int (nI mm), .ref m11, .int (nI mr), .ref m12, .ref m13, .ref m14, .ref m15, .ref m16, .ref m17, .ref m18, .int mt])), (m17, .inl (cI, 240, .inl sc))] : va_W) = [(hM, .inr (11, [.int (nI mf), .int (nI mn), .ref m1, .ref m2, .ref m3, .int (nI mb), .int (nI (ra + 3)), .int (nI rn), .ref m4, .ref m5, .ref m6, .int (nI mw), .ref m7, .ref m8, .int (nI mh), .ref m9, .ref m10, .int (nI mm), .ref m11, .int (nI mr), .ref m12, .ref m13, .ref m14, .ref m15, .ref m16, .ref m17, .ref m18, .int mt])), (m17, .inl (cI, 240, .inl sc))] := by rw [← e_22]
    exact ret _ () _ _ _ _ dX11_readsPerson_104 (rfl) (kP_cast hP q_23) (kD_cast hD q_23) hS
