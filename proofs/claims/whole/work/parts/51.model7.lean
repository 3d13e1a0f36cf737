theorem bey_n {a b z : Nat} (hz : z ≤ 60) (h : a + b ≤ z) : ¬ ((nI a < 0) ∨ ((lg_cmp (lN b) (lN 0) < 0) ∨ (¬ (lg_cmp (lN a + lN b) (lN z) ≤ 0)))) := by
  rw [← t64n (show a < 2 ^ 31 by omega), ← t64n (show b < 2 ^ 31 by omega), bey_ok hz]
  exact not_not_intro (hcs_nat h hz)
theorem ssv_pos {v : Int32} {fl sz : Nat} (h : v = ssv fl sz) (h1 : ¬ v < 0) : v = nI sz ∧ fl ≠ 0 := by
  by_cases c : fl = 0
  · rw [h, ssv_n c] at h1
    exact absurd (by decide) h1
  · rw [h, ssv_y c]
    exact ⟨rfl, c⟩
theorem ssv_neg {v : Int32} {fl sz : Nat} (hs : sz ≤ 60) (h : v = ssv fl sz) (h1 : v < 0) : fl = 0 := by
  by_cases c : fl = 0
  · exact c
  · rw [h, ssv_y c] at h1
    exact absurd h1 (nI_ge0 (by omega))
theorem ft_cast {fl a ln sz : Nat} {x y : Int32} (h : fl ≠ 0) (h1 : ¬ ln = a) : fTake fl a ln sz x y = 2 := by
  unfold fTake
  rw [if_neg h, if_neg (fun e => h1 e.symm)]
theorem ft_null {fl a ln sz : Nat} {x y : Int32} (h : fl = 0) : fTake fl a ln sz x y = 1 := by
  unfold fTake
  rw [if_pos h]
theorem ft_size {fl a ln sz : Nat} {x y : Int32} (h : fl ≠ 0) (h1 : ln = a) (h2 : y < 0) : fTake fl a ln sz x y = 4 := by
  unfold fTake
  rw [if_neg h, if_pos h1.symm, if_pos h2]
theorem ft_idx {fl a ln sz : Nat} {x y : Int32} (h : fl ≠ 0) (h1 : ln = a) (h2 : ¬ y < 0) (h3 : ¬ hcs x y sz) : fTake fl a ln sz x y = 3 := by
  unfold fTake
  rw [if_neg h, if_pos h1.symm, if_neg h2, if_neg h3]
theorem ft_ok {fl a ln sz : Nat} {x y : Int32} (h : fTake fl a ln sz x y = 0) : fl ≠ 0 ∧ ln = a ∧ ¬ y < 0 ∧ hcs x y sz := by
  unfold fTake at h
  by_cases h1 : fl = 0
  · rw [if_pos h1] at h; cases h
  · rw [if_neg h1] at h
    by_cases h2 : a = ln
    · rw [if_pos h2] at h
      by_cases h3 : y < 0
      · rw [if_pos h3] at h; cases h
      · rw [if_neg h3] at h
        by_cases h4 : hcs x y sz
        · exact ⟨h1, h2.symm, h3, h4⟩
        · rw [if_neg h4] at h; cases h
    · rw [if_neg h2] at h; cases h
/-- n cells from b on, taken over hands from a on -/
def mcp (f : Nat → Int32) (a b n : Nat) : Nat → Int32 := fun i => if b ≤ i ∧ i < b + n then f (a + (i - b)) else f i
def hcp (f h : Nat → Int32) (a n : Nat) : Nat → Int32 := fun i => if i < n then f (a + i) else h i
theorem hcp_0 (f h : Nat → Int32) (a : Nat) : hcp f h a 0 = h := by
  funext i; unfold hcp; rw [if_neg (by omega)]
theorem hcp_s (f h : Nat → Int32) (a n : Nat) : upd (hcp f h a n) n (f (a + n)) = hcp f h a (n + 1) := by
  funext i
  unfold upd hcp
  by_cases e : i = n
  · rw [if_pos e, if_pos (by omega), e]
  · rw [if_neg e]
    by_cases c : i < n
    · rw [if_pos c, if_pos (by omega)]
    · rw [if_neg c, if_neg (by omega)]
theorem mcp_0 (f : Nat → Int32) (a b : Nat) : mcp f a b 0 = f := by
  funext i; unfold mcp; rw [if_neg (by omega)]
theorem mcp_s (f h : Nat → Int32) {a b n w : Nat} (hn : n < w) : upd (mcp f a b n) (b + n) (hcp f h a w n) = mcp f a b (n + 1) := by
  funext i
  unfold upd mcp hcp
  by_cases e : i = b + n
  · rw [if_pos e, if_pos hn, if_pos (by omega), e, show b + n - b = n by omega]
  · rw [if_neg e]
    by_cases c : b ≤ i ∧ i < b + n
    · rw [if_pos c, if_pos (by omega)]
    · rw [if_neg c, if_neg (by omega)]
def rm_X11_isBeyond_r : Room := { frames := 0, cells := 0, slots := 0, locals := 0 }
set_option maxHeartbeats 4000000 in
set_option maxRecDepth 100000 in
theorem c_X11_isBeyond_r (l : Launch) (D : va_G) (cI cZ cS cP : ClassId) (x : Int32) (y : Int32) (z : Nat) (hz6 : z ≤ 60) : kMi (S := Unit) l yX11_isBeyond wsX11_isBeyond rm_X11_isBeyond_r D (kT cI cZ cS cP) [.int x, .long y.toInt64, .int (nI z)] [] (fun r _ => r = (nI (if ¬ (hcs x y z) then 1 else 0))) (fun _ => []) := by
  refine kMet_i (cc := cX11_isBeyond) (maxL := 4) (ty := .boolean) (by decide) rfl (Nat.le_of_ble_eq_true rfl) (fun _ _ q => by (first | subst q | (obtain ⟨q, -⟩ := q; subst q)); (first | exact kz_nr | decide)) ?_
  intro p e s m args below meth c A Q ls C hlocks hin hN hK hP hD hS hA hl ret
  obtain ⟨hx, hb, hml, hown, hts⟩ := C
  have hl : lv_has ls 4 [(0, .int x), (1, .long y.toInt64), (3, .int (nI z))] := hl
  refine lv_iload_n hx hb dX11_isBeyond_0 rfl (lv_at hl 0 rfl) ?_
  have j_1 : ∀ (H : Heap) (locs : List Loc) (ls : Array Slot), va_P D vwCl [] H → va_D A [] → va_S A s.heap H locs → lv_has ls 4 [(0, .int x), (1, .long y.toInt64), (3, .int (nI z))] → W p l e rm_X11_isBeyond_r s m args below meth c H locs 0 0 Q (F0 m 25 ls [.int (nI (if (x < 0) ∨ (((lg_cmp y.toInt64 (lN 0)) < 0) ∨ (¬ ((lg_cmp (x.toInt64 + y.toInt64) (lN z)) ≤ 0))) then 1 else 0))]) := by
    clear hP hD hS hl
    intro H locs ls hP hD hS hl
    exact ret _ () _ _ _ _ dX11_isBeyond_25 (congrArg nI (show (if (x < 0) ∨ (((lg_cmp y.toInt64 (lN 0)) < 0) ∨ (¬ ((lg_cmp (x.toInt64 + y.toInt64) (lN z)) ≤ 0))) then 1 else 0) = (if ¬ (hcs x y z) then 1 else 0) by exact k_ifc (bey_ok hz6))) hP hD hS
  refine lv_if_lt (tgt := 20) hx hb dX11_isBeyond_1 (by decide) (fun c_2 => ?_) (fun c_2 => ?_)
  · skip
    refine lv_iconst (v := (nI 1)) hx hb dX11_isBeyond_20 (by decide) ?_
    refine lv_goto (tgt := 25) hx hb dX11_isBeyond_21 (by decide) ?_
    have e_3 := (show (nI 1) = (nI (if (x < 0) ∨ (((lg_cmp y.toInt64 (lN 0)) < 0) ∨ (¬ ((lg_cmp (x.toInt64 + y.toInt64) (lN z)) ≤ 0))) then 1 else 0)) from congrArg nI (if_pos (Or.inl c_2)).symm)
    refine k_eqi (show (nI 1) = (nI (if (x < 0) ∨ (((lg_cmp y.toInt64 (lN 0)) < 0) ∨ (¬ ((lg_cmp (x.toInt64 + y.toInt64) (lN z)) ≤ 0))) then 1 else 0)) from congrArg nI (if_pos (Or.inl c_2)).symm) ?_
    exact j_1 _ _ _ hP hD hS (lv_sub hl [0, 1, 2] rfl)
  · skip
    refine lv_lload_n hx hb dX11_isBeyond_4 rfl (lv_at hl 1 rfl) ?_
    refine lv_lconst (v := lN 0) hx hb dX11_isBeyond_5 (by decide) ?_
    refine W.lcmp hx hb dX11_isBeyond_6 ?_
    refine lv_if_lt (tgt := 20) hx hb dX11_isBeyond_7 (by decide) (fun c_4 => ?_) (fun c_4 => ?_)
    · skip
      refine lv_iconst (v := (nI 1)) hx hb dX11_isBeyond_20 (by decide) ?_
      refine lv_goto (tgt := 25) hx hb dX11_isBeyond_21 (by decide) ?_
      have e_5 := (show (nI 1) = (nI (if (x < 0) ∨ (((lg_cmp y.toInt64 (lN 0)) < 0) ∨ (¬ ((lg_cmp (x.toInt64 + y.toInt64) (lN z)) ≤ 0))) then 1 else 0)) from congrArg nI (if_pos (Or.inr (Or.inl c_4))).symm)
      refine k_eqi (show (nI 1) = (nI (if (x < 0) ∨ (((lg_cmp y.toInt64 (lN 0)) < 0) ∨ (¬ ((lg_cmp (x.toInt64 + y.toInt64) (lN z)) ≤ 0))) then 1 else 0)) from congrArg nI (if_pos (Or.inr (Or.inl c_4))).symm) ?_
      exact j_1 _ _ _ hP hD hS (lv_sub hl [0, 1, 2] rfl)
    · skip
      refine lv_iload_n hx hb dX11_isBeyond_10 rfl (lv_at hl 0 rfl) ?_
      refine lv_i2l (v := x.toInt64) hx hb dX11_isBeyond_11 (rfl) ?_
      refine lv_lload_n hx hb dX11_isBeyond_12 rfl (lv_at hl 1 rfl) ?_
      refine lv_ladd hx hb dX11_isBeyond_13 ?_
      refine lv_iload_n hx hb dX11_isBeyond_14 rfl (lv_at hl 2 rfl) ?_
      refine lv_i2l (v := (lN z)) hx hb dX11_isBeyond_15 (nI_l (show z < 2 ^ 31 by omega)) ?_
      refine W.lcmp hx hb dX11_isBeyond_16 ?_
      refine lv_if_le (tgt := 24) hx hb dX11_isBeyond_17 (by decide) (fun c_6 => ?_) (fun c_6 => ?_)
      · skip
        refine lv_iconst (v := (nI 0)) hx hb dX11_isBeyond_24 (by decide) ?_
        have e_7 := (show (nI 0) = (nI (if (x < 0) ∨ (((lg_cmp y.toInt64 (lN 0)) < 0) ∨ (¬ ((lg_cmp (x.toInt64 + y.toInt64) (lN z)) ≤ 0))) then 1 else 0)) from congrArg nI (if_neg (fun z => z.elim c_2 (fun z => z.elim c_4 (fun z => z c_6)))).symm)
        refine k_eqi (show (nI 0) = (nI (if (x < 0) ∨ (((lg_cmp y.toInt64 (lN 0)) < 0) ∨ (¬ ((lg_cmp (x.toInt64 + y.toInt64) (lN z)) ≤ 0))) then 1 else 0)) from congrArg nI (if_neg (fun z => z.elim c_2 (fun z => z.elim c_4 (fun z => z c_6)))).symm) ?_
        exact j_1 _ _ _ hP hD hS (lv_sub hl [0, 1, 2] rfl)
      · skip
        refine lv_iconst (v := (nI 1)) hx hb dX11_isBeyond_20 (by decide) ?_
        refine lv_goto (tgt := 25) hx hb dX11_isBeyond_21 (by decide) ?_
        have e_8 := (show (nI 1) = (nI (if (x < 0) ∨ (((lg_cmp y.toInt64 (lN 0)) < 0) ∨ (¬ ((lg_cmp (x.toInt64 + y.toInt64) (lN z)) ≤ 0))) then 1 else 0)) from congrArg nI (if_pos (Or.inr (Or.inr c_6))).symm)
        refine k_eqi (show (nI 1) = (nI (if (x < 0) ∨ (((lg_cmp y.toInt64 (lN 0)) < 0) ∨ (¬ ((lg_cmp (x.toInt64 + y.toInt64) (lN z)) ≤ 0))) then 1 else 0)) from congrArg nI (if_pos (Or.inr (Or.inr c_6))).symm) ?_
        exact j_1 _ _ _ hP hD hS (lv_sub hl [0, 1, 2] rfl)
def rm_X11_isBeyond_n : Room := { frames := 0, cells := 0, slots := 0, locals := 0 }
set_option maxHeartbeats 4000000 in
set_option maxRecDepth 100000 in
theorem c_X11_isBeyond_n (l : Launch) (D : va_G) (cI cZ cS cP : ClassId) (a : Nat) (b : Nat) (z : Nat) (hz6 : z ≤ 60) (hab : a + b ≤ z) : kMi (S := Unit) l yX11_isBeyond wsX11_isBeyond rm_X11_isBeyond_n D (kT cI cZ cS cP) [.int (nI a), .long (lN b), .int (nI z)] [] (fun r _ => r = (nI 0)) (fun _ => []) := by
  refine kMet_i (cc := cX11_isBeyond) (maxL := 4) (ty := .boolean) (by decide) rfl (Nat.le_of_ble_eq_true rfl) (fun _ _ q => by (first | subst q | (obtain ⟨q, -⟩ := q; subst q)); (first | exact kz_nr | decide)) ?_
  intro p e s m args below meth c A Q ls C hlocks hin hN hK hP hD hS hA hl ret
  obtain ⟨hx, hb, hml, hown, hts⟩ := C
  have hl : lv_has ls 4 [(0, .int (nI a)), (1, .long (lN b)), (3, .int (nI z))] := hl
  refine lv_iload_n hx hb dX11_isBeyond_0 rfl (lv_at hl 0 rfl) ?_
  refine k_if_lt (tgt := 20) hx hb dX11_isBeyond_1 (by decide) (show a < 2 ^ 31 by first | omega | (split <;> omega)) ?_
  refine lv_lload_n hx hb dX11_isBeyond_4 rfl (lv_at hl 1 rfl) ?_
  refine lv_lconst (v := lN 0) hx hb dX11_isBeyond_5 (by decide) ?_
  refine W.lcmp hx hb dX11_isBeyond_6 ?_
  refine lv_if_lt (tgt := 20) hx hb dX11_isBeyond_7 (by decide) (fun c_1 => absurd c_1 (fun q => bey_n hz6 hab (Or.inr (Or.inl q)))) (fun c_1 => ?_)
  refine lv_iload_n hx hb dX11_isBeyond_10 rfl (lv_at hl 0 rfl) ?_
  refine lv_i2l (v := (lN a)) hx hb dX11_isBeyond_11 (nI_l (show a < 2 ^ 31 by omega)) ?_
  refine lv_lload_n hx hb dX11_isBeyond_12 rfl (lv_at hl 1 rfl) ?_
  refine lv_ladd hx hb dX11_isBeyond_13 ?_
  refine lv_iload_n hx hb dX11_isBeyond_14 rfl (lv_at hl 2 rfl) ?_
  refine lv_i2l (v := (lN z)) hx hb dX11_isBeyond_15 (nI_l (show z < 2 ^ 31 by omega)) ?_
  refine W.lcmp hx hb dX11_isBeyond_16 ?_
  refine lv_if_le (tgt := 24) hx hb dX11_isBeyond_17 (by decide) (fun c_2 => ?_) (fun c_2 => absurd c_2 (fun q => bey_n hz6 hab (Or.inr (Or.inr q))))
  refine lv_iconst (v := (nI 0)) hx hb dX11_isBeyond_24 (by decide) ?_
  exact ret _ () _ _ _ _ dX11_isBeyond_25 (rfl) hP hD hS
def rm_X11_cellsBarred_null : Room := { frames := 1, cells := 0, slots := 0, locals := 23 }
set_option maxHeartbeats 4000000 in
set_option maxRecDepth 100000 in
theorem c_X11_cellsBarred_null (l : Launch) (D : va_G) (cI cZ cS cP : ClassId) (hM : Nat) (m1 : Nat) (m2 : Nat) (m3 : Nat) (m4 : Nat) (m5 : Nat) (m6 : Nat) (m7 : Nat) (m8 : Nat) (m9 : Nat) (m10 : Nat) (m11 : Nat) (m12 : Nat) (m13 : Nat) (m14 : Nat) (m15 : Nat) (m16 : Nat) (m17 : Nat) (m18 : Nat) (mf : Nat) (mn : Nat) (mb : Nat) (ra : Nat) (rn : Nat) (mw : Nat) (mh : Nat) (mm : Nat) (mr : Nat) (mt : Int32) (ss : Nat → Int32) (sl : Nat → Nat) (sz : Nat) (k : Nat) (a : Nat) (x : Int32) (y : Int32) (hsl : ∀ i, sl i < 3) (hk : k < 4) (ha : a < 3) (hsz : sz ≤ 60) (hz0 : ss k = -1) : kMi (S := Unit) l yX11_cellsBarred wsX11_cellsBarred rm_X11_cellsBarred_null D (kT cI cZ cS cP) [.ref hM, .int (nI k), .int (nI a), .int x, .long y.toInt64] [(hM, .inr (11, [.int (nI mf), .int (nI mn), .ref m1, .ref m2, .ref m3, .int (nI mb), .int (nI ra), .int (nI rn), .ref m4, .ref m5, .ref m6, .int (nI mw), .ref m7, .ref m8, .int (nI mh), .ref m9, .ref m10, .int (nI mm), .ref m11, .int (nI mr), .ref m12, .ref m13, .ref m14, .ref m15, .ref m16, .ref m17, .ref m18, .int mt])), (m15, .inl (cI, 4, .inl ss)), (m16, .inl (cI, 4, .inl (nA sl)))] (fun r _ => r = ((-10) - (nI 1))) (fun _ => [(hM, .inr (11, [.int (nI 1), .int (nI mn), .ref m1, .ref m2, .ref m3, .int (nI mb), .int (nI ra), .int (nI rn), .ref m4, .ref m5, .ref m6, .int (nI mw), .ref m7, .ref m8, .int (nI mh), .ref m9, .ref m10, .int (nI mm), .ref m11, .int (nI mr), .ref m12, .ref m13, .ref m14, .ref m15, .ref m16, .ref m17, .ref m18, .int mt])), (m15, .inl (cI, 4, .inl ss)), (m16, .inl (cI, 4, .inl (nA sl)))]) := by
  refine kMet_i (cc := cX11_cellsBarred) (maxL := 6) (ty := .int) (by decide) rfl (Nat.le_of_ble_eq_true rfl) (fun _ _ _ => rfl) ?_
  intro p e s m args below meth c A Q ls C hlocks hin hN hK hP hD hS hA hl ret
  obtain ⟨hx, hb, hml, hown, hts⟩ := C
  have hl : lv_has ls 6 [(0, .ref hM), (1, .int (nI k)), (2, .int (nI a)), (3, .int x), (4, .long y.toInt64)] := hl
  have in_X11 : ∀ w ∈ wsX110, w ∈ wsX11_cellsBarred := by decide +kernel
  have lk0 := hts (.fieldLink RX11 53 "SilkWordModel" "sheetSize" "[I") (by decide +kernel)
  refine lv_aload_n hx hb dX11_cellsBarred_0 rfl (lv_at hl 0 rfl) ?_
  refine va_get (D := D) (ci := 11) (v := .ref m15) (C := RX11) (T := TX11) (N := 28) hx hb hts in_X11 hown hK hP 0 rfl rfl 23 (by decide) lk0 (fun _ h9 => h9) rfl dX11_cellsBarred_1 ?_
  refine lv_iload_n hx hb dX11_cellsBarred_4 rfl (lv_at hl 1 rfl) ?_
  refine k_iald hx hb hK hP 1 0 rfl rfl (show k < 4 by omega) (by decide) dX11_cellsBarred_5 ?_
  refine k_eqi (show (ss k) = (-1) from hz0) ?_
  refine lv_if_lt (tgt := 25) hx hb dX11_cellsBarred_6 (by decide) (fun _ => ?_) (fun q9 => absurd q9 (by decide))
  refine lv_aload_n hx hb dX11_cellsBarred_25 rfl (lv_at hl 0 rfl) ?_
  refine va_get (D := D) (ci := 11) (v := .ref m15) (C := RX11) (T := TX11) (N := 28) hx hb hts in_X11 hown hK hP 0 rfl rfl 23 (by decide) lk0 (fun _ h9 => h9) rfl dX11_cellsBarred_26 ?_
  refine lv_iload_n hx hb dX11_cellsBarred_29 rfl (lv_at hl 1 rfl) ?_
  refine k_iald hx hb hK hP 1 0 rfl rfl (show k < 4 by omega) (by decide) dX11_cellsBarred_30 ?_
  refine k_eqi (show (ss k) = (-1) from hz0) ?_
  refine lv_if_ge (tgt := 40) hx hb dX11_cellsBarred_31 (by decide) (fun q9 => absurd q9 (by decide)) (fun _ => ?_)
  refine lv_aload_n hx hb dX11_cellsBarred_34 rfl (lv_at hl 0 rfl) ?_
  refine lv_iconst (v := (nI 1)) hx hb dX11_cellsBarred_35 (by decide) ?_
  refine k_goi (S := Unit) (va_runV (As := [.int (nI 1)]) (rest := []) ⟨hx, hb, hml, hown, hts⟩ (c_X11_failed l D cI cZ cS cP hM m1 m2 m3 m4 m5 m6 m7 m8 m9 m10 m11 m12 m13 m14 m15 m16 m17 m18 mf mn mb ra rn mw mh mm mr mt 1  _) (cwV 1 hts gX11_cellsBarred_X11_failed rfl rfl rfl (by decide +kernel) ⟨Nat.le_of_ble_eq_true rfl, Nat.le_of_ble_eq_true rfl⟩) (kPreV hN hK hP hD [0] rfl rfl (q0 := 0) (ci := 11) (q := (RX11, TX11, 28)) rfl rfl) rfl rfl hl.1 rfl (lv_room (Nat.le_of_ble_eq_true rfl)) dX11_cellsBarred_36 ⟨Nat.le_of_ble_eq_true rfl, Nat.le_of_ble_eq_true rfl⟩) hP hD hS hA [0] rfl [hM] rfl (fun _ => rfl) 3 [1, 2] rfl (fun _u => [(hM, .inr (11, [.int (nI 1), .int (nI mn), .ref m1, .ref m2, .ref m3, .int (nI mb), .int (nI ra), .int (nI rn), .ref m4, .ref m5, .ref m6, .int (nI mw), .ref m7, .ref m8, .int (nI mh), .ref m9, .ref m10, .int (nI mm), .ref m11, .int (nI mr), .ref m12, .ref m13, .ref m14, .ref m15, .ref m16, .ref m17, .ref m18, .int mt])), (m15, .inl (cI, 4, .inl ss)), (m16, .inl (cI, 4, .inl (nA sl)))]) (fun _ => rfl) [(m15, .inl (cI, 4, .inl ss)), (m16, .inl (cI, 4, .inl (nA sl)))] [] (fun _ => rfl) rfl (fun _ => rfl) rfl (fun r_1 _u H locs hr_2 hP hD hS => ?_)
  have hP : va_P D vwCl [(hM, .inr (11, [.int (nI 1), .int (nI mn), .ref m1, .ref m2, .ref m3, .int (nI mb), .int (nI ra), .int (nI rn), .ref m4, .ref m5, .ref m6, .int (nI mw), .ref m7, .ref m8, .int (nI mh), .ref m9, .ref m10, .int (nI mm), .ref m11, .int (nI mr), .ref m12, .ref m13, .ref m14, .ref m15, .ref m16, .ref m17, .ref m18, .int mt])), (m15, .inl (cI, 4, .inl ss)), (m16, .inl (cI, 4, .inl (nA sl)))] H := hP
  have hD : va_D A [(hM, .inr (11, [.int (nI 1), .int (nI mn), .ref m1, .ref m2, .ref m3, .int (nI mb), .int (nI ra), .int (nI rn), .ref m4, .ref m5, .ref m6, .int (nI mw), .ref m7, .ref m8, .int (nI mh), .ref m9, .ref m10, .int (nI mm), .ref m11, .int (nI mr), .ref m12, .ref m13, .ref m14, .ref m15, .ref m16, .ref m17, .ref m18, .int mt])), (m15, .inl (cI, 4, .inl ss)), (m16, .inl (cI, 4, .inl (nA sl)))] := hD
  subst hr_2
  exact ret _ () _ _ _ _ dX11_cellsBarred_39 (rfl) hP hD hS
def rm_X11_cellsBarred_cast : Room := { frames := 1, cells := 0, slots := 0, locals := 23 }
set_option maxHeartbeats 4000000 in
set_option maxRecDepth 100000 in
theorem c_X11_cellsBarred_cast (l : Launch) (D : va_G) (cI cZ cS cP : ClassId) (hM : Nat) (m1 : Nat) (m2 : Nat) (m3 : Nat) (m4 : Nat) (m5 : Nat) (m6 : Nat) (m7 : Nat) (m8 : Nat) (m9 : Nat) (m10 : Nat) (m11 : Nat) (m12 : Nat) (m13 : Nat) (m14 : Nat) (m15 : Nat) (m16 : Nat) (m17 : Nat) (m18 : Nat) (mf : Nat) (mn : Nat) (mb : Nat) (ra : Nat) (rn : Nat) (mw : Nat) (mh : Nat) (mm : Nat) (mr : Nat) (mt : Int32) (ss : Nat → Int32) (sl : Nat → Nat) (sz : Nat) (k : Nat) (a : Nat) (x : Int32) (y : Int32) (hsl : ∀ i, sl i < 3) (hk : k < 4) (ha : a < 3) (hsz : sz ≤ 60) (hz0 : ss k = nI sz) (hc : sl k ≠ a) : kMi (S := Unit) l yX11_cellsBarred wsX11_cellsBarred rm_X11_cellsBarred_cast D (kT cI cZ cS cP) [.ref hM, .int (nI k), .int (nI a), .int x, .long y.toInt64] [(hM, .inr (11, [.int (nI mf), .int (nI mn), .ref m1, .ref m2, .ref m3, .int (nI mb), .int (nI ra), .int (nI rn), .ref m4, .ref m5, .ref m6, .int (nI mw), .ref m7, .ref m8, .int (nI mh), .ref m9, .ref m10, .int (nI mm), .ref m11, .int (nI mr), .ref m12, .ref m13, .ref m14, .ref m15, .ref m16, .ref m17, .ref m18, .int mt])), (m15, .inl (cI, 4, .inl ss)), (m16, .inl (cI, 4, .inl (nA sl)))] (fun r _ => r = ((-10) - (nI 2))) (fun _ => [(hM, .inr (11, [.int (nI 2), .int (nI mn), .ref m1, .ref m2, .ref m3, .int (nI mb), .int (nI ra), .int (nI rn), .ref m4, .ref m5, .ref m6, .int (nI mw), .ref m7, .ref m8, .int (nI mh), .ref m9, .ref m10, .int (nI mm), .ref m11, .int (nI mr), .ref m12, .ref m13, .ref m14, .ref m15, .ref m16, .ref m17, .ref m18, .int mt])), (m15, .inl (cI, 4, .inl ss)), (m16, .inl (cI, 4, .inl (nA sl)))]) := by
  refine kMet_i (cc := cX11_cellsBarred) (maxL := 6) (ty := .int) (by decide) rfl (Nat.le_of_ble_eq_true rfl) (fun _ _ _ => rfl) ?_
  intro p e s m args below meth c A Q ls C hlocks hin hN hK hP hD hS hA hl ret
  obtain ⟨hx, hb, hml, hown, hts⟩ := C
  have hl : lv_has ls 6 [(0, .ref hM), (1, .int (nI k)), (2, .int (nI a)), (3, .int x), (4, .long y.toInt64)] := hl
  have in_X11 : ∀ w ∈ wsX110, w ∈ wsX11_cellsBarred := by decide +kernel
  have lk0 := hts (.fieldLink RX11 53 "SilkWordModel" "sheetSize" "[I") (by decide +kernel)
  have lk1 := hts (.fieldLink RX11 56 "SilkWordModel" "sheetLane" "[I") (by decide +kernel)
  refine lv_aload_n hx hb dX11_cellsBarred_0 rfl (lv_at hl 0 rfl) ?_
  refine va_get (D := D) (ci := 11) (v := .ref m15) (C := RX11) (T := TX11) (N := 28) hx hb hts in_X11 hown hK hP 0 rfl rfl 23 (by decide) lk0 (fun _ h9 => h9) rfl dX11_cellsBarred_1 ?_
  refine lv_iload_n hx hb dX11_cellsBarred_4 rfl (lv_at hl 1 rfl) ?_
  refine k_iald hx hb hK hP 1 0 rfl rfl (show k < 4 by omega) (by decide) dX11_cellsBarred_5 ?_
  refine k_eqi (show (ss k) = (nI sz) from hz0) ?_
  refine k_if_lt (tgt := 25) hx hb dX11_cellsBarred_6 (by decide) (show sz < 2 ^ 31 by first | omega | (split <;> omega)) ?_
  refine lv_aload_n hx hb dX11_cellsBarred_9 rfl (lv_at hl 0 rfl) ?_
  refine va_get (D := D) (ci := 11) (v := .ref m16) (C := RX11) (T := TX11) (N := 28) hx hb hts in_X11 hown hK hP 0 rfl rfl 24 (by decide) lk1 (fun _ h9 => h9) rfl dX11_cellsBarred_10 ?_
  refine lv_iload_n hx hb dX11_cellsBarred_13 rfl (lv_at hl 1 rfl) ?_
  refine k_iald hx hb hK hP 2 0 rfl rfl (show k < 4 by omega) (by decide) dX11_cellsBarred_14 ?_
  have b_1 := hsl k
  refine lv_iload_n hx hb dX11_cellsBarred_15 rfl (lv_at hl 2 rfl) ?_
  refine k_icmp_eq (tgt := 25) hx hb dX11_cellsBarred_16 (by decide) (show (sl k) < 2 ^ 31 by first | omega | (split <;> omega)) (show a < 2 ^ 31 by first | omega | (split <;> omega)) (fun c_2 => absurd c_2 (by omega)) (fun c_2 => ?_)
  refine lv_aload_n hx hb dX11_cellsBarred_19 rfl (lv_at hl 0 rfl) ?_
  refine lv_iconst (v := (nI 2)) hx hb dX11_cellsBarred_20 (by decide) ?_
  refine k_goi (S := Unit) (va_runV (As := [.int (nI 2)]) (rest := []) ⟨hx, hb, hml, hown, hts⟩ (c_X11_failed l D cI cZ cS cP hM m1 m2 m3 m4 m5 m6 m7 m8 m9 m10 m11 m12 m13 m14 m15 m16 m17 m18 mf mn mb ra rn mw mh mm mr mt 2  _) (cwV 1 hts gX11_cellsBarred_X11_failed rfl rfl rfl (by decide +kernel) ⟨Nat.le_of_ble_eq_true rfl, Nat.le_of_ble_eq_true rfl⟩) (kPreV hN hK hP hD [0] rfl rfl (q0 := 0) (ci := 11) (q := (RX11, TX11, 28)) rfl rfl) rfl rfl hl.1 rfl (lv_room (Nat.le_of_ble_eq_true rfl)) dX11_cellsBarred_21 ⟨Nat.le_of_ble_eq_true rfl, Nat.le_of_ble_eq_true rfl⟩) hP hD hS hA [0] rfl [hM] rfl (fun _ => rfl) 3 [1, 2] rfl (fun _u => [(hM, .inr (11, [.int (nI 2), .int (nI mn), .ref m1, .ref m2, .ref m3, .int (nI mb), .int (nI ra), .int (nI rn), .ref m4, .ref m5, .ref m6, .int (nI mw), .ref m7, .ref m8, .int (nI mh), .ref m9, .ref m10, .int (nI mm), .ref m11, .int (nI mr), .ref m12, .ref m13, .ref m14, .ref m15, .ref m16, .ref m17, .ref m18, .int mt])), (m15, .inl (cI, 4, .inl ss)), (m16, .inl (cI, 4, .inl (nA sl)))]) (fun _ => rfl) [(m15, .inl (cI, 4, .inl ss)), (m16, .inl (cI, 4, .inl (nA sl)))] [] (fun _ => rfl) rfl (fun _ => rfl) rfl (fun r_3 _u H locs hr_4 hP hD hS => ?_)
  have hP : va_P D vwCl [(hM, .inr (11, [.int (nI 2), .int (nI mn), .ref m1, .ref m2, .ref m3, .int (nI mb), .int (nI ra), .int (nI rn), .ref m4, .ref m5, .ref m6, .int (nI mw), .ref m7, .ref m8, .int (nI mh), .ref m9, .ref m10, .int (nI mm), .ref m11, .int (nI mr), .ref m12, .ref m13, .ref m14, .ref m15, .ref m16, .ref m17, .ref m18, .int mt])), (m15, .inl (cI, 4, .inl ss)), (m16, .inl (cI, 4, .inl (nA sl)))] H := hP
  have hD : va_D A [(hM, .inr (11, [.int (nI 2), .int (nI mn), .ref m1, .ref m2, .ref m3, .int (nI mb), .int (nI ra), .int (nI rn), .ref m4, .ref m5, .ref m6, .int (nI mw), .ref m7, .ref m8, .int (nI mh), .ref m9, .ref m10, .int (nI mm), .ref m11, .int (nI mr), .ref m12, .ref m13, .ref m14, .ref m15, .ref m16, .ref m17, .ref m18, .int mt])), (m15, .inl (cI, 4, .inl ss)), (m16, .inl (cI, 4, .inl (nA sl)))] := hD
  subst hr_4
  exact ret _ () _ _ _ _ dX11_cellsBarred_24 (rfl) hP hD hS
def rm_X11_cellsBarred_size : Room := { frames := 1, cells := 0, slots := 0, locals := 23 }
set_option maxHeartbeats 4000000 in
set_option maxRecDepth 100000 in
theorem c_X11_cellsBarred_size (l : Launch) (D : va_G) (cI cZ cS cP : ClassId) (hM : Nat) (m1 : Nat) (m2 : Nat) (m3 : Nat) (m4 : Nat) (m5 : Nat) (m6 : Nat) (m7 : Nat) (m8 : Nat) (m9 : Nat) (m10 : Nat) (m11 : Nat) (m12 : Nat) (m13 : Nat) (m14 : Nat) (m15 : Nat) (m16 : Nat) (m17 : Nat) (m18 : Nat) (mf : Nat) (mn : Nat) (mb : Nat) (ra : Nat) (rn : Nat) (mw : Nat) (mh : Nat) (mm : Nat) (mr : Nat) (mt : Int32) (ss : Nat → Int32) (sl : Nat → Nat) (sz : Nat) (k : Nat) (a : Nat) (x : Int32) (y : Int32) (hsl : ∀ i, sl i < 3) (hk : k < 4) (ha : a < 3) (hsz : sz ≤ 60) (hz0 : ss k = nI sz) (hc : sl k = a) (hy0 : y < 0) : kMi (S := Unit) l yX11_cellsBarred wsX11_cellsBarred rm_X11_cellsBarred_size D (kT cI cZ cS cP) [.ref hM, .int (nI k), .int (nI a), .int x, .long y.toInt64] [(hM, .inr (11, [.int (nI mf), .int (nI mn), .ref m1, .ref m2, .ref m3, .int (nI mb), .int (nI ra), .int (nI rn), .ref m4, .ref m5, .ref m6, .int (nI mw), .ref m7, .ref m8, .int (nI mh), .ref m9, .ref m10, .int (nI mm), .ref m11, .int (nI mr), .ref m12, .ref m13, .ref m14, .ref m15, .ref m16, .ref m17, .ref m18, .int mt])), (m15, .inl (cI, 4, .inl ss)), (m16, .inl (cI, 4, .inl (nA sl)))] (fun r _ => r = ((-10) - (nI 4))) (fun _ => [(hM, .inr (11, [.int (nI 4), .int (nI mn), .ref m1, .ref m2, .ref m3, .int (nI mb), .int (nI ra), .int (nI rn), .ref m4, .ref m5, .ref m6, .int (nI mw), .ref m7, .ref m8, .int (nI mh), .ref m9, .ref m10, .int (nI mm), .ref m11, .int (nI mr), .ref m12, .ref m13, .ref m14, .ref m15, .ref m16, .ref m17, .ref m18, .int mt])), (m15, .inl (cI, 4, .inl ss)), (m16, .inl (cI, 4, .inl (nA sl)))]) := by
  refine kMet_i (cc := cX11_cellsBarred) (maxL := 6) (ty := .int) (by decide) rfl (Nat.le_of_ble_eq_true rfl) (fun _ _ _ => rfl) ?_
  intro p e s m args below meth c A Q ls C hlocks hin hN hK hP hD hS hA hl ret
  obtain ⟨hx, hb, hml, hown, hts⟩ := C
  have hl : lv_has ls 6 [(0, .ref hM), (1, .int (nI k)), (2, .int (nI a)), (3, .int x), (4, .long y.toInt64)] := hl
  have in_X11 : ∀ w ∈ wsX110, w ∈ wsX11_cellsBarred := by decide +kernel
  have lk0 := hts (.fieldLink RX11 53 "SilkWordModel" "sheetSize" "[I") (by decide +kernel)
  have lk1 := hts (.fieldLink RX11 56 "SilkWordModel" "sheetLane" "[I") (by decide +kernel)
  refine lv_aload_n hx hb dX11_cellsBarred_0 rfl (lv_at hl 0 rfl) ?_
  refine va_get (D := D) (ci := 11) (v := .ref m15) (C := RX11) (T := TX11) (N := 28) hx hb hts in_X11 hown hK hP 0 rfl rfl 23 (by decide) lk0 (fun _ h9 => h9) rfl dX11_cellsBarred_1 ?_
  refine lv_iload_n hx hb dX11_cellsBarred_4 rfl (lv_at hl 1 rfl) ?_
  refine k_iald hx hb hK hP 1 0 rfl rfl (show k < 4 by omega) (by decide) dX11_cellsBarred_5 ?_
  refine k_eqi (show (ss k) = (nI sz) from hz0) ?_
  refine k_if_lt (tgt := 25) hx hb dX11_cellsBarred_6 (by decide) (show sz < 2 ^ 31 by first | omega | (split <;> omega)) ?_
  refine lv_aload_n hx hb dX11_cellsBarred_9 rfl (lv_at hl 0 rfl) ?_
  refine va_get (D := D) (ci := 11) (v := .ref m16) (C := RX11) (T := TX11) (N := 28) hx hb hts in_X11 hown hK hP 0 rfl rfl 24 (by decide) lk1 (fun _ h9 => h9) rfl dX11_cellsBarred_10 ?_
  refine lv_iload_n hx hb dX11_cellsBarred_13 rfl (lv_at hl 1 rfl) ?_
  refine k_iald hx hb hK hP 2 0 rfl rfl (show k < 4 by omega) (by decide) dX11_cellsBarred_14 ?_
  have b_1 := hsl k
  refine lv_iload_n hx hb dX11_cellsBarred_15 rfl (lv_at hl 2 rfl) ?_
  refine k_icmp_eq (tgt := 25) hx hb dX11_cellsBarred_16 (by decide) (show (sl k) < 2 ^ 31 by first | omega | (split <;> omega)) (show a < 2 ^ 31 by first | omega | (split <;> omega)) (fun c_2 => ?_) (fun c_2 => absurd c_2 (by omega))
  refine lv_aload_n hx hb dX11_cellsBarred_25 rfl (lv_at hl 0 rfl) ?_
  refine va_get (D := D) (ci := 11) (v := .ref m15) (C := RX11) (T := TX11) (N := 28) hx hb hts in_X11 hown hK hP 0 rfl rfl 23 (by decide) lk0 (fun _ h9 => h9) rfl dX11_cellsBarred_26 ?_
  refine lv_iload_n hx hb dX11_cellsBarred_29 rfl (lv_at hl 1 rfl) ?_
  refine k_iald hx hb hK hP 1 0 rfl rfl (show k < 4 by omega) (by decide) dX11_cellsBarred_30 ?_
  refine k_eqi (show (ss k) = (nI sz) from hz0) ?_
  refine k_if_ge (tgt := 40) hx hb dX11_cellsBarred_31 (by decide) (show sz < 2 ^ 31 by first | omega | (split <;> omega)) ?_
  refine lv_lload hx hb dX11_cellsBarred_40 (lv_at hl 4 rfl) ?_
  refine lv_lconst (v := lN 0) hx hb dX11_cellsBarred_42 (by decide) ?_
  refine W.lcmp hx hb dX11_cellsBarred_43 ?_
  refine lv_if_ge (tgt := 53) hx hb dX11_cellsBarred_44 (by decide) (fun c_3 => absurd c_3 (fun q => absurd (l0_le.mp (lg_ge.mp q)) (Int32.not_le.mpr hy0))) (fun c_3 => ?_)
  refine lv_aload_n hx hb dX11_cellsBarred_47 rfl (lv_at hl 0 rfl) ?_
  refine lv_iconst (v := (nI 4)) hx hb dX11_cellsBarred_48 (by decide) ?_
  refine k_goi (S := Unit) (va_runV (As := [.int (nI 4)]) (rest := []) ⟨hx, hb, hml, hown, hts⟩ (c_X11_failed l D cI cZ cS cP hM m1 m2 m3 m4 m5 m6 m7 m8 m9 m10 m11 m12 m13 m14 m15 m16 m17 m18 mf mn mb ra rn mw mh mm mr mt 4  _) (cwV 1 hts gX11_cellsBarred_X11_failed rfl rfl rfl (by decide +kernel) ⟨Nat.le_of_ble_eq_true rfl, Nat.le_of_ble_eq_true rfl⟩) (kPreV hN hK hP hD [0] rfl rfl (q0 := 0) (ci := 11) (q := (RX11, TX11, 28)) rfl rfl) rfl rfl hl.1 rfl (lv_room (Nat.le_of_ble_eq_true rfl)) dX11_cellsBarred_49 ⟨Nat.le_of_ble_eq_true rfl, Nat.le_of_ble_eq_true rfl⟩) hP hD hS hA [0] rfl [hM] rfl (fun _ => rfl) 3 [1, 2] rfl (fun _u => [(hM, .inr (11, [.int (nI 4), .int (nI mn), .ref m1, .ref m2, .ref m3, .int (nI mb), .int (nI ra), .int (nI rn), .ref m4, .ref m5, .ref m6, .int (nI mw), .ref m7, .ref m8, .int (nI mh), .ref m9, .ref m10, .int (nI mm), .ref m11, .int (nI mr), .ref m12, .ref m13, .ref m14, .ref m15, .ref m16, .ref m17, .ref m18, .int mt])), (m15, .inl (cI, 4, .inl ss)), (m16, .inl (cI, 4, .inl (nA sl)))]) (fun _ => rfl) [(m15, .inl (cI, 4, .inl ss)), (m16, .inl (cI, 4, .inl (nA sl)))] [] (fun _ => rfl) rfl (fun _ => rfl) rfl (fun r_4 _u H locs hr_5 hP hD hS => ?_)
  have hP : va_P D vwCl [(hM, .inr (11, [.int (nI 4), .int (nI mn), .ref m1, .ref m2, .ref m3, .int (nI mb), .int (nI ra), .int (nI rn), .ref m4, .ref m5, .ref m6, .int (nI mw), .ref m7, .ref m8, .int (nI mh), .ref m9, .ref m10, .int (nI mm), .ref m11, .int (nI mr), .ref m12, .ref m13, .ref m14, .ref m15, .ref m16, .ref m17, .ref m18, .int mt])), (m15, .inl (cI, 4, .inl ss)), (m16, .inl (cI, 4, .inl (nA sl)))] H := hP
  have hD : va_D A [(hM, .inr (11, [.int (nI 4), .int (nI mn), .ref m1, .ref m2, .ref m3, .int (nI mb), .int (nI ra), .int (nI rn), .ref m4, .ref m5, .ref m6, .int (nI mw), .ref m7, .ref m8, .int (nI mh), .ref m9, .ref m10, .int (nI mm), .ref m11, .int (nI mr), .ref m12, .ref m13, .ref m14, .ref m15, .ref m16, .ref m17, .ref m18, .int mt])), (m15, .inl (cI, 4, .inl ss)), (m16, .inl (cI, 4, .inl (nA sl)))] := hD
  subst hr_5
  exact ret _ () _ _ _ _ dX11_cellsBarred_52 (rfl) hP hD hS
def rm_X11_cellsBarred_idx : Room := { frames := 1, cells := 0, slots := 0, locals := 23 }
set_option maxHeartbeats 4000000 in
set_option maxRecDepth 100000 in
theorem c_X11_cellsBarred_idx (l : Launch) (D : va_G) (cI cZ cS cP : ClassId) (hM : Nat) (m1 : Nat) (m2 : Nat) (m3 : Nat) (m4 : Nat) (m5 : Nat) (m6 : Nat) (m7 : Nat) (m8 : Nat) (m9 : Nat) (m10 : Nat) (m11 : Nat) (m12 : Nat) (m13 : Nat) (m14 : Nat) (m15 : Nat) (m16 : Nat) (m17 : Nat) (m18 : Nat) (mf : Nat) (mn : Nat) (mb : Nat) (ra : Nat) (rn : Nat) (mw : Nat) (mh : Nat) (mm : Nat) (mr : Nat) (mt : Int32) (ss : Nat → Int32) (sl : Nat → Nat) (sz : Nat) (k : Nat) (a : Nat) (x : Int32) (y : Int32) (hsl : ∀ i, sl i < 3) (hk : k < 4) (ha : a < 3) (hsz : sz ≤ 60) (hz0 : ss k = nI sz) (hc : sl k = a) (hy0 : 0 ≤ y) (hi1 : ¬ hcs x y sz) : kMi (S := Unit) l yX11_cellsBarred wsX11_cellsBarred rm_X11_cellsBarred_idx D (kT cI cZ cS cP) [.ref hM, .int (nI k), .int (nI a), .int x, .long y.toInt64] [(hM, .inr (11, [.int (nI mf), .int (nI mn), .ref m1, .ref m2, .ref m3, .int (nI mb), .int (nI ra), .int (nI rn), .ref m4, .ref m5, .ref m6, .int (nI mw), .ref m7, .ref m8, .int (nI mh), .ref m9, .ref m10, .int (nI mm), .ref m11, .int (nI mr), .ref m12, .ref m13, .ref m14, .ref m15, .ref m16, .ref m17, .ref m18, .int mt])), (m15, .inl (cI, 4, .inl ss)), (m16, .inl (cI, 4, .inl (nA sl)))] (fun r _ => r = ((-10) - (nI 3))) (fun _ => [(hM, .inr (11, [.int (nI 3), .int (nI mn), .ref m1, .ref m2, .ref m3, .int (nI mb), .int (nI ra), .int (nI rn), .ref m4, .ref m5, .ref m6, .int (nI mw), .ref m7, .ref m8, .int (nI mh), .ref m9, .ref m10, .int (nI mm), .ref m11, .int (nI mr), .ref m12, .ref m13, .ref m14, .ref m15, .ref m16, .ref m17, .ref m18, .int mt])), (m15, .inl (cI, 4, .inl ss)), (m16, .inl (cI, 4, .inl (nA sl)))]) := by
  refine kMet_i (cc := cX11_cellsBarred) (maxL := 6) (ty := .int) (by decide) rfl (Nat.le_of_ble_eq_true rfl) (fun _ _ _ => rfl) ?_
  intro p e s m args below meth c A Q ls C hlocks hin hN hK hP hD hS hA hl ret
  obtain ⟨hx, hb, hml, hown, hts⟩ := C
  have hl : lv_has ls 6 [(0, .ref hM), (1, .int (nI k)), (2, .int (nI a)), (3, .int x), (4, .long y.toInt64)] := hl
  have in_X11 : ∀ w ∈ wsX110, w ∈ wsX11_cellsBarred := by decide +kernel
  have lk0 := hts (.fieldLink RX11 53 "SilkWordModel" "sheetSize" "[I") (by decide +kernel)
  have lk1 := hts (.fieldLink RX11 56 "SilkWordModel" "sheetLane" "[I") (by decide +kernel)
  refine lv_aload_n hx hb dX11_cellsBarred_0 rfl (lv_at hl 0 rfl) ?_
  refine va_get (D := D) (ci := 11) (v := .ref m15) (C := RX11) (T := TX11) (N := 28) hx hb hts in_X11 hown hK hP 0 rfl rfl 23 (by decide) lk0 (fun _ h9 => h9) rfl dX11_cellsBarred_1 ?_
  refine lv_iload_n hx hb dX11_cellsBarred_4 rfl (lv_at hl 1 rfl) ?_
  refine k_iald hx hb hK hP 1 0 rfl rfl (show k < 4 by omega) (by decide) dX11_cellsBarred_5 ?_
  refine k_eqi (show (ss k) = (nI sz) from hz0) ?_
  refine k_if_lt (tgt := 25) hx hb dX11_cellsBarred_6 (by decide) (show sz < 2 ^ 31 by first | omega | (split <;> omega)) ?_
  refine lv_aload_n hx hb dX11_cellsBarred_9 rfl (lv_at hl 0 rfl) ?_
  refine va_get (D := D) (ci := 11) (v := .ref m16) (C := RX11) (T := TX11) (N := 28) hx hb hts in_X11 hown hK hP 0 rfl rfl 24 (by decide) lk1 (fun _ h9 => h9) rfl dX11_cellsBarred_10 ?_
  refine lv_iload_n hx hb dX11_cellsBarred_13 rfl (lv_at hl 1 rfl) ?_
  refine k_iald hx hb hK hP 2 0 rfl rfl (show k < 4 by omega) (by decide) dX11_cellsBarred_14 ?_
  have b_1 := hsl k
  refine lv_iload_n hx hb dX11_cellsBarred_15 rfl (lv_at hl 2 rfl) ?_
  refine k_icmp_eq (tgt := 25) hx hb dX11_cellsBarred_16 (by decide) (show (sl k) < 2 ^ 31 by first | omega | (split <;> omega)) (show a < 2 ^ 31 by first | omega | (split <;> omega)) (fun c_2 => ?_) (fun c_2 => absurd c_2 (by omega))
  refine lv_aload_n hx hb dX11_cellsBarred_25 rfl (lv_at hl 0 rfl) ?_
  refine va_get (D := D) (ci := 11) (v := .ref m15) (C := RX11) (T := TX11) (N := 28) hx hb hts in_X11 hown hK hP 0 rfl rfl 23 (by decide) lk0 (fun _ h9 => h9) rfl dX11_cellsBarred_26 ?_
  refine lv_iload_n hx hb dX11_cellsBarred_29 rfl (lv_at hl 1 rfl) ?_
  refine k_iald hx hb hK hP 1 0 rfl rfl (show k < 4 by omega) (by decide) dX11_cellsBarred_30 ?_
  refine k_eqi (show (ss k) = (nI sz) from hz0) ?_
  refine k_if_ge (tgt := 40) hx hb dX11_cellsBarred_31 (by decide) (show sz < 2 ^ 31 by first | omega | (split <;> omega)) ?_
  refine lv_lload hx hb dX11_cellsBarred_40 (lv_at hl 4 rfl) ?_
  refine lv_lconst (v := lN 0) hx hb dX11_cellsBarred_42 (by decide) ?_
  refine W.lcmp hx hb dX11_cellsBarred_43 ?_
  refine lv_if_ge (tgt := 53) hx hb dX11_cellsBarred_44 (by decide) (fun c_3 => ?_) (fun c_3 => absurd c_3 (not_not_intro (lg_ge.mpr (l0_le.mpr hy0))))
  refine lv_iload_n hx hb dX11_cellsBarred_53 rfl (lv_at hl 3 rfl) ?_
  refine lv_lload hx hb dX11_cellsBarred_54 (lv_at hl 4 rfl) ?_
  refine lv_aload_n hx hb dX11_cellsBarred_56 rfl (lv_at hl 0 rfl) ?_
  refine va_get (D := D) (ci := 11) (v := .ref m15) (C := RX11) (T := TX11) (N := 28) hx hb hts in_X11 hown hK hP 0 rfl rfl 23 (by decide) lk0 (fun _ h9 => h9) rfl dX11_cellsBarred_57 ?_
  refine lv_iload_n hx hb dX11_cellsBarred_60 rfl (lv_at hl 1 rfl) ?_
  refine k_iald hx hb hK hP 1 0 rfl rfl (show k < 4 by omega) (by decide) dX11_cellsBarred_61 ?_
  refine k_eqi (show (ss k) = (nI sz) from hz0) ?_
  refine k_goi (S := Unit) (va_runS (As := [.int x, .long y.toInt64, .int (nI sz)]) (rest := []) ⟨hx, hb, hml, hown, hts⟩ (c_X11_isBeyond_r l D cI cZ cS cP x y sz (by first | assumption | omega) _) (va_cwS 3 hts gX11_cellsBarred_X11_isBeyond rfl rfl rfl (by decide +kernel) ⟨Nat.le_of_ble_eq_true rfl, Nat.le_of_ble_eq_true rfl⟩) (kPreS hN hK hP hD [] rfl rfl) rfl rfl hl.1 rfl (lv_room (Nat.le_of_ble_eq_true rfl)) dX11_cellsBarred_62 ⟨Nat.le_of_ble_eq_true rfl, Nat.le_of_ble_eq_true rfl⟩) hP hD hS hA [] rfl [] rfl (fun _ => rfl) 3 [0, 1, 2] rfl (fun _u => [(hM, .inr (11, [.int (nI mf), .int (nI mn), .ref m1, .ref m2, .ref m3, .int (nI mb), .int (nI ra), .int (nI rn), .ref m4, .ref m5, .ref m6, .int (nI mw), .ref m7, .ref m8, .int (nI mh), .ref m9, .ref m10, .int (nI mm), .ref m11, .int (nI mr), .ref m12, .ref m13, .ref m14, .ref m15, .ref m16, .ref m17, .ref m18, .int mt])), (m15, .inl (cI, 4, .inl ss)), (m16, .inl (cI, 4, .inl (nA sl)))]) (fun _ => rfl) [(hM, .inr (11, [.int (nI mf), .int (nI mn), .ref m1, .ref m2, .ref m3, .int (nI mb), .int (nI ra), .int (nI rn), .ref m4, .ref m5, .ref m6, .int (nI mw), .ref m7, .ref m8, .int (nI mh), .ref m9, .ref m10, .int (nI mm), .ref m11, .int (nI mr), .ref m12, .ref m13, .ref m14, .ref m15, .ref m16, .ref m17, .ref m18, .int mt])), (m15, .inl (cI, 4, .inl ss)), (m16, .inl (cI, 4, .inl (nA sl)))] [] (fun _ => rfl) rfl (fun _ => rfl) rfl (fun r_4 _u H locs hr_5 hP hD hS => ?_)
  have hP : va_P D vwCl [(hM, .inr (11, [.int (nI mf), .int (nI mn), .ref m1, .ref m2, .ref m3, .int (nI mb), .int (nI ra), .int (nI rn), .ref m4, .ref m5, .ref m6, .int (nI mw), .ref m7, .ref m8, .int (nI mh), .ref m9, .ref m10, .int (nI mm), .ref m11, .int (nI mr), .ref m12, .ref m13, .ref m14, .ref m15, .ref m16, .ref m17, .ref m18, .int mt])), (m15, .inl (cI, 4, .inl ss)), (m16, .inl (cI, 4, .inl (nA sl)))] H := hP
  have hD : va_D A [(hM, .inr (11, [.int (nI mf), .int (nI mn), .ref m1, .ref m2, .ref m3, .int (nI mb), .int (nI ra), .int (nI rn), .ref m4, .ref m5, .ref m6, .int (nI mw), .ref m7, .ref m8, .int (nI mh), .ref m9, .ref m10, .int (nI mm), .ref m11, .int (nI mr), .ref m12, .ref m13, .ref m14, .ref m15, .ref m16, .ref m17, .ref m18, .int mt])), (m15, .inl (cI, 4, .inl ss)), (m16, .inl (cI, 4, .inl (nA sl)))] := hD
  subst hr_5
  refine k_ifn_eq (tgt := 76) hx hb dX11_cellsBarred_65 (by decide) (fun c_6 => absurd c_6 (hi1)) (fun c_6 => ?_)
  refine lv_aload_n hx hb dX11_cellsBarred_68 rfl (lv_at hl 0 rfl) ?_
  refine lv_iconst (v := (nI 3)) hx hb dX11_cellsBarred_69 (by decide) ?_
  refine k_goi (S := Unit) (va_runV (As := [.int (nI 3)]) (rest := []) ⟨hx, hb, hml, hown, hts⟩ (c_X11_failed l D cI cZ cS cP hM m1 m2 m3 m4 m5 m6 m7 m8 m9 m10 m11 m12 m13 m14 m15 m16 m17 m18 mf mn mb ra rn mw mh mm mr mt 3  _) (cwV 1 hts gX11_cellsBarred_X11_failed rfl rfl rfl (by decide +kernel) ⟨Nat.le_of_ble_eq_true rfl, Nat.le_of_ble_eq_true rfl⟩) (kPreV hN hK hP hD [0] rfl rfl (q0 := 0) (ci := 11) (q := (RX11, TX11, 28)) rfl rfl) rfl rfl hl.1 rfl (lv_room (Nat.le_of_ble_eq_true rfl)) dX11_cellsBarred_70 ⟨Nat.le_of_ble_eq_true rfl, Nat.le_of_ble_eq_true rfl⟩) hP hD hS hA [0] rfl [hM] rfl (fun _ => rfl) 3 [1, 2] rfl (fun _u => [(hM, .inr (11, [.int (nI 3), .int (nI mn), .ref m1, .ref m2, .ref m3, .int (nI mb), .int (nI ra), .int (nI rn), .ref m4, .ref m5, .ref m6, .int (nI mw), .ref m7, .ref m8, .int (nI mh), .ref m9, .ref m10, .int (nI mm), .ref m11, .int (nI mr), .ref m12, .ref m13, .ref m14, .ref m15, .ref m16, .ref m17, .ref m18, .int mt])), (m15, .inl (cI, 4, .inl ss)), (m16, .inl (cI, 4, .inl (nA sl)))]) (fun _ => rfl) [(m15, .inl (cI, 4, .inl ss)), (m16, .inl (cI, 4, .inl (nA sl)))] [] (fun _ => rfl) rfl (fun _ => rfl) rfl (fun r_7 _u H locs hr_8 hP hD hS => ?_)
  have hP : va_P D vwCl [(hM, .inr (11, [.int (nI 3), .int (nI mn), .ref m1, .ref m2, .ref m3, .int (nI mb), .int (nI ra), .int (nI rn), .ref m4, .ref m5, .ref m6, .int (nI mw), .ref m7, .ref m8, .int (nI mh), .ref m9, .ref m10, .int (nI mm), .ref m11, .int (nI mr), .ref m12, .ref m13, .ref m14, .ref m15, .ref m16, .ref m17, .ref m18, .int mt])), (m15, .inl (cI, 4, .inl ss)), (m16, .inl (cI, 4, .inl (nA sl)))] H := hP
  have hD : va_D A [(hM, .inr (11, [.int (nI 3), .int (nI mn), .ref m1, .ref m2, .ref m3, .int (nI mb), .int (nI ra), .int (nI rn), .ref m4, .ref m5, .ref m6, .int (nI mw), .ref m7, .ref m8, .int (nI mh), .ref m9, .ref m10, .int (nI mm), .ref m11, .int (nI mr), .ref m12, .ref m13, .ref m14, .ref m15, .ref m16, .ref m17, .ref m18, .int mt])), (m15, .inl (cI, 4, .inl ss)), (m16, .inl (cI, 4, .inl (nA sl)))] := hD
  subst hr_8
  refine lv_goto (tgt := 77) hx hb dX11_cellsBarred_73 (by decide) ?_
  exact ret _ () _ _ _ _ dX11_cellsBarred_77 (rfl) hP hD hS
def rm_X11_cellsBarred_ok : Room := { frames := 1, cells := 0, slots := 0, locals := 23 }
set_option maxHeartbeats 4000000 in
set_option maxRecDepth 100000 in
theorem c_X11_cellsBarred_ok (l : Launch) (D : va_G) (cI cZ cS cP : ClassId) (hM : Nat) (m1 : Nat) (m2 : Nat) (m3 : Nat) (m4 : Nat) (m5 : Nat) (m6 : Nat) (m7 : Nat) (m8 : Nat) (m9 : Nat) (m10 : Nat) (m11 : Nat) (m12 : Nat) (m13 : Nat) (m14 : Nat) (m15 : Nat) (m16 : Nat) (m17 : Nat) (m18 : Nat) (mf : Nat) (mn : Nat) (mb : Nat) (ra : Nat) (rn : Nat) (mw : Nat) (mh : Nat) (mm : Nat) (mr : Nat) (mt : Int32) (ss : Nat → Int32) (sl : Nat → Nat) (sz : Nat) (k : Nat) (a : Nat) (x : Int32) (y : Int32) (hsl : ∀ i, sl i < 3) (hk : k < 4) (ha : a < 3) (hsz : sz ≤ 60) (hz0 : ss k = nI sz) (hc : sl k = a) (hy0 : 0 ≤ y) (hi1 : hcs x y sz) : kMi (S := Unit) l yX11_cellsBarred wsX11_cellsBarred rm_X11_cellsBarred_ok D (kT cI cZ cS cP) [.ref hM, .int (nI k), .int (nI a), .int x, .long y.toInt64] [(hM, .inr (11, [.int (nI mf), .int (nI mn), .ref m1, .ref m2, .ref m3, .int (nI mb), .int (nI ra), .int (nI rn), .ref m4, .ref m5, .ref m6, .int (nI mw), .ref m7, .ref m8, .int (nI mh), .ref m9, .ref m10, .int (nI mm), .ref m11, .int (nI mr), .ref m12, .ref m13, .ref m14, .ref m15, .ref m16, .ref m17, .ref m18, .int mt])), (m15, .inl (cI, 4, .inl ss)), (m16, .inl (cI, 4, .inl (nA sl)))] (fun r _ => r = (nI 0)) (fun _ => [(hM, .inr (11, [.int (nI mf), .int (nI mn), .ref m1, .ref m2, .ref m3, .int (nI mb), .int (nI ra), .int (nI rn), .ref m4, .ref m5, .ref m6, .int (nI mw), .ref m7, .ref m8, .int (nI mh), .ref m9, .ref m10, .int (nI mm), .ref m11, .int (nI mr), .ref m12, .ref m13, .ref m14, .ref m15, .ref m16, .ref m17, .ref m18, .int mt])), (m15, .inl (cI, 4, .inl ss)), (m16, .inl (cI, 4, .inl (nA sl)))]) := by
  refine kMet_i (cc := cX11_cellsBarred) (maxL := 6) (ty := .int) (by decide) rfl (Nat.le_of_ble_eq_true rfl) (fun _ _ _ => rfl) ?_
  intro p e s m args below meth c A Q ls C hlocks hin hN hK hP hD hS hA hl ret
  obtain ⟨hx, hb, hml, hown, hts⟩ := C
  have hl : lv_has ls 6 [(0, .ref hM), (1, .int (nI k)), (2, .int (nI a)), (3, .int x), (4, .long y.toInt64)] := hl
  have in_X11 : ∀ w ∈ wsX110, w ∈ wsX11_cellsBarred := by decide +kernel
  have lk0 := hts (.fieldLink RX11 53 "SilkWordModel" "sheetSize" "[I") (by decide +kernel)
  have lk1 := hts (.fieldLink RX11 56 "SilkWordModel" "sheetLane" "[I") (by decide +kernel)
  refine lv_aload_n hx hb dX11_cellsBarred_0 rfl (lv_at hl 0 rfl) ?_
  refine va_get (D := D) (ci := 11) (v := .ref m15) (C := RX11) (T := TX11) (N := 28) hx hb hts in_X11 hown hK hP 0 rfl rfl 23 (by decide) lk0 (fun _ h9 => h9) rfl dX11_cellsBarred_1 ?_
  refine lv_iload_n hx hb dX11_cellsBarred_4 rfl (lv_at hl 1 rfl) ?_
  refine k_iald hx hb hK hP 1 0 rfl rfl (show k < 4 by omega) (by decide) dX11_cellsBarred_5 ?_
  refine k_eqi (show (ss k) = (nI sz) from hz0) ?_
  refine k_if_lt (tgt := 25) hx hb dX11_cellsBarred_6 (by decide) (show sz < 2 ^ 31 by first | omega | (split <;> omega)) ?_
  refine lv_aload_n hx hb dX11_cellsBarred_9 rfl (lv_at hl 0 rfl) ?_
  refine va_get (D := D) (ci := 11) (v := .ref m16) (C := RX11) (T := TX11) (N := 28) hx hb hts in_X11 hown hK hP 0 rfl rfl 24 (by decide) lk1 (fun _ h9 => h9) rfl dX11_cellsBarred_10 ?_
  refine lv_iload_n hx hb dX11_cellsBarred_13 rfl (lv_at hl 1 rfl) ?_
  refine k_iald hx hb hK hP 2 0 rfl rfl (show k < 4 by omega) (by decide) dX11_cellsBarred_14 ?_
  have b_1 := hsl k
  refine lv_iload_n hx hb dX11_cellsBarred_15 rfl (lv_at hl 2 rfl) ?_
  refine k_icmp_eq (tgt := 25) hx hb dX11_cellsBarred_16 (by decide) (show (sl k) < 2 ^ 31 by first | omega | (split <;> omega)) (show a < 2 ^ 31 by first | omega | (split <;> omega)) (fun c_2 => ?_) (fun c_2 => absurd c_2 (by omega))
  refine lv_aload_n hx hb dX11_cellsBarred_25 rfl (lv_at hl 0 rfl) ?_
  refine va_get (D := D) (ci := 11) (v := .ref m15) (C := RX11) (T := TX11) (N := 28) hx hb hts in_X11 hown hK hP 0 rfl rfl 23 (by decide) lk0 (fun _ h9 => h9) rfl dX11_cellsBarred_26 ?_
  refine lv_iload_n hx hb dX11_cellsBarred_29 rfl (lv_at hl 1 rfl) ?_
  refine k_iald hx hb hK hP 1 0 rfl rfl (show k < 4 by omega) (by decide) dX11_cellsBarred_30 ?_
  refine k_eqi (show (ss k) = (nI sz) from hz0) ?_
  refine k_if_ge (tgt := 40) hx hb dX11_cellsBarred_31 (by decide) (show sz < 2 ^ 31 by first | omega | (split <;> omega)) ?_
  refine lv_lload hx hb dX11_cellsBarred_40 (lv_at hl 4 rfl) ?_
  refine lv_lconst (v := lN 0) hx hb dX11_cellsBarred_42 (by decide) ?_
  refine W.lcmp hx hb dX11_cellsBarred_43 ?_
  refine lv_if_ge (tgt := 53) hx hb dX11_cellsBarred_44 (by decide) (fun c_3 => ?_) (fun c_3 => absurd c_3 (not_not_intro (lg_ge.mpr (l0_le.mpr hy0))))
  refine lv_iload_n hx hb dX11_cellsBarred_53 rfl (lv_at hl 3 rfl) ?_
  refine lv_lload hx hb dX11_cellsBarred_54 (lv_at hl 4 rfl) ?_
  refine lv_aload_n hx hb dX11_cellsBarred_56 rfl (lv_at hl 0 rfl) ?_
  refine va_get (D := D) (ci := 11) (v := .ref m15) (C := RX11) (T := TX11) (N := 28) hx hb hts in_X11 hown hK hP 0 rfl rfl 23 (by decide) lk0 (fun _ h9 => h9) rfl dX11_cellsBarred_57 ?_
  refine lv_iload_n hx hb dX11_cellsBarred_60 rfl (lv_at hl 1 rfl) ?_
  refine k_iald hx hb hK hP 1 0 rfl rfl (show k < 4 by omega) (by decide) dX11_cellsBarred_61 ?_
  refine k_eqi (show (ss k) = (nI sz) from hz0) ?_
  refine k_goi (S := Unit) (va_runS (As := [.int x, .long y.toInt64, .int (nI sz)]) (rest := []) ⟨hx, hb, hml, hown, hts⟩ (c_X11_isBeyond_r l D cI cZ cS cP x y sz (by first | assumption | omega) _) (va_cwS 3 hts gX11_cellsBarred_X11_isBeyond rfl rfl rfl (by decide +kernel) ⟨Nat.le_of_ble_eq_true rfl, Nat.le_of_ble_eq_true rfl⟩) (kPreS hN hK hP hD [] rfl rfl) rfl rfl hl.1 rfl (lv_room (Nat.le_of_ble_eq_true rfl)) dX11_cellsBarred_62 ⟨Nat.le_of_ble_eq_true rfl, Nat.le_of_ble_eq_true rfl⟩) hP hD hS hA [] rfl [] rfl (fun _ => rfl) 3 [0, 1, 2] rfl (fun _u => [(hM, .inr (11, [.int (nI mf), .int (nI mn), .ref m1, .ref m2, .ref m3, .int (nI mb), .int (nI ra), .int (nI rn), .ref m4, .ref m5, .ref m6, .int (nI mw), .ref m7, .ref m8, .int (nI mh), .ref m9, .ref m10, .int (nI mm), .ref m11, .int (nI mr), .ref m12, .ref m13, .ref m14, .ref m15, .ref m16, .ref m17, .ref m18, .int mt])), (m15, .inl (cI, 4, .inl ss)), (m16, .inl (cI, 4, .inl (nA sl)))]) (fun _ => rfl) [(hM, .inr (11, [.int (nI mf), .int (nI mn), .ref m1, .ref m2, .ref m3, .int (nI mb), .int (nI ra), .int (nI rn), .ref m4, .ref m5, .ref m6, .int (nI mw), .ref m7, .ref m8, .int (nI mh), .ref m9, .ref m10, .int (nI mm), .ref m11, .int (nI mr), .ref m12, .ref m13, .ref m14, .ref m15, .ref m16, .ref m17, .ref m18, .int mt])), (m15, .inl (cI, 4, .inl ss)), (m16, .inl (cI, 4, .inl (nA sl)))] [] (fun _ => rfl) rfl (fun _ => rfl) rfl (fun r_4 _u H locs hr_5 hP hD hS => ?_)
  have hP : va_P D vwCl [(hM, .inr (11, [.int (nI mf), .int (nI mn), .ref m1, .ref m2, .ref m3, .int (nI mb), .int (nI ra), .int (nI rn), .ref m4, .ref m5, .ref m6, .int (nI mw), .ref m7, .ref m8, .int (nI mh), .ref m9, .ref m10, .int (nI mm), .ref m11, .int (nI mr), .ref m12, .ref m13, .ref m14, .ref m15, .ref m16, .ref m17, .ref m18, .int mt])), (m15, .inl (cI, 4, .inl ss)), (m16, .inl (cI, 4, .inl (nA sl)))] H := hP
  have hD : va_D A [(hM, .inr (11, [.int (nI mf), .int (nI mn), .ref m1, .ref m2, .ref m3, .int (nI mb), .int (nI ra), .int (nI rn), .ref m4, .ref m5, .ref m6, .int (nI mw), .ref m7, .ref m8, .int (nI mh), .ref m9, .ref m10, .int (nI mm), .ref m11, .int (nI mr), .ref m12, .ref m13, .ref m14, .ref m15, .ref m16, .ref m17, .ref m18, .int mt])), (m15, .inl (cI, 4, .inl ss)), (m16, .inl (cI, 4, .inl (nA sl)))] := hD
  subst hr_5
  refine k_ifn_eq (tgt := 76) hx hb dX11_cellsBarred_65 (by decide) (fun c_6 => ?_) (fun c_6 => absurd c_6 (not_not_intro hi1))
  refine lv_iconst (v := (nI 0)) hx hb dX11_cellsBarred_76 (by decide) ?_
  exact ret _ () _ _ _ _ dX11_cellsBarred_77 (rfl) hP hD hS
def rm_X11_copy_b1 : Room := { frames := 2, cells := 0, slots := 0, locals := 45 }
set_option maxHeartbeats 4000000 in
set_option maxRecDepth 100000 in
theorem c_X11_copy_b1 (l : Launch) (D : va_G) (cI cZ cS cP : ClassId) (hM : Nat) (m1 : Nat) (m2 : Nat) (m3 : Nat) (m4 : Nat) (m5 : Nat) (m6 : Nat) (m7 : Nat) (m8 : Nat) (m9 : Nat) (m10 : Nat) (m11 : Nat) (m12 : Nat) (m13 : Nat) (m14 : Nat) (m15 : Nat) (m16 : Nat) (m17 : Nat) (m18 : Nat) (mf : Nat) (mn : Nat) (mb : Nat) (ra : Nat) (rn : Nat) (mw : Nat) (mh : Nat) (mm : Nat) (mr : Nat) (mt : Int32) (x : Int32) (i : Int32) (y : Int32) (j : Int32) (w : Int32) (hx1 : ¬ inR x 4) : kMi (S := Unit) l yX11_copy wsX11_copy rm_X11_copy_b1 D (kT cI cZ cS cP) [.ref hM, .int x, .int i, .int y, .int j, .int w] [(hM, .inr (11, [.int (nI mf), .int (nI mn), .ref m1, .ref m2, .ref m3, .int (nI mb), .int (nI ra), .int (nI rn), .ref m4, .ref m5, .ref m6, .int (nI mw), .ref m7, .ref m8, .int (nI mh), .ref m9, .ref m10, .int (nI mm), .ref m11, .int (nI mr), .ref m12, .ref m13, .ref m14, .ref m15, .ref m16, .ref m17, .ref m18, .int mt]))] (fun r _ => r = (-1)) (fun _ => [(hM, .inr (11, [.int (nI 0), .int (nI mn), .ref m1, .ref m2, .ref m3, .int (nI mb), .int (nI ra), .int (nI rn), .ref m4, .ref m5, .ref m6, .int (nI mw), .ref m7, .ref m8, .int (nI mh), .ref m9, .ref m10, .int (nI mm), .ref m11, .int (nI mr), .ref m12, .ref m13, .ref m14, .ref m15, .ref m16, .ref m17, .ref m18, .int mt]))]) := by
  refine kMet_i (cc := cX11_copy) (maxL := 7) (ty := .int) (by decide) rfl (Nat.le_of_ble_eq_true rfl) (fun _ _ _ => rfl) ?_
  intro p e s m args below meth c A Q ls C hlocks hin hN hK hP hD hS hA hl ret
  obtain ⟨hx, hb, hml, hown, hts⟩ := C
  have hl : lv_has ls 7 [(0, .ref hM), (1, .int x), (2, .int i), (3, .int y), (4, .int j), (5, .int w)] := hl
  refine lv_iload_n hx hb dX11_copy_0 rfl (lv_at hl 1 rfl) ?_
  refine k_goi (S := Unit) (va_runS (As := [.int x]) (rest := []) ⟨hx, hb, hml, hown, hts⟩ (c_X11_noSheet l D cI cZ cS cP x  _) (va_cwS 1 hts gX11_copy_X11_noSheet rfl rfl rfl (by decide +kernel) ⟨Nat.le_of_ble_eq_true rfl, Nat.le_of_ble_eq_true rfl⟩) (kPreS hN hK hP hD [] rfl rfl) rfl rfl hl.1 rfl (lv_room (Nat.le_of_ble_eq_true rfl)) dX11_copy_1 ⟨Nat.le_of_ble_eq_true rfl, Nat.le_of_ble_eq_true rfl⟩) hP hD hS hA [] rfl [] rfl (fun _ => rfl) 1 [0] rfl (fun _u => [(hM, .inr (11, [.int (nI mf), .int (nI mn), .ref m1, .ref m2, .ref m3, .int (nI mb), .int (nI ra), .int (nI rn), .ref m4, .ref m5, .ref m6, .int (nI mw), .ref m7, .ref m8, .int (nI mh), .ref m9, .ref m10, .int (nI mm), .ref m11, .int (nI mr), .ref m12, .ref m13, .ref m14, .ref m15, .ref m16, .ref m17, .ref m18, .int mt]))]) (fun _ => rfl) [(hM, .inr (11, [.int (nI mf), .int (nI mn), .ref m1, .ref m2, .ref m3, .int (nI mb), .int (nI ra), .int (nI rn), .ref m4, .ref m5, .ref m6, .int (nI mw), .ref m7, .ref m8, .int (nI mh), .ref m9, .ref m10, .int (nI mm), .ref m11, .int (nI mr), .ref m12, .ref m13, .ref m14, .ref m15, .ref m16, .ref m17, .ref m18, .int mt]))] [] (fun _ => rfl) rfl (fun _ => rfl) rfl (fun r_1 _u H locs hr_2 hP hD hS => ?_)
  have hP : va_P D vwCl [(hM, .inr (11, [.int (nI mf), .int (nI mn), .ref m1, .ref m2, .ref m3, .int (nI mb), .int (nI ra), .int (nI rn), .ref m4, .ref m5, .ref m6, .int (nI mw), .ref m7, .ref m8, .int (nI mh), .ref m9, .ref m10, .int (nI mm), .ref m11, .int (nI mr), .ref m12, .ref m13, .ref m14, .ref m15, .ref m16, .ref m17, .ref m18, .int mt]))] H := hP
  have hD : va_D A [(hM, .inr (11, [.int (nI mf), .int (nI mn), .ref m1, .ref m2, .ref m3, .int (nI mb), .int (nI ra), .int (nI rn), .ref m4, .ref m5, .ref m6, .int (nI mw), .ref m7, .ref m8, .int (nI mh), .ref m9, .ref m10, .int (nI mm), .ref m11, .int (nI mr), .ref m12, .ref m13, .ref m14, .ref m15, .ref m16, .ref m17, .ref m18, .int mt]))] := hD
  subst hr_2
  refine k_ifn_ne (tgt := 14) hx hb dX11_copy_4 (by decide) (fun c_3 => ?_) (fun c_3 => absurd c_3 hx1)
  refine lv_aload_n hx hb dX11_copy_14 rfl (lv_at hl 0 rfl) ?_
  refine lv_iconst (v := (-1)) hx hb dX11_copy_15 (by decide) ?_
  refine k_goi (S := Unit) (va_runV (As := [.int (-1)]) (rest := []) ⟨hx, hb, hml, hown, hts⟩ (c_X11_refused l D cI cZ cS cP hM m1 m2 m3 m4 m5 m6 m7 m8 m9 m10 m11 m12 m13 m14 m15 m16 m17 m18 mf mn mb ra rn mw mh mm mr mt (-1)  _) (cwV 1 hts gX11_copy_X11_refused rfl rfl rfl (by decide +kernel) ⟨Nat.le_of_ble_eq_true rfl, Nat.le_of_ble_eq_true rfl⟩) (kPreV hN hK hP hD [0] rfl rfl (q0 := 0) (ci := 11) (q := (RX11, TX11, 28)) rfl rfl) rfl rfl hl.1 rfl (lv_room (Nat.le_of_ble_eq_true rfl)) dX11_copy_16 ⟨Nat.le_of_ble_eq_true rfl, Nat.le_of_ble_eq_true rfl⟩) hP hD hS hA [0] rfl [hM] rfl (fun _ => rfl) 1 [] rfl (fun _u => [(hM, .inr (11, [.int (nI 0), .int (nI mn), .ref m1, .ref m2, .ref m3, .int (nI mb), .int (nI ra), .int (nI rn), .ref m4, .ref m5, .ref m6, .int (nI mw), .ref m7, .ref m8, .int (nI mh), .ref m9, .ref m10, .int (nI mm), .ref m11, .int (nI mr), .ref m12, .ref m13, .ref m14, .ref m15, .ref m16, .ref m17, .ref m18, .int mt]))]) (fun _ => rfl) [] [] (fun _ => rfl) rfl (fun _ => rfl) rfl (fun r_4 _u H locs hr_5 hP hD hS => ?_)
  have hP : va_P D vwCl [(hM, .inr (11, [.int (nI 0), .int (nI mn), .ref m1, .ref m2, .ref m3, .int (nI mb), .int (nI ra), .int (nI rn), .ref m4, .ref m5, .ref m6, .int (nI mw), .ref m7, .ref m8, .int (nI mh), .ref m9, .ref m10, .int (nI mm), .ref m11, .int (nI mr), .ref m12, .ref m13, .ref m14, .ref m15, .ref m16, .ref m17, .ref m18, .int mt]))] H := hP
  have hD : va_D A [(hM, .inr (11, [.int (nI 0), .int (nI mn), .ref m1, .ref m2, .ref m3, .int (nI mb), .int (nI ra), .int (nI rn), .ref m4, .ref m5, .ref m6, .int (nI mw), .ref m7, .ref m8, .int (nI mh), .ref m9, .ref m10, .int (nI mm), .ref m11, .int (nI mr), .ref m12, .ref m13, .ref m14, .ref m15, .ref m16, .ref m17, .ref m18, .int mt]))] := hD
  subst hr_5
  exact ret _ () _ _ _ _ dX11_copy_19 (rfl) hP hD hS
def rm_X11_copy_b3 : Room := { frames := 2, cells := 0, slots := 0, locals := 45 }
set_option maxHeartbeats 4000000 in
set_option maxRecDepth 100000 in
theorem c_X11_copy_b3 (l : Launch) (D : va_G) (cI cZ cS cP : ClassId) (hM : Nat) (m1 : Nat) (m2 : Nat) (m3 : Nat) (m4 : Nat) (m5 : Nat) (m6 : Nat) (m7 : Nat) (m8 : Nat) (m9 : Nat) (m10 : Nat) (m11 : Nat) (m12 : Nat) (m13 : Nat) (m14 : Nat) (m15 : Nat) (m16 : Nat) (m17 : Nat) (m18 : Nat) (mf : Nat) (mn : Nat) (mb : Nat) (ra : Nat) (rn : Nat) (mw : Nat) (mh : Nat) (mm : Nat) (mr : Nat) (mt : Int32) (k : Nat) (i : Int32) (y : Int32) (j : Int32) (w : Int32) (hk : k < 4) (hx1 : ¬ inR y 4) : kMi (S := Unit) l yX11_copy wsX11_copy rm_X11_copy_b3 D (kT cI cZ cS cP) [.ref hM, .int (nI k), .int i, .int y, .int j, .int w] [(hM, .inr (11, [.int (nI mf), .int (nI mn), .ref m1, .ref m2, .ref m3, .int (nI mb), .int (nI ra), .int (nI rn), .ref m4, .ref m5, .ref m6, .int (nI mw), .ref m7, .ref m8, .int (nI mh), .ref m9, .ref m10, .int (nI mm), .ref m11, .int (nI mr), .ref m12, .ref m13, .ref m14, .ref m15, .ref m16, .ref m17, .ref m18, .int mt]))] (fun r _ => r = (-1)) (fun _ => [(hM, .inr (11, [.int (nI 0), .int (nI mn), .ref m1, .ref m2, .ref m3, .int (nI mb), .int (nI ra), .int (nI rn), .ref m4, .ref m5, .ref m6, .int (nI mw), .ref m7, .ref m8, .int (nI mh), .ref m9, .ref m10, .int (nI mm), .ref m11, .int (nI mr), .ref m12, .ref m13, .ref m14, .ref m15, .ref m16, .ref m17, .ref m18, .int mt]))]) := by
  refine kMet_i (cc := cX11_copy) (maxL := 7) (ty := .int) (by decide) rfl (Nat.le_of_ble_eq_true rfl) (fun _ _ _ => rfl) ?_
  intro p e s m args below meth c A Q ls C hlocks hin hN hK hP hD hS hA hl ret
  obtain ⟨hx, hb, hml, hown, hts⟩ := C
  have hl : lv_has ls 7 [(0, .ref hM), (1, .int (nI k)), (2, .int i), (3, .int y), (4, .int j), (5, .int w)] := hl
  refine lv_iload_n hx hb dX11_copy_0 rfl (lv_at hl 1 rfl) ?_
  refine k_goi (S := Unit) (va_runS (As := [.int (nI k)]) (rest := []) ⟨hx, hb, hml, hown, hts⟩ (c_X11_noSheet l D cI cZ cS cP (nI k)  _) (va_cwS 1 hts gX11_copy_X11_noSheet rfl rfl rfl (by decide +kernel) ⟨Nat.le_of_ble_eq_true rfl, Nat.le_of_ble_eq_true rfl⟩) (kPreS hN hK hP hD [] rfl rfl) rfl rfl hl.1 rfl (lv_room (Nat.le_of_ble_eq_true rfl)) dX11_copy_1 ⟨Nat.le_of_ble_eq_true rfl, Nat.le_of_ble_eq_true rfl⟩) hP hD hS hA [] rfl [] rfl (fun _ => rfl) 1 [0] rfl (fun _u => [(hM, .inr (11, [.int (nI mf), .int (nI mn), .ref m1, .ref m2, .ref m3, .int (nI mb), .int (nI ra), .int (nI rn), .ref m4, .ref m5, .ref m6, .int (nI mw), .ref m7, .ref m8, .int (nI mh), .ref m9, .ref m10, .int (nI mm), .ref m11, .int (nI mr), .ref m12, .ref m13, .ref m14, .ref m15, .ref m16, .ref m17, .ref m18, .int mt]))]) (fun _ => rfl) [(hM, .inr (11, [.int (nI mf), .int (nI mn), .ref m1, .ref m2, .ref m3, .int (nI mb), .int (nI ra), .int (nI rn), .ref m4, .ref m5, .ref m6, .int (nI mw), .ref m7, .ref m8, .int (nI mh), .ref m9, .ref m10, .int (nI mm), .ref m11, .int (nI mr), .ref m12, .ref m13, .ref m14, .ref m15, .ref m16, .ref m17, .ref m18, .int mt]))] [] (fun _ => rfl) rfl (fun _ => rfl) rfl (fun r_1 _u H locs hr_2 hP hD hS => ?_)
  have hP : va_P D vwCl [(hM, .inr (11, [.int (nI mf), .int (nI mn), .ref m1, .ref m2, .ref m3, .int (nI mb), .int (nI ra), .int (nI rn), .ref m4, .ref m5, .ref m6, .int (nI mw), .ref m7, .ref m8, .int (nI mh), .ref m9, .ref m10, .int (nI mm), .ref m11, .int (nI mr), .ref m12, .ref m13, .ref m14, .ref m15, .ref m16, .ref m17, .ref m18, .int mt]))] H := hP
  have hD : va_D A [(hM, .inr (11, [.int (nI mf), .int (nI mn), .ref m1, .ref m2, .ref m3, .int (nI mb), .int (nI ra), .int (nI rn), .ref m4, .ref m5, .ref m6, .int (nI mw), .ref m7, .ref m8, .int (nI mh), .ref m9, .ref m10, .int (nI mm), .ref m11, .int (nI mr), .ref m12, .ref m13, .ref m14, .ref m15, .ref m16, .ref m17, .ref m18, .int mt]))] := hD
  subst hr_2
  refine k_ifn_ne (tgt := 14) hx hb dX11_copy_4 (by decide) (fun c_3 => absurd ((inR_nI (by omega)).mpr (by omega)) c_3) (fun c_3 => ?_)
  refine lv_iload_n hx hb dX11_copy_7 rfl (lv_at hl 3 rfl) ?_
  refine k_goi (S := Unit) (va_runS (As := [.int y]) (rest := []) ⟨hx, hb, hml, hown, hts⟩ (c_X11_noSheet l D cI cZ cS cP y  _) (va_cwS 1 hts gX11_copy_X11_noSheet rfl rfl rfl (by decide +kernel) ⟨Nat.le_of_ble_eq_true rfl, Nat.le_of_ble_eq_true rfl⟩) (kPreS hN hK hP hD [] rfl rfl) rfl rfl hl.1 rfl (lv_room (Nat.le_of_ble_eq_true rfl)) dX11_copy_8 ⟨Nat.le_of_ble_eq_true rfl, Nat.le_of_ble_eq_true rfl⟩) hP hD hS hA [] rfl [] rfl (fun _ => rfl) 1 [0] rfl (fun _u => [(hM, .inr (11, [.int (nI mf), .int (nI mn), .ref m1, .ref m2, .ref m3, .int (nI mb), .int (nI ra), .int (nI rn), .ref m4, .ref m5, .ref m6, .int (nI mw), .ref m7, .ref m8, .int (nI mh), .ref m9, .ref m10, .int (nI mm), .ref m11, .int (nI mr), .ref m12, .ref m13, .ref m14, .ref m15, .ref m16, .ref m17, .ref m18, .int mt]))]) (fun _ => rfl) [(hM, .inr (11, [.int (nI mf), .int (nI mn), .ref m1, .ref m2, .ref m3, .int (nI mb), .int (nI ra), .int (nI rn), .ref m4, .ref m5, .ref m6, .int (nI mw), .ref m7, .ref m8, .int (nI mh), .ref m9, .ref m10, .int (nI mm), .ref m11, .int (nI mr), .ref m12, .ref m13, .ref m14, .ref m15, .ref m16, .ref m17, .ref m18, .int mt]))] [] (fun _ => rfl) rfl (fun _ => rfl) rfl (fun r_4 _u H locs hr_5 hP hD hS => ?_)
  have hP : va_P D vwCl [(hM, .inr (11, [.int (nI mf), .int (nI mn), .ref m1, .ref m2, .ref m3, .int (nI mb), .int (nI ra), .int (nI rn), .ref m4, .ref m5, .ref m6, .int (nI mw), .ref m7, .ref m8, .int (nI mh), .ref m9, .ref m10, .int (nI mm), .ref m11, .int (nI mr), .ref m12, .ref m13, .ref m14, .ref m15, .ref m16, .ref m17, .ref m18, .int mt]))] H := hP
  have hD : va_D A [(hM, .inr (11, [.int (nI mf), .int (nI mn), .ref m1, .ref m2, .ref m3, .int (nI mb), .int (nI ra), .int (nI rn), .ref m4, .ref m5, .ref m6, .int (nI mw), .ref m7, .ref m8, .int (nI mh), .ref m9, .ref m10, .int (nI mm), .ref m11, .int (nI mr), .ref m12, .ref m13, .ref m14, .ref m15, .ref m16, .ref m17, .ref m18, .int mt]))] := hD
  subst hr_5
  refine k_ifn_eq (tgt := 20) hx hb dX11_copy_11 (by decide) (fun c_6 => absurd c_6 hx1) (fun c_6 => ?_)
  refine lv_aload_n hx hb dX11_copy_14 rfl (lv_at hl 0 rfl) ?_
  refine lv_iconst (v := (-1)) hx hb dX11_copy_15 (by decide) ?_
  refine k_goi (S := Unit) (va_runV (As := [.int (-1)]) (rest := []) ⟨hx, hb, hml, hown, hts⟩ (c_X11_refused l D cI cZ cS cP hM m1 m2 m3 m4 m5 m6 m7 m8 m9 m10 m11 m12 m13 m14 m15 m16 m17 m18 mf mn mb ra rn mw mh mm mr mt (-1)  _) (cwV 1 hts gX11_copy_X11_refused rfl rfl rfl (by decide +kernel) ⟨Nat.le_of_ble_eq_true rfl, Nat.le_of_ble_eq_true rfl⟩) (kPreV hN hK hP hD [0] rfl rfl (q0 := 0) (ci := 11) (q := (RX11, TX11, 28)) rfl rfl) rfl rfl hl.1 rfl (lv_room (Nat.le_of_ble_eq_true rfl)) dX11_copy_16 ⟨Nat.le_of_ble_eq_true rfl, Nat.le_of_ble_eq_true rfl⟩) hP hD hS hA [0] rfl [hM] rfl (fun _ => rfl) 1 [] rfl (fun _u => [(hM, .inr (11, [.int (nI 0), .int (nI mn), .ref m1, .ref m2, .ref m3, .int (nI mb), .int (nI ra), .int (nI rn), .ref m4, .ref m5, .ref m6, .int (nI mw), .ref m7, .ref m8, .int (nI mh), .ref m9, .ref m10, .int (nI mm), .ref m11, .int (nI mr), .ref m12, .ref m13, .ref m14, .ref m15, .ref m16, .ref m17, .ref m18, .int mt]))]) (fun _ => rfl) [] [] (fun _ => rfl) rfl (fun _ => rfl) rfl (fun r_7 _u H locs hr_8 hP hD hS => ?_)
  have hP : va_P D vwCl [(hM, .inr (11, [.int (nI 0), .int (nI mn), .ref m1, .ref m2, .ref m3, .int (nI mb), .int (nI ra), .int (nI rn), .ref m4, .ref m5, .ref m6, .int (nI mw), .ref m7, .ref m8, .int (nI mh), .ref m9, .ref m10, .int (nI mm), .ref m11, .int (nI mr), .ref m12, .ref m13, .ref m14, .ref m15, .ref m16, .ref m17, .ref m18, .int mt]))] H := hP
  have hD : va_D A [(hM, .inr (11, [.int (nI 0), .int (nI mn), .ref m1, .ref m2, .ref m3, .int (nI mb), .int (nI ra), .int (nI rn), .ref m4, .ref m5, .ref m6, .int (nI mw), .ref m7, .ref m8, .int (nI mh), .ref m9, .ref m10, .int (nI mm), .ref m11, .int (nI mr), .ref m12, .ref m13, .ref m14, .ref m15, .ref m16, .ref m17, .ref m18, .int mt]))] := hD
  subst hr_8
  exact ret _ () _ _ _ _ dX11_copy_19 (rfl) hP hD hS
def rm_X11_copy_n1 : Room := { frames := 2, cells := 0, slots := 0, locals := 45 }
set_option maxHeartbeats 4000000 in
set_option maxRecDepth 100000 in
theorem c_X11_copy_n1 (l : Launch) (D : va_G) (cI cZ cS cP : ClassId) (hM : Nat) (m1 : Nat) (m2 : Nat) (m3 : Nat) (m4 : Nat) (m5 : Nat) (m6 : Nat) (m7 : Nat) (m8 : Nat) (m9 : Nat) (m10 : Nat) (m11 : Nat) (m12 : Nat) (m13 : Nat) (m14 : Nat) (m15 : Nat) (m16 : Nat) (m17 : Nat) (m18 : Nat) (mf : Nat) (mn : Nat) (mb : Nat) (ra : Nat) (rn : Nat) (mw : Nat) (mh : Nat) (mm : Nat) (mr : Nat) (mt : Int32) (ss : Nat → Int32) (k : Nat) (o : Nat) (i : Int32) (j : Int32) (w : Int32) (hk : k < 4) (ho1 : o < 4) (hz0 : ss k = -1) : kMi (S := Unit) l yX11_copy wsX11_copy rm_X11_copy_n1 D (kT cI cZ cS cP) [.ref hM, .int (nI k), .int i, .int (nI o), .int j, .int w] [(hM, .inr (11, [.int (nI mf), .int (nI mn), .ref m1, .ref m2, .ref m3, .int (nI mb), .int (nI ra), .int (nI rn), .ref m4, .ref m5, .ref m6, .int (nI mw), .ref m7, .ref m8, .int (nI mh), .ref m9, .ref m10, .int (nI mm), .ref m11, .int (nI mr), .ref m12, .ref m13, .ref m14, .ref m15, .ref m16, .ref m17, .ref m18, .int mt])), (m15, .inl (cI, 4, .inl ss))] (fun r _ => r = ((-10) - (nI 1))) (fun _ => [(hM, .inr (11, [.int (nI 1), .int (nI mn), .ref m1, .ref m2, .ref m3, .int (nI mb), .int (nI ra), .int (nI rn), .ref m4, .ref m5, .ref m6, .int (nI mw), .ref m7, .ref m8, .int (nI mh), .ref m9, .ref m10, .int (nI mm), .ref m11, .int (nI mr), .ref m12, .ref m13, .ref m14, .ref m15, .ref m16, .ref m17, .ref m18, .int mt])), (m15, .inl (cI, 4, .inl ss))]) := by
  refine kMet_i (cc := cX11_copy) (maxL := 7) (ty := .int) (by decide) rfl (Nat.le_of_ble_eq_true rfl) (fun _ _ _ => rfl) ?_
  intro p e s m args below meth c A Q ls C hlocks hin hN hK hP hD hS hA hl ret
  obtain ⟨hx, hb, hml, hown, hts⟩ := C
  have hl : lv_has ls 7 [(0, .ref hM), (1, .int (nI k)), (2, .int i), (3, .int (nI o)), (4, .int j), (5, .int w)] := hl
  have in_X11 : ∀ w ∈ wsX110, w ∈ wsX11_copy := by decide +kernel
  have lk0 := hts (.fieldLink RX11 53 "SilkWordModel" "sheetSize" "[I") (by decide +kernel)
  refine lv_iload_n hx hb dX11_copy_0 rfl (lv_at hl 1 rfl) ?_
  refine k_goi (S := Unit) (va_runS (As := [.int (nI k)]) (rest := []) ⟨hx, hb, hml, hown, hts⟩ (c_X11_noSheet l D cI cZ cS cP (nI k)  _) (va_cwS 1 hts gX11_copy_X11_noSheet rfl rfl rfl (by decide +kernel) ⟨Nat.le_of_ble_eq_true rfl, Nat.le_of_ble_eq_true rfl⟩) (kPreS hN hK hP hD [] rfl rfl) rfl rfl hl.1 rfl (lv_room (Nat.le_of_ble_eq_true rfl)) dX11_copy_1 ⟨Nat.le_of_ble_eq_true rfl, Nat.le_of_ble_eq_true rfl⟩) hP hD hS hA [] rfl [] rfl (fun _ => rfl) 2 [0, 1] rfl (fun _u => [(hM, .inr (11, [.int (nI mf), .int (nI mn), .ref m1, .ref m2, .ref m3, .int (nI mb), .int (nI ra), .int (nI rn), .ref m4, .ref m5, .ref m6, .int (nI mw), .ref m7, .ref m8, .int (nI mh), .ref m9, .ref m10, .int (nI mm), .ref m11, .int (nI mr), .ref m12, .ref m13, .ref m14, .ref m15, .ref m16, .ref m17, .ref m18, .int mt])), (m15, .inl (cI, 4, .inl ss))]) (fun _ => rfl) [(hM, .inr (11, [.int (nI mf), .int (nI mn), .ref m1, .ref m2, .ref m3, .int (nI mb), .int (nI ra), .int (nI rn), .ref m4, .ref m5, .ref m6, .int (nI mw), .ref m7, .ref m8, .int (nI mh), .ref m9, .ref m10, .int (nI mm), .ref m11, .int (nI mr), .ref m12, .ref m13, .ref m14, .ref m15, .ref m16, .ref m17, .ref m18, .int mt])), (m15, .inl (cI, 4, .inl ss))] [] (fun _ => rfl) rfl (fun _ => rfl) rfl (fun r_1 _u H locs hr_2 hP hD hS => ?_)
  have hP : va_P D vwCl [(hM, .inr (11, [.int (nI mf), .int (nI mn), .ref m1, .ref m2, .ref m3, .int (nI mb), .int (nI ra), .int (nI rn), .ref m4, .ref m5, .ref m6, .int (nI mw), .ref m7, .ref m8, .int (nI mh), .ref m9, .ref m10, .int (nI mm), .ref m11, .int (nI mr), .ref m12, .ref m13, .ref m14, .ref m15, .ref m16, .ref m17, .ref m18, .int mt])), (m15, .inl (cI, 4, .inl ss))] H := hP
  have hD : va_D A [(hM, .inr (11, [.int (nI mf), .int (nI mn), .ref m1, .ref m2, .ref m3, .int (nI mb), .int (nI ra), .int (nI rn), .ref m4, .ref m5, .ref m6, .int (nI mw), .ref m7, .ref m8, .int (nI mh), .ref m9, .ref m10, .int (nI mm), .ref m11, .int (nI mr), .ref m12, .ref m13, .ref m14, .ref m15, .ref m16, .ref m17, .ref m18, .int mt])), (m15, .inl (cI, 4, .inl ss))] := hD
  subst hr_2
  refine k_ifn_ne (tgt := 14) hx hb dX11_copy_4 (by decide) (fun c_3 => absurd ((inR_nI (by omega)).mpr (by omega)) c_3) (fun c_3 => ?_)
  refine lv_iload_n hx hb dX11_copy_7 rfl (lv_at hl 3 rfl) ?_
  refine k_goi (S := Unit) (va_runS (As := [.int (nI o)]) (rest := []) ⟨hx, hb, hml, hown, hts⟩ (c_X11_noSheet l D cI cZ cS cP (nI o)  _) (va_cwS 1 hts gX11_copy_X11_noSheet rfl rfl rfl (by decide +kernel) ⟨Nat.le_of_ble_eq_true rfl, Nat.le_of_ble_eq_true rfl⟩) (kPreS hN hK hP hD [] rfl rfl) rfl rfl hl.1 rfl (lv_room (Nat.le_of_ble_eq_true rfl)) dX11_copy_8 ⟨Nat.le_of_ble_eq_true rfl, Nat.le_of_ble_eq_true rfl⟩) hP hD hS hA [] rfl [] rfl (fun _ => rfl) 2 [0, 1] rfl (fun _u => [(hM, .inr (11, [.int (nI mf), .int (nI mn), .ref m1, .ref m2, .ref m3, .int (nI mb), .int (nI ra), .int (nI rn), .ref m4, .ref m5, .ref m6, .int (nI mw), .ref m7, .ref m8, .int (nI mh), .ref m9, .ref m10, .int (nI mm), .ref m11, .int (nI mr), .ref m12, .ref m13, .ref m14, .ref m15, .ref m16, .ref m17, .ref m18, .int mt])), (m15, .inl (cI, 4, .inl ss))]) (fun _ => rfl) [(hM, .inr (11, [.int (nI mf), .int (nI mn), .ref m1, .ref m2, .ref m3, .int (nI mb), .int (nI ra), .int (nI rn), .ref m4, .ref m5, .ref m6, .int (nI mw), .ref m7, .ref m8, .int (nI mh), .ref m9, .ref m10, .int (nI mm), .ref m11, .int (nI mr), .ref m12, .ref m13, .ref m14, .ref m15, .ref m16, .ref m17, .ref m18, .int mt])), (m15, .inl (cI, 4, .inl ss))] [] (fun _ => rfl) rfl (fun _ => rfl) rfl (fun r_4 _u H locs hr_5 hP hD hS => ?_)
  have hP : va_P D vwCl [(hM, .inr (11, [.int (nI mf), .int (nI mn), .ref m1, .ref m2, .ref m3, .int (nI mb), .int (nI ra), .int (nI rn), .ref m4, .ref m5, .ref m6, .int (nI mw), .ref m7, .ref m8, .int (nI mh), .ref m9, .ref m10, .int (nI mm), .ref m11, .int (nI mr), .ref m12, .ref m13, .ref m14, .ref m15, .ref m16, .ref m17, .ref m18, .int mt])), (m15, .inl (cI, 4, .inl ss))] H := hP
  have hD : va_D A [(hM, .inr (11, [.int (nI mf), .int (nI mn), .ref m1, .ref m2, .ref m3, .int (nI mb), .int (nI ra), .int (nI rn), .ref m4, .ref m5, .ref m6, .int (nI mw), .ref m7, .ref m8, .int (nI mh), .ref m9, .ref m10, .int (nI mm), .ref m11, .int (nI mr), .ref m12, .ref m13, .ref m14, .ref m15, .ref m16, .ref m17, .ref m18, .int mt])), (m15, .inl (cI, 4, .inl ss))] := hD
  subst hr_5
  refine k_ifn_eq (tgt := 20) hx hb dX11_copy_11 (by decide) (fun c_6 => ?_) (fun c_6 => absurd ((inR_nI (by omega)).mpr (by omega)) c_6)
  refine lv_aload_n hx hb dX11_copy_20 rfl (lv_at hl 0 rfl) ?_
  refine va_get (D := D) (ci := 11) (v := .ref m15) (C := RX11) (T := TX11) (N := 28) hx hb hts in_X11 hown hK hP 0 rfl rfl 23 (by decide) lk0 (fun _ h9 => h9) rfl dX11_copy_21 ?_
  refine lv_iload_n hx hb dX11_copy_24 rfl (lv_at hl 1 rfl) ?_
  refine k_iald hx hb hK hP 1 0 rfl rfl (show k < 4 by omega) (by decide) dX11_copy_25 ?_
  refine k_eqi (show (ss k) = (-1) from hz0) ?_
  refine lv_if_lt (tgt := 38) hx hb dX11_copy_26 (by decide) (fun _ => ?_) (fun q9 => absurd q9 (by decide))
  refine lv_aload_n hx hb dX11_copy_38 rfl (lv_at hl 0 rfl) ?_
  refine lv_iconst (v := (nI 1)) hx hb dX11_copy_39 (by decide) ?_
  refine k_goi (S := Unit) (va_runV (As := [.int (nI 1)]) (rest := []) ⟨hx, hb, hml, hown, hts⟩ (c_X11_failed l D cI cZ cS cP hM m1 m2 m3 m4 m5 m6 m7 m8 m9 m10 m11 m12 m13 m14 m15 m16 m17 m18 mf mn mb ra rn mw mh mm mr mt 1  _) (cwV 1 hts gX11_copy_X11_failed rfl rfl rfl (by decide +kernel) ⟨Nat.le_of_ble_eq_true rfl, Nat.le_of_ble_eq_true rfl⟩) (kPreV hN hK hP hD [0] rfl rfl (q0 := 0) (ci := 11) (q := (RX11, TX11, 28)) rfl rfl) rfl rfl hl.1 rfl (lv_room (Nat.le_of_ble_eq_true rfl)) dX11_copy_40 ⟨Nat.le_of_ble_eq_true rfl, Nat.le_of_ble_eq_true rfl⟩) hP hD hS hA [0] rfl [hM] rfl (fun _ => rfl) 2 [1] rfl (fun _u => [(hM, .inr (11, [.int (nI 1), .int (nI mn), .ref m1, .ref m2, .ref m3, .int (nI mb), .int (nI ra), .int (nI rn), .ref m4, .ref m5, .ref m6, .int (nI mw), .ref m7, .ref m8, .int (nI mh), .ref m9, .ref m10, .int (nI mm), .ref m11, .int (nI mr), .ref m12, .ref m13, .ref m14, .ref m15, .ref m16, .ref m17, .ref m18, .int mt])), (m15, .inl (cI, 4, .inl ss))]) (fun _ => rfl) [(m15, .inl (cI, 4, .inl ss))] [] (fun _ => rfl) rfl (fun _ => rfl) rfl (fun r_7 _u H locs hr_8 hP hD hS => ?_)
  have hP : va_P D vwCl [(hM, .inr (11, [.int (nI 1), .int (nI mn), .ref m1, .ref m2, .ref m3, .int (nI mb), .int (nI ra), .int (nI rn), .ref m4, .ref m5, .ref m6, .int (nI mw), .ref m7, .ref m8, .int (nI mh), .ref m9, .ref m10, .int (nI mm), .ref m11, .int (nI mr), .ref m12, .ref m13, .ref m14, .ref m15, .ref m16, .ref m17, .ref m18, .int mt])), (m15, .inl (cI, 4, .inl ss))] H := hP
  have hD : va_D A [(hM, .inr (11, [.int (nI 1), .int (nI mn), .ref m1, .ref m2, .ref m3, .int (nI mb), .int (nI ra), .int (nI rn), .ref m4, .ref m5, .ref m6, .int (nI mw), .ref m7, .ref m8, .int (nI mh), .ref m9, .ref m10, .int (nI mm), .ref m11, .int (nI mr), .ref m12, .ref m13, .ref m14, .ref m15, .ref m16, .ref m17, .ref m18, .int mt])), (m15, .inl (cI, 4, .inl ss))] := hD
  subst hr_8
  exact ret _ () _ _ _ _ dX11_copy_43 (rfl) hP hD hS
def rm_X11_copy_n2 : Room := { frames := 2, cells := 0, slots := 0, locals := 45 }
set_option maxHeartbeats 4000000 in
set_option maxRecDepth 100000 in
theorem c_X11_copy_n2 (l : Launch) (D : va_G) (cI cZ cS cP : ClassId) (hM : Nat) (m1 : Nat) (m2 : Nat) (m3 : Nat) (m4 : Nat) (m5 : Nat) (m6 : Nat) (m7 : Nat) (m8 : Nat) (m9 : Nat) (m10 : Nat) (m11 : Nat) (m12 : Nat) (m13 : Nat) (m14 : Nat) (m15 : Nat) (m16 : Nat) (m17 : Nat) (m18 : Nat) (mf : Nat) (mn : Nat) (mb : Nat) (ra : Nat) (rn : Nat) (mw : Nat) (mh : Nat) (mm : Nat) (mr : Nat) (mt : Int32) (ss : Nat → Int32) (k : Nat) (o : Nat) (i : Int32) (j : Int32) (w : Int32) (z : Nat) (hk : k < 4) (ho1 : o < 4) (hz0 : ss k = nI z) (hz6 : z ≤ 60) (hz1 : ss o = -1) : kMi (S := Unit) l yX11_copy wsX11_copy rm_X11_copy_n2 D (kT cI cZ cS cP) [.ref hM, .int (nI k), .int i, .int (nI o), .int j, .int w] [(hM, .inr (11, [.int (nI mf), .int (nI mn), .ref m1, .ref m2, .ref m3, .int (nI mb), .int (nI ra), .int (nI rn), .ref m4, .ref m5, .ref m6, .int (nI mw), .ref m7, .ref m8, .int (nI mh), .ref m9, .ref m10, .int (nI mm), .ref m11, .int (nI mr), .ref m12, .ref m13, .ref m14, .ref m15, .ref m16, .ref m17, .ref m18, .int mt])), (m15, .inl (cI, 4, .inl ss))] (fun r _ => r = ((-10) - (nI 1))) (fun _ => [(hM, .inr (11, [.int (nI 1), .int (nI mn), .ref m1, .ref m2, .ref m3, .int (nI mb), .int (nI ra), .int (nI rn), .ref m4, .ref m5, .ref m6, .int (nI mw), .ref m7, .ref m8, .int (nI mh), .ref m9, .ref m10, .int (nI mm), .ref m11, .int (nI mr), .ref m12, .ref m13, .ref m14, .ref m15, .ref m16, .ref m17, .ref m18, .int mt])), (m15, .inl (cI, 4, .inl ss))]) := by
  refine kMet_i (cc := cX11_copy) (maxL := 7) (ty := .int) (by decide) rfl (Nat.le_of_ble_eq_true rfl) (fun _ _ _ => rfl) ?_
  intro p e s m args below meth c A Q ls C hlocks hin hN hK hP hD hS hA hl ret
  obtain ⟨hx, hb, hml, hown, hts⟩ := C
  have hl : lv_has ls 7 [(0, .ref hM), (1, .int (nI k)), (2, .int i), (3, .int (nI o)), (4, .int j), (5, .int w)] := hl
  have in_X11 : ∀ w ∈ wsX110, w ∈ wsX11_copy := by decide +kernel
  have lk0 := hts (.fieldLink RX11 53 "SilkWordModel" "sheetSize" "[I") (by decide +kernel)
  refine lv_iload_n hx hb dX11_copy_0 rfl (lv_at hl 1 rfl) ?_
  refine k_goi (S := Unit) (va_runS (As := [.int (nI k)]) (rest := []) ⟨hx, hb, hml, hown, hts⟩ (c_X11_noSheet l D cI cZ cS cP (nI k)  _) (va_cwS 1 hts gX11_copy_X11_noSheet rfl rfl rfl (by decide +kernel) ⟨Nat.le_of_ble_eq_true rfl, Nat.le_of_ble_eq_true rfl⟩) (kPreS hN hK hP hD [] rfl rfl) rfl rfl hl.1 rfl (lv_room (Nat.le_of_ble_eq_true rfl)) dX11_copy_1 ⟨Nat.le_of_ble_eq_true rfl, Nat.le_of_ble_eq_true rfl⟩) hP hD hS hA [] rfl [] rfl (fun _ => rfl) 2 [0, 1] rfl (fun _u => [(hM, .inr (11, [.int (nI mf), .int (nI mn), .ref m1, .ref m2, .ref m3, .int (nI mb), .int (nI ra), .int (nI rn), .ref m4, .ref m5, .ref m6, .int (nI mw), .ref m7, .ref m8, .int (nI mh), .ref m9, .ref m10, .int (nI mm), .ref m11, .int (nI mr), .ref m12, .ref m13, .ref m14, .ref m15, .ref m16, .ref m17, .ref m18, .int mt])), (m15, .inl (cI, 4, .inl ss))]) (fun _ => rfl) [(hM, .inr (11, [.int (nI mf), .int (nI mn), .ref m1, .ref m2, .ref m3, .int (nI mb), .int (nI ra), .int (nI rn), .ref m4, .ref m5, .ref m6, .int (nI mw), .ref m7, .ref m8, .int (nI mh), .ref m9, .ref m10, .int (nI mm), .ref m11, .int (nI mr), .ref m12, .ref m13, .ref m14, .ref m15, .ref m16, .ref m17, .ref m18, .int mt])), (m15, .inl (cI, 4, .inl ss))] [] (fun _ => rfl) rfl (fun _ => rfl) rfl (fun r_1 _u H locs hr_2 hP hD hS => ?_)
  have hP : va_P D vwCl [(hM, .inr (11, [.int (nI mf), .int (nI mn), .ref m1, .ref m2, .ref m3, .int (nI mb), .int (nI ra), .int (nI rn), .ref m4, .ref m5, .ref m6, .int (nI mw), .ref m7, .ref m8, .int (nI mh), .ref m9, .ref m10, .int (nI mm), .ref m11, .int (nI mr), .ref m12, .ref m13, .ref m14, .ref m15, .ref m16, .ref m17, .ref m18, .int mt])), (m15, .inl (cI, 4, .inl ss))] H := hP
  have hD : va_D A [(hM, .inr (11, [.int (nI mf), .int (nI mn), .ref m1, .ref m2, .ref m3, .int (nI mb), .int (nI ra), .int (nI rn), .ref m4, .ref m5, .ref m6, .int (nI mw), .ref m7, .ref m8, .int (nI mh), .ref m9, .ref m10, .int (nI mm), .ref m11, .int (nI mr), .ref m12, .ref m13, .ref m14, .ref m15, .ref m16, .ref m17, .ref m18, .int mt])), (m15, .inl (cI, 4, .inl ss))] := hD
  subst hr_2
  refine k_ifn_ne (tgt := 14) hx hb dX11_copy_4 (by decide) (fun c_3 => absurd ((inR_nI (by omega)).mpr (by omega)) c_3) (fun c_3 => ?_)
  refine lv_iload_n hx hb dX11_copy_7 rfl (lv_at hl 3 rfl) ?_
  refine k_goi (S := Unit) (va_runS (As := [.int (nI o)]) (rest := []) ⟨hx, hb, hml, hown, hts⟩ (c_X11_noSheet l D cI cZ cS cP (nI o)  _) (va_cwS 1 hts gX11_copy_X11_noSheet rfl rfl rfl (by decide +kernel) ⟨Nat.le_of_ble_eq_true rfl, Nat.le_of_ble_eq_true rfl⟩) (kPreS hN hK hP hD [] rfl rfl) rfl rfl hl.1 rfl (lv_room (Nat.le_of_ble_eq_true rfl)) dX11_copy_8 ⟨Nat.le_of_ble_eq_true rfl, Nat.le_of_ble_eq_true rfl⟩) hP hD hS hA [] rfl [] rfl (fun _ => rfl) 2 [0, 1] rfl (fun _u => [(hM, .inr (11, [.int (nI mf), .int (nI mn), .ref m1, .ref m2, .ref m3, .int (nI mb), .int (nI ra), .int (nI rn), .ref m4, .ref m5, .ref m6, .int (nI mw), .ref m7, .ref m8, .int (nI mh), .ref m9, .ref m10, .int (nI mm), .ref m11, .int (nI mr), .ref m12, .ref m13, .ref m14, .ref m15, .ref m16, .ref m17, .ref m18, .int mt])), (m15, .inl (cI, 4, .inl ss))]) (fun _ => rfl) [(hM, .inr (11, [.int (nI mf), .int (nI mn), .ref m1, .ref m2, .ref m3, .int (nI mb), .int (nI ra), .int (nI rn), .ref m4, .ref m5, .ref m6, .int (nI mw), .ref m7, .ref m8, .int (nI mh), .ref m9, .ref m10, .int (nI mm), .ref m11, .int (nI mr), .ref m12, .ref m13, .ref m14, .ref m15, .ref m16, .ref m17, .ref m18, .int mt])), (m15, .inl (cI, 4, .inl ss))] [] (fun _ => rfl) rfl (fun _ => rfl) rfl (fun r_4 _u H locs hr_5 hP hD hS => ?_)
  have hP : va_P D vwCl [(hM, .inr (11, [.int (nI mf), .int (nI mn), .ref m1, .ref m2, .ref m3, .int (nI mb), .int (nI ra), .int (nI rn), .ref m4, .ref m5, .ref m6, .int (nI mw), .ref m7, .ref m8, .int (nI mh), .ref m9, .ref m10, .int (nI mm), .ref m11, .int (nI mr), .ref m12, .ref m13, .ref m14, .ref m15, .ref m16, .ref m17, .ref m18, .int mt])), (m15, .inl (cI, 4, .inl ss))] H := hP
  have hD : va_D A [(hM, .inr (11, [.int (nI mf), .int (nI mn), .ref m1, .ref m2, .ref m3, .int (nI mb), .int (nI ra), .int (nI rn), .ref m4, .ref m5, .ref m6, .int (nI mw), .ref m7, .ref m8, .int (nI mh), .ref m9, .ref m10, .int (nI mm), .ref m11, .int (nI mr), .ref m12, .ref m13, .ref m14, .ref m15, .ref m16, .ref m17, .ref m18, .int mt])), (m15, .inl (cI, 4, .inl ss))] := hD
  subst hr_5
  refine k_ifn_eq (tgt := 20) hx hb dX11_copy_11 (by decide) (fun c_6 => ?_) (fun c_6 => absurd ((inR_nI (by omega)).mpr (by omega)) c_6)
  refine lv_aload_n hx hb dX11_copy_20 rfl (lv_at hl 0 rfl) ?_
  refine va_get (D := D) (ci := 11) (v := .ref m15) (C := RX11) (T := TX11) (N := 28) hx hb hts in_X11 hown hK hP 0 rfl rfl 23 (by decide) lk0 (fun _ h9 => h9) rfl dX11_copy_21 ?_
  refine lv_iload_n hx hb dX11_copy_24 rfl (lv_at hl 1 rfl) ?_
  refine k_iald hx hb hK hP 1 0 rfl rfl (show k < 4 by omega) (by decide) dX11_copy_25 ?_
  refine k_eqi (show (ss k) = (nI z) from hz0) ?_
  refine k_if_lt (tgt := 38) hx hb dX11_copy_26 (by decide) (show z < 2 ^ 31 by first | omega | (split <;> omega)) ?_
  refine lv_aload_n hx hb dX11_copy_29 rfl (lv_at hl 0 rfl) ?_
  refine va_get (D := D) (ci := 11) (v := .ref m15) (C := RX11) (T := TX11) (N := 28) hx hb hts in_X11 hown hK hP 0 rfl rfl 23 (by decide) lk0 (fun _ h9 => h9) rfl dX11_copy_30 ?_
  refine lv_iload_n hx hb dX11_copy_33 rfl (lv_at hl 3 rfl) ?_
  refine k_iald hx hb hK hP 1 0 rfl rfl (show o < 4 by omega) (by decide) dX11_copy_34 ?_
  refine k_eqi (show (ss o) = (-1) from hz1) ?_
  refine lv_if_ge (tgt := 44) hx hb dX11_copy_35 (by decide) (fun q9 => absurd q9 (by decide)) (fun _ => ?_)
  refine lv_aload_n hx hb dX11_copy_38 rfl (lv_at hl 0 rfl) ?_
  refine lv_iconst (v := (nI 1)) hx hb dX11_copy_39 (by decide) ?_
  refine k_goi (S := Unit) (va_runV (As := [.int (nI 1)]) (rest := []) ⟨hx, hb, hml, hown, hts⟩ (c_X11_failed l D cI cZ cS cP hM m1 m2 m3 m4 m5 m6 m7 m8 m9 m10 m11 m12 m13 m14 m15 m16 m17 m18 mf mn mb ra rn mw mh mm mr mt 1  _) (cwV 1 hts gX11_copy_X11_failed rfl rfl rfl (by decide +kernel) ⟨Nat.le_of_ble_eq_true rfl, Nat.le_of_ble_eq_true rfl⟩) (kPreV hN hK hP hD [0] rfl rfl (q0 := 0) (ci := 11) (q := (RX11, TX11, 28)) rfl rfl) rfl rfl hl.1 rfl (lv_room (Nat.le_of_ble_eq_true rfl)) dX11_copy_40 ⟨Nat.le_of_ble_eq_true rfl, Nat.le_of_ble_eq_true rfl⟩) hP hD hS hA [0] rfl [hM] rfl (fun _ => rfl) 2 [1] rfl (fun _u => [(hM, .inr (11, [.int (nI 1), .int (nI mn), .ref m1, .ref m2, .ref m3, .int (nI mb), .int (nI ra), .int (nI rn), .ref m4, .ref m5, .ref m6, .int (nI mw), .ref m7, .ref m8, .int (nI mh), .ref m9, .ref m10, .int (nI mm), .ref m11, .int (nI mr), .ref m12, .ref m13, .ref m14, .ref m15, .ref m16, .ref m17, .ref m18, .int mt])), (m15, .inl (cI, 4, .inl ss))]) (fun _ => rfl) [(m15, .inl (cI, 4, .inl ss))] [] (fun _ => rfl) rfl (fun _ => rfl) rfl (fun r_7 _u H locs hr_8 hP hD hS => ?_)
  have hP : va_P D vwCl [(hM, .inr (11, [.int (nI 1), .int (nI mn), .ref m1, .ref m2, .ref m3, .int (nI mb), .int (nI ra), .int (nI rn), .ref m4, .ref m5, .ref m6, .int (nI mw), .ref m7, .ref m8, .int (nI mh), .ref m9, .ref m10, .int (nI mm), .ref m11, .int (nI mr), .ref m12, .ref m13, .ref m14, .ref m15, .ref m16, .ref m17, .ref m18, .int mt])), (m15, .inl (cI, 4, .inl ss))] H := hP
  have hD : va_D A [(hM, .inr (11, [.int (nI 1), .int (nI mn), .ref m1, .ref m2, .ref m3, .int (nI mb), .int (nI ra), .int (nI rn), .ref m4, .ref m5, .ref m6, .int (nI mw), .ref m7, .ref m8, .int (nI mh), .ref m9, .ref m10, .int (nI mm), .ref m11, .int (nI mr), .ref m12, .ref m13, .ref m14, .ref m15, .ref m16, .ref m17, .ref m18, .int mt])), (m15, .inl (cI, 4, .inl ss))] := hD
  subst hr_8
  exact ret _ () _ _ _ _ dX11_copy_43 (rfl) hP hD hS
def rm_X11_copy_cast : Room := { frames := 2, cells := 0, slots := 0, locals := 45 }
set_option maxHeartbeats 4000000 in
set_option maxRecDepth 100000 in
theorem c_X11_copy_cast (l : Launch) (D : va_G) (cI cZ cS cP : ClassId) (hM : Nat) (m1 : Nat) (m2 : Nat) (m3 : Nat) (m4 : Nat) (m5 : Nat) (m6 : Nat) (m7 : Nat) (m8 : Nat) (m9 : Nat) (m10 : Nat) (m11 : Nat) (m12 : Nat) (m13 : Nat) (m14 : Nat) (m15 : Nat) (m16 : Nat) (m17 : Nat) (m18 : Nat) (mf : Nat) (mn : Nat) (mb : Nat) (ra : Nat) (rn : Nat) (mw : Nat) (mh : Nat) (mm : Nat) (mr : Nat) (mt : Int32) (ss : Nat → Int32) (sl : Nat → Nat) (k : Nat) (o : Nat) (i : Int32) (j : Int32) (w : Int32) (z : Nat) (z2 : Nat) (hsl : ∀ i, sl i < 3) (hk : k < 4) (ho1 : o < 4) (hz0 : ss k = nI z) (hz6 : z ≤ 60) (hz1 : ss o = nI z2) (hz7 : z2 ≤ 60) (hc : sl k ≠ sl o) : kMi (S := Unit) l yX11_copy wsX11_copy rm_X11_copy_cast D (kT cI cZ cS cP) [.ref hM, .int (nI k), .int i, .int (nI o), .int j, .int w] [(hM, .inr (11, [.int (nI mf), .int (nI mn), .ref m1, .ref m2, .ref m3, .int (nI mb), .int (nI ra), .int (nI rn), .ref m4, .ref m5, .ref m6, .int (nI mw), .ref m7, .ref m8, .int (nI mh), .ref m9, .ref m10, .int (nI mm), .ref m11, .int (nI mr), .ref m12, .ref m13, .ref m14, .ref m15, .ref m16, .ref m17, .ref m18, .int mt])), (m15, .inl (cI, 4, .inl ss)), (m16, .inl (cI, 4, .inl (nA sl)))] (fun r _ => r = ((-10) - (nI 2))) (fun _ => [(hM, .inr (11, [.int (nI 2), .int (nI mn), .ref m1, .ref m2, .ref m3, .int (nI mb), .int (nI ra), .int (nI rn), .ref m4, .ref m5, .ref m6, .int (nI mw), .ref m7, .ref m8, .int (nI mh), .ref m9, .ref m10, .int (nI mm), .ref m11, .int (nI mr), .ref m12, .ref m13, .ref m14, .ref m15, .ref m16, .ref m17, .ref m18, .int mt])), (m15, .inl (cI, 4, .inl ss)), (m16, .inl (cI, 4, .inl (nA sl)))]) := by
  refine kMet_i (cc := cX11_copy) (maxL := 7) (ty := .int) (by decide) rfl (Nat.le_of_ble_eq_true rfl) (fun _ _ _ => rfl) ?_
  intro p e s m args below meth c A Q ls C hlocks hin hN hK hP hD hS hA hl ret
  obtain ⟨hx, hb, hml, hown, hts⟩ := C
  have hl : lv_has ls 7 [(0, .ref hM), (1, .int (nI k)), (2, .int i), (3, .int (nI o)), (4, .int j), (5, .int w)] := hl
  have in_X11 : ∀ w ∈ wsX110, w ∈ wsX11_copy := by decide +kernel
  have lk0 := hts (.fieldLink RX11 53 "SilkWordModel" "sheetSize" "[I") (by decide +kernel)
  have lk1 := hts (.fieldLink RX11 56 "SilkWordModel" "sheetLane" "[I") (by decide +kernel)
  refine lv_iload_n hx hb dX11_copy_0 rfl (lv_at hl 1 rfl) ?_
  refine k_goi (S := Unit) (va_runS (As := [.int (nI k)]) (rest := []) ⟨hx, hb, hml, hown, hts⟩ (c_X11_noSheet l D cI cZ cS cP (nI k)  _) (va_cwS 1 hts gX11_copy_X11_noSheet rfl rfl rfl (by decide +kernel) ⟨Nat.le_of_ble_eq_true rfl, Nat.le_of_ble_eq_true rfl⟩) (kPreS hN hK hP hD [] rfl rfl) rfl rfl hl.1 rfl (lv_room (Nat.le_of_ble_eq_true rfl)) dX11_copy_1 ⟨Nat.le_of_ble_eq_true rfl, Nat.le_of_ble_eq_true rfl⟩) hP hD hS hA [] rfl [] rfl (fun _ => rfl) 3 [0, 1, 2] rfl (fun _u => [(hM, .inr (11, [.int (nI mf), .int (nI mn), .ref m1, .ref m2, .ref m3, .int (nI mb), .int (nI ra), .int (nI rn), .ref m4, .ref m5, .ref m6, .int (nI mw), .ref m7, .ref m8, .int (nI mh), .ref m9, .ref m10, .int (nI mm), .ref m11, .int (nI mr), .ref m12, .ref m13, .ref m14, .ref m15, .ref m16, .ref m17, .ref m18, .int mt])), (m15, .inl (cI, 4, .inl ss)), (m16, .inl (cI, 4, .inl (nA sl)))]) (fun _ => rfl) [(hM, .inr (11, [.int (nI mf), .int (nI mn), .ref m1, .ref m2, .ref m3, .int (nI mb), .int (nI ra), .int (nI rn), .ref m4, .ref m5, .ref m6, .int (nI mw), .ref m7, .ref m8, .int (nI mh), .ref m9, .ref m10, .int (nI mm), .ref m11, .int (nI mr), .ref m12, .ref m13, .ref m14, .ref m15, .ref m16, .ref m17, .ref m18, .int mt])), (m15, .inl (cI, 4, .inl ss)), (m16, .inl (cI, 4, .inl (nA sl)))] [] (fun _ => rfl) rfl (fun _ => rfl) rfl (fun r_1 _u H locs hr_2 hP hD hS => ?_)
  have hP : va_P D vwCl [(hM, .inr (11, [.int (nI mf), .int (nI mn), .ref m1, .ref m2, .ref m3, .int (nI mb), .int (nI ra), .int (nI rn), .ref m4, .ref m5, .ref m6, .int (nI mw), .ref m7, .ref m8, .int (nI mh), .ref m9, .ref m10, .int (nI mm), .ref m11, .int (nI mr), .ref m12, .ref m13, .ref m14, .ref m15, .ref m16, .ref m17, .ref m18, .int mt])), (m15, .inl (cI, 4, .inl ss)), (m16, .inl (cI, 4, .inl (nA sl)))] H := hP
  have hD : va_D A [(hM, .inr (11, [.int (nI mf), .int (nI mn), .ref m1, .ref m2, .ref m3, .int (nI mb), .int (nI ra), .int (nI rn), .ref m4, .ref m5, .ref m6, .int (nI mw), .ref m7, .ref m8, .int (nI mh), .ref m9, .ref m10, .int (nI mm), .ref m11, .int (nI mr), .ref m12, .ref m13, .ref m14, .ref m15, .ref m16, .ref m17, .ref m18, .int mt])), (m15, .inl (cI, 4, .inl ss)), (m16, .inl (cI, 4, .inl (nA sl)))] := hD
  subst hr_2
  refine k_ifn_ne (tgt := 14) hx hb dX11_copy_4 (by decide) (fun c_3 => absurd ((inR_nI (by omega)).mpr (by omega)) c_3) (fun c_3 => ?_)
  refine lv_iload_n hx hb dX11_copy_7 rfl (lv_at hl 3 rfl) ?_
  refine k_goi (S := Unit) (va_runS (As := [.int (nI o)]) (rest := []) ⟨hx, hb, hml, hown, hts⟩ (c_X11_noSheet l D cI cZ cS cP (nI o)  _) (va_cwS 1 hts gX11_copy_X11_noSheet rfl rfl rfl (by decide +kernel) ⟨Nat.le_of_ble_eq_true rfl, Nat.le_of_ble_eq_true rfl⟩) (kPreS hN hK hP hD [] rfl rfl) rfl rfl hl.1 rfl (lv_room (Nat.le_of_ble_eq_true rfl)) dX11_copy_8 ⟨Nat.le_of_ble_eq_true rfl, Nat.le_of_ble_eq_true rfl⟩) hP hD hS hA [] rfl [] rfl (fun _ => rfl) 3 [0, 1, 2] rfl (fun _u => [(hM, .inr (11, [.int (nI mf), .int (nI mn), .ref m1, .ref m2, .ref m3, .int (nI mb), .int (nI ra), .int (nI rn), .ref m4, .ref m5, .ref m6, .int (nI mw), .ref m7, .ref m8, .int (nI mh), .ref m9, .ref m10, .int (nI mm), .ref m11, .int (nI mr), .ref m12, .ref m13, .ref m14, .ref m15, .ref m16, .ref m17, .ref m18, .int mt])), (m15, .inl (cI, 4, .inl ss)), (m16, .inl (cI, 4, .inl (nA sl)))]) (fun _ => rfl) [(hM, .inr (11, [.int (nI mf), .int (nI mn), .ref m1, .ref m2, .ref m3, .int (nI mb), .int (nI ra), .int (nI rn), .ref m4, .ref m5, .ref m6, .int (nI mw), .ref m7, .ref m8, .int (nI mh), .ref m9, .ref m10, .int (nI mm), .ref m11, .int (nI mr), .ref m12, .ref m13, .ref m14, .ref m15, .ref m16, .ref m17, .ref m18, .int mt])), (m15, .inl (cI, 4, .inl ss)), (m16, .inl (cI, 4, .inl (nA sl)))] [] (fun _ => rfl) rfl (fun _ => rfl) rfl (fun r_4 _u H locs hr_5 hP hD hS => ?_)
  have hP : va_P D vwCl [(hM, .inr (11, [.int (nI mf), .int (nI mn), .ref m1, .ref m2, .ref m3, .int (nI mb), .int (nI ra), .int (nI rn), .ref m4, .ref m5, .ref m6, .int (nI mw), .ref m7, .ref m8, .int (nI mh), .ref m9, .ref m10, .int (nI mm), .ref m11, .int (nI mr), .ref m12, .ref m13, .ref m14, .ref m15, .ref m16, .ref m17, .ref m18, .int mt])), (m15, .inl (cI, 4, .inl ss)), (m16, .inl (cI, 4, .inl (nA sl)))] H := hP
  have hD : va_D A [(hM, .inr (11, [.int (nI mf), .int (nI mn), .ref m1, .ref m2, .ref m3, .int (nI mb), .int (nI ra), .int (nI rn), .ref m4, .ref m5, .ref m6, .int (nI mw), .ref m7, .ref m8, .int (nI mh), .ref m9, .ref m10, .int (nI mm), .ref m11, .int (nI mr), .ref m12, .ref m13, .ref m14, .ref m15, .ref m16, .ref m17, .ref m18, .int mt])), (m15, .inl (cI, 4, .inl ss)), (m16, .inl (cI, 4, .inl (nA sl)))] := hD
  subst hr_5
  refine k_ifn_eq (tgt := 20) hx hb dX11_copy_11 (by decide) (fun c_6 => ?_) (fun c_6 => absurd ((inR_nI (by omega)).mpr (by omega)) c_6)
  refine lv_aload_n hx hb dX11_copy_20 rfl (lv_at hl 0 rfl) ?_
  refine va_get (D := D) (ci := 11) (v := .ref m15) (C := RX11) (T := TX11) (N := 28) hx hb hts in_X11 hown hK hP 0 rfl rfl 23 (by decide) lk0 (fun _ h9 => h9) rfl dX11_copy_21 ?_
  refine lv_iload_n hx hb dX11_copy_24 rfl (lv_at hl 1 rfl) ?_
  refine k_iald hx hb hK hP 1 0 rfl rfl (show k < 4 by omega) (by decide) dX11_copy_25 ?_
  refine k_eqi (show (ss k) = (nI z) from hz0) ?_
  refine k_if_lt (tgt := 38) hx hb dX11_copy_26 (by decide) (show z < 2 ^ 31 by first | omega | (split <;> omega)) ?_
  refine lv_aload_n hx hb dX11_copy_29 rfl (lv_at hl 0 rfl) ?_
  refine va_get (D := D) (ci := 11) (v := .ref m15) (C := RX11) (T := TX11) (N := 28) hx hb hts in_X11 hown hK hP 0 rfl rfl 23 (by decide) lk0 (fun _ h9 => h9) rfl dX11_copy_30 ?_
  refine lv_iload_n hx hb dX11_copy_33 rfl (lv_at hl 3 rfl) ?_
  refine k_iald hx hb hK hP 1 0 rfl rfl (show o < 4 by omega) (by decide) dX11_copy_34 ?_
  refine k_eqi (show (ss o) = (nI z2) from hz1) ?_
  refine k_if_ge (tgt := 44) hx hb dX11_copy_35 (by decide) (show z2 < 2 ^ 31 by first | omega | (split <;> omega)) ?_
  refine lv_aload_n hx hb dX11_copy_44 rfl (lv_at hl 0 rfl) ?_
  refine va_get (D := D) (ci := 11) (v := .ref m16) (C := RX11) (T := TX11) (N := 28) hx hb hts in_X11 hown hK hP 0 rfl rfl 24 (by decide) lk1 (fun _ h9 => h9) rfl dX11_copy_45 ?_
  refine lv_iload_n hx hb dX11_copy_48 rfl (lv_at hl 1 rfl) ?_
  refine k_iald hx hb hK hP 2 0 rfl rfl (show k < 4 by omega) (by decide) dX11_copy_49 ?_
  have b_7 := hsl k
  refine lv_aload_n hx hb dX11_copy_50 rfl (lv_at hl 0 rfl) ?_
  refine va_get (D := D) (ci := 11) (v := .ref m16) (C := RX11) (T := TX11) (N := 28) hx hb hts in_X11 hown hK hP 0 rfl rfl 24 (by decide) lk1 (fun _ h9 => h9) rfl dX11_copy_51 ?_
  refine lv_iload_n hx hb dX11_copy_54 rfl (lv_at hl 3 rfl) ?_
  refine k_iald hx hb hK hP 2 0 rfl rfl (show o < 4 by omega) (by decide) dX11_copy_55 ?_
  have b_8 := hsl o
  refine k_icmp_eq (tgt := 65) hx hb dX11_copy_56 (by decide) (show (sl k) < 2 ^ 31 by first | omega | (split <;> omega)) (show (sl o) < 2 ^ 31 by first | omega | (split <;> omega)) (fun c_9 => absurd c_9 (by omega)) (fun c_9 => ?_)
  refine lv_aload_n hx hb dX11_copy_59 rfl (lv_at hl 0 rfl) ?_
  refine lv_iconst (v := (nI 2)) hx hb dX11_copy_60 (by decide) ?_
  refine k_goi (S := Unit) (va_runV (As := [.int (nI 2)]) (rest := []) ⟨hx, hb, hml, hown, hts⟩ (c_X11_failed l D cI cZ cS cP hM m1 m2 m3 m4 m5 m6 m7 m8 m9 m10 m11 m12 m13 m14 m15 m16 m17 m18 mf mn mb ra rn mw mh mm mr mt 2  _) (cwV 1 hts gX11_copy_X11_failed rfl rfl rfl (by decide +kernel) ⟨Nat.le_of_ble_eq_true rfl, Nat.le_of_ble_eq_true rfl⟩) (kPreV hN hK hP hD [0] rfl rfl (q0 := 0) (ci := 11) (q := (RX11, TX11, 28)) rfl rfl) rfl rfl hl.1 rfl (lv_room (Nat.le_of_ble_eq_true rfl)) dX11_copy_61 ⟨Nat.le_of_ble_eq_true rfl, Nat.le_of_ble_eq_true rfl⟩) hP hD hS hA [0] rfl [hM] rfl (fun _ => rfl) 3 [1, 2] rfl (fun _u => [(hM, .inr (11, [.int (nI 2), .int (nI mn), .ref m1, .ref m2, .ref m3, .int (nI mb), .int (nI ra), .int (nI rn), .ref m4, .ref m5, .ref m6, .int (nI mw), .ref m7, .ref m8, .int (nI mh), .ref m9, .ref m10, .int (nI mm), .ref m11, .int (nI mr), .ref m12, .ref m13, .ref m14, .ref m15, .ref m16, .ref m17, .ref m18, .int mt])), (m15, .inl (cI, 4, .inl ss)), (m16, .inl (cI, 4, .inl (nA sl)))]) (fun _ => rfl) [(m15, .inl (cI, 4, .inl ss)), (m16, .inl (cI, 4, .inl (nA sl)))] [] (fun _ => rfl) rfl (fun _ => rfl) rfl (fun r_10 _u H locs hr_11 hP hD hS => ?_)
  have hP : va_P D vwCl [(hM, .inr (11, [.int (nI 2), .int (nI mn), .ref m1, .ref m2, .ref m3, .int (nI mb), .int (nI ra), .int (nI rn), .ref m4, .ref m5, .ref m6, .int (nI mw), .ref m7, .ref m8, .int (nI mh), .ref m9, .ref m10, .int (nI mm), .ref m11, .int (nI mr), .ref m12, .ref m13, .ref m14, .ref m15, .ref m16, .ref m17, .ref m18, .int mt])), (m15, .inl (cI, 4, .inl ss)), (m16, .inl (cI, 4, .inl (nA sl)))] H := hP
  have hD : va_D A [(hM, .inr (11, [.int (nI 2), .int (nI mn), .ref m1, .ref m2, .ref m3, .int (nI mb), .int (nI ra), .int (nI rn), .ref m4, .ref m5, .ref m6, .int (nI mw), .ref m7, .ref m8, .int (nI mh), .ref m9, .ref m10, .int (nI mm), .ref m11, .int (nI mr), .ref m12, .ref m13, .ref m14, .ref m15, .ref m16, .ref m17, .ref m18, .int mt])), (m15, .inl (cI, 4, .inl ss)), (m16, .inl (cI, 4, .inl (nA sl)))] := hD
  subst hr_11
  exact ret _ () _ _ _ _ dX11_copy_64 (rfl) hP hD hS
def rm_X11_copy_i1 : Room := { frames := 2, cells := 0, slots := 0, locals := 45 }
set_option maxHeartbeats 4000000 in
set_option maxRecDepth 100000 in
theorem c_X11_copy_i1 (l : Launch) (D : va_G) (cI cZ cS cP : ClassId) (hM : Nat) (m1 : Nat) (m2 : Nat) (m3 : Nat) (m4 : Nat) (m5 : Nat) (m6 : Nat) (m7 : Nat) (m8 : Nat) (m9 : Nat) (m10 : Nat) (m11 : Nat) (m12 : Nat) (m13 : Nat) (m14 : Nat) (m15 : Nat) (m16 : Nat) (m17 : Nat) (m18 : Nat) (mf : Nat) (mn : Nat) (mb : Nat) (ra : Nat) (rn : Nat) (mw : Nat) (mh : Nat) (mm : Nat) (mr : Nat) (mt : Int32) (ss : Nat → Int32) (sl : Nat → Nat) (k : Nat) (o : Nat) (i : Int32) (j : Int32) (w : Int32) (z : Nat) (z2 : Nat) (hsl : ∀ i, sl i < 3) (hk : k < 4) (ho1 : o < 4) (hz0 : ss k = nI z) (hz6 : z ≤ 60) (hz1 : ss o = nI z2) (hz7 : z2 ≤ 60) (hc : sl k = sl o) (hi1 : ¬ hcs i w z) : kMi (S := Unit) l yX11_copy wsX11_copy rm_X11_copy_i1 D (kT cI cZ cS cP) [.ref hM, .int (nI k), .int i, .int (nI o), .int j, .int w] [(hM, .inr (11, [.int (nI mf), .int (nI mn), .ref m1, .ref m2, .ref m3, .int (nI mb), .int (nI ra), .int (nI rn), .ref m4, .ref m5, .ref m6, .int (nI mw), .ref m7, .ref m8, .int (nI mh), .ref m9, .ref m10, .int (nI mm), .ref m11, .int (nI mr), .ref m12, .ref m13, .ref m14, .ref m15, .ref m16, .ref m17, .ref m18, .int mt])), (m15, .inl (cI, 4, .inl ss)), (m16, .inl (cI, 4, .inl (nA sl)))] (fun r _ => r = ((-10) - (nI 3))) (fun _ => [(hM, .inr (11, [.int (nI 3), .int (nI mn), .ref m1, .ref m2, .ref m3, .int (nI mb), .int (nI ra), .int (nI rn), .ref m4, .ref m5, .ref m6, .int (nI mw), .ref m7, .ref m8, .int (nI mh), .ref m9, .ref m10, .int (nI mm), .ref m11, .int (nI mr), .ref m12, .ref m13, .ref m14, .ref m15, .ref m16, .ref m17, .ref m18, .int mt])), (m15, .inl (cI, 4, .inl ss)), (m16, .inl (cI, 4, .inl (nA sl)))]) := by
  refine kMet_i (cc := cX11_copy) (maxL := 7) (ty := .int) (by decide) rfl (Nat.le_of_ble_eq_true rfl) (fun _ _ _ => rfl) ?_
  intro p e s m args below meth c A Q ls C hlocks hin hN hK hP hD hS hA hl ret
  obtain ⟨hx, hb, hml, hown, hts⟩ := C
  have hl : lv_has ls 7 [(0, .ref hM), (1, .int (nI k)), (2, .int i), (3, .int (nI o)), (4, .int j), (5, .int w)] := hl
  have in_X11 : ∀ w ∈ wsX110, w ∈ wsX11_copy := by decide +kernel
  have lk0 := hts (.fieldLink RX11 53 "SilkWordModel" "sheetSize" "[I") (by decide +kernel)
  have lk1 := hts (.fieldLink RX11 56 "SilkWordModel" "sheetLane" "[I") (by decide +kernel)
  refine lv_iload_n hx hb dX11_copy_0 rfl (lv_at hl 1 rfl) ?_
  refine k_goi (S := Unit) (va_runS (As := [.int (nI k)]) (rest := []) ⟨hx, hb, hml, hown, hts⟩ (c_X11_noSheet l D cI cZ cS cP (nI k)  _) (va_cwS 1 hts gX11_copy_X11_noSheet rfl rfl rfl (by decide +kernel) ⟨Nat.le_of_ble_eq_true rfl, Nat.le_of_ble_eq_true rfl⟩) (kPreS hN hK hP hD [] rfl rfl) rfl rfl hl.1 rfl (lv_room (Nat.le_of_ble_eq_true rfl)) dX11_copy_1 ⟨Nat.le_of_ble_eq_true rfl, Nat.le_of_ble_eq_true rfl⟩) hP hD hS hA [] rfl [] rfl (fun _ => rfl) 3 [0, 1, 2] rfl (fun _u => [(hM, .inr (11, [.int (nI mf), .int (nI mn), .ref m1, .ref m2, .ref m3, .int (nI mb), .int (nI ra), .int (nI rn), .ref m4, .ref m5, .ref m6, .int (nI mw), .ref m7, .ref m8, .int (nI mh), .ref m9, .ref m10, .int (nI mm), .ref m11, .int (nI mr), .ref m12, .ref m13, .ref m14, .ref m15, .ref m16, .ref m17, .ref m18, .int mt])), (m15, .inl (cI, 4, .inl ss)), (m16, .inl (cI, 4, .inl (nA sl)))]) (fun _ => rfl) [(hM, .inr (11, [.int (nI mf), .int (nI mn), .ref m1, .ref m2, .ref m3, .int (nI mb), .int (nI ra), .int (nI rn), .ref m4, .ref m5, .ref m6, .int (nI mw), .ref m7, .ref m8, .int (nI mh), .ref m9, .ref m10, .int (nI mm), .ref m11, .int (nI mr), .ref m12, .ref m13, .ref m14, .ref m15, .ref m16, .ref m17, .ref m18, .int mt])), (m15, .inl (cI, 4, .inl ss)), (m16, .inl (cI, 4, .inl (nA sl)))] [] (fun _ => rfl) rfl (fun _ => rfl) rfl (fun r_1 _u H locs hr_2 hP hD hS => ?_)
  have hP : va_P D vwCl [(hM, .inr (11, [.int (nI mf), .int (nI mn), .ref m1, .ref m2, .ref m3, .int (nI mb), .int (nI ra), .int (nI rn), .ref m4, .ref m5, .ref m6, .int (nI mw), .ref m7, .ref m8, .int (nI mh), .ref m9, .ref m10, .int (nI mm), .ref m11, .int (nI mr), .ref m12, .ref m13, .ref m14, .ref m15, .ref m16, .ref m17, .ref m18, .int mt])), (m15, .inl (cI, 4, .inl ss)), (m16, .inl (cI, 4, .inl (nA sl)))] H := hP
  have hD : va_D A [(hM, .inr (11, [.int (nI mf), .int (nI mn), .ref m1, .ref m2, .ref m3, .int (nI mb), .int (nI ra), .int (nI rn), .ref m4, .ref m5, .ref m6, .int (nI mw), .ref m7, .ref m8, .int (nI mh), .ref m9, .ref m10, .int (nI mm), .ref m11, .int (nI mr), .ref m12, .ref m13, .ref m14, .ref m15, .ref m16, .ref m17, .ref m18, .int mt])), (m15, .inl (cI, 4, .inl ss)), (m16, .inl (cI, 4, .inl (nA sl)))] := hD
  subst hr_2
  refine k_ifn_ne (tgt := 14) hx hb dX11_copy_4 (by decide) (fun c_3 => absurd ((inR_nI (by omega)).mpr (by omega)) c_3) (fun c_3 => ?_)
  refine lv_iload_n hx hb dX11_copy_7 rfl (lv_at hl 3 rfl) ?_
  refine k_goi (S := Unit) (va_runS (As := [.int (nI o)]) (rest := []) ⟨hx, hb, hml, hown, hts⟩ (c_X11_noSheet l D cI cZ cS cP (nI o)  _) (va_cwS 1 hts gX11_copy_X11_noSheet rfl rfl rfl (by decide +kernel) ⟨Nat.le_of_ble_eq_true rfl, Nat.le_of_ble_eq_true rfl⟩) (kPreS hN hK hP hD [] rfl rfl) rfl rfl hl.1 rfl (lv_room (Nat.le_of_ble_eq_true rfl)) dX11_copy_8 ⟨Nat.le_of_ble_eq_true rfl, Nat.le_of_ble_eq_true rfl⟩) hP hD hS hA [] rfl [] rfl (fun _ => rfl) 3 [0, 1, 2] rfl (fun _u => [(hM, .inr (11, [.int (nI mf), .int (nI mn), .ref m1, .ref m2, .ref m3, .int (nI mb), .int (nI ra), .int (nI rn), .ref m4, .ref m5, .ref m6, .int (nI mw), .ref m7, .ref m8, .int (nI mh), .ref m9, .ref m10, .int (nI mm), .ref m11, .int (nI mr), .ref m12, .ref m13, .ref m14, .ref m15, .ref m16, .ref m17, .ref m18, .int mt])), (m15, .inl (cI, 4, .inl ss)), (m16, .inl (cI, 4, .inl (nA sl)))]) (fun _ => rfl) [(hM, .inr (11, [.int (nI mf), .int (nI mn), .ref m1, .ref m2, .ref m3, .int (nI mb), .int (nI ra), .int (nI rn), .ref m4, .ref m5, .ref m6, .int (nI mw), .ref m7, .ref m8, .int (nI mh), .ref m9, .ref m10, .int (nI mm), .ref m11, .int (nI mr), .ref m12, .ref m13, .ref m14, .ref m15, .ref m16, .ref m17, .ref m18, .int mt])), (m15, .inl (cI, 4, .inl ss)), (m16, .inl (cI, 4, .inl (nA sl)))] [] (fun _ => rfl) rfl (fun _ => rfl) rfl (fun r_4 _u H locs hr_5 hP hD hS => ?_)
  have hP : va_P D vwCl [(hM, .inr (11, [.int (nI mf), .int (nI mn), .ref m1, .ref m2, .ref m3, .int (nI mb), .int (nI ra), .int (nI rn), .ref m4, .ref m5, .ref m6, .int (nI mw), .ref m7, .ref m8, .int (nI mh), .ref m9, .ref m10, .int (nI mm), .ref m11, .int (nI mr), .ref m12, .ref m13, .ref m14, .ref m15, .ref m16, .ref m17, .ref m18, .int mt])), (m15, .inl (cI, 4, .inl ss)), (m16, .inl (cI, 4, .inl (nA sl)))] H := hP
  have hD : va_D A [(hM, .inr (11, [.int (nI mf), .int (nI mn), .ref m1, .ref m2, .ref m3, .int (nI mb), .int (nI ra), .int (nI rn), .ref m4, .ref m5, .ref m6, .int (nI mw), .ref m7, .ref m8, .int (nI mh), .ref m9, .ref m10, .int (nI mm), .ref m11, .int (nI mr), .ref m12, .ref m13, .ref m14, .ref m15, .ref m16, .ref m17, .ref m18, .int mt])), (m15, .inl (cI, 4, .inl ss)), (m16, .inl (cI, 4, .inl (nA sl)))] := hD
  subst hr_5
  refine k_ifn_eq (tgt := 20) hx hb dX11_copy_11 (by decide) (fun c_6 => ?_) (fun c_6 => absurd ((inR_nI (by omega)).mpr (by omega)) c_6)
  refine lv_aload_n hx hb dX11_copy_20 rfl (lv_at hl 0 rfl) ?_
  refine va_get (D := D) (ci := 11) (v := .ref m15) (C := RX11) (T := TX11) (N := 28) hx hb hts in_X11 hown hK hP 0 rfl rfl 23 (by decide) lk0 (fun _ h9 => h9) rfl dX11_copy_21 ?_
  refine lv_iload_n hx hb dX11_copy_24 rfl (lv_at hl 1 rfl) ?_
  refine k_iald hx hb hK hP 1 0 rfl rfl (show k < 4 by omega) (by decide) dX11_copy_25 ?_
  refine k_eqi (show (ss k) = (nI z) from hz0) ?_
  refine k_if_lt (tgt := 38) hx hb dX11_copy_26 (by decide) (show z < 2 ^ 31 by first | omega | (split <;> omega)) ?_
  refine lv_aload_n hx hb dX11_copy_29 rfl (lv_at hl 0 rfl) ?_
  refine va_get (D := D) (ci := 11) (v := .ref m15) (C := RX11) (T := TX11) (N := 28) hx hb hts in_X11 hown hK hP 0 rfl rfl 23 (by decide) lk0 (fun _ h9 => h9) rfl dX11_copy_30 ?_
  refine lv_iload_n hx hb dX11_copy_33 rfl (lv_at hl 3 rfl) ?_
  refine k_iald hx hb hK hP 1 0 rfl rfl (show o < 4 by omega) (by decide) dX11_copy_34 ?_
  refine k_eqi (show (ss o) = (nI z2) from hz1) ?_
  refine k_if_ge (tgt := 44) hx hb dX11_copy_35 (by decide) (show z2 < 2 ^ 31 by first | omega | (split <;> omega)) ?_
  refine lv_aload_n hx hb dX11_copy_44 rfl (lv_at hl 0 rfl) ?_
  refine va_get (D := D) (ci := 11) (v := .ref m16) (C := RX11) (T := TX11) (N := 28) hx hb hts in_X11 hown hK hP 0 rfl rfl 24 (by decide) lk1 (fun _ h9 => h9) rfl dX11_copy_45 ?_
  refine lv_iload_n hx hb dX11_copy_48 rfl (lv_at hl 1 rfl) ?_
  refine k_iald hx hb hK hP 2 0 rfl rfl (show k < 4 by omega) (by decide) dX11_copy_49 ?_
  have b_7 := hsl k
  refine lv_aload_n hx hb dX11_copy_50 rfl (lv_at hl 0 rfl) ?_
  refine va_get (D := D) (ci := 11) (v := .ref m16) (C := RX11) (T := TX11) (N := 28) hx hb hts in_X11 hown hK hP 0 rfl rfl 24 (by decide) lk1 (fun _ h9 => h9) rfl dX11_copy_51 ?_
  refine lv_iload_n hx hb dX11_copy_54 rfl (lv_at hl 3 rfl) ?_
  refine k_iald hx hb hK hP 2 0 rfl rfl (show o < 4 by omega) (by decide) dX11_copy_55 ?_
  have b_8 := hsl o
  refine k_icmp_eq (tgt := 65) hx hb dX11_copy_56 (by decide) (show (sl k) < 2 ^ 31 by first | omega | (split <;> omega)) (show (sl o) < 2 ^ 31 by first | omega | (split <;> omega)) (fun c_9 => ?_) (fun c_9 => absurd c_9 (by omega))
  refine lv_iload_n hx hb dX11_copy_65 rfl (lv_at hl 2 rfl) ?_
  refine lv_iload hx hb dX11_copy_66 (lv_at hl 5 rfl) ?_
  refine lv_i2l (v := w.toInt64) hx hb dX11_copy_68 (rfl) ?_
  refine lv_aload_n hx hb dX11_copy_69 rfl (lv_at hl 0 rfl) ?_
  refine va_get (D := D) (ci := 11) (v := .ref m15) (C := RX11) (T := TX11) (N := 28) hx hb hts in_X11 hown hK hP 0 rfl rfl 23 (by decide) lk0 (fun _ h9 => h9) rfl dX11_copy_70 ?_
  refine lv_iload_n hx hb dX11_copy_73 rfl (lv_at hl 1 rfl) ?_
  refine k_iald hx hb hK hP 1 0 rfl rfl (show k < 4 by omega) (by decide) dX11_copy_74 ?_
  refine k_eqi (show (ss k) = (nI z) from hz0) ?_
  refine k_goi (S := Unit) (va_runS (As := [.int i, .long w.toInt64, .int (nI z)]) (rest := []) ⟨hx, hb, hml, hown, hts⟩ (c_X11_isBeyond_r l D cI cZ cS cP i w z (by first | assumption | omega) _) (va_cwS 3 hts gX11_copy_X11_isBeyond rfl rfl rfl (by decide +kernel) ⟨Nat.le_of_ble_eq_true rfl, Nat.le_of_ble_eq_true rfl⟩) (kPreS hN hK hP hD [] rfl rfl) rfl rfl hl.1 rfl (lv_room (Nat.le_of_ble_eq_true rfl)) dX11_copy_75 ⟨Nat.le_of_ble_eq_true rfl, Nat.le_of_ble_eq_true rfl⟩) hP hD hS hA [] rfl [] rfl (fun _ => rfl) 3 [0, 1, 2] rfl (fun _u => [(hM, .inr (11, [.int (nI mf), .int (nI mn), .ref m1, .ref m2, .ref m3, .int (nI mb), .int (nI ra), .int (nI rn), .ref m4, .ref m5, .ref m6, .int (nI mw), .ref m7, .ref m8, .int (nI mh), .ref m9, .ref m10, .int (nI mm), .ref m11, .int (nI mr), .ref m12, .ref m13, .ref m14, .ref m15, .ref m16, .ref m17, .ref m18, .int mt])), (m15, .inl (cI, 4, .inl ss)), (m16, .inl (cI, 4, .inl (nA sl)))]) (fun _ => rfl) [(hM, .inr (11, [.int (nI mf), .int (nI mn), .ref m1, .ref m2, .ref m3, .int (nI mb), .int (nI ra), .int (nI rn), .ref m4, .ref m5, .ref m6, .int (nI mw), .ref m7, .ref m8, .int (nI mh), .ref m9, .ref m10, .int (nI mm), .ref m11, .int (nI mr), .ref m12, .ref m13, .ref m14, .ref m15, .ref m16, .ref m17, .ref m18, .int mt])), (m15, .inl (cI, 4, .inl ss)), (m16, .inl (cI, 4, .inl (nA sl)))] [] (fun _ => rfl) rfl (fun _ => rfl) rfl (fun r_10 _u H locs hr_11 hP hD hS => ?_)
  have hP : va_P D vwCl [(hM, .inr (11, [.int (nI mf), .int (nI mn), .ref m1, .ref m2, .ref m3, .int (nI mb), .int (nI ra), .int (nI rn), .ref m4, .ref m5, .ref m6, .int (nI mw), .ref m7, .ref m8, .int (nI mh), .ref m9, .ref m10, .int (nI mm), .ref m11, .int (nI mr), .ref m12, .ref m13, .ref m14, .ref m15, .ref m16, .ref m17, .ref m18, .int mt])), (m15, .inl (cI, 4, .inl ss)), (m16, .inl (cI, 4, .inl (nA sl)))] H := hP
  have hD : va_D A [(hM, .inr (11, [.int (nI mf), .int (nI mn), .ref m1, .ref m2, .ref m3, .int (nI mb), .int (nI ra), .int (nI rn), .ref m4, .ref m5, .ref m6, .int (nI mw), .ref m7, .ref m8, .int (nI mh), .ref m9, .ref m10, .int (nI mm), .ref m11, .int (nI mr), .ref m12, .ref m13, .ref m14, .ref m15, .ref m16, .ref m17, .ref m18, .int mt])), (m15, .inl (cI, 4, .inl ss)), (m16, .inl (cI, 4, .inl (nA sl)))] := hD
  subst hr_11
  refine k_ifn_ne (tgt := 98) hx hb dX11_copy_78 (by decide) (fun c_12 => ?_) (fun c_12 => absurd c_12 (hi1))
  refine lv_aload_n hx hb dX11_copy_98 rfl (lv_at hl 0 rfl) ?_
  refine lv_iconst (v := (nI 3)) hx hb dX11_copy_99 (by decide) ?_
  refine k_goi (S := Unit) (va_runV (As := [.int (nI 3)]) (rest := []) ⟨hx, hb, hml, hown, hts⟩ (c_X11_failed l D cI cZ cS cP hM m1 m2 m3 m4 m5 m6 m7 m8 m9 m10 m11 m12 m13 m14 m15 m16 m17 m18 mf mn mb ra rn mw mh mm mr mt 3  _) (cwV 1 hts gX11_copy_X11_failed rfl rfl rfl (by decide +kernel) ⟨Nat.le_of_ble_eq_true rfl, Nat.le_of_ble_eq_true rfl⟩) (kPreV hN hK hP hD [0] rfl rfl (q0 := 0) (ci := 11) (q := (RX11, TX11, 28)) rfl rfl) rfl rfl hl.1 rfl (lv_room (Nat.le_of_ble_eq_true rfl)) dX11_copy_100 ⟨Nat.le_of_ble_eq_true rfl, Nat.le_of_ble_eq_true rfl⟩) hP hD hS hA [0] rfl [hM] rfl (fun _ => rfl) 3 [1, 2] rfl (fun _u => [(hM, .inr (11, [.int (nI 3), .int (nI mn), .ref m1, .ref m2, .ref m3, .int (nI mb), .int (nI ra), .int (nI rn), .ref m4, .ref m5, .ref m6, .int (nI mw), .ref m7, .ref m8, .int (nI mh), .ref m9, .ref m10, .int (nI mm), .ref m11, .int (nI mr), .ref m12, .ref m13, .ref m14, .ref m15, .ref m16, .ref m17, .ref m18, .int mt])), (m15, .inl (cI, 4, .inl ss)), (m16, .inl (cI, 4, .inl (nA sl)))]) (fun _ => rfl) [(m15, .inl (cI, 4, .inl ss)), (m16, .inl (cI, 4, .inl (nA sl)))] [] (fun _ => rfl) rfl (fun _ => rfl) rfl (fun r_13 _u H locs hr_14 hP hD hS => ?_)
  have hP : va_P D vwCl [(hM, .inr (11, [.int (nI 3), .int (nI mn), .ref m1, .ref m2, .ref m3, .int (nI mb), .int (nI ra), .int (nI rn), .ref m4, .ref m5, .ref m6, .int (nI mw), .ref m7, .ref m8, .int (nI mh), .ref m9, .ref m10, .int (nI mm), .ref m11, .int (nI mr), .ref m12, .ref m13, .ref m14, .ref m15, .ref m16, .ref m17, .ref m18, .int mt])), (m15, .inl (cI, 4, .inl ss)), (m16, .inl (cI, 4, .inl (nA sl)))] H := hP
  have hD : va_D A [(hM, .inr (11, [.int (nI 3), .int (nI mn), .ref m1, .ref m2, .ref m3, .int (nI mb), .int (nI ra), .int (nI rn), .ref m4, .ref m5, .ref m6, .int (nI mw), .ref m7, .ref m8, .int (nI mh), .ref m9, .ref m10, .int (nI mm), .ref m11, .int (nI mr), .ref m12, .ref m13, .ref m14, .ref m15, .ref m16, .ref m17, .ref m18, .int mt])), (m15, .inl (cI, 4, .inl ss)), (m16, .inl (cI, 4, .inl (nA sl)))] := hD
  subst hr_14
  exact ret _ () _ _ _ _ dX11_copy_103 (rfl) hP hD hS
def rm_X11_copy_i2 : Room := { frames := 2, cells := 0, slots := 0, locals := 45 }
set_option maxHeartbeats 4000000 in
set_option maxRecDepth 100000 in
theorem c_X11_copy_i2 (l : Launch) (D : va_G) (cI cZ cS cP : ClassId) (hM : Nat) (m1 : Nat) (m2 : Nat) (m3 : Nat) (m4 : Nat) (m5 : Nat) (m6 : Nat) (m7 : Nat) (m8 : Nat) (m9 : Nat) (m10 : Nat) (m11 : Nat) (m12 : Nat) (m13 : Nat) (m14 : Nat) (m15 : Nat) (m16 : Nat) (m17 : Nat) (m18 : Nat) (mf : Nat) (mn : Nat) (mb : Nat) (ra : Nat) (rn : Nat) (mw : Nat) (mh : Nat) (mm : Nat) (mr : Nat) (mt : Int32) (ss : Nat → Int32) (sl : Nat → Nat) (k : Nat) (o : Nat) (i : Int32) (j : Int32) (w : Int32) (z : Nat) (z2 : Nat) (hsl : ∀ i, sl i < 3) (hk : k < 4) (ho1 : o < 4) (hz0 : ss k = nI z) (hz6 : z ≤ 60) (hz1 : ss o = nI z2) (hz7 : z2 ≤ 60) (hc : sl k = sl o) (hi1 : hcs i w z) (hi2 : ¬ hcs j w z2) : kMi (S := Unit) l yX11_copy wsX11_copy rm_X11_copy_i2 D (kT cI cZ cS cP) [.ref hM, .int (nI k), .int i, .int (nI o), .int j, .int w] [(hM, .inr (11, [.int (nI mf), .int (nI mn), .ref m1, .ref m2, .ref m3, .int (nI mb), .int (nI ra), .int (nI rn), .ref m4, .ref m5, .ref m6, .int (nI mw), .ref m7, .ref m8, .int (nI mh), .ref m9, .ref m10, .int (nI mm), .ref m11, .int (nI mr), .ref m12, .ref m13, .ref m14, .ref m15, .ref m16, .ref m17, .ref m18, .int mt])), (m15, .inl (cI, 4, .inl ss)), (m16, .inl (cI, 4, .inl (nA sl)))] (fun r _ => r = ((-10) - (nI 3))) (fun _ => [(hM, .inr (11, [.int (nI 3), .int (nI mn), .ref m1, .ref m2, .ref m3, .int (nI mb), .int (nI ra), .int (nI rn), .ref m4, .ref m5, .ref m6, .int (nI mw), .ref m7, .ref m8, .int (nI mh), .ref m9, .ref m10, .int (nI mm), .ref m11, .int (nI mr), .ref m12, .ref m13, .ref m14, .ref m15, .ref m16, .ref m17, .ref m18, .int mt])), (m15, .inl (cI, 4, .inl ss)), (m16, .inl (cI, 4, .inl (nA sl)))]) := by
  refine kMet_i (cc := cX11_copy) (maxL := 7) (ty := .int) (by decide) rfl (Nat.le_of_ble_eq_true rfl) (fun _ _ _ => rfl) ?_
  intro p e s m args below meth c A Q ls C hlocks hin hN hK hP hD hS hA hl ret
  obtain ⟨hx, hb, hml, hown, hts⟩ := C
  have hl : lv_has ls 7 [(0, .ref hM), (1, .int (nI k)), (2, .int i), (3, .int (nI o)), (4, .int j), (5, .int w)] := hl
  have in_X11 : ∀ w ∈ wsX110, w ∈ wsX11_copy := by decide +kernel
  have lk0 := hts (.fieldLink RX11 53 "SilkWordModel" "sheetSize" "[I") (by decide +kernel)
  have lk1 := hts (.fieldLink RX11 56 "SilkWordModel" "sheetLane" "[I") (by decide +kernel)
  refine lv_iload_n hx hb dX11_copy_0 rfl (lv_at hl 1 rfl) ?_
  refine k_goi (S := Unit) (va_runS (As := [.int (nI k)]) (rest := []) ⟨hx, hb, hml, hown, hts⟩ (c_X11_noSheet l D cI cZ cS cP (nI k)  _) (va_cwS 1 hts gX11_copy_X11_noSheet rfl rfl rfl (by decide +kernel) ⟨Nat.le_of_ble_eq_true rfl, Nat.le_of_ble_eq_true rfl⟩) (kPreS hN hK hP hD [] rfl rfl) rfl rfl hl.1 rfl (lv_room (Nat.le_of_ble_eq_true rfl)) dX11_copy_1 ⟨Nat.le_of_ble_eq_true rfl, Nat.le_of_ble_eq_true rfl⟩) hP hD hS hA [] rfl [] rfl (fun _ => rfl) 3 [0, 1, 2] rfl (fun _u => [(hM, .inr (11, [.int (nI mf), .int (nI mn), .ref m1, .ref m2, .ref m3, .int (nI mb), .int (nI ra), .int (nI rn), .ref m4, .ref m5, .ref m6, .int (nI mw), .ref m7, .ref m8, .int (nI mh), .ref m9, .ref m10, .int (nI mm), .ref m11, .int (nI mr), .ref m12, .ref m13, .ref m14, .ref m15, .ref m16, .ref m17, .ref m18, .int mt])), (m15, .inl (cI, 4, .inl ss)), (m16, .inl (cI, 4, .inl (nA sl)))]) (fun _ => rfl) [(hM, .inr (11, [.int (nI mf), .int (nI mn), .ref m1, .ref m2, .ref m3, .int (nI mb), .int (nI ra), .int (nI rn), .ref m4, .ref m5, .ref m6, .int (nI mw), .ref m7, .ref m8, .int (nI mh), .ref m9, .ref m10, .int (nI mm), .ref m11, .int (nI mr), .ref m12, .ref m13, .ref m14, .ref m15, .ref m16, .ref m17, .ref m18, .int mt])), (m15, .inl (cI, 4, .inl ss)), (m16, .inl (cI, 4, .inl (nA sl)))] [] (fun _ => rfl) rfl (fun _ => rfl) rfl (fun r_1 _u H locs hr_2 hP hD hS => ?_)
  have hP : va_P D vwCl [(hM, .inr (11, [.int (nI mf), .int (nI mn), .ref m1, .ref m2, .ref m3, .int (nI mb), .int (nI ra), .int (nI rn), .ref m4, .ref m5, .ref m6, .int (nI mw), .ref m7, .ref m8, .int (nI mh), .ref m9, .ref m10, .int (nI mm), .ref m11, .int (nI mr), .ref m12, .ref m13, .ref m14, .ref m15, .ref m16, .ref m17, .ref m18, .int mt])), (m15, .inl (cI, 4, .inl ss)), (m16, .inl (cI, 4, .inl (nA sl)))] H := hP
  have hD : va_D A [(hM, .inr (11, [.int (nI mf), .int (nI mn), .ref m1, .ref m2, .ref m3, .int (nI mb), .int (nI ra), .int (nI rn), .ref m4, .ref m5, .ref m6, .int (nI mw), .ref m7, .ref m8, .int (nI mh), .ref m9, .ref m10, .int (nI mm), .ref m11, .int (nI mr), .ref m12, .ref m13, .ref m14, .ref m15, .ref m16, .ref m17, .ref m18, .int mt])), (m15, .inl (cI, 4, .inl ss)), (m16, .inl (cI, 4, .inl (nA sl)))] := hD
  subst hr_2
  refine k_ifn_ne (tgt := 14) hx hb dX11_copy_4 (by decide) (fun c_3 => absurd ((inR_nI (by omega)).mpr (by omega)) c_3) (fun c_3 => ?_)
  refine lv_iload_n hx hb dX11_copy_7 rfl (lv_at hl 3 rfl) ?_
  refine k_goi (S := Unit) (va_runS (As := [.int (nI o)]) (rest := []) ⟨hx, hb, hml, hown, hts⟩ (c_X11_noSheet l D cI cZ cS cP (nI o)  _) (va_cwS 1 hts gX11_copy_X11_noSheet rfl rfl rfl (by decide +kernel) ⟨Nat.le_of_ble_eq_true rfl, Nat.le_of_ble_eq_true rfl⟩) (kPreS hN hK hP hD [] rfl rfl) rfl rfl hl.1 rfl (lv_room (Nat.le_of_ble_eq_true rfl)) dX11_copy_8 ⟨Nat.le_of_ble_eq_true rfl, Nat.le_of_ble_eq_true rfl⟩) hP hD hS hA [] rfl [] rfl (fun _ => rfl) 3 [0, 1, 2] rfl (fun _u => [(hM, .inr (11, [.int (nI mf), .int (nI mn), .ref m1, .ref m2, .ref m3, .int (nI mb), .int (nI ra), .int (nI rn), .ref m4, .ref m5, .ref m6, .int (nI mw), .ref m7, .ref m8, .int (nI mh), .ref m9, .ref m10, .int (nI mm), .ref m11, .int (nI mr), .ref m12, .ref m13, .ref m14, .ref m15, .ref m16, .ref m17, .ref m18, .int mt])), (m15, .inl (cI, 4, .inl ss)), (m16, .inl (cI, 4, .inl (nA sl)))]) (fun _ => rfl) [(hM, .inr (11, [.int (nI mf), .int (nI mn), .ref m1, .ref m2, .ref m3, .int (nI mb), .int (nI ra), .int (nI rn), .ref m4, .ref m5, .ref m6, .int (nI mw), .ref m7, .ref m8, .int (nI mh), .ref m9, .ref m10, .int (nI mm), .ref m11, .int (nI mr), .ref m12, .ref m13, .ref m14, .ref m15, .ref m16, .ref m17, .ref m18, .int mt])), (m15, .inl (cI, 4, .inl ss)), (m16, .inl (cI, 4, .inl (nA sl)))] [] (fun _ => rfl) rfl (fun _ => rfl) rfl (fun r_4 _u H locs hr_5 hP hD hS => ?_)
  have hP : va_P D vwCl [(hM, .inr (11, [.int (nI mf), .int (nI mn), .ref m1, .ref m2, .ref m3, .int (nI mb), .int (nI ra), .int (nI rn), .ref m4, .ref m5, .ref m6, .int (nI mw), .ref m7, .ref m8, .int (nI mh), .ref m9, .ref m10, .int (nI mm), .ref m11, .int (nI mr), .ref m12, .ref m13, .ref m14, .ref m15, .ref m16, .ref m17, .ref m18, .int mt])), (m15, .inl (cI, 4, .inl ss)), (m16, .inl (cI, 4, .inl (nA sl)))] H := hP
  have hD : va_D A [(hM, .inr (11, [.int (nI mf), .int (nI mn), .ref m1, .ref m2, .ref m3, .int (nI mb), .int (nI ra), .int (nI rn), .ref m4, .ref m5, .ref m6, .int (nI mw), .ref m7, .ref m8, .int (nI mh), .ref m9, .ref m10, .int (nI mm), .ref m11, .int (nI mr), .ref m12, .ref m13, .ref m14, .ref m15, .ref m16, .ref m17, .ref m18, .int mt])), (m15, .inl (cI, 4, .inl ss)), (m16, .inl (cI, 4, .inl (nA sl)))] := hD
  subst hr_5
  refine k_ifn_eq (tgt := 20) hx hb dX11_copy_11 (by decide) (fun c_6 => ?_) (fun c_6 => absurd ((inR_nI (by omega)).mpr (by omega)) c_6)
  refine lv_aload_n hx hb dX11_copy_20 rfl (lv_at hl 0 rfl) ?_
  refine va_get (D := D) (ci := 11) (v := .ref m15) (C := RX11) (T := TX11) (N := 28) hx hb hts in_X11 hown hK hP 0 rfl rfl 23 (by decide) lk0 (fun _ h9 => h9) rfl dX11_copy_21 ?_
  refine lv_iload_n hx hb dX11_copy_24 rfl (lv_at hl 1 rfl) ?_
  refine k_iald hx hb hK hP 1 0 rfl rfl (show k < 4 by omega) (by decide) dX11_copy_25 ?_
  refine k_eqi (show (ss k) = (nI z) from hz0) ?_
  refine k_if_lt (tgt := 38) hx hb dX11_copy_26 (by decide) (show z < 2 ^ 31 by first | omega | (split <;> omega)) ?_
  refine lv_aload_n hx hb dX11_copy_29 rfl (lv_at hl 0 rfl) ?_
  refine va_get (D := D) (ci := 11) (v := .ref m15) (C := RX11) (T := TX11) (N := 28) hx hb hts in_X11 hown hK hP 0 rfl rfl 23 (by decide) lk0 (fun _ h9 => h9) rfl dX11_copy_30 ?_
  refine lv_iload_n hx hb dX11_copy_33 rfl (lv_at hl 3 rfl) ?_
  refine k_iald hx hb hK hP 1 0 rfl rfl (show o < 4 by omega) (by decide) dX11_copy_34 ?_
  refine k_eqi (show (ss o) = (nI z2) from hz1) ?_
  refine k_if_ge (tgt := 44) hx hb dX11_copy_35 (by decide) (show z2 < 2 ^ 31 by first | omega | (split <;> omega)) ?_
  refine lv_aload_n hx hb dX11_copy_44 rfl (lv_at hl 0 rfl) ?_
  refine va_get (D := D) (ci := 11) (v := .ref m16) (C := RX11) (T := TX11) (N := 28) hx hb hts in_X11 hown hK hP 0 rfl rfl 24 (by decide) lk1 (fun _ h9 => h9) rfl dX11_copy_45 ?_
  refine lv_iload_n hx hb dX11_copy_48 rfl (lv_at hl 1 rfl) ?_
  refine k_iald hx hb hK hP 2 0 rfl rfl (show k < 4 by omega) (by decide) dX11_copy_49 ?_
  have b_7 := hsl k
  refine lv_aload_n hx hb dX11_copy_50 rfl (lv_at hl 0 rfl) ?_
  refine va_get (D := D) (ci := 11) (v := .ref m16) (C := RX11) (T := TX11) (N := 28) hx hb hts in_X11 hown hK hP 0 rfl rfl 24 (by decide) lk1 (fun _ h9 => h9) rfl dX11_copy_51 ?_
  refine lv_iload_n hx hb dX11_copy_54 rfl (lv_at hl 3 rfl) ?_
  refine k_iald hx hb hK hP 2 0 rfl rfl (show o < 4 by omega) (by decide) dX11_copy_55 ?_
  have b_8 := hsl o
  refine k_icmp_eq (tgt := 65) hx hb dX11_copy_56 (by decide) (show (sl k) < 2 ^ 31 by first | omega | (split <;> omega)) (show (sl o) < 2 ^ 31 by first | omega | (split <;> omega)) (fun c_9 => ?_) (fun c_9 => absurd c_9 (by omega))
  refine lv_iload_n hx hb dX11_copy_65 rfl (lv_at hl 2 rfl) ?_
  refine lv_iload hx hb dX11_copy_66 (lv_at hl 5 rfl) ?_
  refine lv_i2l (v := w.toInt64) hx hb dX11_copy_68 (rfl) ?_
  refine lv_aload_n hx hb dX11_copy_69 rfl (lv_at hl 0 rfl) ?_
  refine va_get (D := D) (ci := 11) (v := .ref m15) (C := RX11) (T := TX11) (N := 28) hx hb hts in_X11 hown hK hP 0 rfl rfl 23 (by decide) lk0 (fun _ h9 => h9) rfl dX11_copy_70 ?_
  refine lv_iload_n hx hb dX11_copy_73 rfl (lv_at hl 1 rfl) ?_
  refine k_iald hx hb hK hP 1 0 rfl rfl (show k < 4 by omega) (by decide) dX11_copy_74 ?_
  refine k_eqi (show (ss k) = (nI z) from hz0) ?_
  refine k_goi (S := Unit) (va_runS (As := [.int i, .long w.toInt64, .int (nI z)]) (rest := []) ⟨hx, hb, hml, hown, hts⟩ (c_X11_isBeyond_r l D cI cZ cS cP i w z (by first | assumption | omega) _) (va_cwS 3 hts gX11_copy_X11_isBeyond rfl rfl rfl (by decide +kernel) ⟨Nat.le_of_ble_eq_true rfl, Nat.le_of_ble_eq_true rfl⟩) (kPreS hN hK hP hD [] rfl rfl) rfl rfl hl.1 rfl (lv_room (Nat.le_of_ble_eq_true rfl)) dX11_copy_75 ⟨Nat.le_of_ble_eq_true rfl, Nat.le_of_ble_eq_true rfl⟩) hP hD hS hA [] rfl [] rfl (fun _ => rfl) 3 [0, 1, 2] rfl (fun _u => [(hM, .inr (11, [.int (nI mf), .int (nI mn), .ref m1, .ref m2, .ref m3, .int (nI mb), .int (nI ra), .int (nI rn), .ref m4, .ref m5, .ref m6, .int (nI mw), .ref m7, .ref m8, .int (nI mh), .ref m9, .ref m10, .int (nI mm), .ref m11, .int (nI mr), .ref m12, .ref m13, .ref m14, .ref m15, .ref m16, .ref m17, .ref m18, .int mt])), (m15, .inl (cI, 4, .inl ss)), (m16, .inl (cI, 4, .inl (nA sl)))]) (fun _ => rfl) [(hM, .inr (11, [.int (nI mf), .int (nI mn), .ref m1, .ref m2, .ref m3, .int (nI mb), .int (nI ra), .int (nI rn), .ref m4, .ref m5, .ref m6, .int (nI mw), .ref m7, .ref m8, .int (nI mh), .ref m9, .ref m10, .int (nI mm), .ref m11, .int (nI mr), .ref m12, .ref m13, .ref m14, .ref m15, .ref m16, .ref m17, .ref m18, .int mt])), (m15, .inl (cI, 4, .inl ss)), (m16, .inl (cI, 4, .inl (nA sl)))] [] (fun _ => rfl) rfl (fun _ => rfl) rfl (fun r_10 _u H locs hr_11 hP hD hS => ?_)
  have hP : va_P D vwCl [(hM, .inr (11, [.int (nI mf), .int (nI mn), .ref m1, .ref m2, .ref m3, .int (nI mb), .int (nI ra), .int (nI rn), .ref m4, .ref m5, .ref m6, .int (nI mw), .ref m7, .ref m8, .int (nI mh), .ref m9, .ref m10, .int (nI mm), .ref m11, .int (nI mr), .ref m12, .ref m13, .ref m14, .ref m15, .ref m16, .ref m17, .ref m18, .int mt])), (m15, .inl (cI, 4, .inl ss)), (m16, .inl (cI, 4, .inl (nA sl)))] H := hP
  have hD : va_D A [(hM, .inr (11, [.int (nI mf), .int (nI mn), .ref m1, .ref m2, .ref m3, .int (nI mb), .int (nI ra), .int (nI rn), .ref m4, .ref m5, .ref m6, .int (nI mw), .ref m7, .ref m8, .int (nI mh), .ref m9, .ref m10, .int (nI mm), .ref m11, .int (nI mr), .ref m12, .ref m13, .ref m14, .ref m15, .ref m16, .ref m17, .ref m18, .int mt])), (m15, .inl (cI, 4, .inl ss)), (m16, .inl (cI, 4, .inl (nA sl)))] := hD
  subst hr_11
  refine k_ifn_ne (tgt := 98) hx hb dX11_copy_78 (by decide) (fun c_12 => absurd c_12 (not_not_intro hi1)) (fun c_12 => ?_)
  refine lv_iload hx hb dX11_copy_81 (lv_at hl 4 rfl) ?_
  refine lv_iload hx hb dX11_copy_83 (lv_at hl 5 rfl) ?_
  refine lv_i2l (v := w.toInt64) hx hb dX11_copy_85 (rfl) ?_
  refine lv_aload_n hx hb dX11_copy_86 rfl (lv_at hl 0 rfl) ?_
  refine va_get (D := D) (ci := 11) (v := .ref m15) (C := RX11) (T := TX11) (N := 28) hx hb hts in_X11 hown hK hP 0 rfl rfl 23 (by decide) lk0 (fun _ h9 => h9) rfl dX11_copy_87 ?_
  refine lv_iload_n hx hb dX11_copy_90 rfl (lv_at hl 3 rfl) ?_
  refine k_iald hx hb hK hP 1 0 rfl rfl (show o < 4 by omega) (by decide) dX11_copy_91 ?_
  refine k_eqi (show (ss o) = (nI z2) from hz1) ?_
  refine k_goi (S := Unit) (va_runS (As := [.int j, .long w.toInt64, .int (nI z2)]) (rest := []) ⟨hx, hb, hml, hown, hts⟩ (c_X11_isBeyond_r l D cI cZ cS cP j w z2 (by first | assumption | omega) _) (va_cwS 3 hts gX11_copy_X11_isBeyond rfl rfl rfl (by decide +kernel) ⟨Nat.le_of_ble_eq_true rfl, Nat.le_of_ble_eq_true rfl⟩) (kPreS hN hK hP hD [] rfl rfl) rfl rfl hl.1 rfl (lv_room (Nat.le_of_ble_eq_true rfl)) dX11_copy_92 ⟨Nat.le_of_ble_eq_true rfl, Nat.le_of_ble_eq_true rfl⟩) hP hD hS hA [] rfl [] rfl (fun _ => rfl) 3 [0, 1, 2] rfl (fun _u => [(hM, .inr (11, [.int (nI mf), .int (nI mn), .ref m1, .ref m2, .ref m3, .int (nI mb), .int (nI ra), .int (nI rn), .ref m4, .ref m5, .ref m6, .int (nI mw), .ref m7, .ref m8, .int (nI mh), .ref m9, .ref m10, .int (nI mm), .ref m11, .int (nI mr), .ref m12, .ref m13, .ref m14, .ref m15, .ref m16, .ref m17, .ref m18, .int mt])), (m15, .inl (cI, 4, .inl ss)), (m16, .inl (cI, 4, .inl (nA sl)))]) (fun _ => rfl) [(hM, .inr (11, [.int (nI mf), .int (nI mn), .ref m1, .ref m2, .ref m3, .int (nI mb), .int (nI ra), .int (nI rn), .ref m4, .ref m5, .ref m6, .int (nI mw), .ref m7, .ref m8, .int (nI mh), .ref m9, .ref m10, .int (nI mm), .ref m11, .int (nI mr), .ref m12, .ref m13, .ref m14, .ref m15, .ref m16, .ref m17, .ref m18, .int mt])), (m15, .inl (cI, 4, .inl ss)), (m16, .inl (cI, 4, .inl (nA sl)))] [] (fun _ => rfl) rfl (fun _ => rfl) rfl (fun r_13 _u H locs hr_14 hP hD hS => ?_)
  have hP : va_P D vwCl [(hM, .inr (11, [.int (nI mf), .int (nI mn), .ref m1, .ref m2, .ref m3, .int (nI mb), .int (nI ra), .int (nI rn), .ref m4, .ref m5, .ref m6, .int (nI mw), .ref m7, .ref m8, .int (nI mh), .ref m9, .ref m10, .int (nI mm), .ref m11, .int (nI mr), .ref m12, .ref m13, .ref m14, .ref m15, .ref m16, .ref m17, .ref m18, .int mt])), (m15, .inl (cI, 4, .inl ss)), (m16, .inl (cI, 4, .inl (nA sl)))] H := hP
  have hD : va_D A [(hM, .inr (11, [.int (nI mf), .int (nI mn), .ref m1, .ref m2, .ref m3, .int (nI mb), .int (nI ra), .int (nI rn), .ref m4, .ref m5, .ref m6, .int (nI mw), .ref m7, .ref m8, .int (nI mh), .ref m9, .ref m10, .int (nI mm), .ref m11, .int (nI mr), .ref m12, .ref m13, .ref m14, .ref m15, .ref m16, .ref m17, .ref m18, .int mt])), (m15, .inl (cI, 4, .inl ss)), (m16, .inl (cI, 4, .inl (nA sl)))] := hD
  subst hr_14
  refine k_ifn_eq (tgt := 104) hx hb dX11_copy_95 (by decide) (fun c_15 => absurd c_15 (hi2)) (fun c_15 => ?_)
  refine lv_aload_n hx hb dX11_copy_98 rfl (lv_at hl 0 rfl) ?_
  refine lv_iconst (v := (nI 3)) hx hb dX11_copy_99 (by decide) ?_
  refine k_goi (S := Unit) (va_runV (As := [.int (nI 3)]) (rest := []) ⟨hx, hb, hml, hown, hts⟩ (c_X11_failed l D cI cZ cS cP hM m1 m2 m3 m4 m5 m6 m7 m8 m9 m10 m11 m12 m13 m14 m15 m16 m17 m18 mf mn mb ra rn mw mh mm mr mt 3  _) (cwV 1 hts gX11_copy_X11_failed rfl rfl rfl (by decide +kernel) ⟨Nat.le_of_ble_eq_true rfl, Nat.le_of_ble_eq_true rfl⟩) (kPreV hN hK hP hD [0] rfl rfl (q0 := 0) (ci := 11) (q := (RX11, TX11, 28)) rfl rfl) rfl rfl hl.1 rfl (lv_room (Nat.le_of_ble_eq_true rfl)) dX11_copy_100 ⟨Nat.le_of_ble_eq_true rfl, Nat.le_of_ble_eq_true rfl⟩) hP hD hS hA [0] rfl [hM] rfl (fun _ => rfl) 3 [1, 2] rfl (fun _u => [(hM, .inr (11, [.int (nI 3), .int (nI mn), .ref m1, .ref m2, .ref m3, .int (nI mb), .int (nI ra), .int (nI rn), .ref m4, .ref m5, .ref m6, .int (nI mw), .ref m7, .ref m8, .int (nI mh), .ref m9, .ref m10, .int (nI mm), .ref m11, .int (nI mr), .ref m12, .ref m13, .ref m14, .ref m15, .ref m16, .ref m17, .ref m18, .int mt])), (m15, .inl (cI, 4, .inl ss)), (m16, .inl (cI, 4, .inl (nA sl)))]) (fun _ => rfl) [(m15, .inl (cI, 4, .inl ss)), (m16, .inl (cI, 4, .inl (nA sl)))] [] (fun _ => rfl) rfl (fun _ => rfl) rfl (fun r_16 _u H locs hr_17 hP hD hS => ?_)
  have hP : va_P D vwCl [(hM, .inr (11, [.int (nI 3), .int (nI mn), .ref m1, .ref m2, .ref m3, .int (nI mb), .int (nI ra), .int (nI rn), .ref m4, .ref m5, .ref m6, .int (nI mw), .ref m7, .ref m8, .int (nI mh), .ref m9, .ref m10, .int (nI mm), .ref m11, .int (nI mr), .ref m12, .ref m13, .ref m14, .ref m15, .ref m16, .ref m17, .ref m18, .int mt])), (m15, .inl (cI, 4, .inl ss)), (m16, .inl (cI, 4, .inl (nA sl)))] H := hP
  have hD : va_D A [(hM, .inr (11, [.int (nI 3), .int (nI mn), .ref m1, .ref m2, .ref m3, .int (nI mb), .int (nI ra), .int (nI rn), .ref m4, .ref m5, .ref m6, .int (nI mw), .ref m7, .ref m8, .int (nI mh), .ref m9, .ref m10, .int (nI mm), .ref m11, .int (nI mr), .ref m12, .ref m13, .ref m14, .ref m15, .ref m16, .ref m17, .ref m18, .int mt])), (m15, .inl (cI, 4, .inl ss)), (m16, .inl (cI, 4, .inl (nA sl)))] := hD
  subst hr_17
  exact ret _ () _ _ _ _ dX11_copy_103 (rfl) hP hD hS
def rm_X11_copy_ok : Room := { frames := 2, cells := 0, slots := 0, locals := 45 }
set_option maxHeartbeats 4000000 in
set_option maxRecDepth 100000 in
theorem c_X11_copy_ok (l : Launch) (D : va_G) (cI cZ cS cP : ClassId) (hM : Nat) (m1 : Nat) (m2 : Nat) (m3 : Nat) (m4 : Nat) (m5 : Nat) (m6 : Nat) (m7 : Nat) (m8 : Nat) (m9 : Nat) (m10 : Nat) (m11 : Nat) (m12 : Nat) (m13 : Nat) (m14 : Nat) (m15 : Nat) (m16 : Nat) (m17 : Nat) (m18 : Nat) (mf : Nat) (mn : Nat) (mb : Nat) (ra : Nat) (rn : Nat) (mw : Nat) (mh : Nat) (mm : Nat) (mr : Nat) (mt : Int32) (ss : Nat → Int32) (sl : Nat → Nat) (sc : Nat → Int32) (hd : Nat → Int32) (k : Nat) (o : Nat) (i : Nat) (j : Nat) (w : Nat) (z : Nat) (z2 : Nat) (hsl : ∀ i, sl i < 3) (hk : k < 4) (ho1 : o < 4) (hz0 : ss k = nI z) (hz6 : z ≤ 60) (hz1 : ss o = nI z2) (hz7 : z2 ≤ 60) (hc : sl k = sl o) (hi1 : i + w ≤ z) (hi2 : j + w ≤ z2) : kMi (S := Unit) l yX11_copy wsX11_copy rm_X11_copy_ok D (kT cI cZ cS cP) [.ref hM, .int (nI k), .int (nI i), .int (nI o), .int (nI j), .int (nI w)] [(hM, .inr (11, [.int (nI mf), .int (nI mn), .ref m1, .ref m2, .ref m3, .int (nI mb), .int (nI ra), .int (nI rn), .ref m4, .ref m5, .ref m6, .int (nI mw), .ref m7, .ref m8, .int (nI mh), .ref m9, .ref m10, .int (nI mm), .ref m11, .int (nI mr), .ref m12, .ref m13, .ref m14, .ref m15, .ref m16, .ref m17, .ref m18, .int mt])), (m15, .inl (cI, 4, .inl ss)), (m16, .inl (cI, 4, .inl (nA sl))), (m17, .inl (cI, 240, .inl sc)), (m18, .inl (cI, 60, .inl hd))] (fun r _ => r = (nI w)) (fun _ => [(hM, .inr (11, [.int (nI 0), .int (nI mn), .ref m1, .ref m2, .ref m3, .int (nI mb), .int (nI ra), .int (nI rn), .ref m4, .ref m5, .ref m6, .int (nI mw), .ref m7, .ref m8, .int (nI mh), .ref m9, .ref m10, .int (nI mm), .ref m11, .int (nI mr), .ref m12, .ref m13, .ref m14, .ref m15, .ref m16, .ref m17, .ref m18, .int mt])), (m15, .inl (cI, 4, .inl ss)), (m16, .inl (cI, 4, .inl (nA sl))), (m17, .inl (cI, 240, .inl (mcp sc (60 * k + i) (60 * o + j) w))), (m18, .inl (cI, 60, .inl (hcp sc hd (60 * k + i) w)))]) := by
  refine kMet_i (cc := cX11_copy) (maxL := 7) (ty := .int) (by decide) rfl (Nat.le_of_ble_eq_true rfl) (fun _ _ _ => rfl) ?_
  intro p e s m args below meth c A Q ls C hlocks hin hN hK hP hD hS hA hl ret
  obtain ⟨hx, hb, hml, hown, hts⟩ := C
  have hl : lv_has ls 7 [(0, .ref hM), (1, .int (nI k)), (2, .int (nI i)), (3, .int (nI o)), (4, .int (nI j)), (5, .int (nI w))] := hl
  have in_X11 : ∀ w ∈ wsX110, w ∈ wsX11_copy := by decide +kernel
  have lk0 := hts (.fieldLink RX11 53 "SilkWordModel" "sheetSize" "[I") (by decide +kernel)
  have lk1 := hts (.fieldLink RX11 56 "SilkWordModel" "sheetLane" "[I") (by decide +kernel)
  have lk2 := hts (.fieldLink RX11 59 "SilkWordModel" "sheet" "[I") (by decide +kernel)
  have lk3 := hts (.fieldLink RX11 62 "SilkWordModel" "hands" "[I") (by decide +kernel)
  refine lv_iload_n hx hb dX11_copy_0 rfl (lv_at hl 1 rfl) ?_
  refine k_goi (S := Unit) (va_runS (As := [.int (nI k)]) (rest := []) ⟨hx, hb, hml, hown, hts⟩ (c_X11_noSheet l D cI cZ cS cP (nI k)  _) (va_cwS 1 hts gX11_copy_X11_noSheet rfl rfl rfl (by decide +kernel) ⟨Nat.le_of_ble_eq_true rfl, Nat.le_of_ble_eq_true rfl⟩) (kPreS hN hK hP hD [] rfl rfl) rfl rfl hl.1 rfl (lv_room (Nat.le_of_ble_eq_true rfl)) dX11_copy_1 ⟨Nat.le_of_ble_eq_true rfl, Nat.le_of_ble_eq_true rfl⟩) hP hD hS hA [] rfl [] rfl (fun _ => rfl) 5 [0, 1, 2, 3, 4] rfl (fun _u => [(hM, .inr (11, [.int (nI mf), .int (nI mn), .ref m1, .ref m2, .ref m3, .int (nI mb), .int (nI ra), .int (nI rn), .ref m4, .ref m5, .ref m6, .int (nI mw), .ref m7, .ref m8, .int (nI mh), .ref m9, .ref m10, .int (nI mm), .ref m11, .int (nI mr), .ref m12, .ref m13, .ref m14, .ref m15, .ref m16, .ref m17, .ref m18, .int mt])), (m15, .inl (cI, 4, .inl ss)), (m16, .inl (cI, 4, .inl (nA sl))), (m17, .inl (cI, 240, .inl sc)), (m18, .inl (cI, 60, .inl hd))]) (fun _ => rfl) [(hM, .inr (11, [.int (nI mf), .int (nI mn), .ref m1, .ref m2, .ref m3, .int (nI mb), .int (nI ra), .int (nI rn), .ref m4, .ref m5, .ref m6, .int (nI mw), .ref m7, .ref m8, .int (nI mh), .ref m9, .ref m10, .int (nI mm), .ref m11, .int (nI mr), .ref m12, .ref m13, .ref m14, .ref m15, .ref m16, .ref m17, .ref m18, .int mt])), (m15, .inl (cI, 4, .inl ss)), (m16, .inl (cI, 4, .inl (nA sl))), (m17, .inl (cI, 240, .inl sc)), (m18, .inl (cI, 60, .inl hd))] [] (fun _ => rfl) rfl (fun _ => rfl) rfl (fun r_1 _u H locs hr_2 hP hD hS => ?_)
  have hP : va_P D vwCl [(hM, .inr (11, [.int (nI mf), .int (nI mn), .ref m1, .ref m2, .ref m3, .int (nI mb), .int (nI ra), .int (nI rn), .ref m4, .ref m5, .ref m6, .int (nI mw), .ref m7, .ref m8, .int (nI mh), .ref m9, .ref m10, .int (nI mm), .ref m11, .int (nI mr), .ref m12, .ref m13, .ref m14, .ref m15, .ref m16, .ref m17, .ref m18, .int mt])), (m15, .inl (cI, 4, .inl ss)), (m16, .inl (cI, 4, .inl (nA sl))), (m17, .inl (cI, 240, .inl sc)), (m18, .inl (cI, 60, .inl hd))] H := hP
  have hD : va_D A [(hM, .inr (11, [.int (nI mf), .int (nI mn), .ref m1, .ref m2, .ref m3, .int (nI mb), .int (nI ra), .int (nI rn), .ref m4, .ref m5, .ref m6, .int (nI mw), .ref m7, .ref m8, .int (nI mh), .ref m9, .ref m10, .int (nI mm), .ref m11, .int (nI mr), .ref m12, .ref m13, .ref m14, .ref m15, .ref m16, .ref m17, .ref m18, .int mt])), (m15, .inl (cI, 4, .inl ss)), (m16, .inl (cI, 4, .inl (nA sl))), (m17, .inl (cI, 240, .inl sc)), (m18, .inl (cI, 60, .inl hd))] := hD
  subst hr_2
  refine k_ifn_ne (tgt := 14) hx hb dX11_copy_4 (by decide) (fun c_3 => absurd ((inR_nI (by omega)).mpr (by omega)) c_3) (fun c_3 => ?_)
  refine lv_iload_n hx hb dX11_copy_7 rfl (lv_at hl 3 rfl) ?_
  refine k_goi (S := Unit) (va_runS (As := [.int (nI o)]) (rest := []) ⟨hx, hb, hml, hown, hts⟩ (c_X11_noSheet l D cI cZ cS cP (nI o)  _) (va_cwS 1 hts gX11_copy_X11_noSheet rfl rfl rfl (by decide +kernel) ⟨Nat.le_of_ble_eq_true rfl, Nat.le_of_ble_eq_true rfl⟩) (kPreS hN hK hP hD [] rfl rfl) rfl rfl hl.1 rfl (lv_room (Nat.le_of_ble_eq_true rfl)) dX11_copy_8 ⟨Nat.le_of_ble_eq_true rfl, Nat.le_of_ble_eq_true rfl⟩) hP hD hS hA [] rfl [] rfl (fun _ => rfl) 5 [0, 1, 2, 3, 4] rfl (fun _u => [(hM, .inr (11, [.int (nI mf), .int (nI mn), .ref m1, .ref m2, .ref m3, .int (nI mb), .int (nI ra), .int (nI rn), .ref m4, .ref m5, .ref m6, .int (nI mw), .ref m7, .ref m8, .int (nI mh), .ref m9, .ref m10, .int (nI mm), .ref m11, .int (nI mr), .ref m12, .ref m13, .ref m14, .ref m15, .ref m16, .ref m17, .ref m18, .int mt])), (m15, .inl (cI, 4, .inl ss)), (m16, .inl (cI, 4, .inl (nA sl))), (m17, .inl (cI, 240, .inl sc)), (m18, .inl (cI, 60, .inl hd))]) (fun _ => rfl) [(hM, .inr (11, [.int (nI mf), .int (nI mn), .ref m1, .ref m2, .ref m3, .int (nI mb), .int (nI ra), .int (nI rn), .ref m4, .ref m5, .ref m6, .int (nI mw), .ref m7, .ref m8, .int (nI mh), .ref m9, .ref m10, .int (nI mm), .ref m11, .int (nI mr), .ref m12, .ref m13, .ref m14, .ref m15, .ref m16, .ref m17, .ref m18, .int mt])), (m15, .inl (cI, 4, .inl ss)), (m16, .inl (cI, 4, .inl (nA sl))), (m17, .inl (cI, 240, .inl sc)), (m18, .inl (cI, 60, .inl hd))] [] (fun _ => rfl) rfl (fun _ => rfl) rfl (fun r_4 _u H locs hr_5 hP hD hS => ?_)
  have hP : va_P D vwCl [(hM, .inr (11, [.int (nI mf), .int (nI mn), .ref m1, .ref m2, .ref m3, .int (nI mb), .int (nI ra), .int (nI rn), .ref m4, .ref m5, .ref m6, .int (nI mw), .ref m7, .ref m8, .int (nI mh), .ref m9, .ref m10, .int (nI mm), .ref m11, .int (nI mr), .ref m12, .ref m13, .ref m14, .ref m15, .ref m16, .ref m17, .ref m18, .int mt])), (m15, .inl (cI, 4, .inl ss)), (m16, .inl (cI, 4, .inl (nA sl))), (m17, .inl (cI, 240, .inl sc)), (m18, .inl (cI, 60, .inl hd))] H := hP
  have hD : va_D A [(hM, .inr (11, [.int (nI mf), .int (nI mn), .ref m1, .ref m2, .ref m3, .int (nI mb), .int (nI ra), .int (nI rn), .ref m4, .ref m5, .ref m6, .int (nI mw), .ref m7, .ref m8, .int (nI mh), .ref m9, .ref m10, .int (nI mm), .ref m11, .int (nI mr), .ref m12, .ref m13, .ref m14, .ref m15, .ref m16, .ref m17, .ref m18, .int mt])), (m15, .inl (cI, 4, .inl ss)), (m16, .inl (cI, 4, .inl (nA sl))), (m17, .inl (cI, 240, .inl sc)), (m18, .inl (cI, 60, .inl hd))] := hD
  subst hr_5
  refine k_ifn_eq (tgt := 20) hx hb dX11_copy_11 (by decide) (fun c_6 => ?_) (fun c_6 => absurd ((inR_nI (by omega)).mpr (by omega)) c_6)
  refine lv_aload_n hx hb dX11_copy_20 rfl (lv_at hl 0 rfl) ?_
  refine va_get (D := D) (ci := 11) (v := .ref m15) (C := RX11) (T := TX11) (N := 28) hx hb hts in_X11 hown hK hP 0 rfl rfl 23 (by decide) lk0 (fun _ h9 => h9) rfl dX11_copy_21 ?_
  refine lv_iload_n hx hb dX11_copy_24 rfl (lv_at hl 1 rfl) ?_
  refine k_iald hx hb hK hP 1 0 rfl rfl (show k < 4 by omega) (by decide) dX11_copy_25 ?_
  refine k_eqi (show (ss k) = (nI z) from hz0) ?_
  refine k_if_lt (tgt := 38) hx hb dX11_copy_26 (by decide) (show z < 2 ^ 31 by first | omega | (split <;> omega)) ?_
  refine lv_aload_n hx hb dX11_copy_29 rfl (lv_at hl 0 rfl) ?_
  refine va_get (D := D) (ci := 11) (v := .ref m15) (C := RX11) (T := TX11) (N := 28) hx hb hts in_X11 hown hK hP 0 rfl rfl 23 (by decide) lk0 (fun _ h9 => h9) rfl dX11_copy_30 ?_
  refine lv_iload_n hx hb dX11_copy_33 rfl (lv_at hl 3 rfl) ?_
  refine k_iald hx hb hK hP 1 0 rfl rfl (show o < 4 by omega) (by decide) dX11_copy_34 ?_
  refine k_eqi (show (ss o) = (nI z2) from hz1) ?_
  refine k_if_ge (tgt := 44) hx hb dX11_copy_35 (by decide) (show z2 < 2 ^ 31 by first | omega | (split <;> omega)) ?_
  refine lv_aload_n hx hb dX11_copy_44 rfl (lv_at hl 0 rfl) ?_
  refine va_get (D := D) (ci := 11) (v := .ref m16) (C := RX11) (T := TX11) (N := 28) hx hb hts in_X11 hown hK hP 0 rfl rfl 24 (by decide) lk1 (fun _ h9 => h9) rfl dX11_copy_45 ?_
  refine lv_iload_n hx hb dX11_copy_48 rfl (lv_at hl 1 rfl) ?_
  refine k_iald hx hb hK hP 2 0 rfl rfl (show k < 4 by omega) (by decide) dX11_copy_49 ?_
  have b_7 := hsl k
  refine lv_aload_n hx hb dX11_copy_50 rfl (lv_at hl 0 rfl) ?_
  refine va_get (D := D) (ci := 11) (v := .ref m16) (C := RX11) (T := TX11) (N := 28) hx hb hts in_X11 hown hK hP 0 rfl rfl 24 (by decide) lk1 (fun _ h9 => h9) rfl dX11_copy_51 ?_
  refine lv_iload_n hx hb dX11_copy_54 rfl (lv_at hl 3 rfl) ?_
  refine k_iald hx hb hK hP 2 0 rfl rfl (show o < 4 by omega) (by decide) dX11_copy_55 ?_
  have b_8 := hsl o
  refine k_icmp_eq (tgt := 65) hx hb dX11_copy_56 (by decide) (show (sl k) < 2 ^ 31 by first | omega | (split <;> omega)) (show (sl o) < 2 ^ 31 by first | omega | (split <;> omega)) (fun c_9 => ?_) (fun c_9 => absurd c_9 (by omega))
  refine lv_iload_n hx hb dX11_copy_65 rfl (lv_at hl 2 rfl) ?_
  refine lv_iload hx hb dX11_copy_66 (lv_at hl 5 rfl) ?_
  refine lv_i2l (v := (lN w)) hx hb dX11_copy_68 (nI_l (show w < 2 ^ 31 by omega)) ?_
  refine lv_aload_n hx hb dX11_copy_69 rfl (lv_at hl 0 rfl) ?_
  refine va_get (D := D) (ci := 11) (v := .ref m15) (C := RX11) (T := TX11) (N := 28) hx hb hts in_X11 hown hK hP 0 rfl rfl 23 (by decide) lk0 (fun _ h9 => h9) rfl dX11_copy_70 ?_
  refine lv_iload_n hx hb dX11_copy_73 rfl (lv_at hl 1 rfl) ?_
  refine k_iald hx hb hK hP 1 0 rfl rfl (show k < 4 by omega) (by decide) dX11_copy_74 ?_
  refine k_eqi (show (ss k) = (nI z) from hz0) ?_
  refine k_goi (S := Unit) (va_runS (As := [.int (nI i), .long (lN w), .int (nI z)]) (rest := []) ⟨hx, hb, hml, hown, hts⟩ (c_X11_isBeyond_n l D cI cZ cS cP i w z (by first | assumption | omega) (by first | assumption | omega) _) (va_cwS 3 hts gX11_copy_X11_isBeyond rfl rfl rfl (by decide +kernel) ⟨Nat.le_of_ble_eq_true rfl, Nat.le_of_ble_eq_true rfl⟩) (kPreS hN hK hP hD [] rfl rfl) rfl rfl hl.1 rfl (lv_room (Nat.le_of_ble_eq_true rfl)) dX11_copy_75 ⟨Nat.le_of_ble_eq_true rfl, Nat.le_of_ble_eq_true rfl⟩) hP hD hS hA [] rfl [] rfl (fun _ => rfl) 5 [0, 1, 2, 3, 4] rfl (fun _u => [(hM, .inr (11, [.int (nI mf), .int (nI mn), .ref m1, .ref m2, .ref m3, .int (nI mb), .int (nI ra), .int (nI rn), .ref m4, .ref m5, .ref m6, .int (nI mw), .ref m7, .ref m8, .int (nI mh), .ref m9, .ref m10, .int (nI mm), .ref m11, .int (nI mr), .ref m12, .ref m13, .ref m14, .ref m15, .ref m16, .ref m17, .ref m18, .int mt])), (m15, .inl (cI, 4, .inl ss)), (m16, .inl (cI, 4, .inl (nA sl))), (m17, .inl (cI, 240, .inl sc)), (m18, .inl (cI, 60, .inl hd))]) (fun _ => rfl) [(hM, .inr (11, [.int (nI mf), .int (nI mn), .ref m1, .ref m2, .ref m3, .int (nI mb), .int (nI ra), .int (nI rn), .ref m4, .ref m5, .ref m6, .int (nI mw), .ref m7, .ref m8, .int (nI mh), .ref m9, .ref m10, .int (nI mm), .ref m11, .int (nI mr), .ref m12, .ref m13, .ref m14, .ref m15, .ref m16, .ref m17, .ref m18, .int mt])), (m15, .inl (cI, 4, .inl ss)), (m16, .inl (cI, 4, .inl (nA sl))), (m17, .inl (cI, 240, .inl sc)), (m18, .inl (cI, 60, .inl hd))] [] (fun _ => rfl) rfl (fun _ => rfl) rfl (fun r_10 _u H locs hr_11 hP hD hS => ?_)
  have hP : va_P D vwCl [(hM, .inr (11, [.int (nI mf), .int (nI mn), .ref m1, .ref m2, .ref m3, .int (nI mb), .int (nI ra), .int (nI rn), .ref m4, .ref m5, .ref m6, .int (nI mw), .ref m7, .ref m8, .int (nI mh), .ref m9, .ref m10, .int (nI mm), .ref m11, .int (nI mr), .ref m12, .ref m13, .ref m14, .ref m15, .ref m16, .ref m17, .ref m18, .int mt])), (m15, .inl (cI, 4, .inl ss)), (m16, .inl (cI, 4, .inl (nA sl))), (m17, .inl (cI, 240, .inl sc)), (m18, .inl (cI, 60, .inl hd))] H := hP
  have hD : va_D A [(hM, .inr (11, [.int (nI mf), .int (nI mn), .ref m1, .ref m2, .ref m3, .int (nI mb), .int (nI ra), .int (nI rn), .ref m4, .ref m5, .ref m6, .int (nI mw), .ref m7, .ref m8, .int (nI mh), .ref m9, .ref m10, .int (nI mm), .ref m11, .int (nI mr), .ref m12, .ref m13, .ref m14, .ref m15, .ref m16, .ref m17, .ref m18, .int mt])), (m15, .inl (cI, 4, .inl ss)), (m16, .inl (cI, 4, .inl (nA sl))), (m17, .inl (cI, 240, .inl sc)), (m18, .inl (cI, 60, .inl hd))] := hD
  subst hr_11
  refine k_if_ne (tgt := 98) hx hb dX11_copy_78 (by decide) (show 0 < 2 ^ 31 by first | omega | (split <;> omega)) (fun q9 => absurd q9 (by decide)) (fun _ => ?_)
  refine lv_iload hx hb dX11_copy_81 (lv_at hl 4 rfl) ?_
  refine lv_iload hx hb dX11_copy_83 (lv_at hl 5 rfl) ?_
  refine lv_i2l (v := (lN w)) hx hb dX11_copy_85 (nI_l (show w < 2 ^ 31 by omega)) ?_
  refine lv_aload_n hx hb dX11_copy_86 rfl (lv_at hl 0 rfl) ?_
  refine va_get (D := D) (ci := 11) (v := .ref m15) (C := RX11) (T := TX11) (N := 28) hx hb hts in_X11 hown hK hP 0 rfl rfl 23 (by decide) lk0 (fun _ h9 => h9) rfl dX11_copy_87 ?_
  refine lv_iload_n hx hb dX11_copy_90 rfl (lv_at hl 3 rfl) ?_
  refine k_iald hx hb hK hP 1 0 rfl rfl (show o < 4 by omega) (by decide) dX11_copy_91 ?_
  refine k_eqi (show (ss o) = (nI z2) from hz1) ?_
  refine k_goi (S := Unit) (va_runS (As := [.int (nI j), .long (lN w), .int (nI z2)]) (rest := []) ⟨hx, hb, hml, hown, hts⟩ (c_X11_isBeyond_n l D cI cZ cS cP j w z2 (by first | assumption | omega) (by first | assumption | omega) _) (va_cwS 3 hts gX11_copy_X11_isBeyond rfl rfl rfl (by decide +kernel) ⟨Nat.le_of_ble_eq_true rfl, Nat.le_of_ble_eq_true rfl⟩) (kPreS hN hK hP hD [] rfl rfl) rfl rfl hl.1 rfl (lv_room (Nat.le_of_ble_eq_true rfl)) dX11_copy_92 ⟨Nat.le_of_ble_eq_true rfl, Nat.le_of_ble_eq_true rfl⟩) hP hD hS hA [] rfl [] rfl (fun _ => rfl) 5 [0, 1, 2, 3, 4] rfl (fun _u => [(hM, .inr (11, [.int (nI mf), .int (nI mn), .ref m1, .ref m2, .ref m3, .int (nI mb), .int (nI ra), .int (nI rn), .ref m4, .ref m5, .ref m6, .int (nI mw), .ref m7, .ref m8, .int (nI mh), .ref m9, .ref m10, .int (nI mm), .ref m11, .int (nI mr), .ref m12, .ref m13, .ref m14, .ref m15, .ref m16, .ref m17, .ref m18, .int mt])), (m15, .inl (cI, 4, .inl ss)), (m16, .inl (cI, 4, .inl (nA sl))), (m17, .inl (cI, 240, .inl sc)), (m18, .inl (cI, 60, .inl hd))]) (fun _ => rfl) [(hM, .inr (11, [.int (nI mf), .int (nI mn), .ref m1, .ref m2, .ref m3, .int (nI mb), .int (nI ra), .int (nI rn), .ref m4, .ref m5, .ref m6, .int (nI mw), .ref m7, .ref m8, .int (nI mh), .ref m9, .ref m10, .int (nI mm), .ref m11, .int (nI mr), .ref m12, .ref m13, .ref m14, .ref m15, .ref m16, .ref m17, .ref m18, .int mt])), (m15, .inl (cI, 4, .inl ss)), (m16, .inl (cI, 4, .inl (nA sl))), (m17, .inl (cI, 240, .inl sc)), (m18, .inl (cI, 60, .inl hd))] [] (fun _ => rfl) rfl (fun _ => rfl) rfl (fun r_12 _u H locs hr_13 hP hD hS => ?_)
  have hP : va_P D vwCl [(hM, .inr (11, [.int (nI mf), .int (nI mn), .ref m1, .ref m2, .ref m3, .int (nI mb), .int (nI ra), .int (nI rn), .ref m4, .ref m5, .ref m6, .int (nI mw), .ref m7, .ref m8, .int (nI mh), .ref m9, .ref m10, .int (nI mm), .ref m11, .int (nI mr), .ref m12, .ref m13, .ref m14, .ref m15, .ref m16, .ref m17, .ref m18, .int mt])), (m15, .inl (cI, 4, .inl ss)), (m16, .inl (cI, 4, .inl (nA sl))), (m17, .inl (cI, 240, .inl sc)), (m18, .inl (cI, 60, .inl hd))] H := hP
  have hD : va_D A [(hM, .inr (11, [.int (nI mf), .int (nI mn), .ref m1, .ref m2, .ref m3, .int (nI mb), .int (nI ra), .int (nI rn), .ref m4, .ref m5, .ref m6, .int (nI mw), .ref m7, .ref m8, .int (nI mh), .ref m9, .ref m10, .int (nI mm), .ref m11, .int (nI mr), .ref m12, .ref m13, .ref m14, .ref m15, .ref m16, .ref m17, .ref m18, .int mt])), (m15, .inl (cI, 4, .inl ss)), (m16, .inl (cI, 4, .inl (nA sl))), (m17, .inl (cI, 240, .inl sc)), (m18, .inl (cI, 60, .inl hd))] := hD
  subst hr_13
  refine k_if_eq (tgt := 104) hx hb dX11_copy_95 (by decide) (show 0 < 2 ^ 31 by first | omega | (split <;> omega)) (fun _ => ?_) (fun q9 => absurd q9 (by decide))
  refine lv_iconst (v := (nI 0)) hx hb dX11_copy_104 (by decide) ?_
  refine lv_istore (lv' := [(6, .int (nI 0)), (0, .ref hM), (1, .int (nI k)), (2, .int (nI i)), (3, .int (nI o)), (4, .int (nI j)), (5, .int (nI w))]) hx hb dX11_copy_105 hl (by decide) rfl (fun ls hl => ?_)
  have e_14 : hd = (hcp sc hd (60 * k + i) 0) := by exact (hcp_0 _ _ _).symm
  have q_15 : ([(hM, .inr (11, [.int (nI mf), .int (nI mn), .ref m1, .ref m2, .ref m3, .int (nI mb), .int (nI ra), .int (nI rn), .ref m4, .ref m5, .ref m6, .int (nI mw), .ref m7, .ref m8, .int (nI mh), .ref m9, .ref m10, .int (nI mm), .ref m11, .int (nI mr), .ref m12, .ref m13, .ref m14, .ref m15, .ref m16, .ref m17, .ref m18, .int mt])), (m15, .inl (cI, 4, .inl ss)), (m16, .inl (cI, 4, .inl (nA sl))), (m17, .inl (cI, 240, .inl sc)), (m18, .inl (cI, 60, .inl hd))] : va_W) = [(hM, .inr (11, [.int (nI mf), .int (nI mn), .ref m1, .ref m2, .ref m3, .int (nI mb), .int (nI ra), .int (nI rn), .ref m4, .ref m5, .ref m6, .int (nI mw), .ref m7, .ref m8, .int (nI mh), .ref m9, .ref m10, .int (nI mm), .ref m11, .int (nI mr), .ref m12, .ref m13, .ref m14, .ref m15, .ref m16, .ref m17, .ref m18, .int mt])), (m15, .inl (cI, 4, .inl ss)), (m16, .inl (cI, 4, .inl (nA sl))), (m17, .inl (cI, 240, .inl sc)), (m18, .inl (cI, 60, .inl (hcp sc hd (60 * k + i) 0)))] := by rw [← e_14]
  refine k_loop (α := Nat) (nL := 7) (fun q => w - q) (fun q => [(hM, .inr (11, [.int (nI mf), .int (nI mn), .ref m1, .ref m2, .ref m3, .int (nI mb), .int (nI ra), .int (nI rn), .ref m4, .ref m5, .ref m6, .int (nI mw), .ref m7, .ref m8, .int (nI mh), .ref m9, .ref m10, .int (nI mm), .ref m11, .int (nI mr), .ref m12, .ref m13, .ref m14, .ref m15, .ref m16, .ref m17, .ref m18, .int mt])), (m15, .inl (cI, 4, .inl ss)), (m16, .inl (cI, 4, .inl (nA sl))), (m17, .inl (cI, 240, .inl sc)), (m18, .inl (cI, 60, .inl (hcp sc hd (60 * k + i) q)))]) (fun q => [(6, .int (nI q)), (0, .ref hM), (1, .int (nI k)), (2, .int (nI i)), (3, .int (nI o)), (4, .int (nI j)), (5, .int (nI w))]) (fun q => (q ≤ w)) ?_ 0 (show (0 ≤ w) from by omega) (kP_cast hP q_15) (kD_cast hD q_15) hS (lv_sub hl [0, 1, 2, 3, 4, 5, 6] rfl)
  clear hP hD hS hl
  intro q H locs ls hI hP hD hS hl ih107
  have hq : (q ≤ w) := hI
  have hP : va_P D vwCl [(hM, .inr (11, [.int (nI mf), .int (nI mn), .ref m1, .ref m2, .ref m3, .int (nI mb), .int (nI ra), .int (nI rn), .ref m4, .ref m5, .ref m6, .int (nI mw), .ref m7, .ref m8, .int (nI mh), .ref m9, .ref m10, .int (nI mm), .ref m11, .int (nI mr), .ref m12, .ref m13, .ref m14, .ref m15, .ref m16, .ref m17, .ref m18, .int mt])), (m15, .inl (cI, 4, .inl ss)), (m16, .inl (cI, 4, .inl (nA sl))), (m17, .inl (cI, 240, .inl sc)), (m18, .inl (cI, 60, .inl (hcp sc hd (60 * k + i) q)))] H := hP
  have hD : va_D A [(hM, .inr (11, [.int (nI mf), .int (nI mn), .ref m1, .ref m2, .ref m3, .int (nI mb), .int (nI ra), .int (nI rn), .ref m4, .ref m5, .ref m6, .int (nI mw), .ref m7, .ref m8, .int (nI mh), .ref m9, .ref m10, .int (nI mm), .ref m11, .int (nI mr), .ref m12, .ref m13, .ref m14, .ref m15, .ref m16, .ref m17, .ref m18, .int mt])), (m15, .inl (cI, 4, .inl ss)), (m16, .inl (cI, 4, .inl (nA sl))), (m17, .inl (cI, 240, .inl sc)), (m18, .inl (cI, 60, .inl (hcp sc hd (60 * k + i) q)))] := hD
  have hl : lv_has ls 7 [(6, .int (nI q)), (0, .ref hM), (1, .int (nI k)), (2, .int (nI i)), (3, .int (nI o)), (4, .int (nI j)), (5, .int (nI w))] := hl
  refine lv_iload hx hb dX11_copy_107 (lv_at hl 0 rfl) ?_
  refine lv_iload hx hb dX11_copy_109 (lv_at hl 6 rfl) ?_
  refine k_icmp_ge (tgt := 141) hx hb dX11_copy_111 (by decide) (show q < 2 ^ 31 by first | omega | (split <;> omega)) (show w < 2 ^ 31 by first | omega | (split <;> omega)) (fun c_16 => ?_) (fun c_16 => ?_)
  · skip
    refine lv_iconst (v := (nI 0)) hx hb dX11_copy_141 (by decide) ?_
    refine lv_istore (lv' := [(6, .int (nI 0)), (0, .ref hM), (1, .int (nI k)), (2, .int (nI i)), (3, .int (nI o)), (4, .int (nI j)), (5, .int (nI w))]) hx hb dX11_copy_142 hl (by decide) rfl (fun ls hl => ?_)
    have hqw : q = w := by omega
    have e_17 : sc = (mcp sc (60 * k + i) (60 * o + j) 0) := by exact (mcp_0 _ _ _).symm
    have e_18 : (hcp sc hd (60 * k + i) q) = (hcp sc hd (60 * k + i) w) := by rw [hqw]
    have q_19 : ([(hM, .inr (11, [.int (nI mf), .int (nI mn), .ref m1, .ref m2, .ref m3, .int (nI mb), .int (nI ra), .int (nI rn), .ref m4, .ref m5, .ref m6, .int (nI mw), .ref m7, .ref m8, .int (nI mh), .ref m9, .ref m10, .int (nI mm), .ref m11, .int (nI mr), .ref m12, .ref m13, .ref m14, .ref m15, .ref m16, .ref m17, .ref m18, .int mt])), (m15, .inl (cI, 4, .inl ss)), (m16, .inl (cI, 4, .inl (nA sl))), (m17, .inl (cI, 240, .inl sc)), (m18, .inl (cI, 60, .inl (hcp sc hd (60 * k + i) q)))] : va_W) = [(hM, .inr (11, [.int (nI mf), .int (nI mn), .ref m1, .ref m2, .ref m3, .int (nI mb), .int (nI ra), .int (nI rn), .ref m4, .ref m5, .ref m6, .int (nI mw), .ref m7, .ref m8, .int (nI mh), .ref m9, .ref m10, .int (nI mm), .ref m11, .int (nI mr), .ref m12, .ref m13, .ref m14, .ref m15, .ref m16, .ref m17, .ref m18, .int mt])), (m15, .inl (cI, 4, .inl ss)), (m16, .inl (cI, 4, .inl (nA sl))), (m17, .inl (cI, 240, .inl (mcp sc (60 * k + i) (60 * o + j) 0))), (m18, .inl (cI, 60, .inl (hcp sc hd (60 * k + i) w)))] := by rw [← e_17, ← e_18]
    refine k_loop (α := Nat) (nL := 7) (fun q => w - q) (fun q => [(hM, .inr (11, [.int (nI mf), .int (nI mn), .ref m1, .ref m2, .ref m3, .int (nI mb), .int (nI ra), .int (nI rn), .ref m4, .ref m5, .ref m6, .int (nI mw), .ref m7, .ref m8, .int (nI mh), .ref m9, .ref m10, .int (nI mm), .ref m11, .int (nI mr), .ref m12, .ref m13, .ref m14, .ref m15, .ref m16, .ref m17, .ref m18, .int mt])), (m15, .inl (cI, 4, .inl ss)), (m16, .inl (cI, 4, .inl (nA sl))), (m17, .inl (cI, 240, .inl (mcp sc (60 * k + i) (60 * o + j) q))), (m18, .inl (cI, 60, .inl (hcp sc hd (60 * k + i) w)))]) (fun q => [(6, .int (nI q)), (0, .ref hM), (1, .int (nI k)), (2, .int (nI i)), (3, .int (nI o)), (4, .int (nI j)), (5, .int (nI w))]) (fun q => (q ≤ w)) ?_ 0 (show (0 ≤ w) from by omega) (kP_cast hP q_19) (kD_cast hD q_19) hS (lv_sub hl [0, 1, 2, 3, 4, 5, 6] rfl)
    clear hP hD hS hl
    intro q H locs ls hI hP hD hS hl ih144
    have hq2 : (q ≤ w) := hI
    have hP : va_P D vwCl [(hM, .inr (11, [.int (nI mf), .int (nI mn), .ref m1, .ref m2, .ref m3, .int (nI mb), .int (nI ra), .int (nI rn), .ref m4, .ref m5, .ref m6, .int (nI mw), .ref m7, .ref m8, .int (nI mh), .ref m9, .ref m10, .int (nI mm), .ref m11, .int (nI mr), .ref m12, .ref m13, .ref m14, .ref m15, .ref m16, .ref m17, .ref m18, .int mt])), (m15, .inl (cI, 4, .inl ss)), (m16, .inl (cI, 4, .inl (nA sl))), (m17, .inl (cI, 240, .inl (mcp sc (60 * k + i) (60 * o + j) q))), (m18, .inl (cI, 60, .inl (hcp sc hd (60 * k + i) w)))] H := hP
    have hD : va_D A [(hM, .inr (11, [.int (nI mf), .int (nI mn), .ref m1, .ref m2, .ref m3, .int (nI mb), .int (nI ra), .int (nI rn), .ref m4, .ref m5, .ref m6, .int (nI mw), .ref m7, .ref m8, .int (nI mh), .ref m9, .ref m10, .int (nI mm), .ref m11, .int (nI mr), .ref m12, .ref m13, .ref m14, .ref m15, .ref m16, .ref m17, .ref m18, .int mt])), (m15, .inl (cI, 4, .inl ss)), (m16, .inl (cI, 4, .inl (nA sl))), (m17, .inl (cI, 240, .inl (mcp sc (60 * k + i) (60 * o + j) q))), (m18, .inl (cI, 60, .inl (hcp sc hd (60 * k + i) w)))] := hD
    have hl : lv_has ls 7 [(6, .int (nI q)), (0, .ref hM), (1, .int (nI k)), (2, .int (nI i)), (3, .int (nI o)), (4, .int (nI j)), (5, .int (nI w))] := hl
    refine lv_iload hx hb dX11_copy_144 (lv_at hl 0 rfl) ?_
    refine lv_iload hx hb dX11_copy_146 (lv_at hl 6 rfl) ?_
    refine k_icmp_ge (tgt := 179) hx hb dX11_copy_148 (by decide) (show q < 2 ^ 31 by first | omega | (split <;> omega)) (show w < 2 ^ 31 by first | omega | (split <;> omega)) (fun c_20 => ?_) (fun c_20 => ?_)
    · skip
      refine lv_aload_n hx hb dX11_copy_179 rfl (lv_at hl 1 rfl) ?_
      refine lv_iload hx hb dX11_copy_180 (lv_at hl 6 rfl) ?_
      refine k_goi (S := Unit) (va_runV (As := [.int (nI w)]) (rest := []) ⟨hx, hb, hml, hown, hts⟩ (c_X11_refused l D cI cZ cS cP hM m1 m2 m3 m4 m5 m6 m7 m8 m9 m10 m11 m12 m13 m14 m15 m16 m17 m18 mf mn mb ra rn mw mh mm mr mt (nI w)  _) (cwV 1 hts gX11_copy_X11_refused rfl rfl rfl (by decide +kernel) ⟨Nat.le_of_ble_eq_true rfl, Nat.le_of_ble_eq_true rfl⟩) (kPreV hN hK hP hD [0] rfl rfl (q0 := 0) (ci := 11) (q := (RX11, TX11, 28)) rfl rfl) rfl rfl hl.1 rfl (lv_room (Nat.le_of_ble_eq_true rfl)) dX11_copy_182 ⟨Nat.le_of_ble_eq_true rfl, Nat.le_of_ble_eq_true rfl⟩) hP hD hS hA [0] rfl [hM] rfl (fun _ => rfl) 5 [1, 2, 3, 4] rfl (fun _u => [(hM, .inr (11, [.int (nI 0), .int (nI mn), .ref m1, .ref m2, .ref m3, .int (nI mb), .int (nI ra), .int (nI rn), .ref m4, .ref m5, .ref m6, .int (nI mw), .ref m7, .ref m8, .int (nI mh), .ref m9, .ref m10, .int (nI mm), .ref m11, .int (nI mr), .ref m12, .ref m13, .ref m14, .ref m15, .ref m16, .ref m17, .ref m18, .int mt])), (m15, .inl (cI, 4, .inl ss)), (m16, .inl (cI, 4, .inl (nA sl))), (m17, .inl (cI, 240, .inl (mcp sc (60 * k + i) (60 * o + j) q))), (m18, .inl (cI, 60, .inl (hcp sc hd (60 * k + i) w)))]) (fun _ => rfl) [(m15, .inl (cI, 4, .inl ss)), (m16, .inl (cI, 4, .inl (nA sl))), (m17, .inl (cI, 240, .inl (mcp sc (60 * k + i) (60 * o + j) q))), (m18, .inl (cI, 60, .inl (hcp sc hd (60 * k + i) w)))] [] (fun _ => rfl) rfl (fun _ => rfl) rfl (fun r_21 _u H locs hr_22 hP hD hS => ?_)
      have hP : va_P D vwCl [(hM, .inr (11, [.int (nI 0), .int (nI mn), .ref m1, .ref m2, .ref m3, .int (nI mb), .int (nI ra), .int (nI rn), .ref m4, .ref m5, .ref m6, .int (nI mw), .ref m7, .ref m8, .int (nI mh), .ref m9, .ref m10, .int (nI mm), .ref m11, .int (nI mr), .ref m12, .ref m13, .ref m14, .ref m15, .ref m16, .ref m17, .ref m18, .int mt])), (m15, .inl (cI, 4, .inl ss)), (m16, .inl (cI, 4, .inl (nA sl))), (m17, .inl (cI, 240, .inl (mcp sc (60 * k + i) (60 * o + j) q))), (m18, .inl (cI, 60, .inl (hcp sc hd (60 * k + i) w)))] H := hP
      have hD : va_D A [(hM, .inr (11, [.int (nI 0), .int (nI mn), .ref m1, .ref m2, .ref m3, .int (nI mb), .int (nI ra), .int (nI rn), .ref m4, .ref m5, .ref m6, .int (nI mw), .ref m7, .ref m8, .int (nI mh), .ref m9, .ref m10, .int (nI mm), .ref m11, .int (nI mr), .ref m12, .ref m13, .ref m14, .ref m15, .ref m16, .ref m17, .ref m18, .int mt])), (m15, .inl (cI, 4, .inl ss)), (m16, .inl (cI, 4, .inl (nA sl))), (m17, .inl (cI, 240, .inl (mcp sc (60 * k + i) (60 * o + j) q))), (m18, .inl (cI, 60, .inl (hcp sc hd (60 * k + i) w)))] := hD
      subst hr_22
      have hqz : q = w := by omega
      have e_23 : (mcp sc (60 * k + i) (60 * o + j) q) = (mcp sc (60 * k + i) (60 * o + j) w) := by rw [hqz]
      have q_24 : ([(hM, .inr (11, [.int (nI 0), .int (nI mn), .ref m1, .ref m2, .ref m3, .int (nI mb), .int (nI ra), .int (nI rn), .ref m4, .ref m5, .ref m6, .int (nI mw), .ref m7, .ref m8, .int (nI mh), .ref m9, .ref m10, .int (nI mm), .ref m11, .int (nI mr), .ref m12, .ref m13, .ref m14, .ref m15, .ref m16, .ref m17, .ref m18, .int mt])), (m15, .inl (cI, 4, .inl ss)), (m16, .inl (cI, 4, .inl (nA sl))), (m17, .inl (cI, 240, .inl (mcp sc (60 * k + i) (60 * o + j) q))), (m18, .inl (cI, 60, .inl (hcp sc hd (60 * k + i) w)))] : va_W) = [(hM, .inr (11, [.int (nI 0), .int (nI mn), .ref m1, .ref m2, .ref m3, .int (nI mb), .int (nI ra), .int (nI rn), .ref m4, .ref m5, .ref m6, .int (nI mw), .ref m7, .ref m8, .int (nI mh), .ref m9, .ref m10, .int (nI mm), .ref m11, .int (nI mr), .ref m12, .ref m13, .ref m14, .ref m15, .ref m16, .ref m17, .ref m18, .int mt])), (m15, .inl (cI, 4, .inl ss)), (m16, .inl (cI, 4, .inl (nA sl))), (m17, .inl (cI, 240, .inl (mcp sc (60 * k + i) (60 * o + j) w))), (m18, .inl (cI, 60, .inl (hcp sc hd (60 * k + i) w)))] := by rw [← e_23]
      exact ret _ () _ _ _ _ dX11_copy_185 (rfl) (kP_cast hP q_24) (kD_cast hD q_24) hS
    · skip
      refine lv_aload_n hx hb dX11_copy_151 rfl (lv_at hl 1 rfl) ?_
      refine va_get (D := D) (ci := 11) (v := .ref m17) (C := RX11) (T := TX11) (N := 28) hx hb hts in_X11 hown hK hP 0 rfl rfl 25 (by decide) lk2 (fun _ h9 => h9) rfl dX11_copy_152 ?_
      refine lv_bipush (v := (nI 60)) hx hb dX11_copy_155 (by decide) ?_
      refine lv_iload_n hx hb dX11_copy_157 rfl (lv_at hl 4 rfl) ?_
      refine lv_imul hx hb dX11_copy_158 ?_
      refine k_eqi (show ((nI 60) * (nI o)) = (nI (60 * o)) from pk_mul 60 o) ?_
      refine lv_iload hx hb dX11_copy_159 (lv_at hl 5 rfl) ?_
      refine lv_iadd hx hb dX11_copy_161 ?_
      refine k_eqi (show ((nI (60 * o)) + (nI j)) = (nI ((60 * o) + j)) from nI_add (60 * o) j) ?_
      refine lv_iload hx hb dX11_copy_162 (lv_at hl 0 rfl) ?_
      refine lv_iadd hx hb dX11_copy_164 ?_
      refine k_eqi (show ((nI ((60 * o) + j)) + (nI q)) = (nI (((60 * o) + j) + q)) from nI_add ((60 * o) + j) q) ?_
      refine lv_aload_n hx hb dX11_copy_165 rfl (lv_at hl 1 rfl) ?_
      refine va_get (D := D) (ci := 11) (v := .ref m18) (C := RX11) (T := TX11) (N := 28) hx hb hts in_X11 hown hK hP 0 rfl rfl 26 (by decide) lk3 (fun _ h9 => h9) rfl dX11_copy_166 ?_
      refine lv_iload hx hb dX11_copy_169 (lv_at hl 0 rfl) ?_
      refine k_iald hx hb hK hP 4 0 rfl rfl (show q < 60 by omega) (by decide) dX11_copy_171 ?_
      refine k_iast hx hb hK hP hD hS 3 0 rfl rfl (show (((60 * o) + j) + q) < 240 by omega) (by decide) dX11_copy_172 (fun H locs hP hD hS => ?_)
      have hP : va_P D vwCl [(hM, .inr (11, [.int (nI mf), .int (nI mn), .ref m1, .ref m2, .ref m3, .int (nI mb), .int (nI ra), .int (nI rn), .ref m4, .ref m5, .ref m6, .int (nI mw), .ref m7, .ref m8, .int (nI mh), .ref m9, .ref m10, .int (nI mm), .ref m11, .int (nI mr), .ref m12, .ref m13, .ref m14, .ref m15, .ref m16, .ref m17, .ref m18, .int mt])), (m15, .inl (cI, 4, .inl ss)), (m16, .inl (cI, 4, .inl (nA sl))), (m17, .inl (cI, 240, .inl (upd (mcp sc (60 * k + i) (60 * o + j) q) (((60 * o) + j) + q) ((hcp sc hd (60 * k + i) w) q)))), (m18, .inl (cI, 60, .inl (hcp sc hd (60 * k + i) w)))] H := hP
      have hD : va_D A [(hM, .inr (11, [.int (nI mf), .int (nI mn), .ref m1, .ref m2, .ref m3, .int (nI mb), .int (nI ra), .int (nI rn), .ref m4, .ref m5, .ref m6, .int (nI mw), .ref m7, .ref m8, .int (nI mh), .ref m9, .ref m10, .int (nI mm), .ref m11, .int (nI mr), .ref m12, .ref m13, .ref m14, .ref m15, .ref m16, .ref m17, .ref m18, .int mt])), (m15, .inl (cI, 4, .inl ss)), (m16, .inl (cI, 4, .inl (nA sl))), (m17, .inl (cI, 240, .inl (upd (mcp sc (60 * k + i) (60 * o + j) q) (((60 * o) + j) + q) ((hcp sc hd (60 * k + i) w) q)))), (m18, .inl (cI, 60, .inl (hcp sc hd (60 * k + i) w)))] := hD
      refine lv_iinc (v := (nI (q + 1))) (lv' := [(6, .int (nI (q + 1))), (0, .ref hM), (1, .int (nI k)), (2, .int (nI i)), (3, .int (nI o)), (4, .int (nI j)), (5, .int (nI w))]) hx hb dX11_copy_173 hl (k := 0) rfl (nI_inc q) (by decide) rfl (fun ls hl => ?_)
      refine lv_goto (tgt := 144) hx hb dX11_copy_176 (by decide) ?_
      have e_25 : (upd (mcp sc (60 * k + i) (60 * o + j) q) (((60 * o) + j) + q) ((hcp sc hd (60 * k + i) w) q)) = (mcp sc (60 * k + i) (60 * o + j) (q + 1)) := by exact mcp_s _ _ (by omega)
      have q_26 : ([(hM, .inr (11, [.int (nI mf), .int (nI mn), .ref m1, .ref m2, .ref m3, .int (nI mb), .int (nI ra), .int (nI rn), .ref m4, .ref m5, .ref m6, .int (nI mw), .ref m7, .ref m8, .int (nI mh), .ref m9, .ref m10, .int (nI mm), .ref m11, .int (nI mr), .ref m12, .ref m13, .ref m14, .ref m15, .ref m16, .ref m17, .ref m18, .int mt])), (m15, .inl (cI, 4, .inl ss)), (m16, .inl (cI, 4, .inl (nA sl))), (m17, .inl (cI, 240, .inl (upd (mcp sc (60 * k + i) (60 * o + j) q) (((60 * o) + j) + q) ((hcp sc hd (60 * k + i) w) q)))), (m18, .inl (cI, 60, .inl (hcp sc hd (60 * k + i) w)))] : va_W) = [(hM, .inr (11, [.int (nI mf), .int (nI mn), .ref m1, .ref m2, .ref m3, .int (nI mb), .int (nI ra), .int (nI rn), .ref m4, .ref m5, .ref m6, .int (nI mw), .ref m7, .ref m8, .int (nI mh), .ref m9, .ref m10, .int (nI mm), .ref m11, .int (nI mr), .ref m12, .ref m13, .ref m14, .ref m15, .ref m16, .ref m17, .ref m18, .int mt])), (m15, .inl (cI, 4, .inl ss)), (m16, .inl (cI, 4, .inl (nA sl))), (m17, .inl (cI, 240, .inl (mcp sc (60 * k + i) (60 * o + j) (q + 1)))), (m18, .inl (cI, 60, .inl (hcp sc hd (60 * k + i) w)))] := by rw [← e_25]
      exact ih144 (q + 1) _ _ _ (show w - (q + 1) < w - q by omega) (show ((q + 1) ≤ w) from by omega) (kP_cast hP q_26) (kD_cast hD q_26) hS (lv_sub hl [0, 1, 2, 3, 4, 5, 6] rfl)
  · skip
    refine lv_aload_n hx hb dX11_copy_114 rfl (lv_at hl 1 rfl) ?_
    refine va_get (D := D) (ci := 11) (v := .ref m18) (C := RX11) (T := TX11) (N := 28) hx hb hts in_X11 hown hK hP 0 rfl rfl 26 (by decide) lk3 (fun _ h9 => h9) rfl dX11_copy_115 ?_
    refine lv_iload hx hb dX11_copy_118 (lv_at hl 0 rfl) ?_
    refine lv_aload_n hx hb dX11_copy_120 rfl (lv_at hl 1 rfl) ?_
    refine va_get (D := D) (ci := 11) (v := .ref m17) (C := RX11) (T := TX11) (N := 28) hx hb hts in_X11 hown hK hP 0 rfl rfl 25 (by decide) lk2 (fun _ h9 => h9) rfl dX11_copy_121 ?_
    refine lv_bipush (v := (nI 60)) hx hb dX11_copy_124 (by decide) ?_
    refine lv_iload_n hx hb dX11_copy_126 rfl (lv_at hl 2 rfl) ?_
    refine lv_imul hx hb dX11_copy_127 ?_
    refine k_eqi (show ((nI 60) * (nI k)) = (nI (60 * k)) from pk_mul 60 k) ?_
    refine lv_iload_n hx hb dX11_copy_128 rfl (lv_at hl 3 rfl) ?_
    refine lv_iadd hx hb dX11_copy_129 ?_
    refine k_eqi (show ((nI (60 * k)) + (nI i)) = (nI ((60 * k) + i)) from nI_add (60 * k) i) ?_
    refine lv_iload hx hb dX11_copy_130 (lv_at hl 0 rfl) ?_
    refine lv_iadd hx hb dX11_copy_132 ?_
    refine k_eqi (show ((nI ((60 * k) + i)) + (nI q)) = (nI (((60 * k) + i) + q)) from nI_add ((60 * k) + i) q) ?_
    refine k_iald hx hb hK hP 3 0 rfl rfl (show (((60 * k) + i) + q) < 240 by omega) (by decide) dX11_copy_133 ?_
    refine k_iast hx hb hK hP hD hS 4 0 rfl rfl (show q < 60 by omega) (by decide) dX11_copy_134 (fun H locs hP hD hS => ?_)
    have hP : va_P D vwCl [(hM, .inr (11, [.int (nI mf), .int (nI mn), .ref m1, .ref m2, .ref m3, .int (nI mb), .int (nI ra), .int (nI rn), .ref m4, .ref m5, .ref m6, .int (nI mw), .ref m7, .ref m8, .int (nI mh), .ref m9, .ref m10, .int (nI mm), .ref m11, .int (nI mr), .ref m12, .ref m13, .ref m14, .ref m15, .ref m16, .ref m17, .ref m18, .int mt])), (m15, .inl (cI, 4, .inl ss)), (m16, .inl (cI, 4, .inl (nA sl))), (m17, .inl (cI, 240, .inl sc)), (m18, .inl (cI, 60, .inl (upd (hcp sc hd (60 * k + i) q) q (sc (((60 * k) + i) + q)))))] H := hP
    have hD : va_D A [(hM, .inr (11, [.int (nI mf), .int (nI mn), .ref m1, .ref m2, .ref m3, .int (nI mb), .int (nI ra), .int (nI rn), .ref m4, .ref m5, .ref m6, .int (nI mw), .ref m7, .ref m8, .int (nI mh), .ref m9, .ref m10, .int (nI mm), .ref m11, .int (nI mr), .ref m12, .ref m13, .ref m14, .ref m15, .ref m16, .ref m17, .ref m18, .int mt])), (m15, .inl (cI, 4, .inl ss)), (m16, .inl (cI, 4, .inl (nA sl))), (m17, .inl (cI, 240, .inl sc)), (m18, .inl (cI, 60, .inl (upd (hcp sc hd (60 * k + i) q) q (sc (((60 * k) + i) + q)))))] := hD
    refine lv_iinc (v := (nI (q + 1))) (lv' := [(6, .int (nI (q + 1))), (0, .ref hM), (1, .int (nI k)), (2, .int (nI i)), (3, .int (nI o)), (4, .int (nI j)), (5, .int (nI w))]) hx hb dX11_copy_135 hl (k := 0) rfl (nI_inc q) (by decide) rfl (fun ls hl => ?_)
    refine lv_goto (tgt := 107) hx hb dX11_copy_138 (by decide) ?_
    have e_27 : (upd (hcp sc hd (60 * k + i) q) q (sc (((60 * k) + i) + q))) = (hcp sc hd (60 * k + i) (q + 1)) := by exact hcp_s _ _ _ q
    have q_28 : ([(hM, .inr (11, [.int (nI mf), .int (nI mn), .ref m1, .ref m2, .ref m3, .int (nI mb), .int (nI ra), .int (nI rn), .ref m4, .ref m5, .ref m6, .int (nI mw), .ref m7, .ref m8, .int (nI mh), .ref m9, .ref m10, .int (nI mm), .ref m11, .int (nI mr), .ref m12, .ref m13, .ref m14, .ref m15, .ref m16, .ref m17, .ref m18, .int mt])), (m15, .inl (cI, 4, .inl ss)), (m16, .inl (cI, 4, .inl (nA sl))), (m17, .inl (cI, 240, .inl sc)), (m18, .inl (cI, 60, .inl (upd (hcp sc hd (60 * k + i) q) q (sc (((60 * k) + i) + q)))))] : va_W) = [(hM, .inr (11, [.int (nI mf), .int (nI mn), .ref m1, .ref m2, .ref m3, .int (nI mb), .int (nI ra), .int (nI rn), .ref m4, .ref m5, .ref m6, .int (nI mw), .ref m7, .ref m8, .int (nI mh), .ref m9, .ref m10, .int (nI mm), .ref m11, .int (nI mr), .ref m12, .ref m13, .ref m14, .ref m15, .ref m16, .ref m17, .ref m18, .int mt])), (m15, .inl (cI, 4, .inl ss)), (m16, .inl (cI, 4, .inl (nA sl))), (m17, .inl (cI, 240, .inl sc)), (m18, .inl (cI, 60, .inl (hcp sc hd (60 * k + i) (q + 1))))] := by rw [← e_27]
    exact ih107 (q + 1) _ _ _ (show w - (q + 1) < w - q by omega) (show ((q + 1) ≤ w) from by omega) (kP_cast hP q_28) (kD_cast hD q_28) hS (lv_sub hl [0, 1, 2, 3, 4, 5, 6] rfl)
