/-- the first k of one row, then another's -/
def cpN (f g : Nat → Nat) (k : Nat) : Nat → Nat := fun i => if i < k then f i else g i
theorem cpN_0 (f g : Nat → Nat) : cpN f g 0 = g := by funext i; simp [cpN]
theorem cpN_s (f g : Nat → Nat) (k : Nat) : va_up (cpN f g k) k (f k) = cpN f g (k + 1) := by
  funext i
  by_cases h : i = k
  · subst h; simp [va_up, cpN]
  · have : i < k + 1 ↔ i < k := by omega
    simp [va_up, cpN, h, this]
theorem cpN_lt {f g : Nat → Nat} {B : Nat} (hf : ∀ i, f i < B) (hg : ∀ i, g i < B) (k : Nat) : ∀ i, cpN f g k i < B := by
  intro i; unfold cpN; split
  · exact hf i
  · exact hg i
/-- a row with the place k left out, up to j -/
def shf (f : Nat → Nat) (k j : Nat) : Nat → Nat := fun i => if k ≤ i ∧ i + 1 < j then f (i + 1) else f i
theorem shf_0 (f : Nat → Nat) (k : Nat) : shf f k (k + 1) = f := by
  funext i; unfold shf
  rw [if_neg (by omega)]
theorem shf_at (f : Nat → Nat) (k j : Nat) : shf f k j j = f j := by
  unfold shf
  rw [if_neg (by omega)]
theorem shf_s (f : Nat → Nat) {k j : Nat} (h : k < j) : va_up (shf f k j) (j - 1) (shf f k j j) = shf f k (j + 1) := by
  funext i
  rw [shf_at]
  unfold va_up shf
  by_cases e : i = j - 1
  · subst e
    rw [if_pos rfl, if_pos (by omega), show j - 1 + 1 = j by omega]
  · rw [if_neg e]
    by_cases c : k ≤ i ∧ i + 1 < j
    · rw [if_pos c, if_pos (by omega)]
    · rw [if_neg c, if_neg (by omega)]
theorem shf_lt {f : Nat → Nat} {B : Nat} (hf : ∀ i, f i < B) (k j : Nat) : ∀ i, shf f k j i < B := by
  intro i; unfold shf; split
  · exact hf _
  · exact hf i
theorem max0_ok {m : Nat} (h : m < 2 ^ 31) : (if (nI 0) < (nI m) then (nI m) else (nI 0)) = nI m := by
  by_cases e : 0 < m
  · exact if_pos (nI_lt e h)
  · have : m = 0 := by omega
    subst this; simp
def dmask (wd : Nat → Nat) : Nat → Nat
  | 0 => 0
  | k + 1 => dmask wd k ||| 2 ^ (wd k)
theorem lN_tb (n : Nat) : (lN n).toBitVec = BitVec.ofNat 64 n := rfl
theorem lN_or (a b : Nat) : lN a ||| lN b = lN (a ||| b) := by
  apply Int64.toBitVec.inj
  rw [Int64.toBitVec_or, lN_tb, lN_tb, lN_tb, BitVec.ofNat_or]
theorem lN_and (a b : Nat) : lN a &&& lN b = lN (a &&& b) := by
  apply Int64.toBitVec.inj
  rw [Int64.toBitVec_and, lN_tb, lN_tb, lN_tb, BitVec.ofNat_and]
theorem lN_shl0 : ∀ k, k < 40 → (lN 1) <<< ((nI k).toInt64 &&& 63) = lN (2 ^ k) := by decide +kernel
theorem lN_shl1 {k : Nat} (h : k < 40) : (lN 1) <<< ((nI k).toInt64 &&& 63) = lN (2 ^ k) := lN_shl0 k h
def rm_X7_addWord : Room := { frames := 0, cells := 0, slots := 0, locals := 0 }
set_option maxHeartbeats 4000000 in
set_option maxRecDepth 100000 in
theorem c_X7_addWord (l : Launch) (D : va_G) (cI cZ cS cP : ClassId) (hT : Nat) (a1 : Nat) (a2 : Nat) (a3 : Nat) (a4 : Nat) (wp : Nat → Nat) (wd : Nat → Nat) (ho : Nat → Nat) (hh : Nat → Nat) (nw : Nat) (nh : Nat) (B : Nat) (x : Nat) (y : Nat) (hwp : ∀ i, wp i < 7) (hwd : ∀ i, wd i < 40) (hho : ∀ i, ho i < 7) (hhh : ∀ i, hh i < 7) (hnw : nw < 13) (hxx : x < 7) (hyy : y < 40) : kMv (S := Unit) l yX7_addWord wsX7_addWord rm_X7_addWord D (kT cI cZ cS cP) [.ref hT, .int (nI x), .int (nI y)] [(hT, .inr (7, [.ref a1, .ref a2, .ref a3, .ref a4, .int (nI nw), .int (nI nh), .int (nI B)])), (a1, .inl (cI, 13, .inl (nA wp))), (a2, .inl (cI, 13, .inl (nA wd))), (a3, .inl (cI, 7, .inl (nA ho))), (a4, .inl (cI, 7, .inl (nA hh)))] (fun _ => True) (fun _ => [(hT, .inr (7, [.ref a1, .ref a2, .ref a3, .ref a4, .int (nI (nw + 1)), .int (nI nh), .int (nI B)])), (a1, .inl (cI, 13, .inl (nA (va_up wp nw x)))), (a2, .inl (cI, 13, .inl (nA (va_up wd nw y)))), (a3, .inl (cI, 7, .inl (nA ho))), (a4, .inl (cI, 7, .inl (nA hh)))]) := by
  refine kMet_v (cc := cX7_addWord) (maxL := 3) (by decide) rfl (Nat.le_of_ble_eq_true rfl) ?_
  intro p e s m args below meth c A Q ls C hlocks hin hN hK hP hD hS hA hl ret
  obtain ⟨hx, hb, hml, hown, hts⟩ := C
  have hl : lv_has ls 3 [(0, .ref hT), (1, .int (nI x)), (2, .int (nI y))] := hl
  have in_X7 : ∀ w ∈ wsX70, w ∈ wsX7_addWord := by decide +kernel
  have lk0 := hts (.fieldLink RX7 24 "SilkWord$Talk" "words" "I") (by decide +kernel)
  have lk1 := hts (.fieldLink RX7 9 "SilkWord$Talk" "places" "[I") (by decide +kernel)
  have lk2 := hts (.fieldLink RX7 15 "SilkWord$Talk" "days" "[I") (by decide +kernel)
  refine lv_aload_n hx hb dX7_addWord_0 rfl (lv_at hl 0 rfl) ?_
  refine va_get (D := D) (ci := 7) (v := .int (nI nw)) (C := RX7) (T := TX7) (N := 7) hx hb hts in_X7 hown hK hP 0 rfl rfl 4 (by decide) lk0 (fun _ h9 => h9) rfl dX7_addWord_1 ?_
  refine lv_aload_n hx hb dX7_addWord_4 rfl (lv_at hl 0 rfl) ?_
  refine va_get (D := D) (ci := 7) (v := .ref a1) (C := RX7) (T := TX7) (N := 7) hx hb hts in_X7 hown hK hP 0 rfl rfl 0 (by decide) lk1 (fun _ h9 => h9) rfl dX7_addWord_5 ?_
  refine va_alen (v := nI 13) hx hb hK hP 1 0 rfl rfl rfl dX7_addWord_8 ?_
  refine k_icmp_ge (tgt := 42) hx hb dX7_addWord_9 (by decide) (show nw < 2 ^ 31 by first | omega | (split <;> omega)) (show 13 < 2 ^ 31 by first | omega | (split <;> omega)) (fun c_1 => absurd c_1 (by omega)) (fun c_1 => ?_)
  refine lv_aload_n hx hb dX7_addWord_12 rfl (lv_at hl 0 rfl) ?_
  refine va_get (D := D) (ci := 7) (v := .ref a1) (C := RX7) (T := TX7) (N := 7) hx hb hts in_X7 hown hK hP 0 rfl rfl 0 (by decide) lk1 (fun _ h9 => h9) rfl dX7_addWord_13 ?_
  refine lv_aload_n hx hb dX7_addWord_16 rfl (lv_at hl 0 rfl) ?_
  refine va_get (D := D) (ci := 7) (v := .int (nI nw)) (C := RX7) (T := TX7) (N := 7) hx hb hts in_X7 hown hK hP 0 rfl rfl 4 (by decide) lk0 (fun _ h9 => h9) rfl dX7_addWord_17 ?_
  refine lv_iload_n hx hb dX7_addWord_20 rfl (lv_at hl 1 rfl) ?_
  refine k_iastN (y := x) hx hb hK hP hD hS 1 0 rfl rfl (show nw < 13 by omega) (by decide) dX7_addWord_21 (fun H locs hP hD hS => ?_)
  have hb_2 : ∀ i, (va_up wp nw x) i < 7 := up_lt hwp (show x < 7 by first | omega | (split <;> omega))
  have hP : va_P D vwCl [(hT, .inr (7, [.ref a1, .ref a2, .ref a3, .ref a4, .int (nI nw), .int (nI nh), .int (nI B)])), (a1, .inl (cI, 13, .inl (nA (va_up wp nw x)))), (a2, .inl (cI, 13, .inl (nA wd))), (a3, .inl (cI, 7, .inl (nA ho))), (a4, .inl (cI, 7, .inl (nA hh)))] H := hP
  have hD : va_D A [(hT, .inr (7, [.ref a1, .ref a2, .ref a3, .ref a4, .int (nI nw), .int (nI nh), .int (nI B)])), (a1, .inl (cI, 13, .inl (nA (va_up wp nw x)))), (a2, .inl (cI, 13, .inl (nA wd))), (a3, .inl (cI, 7, .inl (nA ho))), (a4, .inl (cI, 7, .inl (nA hh)))] := hD
  refine lv_aload_n hx hb dX7_addWord_22 rfl (lv_at hl 0 rfl) ?_
  refine va_get (D := D) (ci := 7) (v := .ref a2) (C := RX7) (T := TX7) (N := 7) hx hb hts in_X7 hown hK hP 0 rfl rfl 1 (by decide) lk2 (fun _ h9 => h9) rfl dX7_addWord_23 ?_
  refine lv_aload_n hx hb dX7_addWord_26 rfl (lv_at hl 0 rfl) ?_
  refine va_get (D := D) (ci := 7) (v := .int (nI nw)) (C := RX7) (T := TX7) (N := 7) hx hb hts in_X7 hown hK hP 0 rfl rfl 4 (by decide) lk0 (fun _ h9 => h9) rfl dX7_addWord_27 ?_
  refine lv_iload_n hx hb dX7_addWord_30 rfl (lv_at hl 2 rfl) ?_
  refine k_iastN (y := y) hx hb hK hP hD hS 2 0 rfl rfl (show nw < 13 by omega) (by decide) dX7_addWord_31 (fun H locs hP hD hS => ?_)
  have hb_3 : ∀ i, (va_up wd nw y) i < 40 := up_lt hwd (show y < 40 by first | omega | (split <;> omega))
  have hP : va_P D vwCl [(hT, .inr (7, [.ref a1, .ref a2, .ref a3, .ref a4, .int (nI nw), .int (nI nh), .int (nI B)])), (a1, .inl (cI, 13, .inl (nA (va_up wp nw x)))), (a2, .inl (cI, 13, .inl (nA (va_up wd nw y)))), (a3, .inl (cI, 7, .inl (nA ho))), (a4, .inl (cI, 7, .inl (nA hh)))] H := hP
  have hD : va_D A [(hT, .inr (7, [.ref a1, .ref a2, .ref a3, .ref a4, .int (nI nw), .int (nI nh), .int (nI B)])), (a1, .inl (cI, 13, .inl (nA (va_up wp nw x)))), (a2, .inl (cI, 13, .inl (nA (va_up wd nw y)))), (a3, .inl (cI, 7, .inl (nA ho))), (a4, .inl (cI, 7, .inl (nA hh)))] := hD
  refine lv_aload_n hx hb dX7_addWord_32 rfl (lv_at hl 0 rfl) ?_
  refine lv_dup hx hb dX7_addWord_33 rfl ?_
  refine va_get (D := D) (ci := 7) (v := .int (nI nw)) (C := RX7) (T := TX7) (N := 7) hx hb hts in_X7 hown hK hP 0 rfl rfl 4 (by decide) lk0 (fun _ h9 => h9) rfl dX7_addWord_34 ?_
  refine lv_iconst (v := (nI 1)) hx hb dX7_addWord_37 (by decide) ?_
  refine lv_iadd hx hb dX7_addWord_38 ?_
  refine k_eqi (show ((nI nw) + (nI 1)) = (nI (nw + 1)) from nI_add nw 1) ?_
  refine va_put (D := D) (ci := 7) (v := .int (nI (nw + 1))) (ty := .int) (C := RX7) (T := TX7) (N := 7) hx hb hts in_X7 tyX7 tyX7_ok nmX7 hown hK hP hD hS 0 rfl rfl 4 (by decide) lk0 (fun _ h9 => h9) rfl (by decide +kernel) rfl rfl (Nat.le_of_ble_eq_true rfl) dX7_addWord_39 (fun H locs hP hD hS => ?_)
  have hP : va_P D vwCl [(hT, .inr (7, [.ref a1, .ref a2, .ref a3, .ref a4, .int (nI (nw + 1)), .int (nI nh), .int (nI B)])), (a1, .inl (cI, 13, .inl (nA (va_up wp nw x)))), (a2, .inl (cI, 13, .inl (nA (va_up wd nw y)))), (a3, .inl (cI, 7, .inl (nA ho))), (a4, .inl (cI, 7, .inl (nA hh)))] H := hP
  have hD : va_D A [(hT, .inr (7, [.ref a1, .ref a2, .ref a3, .ref a4, .int (nI (nw + 1)), .int (nI nh), .int (nI B)])), (a1, .inl (cI, 13, .inl (nA (va_up wp nw x)))), (a2, .inl (cI, 13, .inl (nA (va_up wd nw y)))), (a3, .inl (cI, 7, .inl (nA ho))), (a4, .inl (cI, 7, .inl (nA hh)))] := hD
  exact ret () _ _ _ _ dX7_addWord_42 trivial hP hD hS
def rm_X7_addWhisper : Room := { frames := 0, cells := 0, slots := 0, locals := 0 }
set_option maxHeartbeats 4000000 in
set_option maxRecDepth 100000 in
theorem c_X7_addWhisper (l : Launch) (D : va_G) (cI cZ cS cP : ClassId) (hT : Nat) (a1 : Nat) (a2 : Nat) (a3 : Nat) (a4 : Nat) (wp : Nat → Nat) (wd : Nat → Nat) (ho : Nat → Nat) (hh : Nat → Nat) (nw : Nat) (nh : Nat) (B : Nat) (x : Nat) (y : Nat) (hwp : ∀ i, wp i < 7) (hwd : ∀ i, wd i < 40) (hho : ∀ i, ho i < 7) (hhh : ∀ i, hh i < 7) (hnh : nh < 7) (hxx : x < 7) (hyy : y < 7) : kMv (S := Unit) l yX7_addWhisper wsX7_addWhisper rm_X7_addWhisper D (kT cI cZ cS cP) [.ref hT, .int (nI x), .int (nI y)] [(hT, .inr (7, [.ref a1, .ref a2, .ref a3, .ref a4, .int (nI nw), .int (nI nh), .int (nI B)])), (a1, .inl (cI, 13, .inl (nA wp))), (a2, .inl (cI, 13, .inl (nA wd))), (a3, .inl (cI, 7, .inl (nA ho))), (a4, .inl (cI, 7, .inl (nA hh)))] (fun _ => True) (fun _ => [(hT, .inr (7, [.ref a1, .ref a2, .ref a3, .ref a4, .int (nI nw), .int (nI (nh + 1)), .int (nI B)])), (a1, .inl (cI, 13, .inl (nA wp))), (a2, .inl (cI, 13, .inl (nA wd))), (a3, .inl (cI, 7, .inl (nA (va_up ho nh x)))), (a4, .inl (cI, 7, .inl (nA (va_up hh nh y))))]) := by
  refine kMet_v (cc := cX7_addWhisper) (maxL := 3) (by decide) rfl (Nat.le_of_ble_eq_true rfl) ?_
  intro p e s m args below meth c A Q ls C hlocks hin hN hK hP hD hS hA hl ret
  obtain ⟨hx, hb, hml, hown, hts⟩ := C
  have hl : lv_has ls 3 [(0, .ref hT), (1, .int (nI x)), (2, .int (nI y))] := hl
  have in_X7 : ∀ w ∈ wsX70, w ∈ wsX7_addWhisper := by decide +kernel
  have lk0 := hts (.fieldLink RX7 28 "SilkWord$Talk" "whisperCount" "I") (by decide +kernel)
  have lk1 := hts (.fieldLink RX7 18 "SilkWord$Talk" "ones" "[I") (by decide +kernel)
  have lk2 := hts (.fieldLink RX7 21 "SilkWord$Talk" "others" "[I") (by decide +kernel)
  refine lv_aload_n hx hb dX7_addWhisper_0 rfl (lv_at hl 0 rfl) ?_
  refine va_get (D := D) (ci := 7) (v := .int (nI nh)) (C := RX7) (T := TX7) (N := 7) hx hb hts in_X7 hown hK hP 0 rfl rfl 5 (by decide) lk0 (fun _ h9 => h9) rfl dX7_addWhisper_1 ?_
  refine lv_aload_n hx hb dX7_addWhisper_4 rfl (lv_at hl 0 rfl) ?_
  refine va_get (D := D) (ci := 7) (v := .ref a3) (C := RX7) (T := TX7) (N := 7) hx hb hts in_X7 hown hK hP 0 rfl rfl 2 (by decide) lk1 (fun _ h9 => h9) rfl dX7_addWhisper_5 ?_
  refine va_alen (v := nI 7) hx hb hK hP 3 0 rfl rfl rfl dX7_addWhisper_8 ?_
  refine k_icmp_ge (tgt := 42) hx hb dX7_addWhisper_9 (by decide) (show nh < 2 ^ 31 by first | omega | (split <;> omega)) (show 7 < 2 ^ 31 by first | omega | (split <;> omega)) (fun c_1 => absurd c_1 (by omega)) (fun c_1 => ?_)
  refine lv_aload_n hx hb dX7_addWhisper_12 rfl (lv_at hl 0 rfl) ?_
  refine va_get (D := D) (ci := 7) (v := .ref a3) (C := RX7) (T := TX7) (N := 7) hx hb hts in_X7 hown hK hP 0 rfl rfl 2 (by decide) lk1 (fun _ h9 => h9) rfl dX7_addWhisper_13 ?_
  refine lv_aload_n hx hb dX7_addWhisper_16 rfl (lv_at hl 0 rfl) ?_
  refine va_get (D := D) (ci := 7) (v := .int (nI nh)) (C := RX7) (T := TX7) (N := 7) hx hb hts in_X7 hown hK hP 0 rfl rfl 5 (by decide) lk0 (fun _ h9 => h9) rfl dX7_addWhisper_17 ?_
  refine lv_iload_n hx hb dX7_addWhisper_20 rfl (lv_at hl 1 rfl) ?_
  refine k_iastN (y := x) hx hb hK hP hD hS 3 0 rfl rfl (show nh < 7 by omega) (by decide) dX7_addWhisper_21 (fun H locs hP hD hS => ?_)
  have hb_2 : ∀ i, (va_up ho nh x) i < 7 := up_lt hho (show x < 7 by first | omega | (split <;> omega))
  have hP : va_P D vwCl [(hT, .inr (7, [.ref a1, .ref a2, .ref a3, .ref a4, .int (nI nw), .int (nI nh), .int (nI B)])), (a1, .inl (cI, 13, .inl (nA wp))), (a2, .inl (cI, 13, .inl (nA wd))), (a3, .inl (cI, 7, .inl (nA (va_up ho nh x)))), (a4, .inl (cI, 7, .inl (nA hh)))] H := hP
  have hD : va_D A [(hT, .inr (7, [.ref a1, .ref a2, .ref a3, .ref a4, .int (nI nw), .int (nI nh), .int (nI B)])), (a1, .inl (cI, 13, .inl (nA wp))), (a2, .inl (cI, 13, .inl (nA wd))), (a3, .inl (cI, 7, .inl (nA (va_up ho nh x)))), (a4, .inl (cI, 7, .inl (nA hh)))] := hD
  refine lv_aload_n hx hb dX7_addWhisper_22 rfl (lv_at hl 0 rfl) ?_
  refine va_get (D := D) (ci := 7) (v := .ref a4) (C := RX7) (T := TX7) (N := 7) hx hb hts in_X7 hown hK hP 0 rfl rfl 3 (by decide) lk2 (fun _ h9 => h9) rfl dX7_addWhisper_23 ?_
  refine lv_aload_n hx hb dX7_addWhisper_26 rfl (lv_at hl 0 rfl) ?_
  refine va_get (D := D) (ci := 7) (v := .int (nI nh)) (C := RX7) (T := TX7) (N := 7) hx hb hts in_X7 hown hK hP 0 rfl rfl 5 (by decide) lk0 (fun _ h9 => h9) rfl dX7_addWhisper_27 ?_
  refine lv_iload_n hx hb dX7_addWhisper_30 rfl (lv_at hl 2 rfl) ?_
  refine k_iastN (y := y) hx hb hK hP hD hS 4 0 rfl rfl (show nh < 7 by omega) (by decide) dX7_addWhisper_31 (fun H locs hP hD hS => ?_)
  have hb_3 : ∀ i, (va_up hh nh y) i < 7 := up_lt hhh (show y < 7 by first | omega | (split <;> omega))
  have hP : va_P D vwCl [(hT, .inr (7, [.ref a1, .ref a2, .ref a3, .ref a4, .int (nI nw), .int (nI nh), .int (nI B)])), (a1, .inl (cI, 13, .inl (nA wp))), (a2, .inl (cI, 13, .inl (nA wd))), (a3, .inl (cI, 7, .inl (nA (va_up ho nh x)))), (a4, .inl (cI, 7, .inl (nA (va_up hh nh y))))] H := hP
  have hD : va_D A [(hT, .inr (7, [.ref a1, .ref a2, .ref a3, .ref a4, .int (nI nw), .int (nI nh), .int (nI B)])), (a1, .inl (cI, 13, .inl (nA wp))), (a2, .inl (cI, 13, .inl (nA wd))), (a3, .inl (cI, 7, .inl (nA (va_up ho nh x)))), (a4, .inl (cI, 7, .inl (nA (va_up hh nh y))))] := hD
  refine lv_aload_n hx hb dX7_addWhisper_32 rfl (lv_at hl 0 rfl) ?_
  refine lv_dup hx hb dX7_addWhisper_33 rfl ?_
  refine va_get (D := D) (ci := 7) (v := .int (nI nh)) (C := RX7) (T := TX7) (N := 7) hx hb hts in_X7 hown hK hP 0 rfl rfl 5 (by decide) lk0 (fun _ h9 => h9) rfl dX7_addWhisper_34 ?_
  refine lv_iconst (v := (nI 1)) hx hb dX7_addWhisper_37 (by decide) ?_
  refine lv_iadd hx hb dX7_addWhisper_38 ?_
  refine k_eqi (show ((nI nh) + (nI 1)) = (nI (nh + 1)) from nI_add nh 1) ?_
  refine va_put (D := D) (ci := 7) (v := .int (nI (nh + 1))) (ty := .int) (C := RX7) (T := TX7) (N := 7) hx hb hts in_X7 tyX7 tyX7_ok nmX7 hown hK hP hD hS 0 rfl rfl 5 (by decide) lk0 (fun _ h9 => h9) rfl (by decide +kernel) rfl rfl (Nat.le_of_ble_eq_true rfl) dX7_addWhisper_39 (fun H locs hP hD hS => ?_)
  have hP : va_P D vwCl [(hT, .inr (7, [.ref a1, .ref a2, .ref a3, .ref a4, .int (nI nw), .int (nI (nh + 1)), .int (nI B)])), (a1, .inl (cI, 13, .inl (nA wp))), (a2, .inl (cI, 13, .inl (nA wd))), (a3, .inl (cI, 7, .inl (nA (va_up ho nh x)))), (a4, .inl (cI, 7, .inl (nA (va_up hh nh y))))] H := hP
  have hD : va_D A [(hT, .inr (7, [.ref a1, .ref a2, .ref a3, .ref a4, .int (nI nw), .int (nI (nh + 1)), .int (nI B)])), (a1, .inl (cI, 13, .inl (nA wp))), (a2, .inl (cI, 13, .inl (nA wd))), (a3, .inl (cI, 7, .inl (nA (va_up ho nh x)))), (a4, .inl (cI, 7, .inl (nA (va_up hh nh y))))] := hD
  exact ret () _ _ _ _ dX7_addWhisper_42 trivial hP hD hS
def rm_X7_dropWords : Room := { frames := 1, cells := 0, slots := 0, locals := 24 }
set_option maxHeartbeats 4000000 in
set_option maxRecDepth 100000 in
theorem c_X7_dropWords (l : Launch) (D : va_G) (cI cZ cS cP : ClassId) (hT : Nat) (a1 : Nat) (a2 : Nat) (a3 : Nat) (a4 : Nat) (wp : Nat → Nat) (wd : Nat → Nat) (ho : Nat → Nat) (hh : Nat → Nat) (nw : Nat) (nh : Nat) (B : Nat) (k : Nat) (hnw : nw ≤ 13) (hk : k ≤ nw) : kMv (S := Unit) l yX7_dropWords wsX7_dropWords rm_X7_dropWords D (kT cI cZ cS cP) [.ref hT, .int (nI k)] [(hT, .inr (7, [.ref a1, .ref a2, .ref a3, .ref a4, .int (nI nw), .int (nI nh), .int (nI B)])), (a1, .inl (cI, 13, .inl (nA wp))), (a2, .inl (cI, 13, .inl (nA wd))), (a3, .inl (cI, 7, .inl (nA ho))), (a4, .inl (cI, 7, .inl (nA hh)))] (fun _ => True) (fun _ => [(hT, .inr (7, [.ref a1, .ref a2, .ref a3, .ref a4, .int (nI (nw - k)), .int (nI nh), .int (nI B)])), (a1, .inl (cI, 13, .inl (nA wp))), (a2, .inl (cI, 13, .inl (nA wd))), (a3, .inl (cI, 7, .inl (nA ho))), (a4, .inl (cI, 7, .inl (nA hh)))]) := by
  refine kMet_v (cc := cX7_dropWords) (maxL := 2) (by decide) rfl (Nat.le_of_ble_eq_true rfl) ?_
  intro p e s m args below meth c A Q ls C hlocks hin hN hK hP hD hS hA hl ret
  obtain ⟨hx, hb, hml, hown, hts⟩ := C
  have hl : lv_has ls 2 [(0, .ref hT), (1, .int (nI k))] := hl
  have in_X7 : ∀ w ∈ wsX70, w ∈ wsX7_dropWords := by decide +kernel
  have lk0 := hts (.fieldLink RX7 24 "SilkWord$Talk" "words" "I") (by decide +kernel)
  have lk1 := hts (.methodLink RX7 44 Lib.Math.max.name) (by decide +kernel)
  have lk2 := hts (.static Lib.Math.max.name) (by decide +kernel)
  have lk3 := hts (.initialized "java/lang/Math") (by decide +kernel)
  have lk4 := hts (.code Lib.Math.max.name Lib.Math.max.code 2 (some .int)) (by decide +kernel)
  refine lv_aload_n hx hb dX7_dropWords_0 rfl (lv_at hl 0 rfl) ?_
  refine lv_iconst (v := (nI 0)) hx hb dX7_dropWords_1 (by decide) ?_
  refine lv_aload_n hx hb dX7_dropWords_2 rfl (lv_at hl 0 rfl) ?_
  refine va_get (D := D) (ci := 7) (v := .int (nI nw)) (C := RX7) (T := TX7) (N := 7) hx hb hts in_X7 hown hK hP 0 rfl rfl 4 (by decide) lk0 (fun _ h9 => h9) rfl dX7_dropWords_3 ?_
  refine lv_iload_n hx hb dX7_dropWords_6 rfl (lv_at hl 1 rfl) ?_
  refine lv_isub hx hb dX7_dropWords_7 ?_
  refine k_eqi (show ((nI nw) - (nI k)) = (nI (nw - k)) from pk_sub (show k ≤ nw by omega)) ?_
  refine va_mmax hx hb (by rw [hml]; exact hl.1.symm) hown lk1 lk2 lk3 lk4 (Nat.le_of_ble_eq_true rfl) (Nat.le_of_ble_eq_true rfl) (by decide) (by decide) dX7_dropWords_8 ?_
  refine k_eqi (show (if (nI 0) < (nI (nw - k)) then (nI (nw - k)) else (nI 0)) = (nI (nw - k)) from max0_ok (show nw - k < 2 ^ 31 by omega)) ?_
  refine va_put (D := D) (ci := 7) (v := .int (nI (nw - k))) (ty := .int) (C := RX7) (T := TX7) (N := 7) hx hb hts in_X7 tyX7 tyX7_ok nmX7 hown hK hP hD hS 0 rfl rfl 4 (by decide) lk0 (fun _ h9 => h9) rfl (by decide +kernel) rfl rfl (Nat.le_of_ble_eq_true rfl) dX7_dropWords_11 (fun H locs hP hD hS => ?_)
  have hP : va_P D vwCl [(hT, .inr (7, [.ref a1, .ref a2, .ref a3, .ref a4, .int (nI (nw - k)), .int (nI nh), .int (nI B)])), (a1, .inl (cI, 13, .inl (nA wp))), (a2, .inl (cI, 13, .inl (nA wd))), (a3, .inl (cI, 7, .inl (nA ho))), (a4, .inl (cI, 7, .inl (nA hh)))] H := hP
  have hD : va_D A [(hT, .inr (7, [.ref a1, .ref a2, .ref a3, .ref a4, .int (nI (nw - k)), .int (nI nh), .int (nI B)])), (a1, .inl (cI, 13, .inl (nA wp))), (a2, .inl (cI, 13, .inl (nA wd))), (a3, .inl (cI, 7, .inl (nA ho))), (a4, .inl (cI, 7, .inl (nA hh)))] := hD
  exact ret () _ _ _ _ dX7_dropWords_14 trivial hP hD hS
def rm_X7_dropWhispers : Room := { frames := 1, cells := 0, slots := 0, locals := 24 }
set_option maxHeartbeats 4000000 in
set_option maxRecDepth 100000 in
theorem c_X7_dropWhispers (l : Launch) (D : va_G) (cI cZ cS cP : ClassId) (hT : Nat) (a1 : Nat) (a2 : Nat) (a3 : Nat) (a4 : Nat) (wp : Nat → Nat) (wd : Nat → Nat) (ho : Nat → Nat) (hh : Nat → Nat) (nw : Nat) (nh : Nat) (B : Nat) (k : Nat) (hnh : nh ≤ 7) (hk : k ≤ nh) : kMv (S := Unit) l yX7_dropWhispers wsX7_dropWhispers rm_X7_dropWhispers D (kT cI cZ cS cP) [.ref hT, .int (nI k)] [(hT, .inr (7, [.ref a1, .ref a2, .ref a3, .ref a4, .int (nI nw), .int (nI nh), .int (nI B)])), (a1, .inl (cI, 13, .inl (nA wp))), (a2, .inl (cI, 13, .inl (nA wd))), (a3, .inl (cI, 7, .inl (nA ho))), (a4, .inl (cI, 7, .inl (nA hh)))] (fun _ => True) (fun _ => [(hT, .inr (7, [.ref a1, .ref a2, .ref a3, .ref a4, .int (nI nw), .int (nI (nh - k)), .int (nI B)])), (a1, .inl (cI, 13, .inl (nA wp))), (a2, .inl (cI, 13, .inl (nA wd))), (a3, .inl (cI, 7, .inl (nA ho))), (a4, .inl (cI, 7, .inl (nA hh)))]) := by
  refine kMet_v (cc := cX7_dropWhispers) (maxL := 2) (by decide) rfl (Nat.le_of_ble_eq_true rfl) ?_
  intro p e s m args below meth c A Q ls C hlocks hin hN hK hP hD hS hA hl ret
  obtain ⟨hx, hb, hml, hown, hts⟩ := C
  have hl : lv_has ls 2 [(0, .ref hT), (1, .int (nI k))] := hl
  have in_X7 : ∀ w ∈ wsX70, w ∈ wsX7_dropWhispers := by decide +kernel
  have lk0 := hts (.fieldLink RX7 28 "SilkWord$Talk" "whisperCount" "I") (by decide +kernel)
  have lk1 := hts (.methodLink RX7 44 Lib.Math.max.name) (by decide +kernel)
  have lk2 := hts (.static Lib.Math.max.name) (by decide +kernel)
  have lk3 := hts (.initialized "java/lang/Math") (by decide +kernel)
  have lk4 := hts (.code Lib.Math.max.name Lib.Math.max.code 2 (some .int)) (by decide +kernel)
  refine lv_aload_n hx hb dX7_dropWhispers_0 rfl (lv_at hl 0 rfl) ?_
  refine lv_iconst (v := (nI 0)) hx hb dX7_dropWhispers_1 (by decide) ?_
  refine lv_aload_n hx hb dX7_dropWhispers_2 rfl (lv_at hl 0 rfl) ?_
  refine va_get (D := D) (ci := 7) (v := .int (nI nh)) (C := RX7) (T := TX7) (N := 7) hx hb hts in_X7 hown hK hP 0 rfl rfl 5 (by decide) lk0 (fun _ h9 => h9) rfl dX7_dropWhispers_3 ?_
  refine lv_iload_n hx hb dX7_dropWhispers_6 rfl (lv_at hl 1 rfl) ?_
  refine lv_isub hx hb dX7_dropWhispers_7 ?_
  refine k_eqi (show ((nI nh) - (nI k)) = (nI (nh - k)) from pk_sub (show k ≤ nh by omega)) ?_
  refine va_mmax hx hb (by rw [hml]; exact hl.1.symm) hown lk1 lk2 lk3 lk4 (Nat.le_of_ble_eq_true rfl) (Nat.le_of_ble_eq_true rfl) (by decide) (by decide) dX7_dropWhispers_8 ?_
  refine k_eqi (show (if (nI 0) < (nI (nh - k)) then (nI (nh - k)) else (nI 0)) = (nI (nh - k)) from max0_ok (show nh - k < 2 ^ 31 by omega)) ?_
  refine va_put (D := D) (ci := 7) (v := .int (nI (nh - k))) (ty := .int) (C := RX7) (T := TX7) (N := 7) hx hb hts in_X7 tyX7 tyX7_ok nmX7 hown hK hP hD hS 0 rfl rfl 5 (by decide) lk0 (fun _ h9 => h9) rfl (by decide +kernel) rfl rfl (Nat.le_of_ble_eq_true rfl) dX7_dropWhispers_11 (fun H locs hP hD hS => ?_)
  have hP : va_P D vwCl [(hT, .inr (7, [.ref a1, .ref a2, .ref a3, .ref a4, .int (nI nw), .int (nI (nh - k)), .int (nI B)])), (a1, .inl (cI, 13, .inl (nA wp))), (a2, .inl (cI, 13, .inl (nA wd))), (a3, .inl (cI, 7, .inl (nA ho))), (a4, .inl (cI, 7, .inl (nA hh)))] H := hP
  have hD : va_D A [(hT, .inr (7, [.ref a1, .ref a2, .ref a3, .ref a4, .int (nI nw), .int (nI (nh - k)), .int (nI B)])), (a1, .inl (cI, 13, .inl (nA wp))), (a2, .inl (cI, 13, .inl (nA wd))), (a3, .inl (cI, 7, .inl (nA ho))), (a4, .inl (cI, 7, .inl (nA hh)))] := hD
  exact ret () _ _ _ _ dX7_dropWhispers_14 trivial hP hD hS
def rm_X7_bribed : Room := { frames := 1, cells := 0, slots := 0, locals := 21 }
set_option maxHeartbeats 4000000 in
set_option maxRecDepth 100000 in
theorem c_X7_bribed (l : Launch) (D : va_G) (cI cZ cS cP : ClassId) (hT : Nat) (a1 : Nat) (a2 : Nat) (a3 : Nat) (a4 : Nat) (wp : Nat → Nat) (wd : Nat → Nat) (ho : Nat → Nat) (hh : Nat → Nat) (nw : Nat) (nh : Nat) (B : Nat) (k : Nat) (hB : B < 128) (hk : k < 7) : kMi (S := Unit) l yX7_bribed wsX7_bribed rm_X7_bribed D (kT cI cZ cS cP) [.ref hT, .int (nI k)] [(hT, .inr (7, [.ref a1, .ref a2, .ref a3, .ref a4, .int (nI nw), .int (nI nh), .int (nI B)])), (a1, .inl (cI, 13, .inl (nA wp))), (a2, .inl (cI, 13, .inl (nA wd))), (a3, .inl (cI, 7, .inl (nA ho))), (a4, .inl (cI, 7, .inl (nA hh)))] (fun r _ => r = (nI (if B.testBit k = true then 1 else 0))) (fun _ => [(hT, .inr (7, [.ref a1, .ref a2, .ref a3, .ref a4, .int (nI nw), .int (nI nh), .int (nI B)])), (a1, .inl (cI, 13, .inl (nA wp))), (a2, .inl (cI, 13, .inl (nA wd))), (a3, .inl (cI, 7, .inl (nA ho))), (a4, .inl (cI, 7, .inl (nA hh)))]) := by
  refine kMet_i (cc := cX7_bribed) (maxL := 2) (ty := .boolean) (by decide) rfl (Nat.le_of_ble_eq_true rfl) (fun _ _ q => by (first | subst q | (obtain ⟨q, -⟩ := q; subst q)); (first | exact kz_nr | decide)) ?_
  intro p e s m args below meth c A Q ls C hlocks hin hN hK hP hD hS hA hl ret
  obtain ⟨hx, hb, hml, hown, hts⟩ := C
  have hl : lv_has ls 2 [(0, .ref hT), (1, .int (nI k))] := hl
  have in_X7 : ∀ w ∈ wsX70, w ∈ wsX7_bribed := by decide +kernel
  have lk0 := hts (.fieldLink RX7 31 "SilkWord$Talk" "bribedSet" "I") (by decide +kernel)
  have lk1 := hts (.initialized RX10) (by decide +kernel)
  have lk2 := hts (.static yX10_isIn) (by decide +kernel)
  refine lv_aload_n hx hb dX7_bribed_0 rfl (lv_at hl 0 rfl) ?_
  refine va_get (D := D) (ci := 7) (v := .int (nI B)) (C := RX7) (T := TX7) (N := 7) hx hb hts in_X7 hown hK hP 0 rfl rfl 6 (by decide) lk0 (fun _ h9 => h9) rfl dX7_bribed_1 ?_
  refine lv_iload_n hx hb dX7_bribed_4 rfl (lv_at hl 1 rfl) ?_
  refine k_goi (S := Unit) (va_runSN (As := [.int (nI B), .int (nI k)]) (rest := []) ⟨hx, hb, hml, hown, hts⟩ (c_X10_isIn l D cI cZ cS cP B k (by first | assumption | omega) (by first | assumption | omega) _) ⟨va_cnB 2 hts gX7_bribed_X10_isIn_n54 rfl rfl rfl hN.2.2.2.2.2.2.2.2.1 lk1 (by decide +kernel) ⟨Nat.le_of_ble_eq_true rfl, Nat.le_of_ble_eq_true rfl⟩, lk2, trivial⟩ (kPreS hN hK hP hD [] rfl rfl) rfl rfl hl.1 rfl (lv_room (Nat.le_of_ble_eq_true rfl)) dX7_bribed_5 ⟨Nat.le_of_ble_eq_true rfl, Nat.le_of_ble_eq_true rfl⟩) hP hD hS hA [] rfl [] rfl (fun _ => rfl) 5 [0, 1, 2, 3, 4] rfl (fun _u => [(hT, .inr (7, [.ref a1, .ref a2, .ref a3, .ref a4, .int (nI nw), .int (nI nh), .int (nI B)])), (a1, .inl (cI, 13, .inl (nA wp))), (a2, .inl (cI, 13, .inl (nA wd))), (a3, .inl (cI, 7, .inl (nA ho))), (a4, .inl (cI, 7, .inl (nA hh)))]) (fun _ => rfl) [(hT, .inr (7, [.ref a1, .ref a2, .ref a3, .ref a4, .int (nI nw), .int (nI nh), .int (nI B)])), (a1, .inl (cI, 13, .inl (nA wp))), (a2, .inl (cI, 13, .inl (nA wd))), (a3, .inl (cI, 7, .inl (nA ho))), (a4, .inl (cI, 7, .inl (nA hh)))] [] (fun _ => rfl) rfl (fun _ => rfl) rfl (fun r_1 _u H locs hr_2 hP hD hS => ?_)
  have hP : va_P D vwCl [(hT, .inr (7, [.ref a1, .ref a2, .ref a3, .ref a4, .int (nI nw), .int (nI nh), .int (nI B)])), (a1, .inl (cI, 13, .inl (nA wp))), (a2, .inl (cI, 13, .inl (nA wd))), (a3, .inl (cI, 7, .inl (nA ho))), (a4, .inl (cI, 7, .inl (nA hh)))] H := hP
  have hD : va_D A [(hT, .inr (7, [.ref a1, .ref a2, .ref a3, .ref a4, .int (nI nw), .int (nI nh), .int (nI B)])), (a1, .inl (cI, 13, .inl (nA wp))), (a2, .inl (cI, 13, .inl (nA wd))), (a3, .inl (cI, 7, .inl (nA ho))), (a4, .inl (cI, 7, .inl (nA hh)))] := hD
  subst hr_2
  exact ret _ () _ _ _ _ dX7_bribed_8 (rfl) hP hD hS
def rm_X7_dropWordAt : Room := { frames := 2, cells := 0, slots := 0, locals := 45 }
set_option maxHeartbeats 4000000 in
set_option maxRecDepth 100000 in
theorem c_X7_dropWordAt (l : Launch) (D : va_G) (cI cZ cS cP : ClassId) (hT : Nat) (a1 : Nat) (a2 : Nat) (a3 : Nat) (a4 : Nat) (wp : Nat → Nat) (wd : Nat → Nat) (ho : Nat → Nat) (hh : Nat → Nat) (nw : Nat) (nh : Nat) (B : Nat) (k : Nat) (hwp : ∀ i, wp i < 7) (hwd : ∀ i, wd i < 40) (hho : ∀ i, ho i < 7) (hhh : ∀ i, hh i < 7) (hnw : nw ≤ 13) (hk : k < nw) : kMv (S := Unit) l yX7_dropWordAt wsX7_dropWordAt rm_X7_dropWordAt D (kT cI cZ cS cP) [.ref hT, .int (nI k)] [(hT, .inr (7, [.ref a1, .ref a2, .ref a3, .ref a4, .int (nI nw), .int (nI nh), .int (nI B)])), (a1, .inl (cI, 13, .inl (nA wp))), (a2, .inl (cI, 13, .inl (nA wd))), (a3, .inl (cI, 7, .inl (nA ho))), (a4, .inl (cI, 7, .inl (nA hh)))] (fun _ => True) (fun _ => [(hT, .inr (7, [.ref a1, .ref a2, .ref a3, .ref a4, .int (nI (nw - 1)), .int (nI nh), .int (nI B)])), (a1, .inl (cI, 13, .inl (nA (shf wp k nw)))), (a2, .inl (cI, 13, .inl (nA (shf wd k nw)))), (a3, .inl (cI, 7, .inl (nA ho))), (a4, .inl (cI, 7, .inl (nA hh)))]) := by
  refine kMet_v (cc := cX7_dropWordAt) (maxL := 3) (by decide) rfl (Nat.le_of_ble_eq_true rfl) ?_
  intro p e s m args below meth c A Q ls C hlocks hin hN hK hP hD hS hA hl ret
  obtain ⟨hx, hb, hml, hown, hts⟩ := C
  have hl : lv_has ls 3 [(0, .ref hT), (1, .int (nI k))] := hl
  have in_X7 : ∀ w ∈ wsX70, w ∈ wsX7_dropWordAt := by decide +kernel
  have lk0 := hts (.fieldLink RX7 24 "SilkWord$Talk" "words" "I") (by decide +kernel)
  have lk1 := hts (.fieldLink RX7 9 "SilkWord$Talk" "places" "[I") (by decide +kernel)
  have lk2 := hts (.fieldLink RX7 15 "SilkWord$Talk" "days" "[I") (by decide +kernel)
  refine lv_iload_n hx hb dX7_dropWordAt_0 rfl (lv_at hl 1 rfl) ?_
  refine lv_iconst (v := (nI 1)) hx hb dX7_dropWordAt_1 (by decide) ?_
  refine lv_iadd hx hb dX7_dropWordAt_2 ?_
  refine k_eqi (show ((nI k) + (nI 1)) = (nI (k + 1)) from nI_add k 1) ?_
  refine lv_istore_n (lv' := [(2, .int (nI (k + 1))), (0, .ref hT), (1, .int (nI k))]) hx hb dX7_dropWordAt_3 rfl hl (by decide) rfl (fun ls hl => ?_)
  have e_1 : nA wp = nA (shf wp k (k + 1)) := congrArg nA (show wp = (shf wp k (k + 1)) by exact (shf_0 wp k).symm)
  have e_2 : nA wd = nA (shf wd k (k + 1)) := congrArg nA (show wd = (shf wd k (k + 1)) by exact (shf_0 wd k).symm)
  have q_3 : ([(hT, .inr (7, [.ref a1, .ref a2, .ref a3, .ref a4, .int (nI nw), .int (nI nh), .int (nI B)])), (a1, .inl (cI, 13, .inl (nA wp))), (a2, .inl (cI, 13, .inl (nA wd))), (a3, .inl (cI, 7, .inl (nA ho))), (a4, .inl (cI, 7, .inl (nA hh)))] : va_W) = [(hT, .inr (7, [.ref a1, .ref a2, .ref a3, .ref a4, .int (nI nw), .int (nI nh), .int (nI B)])), (a1, .inl (cI, 13, .inl (nA (shf wp k (k + 1))))), (a2, .inl (cI, 13, .inl (nA (shf wd k (k + 1))))), (a3, .inl (cI, 7, .inl (nA ho))), (a4, .inl (cI, 7, .inl (nA hh)))] := by rw [← e_1, ← e_2]
  refine k_loop (α := Nat) (nL := 3) (fun j => nw - j) (fun j => [(hT, .inr (7, [.ref a1, .ref a2, .ref a3, .ref a4, .int (nI nw), .int (nI nh), .int (nI B)])), (a1, .inl (cI, 13, .inl (nA (shf wp k j)))), (a2, .inl (cI, 13, .inl (nA (shf wd k j)))), (a3, .inl (cI, 7, .inl (nA ho))), (a4, .inl (cI, 7, .inl (nA hh)))]) (fun j => [(2, .int (nI j)), (0, .ref hT), (1, .int (nI k))]) (fun j => (k + 1 ≤ j ∧ j ≤ nw)) ?_ (k + 1) (show (k + 1 ≤ (k + 1) ∧ (k + 1) ≤ nw) from by omega) (kP_cast hP q_3) (kD_cast hD q_3) hS (lv_sub hl [0, 1, 2] rfl)
  clear hP hD hS hl
  intro j H locs ls hI hP hD hS hl ih4
  have hj : (k + 1 ≤ j ∧ j ≤ nw) := hI
  have hP : va_P D vwCl [(hT, .inr (7, [.ref a1, .ref a2, .ref a3, .ref a4, .int (nI nw), .int (nI nh), .int (nI B)])), (a1, .inl (cI, 13, .inl (nA (shf wp k j)))), (a2, .inl (cI, 13, .inl (nA (shf wd k j)))), (a3, .inl (cI, 7, .inl (nA ho))), (a4, .inl (cI, 7, .inl (nA hh)))] H := hP
  have hD : va_D A [(hT, .inr (7, [.ref a1, .ref a2, .ref a3, .ref a4, .int (nI nw), .int (nI nh), .int (nI B)])), (a1, .inl (cI, 13, .inl (nA (shf wp k j)))), (a2, .inl (cI, 13, .inl (nA (shf wd k j)))), (a3, .inl (cI, 7, .inl (nA ho))), (a4, .inl (cI, 7, .inl (nA hh)))] := hD
  have hl : lv_has ls 3 [(2, .int (nI j)), (0, .ref hT), (1, .int (nI k))] := hl
  have g1 := shf_lt hwp k j
  have g2 := shf_lt hwd k j
  refine lv_iload_n hx hb dX7_dropWordAt_4 rfl (lv_at hl 2 rfl) ?_
  refine k_if_lt (tgt := 50) hx hb dX7_dropWordAt_5 (by decide) (show k < 2 ^ 31 by first | omega | (split <;> omega)) ?_
  refine lv_iload_n hx hb dX7_dropWordAt_8 rfl (lv_at hl 0 rfl) ?_
  refine lv_aload_n hx hb dX7_dropWordAt_9 rfl (lv_at hl 1 rfl) ?_
  refine va_get (D := D) (ci := 7) (v := .int (nI nw)) (C := RX7) (T := TX7) (N := 7) hx hb hts in_X7 hown hK hP 0 rfl rfl 4 (by decide) lk0 (fun _ h9 => h9) rfl dX7_dropWordAt_10 ?_
  refine k_icmp_ge (tgt := 50) hx hb dX7_dropWordAt_13 (by decide) (show j < 2 ^ 31 by first | omega | (split <;> omega)) (show nw < 2 ^ 31 by first | omega | (split <;> omega)) (fun c_4 => ?_) (fun c_4 => ?_)
  · skip
    refine lv_aload_n hx hb dX7_dropWordAt_50 rfl (lv_at hl 1 rfl) ?_
    refine lv_iconst (v := (nI 1)) hx hb dX7_dropWordAt_51 (by decide) ?_
    refine k_gov (S := Unit) (va_runV (As := [.int (nI 1)]) (rest := []) ⟨hx, hb, hml, hown, hts⟩ (c_X7_dropWords l D cI cZ cS cP hT a1 a2 a3 a4 (shf wp k j) (shf wd k j) ho hh nw nh B 1 (by first | assumption | omega) (by first | assumption | omega) _) (cwV 1 hts gX7_dropWordAt_X7_dropWords rfl rfl rfl (by decide +kernel) ⟨Nat.le_of_ble_eq_true rfl, Nat.le_of_ble_eq_true rfl⟩) (kPreV hN hK hP hD [0, 1, 2, 3, 4] rfl rfl (q0 := 0) (ci := 7) (q := (RX7, TX7, 7)) rfl rfl) rfl rfl hl.1 rfl (lv_room (Nat.le_of_ble_eq_true rfl)) dX7_dropWordAt_52 ⟨Nat.le_of_ble_eq_true rfl, Nat.le_of_ble_eq_true rfl⟩) hP hD hS hA [0, 1, 2, 3, 4] rfl [hT, a1, a2, a3, a4] rfl (fun _ => rfl) 5 [] rfl (fun _u => [(hT, .inr (7, [.ref a1, .ref a2, .ref a3, .ref a4, .int (nI (nw - 1)), .int (nI nh), .int (nI B)])), (a1, .inl (cI, 13, .inl (nA (shf wp k j)))), (a2, .inl (cI, 13, .inl (nA (shf wd k j)))), (a3, .inl (cI, 7, .inl (nA ho))), (a4, .inl (cI, 7, .inl (nA hh)))]) (fun _ => rfl) [] [] (fun _ => rfl) rfl (fun _ => rfl) rfl (fun _u H locs hr_6 hP hD hS => ?_)
    have hP : va_P D vwCl [(hT, .inr (7, [.ref a1, .ref a2, .ref a3, .ref a4, .int (nI (nw - 1)), .int (nI nh), .int (nI B)])), (a1, .inl (cI, 13, .inl (nA (shf wp k j)))), (a2, .inl (cI, 13, .inl (nA (shf wd k j)))), (a3, .inl (cI, 7, .inl (nA ho))), (a4, .inl (cI, 7, .inl (nA hh)))] H := hP
    have hD : va_D A [(hT, .inr (7, [.ref a1, .ref a2, .ref a3, .ref a4, .int (nI (nw - 1)), .int (nI nh), .int (nI B)])), (a1, .inl (cI, 13, .inl (nA (shf wp k j)))), (a2, .inl (cI, 13, .inl (nA (shf wd k j)))), (a3, .inl (cI, 7, .inl (nA ho))), (a4, .inl (cI, 7, .inl (nA hh)))] := hD
    have hjn : j = nw := by omega
    have e_7 : nA (shf wp k j) = nA (shf wp k nw) := congrArg nA (show (shf wp k j) = (shf wp k nw) by rw [hjn])
    have e_8 : nA (shf wd k j) = nA (shf wd k nw) := congrArg nA (show (shf wd k j) = (shf wd k nw) by rw [hjn])
    have q_9 : ([(hT, .inr (7, [.ref a1, .ref a2, .ref a3, .ref a4, .int (nI (nw - 1)), .int (nI nh), .int (nI B)])), (a1, .inl (cI, 13, .inl (nA (shf wp k j)))), (a2, .inl (cI, 13, .inl (nA (shf wd k j)))), (a3, .inl (cI, 7, .inl (nA ho))), (a4, .inl (cI, 7, .inl (nA hh)))] : va_W) = [(hT, .inr (7, [.ref a1, .ref a2, .ref a3, .ref a4, .int (nI (nw - 1)), .int (nI nh), .int (nI B)])), (a1, .inl (cI, 13, .inl (nA (shf wp k nw)))), (a2, .inl (cI, 13, .inl (nA (shf wd k nw)))), (a3, .inl (cI, 7, .inl (nA ho))), (a4, .inl (cI, 7, .inl (nA hh)))] := by rw [← e_7, ← e_8]
    exact ret () _ _ _ _ dX7_dropWordAt_55 trivial (kP_cast hP q_9) (kD_cast hD q_9) hS
  · skip
    refine lv_aload_n hx hb dX7_dropWordAt_16 rfl (lv_at hl 1 rfl) ?_
    refine va_get (D := D) (ci := 7) (v := .ref a1) (C := RX7) (T := TX7) (N := 7) hx hb hts in_X7 hown hK hP 0 rfl rfl 0 (by decide) lk1 (fun _ h9 => h9) rfl dX7_dropWordAt_17 ?_
    refine lv_iload_n hx hb dX7_dropWordAt_20 rfl (lv_at hl 0 rfl) ?_
    refine lv_iconst (v := (nI 1)) hx hb dX7_dropWordAt_21 (by decide) ?_
    refine lv_isub hx hb dX7_dropWordAt_22 ?_
    refine k_eqi (show ((nI j) - (nI 1)) = (nI (j - 1)) from pk_sub (show 1 ≤ j by omega)) ?_
    refine lv_aload_n hx hb dX7_dropWordAt_23 rfl (lv_at hl 1 rfl) ?_
    refine va_get (D := D) (ci := 7) (v := .ref a1) (C := RX7) (T := TX7) (N := 7) hx hb hts in_X7 hown hK hP 0 rfl rfl 0 (by decide) lk1 (fun _ h9 => h9) rfl dX7_dropWordAt_24 ?_
    refine lv_iload_n hx hb dX7_dropWordAt_27 rfl (lv_at hl 0 rfl) ?_
    refine k_iald hx hb hK hP 1 0 rfl rfl (show j < 13 by omega) (by decide) dX7_dropWordAt_28 ?_
    have b_10 := g1 j
    refine k_iastN (y := ((shf wp k j) j)) hx hb hK hP hD hS 1 0 rfl rfl (show (j - 1) < 13 by omega) (by decide) dX7_dropWordAt_29 (fun H locs hP hD hS => ?_)
    have hb_11 : ∀ i, (va_up (shf wp k j) (j - 1) ((shf wp k j) j)) i < 7 := up_lt g1 (show ((shf wp k j) j) < 7 by first | omega | (split <;> omega))
    have hP : va_P D vwCl [(hT, .inr (7, [.ref a1, .ref a2, .ref a3, .ref a4, .int (nI nw), .int (nI nh), .int (nI B)])), (a1, .inl (cI, 13, .inl (nA (va_up (shf wp k j) (j - 1) ((shf wp k j) j))))), (a2, .inl (cI, 13, .inl (nA (shf wd k j)))), (a3, .inl (cI, 7, .inl (nA ho))), (a4, .inl (cI, 7, .inl (nA hh)))] H := hP
    have hD : va_D A [(hT, .inr (7, [.ref a1, .ref a2, .ref a3, .ref a4, .int (nI nw), .int (nI nh), .int (nI B)])), (a1, .inl (cI, 13, .inl (nA (va_up (shf wp k j) (j - 1) ((shf wp k j) j))))), (a2, .inl (cI, 13, .inl (nA (shf wd k j)))), (a3, .inl (cI, 7, .inl (nA ho))), (a4, .inl (cI, 7, .inl (nA hh)))] := hD
    refine lv_aload_n hx hb dX7_dropWordAt_30 rfl (lv_at hl 1 rfl) ?_
    refine va_get (D := D) (ci := 7) (v := .ref a2) (C := RX7) (T := TX7) (N := 7) hx hb hts in_X7 hown hK hP 0 rfl rfl 1 (by decide) lk2 (fun _ h9 => h9) rfl dX7_dropWordAt_31 ?_
    refine lv_iload_n hx hb dX7_dropWordAt_34 rfl (lv_at hl 0 rfl) ?_
    refine lv_iconst (v := (nI 1)) hx hb dX7_dropWordAt_35 (by decide) ?_
    refine lv_isub hx hb dX7_dropWordAt_36 ?_
    refine k_eqi (show ((nI j) - (nI 1)) = (nI (j - 1)) from pk_sub (show 1 ≤ j by omega)) ?_
    refine lv_aload_n hx hb dX7_dropWordAt_37 rfl (lv_at hl 1 rfl) ?_
    refine va_get (D := D) (ci := 7) (v := .ref a2) (C := RX7) (T := TX7) (N := 7) hx hb hts in_X7 hown hK hP 0 rfl rfl 1 (by decide) lk2 (fun _ h9 => h9) rfl dX7_dropWordAt_38 ?_
    refine lv_iload_n hx hb dX7_dropWordAt_41 rfl (lv_at hl 0 rfl) ?_
    refine k_iald hx hb hK hP 2 0 rfl rfl (show j < 13 by omega) (by decide) dX7_dropWordAt_42 ?_
    have b_12 := g2 j
    refine k_iastN (y := ((shf wd k j) j)) hx hb hK hP hD hS 2 0 rfl rfl (show (j - 1) < 13 by omega) (by decide) dX7_dropWordAt_43 (fun H locs hP hD hS => ?_)
    have hb_13 : ∀ i, (va_up (shf wd k j) (j - 1) ((shf wd k j) j)) i < 40 := up_lt g2 (show ((shf wd k j) j) < 40 by first | omega | (split <;> omega))
    have hP : va_P D vwCl [(hT, .inr (7, [.ref a1, .ref a2, .ref a3, .ref a4, .int (nI nw), .int (nI nh), .int (nI B)])), (a1, .inl (cI, 13, .inl (nA (va_up (shf wp k j) (j - 1) ((shf wp k j) j))))), (a2, .inl (cI, 13, .inl (nA (va_up (shf wd k j) (j - 1) ((shf wd k j) j))))), (a3, .inl (cI, 7, .inl (nA ho))), (a4, .inl (cI, 7, .inl (nA hh)))] H := hP
    have hD : va_D A [(hT, .inr (7, [.ref a1, .ref a2, .ref a3, .ref a4, .int (nI nw), .int (nI nh), .int (nI B)])), (a1, .inl (cI, 13, .inl (nA (va_up (shf wp k j) (j - 1) ((shf wp k j) j))))), (a2, .inl (cI, 13, .inl (nA (va_up (shf wd k j) (j - 1) ((shf wd k j) j))))), (a3, .inl (cI, 7, .inl (nA ho))), (a4, .inl (cI, 7, .inl (nA hh)))] := hD
    refine lv_iinc (v := (nI (j + 1))) (lv' := [(2, .int (nI (j + 1))), (0, .ref hT), (1, .int (nI k))]) hx hb dX7_dropWordAt_44 hl (k := 0) rfl (nI_inc j) (by decide) rfl (fun ls hl => ?_)
    refine lv_goto (tgt := 4) hx hb dX7_dropWordAt_47 (by decide) ?_
    have e_14 : nA (va_up (shf wp k j) (j - 1) ((shf wp k j) j)) = nA (shf wp k (j + 1)) := congrArg nA (show (va_up (shf wp k j) (j - 1) ((shf wp k j) j)) = (shf wp k (j + 1)) by exact shf_s wp (by omega))
    have e_15 : nA (va_up (shf wd k j) (j - 1) ((shf wd k j) j)) = nA (shf wd k (j + 1)) := congrArg nA (show (va_up (shf wd k j) (j - 1) ((shf wd k j) j)) = (shf wd k (j + 1)) by exact shf_s wd (by omega))
    have q_16 : ([(hT, .inr (7, [.ref a1, .ref a2, .ref a3, .ref a4, .int (nI nw), .int (nI nh), .int (nI B)])), (a1, .inl (cI, 13, .inl (nA (va_up (shf wp k j) (j - 1) ((shf wp k j) j))))), (a2, .inl (cI, 13, .inl (nA (va_up (shf wd k j) (j - 1) ((shf wd k j) j))))), (a3, .inl (cI, 7, .inl (nA ho))), (a4, .inl (cI, 7, .inl (nA hh)))] : va_W) = [(hT, .inr (7, [.ref a1, .ref a2, .ref a3, .ref a4, .int (nI nw), .int (nI nh), .int (nI B)])), (a1, .inl (cI, 13, .inl (nA (shf wp k (j + 1))))), (a2, .inl (cI, 13, .inl (nA (shf wd k (j + 1))))), (a3, .inl (cI, 7, .inl (nA ho))), (a4, .inl (cI, 7, .inl (nA hh)))] := by rw [← e_14, ← e_15]
    exact ih4 (j + 1) _ _ _ (show nw - (j + 1) < nw - j by omega) (show (k + 1 ≤ (j + 1) ∧ (j + 1) ≤ nw) from by omega) (kP_cast hP q_16) (kD_cast hD q_16) hS (lv_sub hl [0, 1, 2] rfl)
def rm_X7_daysOfWords : Room := { frames := 0, cells := 0, slots := 0, locals := 0 }
set_option maxHeartbeats 4000000 in
set_option maxRecDepth 100000 in
theorem c_X7_daysOfWords (l : Launch) (D : va_G) (cI cZ cS cP : ClassId) (hT : Nat) (a1 : Nat) (a2 : Nat) (a3 : Nat) (a4 : Nat) (wp : Nat → Nat) (wd : Nat → Nat) (ho : Nat → Nat) (hh : Nat → Nat) (nw : Nat) (nh : Nat) (B : Nat) (hwp : ∀ i, wp i < 7) (hwd : ∀ i, wd i < 40) (hho : ∀ i, ho i < 7) (hhh : ∀ i, hh i < 7) (hnw : nw ≤ 13) : kMl (S := Unit) l yX7_daysOfWords wsX7_daysOfWords rm_X7_daysOfWords D (kT cI cZ cS cP) [.ref hT] [(hT, .inr (7, [.ref a1, .ref a2, .ref a3, .ref a4, .int (nI nw), .int (nI nh), .int (nI B)])), (a1, .inl (cI, 13, .inl (nA wp))), (a2, .inl (cI, 13, .inl (nA wd))), (a3, .inl (cI, 7, .inl (nA ho))), (a4, .inl (cI, 7, .inl (nA hh)))] (fun r _ => r = (lN (dmask wd nw))) (fun _ => [(hT, .inr (7, [.ref a1, .ref a2, .ref a3, .ref a4, .int (nI nw), .int (nI nh), .int (nI B)])), (a1, .inl (cI, 13, .inl (nA wp))), (a2, .inl (cI, 13, .inl (nA wd))), (a3, .inl (cI, 7, .inl (nA ho))), (a4, .inl (cI, 7, .inl (nA hh)))]) := by
  refine kMet_l (cc := cX7_daysOfWords) (maxL := 4) (by decide) rfl (Nat.le_of_ble_eq_true rfl) ?_
  intro p e s m args below meth c A Q ls C hlocks hin hN hK hP hD hS hA hl ret
  obtain ⟨hx, hb, hml, hown, hts⟩ := C
  have hl : lv_has ls 4 [(0, .ref hT)] := hl
  have in_X7 : ∀ w ∈ wsX70, w ∈ wsX7_daysOfWords := by decide +kernel
  have lk0 := hts (.fieldLink RX7 24 "SilkWord$Talk" "words" "I") (by decide +kernel)
  have lk1 := hts (.fieldLink RX7 15 "SilkWord$Talk" "days" "[I") (by decide +kernel)
  refine lv_lconst (v := lN 0) hx hb dX7_daysOfWords_0 (by decide) ?_
  refine lv_lstore_n (lv' := [(1, .long (lN 0)), (0, .ref hT)]) hx hb dX7_daysOfWords_1 rfl hl (by decide) rfl (fun ls hl => ?_)
  refine lv_iconst (v := (nI 0)) hx hb dX7_daysOfWords_2 (by decide) ?_
  refine lv_istore_n (lv' := [(3, .int (nI 0)), (1, .long (lN 0)), (0, .ref hT)]) hx hb dX7_daysOfWords_3 rfl hl (by decide) rfl (fun ls hl => ?_)
  have e_1 : ((lN 0) : Int64) = (lN (dmask wd 0)) := by rfl
  refine k_loop (α := Nat) (nL := 4) (fun k => nw - k) (fun k => [(hT, .inr (7, [.ref a1, .ref a2, .ref a3, .ref a4, .int (nI nw), .int (nI nh), .int (nI B)])), (a1, .inl (cI, 13, .inl (nA wp))), (a2, .inl (cI, 13, .inl (nA wd))), (a3, .inl (cI, 7, .inl (nA ho))), (a4, .inl (cI, 7, .inl (nA hh)))]) (fun k => [(3, .int (nI k)), (1, .long (lN (dmask wd k))), (0, .ref hT)]) (fun k => (k ≤ nw)) ?_ 0 (show (0 ≤ nw) from by omega) hP hD hS (lv_cast (lv_sub hl [0, 1, 2] rfl) (show ([(3, .int (nI 0)), (1, .long (lN 0)), (0, .ref hT)] : List (Nat × Value)) = [(3, .int (nI 0)), (1, .long (lN (dmask wd 0))), (0, .ref hT)] by rw [← e_1]))
  clear hP hD hS hl
  intro k H locs ls hI hP hD hS hl ih4
  have hk : (k ≤ nw) := hI
  have hP : va_P D vwCl [(hT, .inr (7, [.ref a1, .ref a2, .ref a3, .ref a4, .int (nI nw), .int (nI nh), .int (nI B)])), (a1, .inl (cI, 13, .inl (nA wp))), (a2, .inl (cI, 13, .inl (nA wd))), (a3, .inl (cI, 7, .inl (nA ho))), (a4, .inl (cI, 7, .inl (nA hh)))] H := hP
  have hD : va_D A [(hT, .inr (7, [.ref a1, .ref a2, .ref a3, .ref a4, .int (nI nw), .int (nI nh), .int (nI B)])), (a1, .inl (cI, 13, .inl (nA wp))), (a2, .inl (cI, 13, .inl (nA wd))), (a3, .inl (cI, 7, .inl (nA ho))), (a4, .inl (cI, 7, .inl (nA hh)))] := hD
  have hl : lv_has ls 4 [(3, .int (nI k)), (1, .long (lN (dmask wd k))), (0, .ref hT)] := hl
  refine lv_iload_n hx hb dX7_daysOfWords_4 rfl (lv_at hl 0 rfl) ?_
  refine lv_aload_n hx hb dX7_daysOfWords_5 rfl (lv_at hl 2 rfl) ?_
  refine va_get (D := D) (ci := 7) (v := .int (nI nw)) (C := RX7) (T := TX7) (N := 7) hx hb hts in_X7 hown hK hP 0 rfl rfl 4 (by decide) lk0 (fun _ h9 => h9) rfl dX7_daysOfWords_6 ?_
  refine k_icmp_ge (tgt := 29) hx hb dX7_daysOfWords_9 (by decide) (show k < 2 ^ 31 by first | omega | (split <;> omega)) (show nw < 2 ^ 31 by first | omega | (split <;> omega)) (fun c_2 => ?_) (fun c_2 => ?_)
  · skip
    refine lv_lload_n hx hb dX7_daysOfWords_29 rfl (lv_at hl 1 rfl) ?_
    exact ret _ () _ _ _ _ dX7_daysOfWords_30 (show ((lN (dmask wd k)) : Int64) = (lN (dmask wd nw)) by (have : k = nw := by omega); subst this; rfl) hP hD hS
  · skip
    refine lv_lload_n hx hb dX7_daysOfWords_12 rfl (lv_at hl 1 rfl) ?_
    refine lv_lconst (v := lN 1) hx hb dX7_daysOfWords_13 (by decide) ?_
    refine lv_aload_n hx hb dX7_daysOfWords_14 rfl (lv_at hl 2 rfl) ?_
    refine va_get (D := D) (ci := 7) (v := .ref a2) (C := RX7) (T := TX7) (N := 7) hx hb hts in_X7 hown hK hP 0 rfl rfl 1 (by decide) lk1 (fun _ h9 => h9) rfl dX7_daysOfWords_15 ?_
    refine lv_iload_n hx hb dX7_daysOfWords_18 rfl (lv_at hl 0 rfl) ?_
    refine k_iald hx hb hK hP 2 0 rfl rfl (show k < 13 by omega) (by decide) dX7_daysOfWords_19 ?_
    have b_3 := hwd k
    refine lv_lshl (v := ((lN 1) <<< ((nI (wd k)).toInt64 &&& 63))) hx hb dX7_daysOfWords_20 rfl ?_
    refine k_eql (lN_shl1 (show wd k < 40 by omega)) ?_
    refine lv_lor hx hb dX7_daysOfWords_21 ?_
    refine k_eql (lN_or (dmask wd k) (2 ^ (wd k))) ?_
    refine lv_lstore_n (lv' := [(1, .long (lN (dmask wd k ||| 2 ^ (wd k)))), (3, .int (nI k)), (0, .ref hT)]) hx hb dX7_daysOfWords_22 rfl hl (by decide) rfl (fun ls hl => ?_)
    refine lv_iinc (v := (nI (k + 1))) (lv' := [(3, .int (nI (k + 1))), (1, .long (lN (dmask wd k ||| 2 ^ (wd k)))), (0, .ref hT)]) hx hb dX7_daysOfWords_23 hl (k := 1) rfl (nI_inc k) (by decide) rfl (fun ls hl => ?_)
    refine lv_goto (tgt := 4) hx hb dX7_daysOfWords_26 (by decide) ?_
    have e_4 : ((lN (dmask wd k ||| 2 ^ (wd k))) : Int64) = (lN (dmask wd (k + 1))) := by rfl
    exact ih4 (k + 1) _ _ _ (show nw - (k + 1) < nw - k by omega) (show ((k + 1) ≤ nw) from by omega) hP hD hS (lv_cast (lv_sub hl [0, 1, 2] rfl) (show ([(3, .int (nI (k + 1))), (1, .long (lN (dmask wd k ||| 2 ^ (wd k)))), (0, .ref hT)] : List (Nat × Value)) = [(3, .int (nI (k + 1))), (1, .long (lN (dmask wd (k + 1)))), (0, .ref hT)] by rw [← e_4]))
def rm_X7_takeAll : Room := { frames := 1, cells := 0, slots := 0, locals := 22 }
set_option maxHeartbeats 4000000 in
set_option maxRecDepth 100000 in
theorem c_X7_takeAll (l : Launch) (D : va_G) (cI cZ cS cP : ClassId) (hT : Nat) (a1 : Nat) (a2 : Nat) (a3 : Nat) (a4 : Nat) (wp : Nat → Nat) (wd : Nat → Nat) (ho : Nat → Nat) (hh : Nat → Nat) (nw : Nat) (nh : Nat) (B : Nat) (hU : Nat) (b1 : Nat) (b2 : Nat) (b3 : Nat) (b4 : Nat) (xp : Nat → Nat) (xd : Nat → Nat) (xo : Nat → Nat) (xh : Nat → Nat) (mw : Nat) (mh : Nat) (C1 : Nat) (hwp : ∀ i, wp i < 7) (hwd : ∀ i, wd i < 40) (hho : ∀ i, ho i < 7) (hhh : ∀ i, hh i < 7) (hxp : ∀ i, xp i < 7) (hxd : ∀ i, xd i < 40) (hxo : ∀ i, xo i < 7) (hxh : ∀ i, xh i < 7) (hmw : mw ≤ 13) (hmh : mh ≤ 7) : kMv (S := Unit) l yX7_takeAll wsX7_takeAll rm_X7_takeAll D (kT cI cZ cS cP) [.ref hT, .ref hU] [(hT, .inr (7, [.ref a1, .ref a2, .ref a3, .ref a4, .int (nI nw), .int (nI nh), .int (nI B)])), (a1, .inl (cI, 13, .inl (nA wp))), (a2, .inl (cI, 13, .inl (nA wd))), (a3, .inl (cI, 7, .inl (nA ho))), (a4, .inl (cI, 7, .inl (nA hh))), (hU, .inr (7, [.ref b1, .ref b2, .ref b3, .ref b4, .int (nI mw), .int (nI mh), .int (nI C1)])), (b1, .inl (cI, 13, .inl (nA xp))), (b2, .inl (cI, 13, .inl (nA xd))), (b3, .inl (cI, 7, .inl (nA xo))), (b4, .inl (cI, 7, .inl (nA xh)))] (fun _ => True) (fun _ => [(hT, .inr (7, [.ref a1, .ref a2, .ref a3, .ref a4, .int (nI mw), .int (nI mh), .int (nI C1)])), (a1, .inl (cI, 13, .inl (nA (cpN xp wp mw)))), (a2, .inl (cI, 13, .inl (nA (cpN xd wd mw)))), (a3, .inl (cI, 7, .inl (nA (cpN xo ho mh)))), (a4, .inl (cI, 7, .inl (nA (cpN xh hh mh)))), (hU, .inr (7, [.ref b1, .ref b2, .ref b3, .ref b4, .int (nI mw), .int (nI mh), .int (nI C1)])), (b1, .inl (cI, 13, .inl (nA xp))), (b2, .inl (cI, 13, .inl (nA xd))), (b3, .inl (cI, 7, .inl (nA xo))), (b4, .inl (cI, 7, .inl (nA xh)))]) := by
  refine kMet_v (cc := cX7_takeAll) (maxL := 3) (by decide) rfl (Nat.le_of_ble_eq_true rfl) ?_
  intro p e s m args below meth c A Q ls C hlocks hin hN hK hP hD hS hA hl ret
  obtain ⟨hx, hb, hml, hown, hts⟩ := C
  have hl : lv_has ls 3 [(0, .ref hT), (1, .ref hU)] := hl
  have in_X7 : ∀ w ∈ wsX70, w ∈ wsX7_takeAll := by decide +kernel
  have lk0 := hts (.fieldLink RX7 24 "SilkWord$Talk" "words" "I") (by decide +kernel)
  have lk1 := hts (.fieldLink RX7 28 "SilkWord$Talk" "whisperCount" "I") (by decide +kernel)
  have lk2 := hts (.fieldLink RX7 31 "SilkWord$Talk" "bribedSet" "I") (by decide +kernel)
  have lk3 := hts (.fieldLink RX7 18 "SilkWord$Talk" "ones" "[I") (by decide +kernel)
  have lk4 := hts (.fieldLink RX7 21 "SilkWord$Talk" "others" "[I") (by decide +kernel)
  have lk5 := hts (.fieldLink RX7 9 "SilkWord$Talk" "places" "[I") (by decide +kernel)
  have lk6 := hts (.fieldLink RX7 15 "SilkWord$Talk" "days" "[I") (by decide +kernel)
  refine lv_aload_n hx hb dX7_takeAll_0 rfl (lv_at hl 0 rfl) ?_
  refine k_gov (S := Unit) (va_runV (As := []) (rest := []) ⟨hx, hb, hml, hown, hts⟩ (c_X7_clear l D cI cZ cS cP hT a1 a2 a3 a4 wp wd ho hh nw nh B  _) (cwV 0 hts gX7_takeAll_X7_clear rfl rfl rfl (by decide +kernel) ⟨Nat.le_of_ble_eq_true rfl, Nat.le_of_ble_eq_true rfl⟩) (kPreV hN hK hP hD [0, 1, 2, 3, 4] rfl rfl (q0 := 0) (ci := 7) (q := (RX7, TX7, 7)) rfl rfl) rfl rfl hl.1 rfl (lv_room (Nat.le_of_ble_eq_true rfl)) dX7_takeAll_1 ⟨Nat.le_of_ble_eq_true rfl, Nat.le_of_ble_eq_true rfl⟩) hP hD hS hA [0, 1, 2, 3, 4] rfl [hT, a1, a2, a3, a4] rfl (fun _ => rfl) 10 [5, 6, 7, 8, 9] rfl (fun _u => [(hT, .inr (7, [.ref a1, .ref a2, .ref a3, .ref a4, .int (nI 0), .int (nI 0), .int (nI 0)])), (a1, .inl (cI, 13, .inl (nA wp))), (a2, .inl (cI, 13, .inl (nA wd))), (a3, .inl (cI, 7, .inl (nA ho))), (a4, .inl (cI, 7, .inl (nA hh))), (hU, .inr (7, [.ref b1, .ref b2, .ref b3, .ref b4, .int (nI mw), .int (nI mh), .int (nI C1)])), (b1, .inl (cI, 13, .inl (nA xp))), (b2, .inl (cI, 13, .inl (nA xd))), (b3, .inl (cI, 7, .inl (nA xo))), (b4, .inl (cI, 7, .inl (nA xh)))]) (fun _ => rfl) [(hU, .inr (7, [.ref b1, .ref b2, .ref b3, .ref b4, .int (nI mw), .int (nI mh), .int (nI C1)])), (b1, .inl (cI, 13, .inl (nA xp))), (b2, .inl (cI, 13, .inl (nA xd))), (b3, .inl (cI, 7, .inl (nA xo))), (b4, .inl (cI, 7, .inl (nA xh)))] [] (fun _ => rfl) rfl (fun _ => rfl) rfl (fun _u H locs hr_2 hP hD hS => ?_)
  have hP : va_P D vwCl [(hT, .inr (7, [.ref a1, .ref a2, .ref a3, .ref a4, .int (nI 0), .int (nI 0), .int (nI 0)])), (a1, .inl (cI, 13, .inl (nA wp))), (a2, .inl (cI, 13, .inl (nA wd))), (a3, .inl (cI, 7, .inl (nA ho))), (a4, .inl (cI, 7, .inl (nA hh))), (hU, .inr (7, [.ref b1, .ref b2, .ref b3, .ref b4, .int (nI mw), .int (nI mh), .int (nI C1)])), (b1, .inl (cI, 13, .inl (nA xp))), (b2, .inl (cI, 13, .inl (nA xd))), (b3, .inl (cI, 7, .inl (nA xo))), (b4, .inl (cI, 7, .inl (nA xh)))] H := hP
  have hD : va_D A [(hT, .inr (7, [.ref a1, .ref a2, .ref a3, .ref a4, .int (nI 0), .int (nI 0), .int (nI 0)])), (a1, .inl (cI, 13, .inl (nA wp))), (a2, .inl (cI, 13, .inl (nA wd))), (a3, .inl (cI, 7, .inl (nA ho))), (a4, .inl (cI, 7, .inl (nA hh))), (hU, .inr (7, [.ref b1, .ref b2, .ref b3, .ref b4, .int (nI mw), .int (nI mh), .int (nI C1)])), (b1, .inl (cI, 13, .inl (nA xp))), (b2, .inl (cI, 13, .inl (nA xd))), (b3, .inl (cI, 7, .inl (nA xo))), (b4, .inl (cI, 7, .inl (nA xh)))] := hD
  refine lv_iconst (v := (nI 0)) hx hb dX7_takeAll_4 (by decide) ?_
  refine lv_istore_n (lv' := [(2, .int (nI 0)), (0, .ref hT), (1, .ref hU)]) hx hb dX7_takeAll_5 rfl hl (by decide) rfl (fun ls hl => ?_)
  have e_3 : nA wp = nA (cpN xp wp 0) := congrArg nA (show wp = (cpN xp wp 0) by exact (cpN_0 xp wp).symm)
  have e_4 : nA wd = nA (cpN xd wd 0) := congrArg nA (show wd = (cpN xd wd 0) by exact (cpN_0 xd wd).symm)
  have q_5 : ([(hT, .inr (7, [.ref a1, .ref a2, .ref a3, .ref a4, .int (nI 0), .int (nI 0), .int (nI 0)])), (a1, .inl (cI, 13, .inl (nA wp))), (a2, .inl (cI, 13, .inl (nA wd))), (a3, .inl (cI, 7, .inl (nA ho))), (a4, .inl (cI, 7, .inl (nA hh))), (hU, .inr (7, [.ref b1, .ref b2, .ref b3, .ref b4, .int (nI mw), .int (nI mh), .int (nI C1)])), (b1, .inl (cI, 13, .inl (nA xp))), (b2, .inl (cI, 13, .inl (nA xd))), (b3, .inl (cI, 7, .inl (nA xo))), (b4, .inl (cI, 7, .inl (nA xh)))] : va_W) = [(hT, .inr (7, [.ref a1, .ref a2, .ref a3, .ref a4, .int (nI 0), .int (nI 0), .int (nI 0)])), (a1, .inl (cI, 13, .inl (nA (cpN xp wp 0)))), (a2, .inl (cI, 13, .inl (nA (cpN xd wd 0)))), (a3, .inl (cI, 7, .inl (nA ho))), (a4, .inl (cI, 7, .inl (nA hh))), (hU, .inr (7, [.ref b1, .ref b2, .ref b3, .ref b4, .int (nI mw), .int (nI mh), .int (nI C1)])), (b1, .inl (cI, 13, .inl (nA xp))), (b2, .inl (cI, 13, .inl (nA xd))), (b3, .inl (cI, 7, .inl (nA xo))), (b4, .inl (cI, 7, .inl (nA xh)))] := by rw [← e_3, ← e_4]
  refine k_loop (α := Nat) (nL := 3) (fun k => mw - k) (fun k => [(hT, .inr (7, [.ref a1, .ref a2, .ref a3, .ref a4, .int (nI k), .int (nI 0), .int (nI 0)])), (a1, .inl (cI, 13, .inl (nA (cpN xp wp k)))), (a2, .inl (cI, 13, .inl (nA (cpN xd wd k)))), (a3, .inl (cI, 7, .inl (nA ho))), (a4, .inl (cI, 7, .inl (nA hh))), (hU, .inr (7, [.ref b1, .ref b2, .ref b3, .ref b4, .int (nI mw), .int (nI mh), .int (nI C1)])), (b1, .inl (cI, 13, .inl (nA xp))), (b2, .inl (cI, 13, .inl (nA xd))), (b3, .inl (cI, 7, .inl (nA xo))), (b4, .inl (cI, 7, .inl (nA xh)))]) (fun k => [(2, .int (nI k)), (0, .ref hT), (1, .ref hU)]) (fun k => (k ≤ mw)) ?_ 0 (show (0 ≤ mw) from by omega) (kP_cast hP q_5) (kD_cast hD q_5) hS (lv_sub hl [0, 1, 2] rfl)
  clear hP hD hS hl
  intro k H locs ls hI hP hD hS hl ih6
  have hk : (k ≤ mw) := hI
  have hP : va_P D vwCl [(hT, .inr (7, [.ref a1, .ref a2, .ref a3, .ref a4, .int (nI k), .int (nI 0), .int (nI 0)])), (a1, .inl (cI, 13, .inl (nA (cpN xp wp k)))), (a2, .inl (cI, 13, .inl (nA (cpN xd wd k)))), (a3, .inl (cI, 7, .inl (nA ho))), (a4, .inl (cI, 7, .inl (nA hh))), (hU, .inr (7, [.ref b1, .ref b2, .ref b3, .ref b4, .int (nI mw), .int (nI mh), .int (nI C1)])), (b1, .inl (cI, 13, .inl (nA xp))), (b2, .inl (cI, 13, .inl (nA xd))), (b3, .inl (cI, 7, .inl (nA xo))), (b4, .inl (cI, 7, .inl (nA xh)))] H := hP
  have hD : va_D A [(hT, .inr (7, [.ref a1, .ref a2, .ref a3, .ref a4, .int (nI k), .int (nI 0), .int (nI 0)])), (a1, .inl (cI, 13, .inl (nA (cpN xp wp k)))), (a2, .inl (cI, 13, .inl (nA (cpN xd wd k)))), (a3, .inl (cI, 7, .inl (nA ho))), (a4, .inl (cI, 7, .inl (nA hh))), (hU, .inr (7, [.ref b1, .ref b2, .ref b3, .ref b4, .int (nI mw), .int (nI mh), .int (nI C1)])), (b1, .inl (cI, 13, .inl (nA xp))), (b2, .inl (cI, 13, .inl (nA xd))), (b3, .inl (cI, 7, .inl (nA xo))), (b4, .inl (cI, 7, .inl (nA xh)))] := hD
  have hl : lv_has ls 3 [(2, .int (nI k)), (0, .ref hT), (1, .ref hU)] := hl
  have g1 := cpN_lt hxp hwp k
  have g2 := cpN_lt hxd hwd k
  refine lv_iload_n hx hb dX7_takeAll_6 rfl (lv_at hl 0 rfl) ?_
  refine lv_aload_n hx hb dX7_takeAll_7 rfl (lv_at hl 2 rfl) ?_
  refine va_get (D := D) (ci := 7) (v := .int (nI mw)) (C := RX7) (T := TX7) (N := 7) hx hb hts in_X7 hown hK hP 5 rfl rfl 4 (by decide) lk0 (fun _ h9 => h9) rfl dX7_takeAll_8 ?_
  refine k_icmp_ge (tgt := 36) hx hb dX7_takeAll_11 (by decide) (show k < 2 ^ 31 by first | omega | (split <;> omega)) (show mw < 2 ^ 31 by first | omega | (split <;> omega)) (fun c_6 => ?_) (fun c_6 => ?_)
  · skip
    refine lv_iconst (v := (nI 0)) hx hb dX7_takeAll_36 (by decide) ?_
    refine lv_istore_n (lv' := [(2, .int (nI 0)), (0, .ref hT), (1, .ref hU)]) hx hb dX7_takeAll_37 rfl hl (by decide) rfl (fun ls hl => ?_)
    have hkm : k = mw := by omega
    have e_7 : (nI k) = (nI mw) := congrArg nI (show k = mw by exact hkm)
    have e_8 : nA (cpN xp wp k) = nA (cpN xp wp mw) := congrArg nA (show (cpN xp wp k) = (cpN xp wp mw) by rw [hkm])
    have e_9 : nA (cpN xd wd k) = nA (cpN xd wd mw) := congrArg nA (show (cpN xd wd k) = (cpN xd wd mw) by rw [hkm])
    have e_10 : nA ho = nA (cpN xo ho 0) := congrArg nA (show ho = (cpN xo ho 0) by exact (cpN_0 xo ho).symm)
    have e_11 : nA hh = nA (cpN xh hh 0) := congrArg nA (show hh = (cpN xh hh 0) by exact (cpN_0 xh hh).symm)
    have q_12 : ([(hT, .inr (7, [.ref a1, .ref a2, .ref a3, .ref a4, .int (nI k), .int (nI 0), .int (nI 0)])), (a1, .inl (cI, 13, .inl (nA (cpN xp wp k)))), (a2, .inl (cI, 13, .inl (nA (cpN xd wd k)))), (a3, .inl (cI, 7, .inl (nA ho))), (a4, .inl (cI, 7, .inl (nA hh))), (hU, .inr (7, [.ref b1, .ref b2, .ref b3, .ref b4, .int (nI mw), .int (nI mh), .int (nI C1)])), (b1, .inl (cI, 13, .inl (nA xp))), (b2, .inl (cI, 13, .inl (nA xd))), (b3, .inl (cI, 7, .inl (nA xo))), (b4, .inl (cI, 7, .inl (nA xh)))] : va_W) = [(hT, .inr (7, [.ref a1, .ref a2, .ref a3, .ref a4, .int (nI mw), .int (nI 0), .int (nI 0)])), (a1, .inl (cI, 13, .inl (nA (cpN xp wp mw)))), (a2, .inl (cI, 13, .inl (nA (cpN xd wd mw)))), (a3, .inl (cI, 7, .inl (nA (cpN xo ho 0)))), (a4, .inl (cI, 7, .inl (nA (cpN xh hh 0)))), (hU, .inr (7, [.ref b1, .ref b2, .ref b3, .ref b4, .int (nI mw), .int (nI mh), .int (nI C1)])), (b1, .inl (cI, 13, .inl (nA xp))), (b2, .inl (cI, 13, .inl (nA xd))), (b3, .inl (cI, 7, .inl (nA xo))), (b4, .inl (cI, 7, .inl (nA xh)))] := by rw [← e_7, ← e_8, ← e_9, ← e_10, ← e_11]
    refine k_loop (α := Nat) (nL := 3) (fun k => mh - k) (fun k => [(hT, .inr (7, [.ref a1, .ref a2, .ref a3, .ref a4, .int (nI mw), .int (nI k), .int (nI 0)])), (a1, .inl (cI, 13, .inl (nA (cpN xp wp mw)))), (a2, .inl (cI, 13, .inl (nA (cpN xd wd mw)))), (a3, .inl (cI, 7, .inl (nA (cpN xo ho k)))), (a4, .inl (cI, 7, .inl (nA (cpN xh hh k)))), (hU, .inr (7, [.ref b1, .ref b2, .ref b3, .ref b4, .int (nI mw), .int (nI mh), .int (nI C1)])), (b1, .inl (cI, 13, .inl (nA xp))), (b2, .inl (cI, 13, .inl (nA xd))), (b3, .inl (cI, 7, .inl (nA xo))), (b4, .inl (cI, 7, .inl (nA xh)))]) (fun k => [(2, .int (nI k)), (0, .ref hT), (1, .ref hU)]) (fun k => (k ≤ mh)) ?_ 0 (show (0 ≤ mh) from by omega) (kP_cast hP q_12) (kD_cast hD q_12) hS (lv_sub hl [0, 1, 2] rfl)
    clear hP hD hS hl
    intro k H locs ls hI hP hD hS hl ih38
    have hk2 : (k ≤ mh) := hI
    have hP : va_P D vwCl [(hT, .inr (7, [.ref a1, .ref a2, .ref a3, .ref a4, .int (nI mw), .int (nI k), .int (nI 0)])), (a1, .inl (cI, 13, .inl (nA (cpN xp wp mw)))), (a2, .inl (cI, 13, .inl (nA (cpN xd wd mw)))), (a3, .inl (cI, 7, .inl (nA (cpN xo ho k)))), (a4, .inl (cI, 7, .inl (nA (cpN xh hh k)))), (hU, .inr (7, [.ref b1, .ref b2, .ref b3, .ref b4, .int (nI mw), .int (nI mh), .int (nI C1)])), (b1, .inl (cI, 13, .inl (nA xp))), (b2, .inl (cI, 13, .inl (nA xd))), (b3, .inl (cI, 7, .inl (nA xo))), (b4, .inl (cI, 7, .inl (nA xh)))] H := hP
    have hD : va_D A [(hT, .inr (7, [.ref a1, .ref a2, .ref a3, .ref a4, .int (nI mw), .int (nI k), .int (nI 0)])), (a1, .inl (cI, 13, .inl (nA (cpN xp wp mw)))), (a2, .inl (cI, 13, .inl (nA (cpN xd wd mw)))), (a3, .inl (cI, 7, .inl (nA (cpN xo ho k)))), (a4, .inl (cI, 7, .inl (nA (cpN xh hh k)))), (hU, .inr (7, [.ref b1, .ref b2, .ref b3, .ref b4, .int (nI mw), .int (nI mh), .int (nI C1)])), (b1, .inl (cI, 13, .inl (nA xp))), (b2, .inl (cI, 13, .inl (nA xd))), (b3, .inl (cI, 7, .inl (nA xo))), (b4, .inl (cI, 7, .inl (nA xh)))] := hD
    have hl : lv_has ls 3 [(2, .int (nI k)), (0, .ref hT), (1, .ref hU)] := hl
    have g1 := cpN_lt hxp hwp mw
    have g2 := cpN_lt hxd hwd mw
    have g3 := cpN_lt hxo hho k
    have g4 := cpN_lt hxh hhh k
    refine lv_iload_n hx hb dX7_takeAll_38 rfl (lv_at hl 0 rfl) ?_
    refine lv_aload_n hx hb dX7_takeAll_39 rfl (lv_at hl 2 rfl) ?_
    refine va_get (D := D) (ci := 7) (v := .int (nI mh)) (C := RX7) (T := TX7) (N := 7) hx hb hts in_X7 hown hK hP 5 rfl rfl 5 (by decide) lk1 (fun _ h9 => h9) rfl dX7_takeAll_40 ?_
    refine k_icmp_ge (tgt := 68) hx hb dX7_takeAll_43 (by decide) (show k < 2 ^ 31 by first | omega | (split <;> omega)) (show mh < 2 ^ 31 by first | omega | (split <;> omega)) (fun c_13 => ?_) (fun c_13 => ?_)
    · skip
      refine lv_aload_n hx hb dX7_takeAll_68 rfl (lv_at hl 1 rfl) ?_
      refine lv_aload_n hx hb dX7_takeAll_69 rfl (lv_at hl 2 rfl) ?_
      refine va_get (D := D) (ci := 7) (v := .int (nI C1)) (C := RX7) (T := TX7) (N := 7) hx hb hts in_X7 hown hK hP 5 rfl rfl 6 (by decide) lk2 (fun _ h9 => h9) rfl dX7_takeAll_70 ?_
      refine va_put (D := D) (ci := 7) (v := .int (nI C1)) (ty := .int) (C := RX7) (T := TX7) (N := 7) hx hb hts in_X7 tyX7 tyX7_ok nmX7 hown hK hP hD hS 0 rfl rfl 6 (by decide) lk2 (fun _ h9 => h9) rfl (by decide +kernel) rfl rfl (Nat.le_of_ble_eq_true rfl) dX7_takeAll_73 (fun H locs hP hD hS => ?_)
      have hP : va_P D vwCl [(hT, .inr (7, [.ref a1, .ref a2, .ref a3, .ref a4, .int (nI mw), .int (nI k), .int (nI C1)])), (a1, .inl (cI, 13, .inl (nA (cpN xp wp mw)))), (a2, .inl (cI, 13, .inl (nA (cpN xd wd mw)))), (a3, .inl (cI, 7, .inl (nA (cpN xo ho k)))), (a4, .inl (cI, 7, .inl (nA (cpN xh hh k)))), (hU, .inr (7, [.ref b1, .ref b2, .ref b3, .ref b4, .int (nI mw), .int (nI mh), .int (nI C1)])), (b1, .inl (cI, 13, .inl (nA xp))), (b2, .inl (cI, 13, .inl (nA xd))), (b3, .inl (cI, 7, .inl (nA xo))), (b4, .inl (cI, 7, .inl (nA xh)))] H := hP
      have hD : va_D A [(hT, .inr (7, [.ref a1, .ref a2, .ref a3, .ref a4, .int (nI mw), .int (nI k), .int (nI C1)])), (a1, .inl (cI, 13, .inl (nA (cpN xp wp mw)))), (a2, .inl (cI, 13, .inl (nA (cpN xd wd mw)))), (a3, .inl (cI, 7, .inl (nA (cpN xo ho k)))), (a4, .inl (cI, 7, .inl (nA (cpN xh hh k)))), (hU, .inr (7, [.ref b1, .ref b2, .ref b3, .ref b4, .int (nI mw), .int (nI mh), .int (nI C1)])), (b1, .inl (cI, 13, .inl (nA xp))), (b2, .inl (cI, 13, .inl (nA xd))), (b3, .inl (cI, 7, .inl (nA xo))), (b4, .inl (cI, 7, .inl (nA xh)))] := hD
      have hkm : k = mh := by omega
      have e_14 : (nI k) = (nI mh) := congrArg nI (show k = mh by exact hkm)
      have e_15 : nA (cpN xo ho k) = nA (cpN xo ho mh) := congrArg nA (show (cpN xo ho k) = (cpN xo ho mh) by rw [hkm])
      have e_16 : nA (cpN xh hh k) = nA (cpN xh hh mh) := congrArg nA (show (cpN xh hh k) = (cpN xh hh mh) by rw [hkm])
      have q_17 : ([(hT, .inr (7, [.ref a1, .ref a2, .ref a3, .ref a4, .int (nI mw), .int (nI k), .int (nI C1)])), (a1, .inl (cI, 13, .inl (nA (cpN xp wp mw)))), (a2, .inl (cI, 13, .inl (nA (cpN xd wd mw)))), (a3, .inl (cI, 7, .inl (nA (cpN xo ho k)))), (a4, .inl (cI, 7, .inl (nA (cpN xh hh k)))), (hU, .inr (7, [.ref b1, .ref b2, .ref b3, .ref b4, .int (nI mw), .int (nI mh), .int (nI C1)])), (b1, .inl (cI, 13, .inl (nA xp))), (b2, .inl (cI, 13, .inl (nA xd))), (b3, .inl (cI, 7, .inl (nA xo))), (b4, .inl (cI, 7, .inl (nA xh)))] : va_W) = [(hT, .inr (7, [.ref a1, .ref a2, .ref a3, .ref a4, .int (nI mw), .int (nI mh), .int (nI C1)])), (a1, .inl (cI, 13, .inl (nA (cpN xp wp mw)))), (a2, .inl (cI, 13, .inl (nA (cpN xd wd mw)))), (a3, .inl (cI, 7, .inl (nA (cpN xo ho mh)))), (a4, .inl (cI, 7, .inl (nA (cpN xh hh mh)))), (hU, .inr (7, [.ref b1, .ref b2, .ref b3, .ref b4, .int (nI mw), .int (nI mh), .int (nI C1)])), (b1, .inl (cI, 13, .inl (nA xp))), (b2, .inl (cI, 13, .inl (nA xd))), (b3, .inl (cI, 7, .inl (nA xo))), (b4, .inl (cI, 7, .inl (nA xh)))] := by rw [← e_14, ← e_15, ← e_16]
      exact ret () _ _ _ _ dX7_takeAll_76 trivial (kP_cast hP q_17) (kD_cast hD q_17) hS
    · skip
      refine lv_aload_n hx hb dX7_takeAll_46 rfl (lv_at hl 1 rfl) ?_
      refine lv_aload_n hx hb dX7_takeAll_47 rfl (lv_at hl 2 rfl) ?_
      refine va_get (D := D) (ci := 7) (v := .ref b3) (C := RX7) (T := TX7) (N := 7) hx hb hts in_X7 hown hK hP 5 rfl rfl 2 (by decide) lk3 (fun _ h9 => h9) rfl dX7_takeAll_48 ?_
      refine lv_iload_n hx hb dX7_takeAll_51 rfl (lv_at hl 0 rfl) ?_
      refine k_iald hx hb hK hP 8 0 rfl rfl (show k < 7 by omega) (by decide) dX7_takeAll_52 ?_
      have b_18 := hxo k
      refine lv_aload_n hx hb dX7_takeAll_53 rfl (lv_at hl 2 rfl) ?_
      refine va_get (D := D) (ci := 7) (v := .ref b4) (C := RX7) (T := TX7) (N := 7) hx hb hts in_X7 hown hK hP 5 rfl rfl 3 (by decide) lk4 (fun _ h9 => h9) rfl dX7_takeAll_54 ?_
      refine lv_iload_n hx hb dX7_takeAll_57 rfl (lv_at hl 0 rfl) ?_
      refine k_iald hx hb hK hP 9 0 rfl rfl (show k < 7 by omega) (by decide) dX7_takeAll_58 ?_
      have b_19 := hxh k
      refine k_gov (S := Unit) (va_runV (As := [.int (nI (xo k)), .int (nI (xh k))]) (rest := []) ⟨hx, hb, hml, hown, hts⟩ (c_X7_addWhisper l D cI cZ cS cP hT a1 a2 a3 a4 (cpN xp wp mw) (cpN xd wd mw) (cpN xo ho k) (cpN xh hh k) mw k 0 (xo k) (xh k) (g1) (g2) (g3) (g4) (by first | assumption | omega) (by first | assumption | omega) (by first | assumption | omega) _) (cwV 2 hts gX7_takeAll_X7_addWhisper rfl rfl rfl (by decide +kernel) ⟨Nat.le_of_ble_eq_true rfl, Nat.le_of_ble_eq_true rfl⟩) (kPreV hN hK hP hD [0, 1, 2, 3, 4] rfl rfl (q0 := 0) (ci := 7) (q := (RX7, TX7, 7)) rfl rfl) rfl rfl hl.1 rfl (lv_room (Nat.le_of_ble_eq_true rfl)) dX7_takeAll_59 ⟨Nat.le_of_ble_eq_true rfl, Nat.le_of_ble_eq_true rfl⟩) hP hD hS hA [0, 1, 2, 3, 4] rfl [hT, a1, a2, a3, a4] rfl (fun _ => rfl) 10 [5, 6, 7, 8, 9] rfl (fun _u => [(hT, .inr (7, [.ref a1, .ref a2, .ref a3, .ref a4, .int (nI mw), .int (nI (k + 1)), .int (nI 0)])), (a1, .inl (cI, 13, .inl (nA (cpN xp wp mw)))), (a2, .inl (cI, 13, .inl (nA (cpN xd wd mw)))), (a3, .inl (cI, 7, .inl (nA (va_up (cpN xo ho k) k (xo k))))), (a4, .inl (cI, 7, .inl (nA (va_up (cpN xh hh k) k (xh k))))), (hU, .inr (7, [.ref b1, .ref b2, .ref b3, .ref b4, .int (nI mw), .int (nI mh), .int (nI C1)])), (b1, .inl (cI, 13, .inl (nA xp))), (b2, .inl (cI, 13, .inl (nA xd))), (b3, .inl (cI, 7, .inl (nA xo))), (b4, .inl (cI, 7, .inl (nA xh)))]) (fun _ => rfl) [(hU, .inr (7, [.ref b1, .ref b2, .ref b3, .ref b4, .int (nI mw), .int (nI mh), .int (nI C1)])), (b1, .inl (cI, 13, .inl (nA xp))), (b2, .inl (cI, 13, .inl (nA xd))), (b3, .inl (cI, 7, .inl (nA xo))), (b4, .inl (cI, 7, .inl (nA xh)))] [] (fun _ => rfl) rfl (fun _ => rfl) rfl (fun _u H locs hr_21 hP hD hS => ?_)
      have hb_22 : ∀ i, (va_up (cpN xo ho k) k (xo k)) i < 7 := up_lt (g3) (by first | assumption | omega)
      have hb_23 : ∀ i, (va_up (cpN xh hh k) k (xh k)) i < 7 := up_lt (g4) (by first | assumption | omega)
      have hP : va_P D vwCl [(hT, .inr (7, [.ref a1, .ref a2, .ref a3, .ref a4, .int (nI mw), .int (nI (k + 1)), .int (nI 0)])), (a1, .inl (cI, 13, .inl (nA (cpN xp wp mw)))), (a2, .inl (cI, 13, .inl (nA (cpN xd wd mw)))), (a3, .inl (cI, 7, .inl (nA (va_up (cpN xo ho k) k (xo k))))), (a4, .inl (cI, 7, .inl (nA (va_up (cpN xh hh k) k (xh k))))), (hU, .inr (7, [.ref b1, .ref b2, .ref b3, .ref b4, .int (nI mw), .int (nI mh), .int (nI C1)])), (b1, .inl (cI, 13, .inl (nA xp))), (b2, .inl (cI, 13, .inl (nA xd))), (b3, .inl (cI, 7, .inl (nA xo))), (b4, .inl (cI, 7, .inl (nA xh)))] H := hP
      have hD : va_D A [(hT, .inr (7, [.ref a1, .ref a2, .ref a3, .ref a4, .int (nI mw), .int (nI (k + 1)), .int (nI 0)])), (a1, .inl (cI, 13, .inl (nA (cpN xp wp mw)))), (a2, .inl (cI, 13, .inl (nA (cpN xd wd mw)))), (a3, .inl (cI, 7, .inl (nA (va_up (cpN xo ho k) k (xo k))))), (a4, .inl (cI, 7, .inl (nA (va_up (cpN xh hh k) k (xh k))))), (hU, .inr (7, [.ref b1, .ref b2, .ref b3, .ref b4, .int (nI mw), .int (nI mh), .int (nI C1)])), (b1, .inl (cI, 13, .inl (nA xp))), (b2, .inl (cI, 13, .inl (nA xd))), (b3, .inl (cI, 7, .inl (nA xo))), (b4, .inl (cI, 7, .inl (nA xh)))] := hD
      refine lv_iinc (v := (nI (k + 1))) (lv' := [(2, .int (nI (k + 1))), (0, .ref hT), (1, .ref hU)]) hx hb dX7_takeAll_62 hl (k := 0) rfl (nI_inc k) (by decide) rfl (fun ls hl => ?_)
      refine lv_goto (tgt := 38) hx hb dX7_takeAll_65 (by decide) ?_
      have e_24 : nA (va_up (cpN xo ho k) k (xo k)) = nA (cpN xo ho (k + 1)) := congrArg nA (show (va_up (cpN xo ho k) k (xo k)) = (cpN xo ho (k + 1)) by exact cpN_s xo ho k)
      have e_25 : nA (va_up (cpN xh hh k) k (xh k)) = nA (cpN xh hh (k + 1)) := congrArg nA (show (va_up (cpN xh hh k) k (xh k)) = (cpN xh hh (k + 1)) by exact cpN_s xh hh k)
      have q_26 : ([(hT, .inr (7, [.ref a1, .ref a2, .ref a3, .ref a4, .int (nI mw), .int (nI (k + 1)), .int (nI 0)])), (a1, .inl (cI, 13, .inl (nA (cpN xp wp mw)))), (a2, .inl (cI, 13, .inl (nA (cpN xd wd mw)))), (a3, .inl (cI, 7, .inl (nA (va_up (cpN xo ho k) k (xo k))))), (a4, .inl (cI, 7, .inl (nA (va_up (cpN xh hh k) k (xh k))))), (hU, .inr (7, [.ref b1, .ref b2, .ref b3, .ref b4, .int (nI mw), .int (nI mh), .int (nI C1)])), (b1, .inl (cI, 13, .inl (nA xp))), (b2, .inl (cI, 13, .inl (nA xd))), (b3, .inl (cI, 7, .inl (nA xo))), (b4, .inl (cI, 7, .inl (nA xh)))] : va_W) = [(hT, .inr (7, [.ref a1, .ref a2, .ref a3, .ref a4, .int (nI mw), .int (nI (k + 1)), .int (nI 0)])), (a1, .inl (cI, 13, .inl (nA (cpN xp wp mw)))), (a2, .inl (cI, 13, .inl (nA (cpN xd wd mw)))), (a3, .inl (cI, 7, .inl (nA (cpN xo ho (k + 1))))), (a4, .inl (cI, 7, .inl (nA (cpN xh hh (k + 1))))), (hU, .inr (7, [.ref b1, .ref b2, .ref b3, .ref b4, .int (nI mw), .int (nI mh), .int (nI C1)])), (b1, .inl (cI, 13, .inl (nA xp))), (b2, .inl (cI, 13, .inl (nA xd))), (b3, .inl (cI, 7, .inl (nA xo))), (b4, .inl (cI, 7, .inl (nA xh)))] := by rw [← e_24, ← e_25]
      exact ih38 (k + 1) _ _ _ (show mh - (k + 1) < mh - k by omega) (show ((k + 1) ≤ mh) from by omega) (kP_cast hP q_26) (kD_cast hD q_26) hS (lv_sub hl [0, 1, 2] rfl)
  · skip
    refine lv_aload_n hx hb dX7_takeAll_14 rfl (lv_at hl 1 rfl) ?_
    refine lv_aload_n hx hb dX7_takeAll_15 rfl (lv_at hl 2 rfl) ?_
    refine va_get (D := D) (ci := 7) (v := .ref b1) (C := RX7) (T := TX7) (N := 7) hx hb hts in_X7 hown hK hP 5 rfl rfl 0 (by decide) lk5 (fun _ h9 => h9) rfl dX7_takeAll_16 ?_
    refine lv_iload_n hx hb dX7_takeAll_19 rfl (lv_at hl 0 rfl) ?_
    refine k_iald hx hb hK hP 6 0 rfl rfl (show k < 13 by omega) (by decide) dX7_takeAll_20 ?_
    have b_27 := hxp k
    refine lv_aload_n hx hb dX7_takeAll_21 rfl (lv_at hl 2 rfl) ?_
    refine va_get (D := D) (ci := 7) (v := .ref b2) (C := RX7) (T := TX7) (N := 7) hx hb hts in_X7 hown hK hP 5 rfl rfl 1 (by decide) lk6 (fun _ h9 => h9) rfl dX7_takeAll_22 ?_
    refine lv_iload_n hx hb dX7_takeAll_25 rfl (lv_at hl 0 rfl) ?_
    refine k_iald hx hb hK hP 7 0 rfl rfl (show k < 13 by omega) (by decide) dX7_takeAll_26 ?_
    have b_28 := hxd k
    refine k_gov (S := Unit) (va_runV (As := [.int (nI (xp k)), .int (nI (xd k))]) (rest := []) ⟨hx, hb, hml, hown, hts⟩ (c_X7_addWord l D cI cZ cS cP hT a1 a2 a3 a4 (cpN xp wp k) (cpN xd wd k) ho hh k 0 0 (xp k) (xd k) (g1) (g2) (hho) (hhh) (by first | assumption | omega) (by first | assumption | omega) (by first | assumption | omega) _) (cwV 2 hts gX7_takeAll_X7_addWord rfl rfl rfl (by decide +kernel) ⟨Nat.le_of_ble_eq_true rfl, Nat.le_of_ble_eq_true rfl⟩) (kPreV hN hK hP hD [0, 1, 2, 3, 4] rfl rfl (q0 := 0) (ci := 7) (q := (RX7, TX7, 7)) rfl rfl) rfl rfl hl.1 rfl (lv_room (Nat.le_of_ble_eq_true rfl)) dX7_takeAll_27 ⟨Nat.le_of_ble_eq_true rfl, Nat.le_of_ble_eq_true rfl⟩) hP hD hS hA [0, 1, 2, 3, 4] rfl [hT, a1, a2, a3, a4] rfl (fun _ => rfl) 10 [5, 6, 7, 8, 9] rfl (fun _u => [(hT, .inr (7, [.ref a1, .ref a2, .ref a3, .ref a4, .int (nI (k + 1)), .int (nI 0), .int (nI 0)])), (a1, .inl (cI, 13, .inl (nA (va_up (cpN xp wp k) k (xp k))))), (a2, .inl (cI, 13, .inl (nA (va_up (cpN xd wd k) k (xd k))))), (a3, .inl (cI, 7, .inl (nA ho))), (a4, .inl (cI, 7, .inl (nA hh))), (hU, .inr (7, [.ref b1, .ref b2, .ref b3, .ref b4, .int (nI mw), .int (nI mh), .int (nI C1)])), (b1, .inl (cI, 13, .inl (nA xp))), (b2, .inl (cI, 13, .inl (nA xd))), (b3, .inl (cI, 7, .inl (nA xo))), (b4, .inl (cI, 7, .inl (nA xh)))]) (fun _ => rfl) [(hU, .inr (7, [.ref b1, .ref b2, .ref b3, .ref b4, .int (nI mw), .int (nI mh), .int (nI C1)])), (b1, .inl (cI, 13, .inl (nA xp))), (b2, .inl (cI, 13, .inl (nA xd))), (b3, .inl (cI, 7, .inl (nA xo))), (b4, .inl (cI, 7, .inl (nA xh)))] [] (fun _ => rfl) rfl (fun _ => rfl) rfl (fun _u H locs hr_30 hP hD hS => ?_)
    have hb_31 : ∀ i, (va_up (cpN xp wp k) k (xp k)) i < 7 := up_lt (g1) (by first | assumption | omega)
    have hb_32 : ∀ i, (va_up (cpN xd wd k) k (xd k)) i < 40 := up_lt (g2) (by first | assumption | omega)
    have hP : va_P D vwCl [(hT, .inr (7, [.ref a1, .ref a2, .ref a3, .ref a4, .int (nI (k + 1)), .int (nI 0), .int (nI 0)])), (a1, .inl (cI, 13, .inl (nA (va_up (cpN xp wp k) k (xp k))))), (a2, .inl (cI, 13, .inl (nA (va_up (cpN xd wd k) k (xd k))))), (a3, .inl (cI, 7, .inl (nA ho))), (a4, .inl (cI, 7, .inl (nA hh))), (hU, .inr (7, [.ref b1, .ref b2, .ref b3, .ref b4, .int (nI mw), .int (nI mh), .int (nI C1)])), (b1, .inl (cI, 13, .inl (nA xp))), (b2, .inl (cI, 13, .inl (nA xd))), (b3, .inl (cI, 7, .inl (nA xo))), (b4, .inl (cI, 7, .inl (nA xh)))] H := hP
    have hD : va_D A [(hT, .inr (7, [.ref a1, .ref a2, .ref a3, .ref a4, .int (nI (k + 1)), .int (nI 0), .int (nI 0)])), (a1, .inl (cI, 13, .inl (nA (va_up (cpN xp wp k) k (xp k))))), (a2, .inl (cI, 13, .inl (nA (va_up (cpN xd wd k) k (xd k))))), (a3, .inl (cI, 7, .inl (nA ho))), (a4, .inl (cI, 7, .inl (nA hh))), (hU, .inr (7, [.ref b1, .ref b2, .ref b3, .ref b4, .int (nI mw), .int (nI mh), .int (nI C1)])), (b1, .inl (cI, 13, .inl (nA xp))), (b2, .inl (cI, 13, .inl (nA xd))), (b3, .inl (cI, 7, .inl (nA xo))), (b4, .inl (cI, 7, .inl (nA xh)))] := hD
    refine lv_iinc (v := (nI (k + 1))) (lv' := [(2, .int (nI (k + 1))), (0, .ref hT), (1, .ref hU)]) hx hb dX7_takeAll_30 hl (k := 0) rfl (nI_inc k) (by decide) rfl (fun ls hl => ?_)
    refine lv_goto (tgt := 6) hx hb dX7_takeAll_33 (by decide) ?_
    have e_33 : nA (va_up (cpN xp wp k) k (xp k)) = nA (cpN xp wp (k + 1)) := congrArg nA (show (va_up (cpN xp wp k) k (xp k)) = (cpN xp wp (k + 1)) by exact cpN_s xp wp k)
    have e_34 : nA (va_up (cpN xd wd k) k (xd k)) = nA (cpN xd wd (k + 1)) := congrArg nA (show (va_up (cpN xd wd k) k (xd k)) = (cpN xd wd (k + 1)) by exact cpN_s xd wd k)
    have q_35 : ([(hT, .inr (7, [.ref a1, .ref a2, .ref a3, .ref a4, .int (nI (k + 1)), .int (nI 0), .int (nI 0)])), (a1, .inl (cI, 13, .inl (nA (va_up (cpN xp wp k) k (xp k))))), (a2, .inl (cI, 13, .inl (nA (va_up (cpN xd wd k) k (xd k))))), (a3, .inl (cI, 7, .inl (nA ho))), (a4, .inl (cI, 7, .inl (nA hh))), (hU, .inr (7, [.ref b1, .ref b2, .ref b3, .ref b4, .int (nI mw), .int (nI mh), .int (nI C1)])), (b1, .inl (cI, 13, .inl (nA xp))), (b2, .inl (cI, 13, .inl (nA xd))), (b3, .inl (cI, 7, .inl (nA xo))), (b4, .inl (cI, 7, .inl (nA xh)))] : va_W) = [(hT, .inr (7, [.ref a1, .ref a2, .ref a3, .ref a4, .int (nI (k + 1)), .int (nI 0), .int (nI 0)])), (a1, .inl (cI, 13, .inl (nA (cpN xp wp (k + 1))))), (a2, .inl (cI, 13, .inl (nA (cpN xd wd (k + 1))))), (a3, .inl (cI, 7, .inl (nA ho))), (a4, .inl (cI, 7, .inl (nA hh))), (hU, .inr (7, [.ref b1, .ref b2, .ref b3, .ref b4, .int (nI mw), .int (nI mh), .int (nI C1)])), (b1, .inl (cI, 13, .inl (nA xp))), (b2, .inl (cI, 13, .inl (nA xd))), (b3, .inl (cI, 7, .inl (nA xo))), (b4, .inl (cI, 7, .inl (nA xh)))] := by rw [← e_33, ← e_34]
    exact ih6 (k + 1) _ _ _ (show mw - (k + 1) < mw - k by omega) (show ((k + 1) ≤ mw) from by omega) (kP_cast hP q_35) (kD_cast hD q_35) hS (lv_sub hl [0, 1, 2] rfl)
