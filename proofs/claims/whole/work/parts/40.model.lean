theorem lg_lt (v a : Int64) : lg_cmp v a < 0 ↔ v < a := by
  unfold lg_cmp
  by_cases h : v > a
  · rw [if_pos h]
    exact ⟨fun z => absurd z (by decide), fun z => (Int64.lt_irrefl (Int64.lt_trans h z)).elim⟩
  · rw [if_neg h]
    by_cases e : v = a
    · rw [if_pos e]
      exact ⟨fun z => absurd z (by decide), fun z => (Int64.lt_irrefl (e ▸ z)).elim⟩
    · rw [if_neg e]
      exact ⟨fun _ => Int64.lt_of_le_of_ne (Int64.not_lt.mp h) e, fun _ => by decide⟩
theorem lg_gt (v a : Int64) : 0 < lg_cmp v a ↔ a < v := by
  unfold lg_cmp
  by_cases h : v > a
  · rw [if_pos h]
    exact ⟨fun _ => h, fun _ => by decide⟩
  · rw [if_neg h]
    by_cases e : v = a
    · rw [if_pos e]
      exact ⟨fun z => absurd z (by decide), fun z => absurd z h⟩
    · rw [if_neg e]
      exact ⟨fun z => absurd z (by decide), fun z => absurd z h⟩
theorem in_ok {v a b : Int64} : ((¬ (lg_cmp v a < 0)) ∧ (¬ (0 < lg_cmp v b))) ↔ (a ≤ v ∧ v ≤ b) := by
  rw [lg_lt, lg_gt, Int64.not_lt, Int64.not_lt]
section KI
variable {p : Program} {l : Launch} {e : Env} {R : Room} {s : State} {m : MethodId} {args : Array Value} {below : List Frame} {meth : Method} {c : Code} {H : Heap} {locs : List Loc} {cells slots : Nat} {Q : State → Prop} {cc : ByteArray} {pc : Nat} {ls : Array Slot} {rest : List Value}
theorem k_ifn_eq (hx : p.tables.exec = Jvm.exec) (hb : c.code = cc) {C : Prop} [Decidable C] {off : Int} {tgt : Nat} (hdg : decode cc pc = .ok (.ifCond .eq off, 3)) (ht : (pc : Int) + off = (tgt : Int))
    (kt : C → W p l e R s m args below meth c H locs cells slots Q (F0 m tgt ls rest)) (kf : ¬ C → W p l e R s m args below meth c H locs cells slots Q (F0 m (pc + 3) ls rest)) : W p l e R s m args below meth c H locs cells slots Q (F0 m pc ls (.int (nI (if ¬ (C) then 1 else 0)) :: rest)) :=
  k_ifc_eq hx hb hdg ht (fun h => kt (Decidable.not_not.mp h)) kf
theorem k_ifn_ne (hx : p.tables.exec = Jvm.exec) (hb : c.code = cc) {C : Prop} [Decidable C] {off : Int} {tgt : Nat} (hdg : decode cc pc = .ok (.ifCond .ne off, 3)) (ht : (pc : Int) + off = (tgt : Int))
    (kt : ¬ C → W p l e R s m args below meth c H locs cells slots Q (F0 m tgt ls rest)) (kf : C → W p l e R s m args below meth c H locs cells slots Q (F0 m (pc + 3) ls rest)) : W p l e R s m args below meth c H locs cells slots Q (F0 m pc ls (.int (nI (if ¬ (C) then 1 else 0)) :: rest)) :=
  k_ifc_ne hx hb hdg ht kt (fun h => kf (Decidable.not_not.mp h))
end KI
theorem t64 (x : Int32) : x.toInt64.toInt = x.toInt := Int32.toInt_toInt64 x
theorem inM {x : Int32} {n : Nat} (hn : n < 2 ^ 30) : (lN 0 ≤ x.toInt64 ∧ x.toInt64 ≤ (lN n) - (lN 1)) ↔ inR x n := by
  unfold inR
  have e : (lN n - lN 1).toInt = (n : Int) - 1 := by
    rw [Int64.toInt_sub, lN_toInt (show n < 2 ^ 31 by omega), lN_toInt (show 1 < 2 ^ 31 by decide)]
    apply Int.bmod_eq_of_le <;> omega
  rw [Int64.le_iff_toInt_le, Int64.le_iff_toInt_le, t64, e, lN_toInt (show 0 < 2 ^ 31 by decide)]
  omega
theorem inMk {x : Int32} {k : Nat} (hk : k < 2 ^ 30) : (lN 0 ≤ x.toInt64 ∧ x.toInt64 ≤ lN k) ↔ inR x (k + 1) := by
  unfold inR
  rw [Int64.le_iff_toInt_le, Int64.le_iff_toInt_le, t64, lN_toInt (show k < 2 ^ 31 by omega), lN_toInt (show 0 < 2 ^ 31 by decide)]
  omega
def pcU (S : Nat) : Nat → Nat
  | 0 => 0
  | i + 1 => pcU S i + (if S.testBit i = true then 1 else 0)
theorem pcU_end0 : ∀ S, S < 128 → ∀ i, i < 8 → S / 2 ^ i = 0 → pcU S i = popc S := by decide +kernel
theorem pcU_le : ∀ S i, pcU S i ≤ i
  | _, 0 => Nat.le_refl 0
  | S, i + 1 => by
    have := pcU_le S i
    unfold pcU
    split <;> omega
theorem bits_lt {S i : Nat} (hS : S < 128) (h : 0 < S / 2 ^ i) : i < 7 := by
  by_cases c : i < 7
  · exact c
  · have : 2 ^ 7 ≤ 2 ^ i := Nat.pow_le_pow_right (by decide) (by omega)
    rw [Nat.div_eq_of_lt (by omega)] at h
    omega
theorem near_ok {a b e : Nat} : ((if a ≤ b then b - a else a - b) ≤ e) ↔ absD b a ≤ e := by
  unfold absD
  by_cases h : a ≤ b
  · by_cases h2 : b < a
    · omega
    · simp [h, h2]
  · have : b < a := by omega
    simp [h, this]
/-- the words that reach one, in the model's count; wo: one left out -/
def cntM (wp wd : Nat → Nat) (er a d : Nat) (wo : Option Nat) : Nat → Nat
  | 0 => 0
  | k + 1 => cntM wp wd er a d wo k + (if wo ≠ some k ∧ (wd k ≤ d ∧ absD (wp k) a ≤ er) then 1 else 0)
def cntB (S er a : Nat) : Nat → Nat
  | 0 => 0
  | k + 1 => cntB S er a k + (if S.testBit k = true ∧ absD k a ≤ er then 1 else 0)
theorem cntM_le (wp wd : Nat → Nat) (er a d : Nat) (wo : Option Nat) : ∀ k, cntM wp wd er a d wo k ≤ k
  | 0 => Nat.le_refl 0
  | k + 1 => by
    have := cntM_le wp wd er a d wo k
    unfold cntM
    split <;> omega
theorem cntB_le (S er a : Nat) : ∀ k, cntB S er a k ≤ k
  | 0 => Nat.le_refl 0
  | k + 1 => by
    have := cntB_le S er a k
    unfold cntB
    split <;> omega
theorem cntM_n {wp wd : Nat → Nat} {er a d k : Nat} : cntM wp wd er a d none k + (if (wd k ≤ d) ∧ (absD (wp k) a ≤ er) then 1 else 0) = cntM wp wd er a d none (k + 1) := by
  simp [cntM]
theorem cntM_w {wp wd : Nat → Nat} {er a d k wo : Nat} : cntM wp wd er a d (some wo) k + (if (¬ (k = wo)) ∧ ((wd k ≤ d) ∧ (absD (wp k) a ≤ er)) then 1 else 0) = cntM wp wd er a d (some wo) (k + 1) := by
  have : (¬ (k = wo)) ↔ (some wo : Option Nat) ≠ some k := by
    constructor
    · intro h e; exact h (Option.some.inj e).symm
    · intro h e; exact h (by rw [e])
  simp only [cntM, this]
theorem mk_or {P : Nat → Bool} {k : Nat} {c1 c2 : Prop} [Decidable c1] [Decidable c2] (h : P k = true ↔ c1 ∧ c2) : mk P k ||| (if c1 then (if c2 then 2 ^ k else 0) else 0) = mk P (k + 1) := by
  rw [show mk P (k + 1) = (if P k = true then mk P k ||| 2 ^ k else mk P k) from rfl]
  by_cases h1 : c1
  · by_cases h2 : c2
    · rw [if_pos h1, if_pos h2, if_pos (h.mpr ⟨h1, h2⟩)]
    · rw [if_pos h1, if_neg h2, if_neg (fun z => h2 (h.mp z).2), Nat.or_zero]
  · rw [if_neg h1, if_neg (fun z => h1 (h.mp z).1), Nat.or_zero]
theorem mk_or1 {P : Nat → Bool} {k : Nat} {c1 : Prop} [Decidable c1] (h : P k = true ↔ c1) : mk P k ||| (if c1 then 2 ^ k else 0) = mk P (k + 1) := by
  rw [show mk P (k + 1) = (if P k = true then mk P k ||| 2 ^ k else mk P k) from rfl]
  by_cases h1 : c1
  · rw [if_pos h1, if_pos (h.mpr h1)]
  · rw [if_neg h1, if_neg (fun z => h1 (h.mp z)), Nat.or_zero]
def rm_X11_in : Room := { frames := 0, cells := 0, slots := 0, locals := 0 }
set_option maxHeartbeats 4000000 in
set_option maxRecDepth 100000 in
theorem c_X11_in (l : Launch) (D : va_G) (cI cZ cS cP : ClassId) (v : Int64) (a : Int64) (b : Int64) : kMi (S := Unit) l yX11_in wsX11_in rm_X11_in D (kT cI cZ cS cP) [.long v, .long a, .long b] [] (fun r _ => r = (nI (if a ≤ v ∧ v ≤ b then 1 else 0))) (fun _ => []) := by
  refine kMet_i (cc := cX11_in) (maxL := 6) (ty := .boolean) (by decide) rfl (Nat.le_of_ble_eq_true rfl) (fun _ _ q => by (first | subst q | (obtain ⟨q, -⟩ := q; subst q)); (first | exact kz_nr | decide)) ?_
  intro p e s m args below meth c A Q ls C hlocks hin hN hK hP hD hS hA hl ret
  obtain ⟨hx, hb, hml, hown, hts⟩ := C
  have hl : lv_has ls 6 [(0, .long v), (2, .long a), (4, .long b)] := hl
  refine lv_lload_n hx hb dX11_in_0 rfl (lv_at hl 0 rfl) ?_
  refine lv_lload_n hx hb dX11_in_1 rfl (lv_at hl 1 rfl) ?_
  refine W.lcmp hx hb dX11_in_2 ?_
  have j_1 : ∀ (H : Heap) (locs : List Loc) (ls : Array Slot), va_P D vwCl [] H → va_D A [] → va_S A s.heap H locs → lv_has ls 6 [(0, .long v), (2, .long a), (4, .long b)] → W p l e rm_X11_in s m args below meth c H locs 0 0 Q (F0 m 18 ls [.int (nI (if (¬ ((lg_cmp v a) < 0)) ∧ (¬ (0 < (lg_cmp v b))) then 1 else 0))]) := by
    clear hP hD hS hl
    intro H locs ls hP hD hS hl
    exact ret _ () _ _ _ _ dX11_in_18 (congrArg nI (show (if (¬ ((lg_cmp v a) < 0)) ∧ (¬ (0 < (lg_cmp v b))) then 1 else 0) = (if a ≤ v ∧ v ≤ b then 1 else 0) by exact k_ifc in_ok)) hP hD hS
  refine lv_if_lt (tgt := 17) hx hb dX11_in_3 (by decide) (fun c_2 => ?_) (fun c_2 => ?_)
  · skip
    refine lv_iconst (v := (nI 0)) hx hb dX11_in_17 (by decide) ?_
    have e_3 := (show (nI 0) = (nI (if (¬ ((lg_cmp v a) < 0)) ∧ (¬ (0 < (lg_cmp v b))) then 1 else 0)) from congrArg nI (if_neg (fun z => (fun z => z c_2) z.1)).symm)
    refine k_eqi (show (nI 0) = (nI (if (¬ ((lg_cmp v a) < 0)) ∧ (¬ (0 < (lg_cmp v b))) then 1 else 0)) from congrArg nI (if_neg (fun z => (fun z => z c_2) z.1)).symm) ?_
    exact j_1 _ _ _ hP hD hS (lv_sub hl [0, 1, 2] rfl)
  · skip
    refine lv_lload_n hx hb dX11_in_6 rfl (lv_at hl 0 rfl) ?_
    refine lv_lload hx hb dX11_in_7 (lv_at hl 2 rfl) ?_
    refine W.lcmp hx hb dX11_in_9 ?_
    refine lv_if_gt (tgt := 17) hx hb dX11_in_10 (by decide) (fun c_4 => ?_) (fun c_4 => ?_)
    · skip
      refine lv_iconst (v := (nI 0)) hx hb dX11_in_17 (by decide) ?_
      have e_5 := (show (nI 0) = (nI (if (¬ ((lg_cmp v a) < 0)) ∧ (¬ (0 < (lg_cmp v b))) then 1 else 0)) from congrArg nI (if_neg (fun z => (fun z => z c_4) z.2)).symm)
      refine k_eqi (show (nI 0) = (nI (if (¬ ((lg_cmp v a) < 0)) ∧ (¬ (0 < (lg_cmp v b))) then 1 else 0)) from congrArg nI (if_neg (fun z => (fun z => z c_4) z.2)).symm) ?_
      exact j_1 _ _ _ hP hD hS (lv_sub hl [0, 1, 2] rfl)
    · skip
      refine lv_iconst (v := (nI 1)) hx hb dX11_in_13 (by decide) ?_
      refine lv_goto (tgt := 18) hx hb dX11_in_14 (by decide) ?_
      have e_6 := (show (nI 1) = (nI (if (¬ ((lg_cmp v a) < 0)) ∧ (¬ (0 < (lg_cmp v b))) then 1 else 0)) from congrArg nI (if_pos (⟨c_2, c_4⟩)).symm)
      refine k_eqi (show (nI 1) = (nI (if (¬ ((lg_cmp v a) < 0)) ∧ (¬ (0 < (lg_cmp v b))) then 1 else 0)) from congrArg nI (if_pos (⟨c_2, c_4⟩)).symm) ?_
      exact j_1 _ _ _ hP hD hS (lv_sub hl [0, 1, 2] rfl)
def rm_X11_lost : Room := { frames := 0, cells := 0, slots := 0, locals := 0 }
set_option maxHeartbeats 4000000 in
set_option maxRecDepth 100000 in
theorem c_X11_lost (l : Launch) (D : va_G) (cI cZ cS cP : ClassId) : kMl (S := Unit) l yX11_lost wsX11_lost rm_X11_lost D (kT cI cZ cS cP) [] [] (fun r _ => r = (-9223372036854775808)) (fun _ => []) := by
  refine kMet_l (cc := cX11_lost) (maxL := 0) (by decide) rfl (Nat.le_of_ble_eq_true rfl) ?_
  intro p e s m args below meth c A Q ls C hlocks hin hN hK hP hD hS hA hl ret
  obtain ⟨hx, hb, hml, hown, hts⟩ := C
  have hl : lv_has ls 0 [] := hl
  have lk0 := hts (.constantLong RX11 65 (-9223372036854775808)) (by decide +kernel)
  refine lv_ldc2 (v := (-9223372036854775808)) hx hb hown lk0 dX11_lost_0 ?_
  exact ret _ () _ _ _ _ dX11_lost_3 (rfl) hP hD hS
def rm_X11_isIn : Room := { frames := 0, cells := 0, slots := 0, locals := 0 }
set_option maxHeartbeats 4000000 in
set_option maxRecDepth 100000 in
theorem c_X11_isIn (l : Launch) (D : va_G) (cI cZ cS cP : ClassId) (S : Nat) (k : Nat) (hS1 : S < 2 ^ 31) (hk : k < 32) : kMi (S := Unit) l yX11_isIn wsX11_isIn rm_X11_isIn D (kT cI cZ cS cP) [.int (nI S), .int (nI k)] [] (fun r _ => r = (nI (if S.testBit k = true then 1 else 0))) (fun _ => []) := by
  refine kMet_i (cc := cX11_isIn) (maxL := 2) (ty := .boolean) (by decide) rfl (Nat.le_of_ble_eq_true rfl) (fun _ _ q => by (first | subst q | (obtain ⟨q, -⟩ := q; subst q)); (first | exact kz_nr | decide)) ?_
  intro p e s m args below meth c A Q ls C hlocks hin hN hK hP hD hS hA hl ret
  obtain ⟨hx, hb, hml, hown, hts⟩ := C
  have hl : lv_has ls 2 [(0, .int (nI S)), (1, .int (nI k))] := hl
  refine lv_iload_n hx hb dX11_isIn_0 rfl (lv_at hl 0 rfl) ?_
  refine lv_iload_n hx hb dX11_isIn_1 rfl (lv_at hl 1 rfl) ?_
  refine lv_ishr hx hb dX11_isIn_2 ?_
  refine k_eqi (show ((nI S) >>> ((nI k) &&& 31)) = (nI (S / 2 ^ k)) from nI_shr (show S < 2 ^ 31 by omega) (show k < 32 by omega)) ?_
  refine lv_iconst (v := (nI 1)) hx hb dX11_isIn_3 (by decide) ?_
  refine lv_iand hx hb dX11_isIn_4 ?_
  refine k_eqi (show ((nI (S / 2 ^ k)) &&& (nI 1)) = (nI (if S.testBit k = true then 1 else 0)) from nI_bit S k) ?_
  refine lv_iconst (v := (nI 1)) hx hb dX11_isIn_5 (by decide) ?_
  have j_1 : ∀ (H : Heap) (locs : List Loc) (ls : Array Slot), va_P D vwCl [] H → va_D A [] → va_S A s.heap H locs → lv_has ls 2 [(0, .int (nI S)), (1, .int (nI k))] → W p l e rm_X11_isIn s m args below meth c H locs 0 0 Q (F0 m 14 ls [.int (nI (if (if S.testBit k = true then 1 else 0) = 1 then 1 else 0))]) := by
    clear hP hD hS hl
    intro H locs ls hP hD hS hl
    exact ret _ () _ _ _ _ dX11_isIn_14 (congrArg nI (show (if (if S.testBit k = true then 1 else 0) = 1 then 1 else 0) = (if S.testBit k = true then 1 else 0) by exact k_ifc (by by_cases z9 : S.testBit k = true <;> simp [z9]))) hP hD hS
  refine k_icmp_ne (tgt := 13) hx hb dX11_isIn_6 (by decide) (show (if S.testBit k = true then 1 else 0) < 2 ^ 31 by first | omega | (split <;> omega)) (show 1 < 2 ^ 31 by first | omega | (split <;> omega)) (fun c_2 => ?_) (fun c_2 => ?_)
  · skip
    refine lv_iconst (v := (nI 0)) hx hb dX11_isIn_13 (by decide) ?_
    have e_3 := (show (nI 0) = (nI (if (if S.testBit k = true then 1 else 0) = 1 then 1 else 0)) from congrArg nI (if_neg c_2).symm)
    refine k_eqi (show (nI 0) = (nI (if (if S.testBit k = true then 1 else 0) = 1 then 1 else 0)) from congrArg nI (if_neg c_2).symm) ?_
    exact j_1 _ _ _ hP hD hS (lv_sub hl [0, 1] rfl)
  · skip
    refine lv_iconst (v := (nI 1)) hx hb dX11_isIn_9 (by decide) ?_
    refine lv_goto (tgt := 14) hx hb dX11_isIn_10 (by decide) ?_
    have e_4 := (show (nI 1) = (nI (if (if S.testBit k = true then 1 else 0) = 1 then 1 else 0)) from congrArg nI (if_pos c_2).symm)
    refine k_eqi (show (nI 1) = (nI (if (if S.testBit k = true then 1 else 0) = 1 then 1 else 0)) from congrArg nI (if_pos c_2).symm) ?_
    exact j_1 _ _ _ hP hD hS (lv_sub hl [0, 1] rfl)
def rm_X11_bits : Room := { frames := 0, cells := 0, slots := 0, locals := 0 }
set_option maxHeartbeats 4000000 in
set_option maxRecDepth 100000 in
theorem c_X11_bits (l : Launch) (D : va_G) (cI cZ cS cP : ClassId) (S : Nat) (hS1 : S < 128) : kMi (S := Unit) l yX11_bits wsX11_bits rm_X11_bits D (kT cI cZ cS cP) [.int (nI S)] [] (fun r _ => r = (nI (popc S))) (fun _ => []) := by
  refine kMet_i (cc := cX11_bits) (maxL := 3) (ty := .int) (by decide) rfl (Nat.le_of_ble_eq_true rfl) (fun _ _ _ => rfl) ?_
  intro p e s m args below meth c A Q ls C hlocks hin hN hK hP hD hS hA hl ret
  obtain ⟨hx, hb, hml, hown, hts⟩ := C
  have hl : lv_has ls 3 [(0, .int (nI S))] := hl
  refine lv_iconst (v := (nI 0)) hx hb dX11_bits_0 (by decide) ?_
  refine lv_istore_n (lv' := [(1, .int (nI 0)), (0, .int (nI S))]) hx hb dX11_bits_1 rfl hl (by decide) rfl (fun ls hl => ?_)
  refine lv_iload_n hx hb dX11_bits_2 rfl (lv_at hl 1 rfl) ?_
  refine lv_istore_n (lv' := [(2, .int (nI S)), (1, .int (nI 0)), (0, .int (nI S))]) hx hb dX11_bits_3 rfl hl (by decide) rfl (fun ls hl => ?_)
  have e_1 : (nI S) = (nI (S / 2 ^ 0)) := congrArg nI (show S = S / 2 ^ 0 by rw [Nat.pow_zero, Nat.div_one])
  have e_2 : (nI 0) = (nI (pcU S 0)) := congrArg nI (show 0 = pcU S 0 by rfl)
  refine k_loop (α := Nat) (nL := 3) (fun i => 7 - i) (fun i => []) (fun i => [(2, .int (nI (S / 2 ^ i))), (1, .int (nI (pcU S i))), (0, .int (nI S))]) (fun i => (i ≤ 7)) ?_ 0 (show (0 ≤ 7) from by omega) hP hD hS (lv_cast (lv_sub hl [0, 1, 2] rfl) (show ([(2, .int (nI S)), (1, .int (nI 0)), (0, .int (nI S))] : List (Nat × Value)) = [(2, .int (nI (S / 2 ^ 0))), (1, .int (nI (pcU S 0))), (0, .int (nI S))] by rw [← e_1, ← e_2]))
  clear hP hD hS hl
  intro i H locs ls hI hP hD hS hl ih4
  have hi : (i ≤ 7) := hI
  have hP : va_P D vwCl [] H := hP
  have hD : va_D A [] := hD
  have hl : lv_has ls 3 [(2, .int (nI (S / 2 ^ i))), (1, .int (nI (pcU S i))), (0, .int (nI S))] := hl
  have g1 := pcU_le S i
  have g2 : S / 2 ^ i ≤ S := Nat.div_le_self _ _
  refine lv_iload_n hx hb dX11_bits_4 rfl (lv_at hl 0 rfl) ?_
  refine k_if_le (tgt := 21) hx hb dX11_bits_5 (by decide) (show (S / 2 ^ i) < 2 ^ 31 by first | omega | (split <;> omega)) (fun c_3 => ?_) (fun c_3 => ?_)
  · skip
    refine lv_iload_n hx hb dX11_bits_21 rfl (lv_at hl 1 rfl) ?_
    exact ret _ () _ _ _ _ dX11_bits_22 (congrArg nI (show pcU S i = popc S by exact pcU_end0 S hS1 i (by omega) (by assumption))) hP hD hS
  · skip
    refine lv_iload_n hx hb dX11_bits_8 rfl (lv_at hl 1 rfl) ?_
    refine lv_iload_n hx hb dX11_bits_9 rfl (lv_at hl 0 rfl) ?_
    refine lv_iconst (v := (nI 1)) hx hb dX11_bits_10 (by decide) ?_
    refine lv_iand hx hb dX11_bits_11 ?_
    refine k_eqi (show ((nI (S / 2 ^ i)) &&& (nI 1)) = (nI (if S.testBit i = true then 1 else 0)) from nI_bit S i) ?_
    refine lv_iadd hx hb dX11_bits_12 ?_
    refine k_eqi (show ((nI (pcU S i)) + (nI (if S.testBit i = true then 1 else 0))) = (nI ((pcU S i) + (if S.testBit i = true then 1 else 0))) from nI_add (pcU S i) (if S.testBit i = true then 1 else 0)) ?_
    refine lv_istore_n (lv' := [(1, .int (nI ((pcU S i) + (if S.testBit i = true then 1 else 0)))), (2, .int (nI (S / 2 ^ i))), (0, .int (nI S))]) hx hb dX11_bits_13 rfl hl (by decide) rfl (fun ls hl => ?_)
    refine lv_iload_n hx hb dX11_bits_14 rfl (lv_at hl 1 rfl) ?_
    refine lv_iconst (v := (nI 1)) hx hb dX11_bits_15 (by decide) ?_
    refine lv_ishr hx hb dX11_bits_16 ?_
    refine k_eqi (show ((nI (S / 2 ^ i)) >>> ((nI 1) &&& 31)) = (nI ((S / 2 ^ i) / 2 ^ 1)) from nI_shr (show (S / 2 ^ i) < 2 ^ 31 by omega) (show 1 < 32 by omega)) ?_
    refine lv_istore_n (lv' := [(2, .int (nI ((S / 2 ^ i) / 2 ^ 1))), (1, .int (nI ((pcU S i) + (if S.testBit i = true then 1 else 0)))), (0, .int (nI S))]) hx hb dX11_bits_17 rfl hl (by decide) rfl (fun ls hl => ?_)
    refine lv_goto (tgt := 4) hx hb dX11_bits_18 (by decide) ?_
    have g3 := bits_lt hS1 (by assumption)
    have e_4 : (nI ((S / 2 ^ i) / 2 ^ 1)) = (nI (S / 2 ^ (i + 1))) := congrArg nI (show (S / 2 ^ i) / 2 ^ 1 = S / 2 ^ (i + 1) by rw [Nat.pow_one, Nat.div_div_eq_div_mul, Nat.pow_succ])
    have e_5 : (nI ((pcU S i) + (if S.testBit i = true then 1 else 0))) = (nI (pcU S (i + 1))) := congrArg nI (show (pcU S i) + (if S.testBit i = true then 1 else 0) = pcU S (i + 1) by rfl)
    exact ih4 (i + 1) _ _ _ (show 7 - (i + 1) < 7 - i by omega) (show ((i + 1) ≤ 7) from by omega) hP hD hS (lv_cast (lv_sub hl [0, 1, 2] rfl) (show ([(2, .int (nI ((S / 2 ^ i) / 2 ^ 1))), (1, .int (nI ((pcU S i) + (if S.testBit i = true then 1 else 0)))), (0, .int (nI S))] : List (Nat × Value)) = [(2, .int (nI (S / 2 ^ (i + 1)))), (1, .int (nI (pcU S (i + 1)))), (0, .int (nI S))] by rw [← e_4, ← e_5]))
def rm_X11_refused : Room := { frames := 0, cells := 0, slots := 0, locals := 0 }
set_option maxHeartbeats 4000000 in
set_option maxRecDepth 100000 in
theorem c_X11_refused (l : Launch) (D : va_G) (cI cZ cS cP : ClassId) (hM : Nat) (m1 : Nat) (m2 : Nat) (m3 : Nat) (m4 : Nat) (m5 : Nat) (m6 : Nat) (m7 : Nat) (m8 : Nat) (m9 : Nat) (m10 : Nat) (m11 : Nat) (m12 : Nat) (m13 : Nat) (m14 : Nat) (m15 : Nat) (m16 : Nat) (m17 : Nat) (m18 : Nat) (mf : Nat) (mn : Nat) (mb : Nat) (ra : Nat) (rn : Nat) (mw : Nat) (mh : Nat) (mm : Nat) (mr : Nat) (mt : Int32) (x : Int32) : kMi (S := Unit) l yX11_refused wsX11_refused rm_X11_refused D (kT cI cZ cS cP) [.ref hM, .int x] [(hM, .inr (11, [.int (nI mf), .int (nI mn), .ref m1, .ref m2, .ref m3, .int (nI mb), .int (nI ra), .int (nI rn), .ref m4, .ref m5, .ref m6, .int (nI mw), .ref m7, .ref m8, .int (nI mh), .ref m9, .ref m10, .int (nI mm), .ref m11, .int (nI mr), .ref m12, .ref m13, .ref m14, .ref m15, .ref m16, .ref m17, .ref m18, .int mt]))] (fun r _ => r = x) (fun _ => [(hM, .inr (11, [.int (nI 0), .int (nI mn), .ref m1, .ref m2, .ref m3, .int (nI mb), .int (nI ra), .int (nI rn), .ref m4, .ref m5, .ref m6, .int (nI mw), .ref m7, .ref m8, .int (nI mh), .ref m9, .ref m10, .int (nI mm), .ref m11, .int (nI mr), .ref m12, .ref m13, .ref m14, .ref m15, .ref m16, .ref m17, .ref m18, .int mt]))]) := by
  refine kMet_i (cc := cX11_refused) (maxL := 2) (ty := .int) (by decide) rfl (Nat.le_of_ble_eq_true rfl) (fun _ _ _ => rfl) ?_
  intro p e s m args below meth c A Q ls C hlocks hin hN hK hP hD hS hA hl ret
  obtain ⟨hx, hb, hml, hown, hts⟩ := C
  have hl : lv_has ls 2 [(0, .ref hM), (1, .int x)] := hl
  have in_X11 : ∀ w ∈ wsX110, w ∈ wsX11_refused := by decide +kernel
  have lk0 := hts (.fieldLink RX11 67 "SilkWordModel" "fault" "I") (by decide +kernel)
  refine lv_aload_n hx hb dX11_refused_0 rfl (lv_at hl 0 rfl) ?_
  refine lv_iconst (v := (nI 0)) hx hb dX11_refused_1 (by decide) ?_
  refine va_put (D := D) (ci := 11) (v := .int (nI 0)) (ty := .int) (C := RX11) (T := TX11) (N := 28) hx hb hts in_X11 tyX11 tyX11_ok nmX11 hown hK hP hD hS 0 rfl rfl 0 (by decide) lk0 (fun _ h9 => h9) rfl (by decide +kernel) rfl rfl (Nat.le_of_ble_eq_true rfl) dX11_refused_2 (fun H locs hP hD hS => ?_)
  have hP : va_P D vwCl [(hM, .inr (11, [.int (nI 0), .int (nI mn), .ref m1, .ref m2, .ref m3, .int (nI mb), .int (nI ra), .int (nI rn), .ref m4, .ref m5, .ref m6, .int (nI mw), .ref m7, .ref m8, .int (nI mh), .ref m9, .ref m10, .int (nI mm), .ref m11, .int (nI mr), .ref m12, .ref m13, .ref m14, .ref m15, .ref m16, .ref m17, .ref m18, .int mt]))] H := hP
  have hD : va_D A [(hM, .inr (11, [.int (nI 0), .int (nI mn), .ref m1, .ref m2, .ref m3, .int (nI mb), .int (nI ra), .int (nI rn), .ref m4, .ref m5, .ref m6, .int (nI mw), .ref m7, .ref m8, .int (nI mh), .ref m9, .ref m10, .int (nI mm), .ref m11, .int (nI mr), .ref m12, .ref m13, .ref m14, .ref m15, .ref m16, .ref m17, .ref m18, .int mt]))] := hD
  refine lv_iload_n hx hb dX11_refused_5 rfl (lv_at hl 1 rfl) ?_
  exact ret _ () _ _ _ _ dX11_refused_6 (rfl) hP hD hS
def rm_X11_failed : Room := { frames := 0, cells := 0, slots := 0, locals := 0 }
set_option maxHeartbeats 4000000 in
set_option maxRecDepth 100000 in
theorem c_X11_failed (l : Launch) (D : va_G) (cI cZ cS cP : ClassId) (hM : Nat) (m1 : Nat) (m2 : Nat) (m3 : Nat) (m4 : Nat) (m5 : Nat) (m6 : Nat) (m7 : Nat) (m8 : Nat) (m9 : Nat) (m10 : Nat) (m11 : Nat) (m12 : Nat) (m13 : Nat) (m14 : Nat) (m15 : Nat) (m16 : Nat) (m17 : Nat) (m18 : Nat) (mf : Nat) (mn : Nat) (mb : Nat) (ra : Nat) (rn : Nat) (mw : Nat) (mh : Nat) (mm : Nat) (mr : Nat) (mt : Int32) (k : Nat) : kMi (S := Unit) l yX11_failed wsX11_failed rm_X11_failed D (kT cI cZ cS cP) [.ref hM, .int (nI k)] [(hM, .inr (11, [.int (nI mf), .int (nI mn), .ref m1, .ref m2, .ref m3, .int (nI mb), .int (nI ra), .int (nI rn), .ref m4, .ref m5, .ref m6, .int (nI mw), .ref m7, .ref m8, .int (nI mh), .ref m9, .ref m10, .int (nI mm), .ref m11, .int (nI mr), .ref m12, .ref m13, .ref m14, .ref m15, .ref m16, .ref m17, .ref m18, .int mt]))] (fun r _ => r = ((-10) - (nI k))) (fun _ => [(hM, .inr (11, [.int (nI k), .int (nI mn), .ref m1, .ref m2, .ref m3, .int (nI mb), .int (nI ra), .int (nI rn), .ref m4, .ref m5, .ref m6, .int (nI mw), .ref m7, .ref m8, .int (nI mh), .ref m9, .ref m10, .int (nI mm), .ref m11, .int (nI mr), .ref m12, .ref m13, .ref m14, .ref m15, .ref m16, .ref m17, .ref m18, .int mt]))]) := by
  refine kMet_i (cc := cX11_failed) (maxL := 2) (ty := .int) (by decide) rfl (Nat.le_of_ble_eq_true rfl) (fun _ _ _ => rfl) ?_
  intro p e s m args below meth c A Q ls C hlocks hin hN hK hP hD hS hA hl ret
  obtain ⟨hx, hb, hml, hown, hts⟩ := C
  have hl : lv_has ls 2 [(0, .ref hM), (1, .int (nI k))] := hl
  have in_X11 : ∀ w ∈ wsX110, w ∈ wsX11_failed := by decide +kernel
  have lk0 := hts (.fieldLink RX11 67 "SilkWordModel" "fault" "I") (by decide +kernel)
  refine lv_aload_n hx hb dX11_failed_0 rfl (lv_at hl 0 rfl) ?_
  refine lv_iload_n hx hb dX11_failed_1 rfl (lv_at hl 1 rfl) ?_
  refine va_put (D := D) (ci := 11) (v := .int (nI k)) (ty := .int) (C := RX11) (T := TX11) (N := 28) hx hb hts in_X11 tyX11 tyX11_ok nmX11 hown hK hP hD hS 0 rfl rfl 0 (by decide) lk0 (fun _ h9 => h9) rfl (by decide +kernel) rfl rfl (Nat.le_of_ble_eq_true rfl) dX11_failed_2 (fun H locs hP hD hS => ?_)
  have hP : va_P D vwCl [(hM, .inr (11, [.int (nI k), .int (nI mn), .ref m1, .ref m2, .ref m3, .int (nI mb), .int (nI ra), .int (nI rn), .ref m4, .ref m5, .ref m6, .int (nI mw), .ref m7, .ref m8, .int (nI mh), .ref m9, .ref m10, .int (nI mm), .ref m11, .int (nI mr), .ref m12, .ref m13, .ref m14, .ref m15, .ref m16, .ref m17, .ref m18, .int mt]))] H := hP
  have hD : va_D A [(hM, .inr (11, [.int (nI k), .int (nI mn), .ref m1, .ref m2, .ref m3, .int (nI mb), .int (nI ra), .int (nI rn), .ref m4, .ref m5, .ref m6, .int (nI mw), .ref m7, .ref m8, .int (nI mh), .ref m9, .ref m10, .int (nI mm), .ref m11, .int (nI mr), .ref m12, .ref m13, .ref m14, .ref m15, .ref m16, .ref m17, .ref m18, .int mt]))] := hD
  refine lv_bipush (v := (-10)) hx hb dX11_failed_5 (by decide) ?_
  refine lv_iload_n hx hb dX11_failed_7 rfl (lv_at hl 1 rfl) ?_
  refine lv_isub hx hb dX11_failed_8 ?_
  exact ret _ () _ _ _ _ dX11_failed_9 (rfl) hP hD hS
def rm_X11_failedLong : Room := { frames := 1, cells := 0, slots := 0, locals := 19 }
set_option maxHeartbeats 4000000 in
set_option maxRecDepth 100000 in
theorem c_X11_failedLong (l : Launch) (D : va_G) (cI cZ cS cP : ClassId) (hM : Nat) (m1 : Nat) (m2 : Nat) (m3 : Nat) (m4 : Nat) (m5 : Nat) (m6 : Nat) (m7 : Nat) (m8 : Nat) (m9 : Nat) (m10 : Nat) (m11 : Nat) (m12 : Nat) (m13 : Nat) (m14 : Nat) (m15 : Nat) (m16 : Nat) (m17 : Nat) (m18 : Nat) (mf : Nat) (mn : Nat) (mb : Nat) (ra : Nat) (rn : Nat) (mw : Nat) (mh : Nat) (mm : Nat) (mr : Nat) (mt : Int32) (k : Nat) : kMl (S := Unit) l yX11_failedLong wsX11_failedLong rm_X11_failedLong D (kT cI cZ cS cP) [.ref hM, .int (nI k)] [(hM, .inr (11, [.int (nI mf), .int (nI mn), .ref m1, .ref m2, .ref m3, .int (nI mb), .int (nI ra), .int (nI rn), .ref m4, .ref m5, .ref m6, .int (nI mw), .ref m7, .ref m8, .int (nI mh), .ref m9, .ref m10, .int (nI mm), .ref m11, .int (nI mr), .ref m12, .ref m13, .ref m14, .ref m15, .ref m16, .ref m17, .ref m18, .int mt]))] (fun r _ => r = (-9223372036854775808)) (fun _ => [(hM, .inr (11, [.int (nI k), .int (nI mn), .ref m1, .ref m2, .ref m3, .int (nI mb), .int (nI ra), .int (nI rn), .ref m4, .ref m5, .ref m6, .int (nI mw), .ref m7, .ref m8, .int (nI mh), .ref m9, .ref m10, .int (nI mm), .ref m11, .int (nI mr), .ref m12, .ref m13, .ref m14, .ref m15, .ref m16, .ref m17, .ref m18, .int mt]))]) := by
  refine kMet_l (cc := cX11_failedLong) (maxL := 2) (by decide) rfl (Nat.le_of_ble_eq_true rfl) ?_
  intro p e s m args below meth c A Q ls C hlocks hin hN hK hP hD hS hA hl ret
  obtain ⟨hx, hb, hml, hown, hts⟩ := C
  have hl : lv_has ls 2 [(0, .ref hM), (1, .int (nI k))] := hl
  have in_X11 : ∀ w ∈ wsX110, w ∈ wsX11_failedLong := by decide +kernel
  have lk0 := hts (.fieldLink RX11 67 "SilkWordModel" "fault" "I") (by decide +kernel)
  refine lv_aload_n hx hb dX11_failedLong_0 rfl (lv_at hl 0 rfl) ?_
  refine lv_iload_n hx hb dX11_failedLong_1 rfl (lv_at hl 1 rfl) ?_
  refine va_put (D := D) (ci := 11) (v := .int (nI k)) (ty := .int) (C := RX11) (T := TX11) (N := 28) hx hb hts in_X11 tyX11 tyX11_ok nmX11 hown hK hP hD hS 0 rfl rfl 0 (by decide) lk0 (fun _ h9 => h9) rfl (by decide +kernel) rfl rfl (Nat.le_of_ble_eq_true rfl) dX11_failedLong_2 (fun H locs hP hD hS => ?_)
  have hP : va_P D vwCl [(hM, .inr (11, [.int (nI k), .int (nI mn), .ref m1, .ref m2, .ref m3, .int (nI mb), .int (nI ra), .int (nI rn), .ref m4, .ref m5, .ref m6, .int (nI mw), .ref m7, .ref m8, .int (nI mh), .ref m9, .ref m10, .int (nI mm), .ref m11, .int (nI mr), .ref m12, .ref m13, .ref m14, .ref m15, .ref m16, .ref m17, .ref m18, .int mt]))] H := hP
  have hD : va_D A [(hM, .inr (11, [.int (nI k), .int (nI mn), .ref m1, .ref m2, .ref m3, .int (nI mb), .int (nI ra), .int (nI rn), .ref m4, .ref m5, .ref m6, .int (nI mw), .ref m7, .ref m8, .int (nI mh), .ref m9, .ref m10, .int (nI mm), .ref m11, .int (nI mr), .ref m12, .ref m13, .ref m14, .ref m15, .ref m16, .ref m17, .ref m18, .int mt]))] := hD
  refine k_gol (S := Unit) (va_runS (As := []) (rest := []) ⟨hx, hb, hml, hown, hts⟩ (c_X11_lost l D cI cZ cS cP   _) (va_cwS 0 hts gX11_failedLong_X11_lost rfl rfl rfl (by decide +kernel) ⟨Nat.le_of_ble_eq_true rfl, Nat.le_of_ble_eq_true rfl⟩) (kPreS hN hK hP hD [] rfl rfl) rfl rfl hl.1 rfl (lv_room (Nat.le_of_ble_eq_true rfl)) dX11_failedLong_5 ⟨Nat.le_of_ble_eq_true rfl, Nat.le_of_ble_eq_true rfl⟩) hP hD hS hA [] rfl [] rfl (fun _ => rfl) 1 [0] rfl (fun _u => [(hM, .inr (11, [.int (nI k), .int (nI mn), .ref m1, .ref m2, .ref m3, .int (nI mb), .int (nI ra), .int (nI rn), .ref m4, .ref m5, .ref m6, .int (nI mw), .ref m7, .ref m8, .int (nI mh), .ref m9, .ref m10, .int (nI mm), .ref m11, .int (nI mr), .ref m12, .ref m13, .ref m14, .ref m15, .ref m16, .ref m17, .ref m18, .int mt]))]) (fun _ => rfl) [(hM, .inr (11, [.int (nI k), .int (nI mn), .ref m1, .ref m2, .ref m3, .int (nI mb), .int (nI ra), .int (nI rn), .ref m4, .ref m5, .ref m6, .int (nI mw), .ref m7, .ref m8, .int (nI mh), .ref m9, .ref m10, .int (nI mm), .ref m11, .int (nI mr), .ref m12, .ref m13, .ref m14, .ref m15, .ref m16, .ref m17, .ref m18, .int mt]))] [] (fun _ => rfl) rfl (fun _ => rfl) rfl (fun r_1 _u H locs hr_2 hP hD hS => ?_)
  have hP : va_P D vwCl [(hM, .inr (11, [.int (nI k), .int (nI mn), .ref m1, .ref m2, .ref m3, .int (nI mb), .int (nI ra), .int (nI rn), .ref m4, .ref m5, .ref m6, .int (nI mw), .ref m7, .ref m8, .int (nI mh), .ref m9, .ref m10, .int (nI mm), .ref m11, .int (nI mr), .ref m12, .ref m13, .ref m14, .ref m15, .ref m16, .ref m17, .ref m18, .int mt]))] H := hP
  have hD : va_D A [(hM, .inr (11, [.int (nI k), .int (nI mn), .ref m1, .ref m2, .ref m3, .int (nI mb), .int (nI ra), .int (nI rn), .ref m4, .ref m5, .ref m6, .int (nI mw), .ref m7, .ref m8, .int (nI mh), .ref m9, .ref m10, .int (nI mm), .ref m11, .int (nI mr), .ref m12, .ref m13, .ref m14, .ref m15, .ref m16, .ref m17, .ref m18, .int mt]))] := hD
  subst hr_2
  exact ret _ () _ _ _ _ dX11_failedLong_8 (rfl) hP hD hS
def rm_X11_noPerson : Room := { frames := 1, cells := 0, slots := 0, locals := 25 }
set_option maxHeartbeats 4000000 in
set_option maxRecDepth 100000 in
theorem c_X11_noPerson (l : Launch) (D : va_G) (cI cZ cS cP : ClassId) (hM : Nat) (m1 : Nat) (m2 : Nat) (m3 : Nat) (m4 : Nat) (m5 : Nat) (m6 : Nat) (m7 : Nat) (m8 : Nat) (m9 : Nat) (m10 : Nat) (m11 : Nat) (m12 : Nat) (m13 : Nat) (m14 : Nat) (m15 : Nat) (m16 : Nat) (m17 : Nat) (m18 : Nat) (mf : Nat) (mn : Nat) (mb : Nat) (ra : Nat) (rn : Nat) (mw : Nat) (mh : Nat) (mm : Nat) (mr : Nat) (mt : Int32) (x : Int32) (hn : mn ≤ 7) : kMi (S := Unit) l yX11_noPerson wsX11_noPerson rm_X11_noPerson D (kT cI cZ cS cP) [.ref hM, .int x] [(hM, .inr (11, [.int (nI mf), .int (nI mn), .ref m1, .ref m2, .ref m3, .int (nI mb), .int (nI ra), .int (nI rn), .ref m4, .ref m5, .ref m6, .int (nI mw), .ref m7, .ref m8, .int (nI mh), .ref m9, .ref m10, .int (nI mm), .ref m11, .int (nI mr), .ref m12, .ref m13, .ref m14, .ref m15, .ref m16, .ref m17, .ref m18, .int mt]))] (fun r _ => r = (nI (if ¬ (inR x mn) then 1 else 0))) (fun _ => [(hM, .inr (11, [.int (nI mf), .int (nI mn), .ref m1, .ref m2, .ref m3, .int (nI mb), .int (nI ra), .int (nI rn), .ref m4, .ref m5, .ref m6, .int (nI mw), .ref m7, .ref m8, .int (nI mh), .ref m9, .ref m10, .int (nI mm), .ref m11, .int (nI mr), .ref m12, .ref m13, .ref m14, .ref m15, .ref m16, .ref m17, .ref m18, .int mt]))]) := by
  refine kMet_i (cc := cX11_noPerson) (maxL := 2) (ty := .boolean) (by decide) rfl (Nat.le_of_ble_eq_true rfl) (fun _ _ q => by (first | subst q | (obtain ⟨q, -⟩ := q; subst q)); (first | exact kz_nr | decide)) ?_
  intro p e s m args below meth c A Q ls C hlocks hin hN hK hP hD hS hA hl ret
  obtain ⟨hx, hb, hml, hown, hts⟩ := C
  have hl : lv_has ls 2 [(0, .ref hM), (1, .int x)] := hl
  have in_X11 : ∀ w ∈ wsX110, w ∈ wsX11_noPerson := by decide +kernel
  have lk0 := hts (.fieldLink RX11 75 "SilkWordModel" "persons" "I") (by decide +kernel)
  refine lv_iload_n hx hb dX11_noPerson_0 rfl (lv_at hl 1 rfl) ?_
  refine lv_i2l (v := x.toInt64) hx hb dX11_noPerson_1 (rfl) ?_
  refine lv_lconst (v := lN 0) hx hb dX11_noPerson_2 (by decide) ?_
  refine lv_aload_n hx hb dX11_noPerson_3 rfl (lv_at hl 0 rfl) ?_
  refine va_get (D := D) (ci := 11) (v := .int (nI mn)) (C := RX11) (T := TX11) (N := 28) hx hb hts in_X11 hown hK hP 0 rfl rfl 1 (by decide) lk0 (fun _ h9 => h9) rfl dX11_noPerson_4 ?_
  refine lv_i2l (v := (lN mn)) hx hb dX11_noPerson_7 (nI_l (show mn < 2 ^ 31 by omega)) ?_
  refine lv_lconst (v := lN 1) hx hb dX11_noPerson_8 (by decide) ?_
  refine lv_lsub hx hb dX11_noPerson_9 ?_
  refine k_goi (S := Unit) (va_runS (As := [.long x.toInt64, .long (lN 0), .long ((lN mn) - (lN 1))]) (rest := []) ⟨hx, hb, hml, hown, hts⟩ (c_X11_in l D cI cZ cS cP x.toInt64 (lN 0) ((lN mn) - (lN 1))  _) (va_cwS 3 hts gX11_noPerson_X11_in rfl rfl rfl (by decide +kernel) ⟨Nat.le_of_ble_eq_true rfl, Nat.le_of_ble_eq_true rfl⟩) (kPreS hN hK hP hD [] rfl rfl) rfl rfl hl.1 rfl (lv_room (Nat.le_of_ble_eq_true rfl)) dX11_noPerson_10 ⟨Nat.le_of_ble_eq_true rfl, Nat.le_of_ble_eq_true rfl⟩) hP hD hS hA [] rfl [] rfl (fun _ => rfl) 1 [0] rfl (fun _u => [(hM, .inr (11, [.int (nI mf), .int (nI mn), .ref m1, .ref m2, .ref m3, .int (nI mb), .int (nI ra), .int (nI rn), .ref m4, .ref m5, .ref m6, .int (nI mw), .ref m7, .ref m8, .int (nI mh), .ref m9, .ref m10, .int (nI mm), .ref m11, .int (nI mr), .ref m12, .ref m13, .ref m14, .ref m15, .ref m16, .ref m17, .ref m18, .int mt]))]) (fun _ => rfl) [(hM, .inr (11, [.int (nI mf), .int (nI mn), .ref m1, .ref m2, .ref m3, .int (nI mb), .int (nI ra), .int (nI rn), .ref m4, .ref m5, .ref m6, .int (nI mw), .ref m7, .ref m8, .int (nI mh), .ref m9, .ref m10, .int (nI mm), .ref m11, .int (nI mr), .ref m12, .ref m13, .ref m14, .ref m15, .ref m16, .ref m17, .ref m18, .int mt]))] [] (fun _ => rfl) rfl (fun _ => rfl) rfl (fun r_1 _u H locs hr_2 hP hD hS => ?_)
  have hP : va_P D vwCl [(hM, .inr (11, [.int (nI mf), .int (nI mn), .ref m1, .ref m2, .ref m3, .int (nI mb), .int (nI ra), .int (nI rn), .ref m4, .ref m5, .ref m6, .int (nI mw), .ref m7, .ref m8, .int (nI mh), .ref m9, .ref m10, .int (nI mm), .ref m11, .int (nI mr), .ref m12, .ref m13, .ref m14, .ref m15, .ref m16, .ref m17, .ref m18, .int mt]))] H := hP
  have hD : va_D A [(hM, .inr (11, [.int (nI mf), .int (nI mn), .ref m1, .ref m2, .ref m3, .int (nI mb), .int (nI ra), .int (nI rn), .ref m4, .ref m5, .ref m6, .int (nI mw), .ref m7, .ref m8, .int (nI mh), .ref m9, .ref m10, .int (nI mm), .ref m11, .int (nI mr), .ref m12, .ref m13, .ref m14, .ref m15, .ref m16, .ref m17, .ref m18, .int mt]))] := hD
  subst hr_2
  refine k_eqi (show (nI (if (lN 0) ≤ x.toInt64 ∧ x.toInt64 ≤ ((lN mn) - (lN 1)) then 1 else 0)) = (nI (if inR x mn then 1 else 0)) from congrArg nI (k_ifc (inM (by omega)))) ?_
  have j_3 : ∀ (H : Heap) (locs : List Loc) (ls : Array Slot), va_P D vwCl [(hM, .inr (11, [.int (nI mf), .int (nI mn), .ref m1, .ref m2, .ref m3, .int (nI mb), .int (nI ra), .int (nI rn), .ref m4, .ref m5, .ref m6, .int (nI mw), .ref m7, .ref m8, .int (nI mh), .ref m9, .ref m10, .int (nI mm), .ref m11, .int (nI mr), .ref m12, .ref m13, .ref m14, .ref m15, .ref m16, .ref m17, .ref m18, .int mt]))] H → va_D A [(hM, .inr (11, [.int (nI mf), .int (nI mn), .ref m1, .ref m2, .ref m3, .int (nI mb), .int (nI ra), .int (nI rn), .ref m4, .ref m5, .ref m6, .int (nI mw), .ref m7, .ref m8, .int (nI mh), .ref m9, .ref m10, .int (nI mm), .ref m11, .int (nI mr), .ref m12, .ref m13, .ref m14, .ref m15, .ref m16, .ref m17, .ref m18, .int mt]))] → va_S A s.heap H locs → lv_has ls 2 [(0, .ref hM), (1, .int x)] → W p l e rm_X11_noPerson s m args below meth c H locs 0 0 Q (F0 m 21 ls [.int (nI (if ¬ (inR x mn) then 1 else 0))]) := by
    clear hP hD hS hl
    intro H locs ls hP hD hS hl
    exact ret _ () _ _ _ _ dX11_noPerson_21 (rfl) hP hD hS
  refine k_ifc_ne (tgt := 20) hx hb dX11_noPerson_13 (by decide) (fun c_4 => ?_) (fun c_4 => ?_)
  · skip
    refine lv_iconst (v := (nI 0)) hx hb dX11_noPerson_20 (by decide) ?_
    have e_5 := (show (nI 0) = (nI (if ¬ (inR x mn) then 1 else 0)) from congrArg nI (if_neg (fun z => z c_4)).symm)
    refine k_eqi (show (nI 0) = (nI (if ¬ (inR x mn) then 1 else 0)) from congrArg nI (if_neg (fun z => z c_4)).symm) ?_
    exact j_3 _ _ _ hP hD hS (lv_sub hl [0, 1] rfl)
  · skip
    refine lv_iconst (v := (nI 1)) hx hb dX11_noPerson_16 (by decide) ?_
    refine lv_goto (tgt := 21) hx hb dX11_noPerson_17 (by decide) ?_
    have e_6 := (show (nI 1) = (nI (if ¬ (inR x mn) then 1 else 0)) from congrArg nI (if_pos c_4).symm)
    refine k_eqi (show (nI 1) = (nI (if ¬ (inR x mn) then 1 else 0)) from congrArg nI (if_pos c_4).symm) ?_
    exact j_3 _ _ _ hP hD hS (lv_sub hl [0, 1] rfl)
def rm_X11_isDay : Room := { frames := 1, cells := 0, slots := 0, locals := 25 }
set_option maxHeartbeats 4000000 in
set_option maxRecDepth 100000 in
theorem c_X11_isDay (l : Launch) (D : va_G) (cI cZ cS cP : ClassId) (x : Int32) : kMi (S := Unit) l yX11_isDay wsX11_isDay rm_X11_isDay D (kT cI cZ cS cP) [.int x] [] (fun r _ => r = (nI (if inR x 40 then 1 else 0))) (fun _ => []) := by
  refine kMet_i (cc := cX11_isDay) (maxL := 1) (ty := .boolean) (by decide) rfl (Nat.le_of_ble_eq_true rfl) (fun _ _ q => by (first | subst q | (obtain ⟨q, -⟩ := q; subst q)); (first | exact kz_nr | decide)) ?_
  intro p e s m args below meth c A Q ls C hlocks hin hN hK hP hD hS hA hl ret
  obtain ⟨hx, hb, hml, hown, hts⟩ := C
  have hl : lv_has ls 1 [(0, .int x)] := hl
  have lk0 := hts (.constantLong RX11 82 (39)) (by decide +kernel)
  refine lv_iload_n hx hb dX11_isDay_0 rfl (lv_at hl 0 rfl) ?_
  refine lv_i2l (v := x.toInt64) hx hb dX11_isDay_1 (rfl) ?_
  refine lv_lconst (v := lN 0) hx hb dX11_isDay_2 (by decide) ?_
  refine lv_ldc2 (v := (39)) hx hb hown lk0 dX11_isDay_3 ?_
  refine k_eql (show (39 : Int64) = lN 39 by decide) ?_
  refine k_goi (S := Unit) (va_runS (As := [.long x.toInt64, .long (lN 0), .long (lN 39)]) (rest := []) ⟨hx, hb, hml, hown, hts⟩ (c_X11_in l D cI cZ cS cP x.toInt64 (lN 0) (lN 39)  _) (va_cwS 3 hts gX11_isDay_X11_in rfl rfl rfl (by decide +kernel) ⟨Nat.le_of_ble_eq_true rfl, Nat.le_of_ble_eq_true rfl⟩) (kPreS hN hK hP hD [] rfl rfl) rfl rfl hl.1 rfl (lv_room (Nat.le_of_ble_eq_true rfl)) dX11_isDay_6 ⟨Nat.le_of_ble_eq_true rfl, Nat.le_of_ble_eq_true rfl⟩) hP hD hS hA [] rfl [] rfl (fun _ => rfl) 0 [] rfl (fun _u => []) (fun _ => rfl) [] [] (fun _ => rfl) rfl (fun _ => rfl) rfl (fun r_1 _u H locs hr_2 hP hD hS => ?_)
  have hP : va_P D vwCl [] H := hP
  have hD : va_D A [] := hD
  subst hr_2
  refine k_eqi (show (nI (if (lN 0) ≤ x.toInt64 ∧ x.toInt64 ≤ (lN 39) then 1 else 0)) = (nI (if inR x 40 then 1 else 0)) from congrArg nI (k_ifc (inMk (by decide)))) ?_
  exact ret _ () _ _ _ _ dX11_isDay_9 (rfl) hP hD hS
def rm_X11_noSheet : Room := { frames := 1, cells := 0, slots := 0, locals := 25 }
set_option maxHeartbeats 4000000 in
set_option maxRecDepth 100000 in
theorem c_X11_noSheet (l : Launch) (D : va_G) (cI cZ cS cP : ClassId) (x : Int32) : kMi (S := Unit) l yX11_noSheet wsX11_noSheet rm_X11_noSheet D (kT cI cZ cS cP) [.int x] [] (fun r _ => r = (nI (if ¬ (inR x 4) then 1 else 0))) (fun _ => []) := by
  refine kMet_i (cc := cX11_noSheet) (maxL := 1) (ty := .boolean) (by decide) rfl (Nat.le_of_ble_eq_true rfl) (fun _ _ q => by (first | subst q | (obtain ⟨q, -⟩ := q; subst q)); (first | exact kz_nr | decide)) ?_
  intro p e s m args below meth c A Q ls C hlocks hin hN hK hP hD hS hA hl ret
  obtain ⟨hx, hb, hml, hown, hts⟩ := C
  have hl : lv_has ls 1 [(0, .int x)] := hl
  have lk0 := hts (.constantLong RX11 199 (3)) (by decide +kernel)
  refine lv_iload_n hx hb dX11_noSheet_0 rfl (lv_at hl 0 rfl) ?_
  refine lv_i2l (v := x.toInt64) hx hb dX11_noSheet_1 (rfl) ?_
  refine lv_lconst (v := lN 0) hx hb dX11_noSheet_2 (by decide) ?_
  refine lv_ldc2 (v := (3)) hx hb hown lk0 dX11_noSheet_3 ?_
  refine k_eql (show (3 : Int64) = lN 3 by decide) ?_
  refine k_goi (S := Unit) (va_runS (As := [.long x.toInt64, .long (lN 0), .long (lN 3)]) (rest := []) ⟨hx, hb, hml, hown, hts⟩ (c_X11_in l D cI cZ cS cP x.toInt64 (lN 0) (lN 3)  _) (va_cwS 3 hts gX11_noSheet_X11_in rfl rfl rfl (by decide +kernel) ⟨Nat.le_of_ble_eq_true rfl, Nat.le_of_ble_eq_true rfl⟩) (kPreS hN hK hP hD [] rfl rfl) rfl rfl hl.1 rfl (lv_room (Nat.le_of_ble_eq_true rfl)) dX11_noSheet_6 ⟨Nat.le_of_ble_eq_true rfl, Nat.le_of_ble_eq_true rfl⟩) hP hD hS hA [] rfl [] rfl (fun _ => rfl) 0 [] rfl (fun _u => []) (fun _ => rfl) [] [] (fun _ => rfl) rfl (fun _ => rfl) rfl (fun r_1 _u H locs hr_2 hP hD hS => ?_)
  have hP : va_P D vwCl [] H := hP
  have hD : va_D A [] := hD
  subst hr_2
  refine k_eqi (show (nI (if (lN 0) ≤ x.toInt64 ∧ x.toInt64 ≤ (lN 3) then 1 else 0)) = (nI (if inR x 4 then 1 else 0)) from congrArg nI (k_ifc (inMk (by decide)))) ?_
  have j_3 : ∀ (H : Heap) (locs : List Loc) (ls : Array Slot), va_P D vwCl [] H → va_D A [] → va_S A s.heap H locs → lv_has ls 1 [(0, .int x)] → W p l e rm_X11_noSheet s m args below meth c H locs 0 0 Q (F0 m 17 ls [.int (nI (if ¬ (inR x 4) then 1 else 0))]) := by
    clear hP hD hS hl
    intro H locs ls hP hD hS hl
    exact ret _ () _ _ _ _ dX11_noSheet_17 (rfl) hP hD hS
  refine k_ifc_ne (tgt := 16) hx hb dX11_noSheet_9 (by decide) (fun c_4 => ?_) (fun c_4 => ?_)
  · skip
    refine lv_iconst (v := (nI 0)) hx hb dX11_noSheet_16 (by decide) ?_
    have e_5 := (show (nI 0) = (nI (if ¬ (inR x 4) then 1 else 0)) from congrArg nI (if_neg (fun z => z c_4)).symm)
    refine k_eqi (show (nI 0) = (nI (if ¬ (inR x 4) then 1 else 0)) from congrArg nI (if_neg (fun z => z c_4)).symm) ?_
    exact j_3 _ _ _ hP hD hS (lv_sub hl [0] rfl)
  · skip
    refine lv_iconst (v := (nI 1)) hx hb dX11_noSheet_12 (by decide) ?_
    refine lv_goto (tgt := 17) hx hb dX11_noSheet_13 (by decide) ?_
    have e_6 := (show (nI 1) = (nI (if ¬ (inR x 4) then 1 else 0)) from congrArg nI (if_pos c_4).symm)
    refine k_eqi (show (nI 1) = (nI (if ¬ (inR x 4) then 1 else 0)) from congrArg nI (if_pos c_4).symm) ?_
    exact j_3 _ _ _ hP hD hS (lv_sub hl [0] rfl)
def rm_X11_all : Room := { frames := 0, cells := 0, slots := 0, locals := 0 }
set_option maxHeartbeats 4000000 in
set_option maxRecDepth 100000 in
theorem c_X11_all (l : Launch) (D : va_G) (cI cZ cS cP : ClassId) (hM : Nat) (m1 : Nat) (m2 : Nat) (m3 : Nat) (m4 : Nat) (m5 : Nat) (m6 : Nat) (m7 : Nat) (m8 : Nat) (m9 : Nat) (m10 : Nat) (m11 : Nat) (m12 : Nat) (m13 : Nat) (m14 : Nat) (m15 : Nat) (m16 : Nat) (m17 : Nat) (m18 : Nat) (mf : Nat) (mn : Nat) (mb : Nat) (ra : Nat) (rn : Nat) (mw : Nat) (mh : Nat) (mm : Nat) (mr : Nat) (mt : Int32) (hn : mn ≤ 7) : kMi (S := Unit) l yX11_all wsX11_all rm_X11_all D (kT cI cZ cS cP) [.ref hM] [(hM, .inr (11, [.int (nI mf), .int (nI mn), .ref m1, .ref m2, .ref m3, .int (nI mb), .int (nI ra), .int (nI rn), .ref m4, .ref m5, .ref m6, .int (nI mw), .ref m7, .ref m8, .int (nI mh), .ref m9, .ref m10, .int (nI mm), .ref m11, .int (nI mr), .ref m12, .ref m13, .ref m14, .ref m15, .ref m16, .ref m17, .ref m18, .int mt]))] (fun r _ => r = (nI (2 ^ mn - 1))) (fun _ => [(hM, .inr (11, [.int (nI mf), .int (nI mn), .ref m1, .ref m2, .ref m3, .int (nI mb), .int (nI ra), .int (nI rn), .ref m4, .ref m5, .ref m6, .int (nI mw), .ref m7, .ref m8, .int (nI mh), .ref m9, .ref m10, .int (nI mm), .ref m11, .int (nI mr), .ref m12, .ref m13, .ref m14, .ref m15, .ref m16, .ref m17, .ref m18, .int mt]))]) := by
  refine kMet_i (cc := cX11_all) (maxL := 1) (ty := .int) (by decide) rfl (Nat.le_of_ble_eq_true rfl) (fun _ _ _ => rfl) ?_
  intro p e s m args below meth c A Q ls C hlocks hin hN hK hP hD hS hA hl ret
  obtain ⟨hx, hb, hml, hown, hts⟩ := C
  have hl : lv_has ls 1 [(0, .ref hM)] := hl
  have in_X11 : ∀ w ∈ wsX110, w ∈ wsX11_all := by decide +kernel
  have lk0 := hts (.fieldLink RX11 75 "SilkWordModel" "persons" "I") (by decide +kernel)
  refine lv_iconst (v := (nI 1)) hx hb dX11_all_0 (by decide) ?_
  refine lv_aload_n hx hb dX11_all_1 rfl (lv_at hl 0 rfl) ?_
  refine va_get (D := D) (ci := 11) (v := .int (nI mn)) (C := RX11) (T := TX11) (N := 28) hx hb hts in_X11 hown hK hP 0 rfl rfl 1 (by decide) lk0 (fun _ h9 => h9) rfl dX11_all_2 ?_
  refine lv_ishl hx hb dX11_all_5 ?_
  refine k_eqi (show ((nI 1) <<< ((nI mn) &&& 31)) = (nI (2 ^ mn)) from nI_shl1 (show mn < 32 by omega)) ?_
  refine lv_iconst (v := (nI 1)) hx hb dX11_all_6 (by decide) ?_
  refine lv_isub hx hb dX11_all_7 ?_
  refine k_eqi (show ((nI (2 ^ mn)) - (nI 1)) = (nI ((2 ^ mn) - 1)) from pk_sub (show 1 ≤ (2 ^ mn) by exact Nat.one_le_two_pow)) ?_
  exact ret _ () _ _ _ _ dX11_all_8 (congrArg nI (show (2 ^ mn) - 1 = 2 ^ mn - 1 by first | rfl | omega)) hP hD hS
def rm_X11_daresOf : Room := { frames := 0, cells := 0, slots := 0, locals := 0 }
set_option maxHeartbeats 4000000 in
set_option maxRecDepth 100000 in
theorem c_X11_daresOf (l : Launch) (D : va_G) (cI cZ cS cP : ClassId) (hM : Nat) (m1 : Nat) (m2 : Nat) (m3 : Nat) (m4 : Nat) (m5 : Nat) (m6 : Nat) (m7 : Nat) (m8 : Nat) (m9 : Nat) (m10 : Nat) (m11 : Nat) (m12 : Nat) (m13 : Nat) (m14 : Nat) (m15 : Nat) (m16 : Nat) (m17 : Nat) (m18 : Nat) (mf : Nat) (mn : Nat) (mb : Nat) (ra : Nat) (rn : Nat) (mw : Nat) (mh : Nat) (mm : Nat) (mr : Nat) (mt : Int32) (kd : Nat → Nat) (lo : Nat → Nat) (a : Nat) (hkd : ∀ i, kd i < 3) (hlo : ∀ i, lo i < 6) (ha : a < 7) : kMi (S := Unit) l yX11_daresOf wsX11_daresOf rm_X11_daresOf D (kT cI cZ cS cP) [.ref hM, .int (nI a)] [(hM, .inr (11, [.int (nI mf), .int (nI mn), .ref m1, .ref m2, .ref m3, .int (nI mb), .int (nI ra), .int (nI rn), .ref m4, .ref m5, .ref m6, .int (nI mw), .ref m7, .ref m8, .int (nI mh), .ref m9, .ref m10, .int (nI mm), .ref m11, .int (nI mr), .ref m12, .ref m13, .ref m14, .ref m15, .ref m16, .ref m17, .ref m18, .int mt])), (m1, .inl (cI, 7, .inl (nA kd))), (m2, .inl (cI, 7, .inl (nA lo)))] (fun r _ => r = (nI (dar (kd a) (lo a)))) (fun _ => [(hM, .inr (11, [.int (nI mf), .int (nI mn), .ref m1, .ref m2, .ref m3, .int (nI mb), .int (nI ra), .int (nI rn), .ref m4, .ref m5, .ref m6, .int (nI mw), .ref m7, .ref m8, .int (nI mh), .ref m9, .ref m10, .int (nI mm), .ref m11, .int (nI mr), .ref m12, .ref m13, .ref m14, .ref m15, .ref m16, .ref m17, .ref m18, .int mt])), (m1, .inl (cI, 7, .inl (nA kd))), (m2, .inl (cI, 7, .inl (nA lo)))]) := by
  refine kMet_i (cc := cX11_daresOf) (maxL := 3) (ty := .int) (by decide) rfl (Nat.le_of_ble_eq_true rfl) (fun _ _ _ => rfl) ?_
  intro p e s m args below meth c A Q ls C hlocks hin hN hK hP hD hS hA hl ret
  obtain ⟨hx, hb, hml, hown, hts⟩ := C
  have hl : lv_has ls 3 [(0, .ref hM), (1, .int (nI a))] := hl
  have in_X11 : ∀ w ∈ wsX110, w ∈ wsX11_daresOf := by decide +kernel
  have lk0 := hts (.fieldLink RX11 13 "SilkWordModel" "losesOf" "[I") (by decide +kernel)
  have lk1 := hts (.fieldLink RX11 7 "SilkWordModel" "kindOf" "[I") (by decide +kernel)
  refine lv_aload_n hx hb dX11_daresOf_0 rfl (lv_at hl 0 rfl) ?_
  refine va_get (D := D) (ci := 11) (v := .ref m2) (C := RX11) (T := TX11) (N := 28) hx hb hts in_X11 hown hK hP 0 rfl rfl 3 (by decide) lk0 (fun _ h9 => h9) rfl dX11_daresOf_1 ?_
  refine lv_iload_n hx hb dX11_daresOf_4 rfl (lv_at hl 1 rfl) ?_
  refine k_iald hx hb hK hP 2 0 rfl rfl (show a < 7 by omega) (by decide) dX11_daresOf_5 ?_
  have b_1 := hlo a
  refine lv_istore_n (lv' := [(2, .int (nI (lo a))), (0, .ref hM), (1, .int (nI a))]) hx hb dX11_daresOf_6 rfl hl (by decide) rfl (fun ls hl => ?_)
  refine lv_aload_n hx hb dX11_daresOf_7 rfl (lv_at hl 1 rfl) ?_
  refine va_get (D := D) (ci := 11) (v := .ref m1) (C := RX11) (T := TX11) (N := 28) hx hb hts in_X11 hown hK hP 0 rfl rfl 2 (by decide) lk1 (fun _ h9 => h9) rfl dX11_daresOf_8 ?_
  refine lv_iload_n hx hb dX11_daresOf_11 rfl (lv_at hl 2 rfl) ?_
  refine k_iald hx hb hK hP 1 0 rfl rfl (show a < 7 by omega) (by decide) dX11_daresOf_12 ?_
  have b_2 := hkd a
  have j_3 : ∀ (H : Heap) (locs : List Loc) (ls : Array Slot), va_P D vwCl [(hM, .inr (11, [.int (nI mf), .int (nI mn), .ref m1, .ref m2, .ref m3, .int (nI mb), .int (nI ra), .int (nI rn), .ref m4, .ref m5, .ref m6, .int (nI mw), .ref m7, .ref m8, .int (nI mh), .ref m9, .ref m10, .int (nI mm), .ref m11, .int (nI mr), .ref m12, .ref m13, .ref m14, .ref m15, .ref m16, .ref m17, .ref m18, .int mt])), (m1, .inl (cI, 7, .inl (nA kd))), (m2, .inl (cI, 7, .inl (nA lo)))] H → va_D A [(hM, .inr (11, [.int (nI mf), .int (nI mn), .ref m1, .ref m2, .ref m3, .int (nI mb), .int (nI ra), .int (nI rn), .ref m4, .ref m5, .ref m6, .int (nI mw), .ref m7, .ref m8, .int (nI mh), .ref m9, .ref m10, .int (nI mm), .ref m11, .int (nI mr), .ref m12, .ref m13, .ref m14, .ref m15, .ref m16, .ref m17, .ref m18, .int mt])), (m1, .inl (cI, 7, .inl (nA kd))), (m2, .inl (cI, 7, .inl (nA lo)))] → va_S A s.heap H locs → lv_has ls 3 [(2, .int (nI (lo a))), (0, .ref hM), (1, .int (nI a))] → W p l e rm_X11_daresOf s m args below meth c H locs 0 0 Q (F0 m 41 ls [.int (nI (if (kd a) = 0 then lo a else (if (kd a) = 1 then (lo a) + 1 else 2 * ((lo a) + 1))))]) := by
    clear hP hD hS hl
    intro H locs ls hP hD hS hl
    exact ret _ () _ _ _ _ dX11_daresOf_41 (congrArg nI (show (if (kd a) = 0 then lo a else (if (kd a) = 1 then (lo a) + 1 else 2 * ((lo a) + 1))) = dar (kd a) (lo a) by first | rfl | omega)) hP hD hS
  refine k_if_ne (tgt := 20) hx hb dX11_daresOf_13 (by decide) (show (kd a) < 2 ^ 31 by first | omega | (split <;> omega)) (fun c_4 => ?_) (fun c_4 => ?_)
  · skip
    refine lv_aload_n hx hb dX11_daresOf_20 rfl (lv_at hl 1 rfl) ?_
    refine va_get (D := D) (ci := 11) (v := .ref m1) (C := RX11) (T := TX11) (N := 28) hx hb hts in_X11 hown hK hP 0 rfl rfl 2 (by decide) lk1 (fun _ h9 => h9) rfl dX11_daresOf_21 ?_
    refine lv_iload_n hx hb dX11_daresOf_24 rfl (lv_at hl 2 rfl) ?_
    refine k_iald hx hb hK hP 1 0 rfl rfl (show a < 7 by omega) (by decide) dX11_daresOf_25 ?_
    have b_5 := hkd a
    refine lv_iconst (v := (nI 1)) hx hb dX11_daresOf_26 (by decide) ?_
    refine k_icmp_ne (tgt := 36) hx hb dX11_daresOf_27 (by decide) (show (kd a) < 2 ^ 31 by first | omega | (split <;> omega)) (show 1 < 2 ^ 31 by first | omega | (split <;> omega)) (fun c_6 => ?_) (fun c_6 => ?_)
    · skip
      refine lv_iconst (v := (nI 2)) hx hb dX11_daresOf_36 (by decide) ?_
      refine lv_iload_n hx hb dX11_daresOf_37 rfl (lv_at hl 0 rfl) ?_
      refine lv_iconst (v := (nI 1)) hx hb dX11_daresOf_38 (by decide) ?_
      refine lv_iadd hx hb dX11_daresOf_39 ?_
      refine k_eqi (show ((nI (lo a)) + (nI 1)) = (nI ((lo a) + 1)) from nI_add (lo a) 1) ?_
      refine lv_imul hx hb dX11_daresOf_40 ?_
      refine k_eqi (show ((nI 2) * (nI ((lo a) + 1))) = (nI (2 * ((lo a) + 1))) from pk_mul 2 ((lo a) + 1)) ?_
      have e_7 := (show (nI (2 * ((lo a) + 1))) = (nI (if (kd a) = 0 then lo a else (if (kd a) = 1 then (lo a) + 1 else 2 * ((lo a) + 1)))) from congrArg nI (Eq.symm (Eq.trans (if_neg c_4) (if_neg c_6))))
      refine k_eqi (show (nI (2 * ((lo a) + 1))) = (nI (if (kd a) = 0 then lo a else (if (kd a) = 1 then (lo a) + 1 else 2 * ((lo a) + 1)))) from congrArg nI (Eq.symm (Eq.trans (if_neg c_4) (if_neg c_6)))) ?_
      exact j_3 _ _ _ hP hD hS (lv_sub hl [0, 1, 2] rfl)
    · skip
      refine lv_iload_n hx hb dX11_daresOf_30 rfl (lv_at hl 0 rfl) ?_
      refine lv_iconst (v := (nI 1)) hx hb dX11_daresOf_31 (by decide) ?_
      refine lv_iadd hx hb dX11_daresOf_32 ?_
      refine k_eqi (show ((nI (lo a)) + (nI 1)) = (nI ((lo a) + 1)) from nI_add (lo a) 1) ?_
      refine lv_goto (tgt := 41) hx hb dX11_daresOf_33 (by decide) ?_
      have e_8 := (show (nI ((lo a) + 1)) = (nI (if (kd a) = 0 then lo a else (if (kd a) = 1 then (lo a) + 1 else 2 * ((lo a) + 1)))) from congrArg nI (Eq.symm (Eq.trans (if_neg c_4) (if_pos c_6))))
      refine k_eqi (show (nI ((lo a) + 1)) = (nI (if (kd a) = 0 then lo a else (if (kd a) = 1 then (lo a) + 1 else 2 * ((lo a) + 1)))) from congrArg nI (Eq.symm (Eq.trans (if_neg c_4) (if_pos c_6)))) ?_
      exact j_3 _ _ _ hP hD hS (lv_sub hl [0, 1, 2] rfl)
  · skip
    refine lv_iload_n hx hb dX11_daresOf_16 rfl (lv_at hl 0 rfl) ?_
    refine lv_goto (tgt := 41) hx hb dX11_daresOf_17 (by decide) ?_
    have e_9 := (show (nI (lo a)) = (nI (if (kd a) = 0 then lo a else (if (kd a) = 1 then (lo a) + 1 else 2 * ((lo a) + 1)))) from congrArg nI (Eq.symm (if_pos c_4)))
    refine k_eqi (show (nI (lo a)) = (nI (if (kd a) = 0 then lo a else (if (kd a) = 1 then (lo a) + 1 else 2 * ((lo a) + 1)))) from congrArg nI (Eq.symm (if_pos c_4))) ?_
    exact j_3 _ _ _ hP hD hS (lv_sub hl [0, 1, 2] rfl)
def rm_X11_isNear : Room := { frames := 0, cells := 0, slots := 0, locals := 0 }
set_option maxHeartbeats 4000000 in
set_option maxRecDepth 100000 in
theorem c_X11_isNear (l : Launch) (D : va_G) (cI cZ cS cP : ClassId) (hM : Nat) (m1 : Nat) (m2 : Nat) (m3 : Nat) (m4 : Nat) (m5 : Nat) (m6 : Nat) (m7 : Nat) (m8 : Nat) (m9 : Nat) (m10 : Nat) (m11 : Nat) (m12 : Nat) (m13 : Nat) (m14 : Nat) (m15 : Nat) (m16 : Nat) (m17 : Nat) (m18 : Nat) (mf : Nat) (mn : Nat) (mb : Nat) (ra : Nat) (rn : Nat) (mw : Nat) (mh : Nat) (mm : Nat) (mr : Nat) (mt : Int32) (er : Nat → Nat) (a : Nat) (b : Nat) (her : ∀ i, er i < 7) (ha : a < 7) (hb1 : b < 7) : kMi (S := Unit) l yX11_isNear wsX11_isNear rm_X11_isNear D (kT cI cZ cS cP) [.ref hM, .int (nI a), .int (nI b)] [(hM, .inr (11, [.int (nI mf), .int (nI mn), .ref m1, .ref m2, .ref m3, .int (nI mb), .int (nI ra), .int (nI rn), .ref m4, .ref m5, .ref m6, .int (nI mw), .ref m7, .ref m8, .int (nI mh), .ref m9, .ref m10, .int (nI mm), .ref m11, .int (nI mr), .ref m12, .ref m13, .ref m14, .ref m15, .ref m16, .ref m17, .ref m18, .int mt])), (m3, .inl (cI, 7, .inl (nA er)))] (fun r _ => r = (nI (if absD b a ≤ er a then 1 else 0))) (fun _ => [(hM, .inr (11, [.int (nI mf), .int (nI mn), .ref m1, .ref m2, .ref m3, .int (nI mb), .int (nI ra), .int (nI rn), .ref m4, .ref m5, .ref m6, .int (nI mw), .ref m7, .ref m8, .int (nI mh), .ref m9, .ref m10, .int (nI mm), .ref m11, .int (nI mr), .ref m12, .ref m13, .ref m14, .ref m15, .ref m16, .ref m17, .ref m18, .int mt])), (m3, .inl (cI, 7, .inl (nA er)))]) := by
  refine kMet_i (cc := cX11_isNear) (maxL := 4) (ty := .boolean) (by decide) rfl (Nat.le_of_ble_eq_true rfl) (fun _ _ q => by (first | subst q | (obtain ⟨q, -⟩ := q; subst q)); (first | exact kz_nr | decide)) ?_
  intro p e s m args below meth c A Q ls C hlocks hin hN hK hP hD hS hA hl ret
  obtain ⟨hx, hb, hml, hown, hts⟩ := C
  have hl : lv_has ls 4 [(0, .ref hM), (1, .int (nI a)), (2, .int (nI b))] := hl
  have in_X11 : ∀ w ∈ wsX110, w ∈ wsX11_isNear := by decide +kernel
  have lk0 := hts (.fieldLink RX11 16 "SilkWordModel" "earOf" "[I") (by decide +kernel)
  refine lv_iload_n hx hb dX11_isNear_0 rfl (lv_at hl 1 rfl) ?_
  refine lv_iload_n hx hb dX11_isNear_1 rfl (lv_at hl 2 rfl) ?_
  have j_1 : ∀ (H : Heap) (locs : List Loc) (ls : Array Slot), va_P D vwCl [(hM, .inr (11, [.int (nI mf), .int (nI mn), .ref m1, .ref m2, .ref m3, .int (nI mb), .int (nI ra), .int (nI rn), .ref m4, .ref m5, .ref m6, .int (nI mw), .ref m7, .ref m8, .int (nI mh), .ref m9, .ref m10, .int (nI mm), .ref m11, .int (nI mr), .ref m12, .ref m13, .ref m14, .ref m15, .ref m16, .ref m17, .ref m18, .int mt])), (m3, .inl (cI, 7, .inl (nA er)))] H → va_D A [(hM, .inr (11, [.int (nI mf), .int (nI mn), .ref m1, .ref m2, .ref m3, .int (nI mb), .int (nI ra), .int (nI rn), .ref m4, .ref m5, .ref m6, .int (nI mw), .ref m7, .ref m8, .int (nI mh), .ref m9, .ref m10, .int (nI mm), .ref m11, .int (nI mr), .ref m12, .ref m13, .ref m14, .ref m15, .ref m16, .ref m17, .ref m18, .int mt])), (m3, .inl (cI, 7, .inl (nA er)))] → va_S A s.heap H locs → lv_has ls 4 [(0, .ref hM), (1, .int (nI a)), (2, .int (nI b))] → W p l e rm_X11_isNear s m args below meth c H locs 0 0 Q (F0 m 14 ls [.int (nI (if a ≤ b then b - a else a - b))]) := by
    clear hP hD hS hl
    intro H locs ls hP hD hS hl
    refine lv_istore_n (lv' := [(3, .int (nI (if a ≤ b then b - a else a - b))), (0, .ref hM), (1, .int (nI a)), (2, .int (nI b))]) hx hb dX11_isNear_14 rfl hl (by decide) rfl (fun ls hl => ?_)
    refine lv_iload_n hx hb dX11_isNear_15 rfl (lv_at hl 0 rfl) ?_
    refine lv_aload_n hx hb dX11_isNear_16 rfl (lv_at hl 1 rfl) ?_
    refine va_get (D := D) (ci := 11) (v := .ref m3) (C := RX11) (T := TX11) (N := 28) hx hb hts in_X11 hown hK hP 0 rfl rfl 4 (by decide) lk0 (fun _ h9 => h9) rfl dX11_isNear_17 ?_
    refine lv_iload_n hx hb dX11_isNear_20 rfl (lv_at hl 2 rfl) ?_
    refine k_iald hx hb hK hP 1 0 rfl rfl (show a < 7 by omega) (by decide) dX11_isNear_21 ?_
    have b_3 := her a
    have j_4 : ∀ (H : Heap) (locs : List Loc) (ls : Array Slot), va_P D vwCl [(hM, .inr (11, [.int (nI mf), .int (nI mn), .ref m1, .ref m2, .ref m3, .int (nI mb), .int (nI ra), .int (nI rn), .ref m4, .ref m5, .ref m6, .int (nI mw), .ref m7, .ref m8, .int (nI mh), .ref m9, .ref m10, .int (nI mm), .ref m11, .int (nI mr), .ref m12, .ref m13, .ref m14, .ref m15, .ref m16, .ref m17, .ref m18, .int mt])), (m3, .inl (cI, 7, .inl (nA er)))] H → va_D A [(hM, .inr (11, [.int (nI mf), .int (nI mn), .ref m1, .ref m2, .ref m3, .int (nI mb), .int (nI ra), .int (nI rn), .ref m4, .ref m5, .ref m6, .int (nI mw), .ref m7, .ref m8, .int (nI mh), .ref m9, .ref m10, .int (nI mm), .ref m11, .int (nI mr), .ref m12, .ref m13, .ref m14, .ref m15, .ref m16, .ref m17, .ref m18, .int mt])), (m3, .inl (cI, 7, .inl (nA er)))] → va_S A s.heap H locs → lv_has ls 4 [(3, .int (nI (if a ≤ b then b - a else a - b))), (0, .ref hM), (1, .int (nI a)), (2, .int (nI b))] → W p l e rm_X11_isNear s m args below meth c H locs 0 0 Q (F0 m 30 ls [.int (nI (if (if a ≤ b then b - a else a - b) ≤ (er a) then 1 else 0))]) := by
      clear hP hD hS hl
      intro H locs ls hP hD hS hl
      exact ret _ () _ _ _ _ dX11_isNear_30 (congrArg nI (show (if (if a ≤ b then b - a else a - b) ≤ (er a) then 1 else 0) = (if absD b a ≤ er a then 1 else 0) by exact k_ifc near_ok)) hP hD hS
    refine k_icmp_gt (tgt := 29) hx hb dX11_isNear_22 (by decide) (show (if a ≤ b then b - a else a - b) < 2 ^ 31 by first | omega | (split <;> omega)) (show (er a) < 2 ^ 31 by first | omega | (split <;> omega)) (fun c_5 => ?_) (fun c_5 => ?_)
    · skip
      refine lv_iconst (v := (nI 0)) hx hb dX11_isNear_29 (by decide) ?_
      have e_6 := (show (nI 0) = (nI (if (if a ≤ b then b - a else a - b) ≤ (er a) then 1 else 0)) from congrArg nI (if_neg (Nat.not_le.mpr c_5)).symm)
      refine k_eqi (show (nI 0) = (nI (if (if a ≤ b then b - a else a - b) ≤ (er a) then 1 else 0)) from congrArg nI (if_neg (Nat.not_le.mpr c_5)).symm) ?_
      exact j_4 _ _ _ hP hD hS (lv_sub hl [0, 1, 2, 3] rfl)
    · skip
      refine lv_iconst (v := (nI 1)) hx hb dX11_isNear_25 (by decide) ?_
      refine lv_goto (tgt := 30) hx hb dX11_isNear_26 (by decide) ?_
      have e_7 := (show (nI 1) = (nI (if (if a ≤ b then b - a else a - b) ≤ (er a) then 1 else 0)) from congrArg nI (if_pos c_5).symm)
      refine k_eqi (show (nI 1) = (nI (if (if a ≤ b then b - a else a - b) ≤ (er a) then 1 else 0)) from congrArg nI (if_pos c_5).symm) ?_
      exact j_4 _ _ _ hP hD hS (lv_sub hl [0, 1, 2, 3] rfl)
  refine k_icmp_le (tgt := 11) hx hb dX11_isNear_2 (by decide) (show a < 2 ^ 31 by first | omega | (split <;> omega)) (show b < 2 ^ 31 by first | omega | (split <;> omega)) (fun c_2 => ?_) (fun c_2 => ?_)
  · skip
    refine lv_iload_n hx hb dX11_isNear_11 rfl (lv_at hl 2 rfl) ?_
    refine lv_iload_n hx hb dX11_isNear_12 rfl (lv_at hl 1 rfl) ?_
    refine lv_isub hx hb dX11_isNear_13 ?_
    refine k_eqi (show ((nI b) - (nI a)) = (nI (b - a)) from pk_sub (show a ≤ b by omega)) ?_
    have e_3 := (show (nI (b - a)) = (nI (if a ≤ b then b - a else a - b)) from congrArg nI (Eq.symm (if_pos c_2)))
    refine k_eqi (show (nI (b - a)) = (nI (if a ≤ b then b - a else a - b)) from congrArg nI (Eq.symm (if_pos c_2))) ?_
    exact j_1 _ _ _ hP hD hS (lv_sub hl [0, 1, 2] rfl)
  · skip
    refine lv_iload_n hx hb dX11_isNear_5 rfl (lv_at hl 1 rfl) ?_
    refine lv_iload_n hx hb dX11_isNear_6 rfl (lv_at hl 2 rfl) ?_
    refine lv_isub hx hb dX11_isNear_7 ?_
    refine k_eqi (show ((nI a) - (nI b)) = (nI (a - b)) from pk_sub (show b ≤ a by omega)) ?_
    refine lv_goto (tgt := 14) hx hb dX11_isNear_8 (by decide) ?_
    have e_4 := (show (nI (a - b)) = (nI (if a ≤ b then b - a else a - b)) from congrArg nI (Eq.symm (if_neg (Nat.not_le.mpr c_2))))
    refine k_eqi (show (nI (a - b)) = (nI (if a ≤ b then b - a else a - b)) from congrArg nI (Eq.symm (if_neg (Nat.not_le.mpr c_2)))) ?_
    exact j_1 _ _ _ hP hD hS (lv_sub hl [0, 1, 2] rfl)
def rm_X11_heardBy : Room := { frames := 1, cells := 0, slots := 0, locals := 23 }
set_option maxHeartbeats 4000000 in
set_option maxRecDepth 100000 in
theorem c_X11_heardBy (l : Launch) (D : va_G) (cI cZ cS cP : ClassId) (hM : Nat) (m1 : Nat) (m2 : Nat) (m3 : Nat) (m4 : Nat) (m5 : Nat) (m6 : Nat) (m7 : Nat) (m8 : Nat) (m9 : Nat) (m10 : Nat) (m11 : Nat) (m12 : Nat) (m13 : Nat) (m14 : Nat) (m15 : Nat) (m16 : Nat) (m17 : Nat) (m18 : Nat) (mf : Nat) (mn : Nat) (mb : Nat) (ra : Nat) (rn : Nat) (mw : Nat) (mh : Nat) (mm : Nat) (mr : Nat) (mt : Int32) (er : Nat → Nat) (so : Nat → Nat) (a : Nat) (d : Nat) (her : ∀ i, er i < 7) (hso : ∀ i, so i < 100) (hn : mn ≤ 7) (ha : a < 7) (hd : d < 40) : kMi (S := Unit) l yX11_heardBy wsX11_heardBy rm_X11_heardBy D (kT cI cZ cS cP) [.ref hM, .int (nI a), .int (nI d)] [(hM, .inr (11, [.int (nI mf), .int (nI mn), .ref m1, .ref m2, .ref m3, .int (nI mb), .int (nI ra), .int (nI rn), .ref m4, .ref m5, .ref m6, .int (nI mw), .ref m7, .ref m8, .int (nI mh), .ref m9, .ref m10, .int (nI mm), .ref m11, .int (nI mr), .ref m12, .ref m13, .ref m14, .ref m15, .ref m16, .ref m17, .ref m18, .int mt])), (m3, .inl (cI, 7, .inl (nA er))), (m11, .inl (cI, 7, .inl (nA so)))] (fun r _ => r = (nI (mk (fun zz => decide (so zz < d) && decide (absD zz a ≤ er a)) mn))) (fun _ => [(hM, .inr (11, [.int (nI mf), .int (nI mn), .ref m1, .ref m2, .ref m3, .int (nI mb), .int (nI ra), .int (nI rn), .ref m4, .ref m5, .ref m6, .int (nI mw), .ref m7, .ref m8, .int (nI mh), .ref m9, .ref m10, .int (nI mm), .ref m11, .int (nI mr), .ref m12, .ref m13, .ref m14, .ref m15, .ref m16, .ref m17, .ref m18, .int mt])), (m3, .inl (cI, 7, .inl (nA er))), (m11, .inl (cI, 7, .inl (nA so)))]) := by
  refine kMet_i (cc := cX11_heardBy) (maxL := 5) (ty := .int) (by decide) rfl (Nat.le_of_ble_eq_true rfl) (fun _ _ _ => rfl) ?_
  intro p e s m args below meth c A Q ls C hlocks hin hN hK hP hD hS hA hl ret
  obtain ⟨hx, hb, hml, hown, hts⟩ := C
  have hl : lv_has ls 5 [(0, .ref hM), (1, .int (nI a)), (2, .int (nI d))] := hl
  have in_X11 : ∀ w ∈ wsX110, w ∈ wsX11_heardBy := by decide +kernel
  have lk0 := hts (.fieldLink RX11 75 "SilkWordModel" "persons" "I") (by decide +kernel)
  have lk1 := hts (.fieldLink RX11 40 "SilkWordModel" "saysOn" "[I") (by decide +kernel)
  refine lv_iconst (v := (nI 0)) hx hb dX11_heardBy_0 (by decide) ?_
  refine lv_istore_n (lv' := [(3, .int (nI 0)), (0, .ref hM), (1, .int (nI a)), (2, .int (nI d))]) hx hb dX11_heardBy_1 rfl hl (by decide) rfl (fun ls hl => ?_)
  refine lv_iconst (v := (nI 0)) hx hb dX11_heardBy_2 (by decide) ?_
  refine lv_istore (lv' := [(4, .int (nI 0)), (3, .int (nI 0)), (0, .ref hM), (1, .int (nI a)), (2, .int (nI d))]) hx hb dX11_heardBy_3 hl (by decide) rfl (fun ls hl => ?_)
  have e_1 : (nI 0) = (nI (mk (fun zz => decide (so zz < d) && decide (absD zz a ≤ er a)) 0)) := congrArg nI (show 0 = mk (fun zz => decide (so zz < d) && decide (absD zz a ≤ er a)) 0 by rfl)
  refine k_loop (α := Nat) (nL := 5) (fun k => mn - k) (fun k => [(hM, .inr (11, [.int (nI mf), .int (nI mn), .ref m1, .ref m2, .ref m3, .int (nI mb), .int (nI ra), .int (nI rn), .ref m4, .ref m5, .ref m6, .int (nI mw), .ref m7, .ref m8, .int (nI mh), .ref m9, .ref m10, .int (nI mm), .ref m11, .int (nI mr), .ref m12, .ref m13, .ref m14, .ref m15, .ref m16, .ref m17, .ref m18, .int mt])), (m3, .inl (cI, 7, .inl (nA er))), (m11, .inl (cI, 7, .inl (nA so)))]) (fun k => [(4, .int (nI k)), (3, .int (nI (mk (fun zz => decide (so zz < d) && decide (absD zz a ≤ er a)) k))), (0, .ref hM), (1, .int (nI a)), (2, .int (nI d))]) (fun k => (k ≤ mn)) ?_ 0 (show (0 ≤ mn) from by omega) hP hD hS (lv_cast (lv_sub hl [0, 1, 2, 3, 4] rfl) (show ([(4, .int (nI 0)), (3, .int (nI 0)), (0, .ref hM), (1, .int (nI a)), (2, .int (nI d))] : List (Nat × Value)) = [(4, .int (nI 0)), (3, .int (nI (mk (fun zz => decide (so zz < d) && decide (absD zz a ≤ er a)) 0))), (0, .ref hM), (1, .int (nI a)), (2, .int (nI d))] by rw [← e_1]))
  clear hP hD hS hl
  intro k H locs ls hI hP hD hS hl ih5
  have hk : (k ≤ mn) := hI
  have hP : va_P D vwCl [(hM, .inr (11, [.int (nI mf), .int (nI mn), .ref m1, .ref m2, .ref m3, .int (nI mb), .int (nI ra), .int (nI rn), .ref m4, .ref m5, .ref m6, .int (nI mw), .ref m7, .ref m8, .int (nI mh), .ref m9, .ref m10, .int (nI mm), .ref m11, .int (nI mr), .ref m12, .ref m13, .ref m14, .ref m15, .ref m16, .ref m17, .ref m18, .int mt])), (m3, .inl (cI, 7, .inl (nA er))), (m11, .inl (cI, 7, .inl (nA so)))] H := hP
  have hD : va_D A [(hM, .inr (11, [.int (nI mf), .int (nI mn), .ref m1, .ref m2, .ref m3, .int (nI mb), .int (nI ra), .int (nI rn), .ref m4, .ref m5, .ref m6, .int (nI mw), .ref m7, .ref m8, .int (nI mh), .ref m9, .ref m10, .int (nI mm), .ref m11, .int (nI mr), .ref m12, .ref m13, .ref m14, .ref m15, .ref m16, .ref m17, .ref m18, .int mt])), (m3, .inl (cI, 7, .inl (nA er))), (m11, .inl (cI, 7, .inl (nA so)))] := hD
  have hl : lv_has ls 5 [(4, .int (nI k)), (3, .int (nI (mk (fun zz => decide (so zz < d) && decide (absD zz a ≤ er a)) k))), (0, .ref hM), (1, .int (nI a)), (2, .int (nI d))] := hl
  refine lv_iload hx hb dX11_heardBy_5 (lv_at hl 0 rfl) ?_
  refine lv_aload_n hx hb dX11_heardBy_7 rfl (lv_at hl 2 rfl) ?_
  refine va_get (D := D) (ci := 11) (v := .int (nI mn)) (C := RX11) (T := TX11) (N := 28) hx hb hts in_X11 hown hK hP 0 rfl rfl 1 (by decide) lk0 (fun _ h9 => h9) rfl dX11_heardBy_8 ?_
  refine k_icmp_ge (tgt := 52) hx hb dX11_heardBy_11 (by decide) (show k < 2 ^ 31 by first | omega | (split <;> omega)) (show mn < 2 ^ 31 by first | omega | (split <;> omega)) (fun c_2 => ?_) (fun c_2 => ?_)
  · skip
    refine lv_iload_n hx hb dX11_heardBy_52 rfl (lv_at hl 1 rfl) ?_
    exact ret _ () _ _ _ _ dX11_heardBy_53 (congrArg nI (show mk (fun zz => decide (so zz < d) && decide (absD zz a ≤ er a)) k = mk (fun zz => decide (so zz < d) && decide (absD zz a ≤ er a)) mn by (have h9 : k = mn := by omega); rw [h9])) hP hD hS
  · skip
    refine lv_iload_n hx hb dX11_heardBy_14 rfl (lv_at hl 1 rfl) ?_
    refine lv_aload_n hx hb dX11_heardBy_15 rfl (lv_at hl 2 rfl) ?_
    refine va_get (D := D) (ci := 11) (v := .ref m11) (C := RX11) (T := TX11) (N := 28) hx hb hts in_X11 hown hK hP 0 rfl rfl 18 (by decide) lk1 (fun _ h9 => h9) rfl dX11_heardBy_16 ?_
    refine lv_iload hx hb dX11_heardBy_19 (lv_at hl 0 rfl) ?_
    refine k_iald hx hb hK hP 2 0 rfl rfl (show k < 7 by omega) (by decide) dX11_heardBy_21 ?_
    have b_3 := hso k
    refine lv_iload_n hx hb dX11_heardBy_22 rfl (lv_at hl 4 rfl) ?_
    have j_4 : ∀ (H : Heap) (locs : List Loc) (ls : Array Slot), va_P D vwCl [(hM, .inr (11, [.int (nI mf), .int (nI mn), .ref m1, .ref m2, .ref m3, .int (nI mb), .int (nI ra), .int (nI rn), .ref m4, .ref m5, .ref m6, .int (nI mw), .ref m7, .ref m8, .int (nI mh), .ref m9, .ref m10, .int (nI mm), .ref m11, .int (nI mr), .ref m12, .ref m13, .ref m14, .ref m15, .ref m16, .ref m17, .ref m18, .int mt])), (m3, .inl (cI, 7, .inl (nA er))), (m11, .inl (cI, 7, .inl (nA so)))] H → va_D A [(hM, .inr (11, [.int (nI mf), .int (nI mn), .ref m1, .ref m2, .ref m3, .int (nI mb), .int (nI ra), .int (nI rn), .ref m4, .ref m5, .ref m6, .int (nI mw), .ref m7, .ref m8, .int (nI mh), .ref m9, .ref m10, .int (nI mm), .ref m11, .int (nI mr), .ref m12, .ref m13, .ref m14, .ref m15, .ref m16, .ref m17, .ref m18, .int mt])), (m3, .inl (cI, 7, .inl (nA er))), (m11, .inl (cI, 7, .inl (nA so)))] → va_S A s.heap H locs → lv_has ls 5 [(4, .int (nI k)), (3, .int (nI (mk (fun zz => decide (so zz < d) && decide (absD zz a ≤ er a)) k))), (0, .ref hM), (1, .int (nI a)), (2, .int (nI d))] → W p l e rm_X11_heardBy s m args below meth c H locs 0 0 Q (F0 m 44 ls [.int (nI (if (so k) < d then (if absD k a ≤ er a then 2 ^ k else 0) else 0)), .int (nI (mk (fun zz => decide (so zz < d) && decide (absD zz a ≤ er a)) k))]) := by
      clear hP hD hS hl
      intro H locs ls hP hD hS hl
      refine lv_ior hx hb dX11_heardBy_44 ?_
      refine k_eqi (show ((nI (mk (fun zz => decide (so zz < d) && decide (absD zz a ≤ er a)) k)) ||| (nI (if (so k) < d then (if absD k a ≤ er a then 2 ^ k else 0) else 0))) = (nI ((mk (fun zz => decide (so zz < d) && decide (absD zz a ≤ er a)) k) ||| (if (so k) < d then (if absD k a ≤ er a then 2 ^ k else 0) else 0))) from nI_or (mk (fun zz => decide (so zz < d) && decide (absD zz a ≤ er a)) k) (if (so k) < d then (if absD k a ≤ er a then 2 ^ k else 0) else 0)) ?_
      refine lv_istore_n (lv' := [(3, .int (nI ((mk (fun zz => decide (so zz < d) && decide (absD zz a ≤ er a)) k) ||| (if (so k) < d then (if absD k a ≤ er a then 2 ^ k else 0) else 0)))), (4, .int (nI k)), (0, .ref hM), (1, .int (nI a)), (2, .int (nI d))]) hx hb dX11_heardBy_45 rfl hl (by decide) rfl (fun ls hl => ?_)
      refine lv_iinc (v := (nI (k + 1))) (lv' := [(4, .int (nI (k + 1))), (3, .int (nI ((mk (fun zz => decide (so zz < d) && decide (absD zz a ≤ er a)) k) ||| (if (so k) < d then (if absD k a ≤ er a then 2 ^ k else 0) else 0)))), (0, .ref hM), (1, .int (nI a)), (2, .int (nI d))]) hx hb dX11_heardBy_46 hl (k := 1) rfl (nI_inc k) (by decide) rfl (fun ls hl => ?_)
      refine lv_goto (tgt := 5) hx hb dX11_heardBy_49 (by decide) ?_
      have e_6 : (nI ((mk (fun zz => decide (so zz < d) && decide (absD zz a ≤ er a)) k) ||| (if (so k) < d then (if absD k a ≤ er a then 2 ^ k else 0) else 0))) = (nI (mk (fun zz => decide (so zz < d) && decide (absD zz a ≤ er a)) (k + 1))) := congrArg nI (show (mk (fun zz => decide (so zz < d) && decide (absD zz a ≤ er a)) k) ||| (if (so k) < d then (if absD k a ≤ er a then 2 ^ k else 0) else 0) = mk (fun zz => decide (so zz < d) && decide (absD zz a ≤ er a)) (k + 1) by exact mk_or (by simp))
      exact ih5 (k + 1) _ _ _ (show mn - (k + 1) < mn - k by omega) (show ((k + 1) ≤ mn) from by omega) hP hD hS (lv_cast (lv_sub hl [0, 1, 2, 3, 4] rfl) (show ([(4, .int (nI (k + 1))), (3, .int (nI ((mk (fun zz => decide (so zz < d) && decide (absD zz a ≤ er a)) k) ||| (if (so k) < d then (if absD k a ≤ er a then 2 ^ k else 0) else 0)))), (0, .ref hM), (1, .int (nI a)), (2, .int (nI d))] : List (Nat × Value)) = [(4, .int (nI (k + 1))), (3, .int (nI (mk (fun zz => decide (so zz < d) && decide (absD zz a ≤ er a)) (k + 1)))), (0, .ref hM), (1, .int (nI a)), (2, .int (nI d))] by rw [← e_6]))
    refine k_icmp_ge (tgt := 43) hx hb dX11_heardBy_23 (by decide) (show (so k) < 2 ^ 31 by first | omega | (split <;> omega)) (show d < 2 ^ 31 by first | omega | (split <;> omega)) (fun c_5 => ?_) (fun c_5 => ?_)
    · skip
      refine lv_iconst (v := (nI 0)) hx hb dX11_heardBy_43 (by decide) ?_
      have e_6 := (show (nI 0) = (nI (if (so k) < d then (if absD k a ≤ er a then 2 ^ k else 0) else 0)) from congrArg nI (Eq.symm (if_neg (Nat.not_lt.mpr c_5))))
      refine k_eqi (show (nI 0) = (nI (if (so k) < d then (if absD k a ≤ er a then 2 ^ k else 0) else 0)) from congrArg nI (Eq.symm (if_neg (Nat.not_lt.mpr c_5)))) ?_
      exact j_4 _ _ _ hP hD hS (lv_sub hl [0, 1, 2, 3, 4] rfl)
    · skip
      refine lv_aload_n hx hb dX11_heardBy_26 rfl (lv_at hl 2 rfl) ?_
      refine lv_iload_n hx hb dX11_heardBy_27 rfl (lv_at hl 3 rfl) ?_
      refine lv_iload hx hb dX11_heardBy_28 (lv_at hl 0 rfl) ?_
      refine k_goi (S := Unit) (va_runV (As := [.int (nI a), .int (nI k)]) (rest := [.int (nI (mk (fun zz => decide (so zz < d) && decide (absD zz a ≤ er a)) k))]) ⟨hx, hb, hml, hown, hts⟩ (c_X11_isNear l D cI cZ cS cP hM m1 m2 m3 m4 m5 m6 m7 m8 m9 m10 m11 m12 m13 m14 m15 m16 m17 m18 mf mn mb ra rn mw mh mm mr mt er a k (her) (by first | assumption | omega) (by first | assumption | omega) _) (cwV 2 hts gX11_heardBy_X11_isNear rfl rfl rfl (by decide +kernel) ⟨Nat.le_of_ble_eq_true rfl, Nat.le_of_ble_eq_true rfl⟩) (kPreV hN hK hP hD [0, 1] rfl rfl (q0 := 0) (ci := 11) (q := (RX11, TX11, 28)) rfl rfl) rfl rfl hl.1 rfl (lv_room (Nat.le_of_ble_eq_true rfl)) dX11_heardBy_30 ⟨Nat.le_of_ble_eq_true rfl, Nat.le_of_ble_eq_true rfl⟩) hP hD hS hA [0, 1] rfl [hM, m3] rfl (fun _ => rfl) 3 [2] rfl (fun _u => [(hM, .inr (11, [.int (nI mf), .int (nI mn), .ref m1, .ref m2, .ref m3, .int (nI mb), .int (nI ra), .int (nI rn), .ref m4, .ref m5, .ref m6, .int (nI mw), .ref m7, .ref m8, .int (nI mh), .ref m9, .ref m10, .int (nI mm), .ref m11, .int (nI mr), .ref m12, .ref m13, .ref m14, .ref m15, .ref m16, .ref m17, .ref m18, .int mt])), (m3, .inl (cI, 7, .inl (nA er))), (m11, .inl (cI, 7, .inl (nA so)))]) (fun _ => rfl) [(m11, .inl (cI, 7, .inl (nA so)))] [] (fun _ => rfl) rfl (fun _ => rfl) rfl (fun r_7 _u H locs hr_8 hP hD hS => ?_)
      have hP : va_P D vwCl [(hM, .inr (11, [.int (nI mf), .int (nI mn), .ref m1, .ref m2, .ref m3, .int (nI mb), .int (nI ra), .int (nI rn), .ref m4, .ref m5, .ref m6, .int (nI mw), .ref m7, .ref m8, .int (nI mh), .ref m9, .ref m10, .int (nI mm), .ref m11, .int (nI mr), .ref m12, .ref m13, .ref m14, .ref m15, .ref m16, .ref m17, .ref m18, .int mt])), (m3, .inl (cI, 7, .inl (nA er))), (m11, .inl (cI, 7, .inl (nA so)))] H := hP
      have hD : va_D A [(hM, .inr (11, [.int (nI mf), .int (nI mn), .ref m1, .ref m2, .ref m3, .int (nI mb), .int (nI ra), .int (nI rn), .ref m4, .ref m5, .ref m6, .int (nI mw), .ref m7, .ref m8, .int (nI mh), .ref m9, .ref m10, .int (nI mm), .ref m11, .int (nI mr), .ref m12, .ref m13, .ref m14, .ref m15, .ref m16, .ref m17, .ref m18, .int mt])), (m3, .inl (cI, 7, .inl (nA er))), (m11, .inl (cI, 7, .inl (nA so)))] := hD
      subst hr_8
      refine k_ifc_eq (tgt := 43) hx hb dX11_heardBy_33 (by decide) (fun c_9 => ?_) (fun c_9 => ?_)
      · skip
        refine lv_iconst (v := (nI 0)) hx hb dX11_heardBy_43 (by decide) ?_
        have e_10 := (show (nI 0) = (nI (if (so k) < d then (if absD k a ≤ er a then 2 ^ k else 0) else 0)) from congrArg nI (Eq.symm (Eq.trans (if_pos c_5) (if_neg c_9))))
        refine k_eqi (show (nI 0) = (nI (if (so k) < d then (if absD k a ≤ er a then 2 ^ k else 0) else 0)) from congrArg nI (Eq.symm (Eq.trans (if_pos c_5) (if_neg c_9)))) ?_
        exact j_4 _ _ _ hP hD hS (lv_sub hl [0, 1, 2, 3, 4] rfl)
      · skip
        refine lv_iconst (v := (nI 1)) hx hb dX11_heardBy_36 (by decide) ?_
        refine lv_iload hx hb dX11_heardBy_37 (lv_at hl 0 rfl) ?_
        refine lv_ishl hx hb dX11_heardBy_39 ?_
        refine k_eqi (show ((nI 1) <<< ((nI k) &&& 31)) = (nI (2 ^ k)) from nI_shl1 (show k < 32 by omega)) ?_
        refine lv_goto (tgt := 44) hx hb dX11_heardBy_40 (by decide) ?_
        have e_11 := (show (nI (2 ^ k)) = (nI (if (so k) < d then (if absD k a ≤ er a then 2 ^ k else 0) else 0)) from congrArg nI (Eq.symm (Eq.trans (if_pos c_5) (if_pos c_9))))
        refine k_eqi (show (nI (2 ^ k)) = (nI (if (so k) < d then (if absD k a ≤ er a then 2 ^ k else 0) else 0)) from congrArg nI (Eq.symm (Eq.trans (if_pos c_5) (if_pos c_9)))) ?_
        exact j_4 _ _ _ hP hD hS (lv_sub hl [0, 1, 2, 3, 4] rfl)
def rm_X11_wordsFor_n : Room := { frames := 1, cells := 0, slots := 0, locals := 23 }
set_option maxHeartbeats 4000000 in
set_option maxRecDepth 100000 in
theorem c_X11_wordsFor_n (l : Launch) (D : va_G) (cI cZ cS cP : ClassId) (hM : Nat) (m1 : Nat) (m2 : Nat) (m3 : Nat) (m4 : Nat) (m5 : Nat) (m6 : Nat) (m7 : Nat) (m8 : Nat) (m9 : Nat) (m10 : Nat) (m11 : Nat) (m12 : Nat) (m13 : Nat) (m14 : Nat) (m15 : Nat) (m16 : Nat) (m17 : Nat) (m18 : Nat) (mf : Nat) (mn : Nat) (mb : Nat) (ra : Nat) (rn : Nat) (mw : Nat) (mh : Nat) (mm : Nat) (mr : Nat) (mt : Int32) (er : Nat → Nat) (wp : Nat → Nat) (wd : Nat → Nat) (a : Nat) (d : Nat) (her : ∀ i, er i < 7) (hwp : ∀ i, wp i < 7) (hwd : ∀ i, wd i < 40) (hn : mn ≤ 7) (ha : a < 7) (hd : d < 40) (hmw : mw ≤ 7) (hmm : mm < 128) : kMi (S := Unit) l yX11_wordsFor wsX11_wordsFor rm_X11_wordsFor_n D (kT cI cZ cS cP) [.ref hM, .int (nI a), .int (nI d), .int (-9)] [(hM, .inr (11, [.int (nI mf), .int (nI mn), .ref m1, .ref m2, .ref m3, .int (nI mb), .int (nI ra), .int (nI rn), .ref m4, .ref m5, .ref m6, .int (nI mw), .ref m7, .ref m8, .int (nI mh), .ref m9, .ref m10, .int (nI mm), .ref m11, .int (nI mr), .ref m12, .ref m13, .ref m14, .ref m15, .ref m16, .ref m17, .ref m18, .int mt])), (m3, .inl (cI, 7, .inl (nA er))), (m7, .inl (cI, 7, .inl (nA wp))), (m8, .inl (cI, 7, .inl (nA wd)))] (fun r _ => r = (nI (cntM wp wd (er a) a d none mw + cntB mm (er a) a mn))) (fun _ => [(hM, .inr (11, [.int (nI mf), .int (nI mn), .ref m1, .ref m2, .ref m3, .int (nI mb), .int (nI ra), .int (nI rn), .ref m4, .ref m5, .ref m6, .int (nI mw), .ref m7, .ref m8, .int (nI mh), .ref m9, .ref m10, .int (nI mm), .ref m11, .int (nI mr), .ref m12, .ref m13, .ref m14, .ref m15, .ref m16, .ref m17, .ref m18, .int mt])), (m3, .inl (cI, 7, .inl (nA er))), (m7, .inl (cI, 7, .inl (nA wp))), (m8, .inl (cI, 7, .inl (nA wd)))]) := by
  refine kMet_i (cc := cX11_wordsFor) (maxL := 6) (ty := .int) (by decide) rfl (Nat.le_of_ble_eq_true rfl) (fun _ _ _ => rfl) ?_
  intro p e s m args below meth c A Q ls C hlocks hin hN hK hP hD hS hA hl ret
  obtain ⟨hx, hb, hml, hown, hts⟩ := C
  have hl : lv_has ls 6 [(0, .ref hM), (1, .int (nI a)), (2, .int (nI d)), (3, .int (-9))] := hl
  have in_X11 : ∀ w ∈ wsX110, w ∈ wsX11_wordsFor := by decide +kernel
  have lk0 := hts (.fieldLink RX11 129 "SilkWordModel" "words" "I") (by decide +kernel)
  have lk1 := hts (.fieldLink RX11 75 "SilkWordModel" "persons" "I") (by decide +kernel)
  have lk2 := hts (.fieldLink RX11 153 "SilkWordModel" "moreWords" "I") (by decide +kernel)
  have lk3 := hts (.fieldLink RX11 31 "SilkWordModel" "wordOn" "[I") (by decide +kernel)
  have lk4 := hts (.fieldLink RX11 28 "SilkWordModel" "wordAt" "[I") (by decide +kernel)
  refine lv_iconst (v := (nI 0)) hx hb dX11_wordsFor_0 (by decide) ?_
  refine lv_istore (lv' := [(4, .int (nI 0)), (0, .ref hM), (1, .int (nI a)), (2, .int (nI d)), (3, .int (-9))]) hx hb dX11_wordsFor_1 hl (by decide) rfl (fun ls hl => ?_)
  refine lv_iconst (v := (nI 0)) hx hb dX11_wordsFor_3 (by decide) ?_
  refine lv_istore (lv' := [(5, .int (nI 0)), (4, .int (nI 0)), (0, .ref hM), (1, .int (nI a)), (2, .int (nI d)), (3, .int (-9))]) hx hb dX11_wordsFor_4 hl (by decide) rfl (fun ls hl => ?_)
  have e_1 : (nI 0) = (nI (cntM wp wd (er a) a d none 0)) := congrArg nI (show 0 = cntM wp wd (er a) a d none 0 by rfl)
  refine k_loop (α := Nat) (nL := 6) (fun k => mw - k) (fun k => [(hM, .inr (11, [.int (nI mf), .int (nI mn), .ref m1, .ref m2, .ref m3, .int (nI mb), .int (nI ra), .int (nI rn), .ref m4, .ref m5, .ref m6, .int (nI mw), .ref m7, .ref m8, .int (nI mh), .ref m9, .ref m10, .int (nI mm), .ref m11, .int (nI mr), .ref m12, .ref m13, .ref m14, .ref m15, .ref m16, .ref m17, .ref m18, .int mt])), (m3, .inl (cI, 7, .inl (nA er))), (m7, .inl (cI, 7, .inl (nA wp))), (m8, .inl (cI, 7, .inl (nA wd)))]) (fun k => [(5, .int (nI k)), (4, .int (nI (cntM wp wd (er a) a d none k))), (0, .ref hM), (1, .int (nI a)), (2, .int (nI d)), (3, .int (-9))]) (fun k => (k ≤ mw)) ?_ 0 (show (0 ≤ mw) from by omega) hP hD hS (lv_cast (lv_sub hl [0, 1, 2, 3, 4, 5] rfl) (show ([(5, .int (nI 0)), (4, .int (nI 0)), (0, .ref hM), (1, .int (nI a)), (2, .int (nI d)), (3, .int (-9))] : List (Nat × Value)) = [(5, .int (nI 0)), (4, .int (nI (cntM wp wd (er a) a d none 0))), (0, .ref hM), (1, .int (nI a)), (2, .int (nI d)), (3, .int (-9))] by rw [← e_1]))
  clear hP hD hS hl
  intro k H locs ls hI hP hD hS hl ih6
  have hk : (k ≤ mw) := hI
  have hP : va_P D vwCl [(hM, .inr (11, [.int (nI mf), .int (nI mn), .ref m1, .ref m2, .ref m3, .int (nI mb), .int (nI ra), .int (nI rn), .ref m4, .ref m5, .ref m6, .int (nI mw), .ref m7, .ref m8, .int (nI mh), .ref m9, .ref m10, .int (nI mm), .ref m11, .int (nI mr), .ref m12, .ref m13, .ref m14, .ref m15, .ref m16, .ref m17, .ref m18, .int mt])), (m3, .inl (cI, 7, .inl (nA er))), (m7, .inl (cI, 7, .inl (nA wp))), (m8, .inl (cI, 7, .inl (nA wd)))] H := hP
  have hD : va_D A [(hM, .inr (11, [.int (nI mf), .int (nI mn), .ref m1, .ref m2, .ref m3, .int (nI mb), .int (nI ra), .int (nI rn), .ref m4, .ref m5, .ref m6, .int (nI mw), .ref m7, .ref m8, .int (nI mh), .ref m9, .ref m10, .int (nI mm), .ref m11, .int (nI mr), .ref m12, .ref m13, .ref m14, .ref m15, .ref m16, .ref m17, .ref m18, .int mt])), (m3, .inl (cI, 7, .inl (nA er))), (m7, .inl (cI, 7, .inl (nA wp))), (m8, .inl (cI, 7, .inl (nA wd)))] := hD
  have hl : lv_has ls 6 [(5, .int (nI k)), (4, .int (nI (cntM wp wd (er a) a d none k))), (0, .ref hM), (1, .int (nI a)), (2, .int (nI d)), (3, .int (-9))] := hl
  refine lv_iload hx hb dX11_wordsFor_6 (lv_at hl 0 rfl) ?_
  refine lv_aload_n hx hb dX11_wordsFor_8 rfl (lv_at hl 2 rfl) ?_
  refine va_get (D := D) (ci := 11) (v := .int (nI mw)) (C := RX11) (T := TX11) (N := 28) hx hb hts in_X11 hown hK hP 0 rfl rfl 11 (by decide) lk0 (fun _ h9 => h9) rfl dX11_wordsFor_9 ?_
  refine k_icmp_ge (tgt := 63) hx hb dX11_wordsFor_12 (by decide) (show k < 2 ^ 31 by first | omega | (split <;> omega)) (show mw < 2 ^ 31 by first | omega | (split <;> omega)) (fun c_2 => ?_) (fun c_2 => ?_)
  · skip
    refine lv_iconst (v := (nI 0)) hx hb dX11_wordsFor_63 (by decide) ?_
    refine lv_istore (lv' := [(5, .int (nI 0)), (4, .int (nI (cntM wp wd (er a) a d none k))), (0, .ref hM), (1, .int (nI a)), (2, .int (nI d)), (3, .int (-9))]) hx hb dX11_wordsFor_64 hl (by decide) rfl (fun ls hl => ?_)
    have h9 : k = mw := by omega
    have e_3 : (nI (cntM wp wd (er a) a d none k)) = (nI (cntM wp wd (er a) a d none mw + cntB mm (er a) a 0)) := congrArg nI (show cntM wp wd (er a) a d none k = cntM wp wd (er a) a d none mw + cntB mm (er a) a 0 by rw [h9]; rfl)
    refine k_loop (α := Nat) (nL := 6) (fun k => mn - k) (fun k => [(hM, .inr (11, [.int (nI mf), .int (nI mn), .ref m1, .ref m2, .ref m3, .int (nI mb), .int (nI ra), .int (nI rn), .ref m4, .ref m5, .ref m6, .int (nI mw), .ref m7, .ref m8, .int (nI mh), .ref m9, .ref m10, .int (nI mm), .ref m11, .int (nI mr), .ref m12, .ref m13, .ref m14, .ref m15, .ref m16, .ref m17, .ref m18, .int mt])), (m3, .inl (cI, 7, .inl (nA er))), (m7, .inl (cI, 7, .inl (nA wp))), (m8, .inl (cI, 7, .inl (nA wd)))]) (fun k => [(5, .int (nI k)), (4, .int (nI (cntM wp wd (er a) a d none mw + cntB mm (er a) a k))), (0, .ref hM), (1, .int (nI a)), (2, .int (nI d)), (3, .int (-9))]) (fun k => (k ≤ mn)) ?_ 0 (show (0 ≤ mn) from by omega) hP hD hS (lv_cast (lv_sub hl [0, 1, 2, 3, 4, 5] rfl) (show ([(5, .int (nI 0)), (4, .int (nI (cntM wp wd (er a) a d none k))), (0, .ref hM), (1, .int (nI a)), (2, .int (nI d)), (3, .int (-9))] : List (Nat × Value)) = [(5, .int (nI 0)), (4, .int (nI (cntM wp wd (er a) a d none mw + cntB mm (er a) a 0))), (0, .ref hM), (1, .int (nI a)), (2, .int (nI d)), (3, .int (-9))] by rw [← e_3]))
    clear hP hD hS hl
    intro k H locs ls hI hP hD hS hl ih66
    have hk2 : (k ≤ mn) := hI
    have hP : va_P D vwCl [(hM, .inr (11, [.int (nI mf), .int (nI mn), .ref m1, .ref m2, .ref m3, .int (nI mb), .int (nI ra), .int (nI rn), .ref m4, .ref m5, .ref m6, .int (nI mw), .ref m7, .ref m8, .int (nI mh), .ref m9, .ref m10, .int (nI mm), .ref m11, .int (nI mr), .ref m12, .ref m13, .ref m14, .ref m15, .ref m16, .ref m17, .ref m18, .int mt])), (m3, .inl (cI, 7, .inl (nA er))), (m7, .inl (cI, 7, .inl (nA wp))), (m8, .inl (cI, 7, .inl (nA wd)))] H := hP
    have hD : va_D A [(hM, .inr (11, [.int (nI mf), .int (nI mn), .ref m1, .ref m2, .ref m3, .int (nI mb), .int (nI ra), .int (nI rn), .ref m4, .ref m5, .ref m6, .int (nI mw), .ref m7, .ref m8, .int (nI mh), .ref m9, .ref m10, .int (nI mm), .ref m11, .int (nI mr), .ref m12, .ref m13, .ref m14, .ref m15, .ref m16, .ref m17, .ref m18, .int mt])), (m3, .inl (cI, 7, .inl (nA er))), (m7, .inl (cI, 7, .inl (nA wp))), (m8, .inl (cI, 7, .inl (nA wd)))] := hD
    have hl : lv_has ls 6 [(5, .int (nI k)), (4, .int (nI (cntM wp wd (er a) a d none mw + cntB mm (er a) a k))), (0, .ref hM), (1, .int (nI a)), (2, .int (nI d)), (3, .int (-9))] := hl
    refine lv_iload hx hb dX11_wordsFor_66 (lv_at hl 0 rfl) ?_
    refine lv_aload_n hx hb dX11_wordsFor_68 rfl (lv_at hl 2 rfl) ?_
    refine va_get (D := D) (ci := 11) (v := .int (nI mn)) (C := RX11) (T := TX11) (N := 28) hx hb hts in_X11 hown hK hP 0 rfl rfl 1 (by decide) lk1 (fun _ h9 => h9) rfl dX11_wordsFor_69 ?_
    refine k_icmp_ge (tgt := 113) hx hb dX11_wordsFor_72 (by decide) (show k < 2 ^ 31 by first | omega | (split <;> omega)) (show mn < 2 ^ 31 by first | omega | (split <;> omega)) (fun c_4 => ?_) (fun c_4 => ?_)
    · skip
      refine lv_iload hx hb dX11_wordsFor_113 (lv_at hl 1 rfl) ?_
      exact ret _ () _ _ _ _ dX11_wordsFor_115 (congrArg nI (show cntM wp wd (er a) a d none mw + cntB mm (er a) a k = cntM wp wd (er a) a d none mw + cntB mm (er a) a mn by (have h9 : k = mn := by omega); rw [h9])) hP hD hS
    · skip
      refine lv_iload hx hb dX11_wordsFor_75 (lv_at hl 1 rfl) ?_
      refine lv_aload_n hx hb dX11_wordsFor_77 rfl (lv_at hl 2 rfl) ?_
      refine va_get (D := D) (ci := 11) (v := .int (nI mm)) (C := RX11) (T := TX11) (N := 28) hx hb hts in_X11 hown hK hP 0 rfl rfl 17 (by decide) lk2 (fun _ h9 => h9) rfl dX11_wordsFor_78 ?_
      refine lv_iload hx hb dX11_wordsFor_81 (lv_at hl 0 rfl) ?_
      refine k_goi (S := Unit) (va_runS (As := [.int (nI mm), .int (nI k)]) (rest := [.int (nI (cntM wp wd (er a) a d none mw + cntB mm (er a) a k))]) ⟨hx, hb, hml, hown, hts⟩ (c_X11_isIn l D cI cZ cS cP mm k (by first | assumption | omega) (by first | assumption | omega) _) (va_cwS 2 hts gX11_wordsFor_X11_isIn rfl rfl rfl (by decide +kernel) ⟨Nat.le_of_ble_eq_true rfl, Nat.le_of_ble_eq_true rfl⟩) (kPreS hN hK hP hD [] rfl rfl) rfl rfl hl.1 rfl (lv_room (Nat.le_of_ble_eq_true rfl)) dX11_wordsFor_83 ⟨Nat.le_of_ble_eq_true rfl, Nat.le_of_ble_eq_true rfl⟩) hP hD hS hA [] rfl [] rfl (fun _ => rfl) 4 [0, 1, 2, 3] rfl (fun _u => [(hM, .inr (11, [.int (nI mf), .int (nI mn), .ref m1, .ref m2, .ref m3, .int (nI mb), .int (nI ra), .int (nI rn), .ref m4, .ref m5, .ref m6, .int (nI mw), .ref m7, .ref m8, .int (nI mh), .ref m9, .ref m10, .int (nI mm), .ref m11, .int (nI mr), .ref m12, .ref m13, .ref m14, .ref m15, .ref m16, .ref m17, .ref m18, .int mt])), (m3, .inl (cI, 7, .inl (nA er))), (m7, .inl (cI, 7, .inl (nA wp))), (m8, .inl (cI, 7, .inl (nA wd)))]) (fun _ => rfl) [(hM, .inr (11, [.int (nI mf), .int (nI mn), .ref m1, .ref m2, .ref m3, .int (nI mb), .int (nI ra), .int (nI rn), .ref m4, .ref m5, .ref m6, .int (nI mw), .ref m7, .ref m8, .int (nI mh), .ref m9, .ref m10, .int (nI mm), .ref m11, .int (nI mr), .ref m12, .ref m13, .ref m14, .ref m15, .ref m16, .ref m17, .ref m18, .int mt])), (m3, .inl (cI, 7, .inl (nA er))), (m7, .inl (cI, 7, .inl (nA wp))), (m8, .inl (cI, 7, .inl (nA wd)))] [] (fun _ => rfl) rfl (fun _ => rfl) rfl (fun r_5 _u H locs hr_6 hP hD hS => ?_)
      have hP : va_P D vwCl [(hM, .inr (11, [.int (nI mf), .int (nI mn), .ref m1, .ref m2, .ref m3, .int (nI mb), .int (nI ra), .int (nI rn), .ref m4, .ref m5, .ref m6, .int (nI mw), .ref m7, .ref m8, .int (nI mh), .ref m9, .ref m10, .int (nI mm), .ref m11, .int (nI mr), .ref m12, .ref m13, .ref m14, .ref m15, .ref m16, .ref m17, .ref m18, .int mt])), (m3, .inl (cI, 7, .inl (nA er))), (m7, .inl (cI, 7, .inl (nA wp))), (m8, .inl (cI, 7, .inl (nA wd)))] H := hP
      have hD : va_D A [(hM, .inr (11, [.int (nI mf), .int (nI mn), .ref m1, .ref m2, .ref m3, .int (nI mb), .int (nI ra), .int (nI rn), .ref m4, .ref m5, .ref m6, .int (nI mw), .ref m7, .ref m8, .int (nI mh), .ref m9, .ref m10, .int (nI mm), .ref m11, .int (nI mr), .ref m12, .ref m13, .ref m14, .ref m15, .ref m16, .ref m17, .ref m18, .int mt])), (m3, .inl (cI, 7, .inl (nA er))), (m7, .inl (cI, 7, .inl (nA wp))), (m8, .inl (cI, 7, .inl (nA wd)))] := hD
      subst hr_6
      have j_7 : ∀ (H : Heap) (locs : List Loc) (ls : Array Slot), va_P D vwCl [(hM, .inr (11, [.int (nI mf), .int (nI mn), .ref m1, .ref m2, .ref m3, .int (nI mb), .int (nI ra), .int (nI rn), .ref m4, .ref m5, .ref m6, .int (nI mw), .ref m7, .ref m8, .int (nI mh), .ref m9, .ref m10, .int (nI mm), .ref m11, .int (nI mr), .ref m12, .ref m13, .ref m14, .ref m15, .ref m16, .ref m17, .ref m18, .int mt])), (m3, .inl (cI, 7, .inl (nA er))), (m7, .inl (cI, 7, .inl (nA wp))), (m8, .inl (cI, 7, .inl (nA wd)))] H → va_D A [(hM, .inr (11, [.int (nI mf), .int (nI mn), .ref m1, .ref m2, .ref m3, .int (nI mb), .int (nI ra), .int (nI rn), .ref m4, .ref m5, .ref m6, .int (nI mw), .ref m7, .ref m8, .int (nI mh), .ref m9, .ref m10, .int (nI mm), .ref m11, .int (nI mr), .ref m12, .ref m13, .ref m14, .ref m15, .ref m16, .ref m17, .ref m18, .int mt])), (m3, .inl (cI, 7, .inl (nA er))), (m7, .inl (cI, 7, .inl (nA wp))), (m8, .inl (cI, 7, .inl (nA wd)))] → va_S A s.heap H locs → lv_has ls 6 [(5, .int (nI k)), (4, .int (nI (cntM wp wd (er a) a d none mw + cntB mm (er a) a k))), (0, .ref hM), (1, .int (nI a)), (2, .int (nI d)), (3, .int (-9))] → W p l e rm_X11_wordsFor_n s m args below meth c H locs 0 0 Q (F0 m 104 ls [.int (nI (if (mm.testBit k = true) ∧ (absD k a ≤ er a) then 1 else 0)), .int (nI (cntM wp wd (er a) a d none mw + cntB mm (er a) a k))]) := by
        clear hP hD hS hl
        intro H locs ls hP hD hS hl
        refine lv_iadd hx hb dX11_wordsFor_104 ?_
        refine k_eqi (show ((nI (cntM wp wd (er a) a d none mw + cntB mm (er a) a k)) + (nI (if (mm.testBit k = true) ∧ (absD k a ≤ er a) then 1 else 0))) = (nI ((cntM wp wd (er a) a d none mw + cntB mm (er a) a k) + (if (mm.testBit k = true) ∧ (absD k a ≤ er a) then 1 else 0))) from nI_add (cntM wp wd (er a) a d none mw + cntB mm (er a) a k) (if (mm.testBit k = true) ∧ (absD k a ≤ er a) then 1 else 0)) ?_
        refine lv_istore (lv' := [(4, .int (nI ((cntM wp wd (er a) a d none mw + cntB mm (er a) a k) + (if (mm.testBit k = true) ∧ (absD k a ≤ er a) then 1 else 0)))), (5, .int (nI k)), (0, .ref hM), (1, .int (nI a)), (2, .int (nI d)), (3, .int (-9))]) hx hb dX11_wordsFor_105 hl (by decide) rfl (fun ls hl => ?_)
        refine lv_iinc (v := (nI (k + 1))) (lv' := [(5, .int (nI (k + 1))), (4, .int (nI ((cntM wp wd (er a) a d none mw + cntB mm (er a) a k) + (if (mm.testBit k = true) ∧ (absD k a ≤ er a) then 1 else 0)))), (0, .ref hM), (1, .int (nI a)), (2, .int (nI d)), (3, .int (-9))]) hx hb dX11_wordsFor_107 hl (k := 1) rfl (nI_inc k) (by decide) rfl (fun ls hl => ?_)
        refine lv_goto (tgt := 66) hx hb dX11_wordsFor_110 (by decide) ?_
        have e_9 : (nI ((cntM wp wd (er a) a d none mw + cntB mm (er a) a k) + (if (mm.testBit k = true) ∧ (absD k a ≤ er a) then 1 else 0))) = (nI (cntM wp wd (er a) a d none mw + cntB mm (er a) a (k + 1))) := congrArg nI (show (cntM wp wd (er a) a d none mw + cntB mm (er a) a k) + (if (mm.testBit k = true) ∧ (absD k a ≤ er a) then 1 else 0) = cntM wp wd (er a) a d none mw + cntB mm (er a) a (k + 1) by rw [Nat.add_assoc]; rfl)
        exact ih66 (k + 1) _ _ _ (show mn - (k + 1) < mn - k by omega) (show ((k + 1) ≤ mn) from by omega) hP hD hS (lv_cast (lv_sub hl [0, 1, 2, 3, 4, 5] rfl) (show ([(5, .int (nI (k + 1))), (4, .int (nI ((cntM wp wd (er a) a d none mw + cntB mm (er a) a k) + (if (mm.testBit k = true) ∧ (absD k a ≤ er a) then 1 else 0)))), (0, .ref hM), (1, .int (nI a)), (2, .int (nI d)), (3, .int (-9))] : List (Nat × Value)) = [(5, .int (nI (k + 1))), (4, .int (nI (cntM wp wd (er a) a d none mw + cntB mm (er a) a (k + 1)))), (0, .ref hM), (1, .int (nI a)), (2, .int (nI d)), (3, .int (-9))] by rw [← e_9]))
      refine k_ifc_eq (tgt := 103) hx hb dX11_wordsFor_86 (by decide) (fun c_8 => ?_) (fun c_8 => ?_)
      · skip
        refine lv_iconst (v := (nI 0)) hx hb dX11_wordsFor_103 (by decide) ?_
        have e_9 := (show (nI 0) = (nI (if (mm.testBit k = true) ∧ (absD k a ≤ er a) then 1 else 0)) from congrArg nI (if_neg (fun z => c_8 z.1)).symm)
        refine k_eqi (show (nI 0) = (nI (if (mm.testBit k = true) ∧ (absD k a ≤ er a) then 1 else 0)) from congrArg nI (if_neg (fun z => c_8 z.1)).symm) ?_
        exact j_7 _ _ _ hP hD hS (lv_sub hl [0, 1, 2, 3, 4, 5] rfl)
      · skip
        refine lv_aload_n hx hb dX11_wordsFor_89 rfl (lv_at hl 2 rfl) ?_
        refine lv_iload_n hx hb dX11_wordsFor_90 rfl (lv_at hl 3 rfl) ?_
        refine lv_iload hx hb dX11_wordsFor_91 (lv_at hl 0 rfl) ?_
        refine k_goi (S := Unit) (va_runV (As := [.int (nI a), .int (nI k)]) (rest := [.int (nI (cntM wp wd (er a) a d none mw + cntB mm (er a) a k))]) ⟨hx, hb, hml, hown, hts⟩ (c_X11_isNear l D cI cZ cS cP hM m1 m2 m3 m4 m5 m6 m7 m8 m9 m10 m11 m12 m13 m14 m15 m16 m17 m18 mf mn mb ra rn mw mh mm mr mt er a k (her) (by first | assumption | omega) (by first | assumption | omega) _) (cwV 2 hts gX11_wordsFor_X11_isNear rfl rfl rfl (by decide +kernel) ⟨Nat.le_of_ble_eq_true rfl, Nat.le_of_ble_eq_true rfl⟩) (kPreV hN hK hP hD [0, 1] rfl rfl (q0 := 0) (ci := 11) (q := (RX11, TX11, 28)) rfl rfl) rfl rfl hl.1 rfl (lv_room (Nat.le_of_ble_eq_true rfl)) dX11_wordsFor_93 ⟨Nat.le_of_ble_eq_true rfl, Nat.le_of_ble_eq_true rfl⟩) hP hD hS hA [0, 1] rfl [hM, m3] rfl (fun _ => rfl) 4 [2, 3] rfl (fun _u => [(hM, .inr (11, [.int (nI mf), .int (nI mn), .ref m1, .ref m2, .ref m3, .int (nI mb), .int (nI ra), .int (nI rn), .ref m4, .ref m5, .ref m6, .int (nI mw), .ref m7, .ref m8, .int (nI mh), .ref m9, .ref m10, .int (nI mm), .ref m11, .int (nI mr), .ref m12, .ref m13, .ref m14, .ref m15, .ref m16, .ref m17, .ref m18, .int mt])), (m3, .inl (cI, 7, .inl (nA er))), (m7, .inl (cI, 7, .inl (nA wp))), (m8, .inl (cI, 7, .inl (nA wd)))]) (fun _ => rfl) [(m7, .inl (cI, 7, .inl (nA wp))), (m8, .inl (cI, 7, .inl (nA wd)))] [] (fun _ => rfl) rfl (fun _ => rfl) rfl (fun r_10 _u H locs hr_11 hP hD hS => ?_)
        have hP : va_P D vwCl [(hM, .inr (11, [.int (nI mf), .int (nI mn), .ref m1, .ref m2, .ref m3, .int (nI mb), .int (nI ra), .int (nI rn), .ref m4, .ref m5, .ref m6, .int (nI mw), .ref m7, .ref m8, .int (nI mh), .ref m9, .ref m10, .int (nI mm), .ref m11, .int (nI mr), .ref m12, .ref m13, .ref m14, .ref m15, .ref m16, .ref m17, .ref m18, .int mt])), (m3, .inl (cI, 7, .inl (nA er))), (m7, .inl (cI, 7, .inl (nA wp))), (m8, .inl (cI, 7, .inl (nA wd)))] H := hP
        have hD : va_D A [(hM, .inr (11, [.int (nI mf), .int (nI mn), .ref m1, .ref m2, .ref m3, .int (nI mb), .int (nI ra), .int (nI rn), .ref m4, .ref m5, .ref m6, .int (nI mw), .ref m7, .ref m8, .int (nI mh), .ref m9, .ref m10, .int (nI mm), .ref m11, .int (nI mr), .ref m12, .ref m13, .ref m14, .ref m15, .ref m16, .ref m17, .ref m18, .int mt])), (m3, .inl (cI, 7, .inl (nA er))), (m7, .inl (cI, 7, .inl (nA wp))), (m8, .inl (cI, 7, .inl (nA wd)))] := hD
        subst hr_11
        refine k_ifc_eq (tgt := 103) hx hb dX11_wordsFor_96 (by decide) (fun c_12 => ?_) (fun c_12 => ?_)
        · skip
          refine lv_iconst (v := (nI 0)) hx hb dX11_wordsFor_103 (by decide) ?_
          have e_13 := (show (nI 0) = (nI (if (mm.testBit k = true) ∧ (absD k a ≤ er a) then 1 else 0)) from congrArg nI (if_neg (fun z => c_12 z.2)).symm)
          refine k_eqi (show (nI 0) = (nI (if (mm.testBit k = true) ∧ (absD k a ≤ er a) then 1 else 0)) from congrArg nI (if_neg (fun z => c_12 z.2)).symm) ?_
          exact j_7 _ _ _ hP hD hS (lv_sub hl [0, 1, 2, 3, 4, 5] rfl)
        · skip
          refine lv_iconst (v := (nI 1)) hx hb dX11_wordsFor_99 (by decide) ?_
          refine lv_goto (tgt := 104) hx hb dX11_wordsFor_100 (by decide) ?_
          have e_14 := (show (nI 1) = (nI (if (mm.testBit k = true) ∧ (absD k a ≤ er a) then 1 else 0)) from congrArg nI (if_pos (⟨c_8, c_12⟩)).symm)
          refine k_eqi (show (nI 1) = (nI (if (mm.testBit k = true) ∧ (absD k a ≤ er a) then 1 else 0)) from congrArg nI (if_pos (⟨c_8, c_12⟩)).symm) ?_
          exact j_7 _ _ _ hP hD hS (lv_sub hl [0, 1, 2, 3, 4, 5] rfl)
  · skip
    refine lv_iload hx hb dX11_wordsFor_15 (lv_at hl 1 rfl) ?_
    refine lv_iload hx hb dX11_wordsFor_17 (lv_at hl 0 rfl) ?_
    refine lv_iload_n hx hb dX11_wordsFor_19 rfl (lv_at hl 5 rfl) ?_
    refine lv_icmp_eq (tgt := 53) hx hb dX11_wordsFor_20 (by decide) (fun c_15 => absurd c_15 (nI_ne9 (by omega))) (fun c_15 => ?_)
    refine lv_aload_n hx hb dX11_wordsFor_23 rfl (lv_at hl 2 rfl) ?_
    refine va_get (D := D) (ci := 11) (v := .ref m8) (C := RX11) (T := TX11) (N := 28) hx hb hts in_X11 hown hK hP 0 rfl rfl 13 (by decide) lk3 (fun _ h9 => h9) rfl dX11_wordsFor_24 ?_
    refine lv_iload hx hb dX11_wordsFor_27 (lv_at hl 0 rfl) ?_
    refine k_iald hx hb hK hP 3 0 rfl rfl (show k < 7 by omega) (by decide) dX11_wordsFor_29 ?_
    have b_16 := hwd k
    refine lv_iload_n hx hb dX11_wordsFor_30 rfl (lv_at hl 4 rfl) ?_
    have j_17 : ∀ (H : Heap) (locs : List Loc) (ls : Array Slot), va_P D vwCl [(hM, .inr (11, [.int (nI mf), .int (nI mn), .ref m1, .ref m2, .ref m3, .int (nI mb), .int (nI ra), .int (nI rn), .ref m4, .ref m5, .ref m6, .int (nI mw), .ref m7, .ref m8, .int (nI mh), .ref m9, .ref m10, .int (nI mm), .ref m11, .int (nI mr), .ref m12, .ref m13, .ref m14, .ref m15, .ref m16, .ref m17, .ref m18, .int mt])), (m3, .inl (cI, 7, .inl (nA er))), (m7, .inl (cI, 7, .inl (nA wp))), (m8, .inl (cI, 7, .inl (nA wd)))] H → va_D A [(hM, .inr (11, [.int (nI mf), .int (nI mn), .ref m1, .ref m2, .ref m3, .int (nI mb), .int (nI ra), .int (nI rn), .ref m4, .ref m5, .ref m6, .int (nI mw), .ref m7, .ref m8, .int (nI mh), .ref m9, .ref m10, .int (nI mm), .ref m11, .int (nI mr), .ref m12, .ref m13, .ref m14, .ref m15, .ref m16, .ref m17, .ref m18, .int mt])), (m3, .inl (cI, 7, .inl (nA er))), (m7, .inl (cI, 7, .inl (nA wp))), (m8, .inl (cI, 7, .inl (nA wd)))] → va_S A s.heap H locs → lv_has ls 6 [(5, .int (nI k)), (4, .int (nI (cntM wp wd (er a) a d none k))), (0, .ref hM), (1, .int (nI a)), (2, .int (nI d)), (3, .int (-9))] → W p l e rm_X11_wordsFor_n s m args below meth c H locs 0 0 Q (F0 m 54 ls [.int (nI (if ((wd k) ≤ d) ∧ (absD (wp k) a ≤ er a) then 1 else 0)), .int (nI (cntM wp wd (er a) a d none k))]) := by
      clear hP hD hS hl
      intro H locs ls hP hD hS hl
      refine lv_iadd hx hb dX11_wordsFor_54 ?_
      refine k_eqi (show ((nI (cntM wp wd (er a) a d none k)) + (nI (if ((wd k) ≤ d) ∧ (absD (wp k) a ≤ er a) then 1 else 0))) = (nI ((cntM wp wd (er a) a d none k) + (if ((wd k) ≤ d) ∧ (absD (wp k) a ≤ er a) then 1 else 0))) from nI_add (cntM wp wd (er a) a d none k) (if ((wd k) ≤ d) ∧ (absD (wp k) a ≤ er a) then 1 else 0)) ?_
      refine lv_istore (lv' := [(4, .int (nI ((cntM wp wd (er a) a d none k) + (if ((wd k) ≤ d) ∧ (absD (wp k) a ≤ er a) then 1 else 0)))), (5, .int (nI k)), (0, .ref hM), (1, .int (nI a)), (2, .int (nI d)), (3, .int (-9))]) hx hb dX11_wordsFor_55 hl (by decide) rfl (fun ls hl => ?_)
      refine lv_iinc (v := (nI (k + 1))) (lv' := [(5, .int (nI (k + 1))), (4, .int (nI ((cntM wp wd (er a) a d none k) + (if ((wd k) ≤ d) ∧ (absD (wp k) a ≤ er a) then 1 else 0)))), (0, .ref hM), (1, .int (nI a)), (2, .int (nI d)), (3, .int (-9))]) hx hb dX11_wordsFor_57 hl (k := 1) rfl (nI_inc k) (by decide) rfl (fun ls hl => ?_)
      refine lv_goto (tgt := 6) hx hb dX11_wordsFor_60 (by decide) ?_
      have e_19 : (nI ((cntM wp wd (er a) a d none k) + (if ((wd k) ≤ d) ∧ (absD (wp k) a ≤ er a) then 1 else 0))) = (nI (cntM wp wd (er a) a d none (k + 1))) := congrArg nI (show (cntM wp wd (er a) a d none k) + (if ((wd k) ≤ d) ∧ (absD (wp k) a ≤ er a) then 1 else 0) = cntM wp wd (er a) a d none (k + 1) by exact cntM_n)
      exact ih6 (k + 1) _ _ _ (show mw - (k + 1) < mw - k by omega) (show ((k + 1) ≤ mw) from by omega) hP hD hS (lv_cast (lv_sub hl [0, 1, 2, 3, 4, 5] rfl) (show ([(5, .int (nI (k + 1))), (4, .int (nI ((cntM wp wd (er a) a d none k) + (if ((wd k) ≤ d) ∧ (absD (wp k) a ≤ er a) then 1 else 0)))), (0, .ref hM), (1, .int (nI a)), (2, .int (nI d)), (3, .int (-9))] : List (Nat × Value)) = [(5, .int (nI (k + 1))), (4, .int (nI (cntM wp wd (er a) a d none (k + 1)))), (0, .ref hM), (1, .int (nI a)), (2, .int (nI d)), (3, .int (-9))] by rw [← e_19]))
    refine k_icmp_gt (tgt := 53) hx hb dX11_wordsFor_31 (by decide) (show (wd k) < 2 ^ 31 by first | omega | (split <;> omega)) (show d < 2 ^ 31 by first | omega | (split <;> omega)) (fun c_18 => ?_) (fun c_18 => ?_)
    · skip
      refine lv_iconst (v := (nI 0)) hx hb dX11_wordsFor_53 (by decide) ?_
      have e_19 := (show (nI 0) = (nI (if ((wd k) ≤ d) ∧ (absD (wp k) a ≤ er a) then 1 else 0)) from congrArg nI (if_neg (fun z => (Nat.not_le.mpr c_18) z.1)).symm)
      refine k_eqi (show (nI 0) = (nI (if ((wd k) ≤ d) ∧ (absD (wp k) a ≤ er a) then 1 else 0)) from congrArg nI (if_neg (fun z => (Nat.not_le.mpr c_18) z.1)).symm) ?_
      exact j_17 _ _ _ hP hD hS (lv_sub hl [0, 1, 2, 3, 4, 5] rfl)
    · skip
      refine lv_aload_n hx hb dX11_wordsFor_34 rfl (lv_at hl 2 rfl) ?_
      refine lv_iload_n hx hb dX11_wordsFor_35 rfl (lv_at hl 3 rfl) ?_
      refine lv_aload_n hx hb dX11_wordsFor_36 rfl (lv_at hl 2 rfl) ?_
      refine va_get (D := D) (ci := 11) (v := .ref m7) (C := RX11) (T := TX11) (N := 28) hx hb hts in_X11 hown hK hP 0 rfl rfl 12 (by decide) lk4 (fun _ h9 => h9) rfl dX11_wordsFor_37 ?_
      refine lv_iload hx hb dX11_wordsFor_40 (lv_at hl 0 rfl) ?_
      refine k_iald hx hb hK hP 2 0 rfl rfl (show k < 7 by omega) (by decide) dX11_wordsFor_42 ?_
      have b_20 := hwp k
      refine k_goi (S := Unit) (va_runV (As := [.int (nI a), .int (nI (wp k))]) (rest := [.int (nI (cntM wp wd (er a) a d none k))]) ⟨hx, hb, hml, hown, hts⟩ (c_X11_isNear l D cI cZ cS cP hM m1 m2 m3 m4 m5 m6 m7 m8 m9 m10 m11 m12 m13 m14 m15 m16 m17 m18 mf mn mb ra rn mw mh mm mr mt er a (wp k) (her) (by first | assumption | omega) (by first | assumption | omega) _) (cwV 2 hts gX11_wordsFor_X11_isNear rfl rfl rfl (by decide +kernel) ⟨Nat.le_of_ble_eq_true rfl, Nat.le_of_ble_eq_true rfl⟩) (kPreV hN hK hP hD [0, 1] rfl rfl (q0 := 0) (ci := 11) (q := (RX11, TX11, 28)) rfl rfl) rfl rfl hl.1 rfl (lv_room (Nat.le_of_ble_eq_true rfl)) dX11_wordsFor_43 ⟨Nat.le_of_ble_eq_true rfl, Nat.le_of_ble_eq_true rfl⟩) hP hD hS hA [0, 1] rfl [hM, m3] rfl (fun _ => rfl) 4 [2, 3] rfl (fun _u => [(hM, .inr (11, [.int (nI mf), .int (nI mn), .ref m1, .ref m2, .ref m3, .int (nI mb), .int (nI ra), .int (nI rn), .ref m4, .ref m5, .ref m6, .int (nI mw), .ref m7, .ref m8, .int (nI mh), .ref m9, .ref m10, .int (nI mm), .ref m11, .int (nI mr), .ref m12, .ref m13, .ref m14, .ref m15, .ref m16, .ref m17, .ref m18, .int mt])), (m3, .inl (cI, 7, .inl (nA er))), (m7, .inl (cI, 7, .inl (nA wp))), (m8, .inl (cI, 7, .inl (nA wd)))]) (fun _ => rfl) [(m7, .inl (cI, 7, .inl (nA wp))), (m8, .inl (cI, 7, .inl (nA wd)))] [] (fun _ => rfl) rfl (fun _ => rfl) rfl (fun r_21 _u H locs hr_22 hP hD hS => ?_)
      have hP : va_P D vwCl [(hM, .inr (11, [.int (nI mf), .int (nI mn), .ref m1, .ref m2, .ref m3, .int (nI mb), .int (nI ra), .int (nI rn), .ref m4, .ref m5, .ref m6, .int (nI mw), .ref m7, .ref m8, .int (nI mh), .ref m9, .ref m10, .int (nI mm), .ref m11, .int (nI mr), .ref m12, .ref m13, .ref m14, .ref m15, .ref m16, .ref m17, .ref m18, .int mt])), (m3, .inl (cI, 7, .inl (nA er))), (m7, .inl (cI, 7, .inl (nA wp))), (m8, .inl (cI, 7, .inl (nA wd)))] H := hP
      have hD : va_D A [(hM, .inr (11, [.int (nI mf), .int (nI mn), .ref m1, .ref m2, .ref m3, .int (nI mb), .int (nI ra), .int (nI rn), .ref m4, .ref m5, .ref m6, .int (nI mw), .ref m7, .ref m8, .int (nI mh), .ref m9, .ref m10, .int (nI mm), .ref m11, .int (nI mr), .ref m12, .ref m13, .ref m14, .ref m15, .ref m16, .ref m17, .ref m18, .int mt])), (m3, .inl (cI, 7, .inl (nA er))), (m7, .inl (cI, 7, .inl (nA wp))), (m8, .inl (cI, 7, .inl (nA wd)))] := hD
      subst hr_22
      refine k_ifc_eq (tgt := 53) hx hb dX11_wordsFor_46 (by decide) (fun c_23 => ?_) (fun c_23 => ?_)
      · skip
        refine lv_iconst (v := (nI 0)) hx hb dX11_wordsFor_53 (by decide) ?_
        have e_24 := (show (nI 0) = (nI (if ((wd k) ≤ d) ∧ (absD (wp k) a ≤ er a) then 1 else 0)) from congrArg nI (if_neg (fun z => c_23 z.2)).symm)
        refine k_eqi (show (nI 0) = (nI (if ((wd k) ≤ d) ∧ (absD (wp k) a ≤ er a) then 1 else 0)) from congrArg nI (if_neg (fun z => c_23 z.2)).symm) ?_
        exact j_17 _ _ _ hP hD hS (lv_sub hl [0, 1, 2, 3, 4, 5] rfl)
      · skip
        refine lv_iconst (v := (nI 1)) hx hb dX11_wordsFor_49 (by decide) ?_
        refine lv_goto (tgt := 54) hx hb dX11_wordsFor_50 (by decide) ?_
        have e_25 := (show (nI 1) = (nI (if ((wd k) ≤ d) ∧ (absD (wp k) a ≤ er a) then 1 else 0)) from congrArg nI (if_pos (⟨c_18, c_23⟩)).symm)
        refine k_eqi (show (nI 1) = (nI (if ((wd k) ≤ d) ∧ (absD (wp k) a ≤ er a) then 1 else 0)) from congrArg nI (if_pos (⟨c_18, c_23⟩)).symm) ?_
        exact j_17 _ _ _ hP hD hS (lv_sub hl [0, 1, 2, 3, 4, 5] rfl)
def rm_X11_wordsFor_w : Room := { frames := 1, cells := 0, slots := 0, locals := 23 }
set_option maxHeartbeats 4000000 in
set_option maxRecDepth 100000 in
theorem c_X11_wordsFor_w (l : Launch) (D : va_G) (cI cZ cS cP : ClassId) (hM : Nat) (m1 : Nat) (m2 : Nat) (m3 : Nat) (m4 : Nat) (m5 : Nat) (m6 : Nat) (m7 : Nat) (m8 : Nat) (m9 : Nat) (m10 : Nat) (m11 : Nat) (m12 : Nat) (m13 : Nat) (m14 : Nat) (m15 : Nat) (m16 : Nat) (m17 : Nat) (m18 : Nat) (mf : Nat) (mn : Nat) (mb : Nat) (ra : Nat) (rn : Nat) (mw : Nat) (mh : Nat) (mm : Nat) (mr : Nat) (mt : Int32) (er : Nat → Nat) (wp : Nat → Nat) (wd : Nat → Nat) (a : Nat) (d : Nat) (wo : Nat) (her : ∀ i, er i < 7) (hwp : ∀ i, wp i < 7) (hwd : ∀ i, wd i < 40) (hn : mn ≤ 7) (ha : a < 7) (hd : d < 40) (hmw : mw ≤ 7) (hmm : mm < 128) (hwo : wo < 2 ^ 31) : kMi (S := Unit) l yX11_wordsFor wsX11_wordsFor rm_X11_wordsFor_w D (kT cI cZ cS cP) [.ref hM, .int (nI a), .int (nI d), .int (nI wo)] [(hM, .inr (11, [.int (nI mf), .int (nI mn), .ref m1, .ref m2, .ref m3, .int (nI mb), .int (nI ra), .int (nI rn), .ref m4, .ref m5, .ref m6, .int (nI mw), .ref m7, .ref m8, .int (nI mh), .ref m9, .ref m10, .int (nI mm), .ref m11, .int (nI mr), .ref m12, .ref m13, .ref m14, .ref m15, .ref m16, .ref m17, .ref m18, .int mt])), (m3, .inl (cI, 7, .inl (nA er))), (m7, .inl (cI, 7, .inl (nA wp))), (m8, .inl (cI, 7, .inl (nA wd)))] (fun r _ => r = (nI (cntM wp wd (er a) a d (some wo) mw + cntB mm (er a) a mn))) (fun _ => [(hM, .inr (11, [.int (nI mf), .int (nI mn), .ref m1, .ref m2, .ref m3, .int (nI mb), .int (nI ra), .int (nI rn), .ref m4, .ref m5, .ref m6, .int (nI mw), .ref m7, .ref m8, .int (nI mh), .ref m9, .ref m10, .int (nI mm), .ref m11, .int (nI mr), .ref m12, .ref m13, .ref m14, .ref m15, .ref m16, .ref m17, .ref m18, .int mt])), (m3, .inl (cI, 7, .inl (nA er))), (m7, .inl (cI, 7, .inl (nA wp))), (m8, .inl (cI, 7, .inl (nA wd)))]) := by
  refine kMet_i (cc := cX11_wordsFor) (maxL := 6) (ty := .int) (by decide) rfl (Nat.le_of_ble_eq_true rfl) (fun _ _ _ => rfl) ?_
  intro p e s m args below meth c A Q ls C hlocks hin hN hK hP hD hS hA hl ret
  obtain ⟨hx, hb, hml, hown, hts⟩ := C
  have hl : lv_has ls 6 [(0, .ref hM), (1, .int (nI a)), (2, .int (nI d)), (3, .int (nI wo))] := hl
  have in_X11 : ∀ w ∈ wsX110, w ∈ wsX11_wordsFor := by decide +kernel
  have lk0 := hts (.fieldLink RX11 129 "SilkWordModel" "words" "I") (by decide +kernel)
  have lk1 := hts (.fieldLink RX11 75 "SilkWordModel" "persons" "I") (by decide +kernel)
  have lk2 := hts (.fieldLink RX11 153 "SilkWordModel" "moreWords" "I") (by decide +kernel)
  have lk3 := hts (.fieldLink RX11 31 "SilkWordModel" "wordOn" "[I") (by decide +kernel)
  have lk4 := hts (.fieldLink RX11 28 "SilkWordModel" "wordAt" "[I") (by decide +kernel)
  refine lv_iconst (v := (nI 0)) hx hb dX11_wordsFor_0 (by decide) ?_
  refine lv_istore (lv' := [(4, .int (nI 0)), (0, .ref hM), (1, .int (nI a)), (2, .int (nI d)), (3, .int (nI wo))]) hx hb dX11_wordsFor_1 hl (by decide) rfl (fun ls hl => ?_)
  refine lv_iconst (v := (nI 0)) hx hb dX11_wordsFor_3 (by decide) ?_
  refine lv_istore (lv' := [(5, .int (nI 0)), (4, .int (nI 0)), (0, .ref hM), (1, .int (nI a)), (2, .int (nI d)), (3, .int (nI wo))]) hx hb dX11_wordsFor_4 hl (by decide) rfl (fun ls hl => ?_)
  have e_1 : (nI 0) = (nI (cntM wp wd (er a) a d (some wo) 0)) := congrArg nI (show 0 = cntM wp wd (er a) a d (some wo) 0 by rfl)
  refine k_loop (α := Nat) (nL := 6) (fun k => mw - k) (fun k => [(hM, .inr (11, [.int (nI mf), .int (nI mn), .ref m1, .ref m2, .ref m3, .int (nI mb), .int (nI ra), .int (nI rn), .ref m4, .ref m5, .ref m6, .int (nI mw), .ref m7, .ref m8, .int (nI mh), .ref m9, .ref m10, .int (nI mm), .ref m11, .int (nI mr), .ref m12, .ref m13, .ref m14, .ref m15, .ref m16, .ref m17, .ref m18, .int mt])), (m3, .inl (cI, 7, .inl (nA er))), (m7, .inl (cI, 7, .inl (nA wp))), (m8, .inl (cI, 7, .inl (nA wd)))]) (fun k => [(5, .int (nI k)), (4, .int (nI (cntM wp wd (er a) a d (some wo) k))), (0, .ref hM), (1, .int (nI a)), (2, .int (nI d)), (3, .int (nI wo))]) (fun k => (k ≤ mw)) ?_ 0 (show (0 ≤ mw) from by omega) hP hD hS (lv_cast (lv_sub hl [0, 1, 2, 3, 4, 5] rfl) (show ([(5, .int (nI 0)), (4, .int (nI 0)), (0, .ref hM), (1, .int (nI a)), (2, .int (nI d)), (3, .int (nI wo))] : List (Nat × Value)) = [(5, .int (nI 0)), (4, .int (nI (cntM wp wd (er a) a d (some wo) 0))), (0, .ref hM), (1, .int (nI a)), (2, .int (nI d)), (3, .int (nI wo))] by rw [← e_1]))
  clear hP hD hS hl
  intro k H locs ls hI hP hD hS hl ih6
  have hk : (k ≤ mw) := hI
  have hP : va_P D vwCl [(hM, .inr (11, [.int (nI mf), .int (nI mn), .ref m1, .ref m2, .ref m3, .int (nI mb), .int (nI ra), .int (nI rn), .ref m4, .ref m5, .ref m6, .int (nI mw), .ref m7, .ref m8, .int (nI mh), .ref m9, .ref m10, .int (nI mm), .ref m11, .int (nI mr), .ref m12, .ref m13, .ref m14, .ref m15, .ref m16, .ref m17, .ref m18, .int mt])), (m3, .inl (cI, 7, .inl (nA er))), (m7, .inl (cI, 7, .inl (nA wp))), (m8, .inl (cI, 7, .inl (nA wd)))] H := hP
  have hD : va_D A [(hM, .inr (11, [.int (nI mf), .int (nI mn), .ref m1, .ref m2, .ref m3, .int (nI mb), .int (nI ra), .int (nI rn), .ref m4, .ref m5, .ref m6, .int (nI mw), .ref m7, .ref m8, .int (nI mh), .ref m9, .ref m10, .int (nI mm), .ref m11, .int (nI mr), .ref m12, .ref m13, .ref m14, .ref m15, .ref m16, .ref m17, .ref m18, .int mt])), (m3, .inl (cI, 7, .inl (nA er))), (m7, .inl (cI, 7, .inl (nA wp))), (m8, .inl (cI, 7, .inl (nA wd)))] := hD
  have hl : lv_has ls 6 [(5, .int (nI k)), (4, .int (nI (cntM wp wd (er a) a d (some wo) k))), (0, .ref hM), (1, .int (nI a)), (2, .int (nI d)), (3, .int (nI wo))] := hl
  refine lv_iload hx hb dX11_wordsFor_6 (lv_at hl 0 rfl) ?_
  refine lv_aload_n hx hb dX11_wordsFor_8 rfl (lv_at hl 2 rfl) ?_
  refine va_get (D := D) (ci := 11) (v := .int (nI mw)) (C := RX11) (T := TX11) (N := 28) hx hb hts in_X11 hown hK hP 0 rfl rfl 11 (by decide) lk0 (fun _ h9 => h9) rfl dX11_wordsFor_9 ?_
  refine k_icmp_ge (tgt := 63) hx hb dX11_wordsFor_12 (by decide) (show k < 2 ^ 31 by first | omega | (split <;> omega)) (show mw < 2 ^ 31 by first | omega | (split <;> omega)) (fun c_2 => ?_) (fun c_2 => ?_)
  · skip
    refine lv_iconst (v := (nI 0)) hx hb dX11_wordsFor_63 (by decide) ?_
    refine lv_istore (lv' := [(5, .int (nI 0)), (4, .int (nI (cntM wp wd (er a) a d (some wo) k))), (0, .ref hM), (1, .int (nI a)), (2, .int (nI d)), (3, .int (nI wo))]) hx hb dX11_wordsFor_64 hl (by decide) rfl (fun ls hl => ?_)
    have h9 : k = mw := by omega
    have e_3 : (nI (cntM wp wd (er a) a d (some wo) k)) = (nI (cntM wp wd (er a) a d (some wo) mw + cntB mm (er a) a 0)) := congrArg nI (show cntM wp wd (er a) a d (some wo) k = cntM wp wd (er a) a d (some wo) mw + cntB mm (er a) a 0 by rw [h9]; rfl)
    refine k_loop (α := Nat) (nL := 6) (fun k => mn - k) (fun k => [(hM, .inr (11, [.int (nI mf), .int (nI mn), .ref m1, .ref m2, .ref m3, .int (nI mb), .int (nI ra), .int (nI rn), .ref m4, .ref m5, .ref m6, .int (nI mw), .ref m7, .ref m8, .int (nI mh), .ref m9, .ref m10, .int (nI mm), .ref m11, .int (nI mr), .ref m12, .ref m13, .ref m14, .ref m15, .ref m16, .ref m17, .ref m18, .int mt])), (m3, .inl (cI, 7, .inl (nA er))), (m7, .inl (cI, 7, .inl (nA wp))), (m8, .inl (cI, 7, .inl (nA wd)))]) (fun k => [(5, .int (nI k)), (4, .int (nI (cntM wp wd (er a) a d (some wo) mw + cntB mm (er a) a k))), (0, .ref hM), (1, .int (nI a)), (2, .int (nI d)), (3, .int (nI wo))]) (fun k => (k ≤ mn)) ?_ 0 (show (0 ≤ mn) from by omega) hP hD hS (lv_cast (lv_sub hl [0, 1, 2, 3, 4, 5] rfl) (show ([(5, .int (nI 0)), (4, .int (nI (cntM wp wd (er a) a d (some wo) k))), (0, .ref hM), (1, .int (nI a)), (2, .int (nI d)), (3, .int (nI wo))] : List (Nat × Value)) = [(5, .int (nI 0)), (4, .int (nI (cntM wp wd (er a) a d (some wo) mw + cntB mm (er a) a 0))), (0, .ref hM), (1, .int (nI a)), (2, .int (nI d)), (3, .int (nI wo))] by rw [← e_3]))
    clear hP hD hS hl
    intro k H locs ls hI hP hD hS hl ih66
    have hk2 : (k ≤ mn) := hI
    have hP : va_P D vwCl [(hM, .inr (11, [.int (nI mf), .int (nI mn), .ref m1, .ref m2, .ref m3, .int (nI mb), .int (nI ra), .int (nI rn), .ref m4, .ref m5, .ref m6, .int (nI mw), .ref m7, .ref m8, .int (nI mh), .ref m9, .ref m10, .int (nI mm), .ref m11, .int (nI mr), .ref m12, .ref m13, .ref m14, .ref m15, .ref m16, .ref m17, .ref m18, .int mt])), (m3, .inl (cI, 7, .inl (nA er))), (m7, .inl (cI, 7, .inl (nA wp))), (m8, .inl (cI, 7, .inl (nA wd)))] H := hP
    have hD : va_D A [(hM, .inr (11, [.int (nI mf), .int (nI mn), .ref m1, .ref m2, .ref m3, .int (nI mb), .int (nI ra), .int (nI rn), .ref m4, .ref m5, .ref m6, .int (nI mw), .ref m7, .ref m8, .int (nI mh), .ref m9, .ref m10, .int (nI mm), .ref m11, .int (nI mr), .ref m12, .ref m13, .ref m14, .ref m15, .ref m16, .ref m17, .ref m18, .int mt])), (m3, .inl (cI, 7, .inl (nA er))), (m7, .inl (cI, 7, .inl (nA wp))), (m8, .inl (cI, 7, .inl (nA wd)))] := hD
    have hl : lv_has ls 6 [(5, .int (nI k)), (4, .int (nI (cntM wp wd (er a) a d (some wo) mw + cntB mm (er a) a k))), (0, .ref hM), (1, .int (nI a)), (2, .int (nI d)), (3, .int (nI wo))] := hl
    refine lv_iload hx hb dX11_wordsFor_66 (lv_at hl 0 rfl) ?_
    refine lv_aload_n hx hb dX11_wordsFor_68 rfl (lv_at hl 2 rfl) ?_
    refine va_get (D := D) (ci := 11) (v := .int (nI mn)) (C := RX11) (T := TX11) (N := 28) hx hb hts in_X11 hown hK hP 0 rfl rfl 1 (by decide) lk1 (fun _ h9 => h9) rfl dX11_wordsFor_69 ?_
    refine k_icmp_ge (tgt := 113) hx hb dX11_wordsFor_72 (by decide) (show k < 2 ^ 31 by first | omega | (split <;> omega)) (show mn < 2 ^ 31 by first | omega | (split <;> omega)) (fun c_4 => ?_) (fun c_4 => ?_)
    · skip
      refine lv_iload hx hb dX11_wordsFor_113 (lv_at hl 1 rfl) ?_
      exact ret _ () _ _ _ _ dX11_wordsFor_115 (congrArg nI (show cntM wp wd (er a) a d (some wo) mw + cntB mm (er a) a k = cntM wp wd (er a) a d (some wo) mw + cntB mm (er a) a mn by (have h9 : k = mn := by omega); rw [h9])) hP hD hS
    · skip
      refine lv_iload hx hb dX11_wordsFor_75 (lv_at hl 1 rfl) ?_
      refine lv_aload_n hx hb dX11_wordsFor_77 rfl (lv_at hl 2 rfl) ?_
      refine va_get (D := D) (ci := 11) (v := .int (nI mm)) (C := RX11) (T := TX11) (N := 28) hx hb hts in_X11 hown hK hP 0 rfl rfl 17 (by decide) lk2 (fun _ h9 => h9) rfl dX11_wordsFor_78 ?_
      refine lv_iload hx hb dX11_wordsFor_81 (lv_at hl 0 rfl) ?_
      refine k_goi (S := Unit) (va_runS (As := [.int (nI mm), .int (nI k)]) (rest := [.int (nI (cntM wp wd (er a) a d (some wo) mw + cntB mm (er a) a k))]) ⟨hx, hb, hml, hown, hts⟩ (c_X11_isIn l D cI cZ cS cP mm k (by first | assumption | omega) (by first | assumption | omega) _) (va_cwS 2 hts gX11_wordsFor_X11_isIn rfl rfl rfl (by decide +kernel) ⟨Nat.le_of_ble_eq_true rfl, Nat.le_of_ble_eq_true rfl⟩) (kPreS hN hK hP hD [] rfl rfl) rfl rfl hl.1 rfl (lv_room (Nat.le_of_ble_eq_true rfl)) dX11_wordsFor_83 ⟨Nat.le_of_ble_eq_true rfl, Nat.le_of_ble_eq_true rfl⟩) hP hD hS hA [] rfl [] rfl (fun _ => rfl) 4 [0, 1, 2, 3] rfl (fun _u => [(hM, .inr (11, [.int (nI mf), .int (nI mn), .ref m1, .ref m2, .ref m3, .int (nI mb), .int (nI ra), .int (nI rn), .ref m4, .ref m5, .ref m6, .int (nI mw), .ref m7, .ref m8, .int (nI mh), .ref m9, .ref m10, .int (nI mm), .ref m11, .int (nI mr), .ref m12, .ref m13, .ref m14, .ref m15, .ref m16, .ref m17, .ref m18, .int mt])), (m3, .inl (cI, 7, .inl (nA er))), (m7, .inl (cI, 7, .inl (nA wp))), (m8, .inl (cI, 7, .inl (nA wd)))]) (fun _ => rfl) [(hM, .inr (11, [.int (nI mf), .int (nI mn), .ref m1, .ref m2, .ref m3, .int (nI mb), .int (nI ra), .int (nI rn), .ref m4, .ref m5, .ref m6, .int (nI mw), .ref m7, .ref m8, .int (nI mh), .ref m9, .ref m10, .int (nI mm), .ref m11, .int (nI mr), .ref m12, .ref m13, .ref m14, .ref m15, .ref m16, .ref m17, .ref m18, .int mt])), (m3, .inl (cI, 7, .inl (nA er))), (m7, .inl (cI, 7, .inl (nA wp))), (m8, .inl (cI, 7, .inl (nA wd)))] [] (fun _ => rfl) rfl (fun _ => rfl) rfl (fun r_5 _u H locs hr_6 hP hD hS => ?_)
      have hP : va_P D vwCl [(hM, .inr (11, [.int (nI mf), .int (nI mn), .ref m1, .ref m2, .ref m3, .int (nI mb), .int (nI ra), .int (nI rn), .ref m4, .ref m5, .ref m6, .int (nI mw), .ref m7, .ref m8, .int (nI mh), .ref m9, .ref m10, .int (nI mm), .ref m11, .int (nI mr), .ref m12, .ref m13, .ref m14, .ref m15, .ref m16, .ref m17, .ref m18, .int mt])), (m3, .inl (cI, 7, .inl (nA er))), (m7, .inl (cI, 7, .inl (nA wp))), (m8, .inl (cI, 7, .inl (nA wd)))] H := hP
      have hD : va_D A [(hM, .inr (11, [.int (nI mf), .int (nI mn), .ref m1, .ref m2, .ref m3, .int (nI mb), .int (nI ra), .int (nI rn), .ref m4, .ref m5, .ref m6, .int (nI mw), .ref m7, .ref m8, .int (nI mh), .ref m9, .ref m10, .int (nI mm), .ref m11, .int (nI mr), .ref m12, .ref m13, .ref m14, .ref m15, .ref m16, .ref m17, .ref m18, .int mt])), (m3, .inl (cI, 7, .inl (nA er))), (m7, .inl (cI, 7, .inl (nA wp))), (m8, .inl (cI, 7, .inl (nA wd)))] := hD
      subst hr_6
      have j_7 : ∀ (H : Heap) (locs : List Loc) (ls : Array Slot), va_P D vwCl [(hM, .inr (11, [.int (nI mf), .int (nI mn), .ref m1, .ref m2, .ref m3, .int (nI mb), .int (nI ra), .int (nI rn), .ref m4, .ref m5, .ref m6, .int (nI mw), .ref m7, .ref m8, .int (nI mh), .ref m9, .ref m10, .int (nI mm), .ref m11, .int (nI mr), .ref m12, .ref m13, .ref m14, .ref m15, .ref m16, .ref m17, .ref m18, .int mt])), (m3, .inl (cI, 7, .inl (nA er))), (m7, .inl (cI, 7, .inl (nA wp))), (m8, .inl (cI, 7, .inl (nA wd)))] H → va_D A [(hM, .inr (11, [.int (nI mf), .int (nI mn), .ref m1, .ref m2, .ref m3, .int (nI mb), .int (nI ra), .int (nI rn), .ref m4, .ref m5, .ref m6, .int (nI mw), .ref m7, .ref m8, .int (nI mh), .ref m9, .ref m10, .int (nI mm), .ref m11, .int (nI mr), .ref m12, .ref m13, .ref m14, .ref m15, .ref m16, .ref m17, .ref m18, .int mt])), (m3, .inl (cI, 7, .inl (nA er))), (m7, .inl (cI, 7, .inl (nA wp))), (m8, .inl (cI, 7, .inl (nA wd)))] → va_S A s.heap H locs → lv_has ls 6 [(5, .int (nI k)), (4, .int (nI (cntM wp wd (er a) a d (some wo) mw + cntB mm (er a) a k))), (0, .ref hM), (1, .int (nI a)), (2, .int (nI d)), (3, .int (nI wo))] → W p l e rm_X11_wordsFor_w s m args below meth c H locs 0 0 Q (F0 m 104 ls [.int (nI (if (mm.testBit k = true) ∧ (absD k a ≤ er a) then 1 else 0)), .int (nI (cntM wp wd (er a) a d (some wo) mw + cntB mm (er a) a k))]) := by
        clear hP hD hS hl
        intro H locs ls hP hD hS hl
        refine lv_iadd hx hb dX11_wordsFor_104 ?_
        refine k_eqi (show ((nI (cntM wp wd (er a) a d (some wo) mw + cntB mm (er a) a k)) + (nI (if (mm.testBit k = true) ∧ (absD k a ≤ er a) then 1 else 0))) = (nI ((cntM wp wd (er a) a d (some wo) mw + cntB mm (er a) a k) + (if (mm.testBit k = true) ∧ (absD k a ≤ er a) then 1 else 0))) from nI_add (cntM wp wd (er a) a d (some wo) mw + cntB mm (er a) a k) (if (mm.testBit k = true) ∧ (absD k a ≤ er a) then 1 else 0)) ?_
        refine lv_istore (lv' := [(4, .int (nI ((cntM wp wd (er a) a d (some wo) mw + cntB mm (er a) a k) + (if (mm.testBit k = true) ∧ (absD k a ≤ er a) then 1 else 0)))), (5, .int (nI k)), (0, .ref hM), (1, .int (nI a)), (2, .int (nI d)), (3, .int (nI wo))]) hx hb dX11_wordsFor_105 hl (by decide) rfl (fun ls hl => ?_)
        refine lv_iinc (v := (nI (k + 1))) (lv' := [(5, .int (nI (k + 1))), (4, .int (nI ((cntM wp wd (er a) a d (some wo) mw + cntB mm (er a) a k) + (if (mm.testBit k = true) ∧ (absD k a ≤ er a) then 1 else 0)))), (0, .ref hM), (1, .int (nI a)), (2, .int (nI d)), (3, .int (nI wo))]) hx hb dX11_wordsFor_107 hl (k := 1) rfl (nI_inc k) (by decide) rfl (fun ls hl => ?_)
        refine lv_goto (tgt := 66) hx hb dX11_wordsFor_110 (by decide) ?_
        have e_9 : (nI ((cntM wp wd (er a) a d (some wo) mw + cntB mm (er a) a k) + (if (mm.testBit k = true) ∧ (absD k a ≤ er a) then 1 else 0))) = (nI (cntM wp wd (er a) a d (some wo) mw + cntB mm (er a) a (k + 1))) := congrArg nI (show (cntM wp wd (er a) a d (some wo) mw + cntB mm (er a) a k) + (if (mm.testBit k = true) ∧ (absD k a ≤ er a) then 1 else 0) = cntM wp wd (er a) a d (some wo) mw + cntB mm (er a) a (k + 1) by rw [Nat.add_assoc]; rfl)
        exact ih66 (k + 1) _ _ _ (show mn - (k + 1) < mn - k by omega) (show ((k + 1) ≤ mn) from by omega) hP hD hS (lv_cast (lv_sub hl [0, 1, 2, 3, 4, 5] rfl) (show ([(5, .int (nI (k + 1))), (4, .int (nI ((cntM wp wd (er a) a d (some wo) mw + cntB mm (er a) a k) + (if (mm.testBit k = true) ∧ (absD k a ≤ er a) then 1 else 0)))), (0, .ref hM), (1, .int (nI a)), (2, .int (nI d)), (3, .int (nI wo))] : List (Nat × Value)) = [(5, .int (nI (k + 1))), (4, .int (nI (cntM wp wd (er a) a d (some wo) mw + cntB mm (er a) a (k + 1)))), (0, .ref hM), (1, .int (nI a)), (2, .int (nI d)), (3, .int (nI wo))] by rw [← e_9]))
      refine k_ifc_eq (tgt := 103) hx hb dX11_wordsFor_86 (by decide) (fun c_8 => ?_) (fun c_8 => ?_)
      · skip
        refine lv_iconst (v := (nI 0)) hx hb dX11_wordsFor_103 (by decide) ?_
        have e_9 := (show (nI 0) = (nI (if (mm.testBit k = true) ∧ (absD k a ≤ er a) then 1 else 0)) from congrArg nI (if_neg (fun z => c_8 z.1)).symm)
        refine k_eqi (show (nI 0) = (nI (if (mm.testBit k = true) ∧ (absD k a ≤ er a) then 1 else 0)) from congrArg nI (if_neg (fun z => c_8 z.1)).symm) ?_
        exact j_7 _ _ _ hP hD hS (lv_sub hl [0, 1, 2, 3, 4, 5] rfl)
      · skip
        refine lv_aload_n hx hb dX11_wordsFor_89 rfl (lv_at hl 2 rfl) ?_
        refine lv_iload_n hx hb dX11_wordsFor_90 rfl (lv_at hl 3 rfl) ?_
        refine lv_iload hx hb dX11_wordsFor_91 (lv_at hl 0 rfl) ?_
        refine k_goi (S := Unit) (va_runV (As := [.int (nI a), .int (nI k)]) (rest := [.int (nI (cntM wp wd (er a) a d (some wo) mw + cntB mm (er a) a k))]) ⟨hx, hb, hml, hown, hts⟩ (c_X11_isNear l D cI cZ cS cP hM m1 m2 m3 m4 m5 m6 m7 m8 m9 m10 m11 m12 m13 m14 m15 m16 m17 m18 mf mn mb ra rn mw mh mm mr mt er a k (her) (by first | assumption | omega) (by first | assumption | omega) _) (cwV 2 hts gX11_wordsFor_X11_isNear rfl rfl rfl (by decide +kernel) ⟨Nat.le_of_ble_eq_true rfl, Nat.le_of_ble_eq_true rfl⟩) (kPreV hN hK hP hD [0, 1] rfl rfl (q0 := 0) (ci := 11) (q := (RX11, TX11, 28)) rfl rfl) rfl rfl hl.1 rfl (lv_room (Nat.le_of_ble_eq_true rfl)) dX11_wordsFor_93 ⟨Nat.le_of_ble_eq_true rfl, Nat.le_of_ble_eq_true rfl⟩) hP hD hS hA [0, 1] rfl [hM, m3] rfl (fun _ => rfl) 4 [2, 3] rfl (fun _u => [(hM, .inr (11, [.int (nI mf), .int (nI mn), .ref m1, .ref m2, .ref m3, .int (nI mb), .int (nI ra), .int (nI rn), .ref m4, .ref m5, .ref m6, .int (nI mw), .ref m7, .ref m8, .int (nI mh), .ref m9, .ref m10, .int (nI mm), .ref m11, .int (nI mr), .ref m12, .ref m13, .ref m14, .ref m15, .ref m16, .ref m17, .ref m18, .int mt])), (m3, .inl (cI, 7, .inl (nA er))), (m7, .inl (cI, 7, .inl (nA wp))), (m8, .inl (cI, 7, .inl (nA wd)))]) (fun _ => rfl) [(m7, .inl (cI, 7, .inl (nA wp))), (m8, .inl (cI, 7, .inl (nA wd)))] [] (fun _ => rfl) rfl (fun _ => rfl) rfl (fun r_10 _u H locs hr_11 hP hD hS => ?_)
        have hP : va_P D vwCl [(hM, .inr (11, [.int (nI mf), .int (nI mn), .ref m1, .ref m2, .ref m3, .int (nI mb), .int (nI ra), .int (nI rn), .ref m4, .ref m5, .ref m6, .int (nI mw), .ref m7, .ref m8, .int (nI mh), .ref m9, .ref m10, .int (nI mm), .ref m11, .int (nI mr), .ref m12, .ref m13, .ref m14, .ref m15, .ref m16, .ref m17, .ref m18, .int mt])), (m3, .inl (cI, 7, .inl (nA er))), (m7, .inl (cI, 7, .inl (nA wp))), (m8, .inl (cI, 7, .inl (nA wd)))] H := hP
        have hD : va_D A [(hM, .inr (11, [.int (nI mf), .int (nI mn), .ref m1, .ref m2, .ref m3, .int (nI mb), .int (nI ra), .int (nI rn), .ref m4, .ref m5, .ref m6, .int (nI mw), .ref m7, .ref m8, .int (nI mh), .ref m9, .ref m10, .int (nI mm), .ref m11, .int (nI mr), .ref m12, .ref m13, .ref m14, .ref m15, .ref m16, .ref m17, .ref m18, .int mt])), (m3, .inl (cI, 7, .inl (nA er))), (m7, .inl (cI, 7, .inl (nA wp))), (m8, .inl (cI, 7, .inl (nA wd)))] := hD
        subst hr_11
        refine k_ifc_eq (tgt := 103) hx hb dX11_wordsFor_96 (by decide) (fun c_12 => ?_) (fun c_12 => ?_)
        · skip
          refine lv_iconst (v := (nI 0)) hx hb dX11_wordsFor_103 (by decide) ?_
          have e_13 := (show (nI 0) = (nI (if (mm.testBit k = true) ∧ (absD k a ≤ er a) then 1 else 0)) from congrArg nI (if_neg (fun z => c_12 z.2)).symm)
          refine k_eqi (show (nI 0) = (nI (if (mm.testBit k = true) ∧ (absD k a ≤ er a) then 1 else 0)) from congrArg nI (if_neg (fun z => c_12 z.2)).symm) ?_
          exact j_7 _ _ _ hP hD hS (lv_sub hl [0, 1, 2, 3, 4, 5] rfl)
        · skip
          refine lv_iconst (v := (nI 1)) hx hb dX11_wordsFor_99 (by decide) ?_
          refine lv_goto (tgt := 104) hx hb dX11_wordsFor_100 (by decide) ?_
          have e_14 := (show (nI 1) = (nI (if (mm.testBit k = true) ∧ (absD k a ≤ er a) then 1 else 0)) from congrArg nI (if_pos (⟨c_8, c_12⟩)).symm)
          refine k_eqi (show (nI 1) = (nI (if (mm.testBit k = true) ∧ (absD k a ≤ er a) then 1 else 0)) from congrArg nI (if_pos (⟨c_8, c_12⟩)).symm) ?_
          exact j_7 _ _ _ hP hD hS (lv_sub hl [0, 1, 2, 3, 4, 5] rfl)
  · skip
    refine lv_iload hx hb dX11_wordsFor_15 (lv_at hl 1 rfl) ?_
    refine lv_iload hx hb dX11_wordsFor_17 (lv_at hl 0 rfl) ?_
    refine lv_iload_n hx hb dX11_wordsFor_19 rfl (lv_at hl 5 rfl) ?_
    have j_15 : ∀ (H : Heap) (locs : List Loc) (ls : Array Slot), va_P D vwCl [(hM, .inr (11, [.int (nI mf), .int (nI mn), .ref m1, .ref m2, .ref m3, .int (nI mb), .int (nI ra), .int (nI rn), .ref m4, .ref m5, .ref m6, .int (nI mw), .ref m7, .ref m8, .int (nI mh), .ref m9, .ref m10, .int (nI mm), .ref m11, .int (nI mr), .ref m12, .ref m13, .ref m14, .ref m15, .ref m16, .ref m17, .ref m18, .int mt])), (m3, .inl (cI, 7, .inl (nA er))), (m7, .inl (cI, 7, .inl (nA wp))), (m8, .inl (cI, 7, .inl (nA wd)))] H → va_D A [(hM, .inr (11, [.int (nI mf), .int (nI mn), .ref m1, .ref m2, .ref m3, .int (nI mb), .int (nI ra), .int (nI rn), .ref m4, .ref m5, .ref m6, .int (nI mw), .ref m7, .ref m8, .int (nI mh), .ref m9, .ref m10, .int (nI mm), .ref m11, .int (nI mr), .ref m12, .ref m13, .ref m14, .ref m15, .ref m16, .ref m17, .ref m18, .int mt])), (m3, .inl (cI, 7, .inl (nA er))), (m7, .inl (cI, 7, .inl (nA wp))), (m8, .inl (cI, 7, .inl (nA wd)))] → va_S A s.heap H locs → lv_has ls 6 [(5, .int (nI k)), (4, .int (nI (cntM wp wd (er a) a d (some wo) k))), (0, .ref hM), (1, .int (nI a)), (2, .int (nI d)), (3, .int (nI wo))] → W p l e rm_X11_wordsFor_w s m args below meth c H locs 0 0 Q (F0 m 54 ls [.int (nI (if (¬ (k = wo)) ∧ (((wd k) ≤ d) ∧ (absD (wp k) a ≤ er a)) then 1 else 0)), .int (nI (cntM wp wd (er a) a d (some wo) k))]) := by
      clear hP hD hS hl
      intro H locs ls hP hD hS hl
      refine lv_iadd hx hb dX11_wordsFor_54 ?_
      refine k_eqi (show ((nI (cntM wp wd (er a) a d (some wo) k)) + (nI (if (¬ (k = wo)) ∧ (((wd k) ≤ d) ∧ (absD (wp k) a ≤ er a)) then 1 else 0))) = (nI ((cntM wp wd (er a) a d (some wo) k) + (if (¬ (k = wo)) ∧ (((wd k) ≤ d) ∧ (absD (wp k) a ≤ er a)) then 1 else 0))) from nI_add (cntM wp wd (er a) a d (some wo) k) (if (¬ (k = wo)) ∧ (((wd k) ≤ d) ∧ (absD (wp k) a ≤ er a)) then 1 else 0)) ?_
      refine lv_istore (lv' := [(4, .int (nI ((cntM wp wd (er a) a d (some wo) k) + (if (¬ (k = wo)) ∧ (((wd k) ≤ d) ∧ (absD (wp k) a ≤ er a)) then 1 else 0)))), (5, .int (nI k)), (0, .ref hM), (1, .int (nI a)), (2, .int (nI d)), (3, .int (nI wo))]) hx hb dX11_wordsFor_55 hl (by decide) rfl (fun ls hl => ?_)
      refine lv_iinc (v := (nI (k + 1))) (lv' := [(5, .int (nI (k + 1))), (4, .int (nI ((cntM wp wd (er a) a d (some wo) k) + (if (¬ (k = wo)) ∧ (((wd k) ≤ d) ∧ (absD (wp k) a ≤ er a)) then 1 else 0)))), (0, .ref hM), (1, .int (nI a)), (2, .int (nI d)), (3, .int (nI wo))]) hx hb dX11_wordsFor_57 hl (k := 1) rfl (nI_inc k) (by decide) rfl (fun ls hl => ?_)
      refine lv_goto (tgt := 6) hx hb dX11_wordsFor_60 (by decide) ?_
      have e_17 : (nI ((cntM wp wd (er a) a d (some wo) k) + (if (¬ (k = wo)) ∧ (((wd k) ≤ d) ∧ (absD (wp k) a ≤ er a)) then 1 else 0))) = (nI (cntM wp wd (er a) a d (some wo) (k + 1))) := congrArg nI (show (cntM wp wd (er a) a d (some wo) k) + (if (¬ (k = wo)) ∧ (((wd k) ≤ d) ∧ (absD (wp k) a ≤ er a)) then 1 else 0) = cntM wp wd (er a) a d (some wo) (k + 1) by exact cntM_w)
      exact ih6 (k + 1) _ _ _ (show mw - (k + 1) < mw - k by omega) (show ((k + 1) ≤ mw) from by omega) hP hD hS (lv_cast (lv_sub hl [0, 1, 2, 3, 4, 5] rfl) (show ([(5, .int (nI (k + 1))), (4, .int (nI ((cntM wp wd (er a) a d (some wo) k) + (if (¬ (k = wo)) ∧ (((wd k) ≤ d) ∧ (absD (wp k) a ≤ er a)) then 1 else 0)))), (0, .ref hM), (1, .int (nI a)), (2, .int (nI d)), (3, .int (nI wo))] : List (Nat × Value)) = [(5, .int (nI (k + 1))), (4, .int (nI (cntM wp wd (er a) a d (some wo) (k + 1)))), (0, .ref hM), (1, .int (nI a)), (2, .int (nI d)), (3, .int (nI wo))] by rw [← e_17]))
    refine k_icmp_eq (tgt := 53) hx hb dX11_wordsFor_20 (by decide) (show k < 2 ^ 31 by first | omega | (split <;> omega)) (show wo < 2 ^ 31 by first | omega | (split <;> omega)) (fun c_16 => ?_) (fun c_16 => ?_)
    · skip
      refine lv_iconst (v := (nI 0)) hx hb dX11_wordsFor_53 (by decide) ?_
      have e_17 := (show (nI 0) = (nI (if (¬ (k = wo)) ∧ (((wd k) ≤ d) ∧ (absD (wp k) a ≤ er a)) then 1 else 0)) from congrArg nI (if_neg (fun z => (fun z => z c_16) z.1)).symm)
      refine k_eqi (show (nI 0) = (nI (if (¬ (k = wo)) ∧ (((wd k) ≤ d) ∧ (absD (wp k) a ≤ er a)) then 1 else 0)) from congrArg nI (if_neg (fun z => (fun z => z c_16) z.1)).symm) ?_
      exact j_15 _ _ _ hP hD hS (lv_sub hl [0, 1, 2, 3, 4, 5] rfl)
    · skip
      refine lv_aload_n hx hb dX11_wordsFor_23 rfl (lv_at hl 2 rfl) ?_
      refine va_get (D := D) (ci := 11) (v := .ref m8) (C := RX11) (T := TX11) (N := 28) hx hb hts in_X11 hown hK hP 0 rfl rfl 13 (by decide) lk3 (fun _ h9 => h9) rfl dX11_wordsFor_24 ?_
      refine lv_iload hx hb dX11_wordsFor_27 (lv_at hl 0 rfl) ?_
      refine k_iald hx hb hK hP 3 0 rfl rfl (show k < 7 by omega) (by decide) dX11_wordsFor_29 ?_
      have b_18 := hwd k
      refine lv_iload_n hx hb dX11_wordsFor_30 rfl (lv_at hl 4 rfl) ?_
      refine k_icmp_gt (tgt := 53) hx hb dX11_wordsFor_31 (by decide) (show (wd k) < 2 ^ 31 by first | omega | (split <;> omega)) (show d < 2 ^ 31 by first | omega | (split <;> omega)) (fun c_19 => ?_) (fun c_19 => ?_)
      · skip
        refine lv_iconst (v := (nI 0)) hx hb dX11_wordsFor_53 (by decide) ?_
        have e_20 := (show (nI 0) = (nI (if (¬ (k = wo)) ∧ (((wd k) ≤ d) ∧ (absD (wp k) a ≤ er a)) then 1 else 0)) from congrArg nI (if_neg (fun z => (fun z => (Nat.not_le.mpr c_19) z.1) z.2)).symm)
        refine k_eqi (show (nI 0) = (nI (if (¬ (k = wo)) ∧ (((wd k) ≤ d) ∧ (absD (wp k) a ≤ er a)) then 1 else 0)) from congrArg nI (if_neg (fun z => (fun z => (Nat.not_le.mpr c_19) z.1) z.2)).symm) ?_
        exact j_15 _ _ _ hP hD hS (lv_sub hl [0, 1, 2, 3, 4, 5] rfl)
      · skip
        refine lv_aload_n hx hb dX11_wordsFor_34 rfl (lv_at hl 2 rfl) ?_
        refine lv_iload_n hx hb dX11_wordsFor_35 rfl (lv_at hl 3 rfl) ?_
        refine lv_aload_n hx hb dX11_wordsFor_36 rfl (lv_at hl 2 rfl) ?_
        refine va_get (D := D) (ci := 11) (v := .ref m7) (C := RX11) (T := TX11) (N := 28) hx hb hts in_X11 hown hK hP 0 rfl rfl 12 (by decide) lk4 (fun _ h9 => h9) rfl dX11_wordsFor_37 ?_
        refine lv_iload hx hb dX11_wordsFor_40 (lv_at hl 0 rfl) ?_
        refine k_iald hx hb hK hP 2 0 rfl rfl (show k < 7 by omega) (by decide) dX11_wordsFor_42 ?_
        have b_21 := hwp k
        refine k_goi (S := Unit) (va_runV (As := [.int (nI a), .int (nI (wp k))]) (rest := [.int (nI (cntM wp wd (er a) a d (some wo) k))]) ⟨hx, hb, hml, hown, hts⟩ (c_X11_isNear l D cI cZ cS cP hM m1 m2 m3 m4 m5 m6 m7 m8 m9 m10 m11 m12 m13 m14 m15 m16 m17 m18 mf mn mb ra rn mw mh mm mr mt er a (wp k) (her) (by first | assumption | omega) (by first | assumption | omega) _) (cwV 2 hts gX11_wordsFor_X11_isNear rfl rfl rfl (by decide +kernel) ⟨Nat.le_of_ble_eq_true rfl, Nat.le_of_ble_eq_true rfl⟩) (kPreV hN hK hP hD [0, 1] rfl rfl (q0 := 0) (ci := 11) (q := (RX11, TX11, 28)) rfl rfl) rfl rfl hl.1 rfl (lv_room (Nat.le_of_ble_eq_true rfl)) dX11_wordsFor_43 ⟨Nat.le_of_ble_eq_true rfl, Nat.le_of_ble_eq_true rfl⟩) hP hD hS hA [0, 1] rfl [hM, m3] rfl (fun _ => rfl) 4 [2, 3] rfl (fun _u => [(hM, .inr (11, [.int (nI mf), .int (nI mn), .ref m1, .ref m2, .ref m3, .int (nI mb), .int (nI ra), .int (nI rn), .ref m4, .ref m5, .ref m6, .int (nI mw), .ref m7, .ref m8, .int (nI mh), .ref m9, .ref m10, .int (nI mm), .ref m11, .int (nI mr), .ref m12, .ref m13, .ref m14, .ref m15, .ref m16, .ref m17, .ref m18, .int mt])), (m3, .inl (cI, 7, .inl (nA er))), (m7, .inl (cI, 7, .inl (nA wp))), (m8, .inl (cI, 7, .inl (nA wd)))]) (fun _ => rfl) [(m7, .inl (cI, 7, .inl (nA wp))), (m8, .inl (cI, 7, .inl (nA wd)))] [] (fun _ => rfl) rfl (fun _ => rfl) rfl (fun r_22 _u H locs hr_23 hP hD hS => ?_)
        have hP : va_P D vwCl [(hM, .inr (11, [.int (nI mf), .int (nI mn), .ref m1, .ref m2, .ref m3, .int (nI mb), .int (nI ra), .int (nI rn), .ref m4, .ref m5, .ref m6, .int (nI mw), .ref m7, .ref m8, .int (nI mh), .ref m9, .ref m10, .int (nI mm), .ref m11, .int (nI mr), .ref m12, .ref m13, .ref m14, .ref m15, .ref m16, .ref m17, .ref m18, .int mt])), (m3, .inl (cI, 7, .inl (nA er))), (m7, .inl (cI, 7, .inl (nA wp))), (m8, .inl (cI, 7, .inl (nA wd)))] H := hP
        have hD : va_D A [(hM, .inr (11, [.int (nI mf), .int (nI mn), .ref m1, .ref m2, .ref m3, .int (nI mb), .int (nI ra), .int (nI rn), .ref m4, .ref m5, .ref m6, .int (nI mw), .ref m7, .ref m8, .int (nI mh), .ref m9, .ref m10, .int (nI mm), .ref m11, .int (nI mr), .ref m12, .ref m13, .ref m14, .ref m15, .ref m16, .ref m17, .ref m18, .int mt])), (m3, .inl (cI, 7, .inl (nA er))), (m7, .inl (cI, 7, .inl (nA wp))), (m8, .inl (cI, 7, .inl (nA wd)))] := hD
        subst hr_23
        refine k_ifc_eq (tgt := 53) hx hb dX11_wordsFor_46 (by decide) (fun c_24 => ?_) (fun c_24 => ?_)
        · skip
          refine lv_iconst (v := (nI 0)) hx hb dX11_wordsFor_53 (by decide) ?_
          have e_25 := (show (nI 0) = (nI (if (¬ (k = wo)) ∧ (((wd k) ≤ d) ∧ (absD (wp k) a ≤ er a)) then 1 else 0)) from congrArg nI (if_neg (fun z => (fun z => c_24 z.2) z.2)).symm)
          refine k_eqi (show (nI 0) = (nI (if (¬ (k = wo)) ∧ (((wd k) ≤ d) ∧ (absD (wp k) a ≤ er a)) then 1 else 0)) from congrArg nI (if_neg (fun z => (fun z => c_24 z.2) z.2)).symm) ?_
          exact j_15 _ _ _ hP hD hS (lv_sub hl [0, 1, 2, 3, 4, 5] rfl)
        · skip
          refine lv_iconst (v := (nI 1)) hx hb dX11_wordsFor_49 (by decide) ?_
          refine lv_goto (tgt := 54) hx hb dX11_wordsFor_50 (by decide) ?_
          have e_26 := (show (nI 1) = (nI (if (¬ (k = wo)) ∧ (((wd k) ≤ d) ∧ (absD (wp k) a ≤ er a)) then 1 else 0)) from congrArg nI (if_pos (⟨c_16, ⟨c_19, c_24⟩⟩)).symm)
          refine k_eqi (show (nI 1) = (nI (if (¬ (k = wo)) ∧ (((wd k) ≤ d) ∧ (absD (wp k) a ≤ er a)) then 1 else 0)) from congrArg nI (if_pos (⟨c_16, ⟨c_19, c_24⟩⟩)).symm) ?_
          exact j_15 _ _ _ hP hD hS (lv_sub hl [0, 1, 2, 3, 4, 5] rfl)
def rm_X11_whispersOf : Room := { frames := 0, cells := 0, slots := 0, locals := 0 }
set_option maxHeartbeats 4000000 in
set_option maxRecDepth 100000 in
theorem c_X11_whispersOf (l : Launch) (D : va_G) (cI cZ cS cP : ClassId) (hM : Nat) (m1 : Nat) (m2 : Nat) (m3 : Nat) (m4 : Nat) (m5 : Nat) (m6 : Nat) (m7 : Nat) (m8 : Nat) (m9 : Nat) (m10 : Nat) (m11 : Nat) (m12 : Nat) (m13 : Nat) (m14 : Nat) (m15 : Nat) (m16 : Nat) (m17 : Nat) (m18 : Nat) (mf : Nat) (mn : Nat) (mb : Nat) (ra : Nat) (rn : Nat) (mw : Nat) (mh : Nat) (mm : Nat) (mr : Nat) (mt : Int32) (ho : Nat → Nat) (hh : Nat → Nat) (a : Nat) (hho : ∀ i, ho i < 7) (hhh : ∀ i, hh i < 7) (ha : a < 7) (hmh : mh ≤ 7) : kMi (S := Unit) l yX11_whispersOf wsX11_whispersOf rm_X11_whispersOf D (kT cI cZ cS cP) [.ref hM, .int (nI a)] [(hM, .inr (11, [.int (nI mf), .int (nI mn), .ref m1, .ref m2, .ref m3, .int (nI mb), .int (nI ra), .int (nI rn), .ref m4, .ref m5, .ref m6, .int (nI mw), .ref m7, .ref m8, .int (nI mh), .ref m9, .ref m10, .int (nI mm), .ref m11, .int (nI mr), .ref m12, .ref m13, .ref m14, .ref m15, .ref m16, .ref m17, .ref m18, .int mt])), (m9, .inl (cI, 7, .inl (nA ho))), (m10, .inl (cI, 7, .inl (nA hh)))] (fun r _ => r = (nI (cntH ho hh a mh))) (fun _ => [(hM, .inr (11, [.int (nI mf), .int (nI mn), .ref m1, .ref m2, .ref m3, .int (nI mb), .int (nI ra), .int (nI rn), .ref m4, .ref m5, .ref m6, .int (nI mw), .ref m7, .ref m8, .int (nI mh), .ref m9, .ref m10, .int (nI mm), .ref m11, .int (nI mr), .ref m12, .ref m13, .ref m14, .ref m15, .ref m16, .ref m17, .ref m18, .int mt])), (m9, .inl (cI, 7, .inl (nA ho))), (m10, .inl (cI, 7, .inl (nA hh)))]) := by
  refine kMet_i (cc := cX11_whispersOf) (maxL := 4) (ty := .int) (by decide) rfl (Nat.le_of_ble_eq_true rfl) (fun _ _ _ => rfl) ?_
  intro p e s m args below meth c A Q ls C hlocks hin hN hK hP hD hS hA hl ret
  obtain ⟨hx, hb, hml, hown, hts⟩ := C
  have hl : lv_has ls 4 [(0, .ref hM), (1, .int (nI a))] := hl
  have in_X11 : ∀ w ∈ wsX110, w ∈ wsX11_whispersOf := by decide +kernel
  have lk0 := hts (.fieldLink RX11 132 "SilkWordModel" "whispersNow" "I") (by decide +kernel)
  have lk1 := hts (.fieldLink RX11 34 "SilkWordModel" "whisperA" "[I") (by decide +kernel)
  have lk2 := hts (.fieldLink RX11 37 "SilkWordModel" "whisperB" "[I") (by decide +kernel)
  refine lv_iconst (v := (nI 0)) hx hb dX11_whispersOf_0 (by decide) ?_
  refine lv_istore_n (lv' := [(2, .int (nI 0)), (0, .ref hM), (1, .int (nI a))]) hx hb dX11_whispersOf_1 rfl hl (by decide) rfl (fun ls hl => ?_)
  refine lv_iconst (v := (nI 0)) hx hb dX11_whispersOf_2 (by decide) ?_
  refine lv_istore_n (lv' := [(3, .int (nI 0)), (2, .int (nI 0)), (0, .ref hM), (1, .int (nI a))]) hx hb dX11_whispersOf_3 rfl hl (by decide) rfl (fun ls hl => ?_)
  have e_1 : (nI 0) = (nI (cntH ho hh a 0)) := congrArg nI (show 0 = cntH ho hh a 0 by rfl)
  refine k_loop (α := Nat) (nL := 4) (fun k => mh - k) (fun k => [(hM, .inr (11, [.int (nI mf), .int (nI mn), .ref m1, .ref m2, .ref m3, .int (nI mb), .int (nI ra), .int (nI rn), .ref m4, .ref m5, .ref m6, .int (nI mw), .ref m7, .ref m8, .int (nI mh), .ref m9, .ref m10, .int (nI mm), .ref m11, .int (nI mr), .ref m12, .ref m13, .ref m14, .ref m15, .ref m16, .ref m17, .ref m18, .int mt])), (m9, .inl (cI, 7, .inl (nA ho))), (m10, .inl (cI, 7, .inl (nA hh)))]) (fun k => [(3, .int (nI k)), (2, .int (nI (cntH ho hh a k))), (0, .ref hM), (1, .int (nI a))]) (fun k => (k ≤ mh)) ?_ 0 (show (0 ≤ mh) from by omega) hP hD hS (lv_cast (lv_sub hl [0, 1, 2, 3] rfl) (show ([(3, .int (nI 0)), (2, .int (nI 0)), (0, .ref hM), (1, .int (nI a))] : List (Nat × Value)) = [(3, .int (nI 0)), (2, .int (nI (cntH ho hh a 0))), (0, .ref hM), (1, .int (nI a))] by rw [← e_1]))
  clear hP hD hS hl
  intro k H locs ls hI hP hD hS hl ih4
  have hk : (k ≤ mh) := hI
  have hP : va_P D vwCl [(hM, .inr (11, [.int (nI mf), .int (nI mn), .ref m1, .ref m2, .ref m3, .int (nI mb), .int (nI ra), .int (nI rn), .ref m4, .ref m5, .ref m6, .int (nI mw), .ref m7, .ref m8, .int (nI mh), .ref m9, .ref m10, .int (nI mm), .ref m11, .int (nI mr), .ref m12, .ref m13, .ref m14, .ref m15, .ref m16, .ref m17, .ref m18, .int mt])), (m9, .inl (cI, 7, .inl (nA ho))), (m10, .inl (cI, 7, .inl (nA hh)))] H := hP
  have hD : va_D A [(hM, .inr (11, [.int (nI mf), .int (nI mn), .ref m1, .ref m2, .ref m3, .int (nI mb), .int (nI ra), .int (nI rn), .ref m4, .ref m5, .ref m6, .int (nI mw), .ref m7, .ref m8, .int (nI mh), .ref m9, .ref m10, .int (nI mm), .ref m11, .int (nI mr), .ref m12, .ref m13, .ref m14, .ref m15, .ref m16, .ref m17, .ref m18, .int mt])), (m9, .inl (cI, 7, .inl (nA ho))), (m10, .inl (cI, 7, .inl (nA hh)))] := hD
  have hl : lv_has ls 4 [(3, .int (nI k)), (2, .int (nI (cntH ho hh a k))), (0, .ref hM), (1, .int (nI a))] := hl
  refine lv_iload_n hx hb dX11_whispersOf_4 rfl (lv_at hl 0 rfl) ?_
  refine lv_aload_n hx hb dX11_whispersOf_5 rfl (lv_at hl 2 rfl) ?_
  refine va_get (D := D) (ci := 11) (v := .int (nI mh)) (C := RX11) (T := TX11) (N := 28) hx hb hts in_X11 hown hK hP 0 rfl rfl 14 (by decide) lk0 (fun _ h9 => h9) rfl dX11_whispersOf_6 ?_
  refine k_icmp_ge (tgt := 46) hx hb dX11_whispersOf_9 (by decide) (show k < 2 ^ 31 by first | omega | (split <;> omega)) (show mh < 2 ^ 31 by first | omega | (split <;> omega)) (fun c_2 => ?_) (fun c_2 => ?_)
  · skip
    refine lv_iload_n hx hb dX11_whispersOf_46 rfl (lv_at hl 1 rfl) ?_
    exact ret _ () _ _ _ _ dX11_whispersOf_47 (congrArg nI (show cntH ho hh a k = cntH ho hh a mh by (have h9 : k = mh := by omega); rw [h9])) hP hD hS
  · skip
    refine lv_iload_n hx hb dX11_whispersOf_12 rfl (lv_at hl 1 rfl) ?_
    refine lv_aload_n hx hb dX11_whispersOf_13 rfl (lv_at hl 2 rfl) ?_
    refine va_get (D := D) (ci := 11) (v := .ref m9) (C := RX11) (T := TX11) (N := 28) hx hb hts in_X11 hown hK hP 0 rfl rfl 15 (by decide) lk1 (fun _ h9 => h9) rfl dX11_whispersOf_14 ?_
    refine lv_iload_n hx hb dX11_whispersOf_17 rfl (lv_at hl 0 rfl) ?_
    refine k_iald hx hb hK hP 1 0 rfl rfl (show k < 7 by omega) (by decide) dX11_whispersOf_18 ?_
    have b_3 := hho k
    refine lv_iload_n hx hb dX11_whispersOf_19 rfl (lv_at hl 3 rfl) ?_
    have j_4 : ∀ (H : Heap) (locs : List Loc) (ls : Array Slot), va_P D vwCl [(hM, .inr (11, [.int (nI mf), .int (nI mn), .ref m1, .ref m2, .ref m3, .int (nI mb), .int (nI ra), .int (nI rn), .ref m4, .ref m5, .ref m6, .int (nI mw), .ref m7, .ref m8, .int (nI mh), .ref m9, .ref m10, .int (nI mm), .ref m11, .int (nI mr), .ref m12, .ref m13, .ref m14, .ref m15, .ref m16, .ref m17, .ref m18, .int mt])), (m9, .inl (cI, 7, .inl (nA ho))), (m10, .inl (cI, 7, .inl (nA hh)))] H → va_D A [(hM, .inr (11, [.int (nI mf), .int (nI mn), .ref m1, .ref m2, .ref m3, .int (nI mb), .int (nI ra), .int (nI rn), .ref m4, .ref m5, .ref m6, .int (nI mw), .ref m7, .ref m8, .int (nI mh), .ref m9, .ref m10, .int (nI mm), .ref m11, .int (nI mr), .ref m12, .ref m13, .ref m14, .ref m15, .ref m16, .ref m17, .ref m18, .int mt])), (m9, .inl (cI, 7, .inl (nA ho))), (m10, .inl (cI, 7, .inl (nA hh)))] → va_S A s.heap H locs → lv_has ls 4 [(3, .int (nI k)), (2, .int (nI (cntH ho hh a k))), (0, .ref hM), (1, .int (nI a))] → W p l e rm_X11_whispersOf s m args below meth c H locs 0 0 Q (F0 m 38 ls [.int (nI (if ((ho k) = a) ∨ ((hh k) = a) then 1 else 0)), .int (nI (cntH ho hh a k))]) := by
      clear hP hD hS hl
      intro H locs ls hP hD hS hl
      refine lv_iadd hx hb dX11_whispersOf_38 ?_
      refine k_eqi (show ((nI (cntH ho hh a k)) + (nI (if ((ho k) = a) ∨ ((hh k) = a) then 1 else 0))) = (nI ((cntH ho hh a k) + (if ((ho k) = a) ∨ ((hh k) = a) then 1 else 0))) from nI_add (cntH ho hh a k) (if ((ho k) = a) ∨ ((hh k) = a) then 1 else 0)) ?_
      refine lv_istore_n (lv' := [(2, .int (nI ((cntH ho hh a k) + (if ((ho k) = a) ∨ ((hh k) = a) then 1 else 0)))), (3, .int (nI k)), (0, .ref hM), (1, .int (nI a))]) hx hb dX11_whispersOf_39 rfl hl (by decide) rfl (fun ls hl => ?_)
      refine lv_iinc (v := (nI (k + 1))) (lv' := [(3, .int (nI (k + 1))), (2, .int (nI ((cntH ho hh a k) + (if ((ho k) = a) ∨ ((hh k) = a) then 1 else 0)))), (0, .ref hM), (1, .int (nI a))]) hx hb dX11_whispersOf_40 hl (k := 1) rfl (nI_inc k) (by decide) rfl (fun ls hl => ?_)
      refine lv_goto (tgt := 4) hx hb dX11_whispersOf_43 (by decide) ?_
      have e_6 : (nI ((cntH ho hh a k) + (if ((ho k) = a) ∨ ((hh k) = a) then 1 else 0))) = (nI (cntH ho hh a (k + 1))) := congrArg nI (show (cntH ho hh a k) + (if ((ho k) = a) ∨ ((hh k) = a) then 1 else 0) = cntH ho hh a (k + 1) by rfl)
      exact ih4 (k + 1) _ _ _ (show mh - (k + 1) < mh - k by omega) (show ((k + 1) ≤ mh) from by omega) hP hD hS (lv_cast (lv_sub hl [0, 1, 2, 3] rfl) (show ([(3, .int (nI (k + 1))), (2, .int (nI ((cntH ho hh a k) + (if ((ho k) = a) ∨ ((hh k) = a) then 1 else 0)))), (0, .ref hM), (1, .int (nI a))] : List (Nat × Value)) = [(3, .int (nI (k + 1))), (2, .int (nI (cntH ho hh a (k + 1)))), (0, .ref hM), (1, .int (nI a))] by rw [← e_6]))
    refine k_icmp_eq (tgt := 33) hx hb dX11_whispersOf_20 (by decide) (show (ho k) < 2 ^ 31 by first | omega | (split <;> omega)) (show a < 2 ^ 31 by first | omega | (split <;> omega)) (fun c_5 => ?_) (fun c_5 => ?_)
    · skip
      refine lv_iconst (v := (nI 1)) hx hb dX11_whispersOf_33 (by decide) ?_
      refine lv_goto (tgt := 38) hx hb dX11_whispersOf_34 (by decide) ?_
      have e_6 := (show (nI 1) = (nI (if ((ho k) = a) ∨ ((hh k) = a) then 1 else 0)) from congrArg nI (if_pos (Or.inl c_5)).symm)
      refine k_eqi (show (nI 1) = (nI (if ((ho k) = a) ∨ ((hh k) = a) then 1 else 0)) from congrArg nI (if_pos (Or.inl c_5)).symm) ?_
      exact j_4 _ _ _ hP hD hS (lv_sub hl [0, 1, 2, 3] rfl)
    · skip
      refine lv_aload_n hx hb dX11_whispersOf_23 rfl (lv_at hl 2 rfl) ?_
      refine va_get (D := D) (ci := 11) (v := .ref m10) (C := RX11) (T := TX11) (N := 28) hx hb hts in_X11 hown hK hP 0 rfl rfl 16 (by decide) lk2 (fun _ h9 => h9) rfl dX11_whispersOf_24 ?_
      refine lv_iload_n hx hb dX11_whispersOf_27 rfl (lv_at hl 0 rfl) ?_
      refine k_iald hx hb hK hP 2 0 rfl rfl (show k < 7 by omega) (by decide) dX11_whispersOf_28 ?_
      have b_7 := hhh k
      refine lv_iload_n hx hb dX11_whispersOf_29 rfl (lv_at hl 3 rfl) ?_
      refine k_icmp_ne (tgt := 37) hx hb dX11_whispersOf_30 (by decide) (show (hh k) < 2 ^ 31 by first | omega | (split <;> omega)) (show a < 2 ^ 31 by first | omega | (split <;> omega)) (fun c_8 => ?_) (fun c_8 => ?_)
      · skip
        refine lv_iconst (v := (nI 0)) hx hb dX11_whispersOf_37 (by decide) ?_
        have e_9 := (show (nI 0) = (nI (if ((ho k) = a) ∨ ((hh k) = a) then 1 else 0)) from congrArg nI (if_neg (fun z => z.elim c_5 c_8)).symm)
        refine k_eqi (show (nI 0) = (nI (if ((ho k) = a) ∨ ((hh k) = a) then 1 else 0)) from congrArg nI (if_neg (fun z => z.elim c_5 c_8)).symm) ?_
        exact j_4 _ _ _ hP hD hS (lv_sub hl [0, 1, 2, 3] rfl)
      · skip
        refine lv_iconst (v := (nI 1)) hx hb dX11_whispersOf_33 (by decide) ?_
        refine lv_goto (tgt := 38) hx hb dX11_whispersOf_34 (by decide) ?_
        have e_10 := (show (nI 1) = (nI (if ((ho k) = a) ∨ ((hh k) = a) then 1 else 0)) from congrArg nI (if_pos (Or.inr c_8)).symm)
        refine k_eqi (show (nI 1) = (nI (if ((ho k) = a) ∨ ((hh k) = a) then 1 else 0)) from congrArg nI (if_pos (Or.inr c_8)).symm) ?_
        exact j_4 _ _ _ hP hD hS (lv_sub hl [0, 1, 2, 3] rfl)
