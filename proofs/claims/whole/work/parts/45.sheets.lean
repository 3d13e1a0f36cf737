theorem sa_n1 {x : Int32} {g : Nat → Option Nat} (h : x < 0) : none = (if inR x 4 then g x.toNatClampNeg else none) := by
  rw [if_neg]
  unfold inR
  rw [Int32.lt_iff_toInt_lt] at h
  simp only [Int32.toInt_zero] at h
  omega
theorem sa_n2 {x : Int32} {g : Nat → Option Nat} (h : ¬ x < nI 4) : none = (if inR x 4 then g x.toNatClampNeg else none) := by
  rw [if_neg]
  intro z
  exact h ((inR_lt (by decide)).mp z).2
theorem sa_y {k : Nat} {g : Nat → Option Nat} (h : k < 4) : g k = (if inR (nI k) 4 then g (nI k).toNatClampNeg else none) := by
  rw [if_pos ((inR_nI (by omega)).mpr h), nI_clamp (by omega)]
theorem hcs_nat {x n sz : Nat} (h : x + n ≤ sz) (hs : sz ≤ 60) : hcs (nI x) (nI n) sz := by
  unfold hcs
  rw [nI_toInt (by omega), nI_toInt (by omega)]
  omega
theorem hcs_of {x y : Int32} {sz : Nat} (h : hcs x y sz) (hs : sz ≤ 60) : ∃ a b, a + b ≤ sz ∧ x = nI a ∧ y = nI b := by
  unfold hcs at h
  obtain ⟨a, ha, rfl⟩ := inR_nat (x := x) (n := 61) (by unfold inR; omega)
  obtain ⟨b, hb, rfl⟩ := inR_nat (x := y) (n := 61) (by unfold inR; omega)
  rw [nI_toInt (by omega), nI_toInt (by omega)] at h
  exact ⟨a, b, by omega, rfl, rfl⟩
section KCP
variable {p : Program} {l : Launch} {e : Env} {R : Room} {s : State} {m : MethodId} {args : Array Value} {below : List Frame} {meth : Method} {c : Code} {H : Heap} {locs : List Loc} {cells slots : Nat} {Q : State → Prop} {pc : Nat} {ls : Array Slot} {rest : List Value}
variable {D : va_G} {cl : List vw_C} {tys : List (ClassId × FieldType)} {ws : va_W} {A : Nat → Prop} {H0 : Heap} {a : Nat}
theorem k_copy {cc : ByteArray} (hexec : p.tables.exec = Jvm.exec) (hb : c.code = cc) (hml : c.maxLocals = ls.size) {own : String} {index : Nat} (hown : s.vm.findClass own = some m.cls) (hlink : (Cond.methodLink own index arraycopyName).before args s = true) (hnat : (Cond.native arraycopyName).before args s = true) (hstat : (Cond.static arraycopyName).before args s = true) (hini : (Cond.initialized "java/lang/System").before args s = true)
    (hK : va_K D cl tys s) (hP : va_P D cl ws H) (hD : va_D A ws) (hS : va_S A H0 H locs) (q0 q1 t0 : Nat) {a0 : Nat} {c0 : ClassId} {f g : Nat → Int32} (ha0 : ws[q0]? = some (a0, .inl (c0, 60, .inl f))) (ha1 : ws[q1]? = some (a, .inl (c0, 60, .inl g))) (ht0 : tys[t0]? = some (c0, .int)) {sp dp n : Nat} (h4 : sp + n ≤ 60) (h5 : dp + n ≤ 60)
    (hframes : 1 ≤ R.frames) (hlocals : (rest.map fun v => v.category).sum + (nativeFrameWords "java/lang/System" "arraycopy" 5 + 11) ≤ R.locals) (hdg : decode cc pc = .ok (.invokestatic index, 3))
    (kk : ∀ (H1 : Heap) (locs1 : List Loc), va_P D cl (ws.set q1 (a, .inl (c0, 60, .inl (va_cpy f g sp dp n)))) H1 → va_D A (ws.set q1 (a, .inl (c0, 60, .inl (va_cpy f g sp dp n)))) → va_S A H0 H1 locs1 → W p l e R s m args below meth c H1 locs1 cells slots Q (F0 m (pc + 3) ls rest)) : W p l e R s m args below meth c H locs cells slots Q (F0 m pc ls (.int (nI n) :: .int (nI dp) :: .ref a :: .int (nI sp) :: .ref a0 :: rest)) := by
  have e1 : (nI sp).toNatClampNeg = sp := nI_clamp (by omega)
  have e2 : (nI dp).toNatClampNeg = dp := nI_clamp (by omega)
  have e3 : (nI n).toNatClampNeg = n := nI_clamp (by omega)
  refine va_copyi (ty := .int) hexec hb hml hown hlink hnat hstat hini hK hP hD hS q0 q1 t0 t0 ha0 ha1 ht0 ht0 rfl (nI_pos (by omega)) (nI_pos (by omega)) (nI_pos (by omega)) (by rw [e1, e3]; exact h4) (by rw [e2, e3]; exact h5) (fun _ _ => rfl) hframes hlocals hdg ?_
  rw [e1, e2, e3]
  exact kk
end KCP
def rm_X3_take2 : Room := { frames := 1, cells := 0, slots := 0, locals := 24 }
set_option maxHeartbeats 4000000 in
set_option maxRecDepth 100000 in
theorem c_X3_take2 (l : Launch) (D : va_G) (cI cZ cS cP : ClassId) (hH : Nat) (q1 : Nat) (f : Nat → Int32) (fl : Nat) (ln : Nat) (sz : Nat) (hG : Nat) (q2 : Nat) (g : Nat → Int32) (gl : Nat) (gn : Nat) (gz : Nat) (a : Nat) (b : Nat) (k : Nat) (hsz : sz ≤ 60) (hgz : gz ≤ 60) (h1 : a + k ≤ sz) (h2 : b + k ≤ gz) : kMv (S := Unit) l yX3_takeCells wsX3_takeCells rm_X3_take2 D (kT cI cZ cS cP) [.ref hH, .int (nI a), .ref hG, .int (nI b), .int (nI k)] [(hH, .inr (3, [.ref q1, .int (nI fl), .int (nI ln), .int (nI sz)])), (q1, .inl (cI, 60, .inl f)), (hG, .inr (3, [.ref q2, .int (nI gl), .int (nI gn), .int (nI gz)])), (q2, .inl (cI, 60, .inl g))] (fun _ => True) (fun _ => [(hH, .inr (3, [.ref q1, .int (nI fl), .int (nI ln), .int (nI sz)])), (q1, .inl (cI, 60, .inl (va_cpy g f b a k))), (hG, .inr (3, [.ref q2, .int (nI gl), .int (nI gn), .int (nI gz)])), (q2, .inl (cI, 60, .inl g))]) := by
  refine kMet_v (cc := cX3_takeCells) (maxL := 5) (by decide) rfl (Nat.le_of_ble_eq_true rfl) ?_
  intro p e s m args below meth c A Q ls C hlocks hin hN hK hP hD hS hA hl ret
  obtain ⟨hx, hb, hml, hown, hts⟩ := C
  have hl : lv_has ls 5 [(0, .ref hH), (1, .int (nI a)), (2, .ref hG), (3, .int (nI b)), (4, .int (nI k))] := hl
  have in_X3 : ∀ w ∈ wsX30, w ∈ wsX3_takeCells := by decide +kernel
  have lk0 := hts (.fieldLink RX3 9 "SilkWord$Sheet" "cells" "[I") (by decide +kernel)
  have lk1 := hts (.methodLink RX3 44 arraycopyName) (by decide +kernel)
  have lk2 := hts (.native arraycopyName) (by decide +kernel)
  have lk3 := hts (.static arraycopyName) (by decide +kernel)
  have lk4 := hts (.initialized "java/lang/System") (by decide +kernel)
  refine lv_aload_n hx hb dX3_takeCells_0 rfl (lv_at hl 0 rfl) ?_
  refine lv_iload_n hx hb dX3_takeCells_1 rfl (lv_at hl 1 rfl) ?_
  refine lv_iload hx hb dX3_takeCells_2 (lv_at hl 4 rfl) ?_
  refine k_goi (S := Unit) (va_runV (As := [.int (nI a), .int (nI k)]) (rest := []) ⟨hx, hb, hml, hown, hts⟩ (c_X3_hasCells l D cI cZ cS cP hH q1 f fl ln sz (nI a) (nI k) (by first | assumption | omega) _) (cwV 2 hts gX3_takeCells_X3_hasCells rfl rfl rfl (by decide +kernel) ⟨Nat.le_of_ble_eq_true rfl, Nat.le_of_ble_eq_true rfl⟩) (kPreV hN hK hP hD [0, 1] rfl rfl (q0 := 0) (ci := 3) (q := (RX3, TX3, 4)) rfl rfl) rfl rfl hl.1 rfl (lv_room (Nat.le_of_ble_eq_true rfl)) dX3_takeCells_4 ⟨Nat.le_of_ble_eq_true rfl, Nat.le_of_ble_eq_true rfl⟩) hP hD hS hA [0, 1] rfl [hH, q1] rfl (fun _ => rfl) 4 [2, 3] rfl (fun _u => [(hH, .inr (3, [.ref q1, .int (nI fl), .int (nI ln), .int (nI sz)])), (q1, .inl (cI, 60, .inl f)), (hG, .inr (3, [.ref q2, .int (nI gl), .int (nI gn), .int (nI gz)])), (q2, .inl (cI, 60, .inl g))]) (fun _ => rfl) [(hG, .inr (3, [.ref q2, .int (nI gl), .int (nI gn), .int (nI gz)])), (q2, .inl (cI, 60, .inl g))] [] (fun _ => rfl) rfl (fun _ => rfl) rfl (fun r_1 _u H locs hr_2 hP hD hS => ?_)
  have hP : va_P D vwCl [(hH, .inr (3, [.ref q1, .int (nI fl), .int (nI ln), .int (nI sz)])), (q1, .inl (cI, 60, .inl f)), (hG, .inr (3, [.ref q2, .int (nI gl), .int (nI gn), .int (nI gz)])), (q2, .inl (cI, 60, .inl g))] H := hP
  have hD : va_D A [(hH, .inr (3, [.ref q1, .int (nI fl), .int (nI ln), .int (nI sz)])), (q1, .inl (cI, 60, .inl f)), (hG, .inr (3, [.ref q2, .int (nI gl), .int (nI gn), .int (nI gz)])), (q2, .inl (cI, 60, .inl g))] := hD
  subst hr_2
  refine k_ifc_eq (tgt := 35) hx hb dX3_takeCells_7 (by decide) (fun c_3 => absurd c_3 (not_not_intro (hcs_nat (by omega) (by omega)))) (fun c_3 => ?_)
  refine lv_aload_n hx hb dX3_takeCells_10 rfl (lv_at hl 2 rfl) ?_
  refine lv_iload_n hx hb dX3_takeCells_11 rfl (lv_at hl 3 rfl) ?_
  refine lv_iload hx hb dX3_takeCells_12 (lv_at hl 4 rfl) ?_
  refine k_goi (S := Unit) (va_runV (As := [.int (nI b), .int (nI k)]) (rest := []) ⟨hx, hb, hml, hown, hts⟩ (c_X3_hasCells l D cI cZ cS cP hG q2 g gl gn gz (nI b) (nI k) (by first | assumption | omega) _) (cwV 2 hts gX3_takeCells_X3_hasCells rfl rfl rfl (by decide +kernel) ⟨Nat.le_of_ble_eq_true rfl, Nat.le_of_ble_eq_true rfl⟩) (kPreV hN hK hP hD [2, 3] rfl rfl (q0 := 0) (ci := 3) (q := (RX3, TX3, 4)) rfl rfl) rfl rfl hl.1 rfl (lv_room (Nat.le_of_ble_eq_true rfl)) dX3_takeCells_14 ⟨Nat.le_of_ble_eq_true rfl, Nat.le_of_ble_eq_true rfl⟩) hP hD hS hA [2, 3] rfl [hG, q2] rfl (fun _ => rfl) 4 [0, 1] rfl (fun _u => [(hH, .inr (3, [.ref q1, .int (nI fl), .int (nI ln), .int (nI sz)])), (q1, .inl (cI, 60, .inl f)), (hG, .inr (3, [.ref q2, .int (nI gl), .int (nI gn), .int (nI gz)])), (q2, .inl (cI, 60, .inl g))]) (fun _ => rfl) [(hH, .inr (3, [.ref q1, .int (nI fl), .int (nI ln), .int (nI sz)])), (q1, .inl (cI, 60, .inl f))] [] (fun _ => rfl) rfl (fun _ => rfl) rfl (fun r_4 _u H locs hr_5 hP hD hS => ?_)
  have hP : va_P D vwCl [(hH, .inr (3, [.ref q1, .int (nI fl), .int (nI ln), .int (nI sz)])), (q1, .inl (cI, 60, .inl f)), (hG, .inr (3, [.ref q2, .int (nI gl), .int (nI gn), .int (nI gz)])), (q2, .inl (cI, 60, .inl g))] H := hP
  have hD : va_D A [(hH, .inr (3, [.ref q1, .int (nI fl), .int (nI ln), .int (nI sz)])), (q1, .inl (cI, 60, .inl f)), (hG, .inr (3, [.ref q2, .int (nI gl), .int (nI gn), .int (nI gz)])), (q2, .inl (cI, 60, .inl g))] := hD
  subst hr_5
  refine k_ifc_eq (tgt := 35) hx hb dX3_takeCells_17 (by decide) (fun c_6 => absurd c_6 (not_not_intro (hcs_nat (by omega) (by omega)))) (fun c_6 => ?_)
  refine lv_aload_n hx hb dX3_takeCells_20 rfl (lv_at hl 2 rfl) ?_
  refine va_get (D := D) (ci := 3) (v := .ref q2) (C := RX3) (T := TX3) (N := 4) hx hb hts in_X3 hown hK hP 2 rfl rfl 0 (by decide) lk0 (fun _ h9 => h9) rfl dX3_takeCells_21 ?_
  refine lv_iload_n hx hb dX3_takeCells_24 rfl (lv_at hl 3 rfl) ?_
  refine lv_aload_n hx hb dX3_takeCells_25 rfl (lv_at hl 0 rfl) ?_
  refine va_get (D := D) (ci := 3) (v := .ref q1) (C := RX3) (T := TX3) (N := 4) hx hb hts in_X3 hown hK hP 0 rfl rfl 0 (by decide) lk0 (fun _ h9 => h9) rfl dX3_takeCells_26 ?_
  refine lv_iload_n hx hb dX3_takeCells_29 rfl (lv_at hl 1 rfl) ?_
  refine lv_iload hx hb dX3_takeCells_30 (lv_at hl 4 rfl) ?_
  refine k_copy hx hb (by rw [hml]; exact hl.1.symm) hown lk1 lk2 lk3 lk4 hK hP hD hS 3 1 0 rfl rfl rfl (show b + k ≤ 60 by omega) (show a + k ≤ 60 by omega) (by decide) (by decide +kernel) dX3_takeCells_32 (fun H locs hP hD hS => ?_)
  have hP : va_P D vwCl [(hH, .inr (3, [.ref q1, .int (nI fl), .int (nI ln), .int (nI sz)])), (q1, .inl (cI, 60, .inl (va_cpy g f b a k))), (hG, .inr (3, [.ref q2, .int (nI gl), .int (nI gn), .int (nI gz)])), (q2, .inl (cI, 60, .inl g))] H := hP
  have hD : va_D A [(hH, .inr (3, [.ref q1, .int (nI fl), .int (nI ln), .int (nI sz)])), (q1, .inl (cI, 60, .inl (va_cpy g f b a k))), (hG, .inr (3, [.ref q2, .int (nI gl), .int (nI gn), .int (nI gz)])), (q2, .inl (cI, 60, .inl g))] := hD
  exact ret () _ _ _ _ dX3_takeCells_35 trivial hP hD hS
def rm_X3_take1 : Room := { frames := 1, cells := 0, slots := 0, locals := 24 }
set_option maxHeartbeats 4000000 in
set_option maxRecDepth 100000 in
theorem c_X3_take1 (l : Launch) (D : va_G) (cI cZ cS cP : ClassId) (hH : Nat) (q1 : Nat) (f : Nat → Int32) (fl : Nat) (ln : Nat) (sz : Nat) (a : Nat) (b : Nat) (k : Nat) (hsz : sz ≤ 60) (h1 : a + k ≤ sz) (h2 : b + k ≤ sz) : kMv (S := Unit) l yX3_takeCells wsX3_takeCells rm_X3_take1 D (kT cI cZ cS cP) [.ref hH, .int (nI a), .ref hH, .int (nI b), .int (nI k)] [(hH, .inr (3, [.ref q1, .int (nI fl), .int (nI ln), .int (nI sz)])), (q1, .inl (cI, 60, .inl f))] (fun _ => True) (fun _ => [(hH, .inr (3, [.ref q1, .int (nI fl), .int (nI ln), .int (nI sz)])), (q1, .inl (cI, 60, .inl (va_cpy f f b a k)))]) := by
  refine kMet_v (cc := cX3_takeCells) (maxL := 5) (by decide) rfl (Nat.le_of_ble_eq_true rfl) ?_
  intro p e s m args below meth c A Q ls C hlocks hin hN hK hP hD hS hA hl ret
  obtain ⟨hx, hb, hml, hown, hts⟩ := C
  have hl : lv_has ls 5 [(0, .ref hH), (1, .int (nI a)), (2, .ref hH), (3, .int (nI b)), (4, .int (nI k))] := hl
  have in_X3 : ∀ w ∈ wsX30, w ∈ wsX3_takeCells := by decide +kernel
  have lk0 := hts (.fieldLink RX3 9 "SilkWord$Sheet" "cells" "[I") (by decide +kernel)
  have lk1 := hts (.methodLink RX3 44 arraycopyName) (by decide +kernel)
  have lk2 := hts (.native arraycopyName) (by decide +kernel)
  have lk3 := hts (.static arraycopyName) (by decide +kernel)
  have lk4 := hts (.initialized "java/lang/System") (by decide +kernel)
  refine lv_aload_n hx hb dX3_takeCells_0 rfl (lv_at hl 0 rfl) ?_
  refine lv_iload_n hx hb dX3_takeCells_1 rfl (lv_at hl 1 rfl) ?_
  refine lv_iload hx hb dX3_takeCells_2 (lv_at hl 4 rfl) ?_
  refine k_goi (S := Unit) (va_runV (As := [.int (nI a), .int (nI k)]) (rest := []) ⟨hx, hb, hml, hown, hts⟩ (c_X3_hasCells l D cI cZ cS cP hH q1 f fl ln sz (nI a) (nI k) (by first | assumption | omega) _) (cwV 2 hts gX3_takeCells_X3_hasCells rfl rfl rfl (by decide +kernel) ⟨Nat.le_of_ble_eq_true rfl, Nat.le_of_ble_eq_true rfl⟩) (kPreV hN hK hP hD [0, 1] rfl rfl (q0 := 0) (ci := 3) (q := (RX3, TX3, 4)) rfl rfl) rfl rfl hl.1 rfl (lv_room (Nat.le_of_ble_eq_true rfl)) dX3_takeCells_4 ⟨Nat.le_of_ble_eq_true rfl, Nat.le_of_ble_eq_true rfl⟩) hP hD hS hA [0, 1] rfl [hH, q1] rfl (fun _ => rfl) 2 [] rfl (fun _u => [(hH, .inr (3, [.ref q1, .int (nI fl), .int (nI ln), .int (nI sz)])), (q1, .inl (cI, 60, .inl f))]) (fun _ => rfl) [] [] (fun _ => rfl) rfl (fun _ => rfl) rfl (fun r_1 _u H locs hr_2 hP hD hS => ?_)
  have hP : va_P D vwCl [(hH, .inr (3, [.ref q1, .int (nI fl), .int (nI ln), .int (nI sz)])), (q1, .inl (cI, 60, .inl f))] H := hP
  have hD : va_D A [(hH, .inr (3, [.ref q1, .int (nI fl), .int (nI ln), .int (nI sz)])), (q1, .inl (cI, 60, .inl f))] := hD
  subst hr_2
  refine k_ifc_eq (tgt := 35) hx hb dX3_takeCells_7 (by decide) (fun c_3 => absurd c_3 (not_not_intro (hcs_nat (by omega) (by omega)))) (fun c_3 => ?_)
  refine lv_aload_n hx hb dX3_takeCells_10 rfl (lv_at hl 2 rfl) ?_
  refine lv_iload_n hx hb dX3_takeCells_11 rfl (lv_at hl 3 rfl) ?_
  refine lv_iload hx hb dX3_takeCells_12 (lv_at hl 4 rfl) ?_
  refine k_goi (S := Unit) (va_runV (As := [.int (nI b), .int (nI k)]) (rest := []) ⟨hx, hb, hml, hown, hts⟩ (c_X3_hasCells l D cI cZ cS cP hH q1 f fl ln sz (nI b) (nI k) (by first | assumption | omega) _) (cwV 2 hts gX3_takeCells_X3_hasCells rfl rfl rfl (by decide +kernel) ⟨Nat.le_of_ble_eq_true rfl, Nat.le_of_ble_eq_true rfl⟩) (kPreV hN hK hP hD [0, 1] rfl rfl (q0 := 0) (ci := 3) (q := (RX3, TX3, 4)) rfl rfl) rfl rfl hl.1 rfl (lv_room (Nat.le_of_ble_eq_true rfl)) dX3_takeCells_14 ⟨Nat.le_of_ble_eq_true rfl, Nat.le_of_ble_eq_true rfl⟩) hP hD hS hA [0, 1] rfl [hH, q1] rfl (fun _ => rfl) 2 [] rfl (fun _u => [(hH, .inr (3, [.ref q1, .int (nI fl), .int (nI ln), .int (nI sz)])), (q1, .inl (cI, 60, .inl f))]) (fun _ => rfl) [] [] (fun _ => rfl) rfl (fun _ => rfl) rfl (fun r_4 _u H locs hr_5 hP hD hS => ?_)
  have hP : va_P D vwCl [(hH, .inr (3, [.ref q1, .int (nI fl), .int (nI ln), .int (nI sz)])), (q1, .inl (cI, 60, .inl f))] H := hP
  have hD : va_D A [(hH, .inr (3, [.ref q1, .int (nI fl), .int (nI ln), .int (nI sz)])), (q1, .inl (cI, 60, .inl f))] := hD
  subst hr_5
  refine k_ifc_eq (tgt := 35) hx hb dX3_takeCells_17 (by decide) (fun c_6 => absurd c_6 (not_not_intro (hcs_nat (by omega) (by omega)))) (fun c_6 => ?_)
  refine lv_aload_n hx hb dX3_takeCells_20 rfl (lv_at hl 2 rfl) ?_
  refine va_get (D := D) (ci := 3) (v := .ref q1) (C := RX3) (T := TX3) (N := 4) hx hb hts in_X3 hown hK hP 0 rfl rfl 0 (by decide) lk0 (fun _ h9 => h9) rfl dX3_takeCells_21 ?_
  refine lv_iload_n hx hb dX3_takeCells_24 rfl (lv_at hl 3 rfl) ?_
  refine lv_aload_n hx hb dX3_takeCells_25 rfl (lv_at hl 0 rfl) ?_
  refine va_get (D := D) (ci := 3) (v := .ref q1) (C := RX3) (T := TX3) (N := 4) hx hb hts in_X3 hown hK hP 0 rfl rfl 0 (by decide) lk0 (fun _ h9 => h9) rfl dX3_takeCells_26 ?_
  refine lv_iload_n hx hb dX3_takeCells_29 rfl (lv_at hl 1 rfl) ?_
  refine lv_iload hx hb dX3_takeCells_30 (lv_at hl 4 rfl) ?_
  refine k_copy hx hb (by rw [hml]; exact hl.1.symm) hown lk1 lk2 lk3 lk4 hK hP hD hS 1 1 0 rfl rfl rfl (show b + k ≤ 60 by omega) (show a + k ≤ 60 by omega) (by decide) (by decide +kernel) dX3_takeCells_32 (fun H locs hP hD hS => ?_)
  have hP : va_P D vwCl [(hH, .inr (3, [.ref q1, .int (nI fl), .int (nI ln), .int (nI sz)])), (q1, .inl (cI, 60, .inl (va_cpy f f b a k)))] H := hP
  have hD : va_D A [(hH, .inr (3, [.ref q1, .int (nI fl), .int (nI ln), .int (nI sz)])), (q1, .inl (cI, 60, .inl (va_cpy f f b a k)))] := hD
  exact ret () _ _ _ _ dX3_takeCells_35 trivial hP hD hS
def rm_X10_faulted : Room := { frames := 0, cells := 0, slots := 0, locals := 0 }
set_option maxHeartbeats 4000000 in
set_option maxRecDepth 100000 in
theorem c_X10_faulted (l : Launch) (D : va_G) (cI cZ cS cP : ClassId) (hO : Nat) (hAs : Nat) (hY : Nat) (hR : Nat) (hZ : Nat) (hX : Nat) (ft : Nat) (hS1 : Nat) (hT : Nat) (k : Nat) : kMi (S := Unit) l yX10_faulted wsX10_faulted rm_X10_faulted D (kT cI cZ cS cP) [.ref hO, .int (nI k)] [(hO, .inr (10, [.ref hAs, .ref hS1, .ref hT, .ref hY, .ref hR, .ref hZ, .ref hX, .int (nI ft)]))] (fun r _ => r = ((-10) - (nI k))) (fun _ => [(hO, .inr (10, [.ref hAs, .ref hS1, .ref hT, .ref hY, .ref hR, .ref hZ, .ref hX, .int (nI k)]))]) := by
  refine kMet_i (cc := cX10_faulted) (maxL := 2) (ty := .int) (by decide) rfl (Nat.le_of_ble_eq_true rfl) (fun _ _ _ => rfl) ?_
  intro p e s m args below meth c A Q ls C hlocks hin hN hK hP hD hS hA hl ret
  obtain ⟨hx, hb, hml, hown, hts⟩ := C
  have hl : lv_has ls 2 [(0, .ref hO), (1, .int (nI k))] := hl
  have in_X10 : ∀ w ∈ wsX100, w ∈ wsX10_faulted := by decide +kernel
  have lk0 := hts (.fieldLink RX10 62 "SilkWord" "latestFault" "I") (by decide +kernel)
  refine lv_aload_n hx hb dX10_faulted_0 rfl (lv_at hl 0 rfl) ?_
  refine lv_iload_n hx hb dX10_faulted_1 rfl (lv_at hl 1 rfl) ?_
  refine va_put (D := D) (ci := 10) (v := .int (nI k)) (ty := .int) (C := RX10) (T := TX10) (N := 8) hx hb hts in_X10 tyX10 tyX10_ok nmX10 hown hK hP hD hS 0 rfl rfl 7 (by decide) lk0 (fun _ h9 => h9) rfl (by decide +kernel) rfl rfl (Nat.le_of_ble_eq_true rfl) dX10_faulted_2 (fun H locs hP hD hS => ?_)
  have hP : va_P D vwCl [(hO, .inr (10, [.ref hAs, .ref hS1, .ref hT, .ref hY, .ref hR, .ref hZ, .ref hX, .int (nI k)]))] H := hP
  have hD : va_D A [(hO, .inr (10, [.ref hAs, .ref hS1, .ref hT, .ref hY, .ref hR, .ref hZ, .ref hX, .int (nI k)]))] := hD
  refine lv_bipush (v := (-10)) hx hb dX10_faulted_5 (by decide) ?_
  refine lv_iload_n hx hb dX10_faulted_7 rfl (lv_at hl 1 rfl) ?_
  refine lv_isub hx hb dX10_faulted_8 ?_
  exact ret _ () _ _ _ _ dX10_faulted_9 (rfl) hP hD hS
def rm_X10_sheetAt : Room := { frames := 0, cells := 0, slots := 0, locals := 0 }
set_option maxHeartbeats 4000000 in
set_option maxRecDepth 100000 in
theorem c_X10_sheetAt (l : Launch) (D : va_G) (cI cZ cS cP : ClassId) (hO : Nat) (hAs : Nat) (hY : Nat) (hR : Nat) (hZ : Nat) (hX : Nat) (ft : Nat) (hS1 : Nat) (hT : Nat) (sg : Nat → Option Nat) (x : Int32) : kMq (S := Unit) l yX10_sheetAt wsX10_sheetAt rm_X10_sheetAt D (kT cI cZ cS cP) [.ref hO, .int x] [(hO, .inr (10, [.ref hAs, .ref hS1, .ref hT, .ref hY, .ref hR, .ref hZ, .ref hX, .int (nI ft)])), (hAs, .inl (cS, 4, .inr (.inr (.inr (.inr sg)))))] (fun r _ => r = (if inR x 4 then sg x.toNatClampNeg else none)) (fun _ => [(hO, .inr (10, [.ref hAs, .ref hS1, .ref hT, .ref hY, .ref hR, .ref hZ, .ref hX, .int (nI ft)])), (hAs, .inl (cS, 4, .inr (.inr (.inr (.inr sg)))))]) := by
  refine kMet_q (cc := cX10_sheetAt) (maxL := 2) (Or.inl ⟨_, rfl⟩) (by decide) rfl (Nat.le_of_ble_eq_true rfl) ?_
  intro p e s m args below meth c A Q ls C hlocks hin hN hK hP hD hS hA hl ret
  obtain ⟨hx, hb, hml, hown, hts⟩ := C
  have hl : lv_has ls 2 [(0, .ref hO), (1, .int x)] := hl
  have in_X10 : ∀ w ∈ wsX100, w ∈ wsX10_sheetAt := by decide +kernel
  have lk0 := hts (.fieldLink RX10 13 "SilkWord" "sheets" "[LSilkWord$Sheet;") (by decide +kernel)
  refine lv_iload_n hx hb dX10_sheetAt_0 rfl (lv_at hl 1 rfl) ?_
  refine lv_if_lt (tgt := 13) hx hb dX10_sheetAt_1 (by decide) (fun c_1 => ?_) (fun c_1 => ?_)
  · skip
    refine lv_null hx hb dX10_sheetAt_13 ?_
    refine lv_goto (tgt := 23) hx hb dX10_sheetAt_14 (by decide) ?_
    exact ret none () _ _ _ _ dX10_sheetAt_23 (by first | exact sa_n1 (by assumption) | exact sa_n2 (by assumption) | exact sa_y (by assumption)) hP hD hS
  · skip
    refine lv_iload_n hx hb dX10_sheetAt_4 rfl (lv_at hl 1 rfl) ?_
    refine lv_aload_n hx hb dX10_sheetAt_5 rfl (lv_at hl 0 rfl) ?_
    refine va_get (D := D) (ci := 10) (v := .ref hAs) (C := RX10) (T := TX10) (N := 8) hx hb hts in_X10 hown hK hP 0 rfl rfl 0 (by decide) lk0 (fun _ h9 => h9) rfl dX10_sheetAt_6 ?_
    refine va_alen (v := nI 4) hx hb hK hP 1 2 rfl rfl rfl dX10_sheetAt_9 ?_
    refine lv_icmp_lt (tgt := 17) hx hb dX10_sheetAt_10 (by decide) (fun c_2 => ?_) (fun c_2 => ?_)
    · skip
      obtain ⟨xN, hxN, rfl⟩ := inR_nat ((inR_lt (n := 4) (by decide)).mpr ⟨by assumption, by assumption⟩)
      refine lv_aload_n hx hb dX10_sheetAt_17 rfl (lv_at hl 0 rfl) ?_
      refine va_get (D := D) (ci := 10) (v := .ref hAs) (C := RX10) (T := TX10) (N := 8) hx hb hts in_X10 hown hK hP 0 rfl rfl 0 (by decide) lk0 (fun _ h9 => h9) rfl dX10_sheetAt_18 ?_
      refine lv_iload_n hx hb dX10_sheetAt_21 rfl (lv_at hl 1 rfl) ?_
      refine k_aald hx hb hK hP 1 2 rfl rfl (show xN < 4 by omega) (by decide) dX10_sheetAt_22 ?_
      exact ret (sg xN) () _ _ _ _ dX10_sheetAt_23 (by first | exact sa_n1 (by assumption) | exact sa_n2 (by assumption) | exact sa_y (by assumption)) hP hD hS
    · skip
      refine lv_null hx hb dX10_sheetAt_13 ?_
      refine lv_goto (tgt := 23) hx hb dX10_sheetAt_14 (by decide) ?_
      exact ret none () _ _ _ _ dX10_sheetAt_23 (by first | exact sa_n1 (by assumption) | exact sa_n2 (by assumption) | exact sa_y (by assumption)) hP hD hS
def rm_X10_lose_bad : Room := { frames := 1, cells := 0, slots := 0, locals := 21 }
set_option maxHeartbeats 4000000 in
set_option maxRecDepth 100000 in
theorem c_X10_lose_bad (l : Launch) (D : va_G) (cI cZ cS cP : ClassId) (hO : Nat) (hAs : Nat) (hY : Nat) (hR : Nat) (hZ : Nat) (hX : Nat) (ft : Nat) (hS1 : Nat) (hT : Nat) (sg : Nat → Option Nat) (x : Int32) (hx1 : ¬ inR x 4) : kMi (S := Unit) l yX10_lose wsX10_lose rm_X10_lose_bad D (kT cI cZ cS cP) [.ref hO, .int x] [(hO, .inr (10, [.ref hAs, .ref hS1, .ref hT, .ref hY, .ref hR, .ref hZ, .ref hX, .int (nI ft)])), (hAs, .inl (cS, 4, .inr (.inr (.inr (.inr sg)))))] (fun r _ => r = (-1)) (fun _ => [(hO, .inr (10, [.ref hAs, .ref hS1, .ref hT, .ref hY, .ref hR, .ref hZ, .ref hX, .int (nI ft)])), (hAs, .inl (cS, 4, .inr (.inr (.inr (.inr sg)))))]) := by
  refine kMet_i (cc := cX10_lose) (maxL := 3) (ty := .int) (by decide) rfl (Nat.le_of_ble_eq_true rfl) (fun _ _ _ => rfl) ?_
  intro p e s m args below meth c A Q ls C hlocks hin hN hK hP hD hS hA hl ret
  obtain ⟨hx, hb, hml, hown, hts⟩ := C
  have hl : lv_has ls 3 [(0, .ref hO), (1, .int x)] := hl
  refine lv_aload_n hx hb dX10_lose_0 rfl (lv_at hl 0 rfl) ?_
  refine lv_iload_n hx hb dX10_lose_1 rfl (lv_at hl 1 rfl) ?_
  refine k_goq (S := Unit) (va_runV (As := [.int x]) (rest := []) ⟨hx, hb, hml, hown, hts⟩ (c_X10_sheetAt l D cI cZ cS cP hO hAs hY hR hZ hX ft hS1 hT sg x  _) (cwV 1 hts gX10_lose_X10_sheetAt rfl rfl rfl (by decide +kernel) ⟨Nat.le_of_ble_eq_true rfl, Nat.le_of_ble_eq_true rfl⟩) (kPreV hN hK hP hD [0, 1] rfl rfl (q0 := 0) (ci := 10) (q := (RX10, TX10, 8)) rfl rfl) rfl rfl hl.1 rfl (lv_room (Nat.le_of_ble_eq_true rfl)) dX10_lose_2 ⟨Nat.le_of_ble_eq_true rfl, Nat.le_of_ble_eq_true rfl⟩) hP hD hS hA [0, 1] rfl [hO, hAs] rfl (fun _ => rfl) 2 [] rfl (fun _u => [(hO, .inr (10, [.ref hAs, .ref hS1, .ref hT, .ref hY, .ref hR, .ref hZ, .ref hX, .int (nI ft)])), (hAs, .inl (cS, 4, .inr (.inr (.inr (.inr sg)))))]) (fun _ => rfl) [] [] (fun _ => rfl) rfl (fun _ => rfl) rfl (fun r_1 _u H locs hr_2 hP hD hS => ?_)
  have hP : va_P D vwCl [(hO, .inr (10, [.ref hAs, .ref hS1, .ref hT, .ref hY, .ref hR, .ref hZ, .ref hX, .int (nI ft)])), (hAs, .inl (cS, 4, .inr (.inr (.inr (.inr sg)))))] H := hP
  have hD : va_D A [(hO, .inr (10, [.ref hAs, .ref hS1, .ref hT, .ref hY, .ref hR, .ref hZ, .ref hX, .int (nI ft)])), (hAs, .inl (cS, 4, .inr (.inr (.inr (.inr sg)))))] := hD
  subst hr_2
  refine k_eqr (show (if inR x 4 then sg x.toNatClampNeg else none) = none from if_neg hx1) ?_
  refine W.eq (g2 := F0 m 5 ls [.null]) rfl ?_
  refine lv_astore_nN (lv' := [(2, .null), (0, .ref hO), (1, .int x)]) hx hb dX10_lose_5 rfl hl (by decide) rfl (fun ls hl => ?_)
  refine lv_aload_nN hx hb dX10_lose_6 rfl (lv_at hl 0 rfl) ?_
  refine lv_ifnonnullN hx hb dX10_lose_7 ?_
  refine lv_iconst (v := (-1)) hx hb dX10_lose_10 (by decide) ?_
  exact ret _ () _ _ _ _ dX10_lose_11 (rfl) hP hD hS
def rm_X10_lose_none : Room := { frames := 1, cells := 0, slots := 0, locals := 21 }
set_option maxHeartbeats 4000000 in
set_option maxRecDepth 100000 in
theorem c_X10_lose_none (l : Launch) (D : va_G) (cI cZ cS cP : ClassId) (hO : Nat) (hAs : Nat) (hY : Nat) (hR : Nat) (hZ : Nat) (hX : Nat) (ft : Nat) (hS1 : Nat) (hT : Nat) (sg : Nat → Option Nat) (hH : Nat) (q1 : Nat) (f : Nat → Int32) (fl : Nat) (ln : Nat) (sz : Nat) (k : Nat) (hk1 : k < 4) (hsg : sg k = some hH) (hfl : fl < 2) (hln : ln < 3) (hsz : sz ≤ 60) (h0 : fl = 0) : kMi (S := Unit) l yX10_lose wsX10_lose rm_X10_lose_none D (kT cI cZ cS cP) [.ref hO, .int (nI k)] [(hO, .inr (10, [.ref hAs, .ref hS1, .ref hT, .ref hY, .ref hR, .ref hZ, .ref hX, .int (nI ft)])), (hAs, .inl (cS, 4, .inr (.inr (.inr (.inr sg))))), (hH, .inr (3, [.ref q1, .int (nI fl), .int (nI ln), .int (nI sz)])), (q1, .inl (cI, 60, .inl f))] (fun r _ => r = (nI 0)) (fun _ => [(hO, .inr (10, [.ref hAs, .ref hS1, .ref hT, .ref hY, .ref hR, .ref hZ, .ref hX, .int (nI ft)])), (hAs, .inl (cS, 4, .inr (.inr (.inr (.inr sg))))), (hH, .inr (3, [.ref q1, .int (nI fl), .int (nI ln), .int (nI sz)])), (q1, .inl (cI, 60, .inl f))]) := by
  refine kMet_i (cc := cX10_lose) (maxL := 3) (ty := .int) (by decide) rfl (Nat.le_of_ble_eq_true rfl) (fun _ _ _ => rfl) ?_
  intro p e s m args below meth c A Q ls C hlocks hin hN hK hP hD hS hA hl ret
  obtain ⟨hx, hb, hml, hown, hts⟩ := C
  have hl : lv_has ls 3 [(0, .ref hO), (1, .int (nI k))] := hl
  refine lv_aload_n hx hb dX10_lose_0 rfl (lv_at hl 0 rfl) ?_
  refine lv_iload_n hx hb dX10_lose_1 rfl (lv_at hl 1 rfl) ?_
  refine k_goq (S := Unit) (va_runV (As := [.int (nI k)]) (rest := []) ⟨hx, hb, hml, hown, hts⟩ (c_X10_sheetAt l D cI cZ cS cP hO hAs hY hR hZ hX ft hS1 hT sg (nI k)  _) (cwV 1 hts gX10_lose_X10_sheetAt rfl rfl rfl (by decide +kernel) ⟨Nat.le_of_ble_eq_true rfl, Nat.le_of_ble_eq_true rfl⟩) (kPreV hN hK hP hD [0, 1] rfl rfl (q0 := 0) (ci := 10) (q := (RX10, TX10, 8)) rfl rfl) rfl rfl hl.1 rfl (lv_room (Nat.le_of_ble_eq_true rfl)) dX10_lose_2 ⟨Nat.le_of_ble_eq_true rfl, Nat.le_of_ble_eq_true rfl⟩) hP hD hS hA [0, 1] rfl [hO, hAs] rfl (fun _ => rfl) 4 [2, 3] rfl (fun _u => [(hO, .inr (10, [.ref hAs, .ref hS1, .ref hT, .ref hY, .ref hR, .ref hZ, .ref hX, .int (nI ft)])), (hAs, .inl (cS, 4, .inr (.inr (.inr (.inr sg))))), (hH, .inr (3, [.ref q1, .int (nI fl), .int (nI ln), .int (nI sz)])), (q1, .inl (cI, 60, .inl f))]) (fun _ => rfl) [(hH, .inr (3, [.ref q1, .int (nI fl), .int (nI ln), .int (nI sz)])), (q1, .inl (cI, 60, .inl f))] [] (fun _ => rfl) rfl (fun _ => rfl) rfl (fun r_1 _u H locs hr_2 hP hD hS => ?_)
  have hP : va_P D vwCl [(hO, .inr (10, [.ref hAs, .ref hS1, .ref hT, .ref hY, .ref hR, .ref hZ, .ref hX, .int (nI ft)])), (hAs, .inl (cS, 4, .inr (.inr (.inr (.inr sg))))), (hH, .inr (3, [.ref q1, .int (nI fl), .int (nI ln), .int (nI sz)])), (q1, .inl (cI, 60, .inl f))] H := hP
  have hD : va_D A [(hO, .inr (10, [.ref hAs, .ref hS1, .ref hT, .ref hY, .ref hR, .ref hZ, .ref hX, .int (nI ft)])), (hAs, .inl (cS, 4, .inr (.inr (.inr (.inr sg))))), (hH, .inr (3, [.ref q1, .int (nI fl), .int (nI ln), .int (nI sz)])), (q1, .inl (cI, 60, .inl f))] := hD
  subst hr_2
  refine k_eqr (show (if inR (nI k) 4 then sg (nI k).toNatClampNeg else none) = (some hH) from Eq.trans (sa_y (by omega)).symm hsg) ?_
  refine W.eq (g2 := F0 m 5 ls [.ref hH]) rfl ?_
  refine lv_astore_n (lv' := [(2, .ref hH), (0, .ref hO), (1, .int (nI k))]) hx hb dX10_lose_5 rfl hl (by decide) rfl (fun ls hl => ?_)
  refine lv_aload_n hx hb dX10_lose_6 rfl (lv_at hl 0 rfl) ?_
  refine lv_ifnonnull (tgt := 12) hx hb dX10_lose_7 (by decide) ?_
  refine lv_aload_n hx hb dX10_lose_12 rfl (lv_at hl 0 rfl) ?_
  refine k_goi (S := Unit) (va_runV (As := []) (rest := []) ⟨hx, hb, hml, hown, hts⟩ (c_X3_isNothing l D cI cZ cS cP hH q1 f fl ln sz (by first | assumption | omega) _) (cwV 0 hts gX10_lose_X3_isNothing rfl rfl rfl (by decide +kernel) ⟨Nat.le_of_ble_eq_true rfl, Nat.le_of_ble_eq_true rfl⟩) (kPreV hN hK hP hD [2, 3] rfl rfl (q0 := 0) (ci := 3) (q := (RX3, TX3, 4)) rfl rfl) rfl rfl hl.1 rfl (lv_room (Nat.le_of_ble_eq_true rfl)) dX10_lose_13 ⟨Nat.le_of_ble_eq_true rfl, Nat.le_of_ble_eq_true rfl⟩) hP hD hS hA [2, 3] rfl [hH, q1] rfl (fun _ => rfl) 4 [0, 1] rfl (fun _u => [(hO, .inr (10, [.ref hAs, .ref hS1, .ref hT, .ref hY, .ref hR, .ref hZ, .ref hX, .int (nI ft)])), (hAs, .inl (cS, 4, .inr (.inr (.inr (.inr sg))))), (hH, .inr (3, [.ref q1, .int (nI fl), .int (nI ln), .int (nI sz)])), (q1, .inl (cI, 60, .inl f))]) (fun _ => rfl) [(hO, .inr (10, [.ref hAs, .ref hS1, .ref hT, .ref hY, .ref hR, .ref hZ, .ref hX, .int (nI ft)])), (hAs, .inl (cS, 4, .inr (.inr (.inr (.inr sg)))))] [] (fun _ => rfl) rfl (fun _ => rfl) rfl (fun r_3 _u H locs hr_4 hP hD hS => ?_)
  have hP : va_P D vwCl [(hO, .inr (10, [.ref hAs, .ref hS1, .ref hT, .ref hY, .ref hR, .ref hZ, .ref hX, .int (nI ft)])), (hAs, .inl (cS, 4, .inr (.inr (.inr (.inr sg))))), (hH, .inr (3, [.ref q1, .int (nI fl), .int (nI ln), .int (nI sz)])), (q1, .inl (cI, 60, .inl f))] H := hP
  have hD : va_D A [(hO, .inr (10, [.ref hAs, .ref hS1, .ref hT, .ref hY, .ref hR, .ref hZ, .ref hX, .int (nI ft)])), (hAs, .inl (cS, 4, .inr (.inr (.inr (.inr sg))))), (hH, .inr (3, [.ref q1, .int (nI fl), .int (nI ln), .int (nI sz)])), (q1, .inl (cI, 60, .inl f))] := hD
  subst hr_4
  refine k_ifc_eq (tgt := 21) hx hb dX10_lose_16 (by decide) (fun c_5 => absurd c_5 (by omega)) (fun c_5 => ?_)
  refine lv_iconst (v := (nI 0)) hx hb dX10_lose_19 (by decide) ?_
  exact ret _ () _ _ _ _ dX10_lose_20 (rfl) hP hD hS
def rm_X10_lose_ok : Room := { frames := 1, cells := 0, slots := 0, locals := 21 }
set_option maxHeartbeats 4000000 in
set_option maxRecDepth 100000 in
theorem c_X10_lose_ok (l : Launch) (D : va_G) (cI cZ cS cP : ClassId) (hO : Nat) (hAs : Nat) (hY : Nat) (hR : Nat) (hZ : Nat) (hX : Nat) (ft : Nat) (hS1 : Nat) (hT : Nat) (sg : Nat → Option Nat) (hH : Nat) (q1 : Nat) (f : Nat → Int32) (fl : Nat) (ln : Nat) (sz : Nat) (k : Nat) (hk1 : k < 4) (hsg : sg k = some hH) (hfl : fl < 2) (hln : ln < 3) (hsz : sz ≤ 60) (h0 : fl ≠ 0) : kMi (S := Unit) l yX10_lose wsX10_lose rm_X10_lose_ok D (kT cI cZ cS cP) [.ref hO, .int (nI k)] [(hO, .inr (10, [.ref hAs, .ref hS1, .ref hT, .ref hY, .ref hR, .ref hZ, .ref hX, .int (nI ft)])), (hAs, .inl (cS, 4, .inr (.inr (.inr (.inr sg))))), (hH, .inr (3, [.ref q1, .int (nI fl), .int (nI ln), .int (nI sz)])), (q1, .inl (cI, 60, .inl f))] (fun r _ => r = (nI 1)) (fun _ => [(hO, .inr (10, [.ref hAs, .ref hS1, .ref hT, .ref hY, .ref hR, .ref hZ, .ref hX, .int (nI ft)])), (hAs, .inl (cS, 4, .inr (.inr (.inr (.inr sg))))), (hH, .inr (3, [.ref q1, .int (nI 0), .int (nI ln), .int (nI 0)])), (q1, .inl (cI, 60, .inl f))]) := by
  refine kMet_i (cc := cX10_lose) (maxL := 3) (ty := .int) (by decide) rfl (Nat.le_of_ble_eq_true rfl) (fun _ _ _ => rfl) ?_
  intro p e s m args below meth c A Q ls C hlocks hin hN hK hP hD hS hA hl ret
  obtain ⟨hx, hb, hml, hown, hts⟩ := C
  have hl : lv_has ls 3 [(0, .ref hO), (1, .int (nI k))] := hl
  refine lv_aload_n hx hb dX10_lose_0 rfl (lv_at hl 0 rfl) ?_
  refine lv_iload_n hx hb dX10_lose_1 rfl (lv_at hl 1 rfl) ?_
  refine k_goq (S := Unit) (va_runV (As := [.int (nI k)]) (rest := []) ⟨hx, hb, hml, hown, hts⟩ (c_X10_sheetAt l D cI cZ cS cP hO hAs hY hR hZ hX ft hS1 hT sg (nI k)  _) (cwV 1 hts gX10_lose_X10_sheetAt rfl rfl rfl (by decide +kernel) ⟨Nat.le_of_ble_eq_true rfl, Nat.le_of_ble_eq_true rfl⟩) (kPreV hN hK hP hD [0, 1] rfl rfl (q0 := 0) (ci := 10) (q := (RX10, TX10, 8)) rfl rfl) rfl rfl hl.1 rfl (lv_room (Nat.le_of_ble_eq_true rfl)) dX10_lose_2 ⟨Nat.le_of_ble_eq_true rfl, Nat.le_of_ble_eq_true rfl⟩) hP hD hS hA [0, 1] rfl [hO, hAs] rfl (fun _ => rfl) 4 [2, 3] rfl (fun _u => [(hO, .inr (10, [.ref hAs, .ref hS1, .ref hT, .ref hY, .ref hR, .ref hZ, .ref hX, .int (nI ft)])), (hAs, .inl (cS, 4, .inr (.inr (.inr (.inr sg))))), (hH, .inr (3, [.ref q1, .int (nI fl), .int (nI ln), .int (nI sz)])), (q1, .inl (cI, 60, .inl f))]) (fun _ => rfl) [(hH, .inr (3, [.ref q1, .int (nI fl), .int (nI ln), .int (nI sz)])), (q1, .inl (cI, 60, .inl f))] [] (fun _ => rfl) rfl (fun _ => rfl) rfl (fun r_1 _u H locs hr_2 hP hD hS => ?_)
  have hP : va_P D vwCl [(hO, .inr (10, [.ref hAs, .ref hS1, .ref hT, .ref hY, .ref hR, .ref hZ, .ref hX, .int (nI ft)])), (hAs, .inl (cS, 4, .inr (.inr (.inr (.inr sg))))), (hH, .inr (3, [.ref q1, .int (nI fl), .int (nI ln), .int (nI sz)])), (q1, .inl (cI, 60, .inl f))] H := hP
  have hD : va_D A [(hO, .inr (10, [.ref hAs, .ref hS1, .ref hT, .ref hY, .ref hR, .ref hZ, .ref hX, .int (nI ft)])), (hAs, .inl (cS, 4, .inr (.inr (.inr (.inr sg))))), (hH, .inr (3, [.ref q1, .int (nI fl), .int (nI ln), .int (nI sz)])), (q1, .inl (cI, 60, .inl f))] := hD
  subst hr_2
  refine k_eqr (show (if inR (nI k) 4 then sg (nI k).toNatClampNeg else none) = (some hH) from Eq.trans (sa_y (by omega)).symm hsg) ?_
  refine W.eq (g2 := F0 m 5 ls [.ref hH]) rfl ?_
  refine lv_astore_n (lv' := [(2, .ref hH), (0, .ref hO), (1, .int (nI k))]) hx hb dX10_lose_5 rfl hl (by decide) rfl (fun ls hl => ?_)
  refine lv_aload_n hx hb dX10_lose_6 rfl (lv_at hl 0 rfl) ?_
  refine lv_ifnonnull (tgt := 12) hx hb dX10_lose_7 (by decide) ?_
  refine lv_aload_n hx hb dX10_lose_12 rfl (lv_at hl 0 rfl) ?_
  refine k_goi (S := Unit) (va_runV (As := []) (rest := []) ⟨hx, hb, hml, hown, hts⟩ (c_X3_isNothing l D cI cZ cS cP hH q1 f fl ln sz (by first | assumption | omega) _) (cwV 0 hts gX10_lose_X3_isNothing rfl rfl rfl (by decide +kernel) ⟨Nat.le_of_ble_eq_true rfl, Nat.le_of_ble_eq_true rfl⟩) (kPreV hN hK hP hD [2, 3] rfl rfl (q0 := 0) (ci := 3) (q := (RX3, TX3, 4)) rfl rfl) rfl rfl hl.1 rfl (lv_room (Nat.le_of_ble_eq_true rfl)) dX10_lose_13 ⟨Nat.le_of_ble_eq_true rfl, Nat.le_of_ble_eq_true rfl⟩) hP hD hS hA [2, 3] rfl [hH, q1] rfl (fun _ => rfl) 4 [0, 1] rfl (fun _u => [(hO, .inr (10, [.ref hAs, .ref hS1, .ref hT, .ref hY, .ref hR, .ref hZ, .ref hX, .int (nI ft)])), (hAs, .inl (cS, 4, .inr (.inr (.inr (.inr sg))))), (hH, .inr (3, [.ref q1, .int (nI fl), .int (nI ln), .int (nI sz)])), (q1, .inl (cI, 60, .inl f))]) (fun _ => rfl) [(hO, .inr (10, [.ref hAs, .ref hS1, .ref hT, .ref hY, .ref hR, .ref hZ, .ref hX, .int (nI ft)])), (hAs, .inl (cS, 4, .inr (.inr (.inr (.inr sg)))))] [] (fun _ => rfl) rfl (fun _ => rfl) rfl (fun r_3 _u H locs hr_4 hP hD hS => ?_)
  have hP : va_P D vwCl [(hO, .inr (10, [.ref hAs, .ref hS1, .ref hT, .ref hY, .ref hR, .ref hZ, .ref hX, .int (nI ft)])), (hAs, .inl (cS, 4, .inr (.inr (.inr (.inr sg))))), (hH, .inr (3, [.ref q1, .int (nI fl), .int (nI ln), .int (nI sz)])), (q1, .inl (cI, 60, .inl f))] H := hP
  have hD : va_D A [(hO, .inr (10, [.ref hAs, .ref hS1, .ref hT, .ref hY, .ref hR, .ref hZ, .ref hX, .int (nI ft)])), (hAs, .inl (cS, 4, .inr (.inr (.inr (.inr sg))))), (hH, .inr (3, [.ref q1, .int (nI fl), .int (nI ln), .int (nI sz)])), (q1, .inl (cI, 60, .inl f))] := hD
  subst hr_4
  refine k_ifc_eq (tgt := 21) hx hb dX10_lose_16 (by decide) (fun c_5 => ?_) (fun c_5 => absurd c_5 (by omega))
  refine lv_aload_n hx hb dX10_lose_21 rfl (lv_at hl 0 rfl) ?_
  refine k_gov (S := Unit) (va_runV (As := []) (rest := []) ⟨hx, hb, hml, hown, hts⟩ (c_X3_drop l D cI cZ cS cP hH q1 f fl ln sz  _) (cwV 0 hts gX10_lose_X3_drop rfl rfl rfl (by decide +kernel) ⟨Nat.le_of_ble_eq_true rfl, Nat.le_of_ble_eq_true rfl⟩) (kPreV hN hK hP hD [2, 3] rfl rfl (q0 := 0) (ci := 3) (q := (RX3, TX3, 4)) rfl rfl) rfl rfl hl.1 rfl (lv_room (Nat.le_of_ble_eq_true rfl)) dX10_lose_22 ⟨Nat.le_of_ble_eq_true rfl, Nat.le_of_ble_eq_true rfl⟩) hP hD hS hA [2, 3] rfl [hH, q1] rfl (fun _ => rfl) 4 [0, 1] rfl (fun _u => [(hO, .inr (10, [.ref hAs, .ref hS1, .ref hT, .ref hY, .ref hR, .ref hZ, .ref hX, .int (nI ft)])), (hAs, .inl (cS, 4, .inr (.inr (.inr (.inr sg))))), (hH, .inr (3, [.ref q1, .int (nI 0), .int (nI ln), .int (nI 0)])), (q1, .inl (cI, 60, .inl f))]) (fun _ => rfl) [(hO, .inr (10, [.ref hAs, .ref hS1, .ref hT, .ref hY, .ref hR, .ref hZ, .ref hX, .int (nI ft)])), (hAs, .inl (cS, 4, .inr (.inr (.inr (.inr sg)))))] [] (fun _ => rfl) rfl (fun _ => rfl) rfl (fun _u H locs hr_7 hP hD hS => ?_)
  have hP : va_P D vwCl [(hO, .inr (10, [.ref hAs, .ref hS1, .ref hT, .ref hY, .ref hR, .ref hZ, .ref hX, .int (nI ft)])), (hAs, .inl (cS, 4, .inr (.inr (.inr (.inr sg))))), (hH, .inr (3, [.ref q1, .int (nI 0), .int (nI ln), .int (nI 0)])), (q1, .inl (cI, 60, .inl f))] H := hP
  have hD : va_D A [(hO, .inr (10, [.ref hAs, .ref hS1, .ref hT, .ref hY, .ref hR, .ref hZ, .ref hX, .int (nI ft)])), (hAs, .inl (cS, 4, .inr (.inr (.inr (.inr sg))))), (hH, .inr (3, [.ref q1, .int (nI 0), .int (nI ln), .int (nI 0)])), (q1, .inl (cI, 60, .inl f))] := hD
  refine lv_iconst (v := (nI 1)) hx hb dX10_lose_25 (by decide) ?_
  exact ret _ () _ _ _ _ dX10_lose_26 (rfl) hP hD hS
def rm_X10_put_bad : Room := { frames := 2, cells := 0, slots := 0, locals := 43 }
set_option maxHeartbeats 4000000 in
set_option maxRecDepth 100000 in
theorem c_X10_put_bad (l : Launch) (D : va_G) (cI cZ cS cP : ClassId) (hO : Nat) (hAs : Nat) (hY : Nat) (hR : Nat) (hZ : Nat) (hX : Nat) (ft : Nat) (hS1 : Nat) (hT : Nat) (sg : Nat → Option Nat) (x : Int32) (y : Int32) (v : Int32) (hx1 : ¬ inR x 4) : kMi (S := Unit) l yX10_put wsX10_put rm_X10_put_bad D (kT cI cZ cS cP) [.ref hO, .int x, .int y, .int v] [(hO, .inr (10, [.ref hAs, .ref hS1, .ref hT, .ref hY, .ref hR, .ref hZ, .ref hX, .int (nI ft)])), (hAs, .inl (cS, 4, .inr (.inr (.inr (.inr sg)))))] (fun r _ => r = (-1)) (fun _ => [(hO, .inr (10, [.ref hAs, .ref hS1, .ref hT, .ref hY, .ref hR, .ref hZ, .ref hX, .int (nI 0)])), (hAs, .inl (cS, 4, .inr (.inr (.inr (.inr sg)))))]) := by
  refine kMet_i (cc := cX10_put) (maxL := 5) (ty := .int) (by decide) rfl (Nat.le_of_ble_eq_true rfl) (fun _ _ _ => rfl) ?_
  intro p e s m args below meth c A Q ls C hlocks hin hN hK hP hD hS hA hl ret
  obtain ⟨hx, hb, hml, hown, hts⟩ := C
  have hl : lv_has ls 5 [(0, .ref hO), (1, .int x), (2, .int y), (3, .int v)] := hl
  have in_X10 : ∀ w ∈ wsX100, w ∈ wsX10_put := by decide +kernel
  have lk0 := hts (.fieldLink RX10 62 "SilkWord" "latestFault" "I") (by decide +kernel)
  refine lv_aload_n hx hb dX10_put_0 rfl (lv_at hl 0 rfl) ?_
  refine lv_iconst (v := (nI 0)) hx hb dX10_put_1 (by decide) ?_
  refine va_put (D := D) (ci := 10) (v := .int (nI 0)) (ty := .int) (C := RX10) (T := TX10) (N := 8) hx hb hts in_X10 tyX10 tyX10_ok nmX10 hown hK hP hD hS 0 rfl rfl 7 (by decide) lk0 (fun _ h9 => h9) rfl (by decide +kernel) rfl rfl (Nat.le_of_ble_eq_true rfl) dX10_put_2 (fun H locs hP hD hS => ?_)
  have hP : va_P D vwCl [(hO, .inr (10, [.ref hAs, .ref hS1, .ref hT, .ref hY, .ref hR, .ref hZ, .ref hX, .int (nI 0)])), (hAs, .inl (cS, 4, .inr (.inr (.inr (.inr sg)))))] H := hP
  have hD : va_D A [(hO, .inr (10, [.ref hAs, .ref hS1, .ref hT, .ref hY, .ref hR, .ref hZ, .ref hX, .int (nI 0)])), (hAs, .inl (cS, 4, .inr (.inr (.inr (.inr sg)))))] := hD
  refine lv_aload_n hx hb dX10_put_5 rfl (lv_at hl 0 rfl) ?_
  refine lv_iload_n hx hb dX10_put_6 rfl (lv_at hl 1 rfl) ?_
  refine k_goq (S := Unit) (va_runV (As := [.int x]) (rest := []) ⟨hx, hb, hml, hown, hts⟩ (c_X10_sheetAt l D cI cZ cS cP hO hAs hY hR hZ hX 0 hS1 hT sg x  _) (cwV 1 hts gX10_put_X10_sheetAt rfl rfl rfl (by decide +kernel) ⟨Nat.le_of_ble_eq_true rfl, Nat.le_of_ble_eq_true rfl⟩) (kPreV hN hK hP hD [0, 1] rfl rfl (q0 := 0) (ci := 10) (q := (RX10, TX10, 8)) rfl rfl) rfl rfl hl.1 rfl (lv_room (Nat.le_of_ble_eq_true rfl)) dX10_put_7 ⟨Nat.le_of_ble_eq_true rfl, Nat.le_of_ble_eq_true rfl⟩) hP hD hS hA [0, 1] rfl [hO, hAs] rfl (fun _ => rfl) 2 [] rfl (fun _u => [(hO, .inr (10, [.ref hAs, .ref hS1, .ref hT, .ref hY, .ref hR, .ref hZ, .ref hX, .int (nI 0)])), (hAs, .inl (cS, 4, .inr (.inr (.inr (.inr sg)))))]) (fun _ => rfl) [] [] (fun _ => rfl) rfl (fun _ => rfl) rfl (fun r_1 _u H locs hr_2 hP hD hS => ?_)
  have hP : va_P D vwCl [(hO, .inr (10, [.ref hAs, .ref hS1, .ref hT, .ref hY, .ref hR, .ref hZ, .ref hX, .int (nI 0)])), (hAs, .inl (cS, 4, .inr (.inr (.inr (.inr sg)))))] H := hP
  have hD : va_D A [(hO, .inr (10, [.ref hAs, .ref hS1, .ref hT, .ref hY, .ref hR, .ref hZ, .ref hX, .int (nI 0)])), (hAs, .inl (cS, 4, .inr (.inr (.inr (.inr sg)))))] := hD
  subst hr_2
  refine k_eqr (show (if inR x 4 then sg x.toNatClampNeg else none) = none from if_neg hx1) ?_
  refine W.eq (g2 := F0 m 10 ls [.null]) rfl ?_
  refine lv_astoreN (lv' := [(4, .null), (0, .ref hO), (1, .int x), (2, .int y), (3, .int v)]) hx hb dX10_put_10 hl (by decide) rfl (fun ls hl => ?_)
  refine lv_aloadN hx hb dX10_put_12 (lv_at hl 0 rfl) ?_
  refine lv_ifnonnullN hx hb dX10_put_14 ?_
  refine lv_iconst (v := (-1)) hx hb dX10_put_17 (by decide) ?_
  exact ret _ () _ _ _ _ dX10_put_18 (rfl) hP hD hS
def rm_X10_put_null : Room := { frames := 2, cells := 0, slots := 0, locals := 43 }
set_option maxHeartbeats 4000000 in
set_option maxRecDepth 100000 in
theorem c_X10_put_null (l : Launch) (D : va_G) (cI cZ cS cP : ClassId) (hO : Nat) (hAs : Nat) (hY : Nat) (hR : Nat) (hZ : Nat) (hX : Nat) (ft : Nat) (hS1 : Nat) (hT : Nat) (sg : Nat → Option Nat) (hH : Nat) (q1 : Nat) (f : Nat → Int32) (fl : Nat) (ln : Nat) (sz : Nat) (k : Nat) (y : Int32) (v : Int32) (hk1 : k < 4) (hsg : sg k = some hH) (hfl : fl < 2) (hln : ln < 3) (hsz : sz ≤ 60) (h0 : fl = 0) : kMi (S := Unit) l yX10_put wsX10_put rm_X10_put_null D (kT cI cZ cS cP) [.ref hO, .int (nI k), .int y, .int v] [(hO, .inr (10, [.ref hAs, .ref hS1, .ref hT, .ref hY, .ref hR, .ref hZ, .ref hX, .int (nI ft)])), (hAs, .inl (cS, 4, .inr (.inr (.inr (.inr sg))))), (hH, .inr (3, [.ref q1, .int (nI fl), .int (nI ln), .int (nI sz)])), (q1, .inl (cI, 60, .inl f))] (fun r _ => r = ((-10) - (nI 1))) (fun _ => [(hO, .inr (10, [.ref hAs, .ref hS1, .ref hT, .ref hY, .ref hR, .ref hZ, .ref hX, .int (nI 1)])), (hAs, .inl (cS, 4, .inr (.inr (.inr (.inr sg))))), (hH, .inr (3, [.ref q1, .int (nI fl), .int (nI ln), .int (nI sz)])), (q1, .inl (cI, 60, .inl f))]) := by
  refine kMet_i (cc := cX10_put) (maxL := 5) (ty := .int) (by decide) rfl (Nat.le_of_ble_eq_true rfl) (fun _ _ _ => rfl) ?_
  intro p e s m args below meth c A Q ls C hlocks hin hN hK hP hD hS hA hl ret
  obtain ⟨hx, hb, hml, hown, hts⟩ := C
  have hl : lv_has ls 5 [(0, .ref hO), (1, .int (nI k)), (2, .int y), (3, .int v)] := hl
  have in_X10 : ∀ w ∈ wsX100, w ∈ wsX10_put := by decide +kernel
  have lk0 := hts (.fieldLink RX10 62 "SilkWord" "latestFault" "I") (by decide +kernel)
  refine lv_aload_n hx hb dX10_put_0 rfl (lv_at hl 0 rfl) ?_
  refine lv_iconst (v := (nI 0)) hx hb dX10_put_1 (by decide) ?_
  refine va_put (D := D) (ci := 10) (v := .int (nI 0)) (ty := .int) (C := RX10) (T := TX10) (N := 8) hx hb hts in_X10 tyX10 tyX10_ok nmX10 hown hK hP hD hS 0 rfl rfl 7 (by decide) lk0 (fun _ h9 => h9) rfl (by decide +kernel) rfl rfl (Nat.le_of_ble_eq_true rfl) dX10_put_2 (fun H locs hP hD hS => ?_)
  have hP : va_P D vwCl [(hO, .inr (10, [.ref hAs, .ref hS1, .ref hT, .ref hY, .ref hR, .ref hZ, .ref hX, .int (nI 0)])), (hAs, .inl (cS, 4, .inr (.inr (.inr (.inr sg))))), (hH, .inr (3, [.ref q1, .int (nI fl), .int (nI ln), .int (nI sz)])), (q1, .inl (cI, 60, .inl f))] H := hP
  have hD : va_D A [(hO, .inr (10, [.ref hAs, .ref hS1, .ref hT, .ref hY, .ref hR, .ref hZ, .ref hX, .int (nI 0)])), (hAs, .inl (cS, 4, .inr (.inr (.inr (.inr sg))))), (hH, .inr (3, [.ref q1, .int (nI fl), .int (nI ln), .int (nI sz)])), (q1, .inl (cI, 60, .inl f))] := hD
  refine lv_aload_n hx hb dX10_put_5 rfl (lv_at hl 0 rfl) ?_
  refine lv_iload_n hx hb dX10_put_6 rfl (lv_at hl 1 rfl) ?_
  refine k_goq (S := Unit) (va_runV (As := [.int (nI k)]) (rest := []) ⟨hx, hb, hml, hown, hts⟩ (c_X10_sheetAt l D cI cZ cS cP hO hAs hY hR hZ hX 0 hS1 hT sg (nI k)  _) (cwV 1 hts gX10_put_X10_sheetAt rfl rfl rfl (by decide +kernel) ⟨Nat.le_of_ble_eq_true rfl, Nat.le_of_ble_eq_true rfl⟩) (kPreV hN hK hP hD [0, 1] rfl rfl (q0 := 0) (ci := 10) (q := (RX10, TX10, 8)) rfl rfl) rfl rfl hl.1 rfl (lv_room (Nat.le_of_ble_eq_true rfl)) dX10_put_7 ⟨Nat.le_of_ble_eq_true rfl, Nat.le_of_ble_eq_true rfl⟩) hP hD hS hA [0, 1] rfl [hO, hAs] rfl (fun _ => rfl) 4 [2, 3] rfl (fun _u => [(hO, .inr (10, [.ref hAs, .ref hS1, .ref hT, .ref hY, .ref hR, .ref hZ, .ref hX, .int (nI 0)])), (hAs, .inl (cS, 4, .inr (.inr (.inr (.inr sg))))), (hH, .inr (3, [.ref q1, .int (nI fl), .int (nI ln), .int (nI sz)])), (q1, .inl (cI, 60, .inl f))]) (fun _ => rfl) [(hH, .inr (3, [.ref q1, .int (nI fl), .int (nI ln), .int (nI sz)])), (q1, .inl (cI, 60, .inl f))] [] (fun _ => rfl) rfl (fun _ => rfl) rfl (fun r_1 _u H locs hr_2 hP hD hS => ?_)
  have hP : va_P D vwCl [(hO, .inr (10, [.ref hAs, .ref hS1, .ref hT, .ref hY, .ref hR, .ref hZ, .ref hX, .int (nI 0)])), (hAs, .inl (cS, 4, .inr (.inr (.inr (.inr sg))))), (hH, .inr (3, [.ref q1, .int (nI fl), .int (nI ln), .int (nI sz)])), (q1, .inl (cI, 60, .inl f))] H := hP
  have hD : va_D A [(hO, .inr (10, [.ref hAs, .ref hS1, .ref hT, .ref hY, .ref hR, .ref hZ, .ref hX, .int (nI 0)])), (hAs, .inl (cS, 4, .inr (.inr (.inr (.inr sg))))), (hH, .inr (3, [.ref q1, .int (nI fl), .int (nI ln), .int (nI sz)])), (q1, .inl (cI, 60, .inl f))] := hD
  subst hr_2
  refine k_eqr (show (if inR (nI k) 4 then sg (nI k).toNatClampNeg else none) = (some hH) from Eq.trans (sa_y (by omega)).symm hsg) ?_
  refine W.eq (g2 := F0 m 10 ls [.ref hH]) rfl ?_
  refine lv_astore (lv' := [(4, .ref hH), (0, .ref hO), (1, .int (nI k)), (2, .int y), (3, .int v)]) hx hb dX10_put_10 hl (by decide) rfl (fun ls hl => ?_)
  refine lv_aload hx hb dX10_put_12 (lv_at hl 0 rfl) ?_
  refine lv_ifnonnull (tgt := 19) hx hb dX10_put_14 (by decide) ?_
  refine lv_aload hx hb dX10_put_19 (lv_at hl 0 rfl) ?_
  refine k_goi (S := Unit) (va_runV (As := []) (rest := []) ⟨hx, hb, hml, hown, hts⟩ (c_X3_isNothing l D cI cZ cS cP hH q1 f fl ln sz (by first | assumption | omega) _) (cwV 0 hts gX10_put_X3_isNothing rfl rfl rfl (by decide +kernel) ⟨Nat.le_of_ble_eq_true rfl, Nat.le_of_ble_eq_true rfl⟩) (kPreV hN hK hP hD [2, 3] rfl rfl (q0 := 0) (ci := 3) (q := (RX3, TX3, 4)) rfl rfl) rfl rfl hl.1 rfl (lv_room (Nat.le_of_ble_eq_true rfl)) dX10_put_21 ⟨Nat.le_of_ble_eq_true rfl, Nat.le_of_ble_eq_true rfl⟩) hP hD hS hA [2, 3] rfl [hH, q1] rfl (fun _ => rfl) 4 [0, 1] rfl (fun _u => [(hO, .inr (10, [.ref hAs, .ref hS1, .ref hT, .ref hY, .ref hR, .ref hZ, .ref hX, .int (nI 0)])), (hAs, .inl (cS, 4, .inr (.inr (.inr (.inr sg))))), (hH, .inr (3, [.ref q1, .int (nI fl), .int (nI ln), .int (nI sz)])), (q1, .inl (cI, 60, .inl f))]) (fun _ => rfl) [(hO, .inr (10, [.ref hAs, .ref hS1, .ref hT, .ref hY, .ref hR, .ref hZ, .ref hX, .int (nI 0)])), (hAs, .inl (cS, 4, .inr (.inr (.inr (.inr sg)))))] [] (fun _ => rfl) rfl (fun _ => rfl) rfl (fun r_3 _u H locs hr_4 hP hD hS => ?_)
  have hP : va_P D vwCl [(hO, .inr (10, [.ref hAs, .ref hS1, .ref hT, .ref hY, .ref hR, .ref hZ, .ref hX, .int (nI 0)])), (hAs, .inl (cS, 4, .inr (.inr (.inr (.inr sg))))), (hH, .inr (3, [.ref q1, .int (nI fl), .int (nI ln), .int (nI sz)])), (q1, .inl (cI, 60, .inl f))] H := hP
  have hD : va_D A [(hO, .inr (10, [.ref hAs, .ref hS1, .ref hT, .ref hY, .ref hR, .ref hZ, .ref hX, .int (nI 0)])), (hAs, .inl (cS, 4, .inr (.inr (.inr (.inr sg))))), (hH, .inr (3, [.ref q1, .int (nI fl), .int (nI ln), .int (nI sz)])), (q1, .inl (cI, 60, .inl f))] := hD
  subst hr_4
  refine k_ifc_eq (tgt := 33) hx hb dX10_put_24 (by decide) (fun c_5 => absurd c_5 (by omega)) (fun c_5 => ?_)
  refine lv_aload_n hx hb dX10_put_27 rfl (lv_at hl 1 rfl) ?_
  refine lv_iconst (v := (nI 1)) hx hb dX10_put_28 (by decide) ?_
  refine k_goi (S := Unit) (va_runV (As := [.int (nI 1)]) (rest := []) ⟨hx, hb, hml, hown, hts⟩ (c_X10_faulted l D cI cZ cS cP hO hAs hY hR hZ hX 0 hS1 hT 1  _) (cwV 1 hts gX10_put_X10_faulted rfl rfl rfl (by decide +kernel) ⟨Nat.le_of_ble_eq_true rfl, Nat.le_of_ble_eq_true rfl⟩) (kPreV hN hK hP hD [0] rfl rfl (q0 := 0) (ci := 10) (q := (RX10, TX10, 8)) rfl rfl) rfl rfl hl.1 rfl (lv_room (Nat.le_of_ble_eq_true rfl)) dX10_put_29 ⟨Nat.le_of_ble_eq_true rfl, Nat.le_of_ble_eq_true rfl⟩) hP hD hS hA [0] rfl [hO] rfl (fun _ => rfl) 4 [1, 2, 3] rfl (fun _u => [(hO, .inr (10, [.ref hAs, .ref hS1, .ref hT, .ref hY, .ref hR, .ref hZ, .ref hX, .int (nI 1)])), (hAs, .inl (cS, 4, .inr (.inr (.inr (.inr sg))))), (hH, .inr (3, [.ref q1, .int (nI fl), .int (nI ln), .int (nI sz)])), (q1, .inl (cI, 60, .inl f))]) (fun _ => rfl) [(hAs, .inl (cS, 4, .inr (.inr (.inr (.inr sg))))), (hH, .inr (3, [.ref q1, .int (nI fl), .int (nI ln), .int (nI sz)])), (q1, .inl (cI, 60, .inl f))] [] (fun _ => rfl) rfl (fun _ => rfl) rfl (fun r_6 _u H locs hr_7 hP hD hS => ?_)
  have hP : va_P D vwCl [(hO, .inr (10, [.ref hAs, .ref hS1, .ref hT, .ref hY, .ref hR, .ref hZ, .ref hX, .int (nI 1)])), (hAs, .inl (cS, 4, .inr (.inr (.inr (.inr sg))))), (hH, .inr (3, [.ref q1, .int (nI fl), .int (nI ln), .int (nI sz)])), (q1, .inl (cI, 60, .inl f))] H := hP
  have hD : va_D A [(hO, .inr (10, [.ref hAs, .ref hS1, .ref hT, .ref hY, .ref hR, .ref hZ, .ref hX, .int (nI 1)])), (hAs, .inl (cS, 4, .inr (.inr (.inr (.inr sg))))), (hH, .inr (3, [.ref q1, .int (nI fl), .int (nI ln), .int (nI sz)])), (q1, .inl (cI, 60, .inl f))] := hD
  subst hr_7
  exact ret _ () _ _ _ _ dX10_put_32 (rfl) hP hD hS
def rm_X10_put_idx : Room := { frames := 2, cells := 0, slots := 0, locals := 43 }
set_option maxHeartbeats 4000000 in
set_option maxRecDepth 100000 in
theorem c_X10_put_idx (l : Launch) (D : va_G) (cI cZ cS cP : ClassId) (hO : Nat) (hAs : Nat) (hY : Nat) (hR : Nat) (hZ : Nat) (hX : Nat) (ft : Nat) (hS1 : Nat) (hT : Nat) (sg : Nat → Option Nat) (hH : Nat) (q1 : Nat) (f : Nat → Int32) (fl : Nat) (ln : Nat) (sz : Nat) (k : Nat) (y : Int32) (v : Int32) (hk1 : k < 4) (hsg : sg k = some hH) (hfl : fl < 2) (hln : ln < 3) (hsz : sz ≤ 60) (h0 : fl ≠ 0) (hy1 : ¬ inR y sz) : kMi (S := Unit) l yX10_put wsX10_put rm_X10_put_idx D (kT cI cZ cS cP) [.ref hO, .int (nI k), .int y, .int v] [(hO, .inr (10, [.ref hAs, .ref hS1, .ref hT, .ref hY, .ref hR, .ref hZ, .ref hX, .int (nI ft)])), (hAs, .inl (cS, 4, .inr (.inr (.inr (.inr sg))))), (hH, .inr (3, [.ref q1, .int (nI fl), .int (nI ln), .int (nI sz)])), (q1, .inl (cI, 60, .inl f))] (fun r _ => r = ((-10) - (nI 3))) (fun _ => [(hO, .inr (10, [.ref hAs, .ref hS1, .ref hT, .ref hY, .ref hR, .ref hZ, .ref hX, .int (nI 3)])), (hAs, .inl (cS, 4, .inr (.inr (.inr (.inr sg))))), (hH, .inr (3, [.ref q1, .int (nI fl), .int (nI ln), .int (nI sz)])), (q1, .inl (cI, 60, .inl f))]) := by
  refine kMet_i (cc := cX10_put) (maxL := 5) (ty := .int) (by decide) rfl (Nat.le_of_ble_eq_true rfl) (fun _ _ _ => rfl) ?_
  intro p e s m args below meth c A Q ls C hlocks hin hN hK hP hD hS hA hl ret
  obtain ⟨hx, hb, hml, hown, hts⟩ := C
  have hl : lv_has ls 5 [(0, .ref hO), (1, .int (nI k)), (2, .int y), (3, .int v)] := hl
  have in_X10 : ∀ w ∈ wsX100, w ∈ wsX10_put := by decide +kernel
  have lk0 := hts (.fieldLink RX10 62 "SilkWord" "latestFault" "I") (by decide +kernel)
  refine lv_aload_n hx hb dX10_put_0 rfl (lv_at hl 0 rfl) ?_
  refine lv_iconst (v := (nI 0)) hx hb dX10_put_1 (by decide) ?_
  refine va_put (D := D) (ci := 10) (v := .int (nI 0)) (ty := .int) (C := RX10) (T := TX10) (N := 8) hx hb hts in_X10 tyX10 tyX10_ok nmX10 hown hK hP hD hS 0 rfl rfl 7 (by decide) lk0 (fun _ h9 => h9) rfl (by decide +kernel) rfl rfl (Nat.le_of_ble_eq_true rfl) dX10_put_2 (fun H locs hP hD hS => ?_)
  have hP : va_P D vwCl [(hO, .inr (10, [.ref hAs, .ref hS1, .ref hT, .ref hY, .ref hR, .ref hZ, .ref hX, .int (nI 0)])), (hAs, .inl (cS, 4, .inr (.inr (.inr (.inr sg))))), (hH, .inr (3, [.ref q1, .int (nI fl), .int (nI ln), .int (nI sz)])), (q1, .inl (cI, 60, .inl f))] H := hP
  have hD : va_D A [(hO, .inr (10, [.ref hAs, .ref hS1, .ref hT, .ref hY, .ref hR, .ref hZ, .ref hX, .int (nI 0)])), (hAs, .inl (cS, 4, .inr (.inr (.inr (.inr sg))))), (hH, .inr (3, [.ref q1, .int (nI fl), .int (nI ln), .int (nI sz)])), (q1, .inl (cI, 60, .inl f))] := hD
  refine lv_aload_n hx hb dX10_put_5 rfl (lv_at hl 0 rfl) ?_
  refine lv_iload_n hx hb dX10_put_6 rfl (lv_at hl 1 rfl) ?_
  refine k_goq (S := Unit) (va_runV (As := [.int (nI k)]) (rest := []) ⟨hx, hb, hml, hown, hts⟩ (c_X10_sheetAt l D cI cZ cS cP hO hAs hY hR hZ hX 0 hS1 hT sg (nI k)  _) (cwV 1 hts gX10_put_X10_sheetAt rfl rfl rfl (by decide +kernel) ⟨Nat.le_of_ble_eq_true rfl, Nat.le_of_ble_eq_true rfl⟩) (kPreV hN hK hP hD [0, 1] rfl rfl (q0 := 0) (ci := 10) (q := (RX10, TX10, 8)) rfl rfl) rfl rfl hl.1 rfl (lv_room (Nat.le_of_ble_eq_true rfl)) dX10_put_7 ⟨Nat.le_of_ble_eq_true rfl, Nat.le_of_ble_eq_true rfl⟩) hP hD hS hA [0, 1] rfl [hO, hAs] rfl (fun _ => rfl) 4 [2, 3] rfl (fun _u => [(hO, .inr (10, [.ref hAs, .ref hS1, .ref hT, .ref hY, .ref hR, .ref hZ, .ref hX, .int (nI 0)])), (hAs, .inl (cS, 4, .inr (.inr (.inr (.inr sg))))), (hH, .inr (3, [.ref q1, .int (nI fl), .int (nI ln), .int (nI sz)])), (q1, .inl (cI, 60, .inl f))]) (fun _ => rfl) [(hH, .inr (3, [.ref q1, .int (nI fl), .int (nI ln), .int (nI sz)])), (q1, .inl (cI, 60, .inl f))] [] (fun _ => rfl) rfl (fun _ => rfl) rfl (fun r_1 _u H locs hr_2 hP hD hS => ?_)
  have hP : va_P D vwCl [(hO, .inr (10, [.ref hAs, .ref hS1, .ref hT, .ref hY, .ref hR, .ref hZ, .ref hX, .int (nI 0)])), (hAs, .inl (cS, 4, .inr (.inr (.inr (.inr sg))))), (hH, .inr (3, [.ref q1, .int (nI fl), .int (nI ln), .int (nI sz)])), (q1, .inl (cI, 60, .inl f))] H := hP
  have hD : va_D A [(hO, .inr (10, [.ref hAs, .ref hS1, .ref hT, .ref hY, .ref hR, .ref hZ, .ref hX, .int (nI 0)])), (hAs, .inl (cS, 4, .inr (.inr (.inr (.inr sg))))), (hH, .inr (3, [.ref q1, .int (nI fl), .int (nI ln), .int (nI sz)])), (q1, .inl (cI, 60, .inl f))] := hD
  subst hr_2
  refine k_eqr (show (if inR (nI k) 4 then sg (nI k).toNatClampNeg else none) = (some hH) from Eq.trans (sa_y (by omega)).symm hsg) ?_
  refine W.eq (g2 := F0 m 10 ls [.ref hH]) rfl ?_
  refine lv_astore (lv' := [(4, .ref hH), (0, .ref hO), (1, .int (nI k)), (2, .int y), (3, .int v)]) hx hb dX10_put_10 hl (by decide) rfl (fun ls hl => ?_)
  refine lv_aload hx hb dX10_put_12 (lv_at hl 0 rfl) ?_
  refine lv_ifnonnull (tgt := 19) hx hb dX10_put_14 (by decide) ?_
  refine lv_aload hx hb dX10_put_19 (lv_at hl 0 rfl) ?_
  refine k_goi (S := Unit) (va_runV (As := []) (rest := []) ⟨hx, hb, hml, hown, hts⟩ (c_X3_isNothing l D cI cZ cS cP hH q1 f fl ln sz (by first | assumption | omega) _) (cwV 0 hts gX10_put_X3_isNothing rfl rfl rfl (by decide +kernel) ⟨Nat.le_of_ble_eq_true rfl, Nat.le_of_ble_eq_true rfl⟩) (kPreV hN hK hP hD [2, 3] rfl rfl (q0 := 0) (ci := 3) (q := (RX3, TX3, 4)) rfl rfl) rfl rfl hl.1 rfl (lv_room (Nat.le_of_ble_eq_true rfl)) dX10_put_21 ⟨Nat.le_of_ble_eq_true rfl, Nat.le_of_ble_eq_true rfl⟩) hP hD hS hA [2, 3] rfl [hH, q1] rfl (fun _ => rfl) 4 [0, 1] rfl (fun _u => [(hO, .inr (10, [.ref hAs, .ref hS1, .ref hT, .ref hY, .ref hR, .ref hZ, .ref hX, .int (nI 0)])), (hAs, .inl (cS, 4, .inr (.inr (.inr (.inr sg))))), (hH, .inr (3, [.ref q1, .int (nI fl), .int (nI ln), .int (nI sz)])), (q1, .inl (cI, 60, .inl f))]) (fun _ => rfl) [(hO, .inr (10, [.ref hAs, .ref hS1, .ref hT, .ref hY, .ref hR, .ref hZ, .ref hX, .int (nI 0)])), (hAs, .inl (cS, 4, .inr (.inr (.inr (.inr sg)))))] [] (fun _ => rfl) rfl (fun _ => rfl) rfl (fun r_3 _u H locs hr_4 hP hD hS => ?_)
  have hP : va_P D vwCl [(hO, .inr (10, [.ref hAs, .ref hS1, .ref hT, .ref hY, .ref hR, .ref hZ, .ref hX, .int (nI 0)])), (hAs, .inl (cS, 4, .inr (.inr (.inr (.inr sg))))), (hH, .inr (3, [.ref q1, .int (nI fl), .int (nI ln), .int (nI sz)])), (q1, .inl (cI, 60, .inl f))] H := hP
  have hD : va_D A [(hO, .inr (10, [.ref hAs, .ref hS1, .ref hT, .ref hY, .ref hR, .ref hZ, .ref hX, .int (nI 0)])), (hAs, .inl (cS, 4, .inr (.inr (.inr (.inr sg))))), (hH, .inr (3, [.ref q1, .int (nI fl), .int (nI ln), .int (nI sz)])), (q1, .inl (cI, 60, .inl f))] := hD
  subst hr_4
  refine k_ifc_eq (tgt := 33) hx hb dX10_put_24 (by decide) (fun c_5 => ?_) (fun c_5 => absurd c_5 (by omega))
  refine lv_aload hx hb dX10_put_33 (lv_at hl 0 rfl) ?_
  refine lv_iload_n hx hb dX10_put_35 rfl (lv_at hl 3 rfl) ?_
  refine k_goi (S := Unit) (va_runV (As := [.int y]) (rest := []) ⟨hx, hb, hml, hown, hts⟩ (c_X3_hasCell l D cI cZ cS cP hH q1 f fl ln sz y (by first | assumption | omega) _) (cwV 1 hts gX10_put_X3_hasCell rfl rfl rfl (by decide +kernel) ⟨Nat.le_of_ble_eq_true rfl, Nat.le_of_ble_eq_true rfl⟩) (kPreV hN hK hP hD [2, 3] rfl rfl (q0 := 0) (ci := 3) (q := (RX3, TX3, 4)) rfl rfl) rfl rfl hl.1 rfl (lv_room (Nat.le_of_ble_eq_true rfl)) dX10_put_36 ⟨Nat.le_of_ble_eq_true rfl, Nat.le_of_ble_eq_true rfl⟩) hP hD hS hA [2, 3] rfl [hH, q1] rfl (fun _ => rfl) 4 [0, 1] rfl (fun _u => [(hO, .inr (10, [.ref hAs, .ref hS1, .ref hT, .ref hY, .ref hR, .ref hZ, .ref hX, .int (nI 0)])), (hAs, .inl (cS, 4, .inr (.inr (.inr (.inr sg))))), (hH, .inr (3, [.ref q1, .int (nI fl), .int (nI ln), .int (nI sz)])), (q1, .inl (cI, 60, .inl f))]) (fun _ => rfl) [(hO, .inr (10, [.ref hAs, .ref hS1, .ref hT, .ref hY, .ref hR, .ref hZ, .ref hX, .int (nI 0)])), (hAs, .inl (cS, 4, .inr (.inr (.inr (.inr sg)))))] [] (fun _ => rfl) rfl (fun _ => rfl) rfl (fun r_6 _u H locs hr_7 hP hD hS => ?_)
  have hP : va_P D vwCl [(hO, .inr (10, [.ref hAs, .ref hS1, .ref hT, .ref hY, .ref hR, .ref hZ, .ref hX, .int (nI 0)])), (hAs, .inl (cS, 4, .inr (.inr (.inr (.inr sg))))), (hH, .inr (3, [.ref q1, .int (nI fl), .int (nI ln), .int (nI sz)])), (q1, .inl (cI, 60, .inl f))] H := hP
  have hD : va_D A [(hO, .inr (10, [.ref hAs, .ref hS1, .ref hT, .ref hY, .ref hR, .ref hZ, .ref hX, .int (nI 0)])), (hAs, .inl (cS, 4, .inr (.inr (.inr (.inr sg))))), (hH, .inr (3, [.ref q1, .int (nI fl), .int (nI ln), .int (nI sz)])), (q1, .inl (cI, 60, .inl f))] := hD
  subst hr_7
  refine k_ifc_ne (tgt := 48) hx hb dX10_put_39 (by decide) (fun c_8 => absurd c_8 hy1) (fun c_8 => ?_)
  refine lv_aload_n hx hb dX10_put_42 rfl (lv_at hl 1 rfl) ?_
  refine lv_iconst (v := (nI 3)) hx hb dX10_put_43 (by decide) ?_
  refine k_goi (S := Unit) (va_runV (As := [.int (nI 3)]) (rest := []) ⟨hx, hb, hml, hown, hts⟩ (c_X10_faulted l D cI cZ cS cP hO hAs hY hR hZ hX 0 hS1 hT 3  _) (cwV 1 hts gX10_put_X10_faulted rfl rfl rfl (by decide +kernel) ⟨Nat.le_of_ble_eq_true rfl, Nat.le_of_ble_eq_true rfl⟩) (kPreV hN hK hP hD [0] rfl rfl (q0 := 0) (ci := 10) (q := (RX10, TX10, 8)) rfl rfl) rfl rfl hl.1 rfl (lv_room (Nat.le_of_ble_eq_true rfl)) dX10_put_44 ⟨Nat.le_of_ble_eq_true rfl, Nat.le_of_ble_eq_true rfl⟩) hP hD hS hA [0] rfl [hO] rfl (fun _ => rfl) 4 [1, 2, 3] rfl (fun _u => [(hO, .inr (10, [.ref hAs, .ref hS1, .ref hT, .ref hY, .ref hR, .ref hZ, .ref hX, .int (nI 3)])), (hAs, .inl (cS, 4, .inr (.inr (.inr (.inr sg))))), (hH, .inr (3, [.ref q1, .int (nI fl), .int (nI ln), .int (nI sz)])), (q1, .inl (cI, 60, .inl f))]) (fun _ => rfl) [(hAs, .inl (cS, 4, .inr (.inr (.inr (.inr sg))))), (hH, .inr (3, [.ref q1, .int (nI fl), .int (nI ln), .int (nI sz)])), (q1, .inl (cI, 60, .inl f))] [] (fun _ => rfl) rfl (fun _ => rfl) rfl (fun r_9 _u H locs hr_10 hP hD hS => ?_)
  have hP : va_P D vwCl [(hO, .inr (10, [.ref hAs, .ref hS1, .ref hT, .ref hY, .ref hR, .ref hZ, .ref hX, .int (nI 3)])), (hAs, .inl (cS, 4, .inr (.inr (.inr (.inr sg))))), (hH, .inr (3, [.ref q1, .int (nI fl), .int (nI ln), .int (nI sz)])), (q1, .inl (cI, 60, .inl f))] H := hP
  have hD : va_D A [(hO, .inr (10, [.ref hAs, .ref hS1, .ref hT, .ref hY, .ref hR, .ref hZ, .ref hX, .int (nI 3)])), (hAs, .inl (cS, 4, .inr (.inr (.inr (.inr sg))))), (hH, .inr (3, [.ref q1, .int (nI fl), .int (nI ln), .int (nI sz)])), (q1, .inl (cI, 60, .inl f))] := hD
  subst hr_10
  exact ret _ () _ _ _ _ dX10_put_47 (rfl) hP hD hS
def rm_X10_put_ok : Room := { frames := 2, cells := 0, slots := 0, locals := 43 }
set_option maxHeartbeats 4000000 in
set_option maxRecDepth 100000 in
theorem c_X10_put_ok (l : Launch) (D : va_G) (cI cZ cS cP : ClassId) (hO : Nat) (hAs : Nat) (hY : Nat) (hR : Nat) (hZ : Nat) (hX : Nat) (ft : Nat) (hS1 : Nat) (hT : Nat) (sg : Nat → Option Nat) (hH : Nat) (q1 : Nat) (f : Nat → Int32) (fl : Nat) (ln : Nat) (sz : Nat) (k : Nat) (y : Nat) (v : Int32) (hk1 : k < 4) (hsg : sg k = some hH) (hfl : fl < 2) (hln : ln < 3) (hsz : sz ≤ 60) (h0 : fl ≠ 0) (hy1 : y < sz) : kMi (S := Unit) l yX10_put wsX10_put rm_X10_put_ok D (kT cI cZ cS cP) [.ref hO, .int (nI k), .int (nI y), .int v] [(hO, .inr (10, [.ref hAs, .ref hS1, .ref hT, .ref hY, .ref hR, .ref hZ, .ref hX, .int (nI ft)])), (hAs, .inl (cS, 4, .inr (.inr (.inr (.inr sg))))), (hH, .inr (3, [.ref q1, .int (nI fl), .int (nI ln), .int (nI sz)])), (q1, .inl (cI, 60, .inl f))] (fun r _ => r = (nI 1)) (fun _ => [(hO, .inr (10, [.ref hAs, .ref hS1, .ref hT, .ref hY, .ref hR, .ref hZ, .ref hX, .int (nI 0)])), (hAs, .inl (cS, 4, .inr (.inr (.inr (.inr sg))))), (hH, .inr (3, [.ref q1, .int (nI fl), .int (nI ln), .int (nI sz)])), (q1, .inl (cI, 60, .inl (upd f y (cutv ln v))))]) := by
  refine kMet_i (cc := cX10_put) (maxL := 5) (ty := .int) (by decide) rfl (Nat.le_of_ble_eq_true rfl) (fun _ _ _ => rfl) ?_
  intro p e s m args below meth c A Q ls C hlocks hin hN hK hP hD hS hA hl ret
  obtain ⟨hx, hb, hml, hown, hts⟩ := C
  have hl : lv_has ls 5 [(0, .ref hO), (1, .int (nI k)), (2, .int (nI y)), (3, .int v)] := hl
  have in_X10 : ∀ w ∈ wsX100, w ∈ wsX10_put := by decide +kernel
  have lk0 := hts (.fieldLink RX10 62 "SilkWord" "latestFault" "I") (by decide +kernel)
  refine lv_aload_n hx hb dX10_put_0 rfl (lv_at hl 0 rfl) ?_
  refine lv_iconst (v := (nI 0)) hx hb dX10_put_1 (by decide) ?_
  refine va_put (D := D) (ci := 10) (v := .int (nI 0)) (ty := .int) (C := RX10) (T := TX10) (N := 8) hx hb hts in_X10 tyX10 tyX10_ok nmX10 hown hK hP hD hS 0 rfl rfl 7 (by decide) lk0 (fun _ h9 => h9) rfl (by decide +kernel) rfl rfl (Nat.le_of_ble_eq_true rfl) dX10_put_2 (fun H locs hP hD hS => ?_)
  have hP : va_P D vwCl [(hO, .inr (10, [.ref hAs, .ref hS1, .ref hT, .ref hY, .ref hR, .ref hZ, .ref hX, .int (nI 0)])), (hAs, .inl (cS, 4, .inr (.inr (.inr (.inr sg))))), (hH, .inr (3, [.ref q1, .int (nI fl), .int (nI ln), .int (nI sz)])), (q1, .inl (cI, 60, .inl f))] H := hP
  have hD : va_D A [(hO, .inr (10, [.ref hAs, .ref hS1, .ref hT, .ref hY, .ref hR, .ref hZ, .ref hX, .int (nI 0)])), (hAs, .inl (cS, 4, .inr (.inr (.inr (.inr sg))))), (hH, .inr (3, [.ref q1, .int (nI fl), .int (nI ln), .int (nI sz)])), (q1, .inl (cI, 60, .inl f))] := hD
  refine lv_aload_n hx hb dX10_put_5 rfl (lv_at hl 0 rfl) ?_
  refine lv_iload_n hx hb dX10_put_6 rfl (lv_at hl 1 rfl) ?_
  refine k_goq (S := Unit) (va_runV (As := [.int (nI k)]) (rest := []) ⟨hx, hb, hml, hown, hts⟩ (c_X10_sheetAt l D cI cZ cS cP hO hAs hY hR hZ hX 0 hS1 hT sg (nI k)  _) (cwV 1 hts gX10_put_X10_sheetAt rfl rfl rfl (by decide +kernel) ⟨Nat.le_of_ble_eq_true rfl, Nat.le_of_ble_eq_true rfl⟩) (kPreV hN hK hP hD [0, 1] rfl rfl (q0 := 0) (ci := 10) (q := (RX10, TX10, 8)) rfl rfl) rfl rfl hl.1 rfl (lv_room (Nat.le_of_ble_eq_true rfl)) dX10_put_7 ⟨Nat.le_of_ble_eq_true rfl, Nat.le_of_ble_eq_true rfl⟩) hP hD hS hA [0, 1] rfl [hO, hAs] rfl (fun _ => rfl) 4 [2, 3] rfl (fun _u => [(hO, .inr (10, [.ref hAs, .ref hS1, .ref hT, .ref hY, .ref hR, .ref hZ, .ref hX, .int (nI 0)])), (hAs, .inl (cS, 4, .inr (.inr (.inr (.inr sg))))), (hH, .inr (3, [.ref q1, .int (nI fl), .int (nI ln), .int (nI sz)])), (q1, .inl (cI, 60, .inl f))]) (fun _ => rfl) [(hH, .inr (3, [.ref q1, .int (nI fl), .int (nI ln), .int (nI sz)])), (q1, .inl (cI, 60, .inl f))] [] (fun _ => rfl) rfl (fun _ => rfl) rfl (fun r_1 _u H locs hr_2 hP hD hS => ?_)
  have hP : va_P D vwCl [(hO, .inr (10, [.ref hAs, .ref hS1, .ref hT, .ref hY, .ref hR, .ref hZ, .ref hX, .int (nI 0)])), (hAs, .inl (cS, 4, .inr (.inr (.inr (.inr sg))))), (hH, .inr (3, [.ref q1, .int (nI fl), .int (nI ln), .int (nI sz)])), (q1, .inl (cI, 60, .inl f))] H := hP
  have hD : va_D A [(hO, .inr (10, [.ref hAs, .ref hS1, .ref hT, .ref hY, .ref hR, .ref hZ, .ref hX, .int (nI 0)])), (hAs, .inl (cS, 4, .inr (.inr (.inr (.inr sg))))), (hH, .inr (3, [.ref q1, .int (nI fl), .int (nI ln), .int (nI sz)])), (q1, .inl (cI, 60, .inl f))] := hD
  subst hr_2
  refine k_eqr (show (if inR (nI k) 4 then sg (nI k).toNatClampNeg else none) = (some hH) from Eq.trans (sa_y (by omega)).symm hsg) ?_
  refine W.eq (g2 := F0 m 10 ls [.ref hH]) rfl ?_
  refine lv_astore (lv' := [(4, .ref hH), (0, .ref hO), (1, .int (nI k)), (2, .int (nI y)), (3, .int v)]) hx hb dX10_put_10 hl (by decide) rfl (fun ls hl => ?_)
  refine lv_aload hx hb dX10_put_12 (lv_at hl 0 rfl) ?_
  refine lv_ifnonnull (tgt := 19) hx hb dX10_put_14 (by decide) ?_
  refine lv_aload hx hb dX10_put_19 (lv_at hl 0 rfl) ?_
  refine k_goi (S := Unit) (va_runV (As := []) (rest := []) ⟨hx, hb, hml, hown, hts⟩ (c_X3_isNothing l D cI cZ cS cP hH q1 f fl ln sz (by first | assumption | omega) _) (cwV 0 hts gX10_put_X3_isNothing rfl rfl rfl (by decide +kernel) ⟨Nat.le_of_ble_eq_true rfl, Nat.le_of_ble_eq_true rfl⟩) (kPreV hN hK hP hD [2, 3] rfl rfl (q0 := 0) (ci := 3) (q := (RX3, TX3, 4)) rfl rfl) rfl rfl hl.1 rfl (lv_room (Nat.le_of_ble_eq_true rfl)) dX10_put_21 ⟨Nat.le_of_ble_eq_true rfl, Nat.le_of_ble_eq_true rfl⟩) hP hD hS hA [2, 3] rfl [hH, q1] rfl (fun _ => rfl) 4 [0, 1] rfl (fun _u => [(hO, .inr (10, [.ref hAs, .ref hS1, .ref hT, .ref hY, .ref hR, .ref hZ, .ref hX, .int (nI 0)])), (hAs, .inl (cS, 4, .inr (.inr (.inr (.inr sg))))), (hH, .inr (3, [.ref q1, .int (nI fl), .int (nI ln), .int (nI sz)])), (q1, .inl (cI, 60, .inl f))]) (fun _ => rfl) [(hO, .inr (10, [.ref hAs, .ref hS1, .ref hT, .ref hY, .ref hR, .ref hZ, .ref hX, .int (nI 0)])), (hAs, .inl (cS, 4, .inr (.inr (.inr (.inr sg)))))] [] (fun _ => rfl) rfl (fun _ => rfl) rfl (fun r_3 _u H locs hr_4 hP hD hS => ?_)
  have hP : va_P D vwCl [(hO, .inr (10, [.ref hAs, .ref hS1, .ref hT, .ref hY, .ref hR, .ref hZ, .ref hX, .int (nI 0)])), (hAs, .inl (cS, 4, .inr (.inr (.inr (.inr sg))))), (hH, .inr (3, [.ref q1, .int (nI fl), .int (nI ln), .int (nI sz)])), (q1, .inl (cI, 60, .inl f))] H := hP
  have hD : va_D A [(hO, .inr (10, [.ref hAs, .ref hS1, .ref hT, .ref hY, .ref hR, .ref hZ, .ref hX, .int (nI 0)])), (hAs, .inl (cS, 4, .inr (.inr (.inr (.inr sg))))), (hH, .inr (3, [.ref q1, .int (nI fl), .int (nI ln), .int (nI sz)])), (q1, .inl (cI, 60, .inl f))] := hD
  subst hr_4
  refine k_ifc_eq (tgt := 33) hx hb dX10_put_24 (by decide) (fun c_5 => ?_) (fun c_5 => absurd c_5 (by omega))
  refine lv_aload hx hb dX10_put_33 (lv_at hl 0 rfl) ?_
  refine lv_iload_n hx hb dX10_put_35 rfl (lv_at hl 3 rfl) ?_
  refine k_goi (S := Unit) (va_runV (As := [.int (nI y)]) (rest := []) ⟨hx, hb, hml, hown, hts⟩ (c_X3_hasCell l D cI cZ cS cP hH q1 f fl ln sz (nI y) (by first | assumption | omega) _) (cwV 1 hts gX10_put_X3_hasCell rfl rfl rfl (by decide +kernel) ⟨Nat.le_of_ble_eq_true rfl, Nat.le_of_ble_eq_true rfl⟩) (kPreV hN hK hP hD [2, 3] rfl rfl (q0 := 0) (ci := 3) (q := (RX3, TX3, 4)) rfl rfl) rfl rfl hl.1 rfl (lv_room (Nat.le_of_ble_eq_true rfl)) dX10_put_36 ⟨Nat.le_of_ble_eq_true rfl, Nat.le_of_ble_eq_true rfl⟩) hP hD hS hA [2, 3] rfl [hH, q1] rfl (fun _ => rfl) 4 [0, 1] rfl (fun _u => [(hO, .inr (10, [.ref hAs, .ref hS1, .ref hT, .ref hY, .ref hR, .ref hZ, .ref hX, .int (nI 0)])), (hAs, .inl (cS, 4, .inr (.inr (.inr (.inr sg))))), (hH, .inr (3, [.ref q1, .int (nI fl), .int (nI ln), .int (nI sz)])), (q1, .inl (cI, 60, .inl f))]) (fun _ => rfl) [(hO, .inr (10, [.ref hAs, .ref hS1, .ref hT, .ref hY, .ref hR, .ref hZ, .ref hX, .int (nI 0)])), (hAs, .inl (cS, 4, .inr (.inr (.inr (.inr sg)))))] [] (fun _ => rfl) rfl (fun _ => rfl) rfl (fun r_6 _u H locs hr_7 hP hD hS => ?_)
  have hP : va_P D vwCl [(hO, .inr (10, [.ref hAs, .ref hS1, .ref hT, .ref hY, .ref hR, .ref hZ, .ref hX, .int (nI 0)])), (hAs, .inl (cS, 4, .inr (.inr (.inr (.inr sg))))), (hH, .inr (3, [.ref q1, .int (nI fl), .int (nI ln), .int (nI sz)])), (q1, .inl (cI, 60, .inl f))] H := hP
  have hD : va_D A [(hO, .inr (10, [.ref hAs, .ref hS1, .ref hT, .ref hY, .ref hR, .ref hZ, .ref hX, .int (nI 0)])), (hAs, .inl (cS, 4, .inr (.inr (.inr (.inr sg))))), (hH, .inr (3, [.ref q1, .int (nI fl), .int (nI ln), .int (nI sz)])), (q1, .inl (cI, 60, .inl f))] := hD
  subst hr_7
  refine k_ifc_ne (tgt := 48) hx hb dX10_put_39 (by decide) (fun c_8 => ?_) (fun c_8 => absurd ((inR_nI (by omega)).mpr (by omega)) c_8)
  refine lv_aload hx hb dX10_put_48 (lv_at hl 0 rfl) ?_
  refine lv_iload_n hx hb dX10_put_50 rfl (lv_at hl 3 rfl) ?_
  refine lv_iload_n hx hb dX10_put_51 rfl (lv_at hl 4 rfl) ?_
  refine k_gov (S := Unit) (va_runV (As := [.int (nI y), .int v]) (rest := []) ⟨hx, hb, hml, hown, hts⟩ (c_X3_set l D cI cZ cS cP hH q1 f fl ln sz y v (by first | assumption | omega) (by first | assumption | omega) (by first | assumption | omega) _) (cwV 2 hts gX10_put_X3_set rfl rfl rfl (by decide +kernel) ⟨Nat.le_of_ble_eq_true rfl, Nat.le_of_ble_eq_true rfl⟩) (kPreV hN hK hP hD [2, 3] rfl rfl (q0 := 0) (ci := 3) (q := (RX3, TX3, 4)) rfl rfl) rfl rfl hl.1 rfl (lv_room (Nat.le_of_ble_eq_true rfl)) dX10_put_52 ⟨Nat.le_of_ble_eq_true rfl, Nat.le_of_ble_eq_true rfl⟩) hP hD hS hA [2, 3] rfl [hH, q1] rfl (fun _ => rfl) 4 [0, 1] rfl (fun _u => [(hO, .inr (10, [.ref hAs, .ref hS1, .ref hT, .ref hY, .ref hR, .ref hZ, .ref hX, .int (nI 0)])), (hAs, .inl (cS, 4, .inr (.inr (.inr (.inr sg))))), (hH, .inr (3, [.ref q1, .int (nI fl), .int (nI ln), .int (nI sz)])), (q1, .inl (cI, 60, .inl (upd f y (cutv ln v))))]) (fun _ => rfl) [(hO, .inr (10, [.ref hAs, .ref hS1, .ref hT, .ref hY, .ref hR, .ref hZ, .ref hX, .int (nI 0)])), (hAs, .inl (cS, 4, .inr (.inr (.inr (.inr sg)))))] [] (fun _ => rfl) rfl (fun _ => rfl) rfl (fun _u H locs hr_10 hP hD hS => ?_)
  have hP : va_P D vwCl [(hO, .inr (10, [.ref hAs, .ref hS1, .ref hT, .ref hY, .ref hR, .ref hZ, .ref hX, .int (nI 0)])), (hAs, .inl (cS, 4, .inr (.inr (.inr (.inr sg))))), (hH, .inr (3, [.ref q1, .int (nI fl), .int (nI ln), .int (nI sz)])), (q1, .inl (cI, 60, .inl (upd f y (cutv ln v))))] H := hP
  have hD : va_D A [(hO, .inr (10, [.ref hAs, .ref hS1, .ref hT, .ref hY, .ref hR, .ref hZ, .ref hX, .int (nI 0)])), (hAs, .inl (cS, 4, .inr (.inr (.inr (.inr sg))))), (hH, .inr (3, [.ref q1, .int (nI fl), .int (nI ln), .int (nI sz)])), (q1, .inl (cI, 60, .inl (upd f y (cutv ln v))))] := hD
  refine lv_iconst (v := (nI 1)) hx hb dX10_put_55 (by decide) ?_
  exact ret _ () _ _ _ _ dX10_put_56 (rfl) hP hD hS
def rm_X10_sheet_bad : Room := { frames := 2, cells := 0, slots := 0, locals := 47 }
set_option maxHeartbeats 4000000 in
set_option maxRecDepth 100000 in
theorem c_X10_sheet_bad (l : Launch) (D : va_G) (cI cZ cS cP : ClassId) (hO : Nat) (hAs : Nat) (hY : Nat) (hR : Nat) (hZ : Nat) (hX : Nat) (ft : Nat) (hS1 : Nat) (hT : Nat) (sg : Nat → Option Nat) (x : Int32) (y : Int32) (z : Int32) (hx1 : ¬ inR x 4) : kMi (S := Unit) l yX10_sheet wsX10_sheet rm_X10_sheet_bad D (kT cI cZ cS cP) [.ref hO, .int x, .int y, .int z] [(hO, .inr (10, [.ref hAs, .ref hS1, .ref hT, .ref hY, .ref hR, .ref hZ, .ref hX, .int (nI ft)])), (hAs, .inl (cS, 4, .inr (.inr (.inr (.inr sg)))))] (fun r _ => r = (-1)) (fun _ => [(hO, .inr (10, [.ref hAs, .ref hS1, .ref hT, .ref hY, .ref hR, .ref hZ, .ref hX, .int (nI 0)])), (hAs, .inl (cS, 4, .inr (.inr (.inr (.inr sg)))))]) := by
  refine kMet_i (cc := cX10_sheet) (maxL := 5) (ty := .int) (by decide) rfl (Nat.le_of_ble_eq_true rfl) (fun _ _ _ => rfl) ?_
  intro p e s m args below meth c A Q ls C hlocks hin hN hK hP hD hS hA hl ret
  obtain ⟨hx, hb, hml, hown, hts⟩ := C
  have hl : lv_has ls 5 [(0, .ref hO), (1, .int x), (2, .int y), (3, .int z)] := hl
  have in_X10 : ∀ w ∈ wsX100, w ∈ wsX10_sheet := by decide +kernel
  have lk0 := hts (.fieldLink RX10 62 "SilkWord" "latestFault" "I") (by decide +kernel)
  refine lv_aload_n hx hb dX10_sheet_0 rfl (lv_at hl 0 rfl) ?_
  refine lv_iconst (v := (nI 0)) hx hb dX10_sheet_1 (by decide) ?_
  refine va_put (D := D) (ci := 10) (v := .int (nI 0)) (ty := .int) (C := RX10) (T := TX10) (N := 8) hx hb hts in_X10 tyX10 tyX10_ok nmX10 hown hK hP hD hS 0 rfl rfl 7 (by decide) lk0 (fun _ h9 => h9) rfl (by decide +kernel) rfl rfl (Nat.le_of_ble_eq_true rfl) dX10_sheet_2 (fun H locs hP hD hS => ?_)
  have hP : va_P D vwCl [(hO, .inr (10, [.ref hAs, .ref hS1, .ref hT, .ref hY, .ref hR, .ref hZ, .ref hX, .int (nI 0)])), (hAs, .inl (cS, 4, .inr (.inr (.inr (.inr sg)))))] H := hP
  have hD : va_D A [(hO, .inr (10, [.ref hAs, .ref hS1, .ref hT, .ref hY, .ref hR, .ref hZ, .ref hX, .int (nI 0)])), (hAs, .inl (cS, 4, .inr (.inr (.inr (.inr sg)))))] := hD
  refine lv_aload_n hx hb dX10_sheet_5 rfl (lv_at hl 0 rfl) ?_
  refine lv_iload_n hx hb dX10_sheet_6 rfl (lv_at hl 1 rfl) ?_
  refine k_goq (S := Unit) (va_runV (As := [.int x]) (rest := []) ⟨hx, hb, hml, hown, hts⟩ (c_X10_sheetAt l D cI cZ cS cP hO hAs hY hR hZ hX 0 hS1 hT sg x  _) (cwV 1 hts gX10_sheet_X10_sheetAt rfl rfl rfl (by decide +kernel) ⟨Nat.le_of_ble_eq_true rfl, Nat.le_of_ble_eq_true rfl⟩) (kPreV hN hK hP hD [0, 1] rfl rfl (q0 := 0) (ci := 10) (q := (RX10, TX10, 8)) rfl rfl) rfl rfl hl.1 rfl (lv_room (Nat.le_of_ble_eq_true rfl)) dX10_sheet_7 ⟨Nat.le_of_ble_eq_true rfl, Nat.le_of_ble_eq_true rfl⟩) hP hD hS hA [0, 1] rfl [hO, hAs] rfl (fun _ => rfl) 2 [] rfl (fun _u => [(hO, .inr (10, [.ref hAs, .ref hS1, .ref hT, .ref hY, .ref hR, .ref hZ, .ref hX, .int (nI 0)])), (hAs, .inl (cS, 4, .inr (.inr (.inr (.inr sg)))))]) (fun _ => rfl) [] [] (fun _ => rfl) rfl (fun _ => rfl) rfl (fun r_1 _u H locs hr_2 hP hD hS => ?_)
  have hP : va_P D vwCl [(hO, .inr (10, [.ref hAs, .ref hS1, .ref hT, .ref hY, .ref hR, .ref hZ, .ref hX, .int (nI 0)])), (hAs, .inl (cS, 4, .inr (.inr (.inr (.inr sg)))))] H := hP
  have hD : va_D A [(hO, .inr (10, [.ref hAs, .ref hS1, .ref hT, .ref hY, .ref hR, .ref hZ, .ref hX, .int (nI 0)])), (hAs, .inl (cS, 4, .inr (.inr (.inr (.inr sg)))))] := hD
  subst hr_2
  refine k_eqr (show (if inR x 4 then sg x.toNatClampNeg else none) = none from if_neg hx1) ?_
  refine W.eq (g2 := F0 m 10 ls [.null]) rfl ?_
  refine lv_astoreN (lv' := [(4, .null), (0, .ref hO), (1, .int x), (2, .int y), (3, .int z)]) hx hb dX10_sheet_10 hl (by decide) rfl (fun ls hl => ?_)
  refine lv_aloadN hx hb dX10_sheet_12 (lv_at hl 0 rfl) ?_
  refine lv_ifnonnullN hx hb dX10_sheet_14 ?_
  refine lv_iconst (v := (-1)) hx hb dX10_sheet_17 (by decide) ?_
  exact ret _ () _ _ _ _ dX10_sheet_18 (rfl) hP hD hS
def rm_X10_sheet_lane : Room := { frames := 2, cells := 0, slots := 0, locals := 47 }
set_option maxHeartbeats 4000000 in
set_option maxRecDepth 100000 in
theorem c_X10_sheet_lane (l : Launch) (D : va_G) (cI cZ cS cP : ClassId) (hO : Nat) (hAs : Nat) (hY : Nat) (hR : Nat) (hZ : Nat) (hX : Nat) (ft : Nat) (hS1 : Nat) (hT : Nat) (sg : Nat → Option Nat) (hH : Nat) (q1 : Nat) (f : Nat → Int32) (fl : Nat) (ln : Nat) (sz : Nat) (k : Nat) (y : Int32) (z : Int32) (hk1 : k < 4) (hsg : sg k = some hH) (hfl : fl < 2) (hln : ln < 3) (hsz : sz ≤ 60) (hy1 : ¬ inR y 3) : kMi (S := Unit) l yX10_sheet wsX10_sheet rm_X10_sheet_lane D (kT cI cZ cS cP) [.ref hO, .int (nI k), .int y, .int z] [(hO, .inr (10, [.ref hAs, .ref hS1, .ref hT, .ref hY, .ref hR, .ref hZ, .ref hX, .int (nI ft)])), (hAs, .inl (cS, 4, .inr (.inr (.inr (.inr sg))))), (hH, .inr (3, [.ref q1, .int (nI fl), .int (nI ln), .int (nI sz)])), (q1, .inl (cI, 60, .inl f))] (fun r _ => r = (-2)) (fun _ => [(hO, .inr (10, [.ref hAs, .ref hS1, .ref hT, .ref hY, .ref hR, .ref hZ, .ref hX, .int (nI 0)])), (hAs, .inl (cS, 4, .inr (.inr (.inr (.inr sg))))), (hH, .inr (3, [.ref q1, .int (nI fl), .int (nI ln), .int (nI sz)])), (q1, .inl (cI, 60, .inl f))]) := by
  refine kMet_i (cc := cX10_sheet) (maxL := 5) (ty := .int) (by decide) rfl (Nat.le_of_ble_eq_true rfl) (fun _ _ _ => rfl) ?_
  intro p e s m args below meth c A Q ls C hlocks hin hN hK hP hD hS hA hl ret
  obtain ⟨hx, hb, hml, hown, hts⟩ := C
  have hl : lv_has ls 5 [(0, .ref hO), (1, .int (nI k)), (2, .int y), (3, .int z)] := hl
  have in_X10 : ∀ w ∈ wsX100, w ∈ wsX10_sheet := by decide +kernel
  have lk0 := hts (.fieldLink RX10 62 "SilkWord" "latestFault" "I") (by decide +kernel)
  refine lv_aload_n hx hb dX10_sheet_0 rfl (lv_at hl 0 rfl) ?_
  refine lv_iconst (v := (nI 0)) hx hb dX10_sheet_1 (by decide) ?_
  refine va_put (D := D) (ci := 10) (v := .int (nI 0)) (ty := .int) (C := RX10) (T := TX10) (N := 8) hx hb hts in_X10 tyX10 tyX10_ok nmX10 hown hK hP hD hS 0 rfl rfl 7 (by decide) lk0 (fun _ h9 => h9) rfl (by decide +kernel) rfl rfl (Nat.le_of_ble_eq_true rfl) dX10_sheet_2 (fun H locs hP hD hS => ?_)
  have hP : va_P D vwCl [(hO, .inr (10, [.ref hAs, .ref hS1, .ref hT, .ref hY, .ref hR, .ref hZ, .ref hX, .int (nI 0)])), (hAs, .inl (cS, 4, .inr (.inr (.inr (.inr sg))))), (hH, .inr (3, [.ref q1, .int (nI fl), .int (nI ln), .int (nI sz)])), (q1, .inl (cI, 60, .inl f))] H := hP
  have hD : va_D A [(hO, .inr (10, [.ref hAs, .ref hS1, .ref hT, .ref hY, .ref hR, .ref hZ, .ref hX, .int (nI 0)])), (hAs, .inl (cS, 4, .inr (.inr (.inr (.inr sg))))), (hH, .inr (3, [.ref q1, .int (nI fl), .int (nI ln), .int (nI sz)])), (q1, .inl (cI, 60, .inl f))] := hD
  refine lv_aload_n hx hb dX10_sheet_5 rfl (lv_at hl 0 rfl) ?_
  refine lv_iload_n hx hb dX10_sheet_6 rfl (lv_at hl 1 rfl) ?_
  refine k_goq (S := Unit) (va_runV (As := [.int (nI k)]) (rest := []) ⟨hx, hb, hml, hown, hts⟩ (c_X10_sheetAt l D cI cZ cS cP hO hAs hY hR hZ hX 0 hS1 hT sg (nI k)  _) (cwV 1 hts gX10_sheet_X10_sheetAt rfl rfl rfl (by decide +kernel) ⟨Nat.le_of_ble_eq_true rfl, Nat.le_of_ble_eq_true rfl⟩) (kPreV hN hK hP hD [0, 1] rfl rfl (q0 := 0) (ci := 10) (q := (RX10, TX10, 8)) rfl rfl) rfl rfl hl.1 rfl (lv_room (Nat.le_of_ble_eq_true rfl)) dX10_sheet_7 ⟨Nat.le_of_ble_eq_true rfl, Nat.le_of_ble_eq_true rfl⟩) hP hD hS hA [0, 1] rfl [hO, hAs] rfl (fun _ => rfl) 4 [2, 3] rfl (fun _u => [(hO, .inr (10, [.ref hAs, .ref hS1, .ref hT, .ref hY, .ref hR, .ref hZ, .ref hX, .int (nI 0)])), (hAs, .inl (cS, 4, .inr (.inr (.inr (.inr sg))))), (hH, .inr (3, [.ref q1, .int (nI fl), .int (nI ln), .int (nI sz)])), (q1, .inl (cI, 60, .inl f))]) (fun _ => rfl) [(hH, .inr (3, [.ref q1, .int (nI fl), .int (nI ln), .int (nI sz)])), (q1, .inl (cI, 60, .inl f))] [] (fun _ => rfl) rfl (fun _ => rfl) rfl (fun r_1 _u H locs hr_2 hP hD hS => ?_)
  have hP : va_P D vwCl [(hO, .inr (10, [.ref hAs, .ref hS1, .ref hT, .ref hY, .ref hR, .ref hZ, .ref hX, .int (nI 0)])), (hAs, .inl (cS, 4, .inr (.inr (.inr (.inr sg))))), (hH, .inr (3, [.ref q1, .int (nI fl), .int (nI ln), .int (nI sz)])), (q1, .inl (cI, 60, .inl f))] H := hP
  have hD : va_D A [(hO, .inr (10, [.ref hAs, .ref hS1, .ref hT, .ref hY, .ref hR, .ref hZ, .ref hX, .int (nI 0)])), (hAs, .inl (cS, 4, .inr (.inr (.inr (.inr sg))))), (hH, .inr (3, [.ref q1, .int (nI fl), .int (nI ln), .int (nI sz)])), (q1, .inl (cI, 60, .inl f))] := hD
  subst hr_2
  refine k_eqr (show (if inR (nI k) 4 then sg (nI k).toNatClampNeg else none) = (some hH) from Eq.trans (sa_y (by omega)).symm hsg) ?_
  refine W.eq (g2 := F0 m 10 ls [.ref hH]) rfl ?_
  refine lv_astore (lv' := [(4, .ref hH), (0, .ref hO), (1, .int (nI k)), (2, .int y), (3, .int z)]) hx hb dX10_sheet_10 hl (by decide) rfl (fun ls hl => ?_)
  refine lv_aload hx hb dX10_sheet_12 (lv_at hl 0 rfl) ?_
  refine lv_ifnonnull (tgt := 19) hx hb dX10_sheet_14 (by decide) ?_
  refine lv_iload_n hx hb dX10_sheet_19 rfl (lv_at hl 3 rfl) ?_
  refine k_goi (S := Unit) (va_runS (As := [.int y]) (rest := []) ⟨hx, hb, hml, hown, hts⟩ (c_X10_isLane l D cI cZ cS cP y  _) (va_cwS 1 hts gX10_sheet_X10_isLane rfl rfl rfl (by decide +kernel) ⟨Nat.le_of_ble_eq_true rfl, Nat.le_of_ble_eq_true rfl⟩) (kPreS hN hK hP hD [] rfl rfl) rfl rfl hl.1 rfl (lv_room (Nat.le_of_ble_eq_true rfl)) dX10_sheet_20 ⟨Nat.le_of_ble_eq_true rfl, Nat.le_of_ble_eq_true rfl⟩) hP hD hS hA [] rfl [] rfl (fun _ => rfl) 4 [0, 1, 2, 3] rfl (fun _u => [(hO, .inr (10, [.ref hAs, .ref hS1, .ref hT, .ref hY, .ref hR, .ref hZ, .ref hX, .int (nI 0)])), (hAs, .inl (cS, 4, .inr (.inr (.inr (.inr sg))))), (hH, .inr (3, [.ref q1, .int (nI fl), .int (nI ln), .int (nI sz)])), (q1, .inl (cI, 60, .inl f))]) (fun _ => rfl) [(hO, .inr (10, [.ref hAs, .ref hS1, .ref hT, .ref hY, .ref hR, .ref hZ, .ref hX, .int (nI 0)])), (hAs, .inl (cS, 4, .inr (.inr (.inr (.inr sg))))), (hH, .inr (3, [.ref q1, .int (nI fl), .int (nI ln), .int (nI sz)])), (q1, .inl (cI, 60, .inl f))] [] (fun _ => rfl) rfl (fun _ => rfl) rfl (fun r_3 _u H locs hr_4 hP hD hS => ?_)
  have hP : va_P D vwCl [(hO, .inr (10, [.ref hAs, .ref hS1, .ref hT, .ref hY, .ref hR, .ref hZ, .ref hX, .int (nI 0)])), (hAs, .inl (cS, 4, .inr (.inr (.inr (.inr sg))))), (hH, .inr (3, [.ref q1, .int (nI fl), .int (nI ln), .int (nI sz)])), (q1, .inl (cI, 60, .inl f))] H := hP
  have hD : va_D A [(hO, .inr (10, [.ref hAs, .ref hS1, .ref hT, .ref hY, .ref hR, .ref hZ, .ref hX, .int (nI 0)])), (hAs, .inl (cS, 4, .inr (.inr (.inr (.inr sg))))), (hH, .inr (3, [.ref q1, .int (nI fl), .int (nI ln), .int (nI sz)])), (q1, .inl (cI, 60, .inl f))] := hD
  subst hr_4
  refine k_ifc_eq (tgt := 32) hx hb dX10_sheet_23 (by decide) (fun c_5 => ?_) (fun c_5 => absurd c_5 hy1)
  refine lv_bipush (v := (-2)) hx hb dX10_sheet_32 (by decide) ?_
  exact ret _ () _ _ _ _ dX10_sheet_34 (rfl) hP hD hS
def rm_X10_sheet_big : Room := { frames := 2, cells := 0, slots := 0, locals := 47 }
set_option maxHeartbeats 4000000 in
set_option maxRecDepth 100000 in
theorem c_X10_sheet_big (l : Launch) (D : va_G) (cI cZ cS cP : ClassId) (hO : Nat) (hAs : Nat) (hY : Nat) (hR : Nat) (hZ : Nat) (hX : Nat) (ft : Nat) (hS1 : Nat) (hT : Nat) (sg : Nat → Option Nat) (hH : Nat) (q1 : Nat) (f : Nat → Int32) (fl : Nat) (ln : Nat) (sz : Nat) (k : Nat) (y : Nat) (z : Int32) (hk1 : k < 4) (hsg : sg k = some hH) (hfl : fl < 2) (hln : ln < 3) (hsz : sz ≤ 60) (hy1 : y < 3) (hz1 : ¬ z ≤ nI 60) : kMi (S := Unit) l yX10_sheet wsX10_sheet rm_X10_sheet_big D (kT cI cZ cS cP) [.ref hO, .int (nI k), .int (nI y), .int z] [(hO, .inr (10, [.ref hAs, .ref hS1, .ref hT, .ref hY, .ref hR, .ref hZ, .ref hX, .int (nI ft)])), (hAs, .inl (cS, 4, .inr (.inr (.inr (.inr sg))))), (hH, .inr (3, [.ref q1, .int (nI fl), .int (nI ln), .int (nI sz)])), (q1, .inl (cI, 60, .inl f))] (fun r _ => r = (-2)) (fun _ => [(hO, .inr (10, [.ref hAs, .ref hS1, .ref hT, .ref hY, .ref hR, .ref hZ, .ref hX, .int (nI 0)])), (hAs, .inl (cS, 4, .inr (.inr (.inr (.inr sg))))), (hH, .inr (3, [.ref q1, .int (nI fl), .int (nI ln), .int (nI sz)])), (q1, .inl (cI, 60, .inl f))]) := by
  refine kMet_i (cc := cX10_sheet) (maxL := 5) (ty := .int) (by decide) rfl (Nat.le_of_ble_eq_true rfl) (fun _ _ _ => rfl) ?_
  intro p e s m args below meth c A Q ls C hlocks hin hN hK hP hD hS hA hl ret
  obtain ⟨hx, hb, hml, hown, hts⟩ := C
  have hl : lv_has ls 5 [(0, .ref hO), (1, .int (nI k)), (2, .int (nI y)), (3, .int z)] := hl
  have in_X10 : ∀ w ∈ wsX100, w ∈ wsX10_sheet := by decide +kernel
  have lk0 := hts (.fieldLink RX10 62 "SilkWord" "latestFault" "I") (by decide +kernel)
  refine lv_aload_n hx hb dX10_sheet_0 rfl (lv_at hl 0 rfl) ?_
  refine lv_iconst (v := (nI 0)) hx hb dX10_sheet_1 (by decide) ?_
  refine va_put (D := D) (ci := 10) (v := .int (nI 0)) (ty := .int) (C := RX10) (T := TX10) (N := 8) hx hb hts in_X10 tyX10 tyX10_ok nmX10 hown hK hP hD hS 0 rfl rfl 7 (by decide) lk0 (fun _ h9 => h9) rfl (by decide +kernel) rfl rfl (Nat.le_of_ble_eq_true rfl) dX10_sheet_2 (fun H locs hP hD hS => ?_)
  have hP : va_P D vwCl [(hO, .inr (10, [.ref hAs, .ref hS1, .ref hT, .ref hY, .ref hR, .ref hZ, .ref hX, .int (nI 0)])), (hAs, .inl (cS, 4, .inr (.inr (.inr (.inr sg))))), (hH, .inr (3, [.ref q1, .int (nI fl), .int (nI ln), .int (nI sz)])), (q1, .inl (cI, 60, .inl f))] H := hP
  have hD : va_D A [(hO, .inr (10, [.ref hAs, .ref hS1, .ref hT, .ref hY, .ref hR, .ref hZ, .ref hX, .int (nI 0)])), (hAs, .inl (cS, 4, .inr (.inr (.inr (.inr sg))))), (hH, .inr (3, [.ref q1, .int (nI fl), .int (nI ln), .int (nI sz)])), (q1, .inl (cI, 60, .inl f))] := hD
  refine lv_aload_n hx hb dX10_sheet_5 rfl (lv_at hl 0 rfl) ?_
  refine lv_iload_n hx hb dX10_sheet_6 rfl (lv_at hl 1 rfl) ?_
  refine k_goq (S := Unit) (va_runV (As := [.int (nI k)]) (rest := []) ⟨hx, hb, hml, hown, hts⟩ (c_X10_sheetAt l D cI cZ cS cP hO hAs hY hR hZ hX 0 hS1 hT sg (nI k)  _) (cwV 1 hts gX10_sheet_X10_sheetAt rfl rfl rfl (by decide +kernel) ⟨Nat.le_of_ble_eq_true rfl, Nat.le_of_ble_eq_true rfl⟩) (kPreV hN hK hP hD [0, 1] rfl rfl (q0 := 0) (ci := 10) (q := (RX10, TX10, 8)) rfl rfl) rfl rfl hl.1 rfl (lv_room (Nat.le_of_ble_eq_true rfl)) dX10_sheet_7 ⟨Nat.le_of_ble_eq_true rfl, Nat.le_of_ble_eq_true rfl⟩) hP hD hS hA [0, 1] rfl [hO, hAs] rfl (fun _ => rfl) 4 [2, 3] rfl (fun _u => [(hO, .inr (10, [.ref hAs, .ref hS1, .ref hT, .ref hY, .ref hR, .ref hZ, .ref hX, .int (nI 0)])), (hAs, .inl (cS, 4, .inr (.inr (.inr (.inr sg))))), (hH, .inr (3, [.ref q1, .int (nI fl), .int (nI ln), .int (nI sz)])), (q1, .inl (cI, 60, .inl f))]) (fun _ => rfl) [(hH, .inr (3, [.ref q1, .int (nI fl), .int (nI ln), .int (nI sz)])), (q1, .inl (cI, 60, .inl f))] [] (fun _ => rfl) rfl (fun _ => rfl) rfl (fun r_1 _u H locs hr_2 hP hD hS => ?_)
  have hP : va_P D vwCl [(hO, .inr (10, [.ref hAs, .ref hS1, .ref hT, .ref hY, .ref hR, .ref hZ, .ref hX, .int (nI 0)])), (hAs, .inl (cS, 4, .inr (.inr (.inr (.inr sg))))), (hH, .inr (3, [.ref q1, .int (nI fl), .int (nI ln), .int (nI sz)])), (q1, .inl (cI, 60, .inl f))] H := hP
  have hD : va_D A [(hO, .inr (10, [.ref hAs, .ref hS1, .ref hT, .ref hY, .ref hR, .ref hZ, .ref hX, .int (nI 0)])), (hAs, .inl (cS, 4, .inr (.inr (.inr (.inr sg))))), (hH, .inr (3, [.ref q1, .int (nI fl), .int (nI ln), .int (nI sz)])), (q1, .inl (cI, 60, .inl f))] := hD
  subst hr_2
  refine k_eqr (show (if inR (nI k) 4 then sg (nI k).toNatClampNeg else none) = (some hH) from Eq.trans (sa_y (by omega)).symm hsg) ?_
  refine W.eq (g2 := F0 m 10 ls [.ref hH]) rfl ?_
  refine lv_astore (lv' := [(4, .ref hH), (0, .ref hO), (1, .int (nI k)), (2, .int (nI y)), (3, .int z)]) hx hb dX10_sheet_10 hl (by decide) rfl (fun ls hl => ?_)
  refine lv_aload hx hb dX10_sheet_12 (lv_at hl 0 rfl) ?_
  refine lv_ifnonnull (tgt := 19) hx hb dX10_sheet_14 (by decide) ?_
  refine lv_iload_n hx hb dX10_sheet_19 rfl (lv_at hl 3 rfl) ?_
  refine k_goi (S := Unit) (va_runS (As := [.int (nI y)]) (rest := []) ⟨hx, hb, hml, hown, hts⟩ (c_X10_isLane l D cI cZ cS cP (nI y)  _) (va_cwS 1 hts gX10_sheet_X10_isLane rfl rfl rfl (by decide +kernel) ⟨Nat.le_of_ble_eq_true rfl, Nat.le_of_ble_eq_true rfl⟩) (kPreS hN hK hP hD [] rfl rfl) rfl rfl hl.1 rfl (lv_room (Nat.le_of_ble_eq_true rfl)) dX10_sheet_20 ⟨Nat.le_of_ble_eq_true rfl, Nat.le_of_ble_eq_true rfl⟩) hP hD hS hA [] rfl [] rfl (fun _ => rfl) 4 [0, 1, 2, 3] rfl (fun _u => [(hO, .inr (10, [.ref hAs, .ref hS1, .ref hT, .ref hY, .ref hR, .ref hZ, .ref hX, .int (nI 0)])), (hAs, .inl (cS, 4, .inr (.inr (.inr (.inr sg))))), (hH, .inr (3, [.ref q1, .int (nI fl), .int (nI ln), .int (nI sz)])), (q1, .inl (cI, 60, .inl f))]) (fun _ => rfl) [(hO, .inr (10, [.ref hAs, .ref hS1, .ref hT, .ref hY, .ref hR, .ref hZ, .ref hX, .int (nI 0)])), (hAs, .inl (cS, 4, .inr (.inr (.inr (.inr sg))))), (hH, .inr (3, [.ref q1, .int (nI fl), .int (nI ln), .int (nI sz)])), (q1, .inl (cI, 60, .inl f))] [] (fun _ => rfl) rfl (fun _ => rfl) rfl (fun r_3 _u H locs hr_4 hP hD hS => ?_)
  have hP : va_P D vwCl [(hO, .inr (10, [.ref hAs, .ref hS1, .ref hT, .ref hY, .ref hR, .ref hZ, .ref hX, .int (nI 0)])), (hAs, .inl (cS, 4, .inr (.inr (.inr (.inr sg))))), (hH, .inr (3, [.ref q1, .int (nI fl), .int (nI ln), .int (nI sz)])), (q1, .inl (cI, 60, .inl f))] H := hP
  have hD : va_D A [(hO, .inr (10, [.ref hAs, .ref hS1, .ref hT, .ref hY, .ref hR, .ref hZ, .ref hX, .int (nI 0)])), (hAs, .inl (cS, 4, .inr (.inr (.inr (.inr sg))))), (hH, .inr (3, [.ref q1, .int (nI fl), .int (nI ln), .int (nI sz)])), (q1, .inl (cI, 60, .inl f))] := hD
  subst hr_4
  refine k_ifc_eq (tgt := 32) hx hb dX10_sheet_23 (by decide) (fun c_5 => absurd ((inR_nI (by omega)).mpr (by omega)) c_5) (fun c_5 => ?_)
  refine lv_iload_n hx hb dX10_sheet_26 rfl (lv_at hl 4 rfl) ?_
  refine lv_bipush (v := (nI 60)) hx hb dX10_sheet_27 (by decide) ?_
  refine lv_icmp_le (tgt := 35) hx hb dX10_sheet_29 (by decide) (fun c_6 => absurd c_6 (hz1)) (fun c_6 => ?_)
  refine lv_bipush (v := (-2)) hx hb dX10_sheet_32 (by decide) ?_
  exact ret _ () _ _ _ _ dX10_sheet_34 (rfl) hP hD hS
def rm_X10_sheet_size : Room := { frames := 2, cells := 0, slots := 0, locals := 47 }
set_option maxHeartbeats 4000000 in
set_option maxRecDepth 100000 in
theorem c_X10_sheet_size (l : Launch) (D : va_G) (cI cZ cS cP : ClassId) (hO : Nat) (hAs : Nat) (hY : Nat) (hR : Nat) (hZ : Nat) (hX : Nat) (ft : Nat) (hS1 : Nat) (hT : Nat) (sg : Nat → Option Nat) (hH : Nat) (q1 : Nat) (f : Nat → Int32) (fl : Nat) (ln : Nat) (sz : Nat) (k : Nat) (y : Nat) (z : Int32) (hk1 : k < 4) (hsg : sg k = some hH) (hfl : fl < 2) (hln : ln < 3) (hsz : sz ≤ 60) (hy1 : y < 3) (hz1 : z ≤ nI 60) (hz2 : ¬ 0 ≤ z) : kMi (S := Unit) l yX10_sheet wsX10_sheet rm_X10_sheet_size D (kT cI cZ cS cP) [.ref hO, .int (nI k), .int (nI y), .int z] [(hO, .inr (10, [.ref hAs, .ref hS1, .ref hT, .ref hY, .ref hR, .ref hZ, .ref hX, .int (nI ft)])), (hAs, .inl (cS, 4, .inr (.inr (.inr (.inr sg))))), (hH, .inr (3, [.ref q1, .int (nI fl), .int (nI ln), .int (nI sz)])), (q1, .inl (cI, 60, .inl f))] (fun r _ => r = ((-10) - (nI 4))) (fun _ => [(hO, .inr (10, [.ref hAs, .ref hS1, .ref hT, .ref hY, .ref hR, .ref hZ, .ref hX, .int (nI 4)])), (hAs, .inl (cS, 4, .inr (.inr (.inr (.inr sg))))), (hH, .inr (3, [.ref q1, .int (nI fl), .int (nI ln), .int (nI sz)])), (q1, .inl (cI, 60, .inl f))]) := by
  refine kMet_i (cc := cX10_sheet) (maxL := 5) (ty := .int) (by decide) rfl (Nat.le_of_ble_eq_true rfl) (fun _ _ _ => rfl) ?_
  intro p e s m args below meth c A Q ls C hlocks hin hN hK hP hD hS hA hl ret
  obtain ⟨hx, hb, hml, hown, hts⟩ := C
  have hl : lv_has ls 5 [(0, .ref hO), (1, .int (nI k)), (2, .int (nI y)), (3, .int z)] := hl
  have in_X10 : ∀ w ∈ wsX100, w ∈ wsX10_sheet := by decide +kernel
  have lk0 := hts (.fieldLink RX10 62 "SilkWord" "latestFault" "I") (by decide +kernel)
  refine lv_aload_n hx hb dX10_sheet_0 rfl (lv_at hl 0 rfl) ?_
  refine lv_iconst (v := (nI 0)) hx hb dX10_sheet_1 (by decide) ?_
  refine va_put (D := D) (ci := 10) (v := .int (nI 0)) (ty := .int) (C := RX10) (T := TX10) (N := 8) hx hb hts in_X10 tyX10 tyX10_ok nmX10 hown hK hP hD hS 0 rfl rfl 7 (by decide) lk0 (fun _ h9 => h9) rfl (by decide +kernel) rfl rfl (Nat.le_of_ble_eq_true rfl) dX10_sheet_2 (fun H locs hP hD hS => ?_)
  have hP : va_P D vwCl [(hO, .inr (10, [.ref hAs, .ref hS1, .ref hT, .ref hY, .ref hR, .ref hZ, .ref hX, .int (nI 0)])), (hAs, .inl (cS, 4, .inr (.inr (.inr (.inr sg))))), (hH, .inr (3, [.ref q1, .int (nI fl), .int (nI ln), .int (nI sz)])), (q1, .inl (cI, 60, .inl f))] H := hP
  have hD : va_D A [(hO, .inr (10, [.ref hAs, .ref hS1, .ref hT, .ref hY, .ref hR, .ref hZ, .ref hX, .int (nI 0)])), (hAs, .inl (cS, 4, .inr (.inr (.inr (.inr sg))))), (hH, .inr (3, [.ref q1, .int (nI fl), .int (nI ln), .int (nI sz)])), (q1, .inl (cI, 60, .inl f))] := hD
  refine lv_aload_n hx hb dX10_sheet_5 rfl (lv_at hl 0 rfl) ?_
  refine lv_iload_n hx hb dX10_sheet_6 rfl (lv_at hl 1 rfl) ?_
  refine k_goq (S := Unit) (va_runV (As := [.int (nI k)]) (rest := []) ⟨hx, hb, hml, hown, hts⟩ (c_X10_sheetAt l D cI cZ cS cP hO hAs hY hR hZ hX 0 hS1 hT sg (nI k)  _) (cwV 1 hts gX10_sheet_X10_sheetAt rfl rfl rfl (by decide +kernel) ⟨Nat.le_of_ble_eq_true rfl, Nat.le_of_ble_eq_true rfl⟩) (kPreV hN hK hP hD [0, 1] rfl rfl (q0 := 0) (ci := 10) (q := (RX10, TX10, 8)) rfl rfl) rfl rfl hl.1 rfl (lv_room (Nat.le_of_ble_eq_true rfl)) dX10_sheet_7 ⟨Nat.le_of_ble_eq_true rfl, Nat.le_of_ble_eq_true rfl⟩) hP hD hS hA [0, 1] rfl [hO, hAs] rfl (fun _ => rfl) 4 [2, 3] rfl (fun _u => [(hO, .inr (10, [.ref hAs, .ref hS1, .ref hT, .ref hY, .ref hR, .ref hZ, .ref hX, .int (nI 0)])), (hAs, .inl (cS, 4, .inr (.inr (.inr (.inr sg))))), (hH, .inr (3, [.ref q1, .int (nI fl), .int (nI ln), .int (nI sz)])), (q1, .inl (cI, 60, .inl f))]) (fun _ => rfl) [(hH, .inr (3, [.ref q1, .int (nI fl), .int (nI ln), .int (nI sz)])), (q1, .inl (cI, 60, .inl f))] [] (fun _ => rfl) rfl (fun _ => rfl) rfl (fun r_1 _u H locs hr_2 hP hD hS => ?_)
  have hP : va_P D vwCl [(hO, .inr (10, [.ref hAs, .ref hS1, .ref hT, .ref hY, .ref hR, .ref hZ, .ref hX, .int (nI 0)])), (hAs, .inl (cS, 4, .inr (.inr (.inr (.inr sg))))), (hH, .inr (3, [.ref q1, .int (nI fl), .int (nI ln), .int (nI sz)])), (q1, .inl (cI, 60, .inl f))] H := hP
  have hD : va_D A [(hO, .inr (10, [.ref hAs, .ref hS1, .ref hT, .ref hY, .ref hR, .ref hZ, .ref hX, .int (nI 0)])), (hAs, .inl (cS, 4, .inr (.inr (.inr (.inr sg))))), (hH, .inr (3, [.ref q1, .int (nI fl), .int (nI ln), .int (nI sz)])), (q1, .inl (cI, 60, .inl f))] := hD
  subst hr_2
  refine k_eqr (show (if inR (nI k) 4 then sg (nI k).toNatClampNeg else none) = (some hH) from Eq.trans (sa_y (by omega)).symm hsg) ?_
  refine W.eq (g2 := F0 m 10 ls [.ref hH]) rfl ?_
  refine lv_astore (lv' := [(4, .ref hH), (0, .ref hO), (1, .int (nI k)), (2, .int (nI y)), (3, .int z)]) hx hb dX10_sheet_10 hl (by decide) rfl (fun ls hl => ?_)
  refine lv_aload hx hb dX10_sheet_12 (lv_at hl 0 rfl) ?_
  refine lv_ifnonnull (tgt := 19) hx hb dX10_sheet_14 (by decide) ?_
  refine lv_iload_n hx hb dX10_sheet_19 rfl (lv_at hl 3 rfl) ?_
  refine k_goi (S := Unit) (va_runS (As := [.int (nI y)]) (rest := []) ⟨hx, hb, hml, hown, hts⟩ (c_X10_isLane l D cI cZ cS cP (nI y)  _) (va_cwS 1 hts gX10_sheet_X10_isLane rfl rfl rfl (by decide +kernel) ⟨Nat.le_of_ble_eq_true rfl, Nat.le_of_ble_eq_true rfl⟩) (kPreS hN hK hP hD [] rfl rfl) rfl rfl hl.1 rfl (lv_room (Nat.le_of_ble_eq_true rfl)) dX10_sheet_20 ⟨Nat.le_of_ble_eq_true rfl, Nat.le_of_ble_eq_true rfl⟩) hP hD hS hA [] rfl [] rfl (fun _ => rfl) 4 [0, 1, 2, 3] rfl (fun _u => [(hO, .inr (10, [.ref hAs, .ref hS1, .ref hT, .ref hY, .ref hR, .ref hZ, .ref hX, .int (nI 0)])), (hAs, .inl (cS, 4, .inr (.inr (.inr (.inr sg))))), (hH, .inr (3, [.ref q1, .int (nI fl), .int (nI ln), .int (nI sz)])), (q1, .inl (cI, 60, .inl f))]) (fun _ => rfl) [(hO, .inr (10, [.ref hAs, .ref hS1, .ref hT, .ref hY, .ref hR, .ref hZ, .ref hX, .int (nI 0)])), (hAs, .inl (cS, 4, .inr (.inr (.inr (.inr sg))))), (hH, .inr (3, [.ref q1, .int (nI fl), .int (nI ln), .int (nI sz)])), (q1, .inl (cI, 60, .inl f))] [] (fun _ => rfl) rfl (fun _ => rfl) rfl (fun r_3 _u H locs hr_4 hP hD hS => ?_)
  have hP : va_P D vwCl [(hO, .inr (10, [.ref hAs, .ref hS1, .ref hT, .ref hY, .ref hR, .ref hZ, .ref hX, .int (nI 0)])), (hAs, .inl (cS, 4, .inr (.inr (.inr (.inr sg))))), (hH, .inr (3, [.ref q1, .int (nI fl), .int (nI ln), .int (nI sz)])), (q1, .inl (cI, 60, .inl f))] H := hP
  have hD : va_D A [(hO, .inr (10, [.ref hAs, .ref hS1, .ref hT, .ref hY, .ref hR, .ref hZ, .ref hX, .int (nI 0)])), (hAs, .inl (cS, 4, .inr (.inr (.inr (.inr sg))))), (hH, .inr (3, [.ref q1, .int (nI fl), .int (nI ln), .int (nI sz)])), (q1, .inl (cI, 60, .inl f))] := hD
  subst hr_4
  refine k_ifc_eq (tgt := 32) hx hb dX10_sheet_23 (by decide) (fun c_5 => absurd ((inR_nI (by omega)).mpr (by omega)) c_5) (fun c_5 => ?_)
  refine lv_iload_n hx hb dX10_sheet_26 rfl (lv_at hl 4 rfl) ?_
  refine lv_bipush (v := (nI 60)) hx hb dX10_sheet_27 (by decide) ?_
  refine lv_icmp_le (tgt := 35) hx hb dX10_sheet_29 (by decide) (fun c_6 => ?_) (fun c_6 => absurd c_6 (not_not_intro hz1))
  refine lv_iload_n hx hb dX10_sheet_35 rfl (lv_at hl 4 rfl) ?_
  refine lv_if_ge (tgt := 45) hx hb dX10_sheet_36 (by decide) (fun c_7 => absurd c_7 (hz2)) (fun c_7 => ?_)
  refine lv_aload_n hx hb dX10_sheet_39 rfl (lv_at hl 1 rfl) ?_
  refine lv_iconst (v := (nI 4)) hx hb dX10_sheet_40 (by decide) ?_
  refine k_goi (S := Unit) (va_runV (As := [.int (nI 4)]) (rest := []) ⟨hx, hb, hml, hown, hts⟩ (c_X10_faulted l D cI cZ cS cP hO hAs hY hR hZ hX 0 hS1 hT 4  _) (cwV 1 hts gX10_sheet_X10_faulted rfl rfl rfl (by decide +kernel) ⟨Nat.le_of_ble_eq_true rfl, Nat.le_of_ble_eq_true rfl⟩) (kPreV hN hK hP hD [0] rfl rfl (q0 := 0) (ci := 10) (q := (RX10, TX10, 8)) rfl rfl) rfl rfl hl.1 rfl (lv_room (Nat.le_of_ble_eq_true rfl)) dX10_sheet_41 ⟨Nat.le_of_ble_eq_true rfl, Nat.le_of_ble_eq_true rfl⟩) hP hD hS hA [0] rfl [hO] rfl (fun _ => rfl) 4 [1, 2, 3] rfl (fun _u => [(hO, .inr (10, [.ref hAs, .ref hS1, .ref hT, .ref hY, .ref hR, .ref hZ, .ref hX, .int (nI 4)])), (hAs, .inl (cS, 4, .inr (.inr (.inr (.inr sg))))), (hH, .inr (3, [.ref q1, .int (nI fl), .int (nI ln), .int (nI sz)])), (q1, .inl (cI, 60, .inl f))]) (fun _ => rfl) [(hAs, .inl (cS, 4, .inr (.inr (.inr (.inr sg))))), (hH, .inr (3, [.ref q1, .int (nI fl), .int (nI ln), .int (nI sz)])), (q1, .inl (cI, 60, .inl f))] [] (fun _ => rfl) rfl (fun _ => rfl) rfl (fun r_8 _u H locs hr_9 hP hD hS => ?_)
  have hP : va_P D vwCl [(hO, .inr (10, [.ref hAs, .ref hS1, .ref hT, .ref hY, .ref hR, .ref hZ, .ref hX, .int (nI 4)])), (hAs, .inl (cS, 4, .inr (.inr (.inr (.inr sg))))), (hH, .inr (3, [.ref q1, .int (nI fl), .int (nI ln), .int (nI sz)])), (q1, .inl (cI, 60, .inl f))] H := hP
  have hD : va_D A [(hO, .inr (10, [.ref hAs, .ref hS1, .ref hT, .ref hY, .ref hR, .ref hZ, .ref hX, .int (nI 4)])), (hAs, .inl (cS, 4, .inr (.inr (.inr (.inr sg))))), (hH, .inr (3, [.ref q1, .int (nI fl), .int (nI ln), .int (nI sz)])), (q1, .inl (cI, 60, .inl f))] := hD
  subst hr_9
  exact ret _ () _ _ _ _ dX10_sheet_44 (rfl) hP hD hS
def rm_X10_sheet_ok : Room := { frames := 2, cells := 0, slots := 0, locals := 47 }
set_option maxHeartbeats 4000000 in
set_option maxRecDepth 100000 in
theorem c_X10_sheet_ok (l : Launch) (D : va_G) (cI cZ cS cP : ClassId) (hO : Nat) (hAs : Nat) (hY : Nat) (hR : Nat) (hZ : Nat) (hX : Nat) (ft : Nat) (hS1 : Nat) (hT : Nat) (sg : Nat → Option Nat) (hH : Nat) (q1 : Nat) (f : Nat → Int32) (fl : Nat) (ln : Nat) (sz : Nat) (k : Nat) (y : Nat) (z : Nat) (hk1 : k < 4) (hsg : sg k = some hH) (hfl : fl < 2) (hln : ln < 3) (hsz : sz ≤ 60) (hy1 : y < 3) (hz1 : z ≤ 60) : kMi (S := Unit) l yX10_sheet wsX10_sheet rm_X10_sheet_ok D (kT cI cZ cS cP) [.ref hO, .int (nI k), .int (nI y), .int (nI z)] [(hO, .inr (10, [.ref hAs, .ref hS1, .ref hT, .ref hY, .ref hR, .ref hZ, .ref hX, .int (nI ft)])), (hAs, .inl (cS, 4, .inr (.inr (.inr (.inr sg))))), (hH, .inr (3, [.ref q1, .int (nI fl), .int (nI ln), .int (nI sz)])), (q1, .inl (cI, 60, .inl f))] (fun r _ => r = (nI 1)) (fun _ => [(hO, .inr (10, [.ref hAs, .ref hS1, .ref hT, .ref hY, .ref hR, .ref hZ, .ref hX, .int (nI 0)])), (hAs, .inl (cS, 4, .inr (.inr (.inr (.inr sg))))), (hH, .inr (3, [.ref q1, .int (nI 1), .int (nI y), .int (nI z)])), (q1, .inl (cI, 60, .inl (zf f 60)))]) := by
  refine kMet_i (cc := cX10_sheet) (maxL := 5) (ty := .int) (by decide) rfl (Nat.le_of_ble_eq_true rfl) (fun _ _ _ => rfl) ?_
  intro p e s m args below meth c A Q ls C hlocks hin hN hK hP hD hS hA hl ret
  obtain ⟨hx, hb, hml, hown, hts⟩ := C
  have hl : lv_has ls 5 [(0, .ref hO), (1, .int (nI k)), (2, .int (nI y)), (3, .int (nI z))] := hl
  have in_X10 : ∀ w ∈ wsX100, w ∈ wsX10_sheet := by decide +kernel
  have lk0 := hts (.fieldLink RX10 62 "SilkWord" "latestFault" "I") (by decide +kernel)
  refine lv_aload_n hx hb dX10_sheet_0 rfl (lv_at hl 0 rfl) ?_
  refine lv_iconst (v := (nI 0)) hx hb dX10_sheet_1 (by decide) ?_
  refine va_put (D := D) (ci := 10) (v := .int (nI 0)) (ty := .int) (C := RX10) (T := TX10) (N := 8) hx hb hts in_X10 tyX10 tyX10_ok nmX10 hown hK hP hD hS 0 rfl rfl 7 (by decide) lk0 (fun _ h9 => h9) rfl (by decide +kernel) rfl rfl (Nat.le_of_ble_eq_true rfl) dX10_sheet_2 (fun H locs hP hD hS => ?_)
  have hP : va_P D vwCl [(hO, .inr (10, [.ref hAs, .ref hS1, .ref hT, .ref hY, .ref hR, .ref hZ, .ref hX, .int (nI 0)])), (hAs, .inl (cS, 4, .inr (.inr (.inr (.inr sg))))), (hH, .inr (3, [.ref q1, .int (nI fl), .int (nI ln), .int (nI sz)])), (q1, .inl (cI, 60, .inl f))] H := hP
  have hD : va_D A [(hO, .inr (10, [.ref hAs, .ref hS1, .ref hT, .ref hY, .ref hR, .ref hZ, .ref hX, .int (nI 0)])), (hAs, .inl (cS, 4, .inr (.inr (.inr (.inr sg))))), (hH, .inr (3, [.ref q1, .int (nI fl), .int (nI ln), .int (nI sz)])), (q1, .inl (cI, 60, .inl f))] := hD
  refine lv_aload_n hx hb dX10_sheet_5 rfl (lv_at hl 0 rfl) ?_
  refine lv_iload_n hx hb dX10_sheet_6 rfl (lv_at hl 1 rfl) ?_
  refine k_goq (S := Unit) (va_runV (As := [.int (nI k)]) (rest := []) ⟨hx, hb, hml, hown, hts⟩ (c_X10_sheetAt l D cI cZ cS cP hO hAs hY hR hZ hX 0 hS1 hT sg (nI k)  _) (cwV 1 hts gX10_sheet_X10_sheetAt rfl rfl rfl (by decide +kernel) ⟨Nat.le_of_ble_eq_true rfl, Nat.le_of_ble_eq_true rfl⟩) (kPreV hN hK hP hD [0, 1] rfl rfl (q0 := 0) (ci := 10) (q := (RX10, TX10, 8)) rfl rfl) rfl rfl hl.1 rfl (lv_room (Nat.le_of_ble_eq_true rfl)) dX10_sheet_7 ⟨Nat.le_of_ble_eq_true rfl, Nat.le_of_ble_eq_true rfl⟩) hP hD hS hA [0, 1] rfl [hO, hAs] rfl (fun _ => rfl) 4 [2, 3] rfl (fun _u => [(hO, .inr (10, [.ref hAs, .ref hS1, .ref hT, .ref hY, .ref hR, .ref hZ, .ref hX, .int (nI 0)])), (hAs, .inl (cS, 4, .inr (.inr (.inr (.inr sg))))), (hH, .inr (3, [.ref q1, .int (nI fl), .int (nI ln), .int (nI sz)])), (q1, .inl (cI, 60, .inl f))]) (fun _ => rfl) [(hH, .inr (3, [.ref q1, .int (nI fl), .int (nI ln), .int (nI sz)])), (q1, .inl (cI, 60, .inl f))] [] (fun _ => rfl) rfl (fun _ => rfl) rfl (fun r_1 _u H locs hr_2 hP hD hS => ?_)
  have hP : va_P D vwCl [(hO, .inr (10, [.ref hAs, .ref hS1, .ref hT, .ref hY, .ref hR, .ref hZ, .ref hX, .int (nI 0)])), (hAs, .inl (cS, 4, .inr (.inr (.inr (.inr sg))))), (hH, .inr (3, [.ref q1, .int (nI fl), .int (nI ln), .int (nI sz)])), (q1, .inl (cI, 60, .inl f))] H := hP
  have hD : va_D A [(hO, .inr (10, [.ref hAs, .ref hS1, .ref hT, .ref hY, .ref hR, .ref hZ, .ref hX, .int (nI 0)])), (hAs, .inl (cS, 4, .inr (.inr (.inr (.inr sg))))), (hH, .inr (3, [.ref q1, .int (nI fl), .int (nI ln), .int (nI sz)])), (q1, .inl (cI, 60, .inl f))] := hD
  subst hr_2
  refine k_eqr (show (if inR (nI k) 4 then sg (nI k).toNatClampNeg else none) = (some hH) from Eq.trans (sa_y (by omega)).symm hsg) ?_
  refine W.eq (g2 := F0 m 10 ls [.ref hH]) rfl ?_
  refine lv_astore (lv' := [(4, .ref hH), (0, .ref hO), (1, .int (nI k)), (2, .int (nI y)), (3, .int (nI z))]) hx hb dX10_sheet_10 hl (by decide) rfl (fun ls hl => ?_)
  refine lv_aload hx hb dX10_sheet_12 (lv_at hl 0 rfl) ?_
  refine lv_ifnonnull (tgt := 19) hx hb dX10_sheet_14 (by decide) ?_
  refine lv_iload_n hx hb dX10_sheet_19 rfl (lv_at hl 3 rfl) ?_
  refine k_goi (S := Unit) (va_runS (As := [.int (nI y)]) (rest := []) ⟨hx, hb, hml, hown, hts⟩ (c_X10_isLane l D cI cZ cS cP (nI y)  _) (va_cwS 1 hts gX10_sheet_X10_isLane rfl rfl rfl (by decide +kernel) ⟨Nat.le_of_ble_eq_true rfl, Nat.le_of_ble_eq_true rfl⟩) (kPreS hN hK hP hD [] rfl rfl) rfl rfl hl.1 rfl (lv_room (Nat.le_of_ble_eq_true rfl)) dX10_sheet_20 ⟨Nat.le_of_ble_eq_true rfl, Nat.le_of_ble_eq_true rfl⟩) hP hD hS hA [] rfl [] rfl (fun _ => rfl) 4 [0, 1, 2, 3] rfl (fun _u => [(hO, .inr (10, [.ref hAs, .ref hS1, .ref hT, .ref hY, .ref hR, .ref hZ, .ref hX, .int (nI 0)])), (hAs, .inl (cS, 4, .inr (.inr (.inr (.inr sg))))), (hH, .inr (3, [.ref q1, .int (nI fl), .int (nI ln), .int (nI sz)])), (q1, .inl (cI, 60, .inl f))]) (fun _ => rfl) [(hO, .inr (10, [.ref hAs, .ref hS1, .ref hT, .ref hY, .ref hR, .ref hZ, .ref hX, .int (nI 0)])), (hAs, .inl (cS, 4, .inr (.inr (.inr (.inr sg))))), (hH, .inr (3, [.ref q1, .int (nI fl), .int (nI ln), .int (nI sz)])), (q1, .inl (cI, 60, .inl f))] [] (fun _ => rfl) rfl (fun _ => rfl) rfl (fun r_3 _u H locs hr_4 hP hD hS => ?_)
  have hP : va_P D vwCl [(hO, .inr (10, [.ref hAs, .ref hS1, .ref hT, .ref hY, .ref hR, .ref hZ, .ref hX, .int (nI 0)])), (hAs, .inl (cS, 4, .inr (.inr (.inr (.inr sg))))), (hH, .inr (3, [.ref q1, .int (nI fl), .int (nI ln), .int (nI sz)])), (q1, .inl (cI, 60, .inl f))] H := hP
  have hD : va_D A [(hO, .inr (10, [.ref hAs, .ref hS1, .ref hT, .ref hY, .ref hR, .ref hZ, .ref hX, .int (nI 0)])), (hAs, .inl (cS, 4, .inr (.inr (.inr (.inr sg))))), (hH, .inr (3, [.ref q1, .int (nI fl), .int (nI ln), .int (nI sz)])), (q1, .inl (cI, 60, .inl f))] := hD
  subst hr_4
  refine k_ifc_eq (tgt := 32) hx hb dX10_sheet_23 (by decide) (fun c_5 => absurd ((inR_nI (by omega)).mpr (by omega)) c_5) (fun c_5 => ?_)
  refine lv_iload_n hx hb dX10_sheet_26 rfl (lv_at hl 4 rfl) ?_
  refine lv_bipush (v := (nI 60)) hx hb dX10_sheet_27 (by decide) ?_
  refine k_icmp_le (tgt := 35) hx hb dX10_sheet_29 (by decide) (show z < 2 ^ 31 by first | omega | (split <;> omega)) (show 60 < 2 ^ 31 by first | omega | (split <;> omega)) (fun c_6 => ?_) (fun c_6 => absurd c_6 (by omega))
  refine lv_iload_n hx hb dX10_sheet_35 rfl (lv_at hl 4 rfl) ?_
  refine k_if_ge (tgt := 45) hx hb dX10_sheet_36 (by decide) (show z < 2 ^ 31 by first | omega | (split <;> omega)) ?_
  refine lv_aload hx hb dX10_sheet_45 (lv_at hl 0 rfl) ?_
  refine lv_iload_n hx hb dX10_sheet_47 rfl (lv_at hl 3 rfl) ?_
  refine lv_iload_n hx hb dX10_sheet_48 rfl (lv_at hl 4 rfl) ?_
  refine k_gov (S := Unit) (va_runV (As := [.int (nI y), .int (nI z)]) (rest := []) ⟨hx, hb, hml, hown, hts⟩ (c_X3_renew l D cI cZ cS cP hH q1 f fl ln sz y z (by first | assumption | omega) (by first | assumption | omega) _) (cwV 2 hts gX10_sheet_X3_renew rfl rfl rfl (by decide +kernel) ⟨Nat.le_of_ble_eq_true rfl, Nat.le_of_ble_eq_true rfl⟩) (kPreV hN hK hP hD [2, 3] rfl rfl (q0 := 0) (ci := 3) (q := (RX3, TX3, 4)) rfl rfl) rfl rfl hl.1 rfl (lv_room (Nat.le_of_ble_eq_true rfl)) dX10_sheet_49 ⟨Nat.le_of_ble_eq_true rfl, Nat.le_of_ble_eq_true rfl⟩) hP hD hS hA [2, 3] rfl [hH, q1] rfl (fun _ => rfl) 4 [0, 1] rfl (fun _u => [(hO, .inr (10, [.ref hAs, .ref hS1, .ref hT, .ref hY, .ref hR, .ref hZ, .ref hX, .int (nI 0)])), (hAs, .inl (cS, 4, .inr (.inr (.inr (.inr sg))))), (hH, .inr (3, [.ref q1, .int (nI 1), .int (nI y), .int (nI z)])), (q1, .inl (cI, 60, .inl (zf f 60)))]) (fun _ => rfl) [(hO, .inr (10, [.ref hAs, .ref hS1, .ref hT, .ref hY, .ref hR, .ref hZ, .ref hX, .int (nI 0)])), (hAs, .inl (cS, 4, .inr (.inr (.inr (.inr sg)))))] [] (fun _ => rfl) rfl (fun _ => rfl) rfl (fun _u H locs hr_8 hP hD hS => ?_)
  have hP : va_P D vwCl [(hO, .inr (10, [.ref hAs, .ref hS1, .ref hT, .ref hY, .ref hR, .ref hZ, .ref hX, .int (nI 0)])), (hAs, .inl (cS, 4, .inr (.inr (.inr (.inr sg))))), (hH, .inr (3, [.ref q1, .int (nI 1), .int (nI y), .int (nI z)])), (q1, .inl (cI, 60, .inl (zf f 60)))] H := hP
  have hD : va_D A [(hO, .inr (10, [.ref hAs, .ref hS1, .ref hT, .ref hY, .ref hR, .ref hZ, .ref hX, .int (nI 0)])), (hAs, .inl (cS, 4, .inr (.inr (.inr (.inr sg))))), (hH, .inr (3, [.ref q1, .int (nI 1), .int (nI y), .int (nI z)])), (q1, .inl (cI, 60, .inl (zf f 60)))] := hD
  refine lv_iconst (v := (nI 1)) hx hb dX10_sheet_52 (by decide) ?_
  exact ret _ () _ _ _ _ dX10_sheet_53 (rfl) hP hD hS
