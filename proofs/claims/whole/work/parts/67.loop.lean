def Op_street (l : Launch) (D : va_G) (cI cZ cS cP : ClassId) (hO hM : Nat) (J : va_W → Prop) : Prop := ∀ w0 : va_W, J w0 → ∀ (a1 : Int32) (a2 : Int32) (a3 : Int32) (a4 : Int32), CkI l yX10_street wsX10_street D (kT cI cZ cS cP) hO 10 [.int a1, .int a2, .int a3, .int a4] w0 (fun r w1 => CkI l yX11_street wsX11_street D (kT cI cZ cS cP) hM 11 [.int a1, .int a2, .int a3, .int a4] w1 (fun r2 w2 => r2 = r ∧ J w2))
def Op_ofPerson (l : Launch) (D : va_G) (cI cZ cS cP : ClassId) (hO hM : Nat) (J : va_W → Prop) : Prop := ∀ w0 : va_W, J w0 → ∀ (a1 : Int32) (a2 : Int32), CkI l yX10_ofPerson wsX10_ofPerson D (kT cI cZ cS cP) hO 10 [.int a1, .int a2] w0 (fun r w1 => CkI l yX11_ofPerson wsX11_ofPerson D (kT cI cZ cS cP) hM 11 [.int a1, .int a2] w1 (fun r2 w2 => r2 = r ∧ J w2))
def Op_word (l : Launch) (D : va_G) (cI cZ cS cP : ClassId) (hO hM : Nat) (J : va_W → Prop) : Prop := ∀ w0 : va_W, J w0 → ∀ (a1 : Int32) (a2 : Int32), CkI l yX10_word wsX10_word D (kT cI cZ cS cP) hO 10 [.int a1, .int a2] w0 (fun r w1 => CkI l yX11_word wsX11_word D (kT cI cZ cS cP) hM 11 [.int a1, .int a2] w1 (fun r2 w2 => r2 = r ∧ J w2))
def Op_unsay (l : Launch) (D : va_G) (cI cZ cS cP : ClassId) (hO hM : Nat) (J : va_W → Prop) : Prop := ∀ w0 : va_W, J w0 → ∀ (a1 : Int32), CkI l yX10_unsay wsX10_unsay D (kT cI cZ cS cP) hO 10 [.int a1] w0 (fun r w1 => CkI l yX11_unsay wsX11_unsay D (kT cI cZ cS cP) hM 11 [.int a1] w1 (fun r2 w2 => r2 = r ∧ J w2))
def Op_bribe (l : Launch) (D : va_G) (cI cZ cS cP : ClassId) (hO hM : Nat) (J : va_W → Prop) : Prop := ∀ w0 : va_W, J w0 → ∀ (a1 : Int32) (a2 : Nat), a2 < 2 → CkI l yX10_bribe wsX10_bribe D (kT cI cZ cS cP) hO 10 [.int a1, .int (nI a2)] w0 (fun r w1 => CkI l yX11_bribe wsX11_bribe D (kT cI cZ cS cP) hM 11 [.int a1, .int (nI a2)] w1 (fun r2 w2 => r2 = r ∧ J w2))
def Op_whisper (l : Launch) (D : va_G) (cI cZ cS cP : ClassId) (hO hM : Nat) (J : va_W → Prop) : Prop := ∀ w0 : va_W, J w0 → ∀ (a1 : Int32) (a2 : Int32), CkI l yX10_whisper wsX10_whisper D (kT cI cZ cS cP) hO 10 [.int a1, .int a2] w0 (fun r w1 => CkI l yX11_whisper wsX11_whisper D (kT cI cZ cS cP) hM 11 [.int a1, .int a2] w1 (fun r2 w2 => r2 = r ∧ J w2))
def Op_forget (l : Launch) (D : va_G) (cI cZ cS cP : ClassId) (hO hM : Nat) (J : va_W → Prop) : Prop := ∀ w0 : va_W, J w0 → ∀ (a1 : Int32), CkI l yX10_forget wsX10_forget D (kT cI cZ cS cP) hO 10 [.int a1] w0 (fun r w1 => CkI l yX11_forget wsX11_forget D (kT cI cZ cS cP) hM 11 [.int a1] w1 (fun r2 w2 => r2 = r ∧ J w2))
def Op_says (l : Launch) (D : va_G) (cI cZ cS cP : ClassId) (hO hM : Nat) (J : va_W → Prop) : Prop := ∀ w0 : va_W, J w0 → ∀ (a1 : Int32), CkI l yX10_says wsX10_says D (kT cI cZ cS cP) hO 10 [.int a1] w0 (fun r w1 => CkI l yX11_says wsX11_says D (kT cI cZ cS cP) hM 11 [.int a1] w1 (fun r2 w2 => r2 = r ∧ J w2))
def Op_crowd (l : Launch) (D : va_G) (cI cZ cS cP : ClassId) (hO hM : Nat) (J : va_W → Prop) : Prop := ∀ w0 : va_W, J w0 → ∀ (a1 : Int32), CkI l yX10_crowd wsX10_crowd D (kT cI cZ cS cP) hO 10 [.int a1] w0 (fun r w1 => CkI l yX11_crowd wsX11_crowd D (kT cI cZ cS cP) hM 11 [.int a1] w1 (fun r2 w2 => r2 = r ∧ J w2))
def Op_heard (l : Launch) (D : va_G) (cI cZ cS cP : ClassId) (hO hM : Nat) (J : va_W → Prop) : Prop := ∀ w0 : va_W, J w0 → ∀ (a1 : Int32) (a2 : Int32) (a3 : Int32), CkI l yX10_heard wsX10_heard D (kT cI cZ cS cP) hO 10 [.int a1, .int a2, .int a3] w0 (fun r w1 => CkI l yX11_heard wsX11_heard D (kT cI cZ cS cP) hM 11 [.int a1, .int a2, .int a3] w1 (fun r2 w2 => r2 = r ∧ J w2))
def Op_silence (l : Launch) (D : va_G) (cI cZ cS cP : ClassId) (hO hM : Nat) (J : va_W → Prop) : Prop := ∀ w0 : va_W, J w0 → CkI l yX10_silence wsX10_silence D (kT cI cZ cS cP) hO 10 [] w0 (fun r w1 => CkI l yX11_silence wsX11_silence D (kT cI cZ cS cP) hM 11 [] w1 (fun r2 w2 => r2 = r ∧ J w2))
def Op_noticed (l : Launch) (D : va_G) (cI cZ cS cP : ClassId) (hO hM : Nat) (J : va_W → Prop) : Prop := ∀ w0 : va_W, J w0 → CkI l yX10_noticed wsX10_noticed D (kT cI cZ cS cP) hO 10 [] w0 (fun r w1 => CkI l yX11_noticed wsX11_noticed D (kT cI cZ cS cP) hM 11 [] w1 (fun r2 w2 => r2 = r ∧ J w2))
def Op_fewest (l : Launch) (D : va_G) (cI cZ cS cP : ClassId) (hO hM : Nat) (J : va_W → Prop) : Prop := ∀ w0 : va_W, J w0 → CkI l yX10_fewest wsX10_fewest D (kT cI cZ cS cP) hO 10 [] w0 (fun r w1 => CkI l yX11_fewest wsX11_fewest D (kT cI cZ cS cP) hM 11 [] w1 (fun r2 w2 => r2 = r ∧ J w2))
def Op_bribes (l : Launch) (D : va_G) (cI cZ cS cP : ClassId) (hO hM : Nat) (J : va_W → Prop) : Prop := ∀ w0 : va_W, J w0 → ∀ (a1 : Int32), CkI l yX10_bribes wsX10_bribes D (kT cI cZ cS cP) hO 10 [.int a1] w0 (fun r w1 => CkI l yX11_bribes wsX11_bribes D (kT cI cZ cS cP) hM 11 [.int a1] w1 (fun r2 w2 => r2 = r ∧ J w2))
def Op_whispers (l : Launch) (D : va_G) (cI cZ cS cP : ClassId) (hO hM : Nat) (J : va_W → Prop) : Prop := ∀ w0 : va_W, J w0 → ∀ (a1 : Int32), CkI l yX10_whispers wsX10_whispers D (kT cI cZ cS cP) hO 10 [.int a1] w0 (fun r w1 => CkI l yX11_whispers wsX11_whispers D (kT cI cZ cS cP) hM 11 [.int a1] w1 (fun r2 w2 => r2 = r ∧ J w2))
def Op_worth (l : Launch) (D : va_G) (cI cZ cS cP : ClassId) (hO hM : Nat) (J : va_W → Prop) : Prop := ∀ w0 : va_W, J w0 → ∀ (a1 : Int32), CkI l yX10_worth wsX10_worth D (kT cI cZ cS cP) hO 10 [.int a1] w0 (fun r w1 => CkI l yX11_worth wsX11_worth D (kT cI cZ cS cP) hM 11 [.int a1] w1 (fun r2 w2 => r2 = r ∧ J w2))
def Op_asked (l : Launch) (D : va_G) (cI cZ cS cP : ClassId) (hO hM : Nat) (J : va_W → Prop) : Prop := ∀ w0 : va_W, J w0 → ∀ (a1 : Int32) (a2 : Int32) (a3 : Int32) (a4 : Int32), CkI l yX10_asked wsX10_asked D (kT cI cZ cS cP) hO 10 [.int a1, .int a2, .int a3, .int a4] w0 (fun r w1 => CkI l yX11_asked wsX11_asked D (kT cI cZ cS cP) hM 11 [.int a1, .int a2, .int a3, .int a4] w1 (fun r2 w2 => r2 = r ∧ J w2))
def Op_reading (l : Launch) (D : va_G) (cI cZ cS cP : ClassId) (hO hM : Nat) (J : va_W → Prop) : Prop := ∀ w0 : va_W, J w0 → ∀ (a1 : Int32) (a2 : Int32) (a3 : Nat), a3 < 2 → CkI l yX10_reading wsX10_reading D (kT cI cZ cS cP) hO 10 [.int a1, .int a2, .int (nI a3)] w0 (fun r w1 => CkI l yX11_reading wsX11_reading D (kT cI cZ cS cP) hM 11 [.int a1, .int a2, .int (nI a3)] w1 (fun r2 w2 => r2 = r ∧ J w2))
def Op_back (l : Launch) (D : va_G) (cI cZ cS cP : ClassId) (hO hM : Nat) (J : va_W → Prop) : Prop := ∀ w0 : va_W, J w0 → ∀ (a1 : Int32), CkI l yX10_back wsX10_back D (kT cI cZ cS cP) hO 10 [.int a1] w0 (fun r w1 => CkI l yX11_back wsX11_back D (kT cI cZ cS cP) hM 11 [.int a1] w1 (fun r2 w2 => r2 = r ∧ J w2))
def Op_where (l : Launch) (D : va_G) (cI cZ cS cP : ClassId) (hO hM : Nat) (J : va_W → Prop) : Prop := ∀ w0 : va_W, J w0 → ∀ (a1 : Int32), CkI l yX10_where wsX10_where D (kT cI cZ cS cP) hO 10 [.int a1] w0 (fun r w1 => CkI l yX11_where wsX11_where D (kT cI cZ cS cP) hM 11 [.int a1] w1 (fun r2 w2 => r2 = r ∧ J w2))
def Op_paid (l : Launch) (D : va_G) (cI cZ cS cP : ClassId) (hO hM : Nat) (J : va_W → Prop) : Prop := ∀ w0 : va_W, J w0 → CkI l yX10_paid wsX10_paid D (kT cI cZ cS cP) hO 10 [] w0 (fun r w1 => CkI l yX11_paid wsX11_paid D (kT cI cZ cS cP) hM 11 [] w1 (fun r2 w2 => r2 = r ∧ J w2))
def Op_odds (l : Launch) (D : va_G) (cI cZ cS cP : ClassId) (hO hM : Nat) (J : va_W → Prop) : Prop := ∀ w0 : va_W, J w0 → ∀ (a1 : Int32) (a2 : Int32) (a3 : Int32), CkL l yX10_odds wsX10_odds D (kT cI cZ cS cP) hO 10 [.int a1, .int a2, .int a3] w0 (fun r w1 => CkL l yX11_odds wsX11_odds D (kT cI cZ cS cP) hM 11 [.int a1, .int a2, .int a3] w1 (fun r2 w2 => r2 = r ∧ J w2))
def Op_sheet (l : Launch) (D : va_G) (cI cZ cS cP : ClassId) (hO hM : Nat) (J : va_W → Prop) : Prop := ∀ w0 : va_W, J w0 → ∀ (a1 : Int32) (a2 : Int32) (a3 : Int32), CkI l yX10_sheet wsX10_sheet D (kT cI cZ cS cP) hO 10 [.int a1, .int a2, .int a3] w0 (fun r w1 => CkI l yX11_sheet wsX11_sheet D (kT cI cZ cS cP) hM 11 [.int a1, .int a2, .int a3] w1 (fun r2 w2 => r2 = r ∧ J w2))
def Op_lose (l : Launch) (D : va_G) (cI cZ cS cP : ClassId) (hO hM : Nat) (J : va_W → Prop) : Prop := ∀ w0 : va_W, J w0 → ∀ (a1 : Int32), CkI l yX10_lose wsX10_lose D (kT cI cZ cS cP) hO 10 [.int a1] w0 (fun r w1 => CkI l yX11_lose wsX11_lose D (kT cI cZ cS cP) hM 11 [.int a1] w1 (fun r2 w2 => r2 = r ∧ J w2))
def Op_put (l : Launch) (D : va_G) (cI cZ cS cP : ClassId) (hO hM : Nat) (J : va_W → Prop) : Prop := ∀ w0 : va_W, J w0 → ∀ (a1 : Int32) (a2 : Int32) (a3 : Int32), CkI l yX10_put wsX10_put D (kT cI cZ cS cP) hO 10 [.int a1, .int a2, .int a3] w0 (fun r w1 => CkI l yX11_put wsX11_put D (kT cI cZ cS cP) hM 11 [.int a1, .int a2, .int a3] w1 (fun r2 w2 => r2 = r ∧ J w2))
def Op_cell (l : Launch) (D : va_G) (cI cZ cS cP : ClassId) (hO hM : Nat) (J : va_W → Prop) : Prop := ∀ w0 : va_W, J w0 → ∀ (a1 : Int32) (a2 : Int32) (a3 : Int32), CkL l yX10_cell wsX10_cell D (kT cI cZ cS cP) hO 10 [.int a1, .int a2, .int a3] w0 (fun r w1 => CkL l yX11_cell wsX11_cell D (kT cI cZ cS cP) hM 11 [.int a1, .int a2, .int a3] w1 (fun r2 w2 => r2 = r ∧ J w2))
def Op_copy (l : Launch) (D : va_G) (cI cZ cS cP : ClassId) (hO hM : Nat) (J : va_W → Prop) : Prop := ∀ w0 : va_W, J w0 → ∀ (a1 : Int32) (a2 : Int32) (a3 : Int32) (a4 : Int32) (a5 : Int32), CkI l yX10_copy wsX10_copy D (kT cI cZ cS cP) hO 10 [.int a1, .int a2, .int a3, .int a4, .int a5] w0 (fun r w1 => CkI l yX11_copy wsX11_copy D (kT cI cZ cS cP) hM 11 [.int a1, .int a2, .int a3, .int a4, .int a5] w1 (fun r2 w2 => r2 = r ∧ J w2))
def Op_tell (l : Launch) (D : va_G) (cI cZ cS cP : ClassId) (hO hM : Nat) (J : va_W → Prop) : Prop := ∀ w0 : va_W, J w0 → ∀ (a1 : Int32), CkI l yX10_tell wsX10_tell D (kT cI cZ cS cP) hO 10 [.int a1] w0 (fun r w1 => CkI l yX11_tell wsX11_tell D (kT cI cZ cS cP) hM 11 [.int a1] w1 (fun r2 w2 => r2 = r ∧ J w2))
def Op_bow (l : Launch) (D : va_G) (cI cZ cS cP : ClassId) (hO hM : Nat) (J : va_W → Prop) : Prop := ∀ w0 : va_W, J w0 → ∀ (a1 : Int32), CkI l yX10_bow wsX10_bow D (kT cI cZ cS cP) hO 10 [.int a1] w0 (fun r w1 => CkI l yX11_bow wsX11_bow D (kT cI cZ cS cP) hM 11 [.int a1] w1 (fun r2 w2 => r2 = r ∧ J w2))
def Op_as (l : Launch) (D : va_G) (cI cZ cS cP : ClassId) (hO hM : Nat) (J : va_W → Prop) : Prop := ∀ w0 : va_W, J w0 → ∀ (a1 : Int32) (a2 : Int32), CkI l yX10_as wsX10_as D (kT cI cZ cS cP) hO 10 [.int a1, .int a2] w0 (fun r w1 => CkI l yX11_as wsX11_as D (kT cI cZ cS cP) hM 11 [.int a1, .int a2] w1 (fun r2 w2 => r2 = r ∧ J w2))
def Op_trace (l : Launch) (D : va_G) (cI cZ cS cP : ClassId) (hO hM : Nat) (J : va_W → Prop) : Prop := ∀ w0 : va_W, J w0 → CkI l yX10_trace wsX10_trace D (kT cI cZ cS cP) hO 10 [] w0 (fun r w1 => CkI l yX11_trace wsX11_trace D (kT cI cZ cS cP) hM 11 [] w1 (fun r2 w2 => r2 = r ∧ J w2))
def Op_fault (l : Launch) (D : va_G) (cI cZ cS cP : ClassId) (hO hM : Nat) (J : va_W → Prop) : Prop := ∀ w0 : va_W, J w0 → CkI l yX10_fault wsX10_fault D (kT cI cZ cS cP) hO 10 [] w0 (fun r w1 => CkI l yX11_fault wsX11_fault D (kT cI cZ cS cP) hM 11 [] w1 (fun r2 w2 => r2 = r ∧ J w2))
def Op_many (l : Launch) (D : va_G) (cI cZ cS cP : ClassId) (hO hM : Nat) (J : va_W → Prop) : Prop := ∀ w0 : va_W, J w0 → ∀ (a1 : Int32), CkI l yX10_many wsX10_many D (kT cI cZ cS cP) hO 10 [.int a1] w0 (fun r w1 => CkI l yX11_many wsX11_many D (kT cI cZ cS cP) hM 11 [.int a1] w1 (fun r2 w2 => r2 = r ∧ J w2))
def OpAll (l : Launch) (D : va_G) (cI cZ cS cP : ClassId) (hO hM : Nat) (J : va_W → Prop) : Prop := Op_street l D cI cZ cS cP hO hM J ∧ Op_ofPerson l D cI cZ cS cP hO hM J ∧ Op_word l D cI cZ cS cP hO hM J ∧ Op_unsay l D cI cZ cS cP hO hM J ∧ Op_bribe l D cI cZ cS cP hO hM J ∧ Op_whisper l D cI cZ cS cP hO hM J ∧ Op_forget l D cI cZ cS cP hO hM J ∧ Op_says l D cI cZ cS cP hO hM J ∧ Op_crowd l D cI cZ cS cP hO hM J ∧ Op_heard l D cI cZ cS cP hO hM J ∧ Op_silence l D cI cZ cS cP hO hM J ∧ Op_noticed l D cI cZ cS cP hO hM J ∧ Op_fewest l D cI cZ cS cP hO hM J ∧ Op_bribes l D cI cZ cS cP hO hM J ∧ Op_whispers l D cI cZ cS cP hO hM J ∧ Op_worth l D cI cZ cS cP hO hM J ∧ Op_asked l D cI cZ cS cP hO hM J ∧ Op_reading l D cI cZ cS cP hO hM J ∧ Op_back l D cI cZ cS cP hO hM J ∧ Op_where l D cI cZ cS cP hO hM J ∧ Op_paid l D cI cZ cS cP hO hM J ∧ Op_odds l D cI cZ cS cP hO hM J ∧ Op_sheet l D cI cZ cS cP hO hM J ∧ Op_lose l D cI cZ cS cP hO hM J ∧ Op_put l D cI cZ cS cP hO hM J ∧ Op_cell l D cI cZ cS cP hO hM J ∧ Op_copy l D cI cZ cS cP hO hM J ∧ Op_tell l D cI cZ cS cP hO hM J ∧ Op_bow l D cI cZ cS cP hO hM J ∧ Op_as l D cI cZ cS cP hO hM J ∧ Op_trace l D cI cZ cS cP hO hM J ∧ Op_fault l D cI cZ cS cP hO hM J ∧ Op_many l D cI cZ cS cP hO hM J
theorem sw64 (x : Int32) : ∃ k : Nat, k < 64 ∧ x &&& nI 63 = nI k := by
  refine ⟨x.toBitVec.toNat &&& 63, Nat.lt_of_le_of_lt Nat.and_le_right (by decide), ?_⟩
  apply Int32.toBitVec.inj
  rw [Int32.toBitVec_and, nI_tb, nI_tb]
  apply BitVec.eq_of_toNat_eq
  rw [BitVec.toNat_and, BitVec.toNat_ofNat, BitVec.toNat_ofNat]
  have : x.toBitVec.toNat &&& 63 < 2 ^ 32 := Nat.lt_of_le_of_lt Nat.and_le_right (by decide)
  rw [Nat.mod_eq_of_lt this]
theorem len6 {i L : Nat} (hL : L ≤ 384) (hi : i ≤ L) (h : ¬ (Int32.ofNat L) - (nI 6) < nI i) : i + 6 ≤ L := by
  have e1 : (nI L).toInt = (L : Int) := nI_toInt (by omega)
  have e2 : (nI 6).toInt = 6 := by decide
  have e3 : (nI L - nI 6).toInt = (L : Int) - 6 := by
    rw [Int32.toInt_sub, e1, e2]
    apply Int.bmod_eq_of_le <;> omega
  rw [show Int32.ofNat L = nI L from rfl, Int32.lt_iff_toInt_lt, e3, nI_toInt (by omega)] at h
  omega
set_option maxHeartbeats 4000000 in
set_option maxRecDepth 100000 in
/-- THE LAW'S LOOP -/
theorem law_loop {p : Program} {l : Launch} {e : Env} {s : State} {m : MethodId} {below : List Frame} {meth : Method} {c : Code} {D : va_G} {cI cZ cS cP : ClassId} {b L hO hM : Nat} {xs : Nat → Int32} {J : va_W → Prop} (hL : L ≤ 384) (C0 : lw_At p s m meth c b L xs) (htl : ∀ w ∈ wsL_law, w.before #[Value.ref b] s = true) (hN : kN s) (hK : va_K D vwCl (kT cI cZ cS cP) s) (hops : OpAll l D cI cZ cS cP hO hM J) :
    ∀ (n i cells slots : Nat), i ≤ L → L ≤ i + n → cells + 14 * (n + 1) ≤ 600000 → slots + 42 * (n + 1) ≤ 7302250 → ∀ (H : Heap) (locs : List Loc) (w0 : va_W) (ls : Array Slot), J w0 → va_P D vwCl w0 H → va_D (fun q : Nat => s.heap.size ≤ q) w0 → va_S (fun q : Nat => s.heap.size ≤ q) s.heap H locs → lv_has ls 4 [(0, .ref b), (1, .ref hO), (2, .ref hM), (3, .int (nI i))] → W p l e room_1 s m #[Value.ref b] below meth c H locs cells slots (lw_Z below #[Value.ref b] s) (F0 m 18 ls []) := by
  obtain ⟨hx, hb, hr, hml, hown, hts, hX, hbl, hlocks, hgv⟩ := C0
  have hA : ∀ q : Nat, s.heap.size ≤ q → (fun q : Nat => s.heap.size ≤ q) q := fun _ h => h
  have hbA : ¬ (fun q : Nat => s.heap.size ≤ q) b := Nat.not_le.mpr hbl
  obtain ⟨o_street, o_ofPerson, o_word, o_unsay, o_bribe, o_whisper, o_forget, o_says, o_crowd, o_heard, o_silence, o_noticed, o_fewest, o_bribes, o_whispers, o_worth, o_asked, o_reading, o_back, o_where, o_paid, o_odds, o_sheet, o_lose, o_put, o_cell, o_copy, o_tell, o_bow, o_as, o_trace, o_fault, o_many⟩ := hops
  intro n
  induction n using Nat.strongRecOn with
  | _ n ih =>
    intro i cells slots hi hin hce hsl H locs w0 ls hJ hP hD hS hl
    refine lv_iload_n hx hb dL_law_18 rfl (lv_at hl 3 rfl) ?_
    refine lv_aload_n hx hb dL_law_19 rfl (lv_at hl 0 rfl) ?_
    refine va_slen hx hb hX hbl hbA hS dL_law_20 ?_
    refine lv_bipush (v := nI 6) hx hb dL_law_21 (by decide) ?_
    refine lv_isub hx hb dL_law_23 ?_
    refine lv_icmp_gt (tgt := 1189) hx hb dL_law_24 (by decide) (fun c_1 => ?_) (fun c_1 => ?_)
    · refine lv_iconst (v := 1) hx hb dL_law_1189 (by decide) ?_
      refine va_forget (fun q hq => hS.2.2 q hq) ?_
      refine W.widen (k := 600000) (n := 7302250) (by omega) (by omega) ?_
      exact lw_ret hx hb hr hlocks dL_law_1190
    · have hi6 : i + 6 ≤ L := len6 hL hi c_1
      have hfit : cells + 14 ≤ 600000 ∧ slots + 42 ≤ 7302250 := by omega
      have cont : ∀ (w2 : va_W) (H1 : Heap) (locs1 : List Loc), J w2 → va_P D vwCl w2 H1 → va_D (fun q : Nat => s.heap.size ≤ q) w2 → va_S (fun q : Nat => s.heap.size ≤ q) s.heap H1 locs1 → W p l e room_1 s m #[Value.ref b] below meth c H1 locs1 (cells + 14) (slots + 42) (lw_Z below #[Value.ref b] s) (F0 m 1183 ls []) := by
        intro w2 H1 locs1 hJ2 hP2 hD2 hS2
        refine lv_iinc (v := nI (i + 6)) (lv' := [(3, .int (nI (i + 6))), (0, .ref b), (1, .ref hO), (2, .ref hM)]) hx hb dL_law_1183 hl (k := 3) rfl (nI_inc6 i) (by decide) rfl (fun ls hl => ?_)
        refine lv_goto (tgt := 18) hx hb dL_law_1186 (by decide) ?_
        exact ih (n - 6) (by omega) (i + 6) (cells + 14) (slots + 42) (by omega) (by omega) (by omega) (by omega) H1 locs1 w2 ls hJ2 hP2 hD2 hS2 (lv_sub hl [1, 2, 3, 0] rfl)
      refine lv_aload_n hx hb dL_law_27 rfl (lv_at hl 0 rfl) ?_
      refine lv_iload_n hx hb dL_law_28 rfl (lv_at hl 3 rfl) ?_
      refine va_sld hx hb hX hbl hbA hS (vp_in_nI (show i < L by omega) (by omega)) dL_law_29 ?_
      refine lv_bipush (v := nI 63) hx hb dL_law_30 (by decide) ?_
      refine lv_iand hx hb dL_law_32 ?_
      obtain ⟨k, hk, ek⟩ := sw64 (xs (nI i).toNatClampNeg)
      refine k_eqi ek ?_
      rcases (show k = 0 ∨ k = 1 ∨ k = 2 ∨ k = 3 ∨ k = 4 ∨ k = 5 ∨ k = 6 ∨ k = 7 ∨ k = 8 ∨ k = 9 ∨ k = 10 ∨ k = 11 ∨ k = 12 ∨ k = 13 ∨ k = 14 ∨ k = 15 ∨ k = 16 ∨ k = 17 ∨ k = 18 ∨ k = 19 ∨ k = 20 ∨ k = 21 ∨ k = 22 ∨ k = 23 ∨ k = 24 ∨ k = 25 ∨ k = 26 ∨ k = 27 ∨ k = 28 ∨ k = 29 ∨ k = 30 ∨ k = 31 ∨ k = 32 ∨ 32 < k by omega) with rfl | rfl | rfl | rfl | rfl | rfl | rfl | rfl | rfl | rfl | rfl | rfl | rfl | rfl | rfl | rfl | rfl | rfl | rfl | rfl | rfl | rfl | rfl | rfl | rfl | rfl | rfl | rfl | rfl | rfl | rfl | rfl | rfl | hk32
      · refine lv_tableIn (off := 147) (tgt := 180) hx hb dL_law_33 (by decide) (by decide) (by decide) (by decide) ?_
        exact blk_street hx hb hml hown htl hX hbl hbA hN hK hL hi6 hfit (o_street w0 hJ (xs (i + 1)) (xs (i + 2)) (xs (i + 3)) (xs (i + 4))) hP hD hS hA hl cont
      · refine lv_tableIn (off := 200) (tgt := 233) hx hb dL_law_33 (by decide) (by decide) (by decide) (by decide) ?_
        exact blk_ofPerson hx hb hml hown htl hX hbl hbA hN hK hL hi6 hfit (o_ofPerson w0 hJ (xs (i + 1)) (xs (i + 2))) hP hD hS hA hl cont
      · refine lv_tableIn (off := 233) (tgt := 266) hx hb dL_law_33 (by decide) (by decide) (by decide) (by decide) ?_
        exact blk_word hx hb hml hown htl hX hbl hbA hN hK hL hi6 hfit (o_word w0 hJ (xs (i + 1)) (xs (i + 2))) hP hD hS hA hl cont
      · refine lv_tableIn (off := 266) (tgt := 299) hx hb dL_law_33 (by decide) (by decide) (by decide) (by decide) ?_
        exact blk_unsay hx hb hml hown htl hX hbl hbA hN hK hL hi6 hfit (o_unsay w0 hJ (xs (i + 1))) hP hD hS hA hl cont
      · refine lv_tableIn (off := 289) (tgt := 322) hx hb dL_law_33 (by decide) (by decide) (by decide) (by decide) ?_
        have hbz : ∃ bz : Nat, bz < 2 ∧ ((xs (i + 2) = 0 → bz = 0) ∧ (¬ xs (i + 2) = 0 → bz = 1)) := by
          by_cases h0 : xs (i + 2) = 0
          · exact ⟨0, by decide, fun _ => rfl, fun h => absurd h0 h⟩
          · exact ⟨1, by decide, fun h => absurd h h0, fun _ => rfl⟩
        obtain ⟨bz, hb2, hbz⟩ := hbz
        exact blk_bribe hx hb hml hown htl hX hbl hbA hN hK hL hi6 hfit hbz (o_bribe w0 hJ (xs (i + 1)) bz hb2) hP hD hS hA hl cont
      · refine lv_tableIn (off := 338) (tgt := 371) hx hb dL_law_33 (by decide) (by decide) (by decide) (by decide) ?_
        exact blk_whisper hx hb hml hown htl hX hbl hbA hN hK hL hi6 hfit (o_whisper w0 hJ (xs (i + 1)) (xs (i + 2))) hP hD hS hA hl cont
      · refine lv_tableIn (off := 371) (tgt := 404) hx hb dL_law_33 (by decide) (by decide) (by decide) (by decide) ?_
        exact blk_forget hx hb hml hown htl hX hbl hbA hN hK hL hi6 hfit (o_forget w0 hJ (xs (i + 1))) hP hD hS hA hl cont
      · refine lv_tableIn (off := 394) (tgt := 427) hx hb dL_law_33 (by decide) (by decide) (by decide) (by decide) ?_
        exact blk_says hx hb hml hown htl hX hbl hbA hN hK hL hi6 hfit (o_says w0 hJ (xs (i + 1))) hP hD hS hA hl cont
      · refine lv_tableIn (off := 417) (tgt := 450) hx hb dL_law_33 (by decide) (by decide) (by decide) (by decide) ?_
        exact blk_crowd hx hb hml hown htl hX hbl hbA hN hK hL hi6 hfit (o_crowd w0 hJ (xs (i + 1))) hP hD hS hA hl cont
      · refine lv_tableIn (off := 440) (tgt := 473) hx hb dL_law_33 (by decide) (by decide) (by decide) (by decide) ?_
        exact blk_heard hx hb hml hown htl hX hbl hbA hN hK hL hi6 hfit (o_heard w0 hJ (xs (i + 1)) (xs (i + 2)) (xs (i + 3))) hP hD hS hA hl cont
      · refine lv_tableIn (off := 483) (tgt := 516) hx hb dL_law_33 (by decide) (by decide) (by decide) (by decide) ?_
        exact blk_silence hx hb hml hown htl hX hbl hbA hN hK hL hi6 hfit (o_silence w0 hJ ) hP hD hS hA hl cont
      · refine lv_tableIn (off := 496) (tgt := 529) hx hb dL_law_33 (by decide) (by decide) (by decide) (by decide) ?_
        exact blk_noticed hx hb hml hown htl hX hbl hbA hN hK hL hi6 hfit (o_noticed w0 hJ ) hP hD hS hA hl cont
      · refine lv_tableIn (off := 509) (tgt := 542) hx hb dL_law_33 (by decide) (by decide) (by decide) (by decide) ?_
        exact blk_fewest hx hb hml hown htl hX hbl hbA hN hK hL hi6 hfit (o_fewest w0 hJ ) hP hD hS hA hl cont
      · refine lv_tableIn (off := 522) (tgt := 555) hx hb dL_law_33 (by decide) (by decide) (by decide) (by decide) ?_
        exact blk_bribes hx hb hml hown htl hX hbl hbA hN hK hL hi6 hfit (o_bribes w0 hJ (xs (i + 1))) hP hD hS hA hl cont
      · refine lv_tableIn (off := 545) (tgt := 578) hx hb dL_law_33 (by decide) (by decide) (by decide) (by decide) ?_
        exact blk_whispers hx hb hml hown htl hX hbl hbA hN hK hL hi6 hfit (o_whispers w0 hJ (xs (i + 1))) hP hD hS hA hl cont
      · refine lv_tableIn (off := 568) (tgt := 601) hx hb dL_law_33 (by decide) (by decide) (by decide) (by decide) ?_
        exact blk_worth hx hb hml hown htl hX hbl hbA hN hK hL hi6 hfit (o_worth w0 hJ (xs (i + 1))) hP hD hS hA hl cont
      · refine lv_tableIn (off := 591) (tgt := 624) hx hb dL_law_33 (by decide) (by decide) (by decide) (by decide) ?_
        exact blk_asked hx hb hml hown htl hX hbl hbA hN hK hL hi6 hfit (o_asked w0 hJ (xs (i + 1)) (xs (i + 2)) (xs (i + 3)) (xs (i + 4))) hP hD hS hA hl cont
      · refine lv_tableIn (off := 644) (tgt := 677) hx hb dL_law_33 (by decide) (by decide) (by decide) (by decide) ?_
        have hbz : ∃ bz : Nat, bz < 2 ∧ ((xs (i + 3) = 0 → bz = 0) ∧ (¬ xs (i + 3) = 0 → bz = 1)) := by
          by_cases h0 : xs (i + 3) = 0
          · exact ⟨0, by decide, fun _ => rfl, fun h => absurd h0 h⟩
          · exact ⟨1, by decide, fun h => absurd h h0, fun _ => rfl⟩
        obtain ⟨bz, hb2, hbz⟩ := hbz
        exact blk_reading hx hb hml hown htl hX hbl hbA hN hK hL hi6 hfit hbz (o_reading w0 hJ (xs (i + 1)) (xs (i + 2)) bz hb2) hP hD hS hA hl cont
      · refine lv_tableIn (off := 703) (tgt := 736) hx hb dL_law_33 (by decide) (by decide) (by decide) (by decide) ?_
        exact blk_back hx hb hml hown htl hX hbl hbA hN hK hL hi6 hfit (o_back w0 hJ (xs (i + 1))) hP hD hS hA hl cont
      · refine lv_tableIn (off := 726) (tgt := 759) hx hb dL_law_33 (by decide) (by decide) (by decide) (by decide) ?_
        exact blk_where hx hb hml hown htl hX hbl hbA hN hK hL hi6 hfit (o_where w0 hJ (xs (i + 1))) hP hD hS hA hl cont
      · refine lv_tableIn (off := 749) (tgt := 782) hx hb dL_law_33 (by decide) (by decide) (by decide) (by decide) ?_
        exact blk_paid hx hb hml hown htl hX hbl hbA hN hK hL hi6 hfit (o_paid w0 hJ ) hP hD hS hA hl cont
      · refine lv_tableIn (off := 762) (tgt := 795) hx hb dL_law_33 (by decide) (by decide) (by decide) (by decide) ?_
        exact blk_odds hx hb hml hown htl hX hbl hbA hN hK hL hi6 hfit (o_odds w0 hJ (xs (i + 1)) (xs (i + 2)) (xs (i + 3))) hP hD hS hA hl cont
      · refine lv_tableIn (off := 806) (tgt := 839) hx hb dL_law_33 (by decide) (by decide) (by decide) (by decide) ?_
        exact blk_sheet hx hb hml hown htl hX hbl hbA hN hK hL hi6 hfit (o_sheet w0 hJ (xs (i + 1)) (xs (i + 2)) (xs (i + 3))) hP hD hS hA hl cont
      · refine lv_tableIn (off := 849) (tgt := 882) hx hb dL_law_33 (by decide) (by decide) (by decide) (by decide) ?_
        exact blk_lose hx hb hml hown htl hX hbl hbA hN hK hL hi6 hfit (o_lose w0 hJ (xs (i + 1))) hP hD hS hA hl cont
      · refine lv_tableIn (off := 872) (tgt := 905) hx hb dL_law_33 (by decide) (by decide) (by decide) (by decide) ?_
        exact blk_put hx hb hml hown htl hX hbl hbA hN hK hL hi6 hfit (o_put w0 hJ (xs (i + 1)) (xs (i + 2)) (xs (i + 3))) hP hD hS hA hl cont
      · refine lv_tableIn (off := 915) (tgt := 948) hx hb dL_law_33 (by decide) (by decide) (by decide) (by decide) ?_
        exact blk_cell hx hb hml hown htl hX hbl hbA hN hK hL hi6 hfit (o_cell w0 hJ (xs (i + 1)) (xs (i + 2)) (xs (i + 3))) hP hD hS hA hl cont
      · refine lv_tableIn (off := 959) (tgt := 992) hx hb dL_law_33 (by decide) (by decide) (by decide) (by decide) ?_
        exact blk_copy hx hb hml hown htl hX hbl hbA hN hK hL hi6 hfit (o_copy w0 hJ (xs (i + 1)) (xs (i + 2)) (xs (i + 3)) (xs (i + 4)) (xs (i + 5))) hP hD hS hA hl cont
      · refine lv_tableIn (off := 1022) (tgt := 1055) hx hb dL_law_33 (by decide) (by decide) (by decide) (by decide) ?_
        exact blk_tell hx hb hml hown htl hX hbl hbA hN hK hL hi6 hfit (o_tell w0 hJ (xs (i + 1))) hP hD hS hA hl cont
      · refine lv_tableIn (off := 1045) (tgt := 1078) hx hb dL_law_33 (by decide) (by decide) (by decide) (by decide) ?_
        exact blk_bow hx hb hml hown htl hX hbl hbA hN hK hL hi6 hfit (o_bow w0 hJ (xs (i + 1))) hP hD hS hA hl cont
      · refine lv_tableIn (off := 1068) (tgt := 1101) hx hb dL_law_33 (by decide) (by decide) (by decide) (by decide) ?_
        exact blk_as hx hb hml hown htl hX hbl hbA hN hK hL hi6 hfit (o_as w0 hJ (xs (i + 1)) (xs (i + 2))) hP hD hS hA hl cont
      · refine lv_tableIn (off := 1101) (tgt := 1134) hx hb dL_law_33 (by decide) (by decide) (by decide) (by decide) ?_
        exact blk_trace hx hb hml hown htl hX hbl hbA hN hK hL hi6 hfit (o_trace w0 hJ ) hP hD hS hA hl cont
      · refine lv_tableIn (off := 1114) (tgt := 1147) hx hb dL_law_33 (by decide) (by decide) (by decide) (by decide) ?_
        exact blk_fault hx hb hml hown htl hX hbl hbA hN hK hL hi6 hfit (o_fault w0 hJ ) hP hD hS hA hl cont
      · refine lv_tableIn (off := 1127) (tgt := 1160) hx hb dL_law_33 (by decide) (by decide) (by decide) (by decide) ?_
        exact blk_many hx hb hml hown htl hX hbl hbA hN hK hL hi6 hfit (o_many w0 hJ (xs (i + 1))) hP hD hS hA hl cont
      · refine lv_tableOut (tgt := 1183) hx hb dL_law_33 (by rw [nI_toInt (by omega)]; omega) (by decide) ?_
        exact W.widen (k := cells + 14) (n := slots + 42) (by omega) (by omega) (cont w0 H locs hJ hP hD hS)
