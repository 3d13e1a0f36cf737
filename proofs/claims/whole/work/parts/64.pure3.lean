/-! the answers, one by one -/
section ANS
variable {n B nw nh nr : Nat} {xp xd xo xh wp wd ho hh em dr kd lo er yp yd yh rp rd rh : Nat → Nat}
theorem sd_le (hn : n ≤ 7) (hp : relP n em dr kd lo er) (hw : relW n nw xp xd wp wd) (hh' : relH nh xo xh ho hh) {d i : Nat} (hd : d < 40) (hi : i < n) : (sdM n em dr B (rcf xp xd nw xo xh nh em) (d + 1)).testBit i = decide (gM n kd lo er B wp wd nw none 0 ho hh nh i ≤ d) := by
  rw [sd_gM hn hp (rc_now hp hw hh') (show d + 1 ≤ 40 by omega)]
  simp [hi, Nat.lt_succ_iff]
theorem ans_now (hn : n ≤ 7) (hp : relP n em dr kd lo er) (hw : relW n nw xp xd wp wd) (hh' : relH nh xo xh ho hh) {d : Nat} (hd : d < 40) : sdM n em dr B (rcf xp xd nw xo xh nh em) (d + 1) = nowM n (gM n kd lo er B wp wd nw none 0 ho hh nh) d := sd_mk hn hp (rc_now hp hw hh') hd
theorem ans_says (hn : n ≤ 7) (hp : relP n em dr kd lo er) (hw : relW n nw xp xd wp wd) (hh' : relH nh xo xh ho hh) {x : Nat} (hx : x < n) : oD (fs (fun zz => (sdM n em dr B (rcf xp xd nw xo xh nh em) (zz + 1)).testBit x) 40) = (if gM n kd lo er B wp wd nw none 0 ho hh nh x = 99 then (-9) else nI (gM n kd lo er B wp wd nw none 0 ho hh nh x)) := by
  rw [fs_congr (Q := fun zz => decide (gM n kd lo er B wp wd nw none 0 ho hh nh x < zz + 1)) 40 (fun i hi => by rw [sd_gM hn hp (rc_now hp hw hh') (show i + 1 ≤ 40 by omega)]; simp [hx]), fs_first]
  rcases gM_or (n := n) (B := B) (kd := kd) (lo := lo) (er := er) (wp := wp) (wd := wd) (ho := ho) (hh := hh) (mw := nw) (mh := nh) (mm := 0) (wo := none) (show x < 7 by omega) with h | h
  · rw [if_pos h, if_neg (by omega)]; rfl
  · rw [if_pos h, if_neg (by omega)]; rfl
theorem ans_heard0 (hn : n ≤ 7) (hp : relP n em dr kd lo er) (hw : relW n nw xp xd wp wd) (hh' : relH nh xo xh ho hh) {x d : Nat} (hx : x < n) (hd : d < 40) : sdM n em dr B (rcf xp xd nw xo xh nh em) d &&& em x = mk (fun zz => decide (gM n kd lo er B wp wd nw none 0 ho hh nh zz < d) && decide (absD zz x ≤ er x)) n := by
  apply Nat.eq_of_testBit_eq
  intro i
  rw [Nat.testBit_and, (hp x hx).1, emf_bit, mk_bit, sd_gM hn hp (rc_now hp hw hh') (show d ≤ 40 by omega)]
  by_cases h : i < n <;> simp [h]
theorem ans_heard1 (hn : n ≤ 7) (hp : relP n em dr kd lo er) (hw : relW n nw xp xd wp wd) (hh' : relH nh xo xh ho hh) {x d : Nat} (hx : x < n) (hd : d < 40) : popc (sdM n em dr B (rcf xp xd nw xo xh nh em) d &&& em x) + (cntW xp xd (em x) d nw + cntH xo xh x nh) = hldM n er wp wd nw none 0 ho hh nh (gM n kd lo er B wp wd nw none 0 ho hh nh) x d := by
  rw [show cntW xp xd (em x) d nw + cntH xo xh x nh = rcf xp xd nw xo xh nh em d x from rfl, rc_now hp hw hh' d hd x hx, (hp x hx).1]
  exact (hld_rc (fun i hi => by rw [sd_gM hn hp (rc_now hp hw hh') (show d ≤ 40 by omega)]; simp [hi])).symm
theorem ans_noticed (hn : n ≤ 7) (hp : relP n em dr kd lo er) (hw : relW n nw xp xd wp wd) (hh' : relH nh xo xh ho hh) : oD (fs (fun zz => decide (n ≤ 2 * popc (sdM n em dr B (rcf xp xd nw xo xh nh em) (zz + 1)))) 40) = oD (fs (fun zz => decide (n ≤ 2 * popc (nowM n (gM n kd lo er B wp wd nw none 0 ho hh nh) zz))) 40) :=
  congrArg oD (fs_congr 40 (fun i hi => by rw [ans_now hn hp hw hh' hi]))
theorem ans_fewest (hn : n ≤ 7) (hp : relP n em dr kd lo er) (hw : relW n nw xp xd wp wd) (hh' : relH nh xo xh ho hh) (hB : B < 2 ^ n) : oD (bst (fun z8 => decide (((sdM n em dr B (rcf (adP z8 xp nw n) (adD z8 xd nw n) (adN z8 nw n) xo xh nh em) 40) ||| B) = 2 ^ n - 1)) (2 ^ n)) = oD (bst (pfM n kd lo er B wp wd nw ho hh nh) (2 ^ n)) := by
  apply congrArg oD
  apply bst_congr
  intro S _
  unfold pfM
  rw [sd_mk (d := 39) hn hp (rc_fewest hp hw hh' S) (by decide)]
  exact decide_eq_decide.mpr (all_say hB)
theorem ans_bribes (hn : n ≤ 7) (hp : relP n em dr kd lo er) (hw : relW n nw xp xd wp wd) (hh' : relH nh xo xh ho hh) (hB : B < 2 ^ n) {a : Nat} (ha : a < n) : oD (bst (fun z8 => !z8.testBit a && !(sdM n em dr (B ||| z8) (rcf xp xd nw xo xh nh em) 40).testBit a) (2 ^ n)) = oD (bst (pbM n kd lo er B wp wd nw 0 ho hh nh a) (2 ^ n)) := by
  apply congrArg oD
  have h7 : 2 ^ n ≤ 128 := show 2 ^ n ≤ 2 ^ 7 from Nat.pow_le_pow_right (by decide) hn
  have key : ∀ C, (!(sdM n em dr C (rcf xp xd nw xo xh nh em) 40).testBit a) = decide (gM n kd lo er C wp wd nw none 0 ho hh nh a = 99) := by
    intro C
    rw [sd_gM hn hp (rc_now hp hw hh') (Nat.le_refl 40)]
    rcases gM_or (n := n) (B := C) (kd := kd) (lo := lo) (er := er) (wp := wp) (wd := wd) (ho := ho) (hh := hh) (mw := nw) (mh := nh) (mm := 0) (wo := none) (show a < 7 by omega) with h | h
    · have e : ¬ gM n kd lo er C wp wd nw none 0 ho hh nh a = 99 := by omega
      simp [ha, h, e]
    · simp [ha, h]
  apply bst_eq'
  · intro z _ hq
    unfold pbM at hq
    simp only [Bool.and_eq_true] at hq ⊢
    exact ⟨hq.1, by rw [key]; exact hq.2.2⟩
  · intro z hz hq
    simp only [Bool.and_eq_true] at hq
    rw [key] at hq
    by_cases c : (z &&& B) = 0
    · left
      unfold pbM
      simp only [Bool.and_eq_true]
      exact ⟨hq.1, decide_eq_true c, hq.2⟩
    · right
      obtain ⟨l1, l2⟩ := less_0 z (by omega) B (by omega) c
      refine ⟨z ^^^ (z &&& B), l1, ?_, l2⟩
      unfold pbM
      simp only [Bool.and_eq_true]
      have ht : z.testBit a = false := by simpa using hq.1
      refine ⟨by simp [less_3 ht], decide_eq_true (less_1 z B), ?_⟩
      rw [less_2]
      exact hq.2
theorem ans_whispers (hn : n ≤ 7) (hp : relP n em dr kd lo er) (hw : relW n nw xp xd wp wd) (hh' : relH nh xo xh ho hh) : wOut (fun z7 z8 => popc (sdM n em dr B (rcf xp xd nw (va_up xo nh z7) (va_up xh nh z8) (nh + 1) em) 40)) n (none, popc (sdM n em dr B (rcf xp xd nw xo xh nh em) 40)) n = wX (fwM n kd lo er B wp wd nw 0 ho hh nh) n (none, popc (nowM n (gM n kd lo er B wp wd nw none 0 ho hh nh) 39)) (n * n) := by
  have e1 : (fun z7 z8 => popc (sdM n em dr B (rcf xp xd nw (va_up xo nh z7) (va_up xh nh z8) (nh + 1) em) 40)) = fwM n kd lo er B wp wd nw 0 ho hh nh := by
    funext a b
    unfold fwM
    rw [sd_mk (d := 39) hn hp (rc_now hp hw (relH_up hh')) (by decide)]
  rw [e1, ans_now (d := 39) hn hp hw hh' (by decide), wX_out n (Nat.le_refl n)]
theorem ans_worth (hn : n ≤ 7) (hp : relP n em dr kd lo er) (hw : relW n nw xp xd wp wd) (hh' : relH nh xo xh ho hh) {k : Nat} (hk : k < nw) : (nI 100) + ((nI (popc (sdM n em dr B (rcf xp xd nw xo xh nh em) 40))) - (nI (popc (sdM n em dr B (rcf (shf xp k nw) (shf xd k nw) (nw - 1) xo xh nh em) 40)))) = ((nI (popc (mk (fun zz => decide ((gM n kd lo er B wp wd nw none 0 ho hh nh) zz ≤ 39)) n))) - (nI (popc (mk (fun zz => decide ((gM n kd lo er B wp wd nw (some k) 0 ho hh nh) zz ≤ 39)) n)))) + (nI 100) := by
  rw [ans_now (d := 39) hn hp hw hh' (by decide), sd_mk (d := 39) hn hp (rc_worth hp hw hh' hk) (by decide), Int32.add_comm]
  rfl
theorem ans_where (hn : n ≤ 7) (hp : relP n em dr kd lo er) (hw : relW n nw xp xd wp wd) (hh' : relH nh xo xh ho hh) (hr : relR n nr yp yd yh rp rd rh) {d : Nat} : mk (fun z8 => allB yp yd yh (fun i => sdM n em dr B (rcf (va_up xp nw z8) (va_up xd nw d) (nw + 1) xo xh nh em) (i + 1)) nr) n = mk (pwM n kd lo er B wp wd nw 0 ho hh nh rp rd rh nr d) n := by
  apply mk_congr
  intro z hz
  unfold pwM
  exact allB_G (fun e he i hi => sd_le hn hp (relW_up hw hz) hh' he hi) nr hr
theorem ans_paid (hn : n ≤ 7) (hp : relP n em dr kd lo er) (hw : relW n nw xp xd wp wd) (hh' : relH nh xo xh ho hh) (hr : relR n nr yp yd yh rp rd rh) : mk (fun z8 => allB yp yd yh (fun i => sdM n em dr (B ||| 2 ^ z8) (rcf xp xd nw xo xh nh em) (i + 1)) nr) n = mk (ppM n kd lo er B wp wd nw 0 ho hh nh rp rd rh nr) n := by
  apply mk_congr
  intro z hz
  unfold ppM
  exact allB_G (fun e he i hi => sd_le hn hp hw hh' he hi) nr hr
theorem ans_odds (hn : n ≤ 7) (hp : relP n em dr kd lo er) (hw : relW n nw xp xd wp wd) (hh' : relH nh xo xh ho hh) {a d : Nat} (ha : a < n) (hd : d < 40) : red n (cntS (fun z8 => (sdM n em dr z8 (rcf xp xd nw xo xh nh em) (d + 1)).testBit a) (2 ^ n)) (2 ^ n - 1 + 1) = ((cntS (poM n kd lo er wp wd nw 0 ho hh nh a d) (2 ^ n)) / Nat.gcd (cntS (poM n kd lo er wp wd nw 0 ho hh nh a d) (2 ^ n)) (2 ^ n - 1 + 1), (2 ^ n - 1 + 1) / Nat.gcd (cntS (poM n kd lo er wp wd nw 0 ho hh nh a d) (2 ^ n)) (2 ^ n - 1 + 1)) := by
  rw [cntS_congr (Q := poM n kd lo er wp wd nw 0 ho hh nh a d) (2 ^ n) (fun z _ => by rw [sd_le hn hp hw hh' hd ha]; rfl)]
  have h1 := cntS_le (poM n kd lo er wp wd nw 0 ho hh nh a d) (2 ^ n)
  exact red_gcd0 n (by omega) _ (Nat.lt_succ_of_le (p2m hn h1)) h1
end ANS
