section BLK
variable {p : Program} {l : Launch} {e : Env} {s : State} {m : MethodId} {args : Array Value} {below : List Frame} {meth : Method} {c : Code} {H : Heap} {locs : List Loc} {cells slots : Nat} {Q : State → Prop} {ls : Array Slot} {A : Nat → Prop} {D : va_G} {cI cZ cS cP : ClassId} {b L i hO hM : Nat} {xs : Nat → Int32} {w0 : va_W} {J : va_W → Prop}
theorem lg_self (v : Int64) : lg_cmp v v = 0 := by
  unfold lg_cmp
  rw [if_neg (Int64.lt_irrefl), if_pos rfl]
set_option maxHeartbeats 4000000 in
set_option maxRecDepth 100000 in
theorem blk_street (hx : p.tables.exec = Jvm.exec) (hb : c.code = cL_law) (hml : c.maxLocals = 4) (hown : s.vm.findClass RL = some m.cls) (hts : ∀ w ∈ wsL_law, w.before args s = true) (hX : va_X b L xs s s.heap) (hbl : b < s.heap.size) (hbA : ¬ A b) (hN : kN s) (hK : va_K D vwCl (kT cI cZ cS cP) s) (hL : L ≤ 384) (hi : i + 6 ≤ L) (hfit : cells + 14 ≤ 600000 ∧ slots + 42 ≤ 7302250) (hk : CkI l yX10_street wsX10_street D (kT cI cZ cS cP) hO 10 [.int (xs (i + 1)), .int (xs (i + 2)), .int (xs (i + 3)), .int (xs (i + 4))] w0 (fun r w1 => CkI l yX11_street wsX11_street D (kT cI cZ cS cP) hM 11 [.int (xs (i + 1)), .int (xs (i + 2)), .int (xs (i + 3)), .int (xs (i + 4))] w1 (fun r2 w2 => r2 = r ∧ J w2))) (hP : va_P D vwCl w0 H) (hD : va_D A w0) (hS : va_S A s.heap H locs) (hA : ∀ q : Nat, s.heap.size ≤ q → A q) (hl : lv_has ls 4 [(0, .ref b), (1, .ref hO), (2, .ref hM), (3, .int (nI i))]) (kk : ∀ (w2 : va_W) (H1 : Heap) (locs1 : List Loc), J w2 → va_P D vwCl w2 H1 → va_D A w2 → va_S A s.heap H1 locs1 → W p l e room_1 s m args below meth c H1 locs1 (cells + 14) (slots + 42) Q (F0 m 1183 ls [])) : W p l e room_1 s m args below meth c H locs cells slots Q (F0 m 180 ls []) := by
  refine lv_aload_n hx hb dL_law_180 rfl (lv_at hl 1 rfl) ?_
  refine lv_aload_n hx hb dL_law_181 rfl (lv_at hl 0 rfl) ?_
  refine lv_iload_n hx hb dL_law_182 rfl (lv_at hl 3 rfl) ?_
  refine lv_iconst (v := nI 1) hx hb dL_law_183 (by decide) ?_
  refine lv_iadd hx hb dL_law_184 ?_
  refine k_eqi (nI_add i 1) ?_
  refine va_sld hx hb hX hbl hbA hS (vp_in_nI (show i + 1 < L by omega) (by omega)) dL_law_185 ?_
  refine k_eqi (show xs (nI (i + 1)).toNatClampNeg = xs (i + 1) by rw [nI_clamp (by omega)]) ?_
  refine lv_aload_n hx hb dL_law_186 rfl (lv_at hl 0 rfl) ?_
  refine lv_iload_n hx hb dL_law_187 rfl (lv_at hl 3 rfl) ?_
  refine lv_iconst (v := nI 2) hx hb dL_law_188 (by decide) ?_
  refine lv_iadd hx hb dL_law_189 ?_
  refine k_eqi (nI_add i 2) ?_
  refine va_sld hx hb hX hbl hbA hS (vp_in_nI (show i + 2 < L by omega) (by omega)) dL_law_190 ?_
  refine k_eqi (show xs (nI (i + 2)).toNatClampNeg = xs (i + 2) by rw [nI_clamp (by omega)]) ?_
  refine lv_aload_n hx hb dL_law_191 rfl (lv_at hl 0 rfl) ?_
  refine lv_iload_n hx hb dL_law_192 rfl (lv_at hl 3 rfl) ?_
  refine lv_iconst (v := nI 3) hx hb dL_law_193 (by decide) ?_
  refine lv_iadd hx hb dL_law_194 ?_
  refine k_eqi (nI_add i 3) ?_
  refine va_sld hx hb hX hbl hbA hS (vp_in_nI (show i + 3 < L by omega) (by omega)) dL_law_195 ?_
  refine k_eqi (show xs (nI (i + 3)).toNatClampNeg = xs (i + 3) by rw [nI_clamp (by omega)]) ?_
  refine lv_aload_n hx hb dL_law_196 rfl (lv_at hl 0 rfl) ?_
  refine lv_iload_n hx hb dL_law_197 rfl (lv_at hl 3 rfl) ?_
  refine lv_iconst (v := nI 4) hx hb dL_law_198 (by decide) ?_
  refine lv_iadd hx hb dL_law_199 ?_
  refine k_eqi (nI_add i 4) ?_
  refine va_sld hx hb hX hbl hbA hS (vp_in_nI (show i + 4 < L by omega) (by omega)) dL_law_200 ?_
  refine k_eqi (show xs (nI (i + 4)).toNatClampNeg = xs (i + 4) by rw [nI_clamp (by omega)]) ?_
  refine k_cki (ci := 10) (n := 4) (As := [.int (xs (i + 1)), .int (xs (i + 2)), .int (xs (i + 3)), .int (xs (i + 4))]) (rest := []) ⟨hx, hb, hml, hown, hts⟩ hN hK gL_law_X10_street rfl (by decide +kernel) rfl rfl (by decide) ⟨Nat.le_of_ble_eq_true rfl, Nat.le_of_ble_eq_true rfl⟩ ⟨show cells + 7 ≤ 600000 by omega, show slots + 21 ≤ 7302250 by omega⟩ hk rfl hl.1 rfl (Nat.le_of_ble_eq_true rfl) dL_law_201 hP hD hS hA (fun r1 w1 H1 locs1 hq1 hP hD hS => ?_)
  refine lv_aload_n hx hb dL_law_204 rfl (lv_at hl 2 rfl) ?_
  refine lv_aload_n hx hb dL_law_205 rfl (lv_at hl 0 rfl) ?_
  refine lv_iload_n hx hb dL_law_206 rfl (lv_at hl 3 rfl) ?_
  refine lv_iconst (v := nI 1) hx hb dL_law_207 (by decide) ?_
  refine lv_iadd hx hb dL_law_208 ?_
  refine k_eqi (nI_add i 1) ?_
  refine va_sld hx hb hX hbl hbA hS (vp_in_nI (show i + 1 < L by omega) (by omega)) dL_law_209 ?_
  refine k_eqi (show xs (nI (i + 1)).toNatClampNeg = xs (i + 1) by rw [nI_clamp (by omega)]) ?_
  refine lv_aload_n hx hb dL_law_210 rfl (lv_at hl 0 rfl) ?_
  refine lv_iload_n hx hb dL_law_211 rfl (lv_at hl 3 rfl) ?_
  refine lv_iconst (v := nI 2) hx hb dL_law_212 (by decide) ?_
  refine lv_iadd hx hb dL_law_213 ?_
  refine k_eqi (nI_add i 2) ?_
  refine va_sld hx hb hX hbl hbA hS (vp_in_nI (show i + 2 < L by omega) (by omega)) dL_law_214 ?_
  refine k_eqi (show xs (nI (i + 2)).toNatClampNeg = xs (i + 2) by rw [nI_clamp (by omega)]) ?_
  refine lv_aload_n hx hb dL_law_215 rfl (lv_at hl 0 rfl) ?_
  refine lv_iload_n hx hb dL_law_216 rfl (lv_at hl 3 rfl) ?_
  refine lv_iconst (v := nI 3) hx hb dL_law_217 (by decide) ?_
  refine lv_iadd hx hb dL_law_218 ?_
  refine k_eqi (nI_add i 3) ?_
  refine va_sld hx hb hX hbl hbA hS (vp_in_nI (show i + 3 < L by omega) (by omega)) dL_law_219 ?_
  refine k_eqi (show xs (nI (i + 3)).toNatClampNeg = xs (i + 3) by rw [nI_clamp (by omega)]) ?_
  refine lv_aload_n hx hb dL_law_220 rfl (lv_at hl 0 rfl) ?_
  refine lv_iload_n hx hb dL_law_221 rfl (lv_at hl 3 rfl) ?_
  refine lv_iconst (v := nI 4) hx hb dL_law_222 (by decide) ?_
  refine lv_iadd hx hb dL_law_223 ?_
  refine k_eqi (nI_add i 4) ?_
  refine va_sld hx hb hX hbl hbA hS (vp_in_nI (show i + 4 < L by omega) (by omega)) dL_law_224 ?_
  refine k_eqi (show xs (nI (i + 4)).toNatClampNeg = xs (i + 4) by rw [nI_clamp (by omega)]) ?_
  refine k_cki (ci := 11) (n := 4) (As := [.int (xs (i + 1)), .int (xs (i + 2)), .int (xs (i + 3)), .int (xs (i + 4))]) (rest := [.int r1]) ⟨hx, hb, hml, hown, hts⟩ hN hK gL_law_X11_street rfl (by decide +kernel) rfl rfl (by decide) ⟨Nat.le_of_ble_eq_true rfl, Nat.le_of_ble_eq_true rfl⟩ ⟨show cells + 7 + 7 ≤ 600000 by omega, show slots + 21 + 21 ≤ 7302250 by omega⟩ hq1 rfl hl.1 rfl (Nat.le_of_ble_eq_true rfl) dL_law_225 hP hD hS hA (fun r2 w2 H2 locs2 hq2 hP hD hS => ?_)
  refine lv_icmp_eq (tgt := 1183) hx hb dL_law_228 (by decide) (fun _ => ?_) (fun c9 => absurd hq2.1.symm c9)
  exact kk w2 H2 locs2 hq2.2 hP hD hS
set_option maxHeartbeats 4000000 in
set_option maxRecDepth 100000 in
theorem blk_ofPerson (hx : p.tables.exec = Jvm.exec) (hb : c.code = cL_law) (hml : c.maxLocals = 4) (hown : s.vm.findClass RL = some m.cls) (hts : ∀ w ∈ wsL_law, w.before args s = true) (hX : va_X b L xs s s.heap) (hbl : b < s.heap.size) (hbA : ¬ A b) (hN : kN s) (hK : va_K D vwCl (kT cI cZ cS cP) s) (hL : L ≤ 384) (hi : i + 6 ≤ L) (hfit : cells + 14 ≤ 600000 ∧ slots + 42 ≤ 7302250) (hk : CkI l yX10_ofPerson wsX10_ofPerson D (kT cI cZ cS cP) hO 10 [.int (xs (i + 1)), .int (xs (i + 2))] w0 (fun r w1 => CkI l yX11_ofPerson wsX11_ofPerson D (kT cI cZ cS cP) hM 11 [.int (xs (i + 1)), .int (xs (i + 2))] w1 (fun r2 w2 => r2 = r ∧ J w2))) (hP : va_P D vwCl w0 H) (hD : va_D A w0) (hS : va_S A s.heap H locs) (hA : ∀ q : Nat, s.heap.size ≤ q → A q) (hl : lv_has ls 4 [(0, .ref b), (1, .ref hO), (2, .ref hM), (3, .int (nI i))]) (kk : ∀ (w2 : va_W) (H1 : Heap) (locs1 : List Loc), J w2 → va_P D vwCl w2 H1 → va_D A w2 → va_S A s.heap H1 locs1 → W p l e room_1 s m args below meth c H1 locs1 (cells + 14) (slots + 42) Q (F0 m 1183 ls [])) : W p l e room_1 s m args below meth c H locs cells slots Q (F0 m 233 ls []) := by
  refine lv_aload_n hx hb dL_law_233 rfl (lv_at hl 1 rfl) ?_
  refine lv_aload_n hx hb dL_law_234 rfl (lv_at hl 0 rfl) ?_
  refine lv_iload_n hx hb dL_law_235 rfl (lv_at hl 3 rfl) ?_
  refine lv_iconst (v := nI 1) hx hb dL_law_236 (by decide) ?_
  refine lv_iadd hx hb dL_law_237 ?_
  refine k_eqi (nI_add i 1) ?_
  refine va_sld hx hb hX hbl hbA hS (vp_in_nI (show i + 1 < L by omega) (by omega)) dL_law_238 ?_
  refine k_eqi (show xs (nI (i + 1)).toNatClampNeg = xs (i + 1) by rw [nI_clamp (by omega)]) ?_
  refine lv_aload_n hx hb dL_law_239 rfl (lv_at hl 0 rfl) ?_
  refine lv_iload_n hx hb dL_law_240 rfl (lv_at hl 3 rfl) ?_
  refine lv_iconst (v := nI 2) hx hb dL_law_241 (by decide) ?_
  refine lv_iadd hx hb dL_law_242 ?_
  refine k_eqi (nI_add i 2) ?_
  refine va_sld hx hb hX hbl hbA hS (vp_in_nI (show i + 2 < L by omega) (by omega)) dL_law_243 ?_
  refine k_eqi (show xs (nI (i + 2)).toNatClampNeg = xs (i + 2) by rw [nI_clamp (by omega)]) ?_
  refine k_cki (ci := 10) (n := 2) (As := [.int (xs (i + 1)), .int (xs (i + 2))]) (rest := []) ⟨hx, hb, hml, hown, hts⟩ hN hK gL_law_X10_ofPerson rfl (by decide +kernel) rfl rfl (by decide) ⟨Nat.le_of_ble_eq_true rfl, Nat.le_of_ble_eq_true rfl⟩ ⟨show cells + 7 ≤ 600000 by omega, show slots + 21 ≤ 7302250 by omega⟩ hk rfl hl.1 rfl (Nat.le_of_ble_eq_true rfl) dL_law_244 hP hD hS hA (fun r1 w1 H1 locs1 hq1 hP hD hS => ?_)
  refine lv_aload_n hx hb dL_law_247 rfl (lv_at hl 2 rfl) ?_
  refine lv_aload_n hx hb dL_law_248 rfl (lv_at hl 0 rfl) ?_
  refine lv_iload_n hx hb dL_law_249 rfl (lv_at hl 3 rfl) ?_
  refine lv_iconst (v := nI 1) hx hb dL_law_250 (by decide) ?_
  refine lv_iadd hx hb dL_law_251 ?_
  refine k_eqi (nI_add i 1) ?_
  refine va_sld hx hb hX hbl hbA hS (vp_in_nI (show i + 1 < L by omega) (by omega)) dL_law_252 ?_
  refine k_eqi (show xs (nI (i + 1)).toNatClampNeg = xs (i + 1) by rw [nI_clamp (by omega)]) ?_
  refine lv_aload_n hx hb dL_law_253 rfl (lv_at hl 0 rfl) ?_
  refine lv_iload_n hx hb dL_law_254 rfl (lv_at hl 3 rfl) ?_
  refine lv_iconst (v := nI 2) hx hb dL_law_255 (by decide) ?_
  refine lv_iadd hx hb dL_law_256 ?_
  refine k_eqi (nI_add i 2) ?_
  refine va_sld hx hb hX hbl hbA hS (vp_in_nI (show i + 2 < L by omega) (by omega)) dL_law_257 ?_
  refine k_eqi (show xs (nI (i + 2)).toNatClampNeg = xs (i + 2) by rw [nI_clamp (by omega)]) ?_
  refine k_cki (ci := 11) (n := 2) (As := [.int (xs (i + 1)), .int (xs (i + 2))]) (rest := [.int r1]) ⟨hx, hb, hml, hown, hts⟩ hN hK gL_law_X11_ofPerson rfl (by decide +kernel) rfl rfl (by decide) ⟨Nat.le_of_ble_eq_true rfl, Nat.le_of_ble_eq_true rfl⟩ ⟨show cells + 7 + 7 ≤ 600000 by omega, show slots + 21 + 21 ≤ 7302250 by omega⟩ hq1 rfl hl.1 rfl (Nat.le_of_ble_eq_true rfl) dL_law_258 hP hD hS hA (fun r2 w2 H2 locs2 hq2 hP hD hS => ?_)
  refine lv_icmp_eq (tgt := 1183) hx hb dL_law_261 (by decide) (fun _ => ?_) (fun c9 => absurd hq2.1.symm c9)
  exact kk w2 H2 locs2 hq2.2 hP hD hS
set_option maxHeartbeats 4000000 in
set_option maxRecDepth 100000 in
theorem blk_word (hx : p.tables.exec = Jvm.exec) (hb : c.code = cL_law) (hml : c.maxLocals = 4) (hown : s.vm.findClass RL = some m.cls) (hts : ∀ w ∈ wsL_law, w.before args s = true) (hX : va_X b L xs s s.heap) (hbl : b < s.heap.size) (hbA : ¬ A b) (hN : kN s) (hK : va_K D vwCl (kT cI cZ cS cP) s) (hL : L ≤ 384) (hi : i + 6 ≤ L) (hfit : cells + 14 ≤ 600000 ∧ slots + 42 ≤ 7302250) (hk : CkI l yX10_word wsX10_word D (kT cI cZ cS cP) hO 10 [.int (xs (i + 1)), .int (xs (i + 2))] w0 (fun r w1 => CkI l yX11_word wsX11_word D (kT cI cZ cS cP) hM 11 [.int (xs (i + 1)), .int (xs (i + 2))] w1 (fun r2 w2 => r2 = r ∧ J w2))) (hP : va_P D vwCl w0 H) (hD : va_D A w0) (hS : va_S A s.heap H locs) (hA : ∀ q : Nat, s.heap.size ≤ q → A q) (hl : lv_has ls 4 [(0, .ref b), (1, .ref hO), (2, .ref hM), (3, .int (nI i))]) (kk : ∀ (w2 : va_W) (H1 : Heap) (locs1 : List Loc), J w2 → va_P D vwCl w2 H1 → va_D A w2 → va_S A s.heap H1 locs1 → W p l e room_1 s m args below meth c H1 locs1 (cells + 14) (slots + 42) Q (F0 m 1183 ls [])) : W p l e room_1 s m args below meth c H locs cells slots Q (F0 m 266 ls []) := by
  refine lv_aload_n hx hb dL_law_266 rfl (lv_at hl 1 rfl) ?_
  refine lv_aload_n hx hb dL_law_267 rfl (lv_at hl 0 rfl) ?_
  refine lv_iload_n hx hb dL_law_268 rfl (lv_at hl 3 rfl) ?_
  refine lv_iconst (v := nI 1) hx hb dL_law_269 (by decide) ?_
  refine lv_iadd hx hb dL_law_270 ?_
  refine k_eqi (nI_add i 1) ?_
  refine va_sld hx hb hX hbl hbA hS (vp_in_nI (show i + 1 < L by omega) (by omega)) dL_law_271 ?_
  refine k_eqi (show xs (nI (i + 1)).toNatClampNeg = xs (i + 1) by rw [nI_clamp (by omega)]) ?_
  refine lv_aload_n hx hb dL_law_272 rfl (lv_at hl 0 rfl) ?_
  refine lv_iload_n hx hb dL_law_273 rfl (lv_at hl 3 rfl) ?_
  refine lv_iconst (v := nI 2) hx hb dL_law_274 (by decide) ?_
  refine lv_iadd hx hb dL_law_275 ?_
  refine k_eqi (nI_add i 2) ?_
  refine va_sld hx hb hX hbl hbA hS (vp_in_nI (show i + 2 < L by omega) (by omega)) dL_law_276 ?_
  refine k_eqi (show xs (nI (i + 2)).toNatClampNeg = xs (i + 2) by rw [nI_clamp (by omega)]) ?_
  refine k_cki (ci := 10) (n := 2) (As := [.int (xs (i + 1)), .int (xs (i + 2))]) (rest := []) ⟨hx, hb, hml, hown, hts⟩ hN hK gL_law_X10_word rfl (by decide +kernel) rfl rfl (by decide) ⟨Nat.le_of_ble_eq_true rfl, Nat.le_of_ble_eq_true rfl⟩ ⟨show cells + 7 ≤ 600000 by omega, show slots + 21 ≤ 7302250 by omega⟩ hk rfl hl.1 rfl (Nat.le_of_ble_eq_true rfl) dL_law_277 hP hD hS hA (fun r1 w1 H1 locs1 hq1 hP hD hS => ?_)
  refine lv_aload_n hx hb dL_law_280 rfl (lv_at hl 2 rfl) ?_
  refine lv_aload_n hx hb dL_law_281 rfl (lv_at hl 0 rfl) ?_
  refine lv_iload_n hx hb dL_law_282 rfl (lv_at hl 3 rfl) ?_
  refine lv_iconst (v := nI 1) hx hb dL_law_283 (by decide) ?_
  refine lv_iadd hx hb dL_law_284 ?_
  refine k_eqi (nI_add i 1) ?_
  refine va_sld hx hb hX hbl hbA hS (vp_in_nI (show i + 1 < L by omega) (by omega)) dL_law_285 ?_
  refine k_eqi (show xs (nI (i + 1)).toNatClampNeg = xs (i + 1) by rw [nI_clamp (by omega)]) ?_
  refine lv_aload_n hx hb dL_law_286 rfl (lv_at hl 0 rfl) ?_
  refine lv_iload_n hx hb dL_law_287 rfl (lv_at hl 3 rfl) ?_
  refine lv_iconst (v := nI 2) hx hb dL_law_288 (by decide) ?_
  refine lv_iadd hx hb dL_law_289 ?_
  refine k_eqi (nI_add i 2) ?_
  refine va_sld hx hb hX hbl hbA hS (vp_in_nI (show i + 2 < L by omega) (by omega)) dL_law_290 ?_
  refine k_eqi (show xs (nI (i + 2)).toNatClampNeg = xs (i + 2) by rw [nI_clamp (by omega)]) ?_
  refine k_cki (ci := 11) (n := 2) (As := [.int (xs (i + 1)), .int (xs (i + 2))]) (rest := [.int r1]) ⟨hx, hb, hml, hown, hts⟩ hN hK gL_law_X11_word rfl (by decide +kernel) rfl rfl (by decide) ⟨Nat.le_of_ble_eq_true rfl, Nat.le_of_ble_eq_true rfl⟩ ⟨show cells + 7 + 7 ≤ 600000 by omega, show slots + 21 + 21 ≤ 7302250 by omega⟩ hq1 rfl hl.1 rfl (Nat.le_of_ble_eq_true rfl) dL_law_291 hP hD hS hA (fun r2 w2 H2 locs2 hq2 hP hD hS => ?_)
  refine lv_icmp_eq (tgt := 1183) hx hb dL_law_294 (by decide) (fun _ => ?_) (fun c9 => absurd hq2.1.symm c9)
  exact kk w2 H2 locs2 hq2.2 hP hD hS
set_option maxHeartbeats 4000000 in
set_option maxRecDepth 100000 in
theorem blk_unsay (hx : p.tables.exec = Jvm.exec) (hb : c.code = cL_law) (hml : c.maxLocals = 4) (hown : s.vm.findClass RL = some m.cls) (hts : ∀ w ∈ wsL_law, w.before args s = true) (hX : va_X b L xs s s.heap) (hbl : b < s.heap.size) (hbA : ¬ A b) (hN : kN s) (hK : va_K D vwCl (kT cI cZ cS cP) s) (hL : L ≤ 384) (hi : i + 6 ≤ L) (hfit : cells + 14 ≤ 600000 ∧ slots + 42 ≤ 7302250) (hk : CkI l yX10_unsay wsX10_unsay D (kT cI cZ cS cP) hO 10 [.int (xs (i + 1))] w0 (fun r w1 => CkI l yX11_unsay wsX11_unsay D (kT cI cZ cS cP) hM 11 [.int (xs (i + 1))] w1 (fun r2 w2 => r2 = r ∧ J w2))) (hP : va_P D vwCl w0 H) (hD : va_D A w0) (hS : va_S A s.heap H locs) (hA : ∀ q : Nat, s.heap.size ≤ q → A q) (hl : lv_has ls 4 [(0, .ref b), (1, .ref hO), (2, .ref hM), (3, .int (nI i))]) (kk : ∀ (w2 : va_W) (H1 : Heap) (locs1 : List Loc), J w2 → va_P D vwCl w2 H1 → va_D A w2 → va_S A s.heap H1 locs1 → W p l e room_1 s m args below meth c H1 locs1 (cells + 14) (slots + 42) Q (F0 m 1183 ls [])) : W p l e room_1 s m args below meth c H locs cells slots Q (F0 m 299 ls []) := by
  refine lv_aload_n hx hb dL_law_299 rfl (lv_at hl 1 rfl) ?_
  refine lv_aload_n hx hb dL_law_300 rfl (lv_at hl 0 rfl) ?_
  refine lv_iload_n hx hb dL_law_301 rfl (lv_at hl 3 rfl) ?_
  refine lv_iconst (v := nI 1) hx hb dL_law_302 (by decide) ?_
  refine lv_iadd hx hb dL_law_303 ?_
  refine k_eqi (nI_add i 1) ?_
  refine va_sld hx hb hX hbl hbA hS (vp_in_nI (show i + 1 < L by omega) (by omega)) dL_law_304 ?_
  refine k_eqi (show xs (nI (i + 1)).toNatClampNeg = xs (i + 1) by rw [nI_clamp (by omega)]) ?_
  refine k_cki (ci := 10) (n := 1) (As := [.int (xs (i + 1))]) (rest := []) ⟨hx, hb, hml, hown, hts⟩ hN hK gL_law_X10_unsay rfl (by decide +kernel) rfl rfl (by decide) ⟨Nat.le_of_ble_eq_true rfl, Nat.le_of_ble_eq_true rfl⟩ ⟨show cells + 7 ≤ 600000 by omega, show slots + 21 ≤ 7302250 by omega⟩ hk rfl hl.1 rfl (Nat.le_of_ble_eq_true rfl) dL_law_305 hP hD hS hA (fun r1 w1 H1 locs1 hq1 hP hD hS => ?_)
  refine lv_aload_n hx hb dL_law_308 rfl (lv_at hl 2 rfl) ?_
  refine lv_aload_n hx hb dL_law_309 rfl (lv_at hl 0 rfl) ?_
  refine lv_iload_n hx hb dL_law_310 rfl (lv_at hl 3 rfl) ?_
  refine lv_iconst (v := nI 1) hx hb dL_law_311 (by decide) ?_
  refine lv_iadd hx hb dL_law_312 ?_
  refine k_eqi (nI_add i 1) ?_
  refine va_sld hx hb hX hbl hbA hS (vp_in_nI (show i + 1 < L by omega) (by omega)) dL_law_313 ?_
  refine k_eqi (show xs (nI (i + 1)).toNatClampNeg = xs (i + 1) by rw [nI_clamp (by omega)]) ?_
  refine k_cki (ci := 11) (n := 1) (As := [.int (xs (i + 1))]) (rest := [.int r1]) ⟨hx, hb, hml, hown, hts⟩ hN hK gL_law_X11_unsay rfl (by decide +kernel) rfl rfl (by decide) ⟨Nat.le_of_ble_eq_true rfl, Nat.le_of_ble_eq_true rfl⟩ ⟨show cells + 7 + 7 ≤ 600000 by omega, show slots + 21 + 21 ≤ 7302250 by omega⟩ hq1 rfl hl.1 rfl (Nat.le_of_ble_eq_true rfl) dL_law_314 hP hD hS hA (fun r2 w2 H2 locs2 hq2 hP hD hS => ?_)
  refine lv_icmp_eq (tgt := 1183) hx hb dL_law_317 (by decide) (fun _ => ?_) (fun c9 => absurd hq2.1.symm c9)
  exact kk w2 H2 locs2 hq2.2 hP hD hS
set_option maxHeartbeats 4000000 in
set_option maxRecDepth 100000 in
theorem blk_bribe (hx : p.tables.exec = Jvm.exec) (hb : c.code = cL_law) (hml : c.maxLocals = 4) (hown : s.vm.findClass RL = some m.cls) (hts : ∀ w ∈ wsL_law, w.before args s = true) (hX : va_X b L xs s s.heap) (hbl : b < s.heap.size) (hbA : ¬ A b) (hN : kN s) (hK : va_K D vwCl (kT cI cZ cS cP) s) (hL : L ≤ 384) (hi : i + 6 ≤ L) (hfit : cells + 14 ≤ 600000 ∧ slots + 42 ≤ 7302250) {bz : Nat} (hbz : (xs (i + 2) = 0 → bz = 0) ∧ (¬ xs (i + 2) = 0 → bz = 1)) (hk : CkI l yX10_bribe wsX10_bribe D (kT cI cZ cS cP) hO 10 [.int (xs (i + 1)), .int (nI bz)] w0 (fun r w1 => CkI l yX11_bribe wsX11_bribe D (kT cI cZ cS cP) hM 11 [.int (xs (i + 1)), .int (nI bz)] w1 (fun r2 w2 => r2 = r ∧ J w2))) (hP : va_P D vwCl w0 H) (hD : va_D A w0) (hS : va_S A s.heap H locs) (hA : ∀ q : Nat, s.heap.size ≤ q → A q) (hl : lv_has ls 4 [(0, .ref b), (1, .ref hO), (2, .ref hM), (3, .int (nI i))]) (kk : ∀ (w2 : va_W) (H1 : Heap) (locs1 : List Loc), J w2 → va_P D vwCl w2 H1 → va_D A w2 → va_S A s.heap H1 locs1 → W p l e room_1 s m args below meth c H1 locs1 (cells + 14) (slots + 42) Q (F0 m 1183 ls [])) : W p l e room_1 s m args below meth c H locs cells slots Q (F0 m 322 ls []) := by
  refine lv_aload_n hx hb dL_law_322 rfl (lv_at hl 1 rfl) ?_
  refine lv_aload_n hx hb dL_law_323 rfl (lv_at hl 0 rfl) ?_
  refine lv_iload_n hx hb dL_law_324 rfl (lv_at hl 3 rfl) ?_
  refine lv_iconst (v := nI 1) hx hb dL_law_325 (by decide) ?_
  refine lv_iadd hx hb dL_law_326 ?_
  refine k_eqi (nI_add i 1) ?_
  refine va_sld hx hb hX hbl hbA hS (vp_in_nI (show i + 1 < L by omega) (by omega)) dL_law_327 ?_
  refine k_eqi (show xs (nI (i + 1)).toNatClampNeg = xs (i + 1) by rw [nI_clamp (by omega)]) ?_
  refine lv_aload_n hx hb dL_law_328 rfl (lv_at hl 0 rfl) ?_
  refine lv_iload_n hx hb dL_law_329 rfl (lv_at hl 3 rfl) ?_
  refine lv_iconst (v := nI 2) hx hb dL_law_330 (by decide) ?_
  refine lv_iadd hx hb dL_law_331 ?_
  refine k_eqi (nI_add i 2) ?_
  refine va_sld hx hb hX hbl hbA hS (vp_in_nI (show i + 2 < L by omega) (by omega)) dL_law_332 ?_
  refine k_eqi (show xs (nI (i + 2)).toNatClampNeg = xs (i + 2) by rw [nI_clamp (by omega)]) ?_
  have j0 : W p l e room_1 s m args below meth c H locs (cells) (slots) Q (F0 m 341 ls [.int (nI bz), .int (xs (i + 1)), .ref hO]) := by
    refine k_cki (ci := 10) (n := 2) (As := [.int (xs (i + 1)), .int (nI bz)]) (rest := []) ⟨hx, hb, hml, hown, hts⟩ hN hK gL_law_X10_bribe rfl (by decide +kernel) rfl rfl (by decide) ⟨Nat.le_of_ble_eq_true rfl, Nat.le_of_ble_eq_true rfl⟩ ⟨show cells + 7 ≤ 600000 by omega, show slots + 21 ≤ 7302250 by omega⟩ hk rfl hl.1 rfl (Nat.le_of_ble_eq_true rfl) dL_law_341 hP hD hS hA (fun r1 w1 H1 locs1 hq1 hP hD hS => ?_)
    refine lv_aload_n hx hb dL_law_344 rfl (lv_at hl 2 rfl) ?_
    refine lv_aload_n hx hb dL_law_345 rfl (lv_at hl 0 rfl) ?_
    refine lv_iload_n hx hb dL_law_346 rfl (lv_at hl 3 rfl) ?_
    refine lv_iconst (v := nI 1) hx hb dL_law_347 (by decide) ?_
    refine lv_iadd hx hb dL_law_348 ?_
    refine k_eqi (nI_add i 1) ?_
    refine va_sld hx hb hX hbl hbA hS (vp_in_nI (show i + 1 < L by omega) (by omega)) dL_law_349 ?_
    refine k_eqi (show xs (nI (i + 1)).toNatClampNeg = xs (i + 1) by rw [nI_clamp (by omega)]) ?_
    refine lv_aload_n hx hb dL_law_350 rfl (lv_at hl 0 rfl) ?_
    refine lv_iload_n hx hb dL_law_351 rfl (lv_at hl 3 rfl) ?_
    refine lv_iconst (v := nI 2) hx hb dL_law_352 (by decide) ?_
    refine lv_iadd hx hb dL_law_353 ?_
    refine k_eqi (nI_add i 2) ?_
    refine va_sld hx hb hX hbl hbA hS (vp_in_nI (show i + 2 < L by omega) (by omega)) dL_law_354 ?_
    refine k_eqi (show xs (nI (i + 2)).toNatClampNeg = xs (i + 2) by rw [nI_clamp (by omega)]) ?_
    have j1 : W p l e room_1 s m args below meth c H1 locs1 (cells + 7) (slots + 21) Q (F0 m 363 ls [.int (nI bz), .int (xs (i + 1)), .ref hM, .int r1]) := by
      refine k_cki (ci := 11) (n := 2) (As := [.int (xs (i + 1)), .int (nI bz)]) (rest := [.int r1]) ⟨hx, hb, hml, hown, hts⟩ hN hK gL_law_X11_bribe rfl (by decide +kernel) rfl rfl (by decide) ⟨Nat.le_of_ble_eq_true rfl, Nat.le_of_ble_eq_true rfl⟩ ⟨show cells + 7 + 7 ≤ 600000 by omega, show slots + 21 + 21 ≤ 7302250 by omega⟩ hq1 rfl hl.1 rfl (Nat.le_of_ble_eq_true rfl) dL_law_363 hP hD hS hA (fun r2 w2 H2 locs2 hq2 hP hD hS => ?_)
      refine lv_icmp_eq (tgt := 1183) hx hb dL_law_366 (by decide) (fun _ => ?_) (fun c9 => absurd hq2.1.symm c9)
      exact kk w2 H2 locs2 hq2.2 hP hD hS
    refine lv_if_eq (tgt := 362) hx hb dL_law_355 (by decide) (fun c9 => ?_) (fun c9 => ?_)
    · refine lv_iconst (v := nI 0) hx hb dL_law_362 (by decide) ?_
      rw [hbz.1 c9] at j1
      exact j1
    · refine lv_iconst (v := nI 1) hx hb dL_law_358 (by decide) ?_
      refine lv_goto (tgt := 363) hx hb dL_law_359 (by decide) ?_
      rw [hbz.2 c9] at j1
      exact j1
  refine lv_if_eq (tgt := 340) hx hb dL_law_333 (by decide) (fun c9 => ?_) (fun c9 => ?_)
  · refine lv_iconst (v := nI 0) hx hb dL_law_340 (by decide) ?_
    rw [hbz.1 c9] at j0
    exact j0
  · refine lv_iconst (v := nI 1) hx hb dL_law_336 (by decide) ?_
    refine lv_goto (tgt := 341) hx hb dL_law_337 (by decide) ?_
    rw [hbz.2 c9] at j0
    exact j0
set_option maxHeartbeats 4000000 in
set_option maxRecDepth 100000 in
theorem blk_whisper (hx : p.tables.exec = Jvm.exec) (hb : c.code = cL_law) (hml : c.maxLocals = 4) (hown : s.vm.findClass RL = some m.cls) (hts : ∀ w ∈ wsL_law, w.before args s = true) (hX : va_X b L xs s s.heap) (hbl : b < s.heap.size) (hbA : ¬ A b) (hN : kN s) (hK : va_K D vwCl (kT cI cZ cS cP) s) (hL : L ≤ 384) (hi : i + 6 ≤ L) (hfit : cells + 14 ≤ 600000 ∧ slots + 42 ≤ 7302250) (hk : CkI l yX10_whisper wsX10_whisper D (kT cI cZ cS cP) hO 10 [.int (xs (i + 1)), .int (xs (i + 2))] w0 (fun r w1 => CkI l yX11_whisper wsX11_whisper D (kT cI cZ cS cP) hM 11 [.int (xs (i + 1)), .int (xs (i + 2))] w1 (fun r2 w2 => r2 = r ∧ J w2))) (hP : va_P D vwCl w0 H) (hD : va_D A w0) (hS : va_S A s.heap H locs) (hA : ∀ q : Nat, s.heap.size ≤ q → A q) (hl : lv_has ls 4 [(0, .ref b), (1, .ref hO), (2, .ref hM), (3, .int (nI i))]) (kk : ∀ (w2 : va_W) (H1 : Heap) (locs1 : List Loc), J w2 → va_P D vwCl w2 H1 → va_D A w2 → va_S A s.heap H1 locs1 → W p l e room_1 s m args below meth c H1 locs1 (cells + 14) (slots + 42) Q (F0 m 1183 ls [])) : W p l e room_1 s m args below meth c H locs cells slots Q (F0 m 371 ls []) := by
  refine lv_aload_n hx hb dL_law_371 rfl (lv_at hl 1 rfl) ?_
  refine lv_aload_n hx hb dL_law_372 rfl (lv_at hl 0 rfl) ?_
  refine lv_iload_n hx hb dL_law_373 rfl (lv_at hl 3 rfl) ?_
  refine lv_iconst (v := nI 1) hx hb dL_law_374 (by decide) ?_
  refine lv_iadd hx hb dL_law_375 ?_
  refine k_eqi (nI_add i 1) ?_
  refine va_sld hx hb hX hbl hbA hS (vp_in_nI (show i + 1 < L by omega) (by omega)) dL_law_376 ?_
  refine k_eqi (show xs (nI (i + 1)).toNatClampNeg = xs (i + 1) by rw [nI_clamp (by omega)]) ?_
  refine lv_aload_n hx hb dL_law_377 rfl (lv_at hl 0 rfl) ?_
  refine lv_iload_n hx hb dL_law_378 rfl (lv_at hl 3 rfl) ?_
  refine lv_iconst (v := nI 2) hx hb dL_law_379 (by decide) ?_
  refine lv_iadd hx hb dL_law_380 ?_
  refine k_eqi (nI_add i 2) ?_
  refine va_sld hx hb hX hbl hbA hS (vp_in_nI (show i + 2 < L by omega) (by omega)) dL_law_381 ?_
  refine k_eqi (show xs (nI (i + 2)).toNatClampNeg = xs (i + 2) by rw [nI_clamp (by omega)]) ?_
  refine k_cki (ci := 10) (n := 2) (As := [.int (xs (i + 1)), .int (xs (i + 2))]) (rest := []) ⟨hx, hb, hml, hown, hts⟩ hN hK gL_law_X10_whisper rfl (by decide +kernel) rfl rfl (by decide) ⟨Nat.le_of_ble_eq_true rfl, Nat.le_of_ble_eq_true rfl⟩ ⟨show cells + 7 ≤ 600000 by omega, show slots + 21 ≤ 7302250 by omega⟩ hk rfl hl.1 rfl (Nat.le_of_ble_eq_true rfl) dL_law_382 hP hD hS hA (fun r1 w1 H1 locs1 hq1 hP hD hS => ?_)
  refine lv_aload_n hx hb dL_law_385 rfl (lv_at hl 2 rfl) ?_
  refine lv_aload_n hx hb dL_law_386 rfl (lv_at hl 0 rfl) ?_
  refine lv_iload_n hx hb dL_law_387 rfl (lv_at hl 3 rfl) ?_
  refine lv_iconst (v := nI 1) hx hb dL_law_388 (by decide) ?_
  refine lv_iadd hx hb dL_law_389 ?_
  refine k_eqi (nI_add i 1) ?_
  refine va_sld hx hb hX hbl hbA hS (vp_in_nI (show i + 1 < L by omega) (by omega)) dL_law_390 ?_
  refine k_eqi (show xs (nI (i + 1)).toNatClampNeg = xs (i + 1) by rw [nI_clamp (by omega)]) ?_
  refine lv_aload_n hx hb dL_law_391 rfl (lv_at hl 0 rfl) ?_
  refine lv_iload_n hx hb dL_law_392 rfl (lv_at hl 3 rfl) ?_
  refine lv_iconst (v := nI 2) hx hb dL_law_393 (by decide) ?_
  refine lv_iadd hx hb dL_law_394 ?_
  refine k_eqi (nI_add i 2) ?_
  refine va_sld hx hb hX hbl hbA hS (vp_in_nI (show i + 2 < L by omega) (by omega)) dL_law_395 ?_
  refine k_eqi (show xs (nI (i + 2)).toNatClampNeg = xs (i + 2) by rw [nI_clamp (by omega)]) ?_
  refine k_cki (ci := 11) (n := 2) (As := [.int (xs (i + 1)), .int (xs (i + 2))]) (rest := [.int r1]) ⟨hx, hb, hml, hown, hts⟩ hN hK gL_law_X11_whisper rfl (by decide +kernel) rfl rfl (by decide) ⟨Nat.le_of_ble_eq_true rfl, Nat.le_of_ble_eq_true rfl⟩ ⟨show cells + 7 + 7 ≤ 600000 by omega, show slots + 21 + 21 ≤ 7302250 by omega⟩ hq1 rfl hl.1 rfl (Nat.le_of_ble_eq_true rfl) dL_law_396 hP hD hS hA (fun r2 w2 H2 locs2 hq2 hP hD hS => ?_)
  refine lv_icmp_eq (tgt := 1183) hx hb dL_law_399 (by decide) (fun _ => ?_) (fun c9 => absurd hq2.1.symm c9)
  exact kk w2 H2 locs2 hq2.2 hP hD hS
set_option maxHeartbeats 4000000 in
set_option maxRecDepth 100000 in
theorem blk_forget (hx : p.tables.exec = Jvm.exec) (hb : c.code = cL_law) (hml : c.maxLocals = 4) (hown : s.vm.findClass RL = some m.cls) (hts : ∀ w ∈ wsL_law, w.before args s = true) (hX : va_X b L xs s s.heap) (hbl : b < s.heap.size) (hbA : ¬ A b) (hN : kN s) (hK : va_K D vwCl (kT cI cZ cS cP) s) (hL : L ≤ 384) (hi : i + 6 ≤ L) (hfit : cells + 14 ≤ 600000 ∧ slots + 42 ≤ 7302250) (hk : CkI l yX10_forget wsX10_forget D (kT cI cZ cS cP) hO 10 [.int (xs (i + 1))] w0 (fun r w1 => CkI l yX11_forget wsX11_forget D (kT cI cZ cS cP) hM 11 [.int (xs (i + 1))] w1 (fun r2 w2 => r2 = r ∧ J w2))) (hP : va_P D vwCl w0 H) (hD : va_D A w0) (hS : va_S A s.heap H locs) (hA : ∀ q : Nat, s.heap.size ≤ q → A q) (hl : lv_has ls 4 [(0, .ref b), (1, .ref hO), (2, .ref hM), (3, .int (nI i))]) (kk : ∀ (w2 : va_W) (H1 : Heap) (locs1 : List Loc), J w2 → va_P D vwCl w2 H1 → va_D A w2 → va_S A s.heap H1 locs1 → W p l e room_1 s m args below meth c H1 locs1 (cells + 14) (slots + 42) Q (F0 m 1183 ls [])) : W p l e room_1 s m args below meth c H locs cells slots Q (F0 m 404 ls []) := by
  refine lv_aload_n hx hb dL_law_404 rfl (lv_at hl 1 rfl) ?_
  refine lv_aload_n hx hb dL_law_405 rfl (lv_at hl 0 rfl) ?_
  refine lv_iload_n hx hb dL_law_406 rfl (lv_at hl 3 rfl) ?_
  refine lv_iconst (v := nI 1) hx hb dL_law_407 (by decide) ?_
  refine lv_iadd hx hb dL_law_408 ?_
  refine k_eqi (nI_add i 1) ?_
  refine va_sld hx hb hX hbl hbA hS (vp_in_nI (show i + 1 < L by omega) (by omega)) dL_law_409 ?_
  refine k_eqi (show xs (nI (i + 1)).toNatClampNeg = xs (i + 1) by rw [nI_clamp (by omega)]) ?_
  refine k_cki (ci := 10) (n := 1) (As := [.int (xs (i + 1))]) (rest := []) ⟨hx, hb, hml, hown, hts⟩ hN hK gL_law_X10_forget rfl (by decide +kernel) rfl rfl (by decide) ⟨Nat.le_of_ble_eq_true rfl, Nat.le_of_ble_eq_true rfl⟩ ⟨show cells + 7 ≤ 600000 by omega, show slots + 21 ≤ 7302250 by omega⟩ hk rfl hl.1 rfl (Nat.le_of_ble_eq_true rfl) dL_law_410 hP hD hS hA (fun r1 w1 H1 locs1 hq1 hP hD hS => ?_)
  refine lv_aload_n hx hb dL_law_413 rfl (lv_at hl 2 rfl) ?_
  refine lv_aload_n hx hb dL_law_414 rfl (lv_at hl 0 rfl) ?_
  refine lv_iload_n hx hb dL_law_415 rfl (lv_at hl 3 rfl) ?_
  refine lv_iconst (v := nI 1) hx hb dL_law_416 (by decide) ?_
  refine lv_iadd hx hb dL_law_417 ?_
  refine k_eqi (nI_add i 1) ?_
  refine va_sld hx hb hX hbl hbA hS (vp_in_nI (show i + 1 < L by omega) (by omega)) dL_law_418 ?_
  refine k_eqi (show xs (nI (i + 1)).toNatClampNeg = xs (i + 1) by rw [nI_clamp (by omega)]) ?_
  refine k_cki (ci := 11) (n := 1) (As := [.int (xs (i + 1))]) (rest := [.int r1]) ⟨hx, hb, hml, hown, hts⟩ hN hK gL_law_X11_forget rfl (by decide +kernel) rfl rfl (by decide) ⟨Nat.le_of_ble_eq_true rfl, Nat.le_of_ble_eq_true rfl⟩ ⟨show cells + 7 + 7 ≤ 600000 by omega, show slots + 21 + 21 ≤ 7302250 by omega⟩ hq1 rfl hl.1 rfl (Nat.le_of_ble_eq_true rfl) dL_law_419 hP hD hS hA (fun r2 w2 H2 locs2 hq2 hP hD hS => ?_)
  refine lv_icmp_eq (tgt := 1183) hx hb dL_law_422 (by decide) (fun _ => ?_) (fun c9 => absurd hq2.1.symm c9)
  exact kk w2 H2 locs2 hq2.2 hP hD hS
set_option maxHeartbeats 4000000 in
set_option maxRecDepth 100000 in
theorem blk_says (hx : p.tables.exec = Jvm.exec) (hb : c.code = cL_law) (hml : c.maxLocals = 4) (hown : s.vm.findClass RL = some m.cls) (hts : ∀ w ∈ wsL_law, w.before args s = true) (hX : va_X b L xs s s.heap) (hbl : b < s.heap.size) (hbA : ¬ A b) (hN : kN s) (hK : va_K D vwCl (kT cI cZ cS cP) s) (hL : L ≤ 384) (hi : i + 6 ≤ L) (hfit : cells + 14 ≤ 600000 ∧ slots + 42 ≤ 7302250) (hk : CkI l yX10_says wsX10_says D (kT cI cZ cS cP) hO 10 [.int (xs (i + 1))] w0 (fun r w1 => CkI l yX11_says wsX11_says D (kT cI cZ cS cP) hM 11 [.int (xs (i + 1))] w1 (fun r2 w2 => r2 = r ∧ J w2))) (hP : va_P D vwCl w0 H) (hD : va_D A w0) (hS : va_S A s.heap H locs) (hA : ∀ q : Nat, s.heap.size ≤ q → A q) (hl : lv_has ls 4 [(0, .ref b), (1, .ref hO), (2, .ref hM), (3, .int (nI i))]) (kk : ∀ (w2 : va_W) (H1 : Heap) (locs1 : List Loc), J w2 → va_P D vwCl w2 H1 → va_D A w2 → va_S A s.heap H1 locs1 → W p l e room_1 s m args below meth c H1 locs1 (cells + 14) (slots + 42) Q (F0 m 1183 ls [])) : W p l e room_1 s m args below meth c H locs cells slots Q (F0 m 427 ls []) := by
  refine lv_aload_n hx hb dL_law_427 rfl (lv_at hl 1 rfl) ?_
  refine lv_aload_n hx hb dL_law_428 rfl (lv_at hl 0 rfl) ?_
  refine lv_iload_n hx hb dL_law_429 rfl (lv_at hl 3 rfl) ?_
  refine lv_iconst (v := nI 1) hx hb dL_law_430 (by decide) ?_
  refine lv_iadd hx hb dL_law_431 ?_
  refine k_eqi (nI_add i 1) ?_
  refine va_sld hx hb hX hbl hbA hS (vp_in_nI (show i + 1 < L by omega) (by omega)) dL_law_432 ?_
  refine k_eqi (show xs (nI (i + 1)).toNatClampNeg = xs (i + 1) by rw [nI_clamp (by omega)]) ?_
  refine k_cki (ci := 10) (n := 1) (As := [.int (xs (i + 1))]) (rest := []) ⟨hx, hb, hml, hown, hts⟩ hN hK gL_law_X10_says rfl (by decide +kernel) rfl rfl (by decide) ⟨Nat.le_of_ble_eq_true rfl, Nat.le_of_ble_eq_true rfl⟩ ⟨show cells + 7 ≤ 600000 by omega, show slots + 21 ≤ 7302250 by omega⟩ hk rfl hl.1 rfl (Nat.le_of_ble_eq_true rfl) dL_law_433 hP hD hS hA (fun r1 w1 H1 locs1 hq1 hP hD hS => ?_)
  refine lv_aload_n hx hb dL_law_436 rfl (lv_at hl 2 rfl) ?_
  refine lv_aload_n hx hb dL_law_437 rfl (lv_at hl 0 rfl) ?_
  refine lv_iload_n hx hb dL_law_438 rfl (lv_at hl 3 rfl) ?_
  refine lv_iconst (v := nI 1) hx hb dL_law_439 (by decide) ?_
  refine lv_iadd hx hb dL_law_440 ?_
  refine k_eqi (nI_add i 1) ?_
  refine va_sld hx hb hX hbl hbA hS (vp_in_nI (show i + 1 < L by omega) (by omega)) dL_law_441 ?_
  refine k_eqi (show xs (nI (i + 1)).toNatClampNeg = xs (i + 1) by rw [nI_clamp (by omega)]) ?_
  refine k_cki (ci := 11) (n := 1) (As := [.int (xs (i + 1))]) (rest := [.int r1]) ⟨hx, hb, hml, hown, hts⟩ hN hK gL_law_X11_says rfl (by decide +kernel) rfl rfl (by decide) ⟨Nat.le_of_ble_eq_true rfl, Nat.le_of_ble_eq_true rfl⟩ ⟨show cells + 7 + 7 ≤ 600000 by omega, show slots + 21 + 21 ≤ 7302250 by omega⟩ hq1 rfl hl.1 rfl (Nat.le_of_ble_eq_true rfl) dL_law_442 hP hD hS hA (fun r2 w2 H2 locs2 hq2 hP hD hS => ?_)
  refine lv_icmp_eq (tgt := 1183) hx hb dL_law_445 (by decide) (fun _ => ?_) (fun c9 => absurd hq2.1.symm c9)
  exact kk w2 H2 locs2 hq2.2 hP hD hS
set_option maxHeartbeats 4000000 in
set_option maxRecDepth 100000 in
theorem blk_crowd (hx : p.tables.exec = Jvm.exec) (hb : c.code = cL_law) (hml : c.maxLocals = 4) (hown : s.vm.findClass RL = some m.cls) (hts : ∀ w ∈ wsL_law, w.before args s = true) (hX : va_X b L xs s s.heap) (hbl : b < s.heap.size) (hbA : ¬ A b) (hN : kN s) (hK : va_K D vwCl (kT cI cZ cS cP) s) (hL : L ≤ 384) (hi : i + 6 ≤ L) (hfit : cells + 14 ≤ 600000 ∧ slots + 42 ≤ 7302250) (hk : CkI l yX10_crowd wsX10_crowd D (kT cI cZ cS cP) hO 10 [.int (xs (i + 1))] w0 (fun r w1 => CkI l yX11_crowd wsX11_crowd D (kT cI cZ cS cP) hM 11 [.int (xs (i + 1))] w1 (fun r2 w2 => r2 = r ∧ J w2))) (hP : va_P D vwCl w0 H) (hD : va_D A w0) (hS : va_S A s.heap H locs) (hA : ∀ q : Nat, s.heap.size ≤ q → A q) (hl : lv_has ls 4 [(0, .ref b), (1, .ref hO), (2, .ref hM), (3, .int (nI i))]) (kk : ∀ (w2 : va_W) (H1 : Heap) (locs1 : List Loc), J w2 → va_P D vwCl w2 H1 → va_D A w2 → va_S A s.heap H1 locs1 → W p l e room_1 s m args below meth c H1 locs1 (cells + 14) (slots + 42) Q (F0 m 1183 ls [])) : W p l e room_1 s m args below meth c H locs cells slots Q (F0 m 450 ls []) := by
  refine lv_aload_n hx hb dL_law_450 rfl (lv_at hl 1 rfl) ?_
  refine lv_aload_n hx hb dL_law_451 rfl (lv_at hl 0 rfl) ?_
  refine lv_iload_n hx hb dL_law_452 rfl (lv_at hl 3 rfl) ?_
  refine lv_iconst (v := nI 1) hx hb dL_law_453 (by decide) ?_
  refine lv_iadd hx hb dL_law_454 ?_
  refine k_eqi (nI_add i 1) ?_
  refine va_sld hx hb hX hbl hbA hS (vp_in_nI (show i + 1 < L by omega) (by omega)) dL_law_455 ?_
  refine k_eqi (show xs (nI (i + 1)).toNatClampNeg = xs (i + 1) by rw [nI_clamp (by omega)]) ?_
  refine k_cki (ci := 10) (n := 1) (As := [.int (xs (i + 1))]) (rest := []) ⟨hx, hb, hml, hown, hts⟩ hN hK gL_law_X10_crowd rfl (by decide +kernel) rfl rfl (by decide) ⟨Nat.le_of_ble_eq_true rfl, Nat.le_of_ble_eq_true rfl⟩ ⟨show cells + 7 ≤ 600000 by omega, show slots + 21 ≤ 7302250 by omega⟩ hk rfl hl.1 rfl (Nat.le_of_ble_eq_true rfl) dL_law_456 hP hD hS hA (fun r1 w1 H1 locs1 hq1 hP hD hS => ?_)
  refine lv_aload_n hx hb dL_law_459 rfl (lv_at hl 2 rfl) ?_
  refine lv_aload_n hx hb dL_law_460 rfl (lv_at hl 0 rfl) ?_
  refine lv_iload_n hx hb dL_law_461 rfl (lv_at hl 3 rfl) ?_
  refine lv_iconst (v := nI 1) hx hb dL_law_462 (by decide) ?_
  refine lv_iadd hx hb dL_law_463 ?_
  refine k_eqi (nI_add i 1) ?_
  refine va_sld hx hb hX hbl hbA hS (vp_in_nI (show i + 1 < L by omega) (by omega)) dL_law_464 ?_
  refine k_eqi (show xs (nI (i + 1)).toNatClampNeg = xs (i + 1) by rw [nI_clamp (by omega)]) ?_
  refine k_cki (ci := 11) (n := 1) (As := [.int (xs (i + 1))]) (rest := [.int r1]) ⟨hx, hb, hml, hown, hts⟩ hN hK gL_law_X11_crowd rfl (by decide +kernel) rfl rfl (by decide) ⟨Nat.le_of_ble_eq_true rfl, Nat.le_of_ble_eq_true rfl⟩ ⟨show cells + 7 + 7 ≤ 600000 by omega, show slots + 21 + 21 ≤ 7302250 by omega⟩ hq1 rfl hl.1 rfl (Nat.le_of_ble_eq_true rfl) dL_law_465 hP hD hS hA (fun r2 w2 H2 locs2 hq2 hP hD hS => ?_)
  refine lv_icmp_eq (tgt := 1183) hx hb dL_law_468 (by decide) (fun _ => ?_) (fun c9 => absurd hq2.1.symm c9)
  exact kk w2 H2 locs2 hq2.2 hP hD hS
set_option maxHeartbeats 4000000 in
set_option maxRecDepth 100000 in
theorem blk_heard (hx : p.tables.exec = Jvm.exec) (hb : c.code = cL_law) (hml : c.maxLocals = 4) (hown : s.vm.findClass RL = some m.cls) (hts : ∀ w ∈ wsL_law, w.before args s = true) (hX : va_X b L xs s s.heap) (hbl : b < s.heap.size) (hbA : ¬ A b) (hN : kN s) (hK : va_K D vwCl (kT cI cZ cS cP) s) (hL : L ≤ 384) (hi : i + 6 ≤ L) (hfit : cells + 14 ≤ 600000 ∧ slots + 42 ≤ 7302250) (hk : CkI l yX10_heard wsX10_heard D (kT cI cZ cS cP) hO 10 [.int (xs (i + 1)), .int (xs (i + 2)), .int (xs (i + 3))] w0 (fun r w1 => CkI l yX11_heard wsX11_heard D (kT cI cZ cS cP) hM 11 [.int (xs (i + 1)), .int (xs (i + 2)), .int (xs (i + 3))] w1 (fun r2 w2 => r2 = r ∧ J w2))) (hP : va_P D vwCl w0 H) (hD : va_D A w0) (hS : va_S A s.heap H locs) (hA : ∀ q : Nat, s.heap.size ≤ q → A q) (hl : lv_has ls 4 [(0, .ref b), (1, .ref hO), (2, .ref hM), (3, .int (nI i))]) (kk : ∀ (w2 : va_W) (H1 : Heap) (locs1 : List Loc), J w2 → va_P D vwCl w2 H1 → va_D A w2 → va_S A s.heap H1 locs1 → W p l e room_1 s m args below meth c H1 locs1 (cells + 14) (slots + 42) Q (F0 m 1183 ls [])) : W p l e room_1 s m args below meth c H locs cells slots Q (F0 m 473 ls []) := by
  refine lv_aload_n hx hb dL_law_473 rfl (lv_at hl 1 rfl) ?_
  refine lv_aload_n hx hb dL_law_474 rfl (lv_at hl 0 rfl) ?_
  refine lv_iload_n hx hb dL_law_475 rfl (lv_at hl 3 rfl) ?_
  refine lv_iconst (v := nI 1) hx hb dL_law_476 (by decide) ?_
  refine lv_iadd hx hb dL_law_477 ?_
  refine k_eqi (nI_add i 1) ?_
  refine va_sld hx hb hX hbl hbA hS (vp_in_nI (show i + 1 < L by omega) (by omega)) dL_law_478 ?_
  refine k_eqi (show xs (nI (i + 1)).toNatClampNeg = xs (i + 1) by rw [nI_clamp (by omega)]) ?_
  refine lv_aload_n hx hb dL_law_479 rfl (lv_at hl 0 rfl) ?_
  refine lv_iload_n hx hb dL_law_480 rfl (lv_at hl 3 rfl) ?_
  refine lv_iconst (v := nI 2) hx hb dL_law_481 (by decide) ?_
  refine lv_iadd hx hb dL_law_482 ?_
  refine k_eqi (nI_add i 2) ?_
  refine va_sld hx hb hX hbl hbA hS (vp_in_nI (show i + 2 < L by omega) (by omega)) dL_law_483 ?_
  refine k_eqi (show xs (nI (i + 2)).toNatClampNeg = xs (i + 2) by rw [nI_clamp (by omega)]) ?_
  refine lv_aload_n hx hb dL_law_484 rfl (lv_at hl 0 rfl) ?_
  refine lv_iload_n hx hb dL_law_485 rfl (lv_at hl 3 rfl) ?_
  refine lv_iconst (v := nI 3) hx hb dL_law_486 (by decide) ?_
  refine lv_iadd hx hb dL_law_487 ?_
  refine k_eqi (nI_add i 3) ?_
  refine va_sld hx hb hX hbl hbA hS (vp_in_nI (show i + 3 < L by omega) (by omega)) dL_law_488 ?_
  refine k_eqi (show xs (nI (i + 3)).toNatClampNeg = xs (i + 3) by rw [nI_clamp (by omega)]) ?_
  refine k_cki (ci := 10) (n := 3) (As := [.int (xs (i + 1)), .int (xs (i + 2)), .int (xs (i + 3))]) (rest := []) ⟨hx, hb, hml, hown, hts⟩ hN hK gL_law_X10_heard rfl (by decide +kernel) rfl rfl (by decide) ⟨Nat.le_of_ble_eq_true rfl, Nat.le_of_ble_eq_true rfl⟩ ⟨show cells + 7 ≤ 600000 by omega, show slots + 21 ≤ 7302250 by omega⟩ hk rfl hl.1 rfl (Nat.le_of_ble_eq_true rfl) dL_law_489 hP hD hS hA (fun r1 w1 H1 locs1 hq1 hP hD hS => ?_)
  refine lv_aload_n hx hb dL_law_492 rfl (lv_at hl 2 rfl) ?_
  refine lv_aload_n hx hb dL_law_493 rfl (lv_at hl 0 rfl) ?_
  refine lv_iload_n hx hb dL_law_494 rfl (lv_at hl 3 rfl) ?_
  refine lv_iconst (v := nI 1) hx hb dL_law_495 (by decide) ?_
  refine lv_iadd hx hb dL_law_496 ?_
  refine k_eqi (nI_add i 1) ?_
  refine va_sld hx hb hX hbl hbA hS (vp_in_nI (show i + 1 < L by omega) (by omega)) dL_law_497 ?_
  refine k_eqi (show xs (nI (i + 1)).toNatClampNeg = xs (i + 1) by rw [nI_clamp (by omega)]) ?_
  refine lv_aload_n hx hb dL_law_498 rfl (lv_at hl 0 rfl) ?_
  refine lv_iload_n hx hb dL_law_499 rfl (lv_at hl 3 rfl) ?_
  refine lv_iconst (v := nI 2) hx hb dL_law_500 (by decide) ?_
  refine lv_iadd hx hb dL_law_501 ?_
  refine k_eqi (nI_add i 2) ?_
  refine va_sld hx hb hX hbl hbA hS (vp_in_nI (show i + 2 < L by omega) (by omega)) dL_law_502 ?_
  refine k_eqi (show xs (nI (i + 2)).toNatClampNeg = xs (i + 2) by rw [nI_clamp (by omega)]) ?_
  refine lv_aload_n hx hb dL_law_503 rfl (lv_at hl 0 rfl) ?_
  refine lv_iload_n hx hb dL_law_504 rfl (lv_at hl 3 rfl) ?_
  refine lv_iconst (v := nI 3) hx hb dL_law_505 (by decide) ?_
  refine lv_iadd hx hb dL_law_506 ?_
  refine k_eqi (nI_add i 3) ?_
  refine va_sld hx hb hX hbl hbA hS (vp_in_nI (show i + 3 < L by omega) (by omega)) dL_law_507 ?_
  refine k_eqi (show xs (nI (i + 3)).toNatClampNeg = xs (i + 3) by rw [nI_clamp (by omega)]) ?_
  refine k_cki (ci := 11) (n := 3) (As := [.int (xs (i + 1)), .int (xs (i + 2)), .int (xs (i + 3))]) (rest := [.int r1]) ⟨hx, hb, hml, hown, hts⟩ hN hK gL_law_X11_heard rfl (by decide +kernel) rfl rfl (by decide) ⟨Nat.le_of_ble_eq_true rfl, Nat.le_of_ble_eq_true rfl⟩ ⟨show cells + 7 + 7 ≤ 600000 by omega, show slots + 21 + 21 ≤ 7302250 by omega⟩ hq1 rfl hl.1 rfl (Nat.le_of_ble_eq_true rfl) dL_law_508 hP hD hS hA (fun r2 w2 H2 locs2 hq2 hP hD hS => ?_)
  refine lv_icmp_eq (tgt := 1183) hx hb dL_law_511 (by decide) (fun _ => ?_) (fun c9 => absurd hq2.1.symm c9)
  exact kk w2 H2 locs2 hq2.2 hP hD hS
set_option maxHeartbeats 4000000 in
set_option maxRecDepth 100000 in
theorem blk_silence (hx : p.tables.exec = Jvm.exec) (hb : c.code = cL_law) (hml : c.maxLocals = 4) (hown : s.vm.findClass RL = some m.cls) (hts : ∀ w ∈ wsL_law, w.before args s = true) (hX : va_X b L xs s s.heap) (hbl : b < s.heap.size) (hbA : ¬ A b) (hN : kN s) (hK : va_K D vwCl (kT cI cZ cS cP) s) (hL : L ≤ 384) (hi : i + 6 ≤ L) (hfit : cells + 14 ≤ 600000 ∧ slots + 42 ≤ 7302250) (hk : CkI l yX10_silence wsX10_silence D (kT cI cZ cS cP) hO 10 [] w0 (fun r w1 => CkI l yX11_silence wsX11_silence D (kT cI cZ cS cP) hM 11 [] w1 (fun r2 w2 => r2 = r ∧ J w2))) (hP : va_P D vwCl w0 H) (hD : va_D A w0) (hS : va_S A s.heap H locs) (hA : ∀ q : Nat, s.heap.size ≤ q → A q) (hl : lv_has ls 4 [(0, .ref b), (1, .ref hO), (2, .ref hM), (3, .int (nI i))]) (kk : ∀ (w2 : va_W) (H1 : Heap) (locs1 : List Loc), J w2 → va_P D vwCl w2 H1 → va_D A w2 → va_S A s.heap H1 locs1 → W p l e room_1 s m args below meth c H1 locs1 (cells + 14) (slots + 42) Q (F0 m 1183 ls [])) : W p l e room_1 s m args below meth c H locs cells slots Q (F0 m 516 ls []) := by
  refine lv_aload_n hx hb dL_law_516 rfl (lv_at hl 1 rfl) ?_
  refine k_cki (ci := 10) (n := 0) (As := []) (rest := []) ⟨hx, hb, hml, hown, hts⟩ hN hK gL_law_X10_silence rfl (by decide +kernel) rfl rfl (by decide) ⟨Nat.le_of_ble_eq_true rfl, Nat.le_of_ble_eq_true rfl⟩ ⟨show cells + 7 ≤ 600000 by omega, show slots + 21 ≤ 7302250 by omega⟩ hk rfl hl.1 rfl (Nat.le_of_ble_eq_true rfl) dL_law_517 hP hD hS hA (fun r1 w1 H1 locs1 hq1 hP hD hS => ?_)
  refine lv_aload_n hx hb dL_law_520 rfl (lv_at hl 2 rfl) ?_
  refine k_cki (ci := 11) (n := 0) (As := []) (rest := [.int r1]) ⟨hx, hb, hml, hown, hts⟩ hN hK gL_law_X11_silence rfl (by decide +kernel) rfl rfl (by decide) ⟨Nat.le_of_ble_eq_true rfl, Nat.le_of_ble_eq_true rfl⟩ ⟨show cells + 7 + 7 ≤ 600000 by omega, show slots + 21 + 21 ≤ 7302250 by omega⟩ hq1 rfl hl.1 rfl (Nat.le_of_ble_eq_true rfl) dL_law_521 hP hD hS hA (fun r2 w2 H2 locs2 hq2 hP hD hS => ?_)
  refine lv_icmp_eq (tgt := 1183) hx hb dL_law_524 (by decide) (fun _ => ?_) (fun c9 => absurd hq2.1.symm c9)
  exact kk w2 H2 locs2 hq2.2 hP hD hS
set_option maxHeartbeats 4000000 in
set_option maxRecDepth 100000 in
theorem blk_noticed (hx : p.tables.exec = Jvm.exec) (hb : c.code = cL_law) (hml : c.maxLocals = 4) (hown : s.vm.findClass RL = some m.cls) (hts : ∀ w ∈ wsL_law, w.before args s = true) (hX : va_X b L xs s s.heap) (hbl : b < s.heap.size) (hbA : ¬ A b) (hN : kN s) (hK : va_K D vwCl (kT cI cZ cS cP) s) (hL : L ≤ 384) (hi : i + 6 ≤ L) (hfit : cells + 14 ≤ 600000 ∧ slots + 42 ≤ 7302250) (hk : CkI l yX10_noticed wsX10_noticed D (kT cI cZ cS cP) hO 10 [] w0 (fun r w1 => CkI l yX11_noticed wsX11_noticed D (kT cI cZ cS cP) hM 11 [] w1 (fun r2 w2 => r2 = r ∧ J w2))) (hP : va_P D vwCl w0 H) (hD : va_D A w0) (hS : va_S A s.heap H locs) (hA : ∀ q : Nat, s.heap.size ≤ q → A q) (hl : lv_has ls 4 [(0, .ref b), (1, .ref hO), (2, .ref hM), (3, .int (nI i))]) (kk : ∀ (w2 : va_W) (H1 : Heap) (locs1 : List Loc), J w2 → va_P D vwCl w2 H1 → va_D A w2 → va_S A s.heap H1 locs1 → W p l e room_1 s m args below meth c H1 locs1 (cells + 14) (slots + 42) Q (F0 m 1183 ls [])) : W p l e room_1 s m args below meth c H locs cells slots Q (F0 m 529 ls []) := by
  refine lv_aload_n hx hb dL_law_529 rfl (lv_at hl 1 rfl) ?_
  refine k_cki (ci := 10) (n := 0) (As := []) (rest := []) ⟨hx, hb, hml, hown, hts⟩ hN hK gL_law_X10_noticed rfl (by decide +kernel) rfl rfl (by decide) ⟨Nat.le_of_ble_eq_true rfl, Nat.le_of_ble_eq_true rfl⟩ ⟨show cells + 7 ≤ 600000 by omega, show slots + 21 ≤ 7302250 by omega⟩ hk rfl hl.1 rfl (Nat.le_of_ble_eq_true rfl) dL_law_530 hP hD hS hA (fun r1 w1 H1 locs1 hq1 hP hD hS => ?_)
  refine lv_aload_n hx hb dL_law_533 rfl (lv_at hl 2 rfl) ?_
  refine k_cki (ci := 11) (n := 0) (As := []) (rest := [.int r1]) ⟨hx, hb, hml, hown, hts⟩ hN hK gL_law_X11_noticed rfl (by decide +kernel) rfl rfl (by decide) ⟨Nat.le_of_ble_eq_true rfl, Nat.le_of_ble_eq_true rfl⟩ ⟨show cells + 7 + 7 ≤ 600000 by omega, show slots + 21 + 21 ≤ 7302250 by omega⟩ hq1 rfl hl.1 rfl (Nat.le_of_ble_eq_true rfl) dL_law_534 hP hD hS hA (fun r2 w2 H2 locs2 hq2 hP hD hS => ?_)
  refine lv_icmp_eq (tgt := 1183) hx hb dL_law_537 (by decide) (fun _ => ?_) (fun c9 => absurd hq2.1.symm c9)
  exact kk w2 H2 locs2 hq2.2 hP hD hS
set_option maxHeartbeats 4000000 in
set_option maxRecDepth 100000 in
theorem blk_fewest (hx : p.tables.exec = Jvm.exec) (hb : c.code = cL_law) (hml : c.maxLocals = 4) (hown : s.vm.findClass RL = some m.cls) (hts : ∀ w ∈ wsL_law, w.before args s = true) (hX : va_X b L xs s s.heap) (hbl : b < s.heap.size) (hbA : ¬ A b) (hN : kN s) (hK : va_K D vwCl (kT cI cZ cS cP) s) (hL : L ≤ 384) (hi : i + 6 ≤ L) (hfit : cells + 14 ≤ 600000 ∧ slots + 42 ≤ 7302250) (hk : CkI l yX10_fewest wsX10_fewest D (kT cI cZ cS cP) hO 10 [] w0 (fun r w1 => CkI l yX11_fewest wsX11_fewest D (kT cI cZ cS cP) hM 11 [] w1 (fun r2 w2 => r2 = r ∧ J w2))) (hP : va_P D vwCl w0 H) (hD : va_D A w0) (hS : va_S A s.heap H locs) (hA : ∀ q : Nat, s.heap.size ≤ q → A q) (hl : lv_has ls 4 [(0, .ref b), (1, .ref hO), (2, .ref hM), (3, .int (nI i))]) (kk : ∀ (w2 : va_W) (H1 : Heap) (locs1 : List Loc), J w2 → va_P D vwCl w2 H1 → va_D A w2 → va_S A s.heap H1 locs1 → W p l e room_1 s m args below meth c H1 locs1 (cells + 14) (slots + 42) Q (F0 m 1183 ls [])) : W p l e room_1 s m args below meth c H locs cells slots Q (F0 m 542 ls []) := by
  refine lv_aload_n hx hb dL_law_542 rfl (lv_at hl 1 rfl) ?_
  refine k_cki (ci := 10) (n := 0) (As := []) (rest := []) ⟨hx, hb, hml, hown, hts⟩ hN hK gL_law_X10_fewest rfl (by decide +kernel) rfl rfl (by decide) ⟨Nat.le_of_ble_eq_true rfl, Nat.le_of_ble_eq_true rfl⟩ ⟨show cells + 7 ≤ 600000 by omega, show slots + 21 ≤ 7302250 by omega⟩ hk rfl hl.1 rfl (Nat.le_of_ble_eq_true rfl) dL_law_543 hP hD hS hA (fun r1 w1 H1 locs1 hq1 hP hD hS => ?_)
  refine lv_aload_n hx hb dL_law_546 rfl (lv_at hl 2 rfl) ?_
  refine k_cki (ci := 11) (n := 0) (As := []) (rest := [.int r1]) ⟨hx, hb, hml, hown, hts⟩ hN hK gL_law_X11_fewest rfl (by decide +kernel) rfl rfl (by decide) ⟨Nat.le_of_ble_eq_true rfl, Nat.le_of_ble_eq_true rfl⟩ ⟨show cells + 7 + 7 ≤ 600000 by omega, show slots + 21 + 21 ≤ 7302250 by omega⟩ hq1 rfl hl.1 rfl (Nat.le_of_ble_eq_true rfl) dL_law_547 hP hD hS hA (fun r2 w2 H2 locs2 hq2 hP hD hS => ?_)
  refine lv_icmp_eq (tgt := 1183) hx hb dL_law_550 (by decide) (fun _ => ?_) (fun c9 => absurd hq2.1.symm c9)
  exact kk w2 H2 locs2 hq2.2 hP hD hS
set_option maxHeartbeats 4000000 in
set_option maxRecDepth 100000 in
theorem blk_bribes (hx : p.tables.exec = Jvm.exec) (hb : c.code = cL_law) (hml : c.maxLocals = 4) (hown : s.vm.findClass RL = some m.cls) (hts : ∀ w ∈ wsL_law, w.before args s = true) (hX : va_X b L xs s s.heap) (hbl : b < s.heap.size) (hbA : ¬ A b) (hN : kN s) (hK : va_K D vwCl (kT cI cZ cS cP) s) (hL : L ≤ 384) (hi : i + 6 ≤ L) (hfit : cells + 14 ≤ 600000 ∧ slots + 42 ≤ 7302250) (hk : CkI l yX10_bribes wsX10_bribes D (kT cI cZ cS cP) hO 10 [.int (xs (i + 1))] w0 (fun r w1 => CkI l yX11_bribes wsX11_bribes D (kT cI cZ cS cP) hM 11 [.int (xs (i + 1))] w1 (fun r2 w2 => r2 = r ∧ J w2))) (hP : va_P D vwCl w0 H) (hD : va_D A w0) (hS : va_S A s.heap H locs) (hA : ∀ q : Nat, s.heap.size ≤ q → A q) (hl : lv_has ls 4 [(0, .ref b), (1, .ref hO), (2, .ref hM), (3, .int (nI i))]) (kk : ∀ (w2 : va_W) (H1 : Heap) (locs1 : List Loc), J w2 → va_P D vwCl w2 H1 → va_D A w2 → va_S A s.heap H1 locs1 → W p l e room_1 s m args below meth c H1 locs1 (cells + 14) (slots + 42) Q (F0 m 1183 ls [])) : W p l e room_1 s m args below meth c H locs cells slots Q (F0 m 555 ls []) := by
  refine lv_aload_n hx hb dL_law_555 rfl (lv_at hl 1 rfl) ?_
  refine lv_aload_n hx hb dL_law_556 rfl (lv_at hl 0 rfl) ?_
  refine lv_iload_n hx hb dL_law_557 rfl (lv_at hl 3 rfl) ?_
  refine lv_iconst (v := nI 1) hx hb dL_law_558 (by decide) ?_
  refine lv_iadd hx hb dL_law_559 ?_
  refine k_eqi (nI_add i 1) ?_
  refine va_sld hx hb hX hbl hbA hS (vp_in_nI (show i + 1 < L by omega) (by omega)) dL_law_560 ?_
  refine k_eqi (show xs (nI (i + 1)).toNatClampNeg = xs (i + 1) by rw [nI_clamp (by omega)]) ?_
  refine k_cki (ci := 10) (n := 1) (As := [.int (xs (i + 1))]) (rest := []) ⟨hx, hb, hml, hown, hts⟩ hN hK gL_law_X10_bribes rfl (by decide +kernel) rfl rfl (by decide) ⟨Nat.le_of_ble_eq_true rfl, Nat.le_of_ble_eq_true rfl⟩ ⟨show cells + 7 ≤ 600000 by omega, show slots + 21 ≤ 7302250 by omega⟩ hk rfl hl.1 rfl (Nat.le_of_ble_eq_true rfl) dL_law_561 hP hD hS hA (fun r1 w1 H1 locs1 hq1 hP hD hS => ?_)
  refine lv_aload_n hx hb dL_law_564 rfl (lv_at hl 2 rfl) ?_
  refine lv_aload_n hx hb dL_law_565 rfl (lv_at hl 0 rfl) ?_
  refine lv_iload_n hx hb dL_law_566 rfl (lv_at hl 3 rfl) ?_
  refine lv_iconst (v := nI 1) hx hb dL_law_567 (by decide) ?_
  refine lv_iadd hx hb dL_law_568 ?_
  refine k_eqi (nI_add i 1) ?_
  refine va_sld hx hb hX hbl hbA hS (vp_in_nI (show i + 1 < L by omega) (by omega)) dL_law_569 ?_
  refine k_eqi (show xs (nI (i + 1)).toNatClampNeg = xs (i + 1) by rw [nI_clamp (by omega)]) ?_
  refine k_cki (ci := 11) (n := 1) (As := [.int (xs (i + 1))]) (rest := [.int r1]) ⟨hx, hb, hml, hown, hts⟩ hN hK gL_law_X11_bribes rfl (by decide +kernel) rfl rfl (by decide) ⟨Nat.le_of_ble_eq_true rfl, Nat.le_of_ble_eq_true rfl⟩ ⟨show cells + 7 + 7 ≤ 600000 by omega, show slots + 21 + 21 ≤ 7302250 by omega⟩ hq1 rfl hl.1 rfl (Nat.le_of_ble_eq_true rfl) dL_law_570 hP hD hS hA (fun r2 w2 H2 locs2 hq2 hP hD hS => ?_)
  refine lv_icmp_eq (tgt := 1183) hx hb dL_law_573 (by decide) (fun _ => ?_) (fun c9 => absurd hq2.1.symm c9)
  exact kk w2 H2 locs2 hq2.2 hP hD hS
set_option maxHeartbeats 4000000 in
set_option maxRecDepth 100000 in
theorem blk_whispers (hx : p.tables.exec = Jvm.exec) (hb : c.code = cL_law) (hml : c.maxLocals = 4) (hown : s.vm.findClass RL = some m.cls) (hts : ∀ w ∈ wsL_law, w.before args s = true) (hX : va_X b L xs s s.heap) (hbl : b < s.heap.size) (hbA : ¬ A b) (hN : kN s) (hK : va_K D vwCl (kT cI cZ cS cP) s) (hL : L ≤ 384) (hi : i + 6 ≤ L) (hfit : cells + 14 ≤ 600000 ∧ slots + 42 ≤ 7302250) (hk : CkI l yX10_whispers wsX10_whispers D (kT cI cZ cS cP) hO 10 [.int (xs (i + 1))] w0 (fun r w1 => CkI l yX11_whispers wsX11_whispers D (kT cI cZ cS cP) hM 11 [.int (xs (i + 1))] w1 (fun r2 w2 => r2 = r ∧ J w2))) (hP : va_P D vwCl w0 H) (hD : va_D A w0) (hS : va_S A s.heap H locs) (hA : ∀ q : Nat, s.heap.size ≤ q → A q) (hl : lv_has ls 4 [(0, .ref b), (1, .ref hO), (2, .ref hM), (3, .int (nI i))]) (kk : ∀ (w2 : va_W) (H1 : Heap) (locs1 : List Loc), J w2 → va_P D vwCl w2 H1 → va_D A w2 → va_S A s.heap H1 locs1 → W p l e room_1 s m args below meth c H1 locs1 (cells + 14) (slots + 42) Q (F0 m 1183 ls [])) : W p l e room_1 s m args below meth c H locs cells slots Q (F0 m 578 ls []) := by
  refine lv_aload_n hx hb dL_law_578 rfl (lv_at hl 1 rfl) ?_
  refine lv_aload_n hx hb dL_law_579 rfl (lv_at hl 0 rfl) ?_
  refine lv_iload_n hx hb dL_law_580 rfl (lv_at hl 3 rfl) ?_
  refine lv_iconst (v := nI 1) hx hb dL_law_581 (by decide) ?_
  refine lv_iadd hx hb dL_law_582 ?_
  refine k_eqi (nI_add i 1) ?_
  refine va_sld hx hb hX hbl hbA hS (vp_in_nI (show i + 1 < L by omega) (by omega)) dL_law_583 ?_
  refine k_eqi (show xs (nI (i + 1)).toNatClampNeg = xs (i + 1) by rw [nI_clamp (by omega)]) ?_
  refine k_cki (ci := 10) (n := 1) (As := [.int (xs (i + 1))]) (rest := []) ⟨hx, hb, hml, hown, hts⟩ hN hK gL_law_X10_whispers rfl (by decide +kernel) rfl rfl (by decide) ⟨Nat.le_of_ble_eq_true rfl, Nat.le_of_ble_eq_true rfl⟩ ⟨show cells + 7 ≤ 600000 by omega, show slots + 21 ≤ 7302250 by omega⟩ hk rfl hl.1 rfl (Nat.le_of_ble_eq_true rfl) dL_law_584 hP hD hS hA (fun r1 w1 H1 locs1 hq1 hP hD hS => ?_)
  refine lv_aload_n hx hb dL_law_587 rfl (lv_at hl 2 rfl) ?_
  refine lv_aload_n hx hb dL_law_588 rfl (lv_at hl 0 rfl) ?_
  refine lv_iload_n hx hb dL_law_589 rfl (lv_at hl 3 rfl) ?_
  refine lv_iconst (v := nI 1) hx hb dL_law_590 (by decide) ?_
  refine lv_iadd hx hb dL_law_591 ?_
  refine k_eqi (nI_add i 1) ?_
  refine va_sld hx hb hX hbl hbA hS (vp_in_nI (show i + 1 < L by omega) (by omega)) dL_law_592 ?_
  refine k_eqi (show xs (nI (i + 1)).toNatClampNeg = xs (i + 1) by rw [nI_clamp (by omega)]) ?_
  refine k_cki (ci := 11) (n := 1) (As := [.int (xs (i + 1))]) (rest := [.int r1]) ⟨hx, hb, hml, hown, hts⟩ hN hK gL_law_X11_whispers rfl (by decide +kernel) rfl rfl (by decide) ⟨Nat.le_of_ble_eq_true rfl, Nat.le_of_ble_eq_true rfl⟩ ⟨show cells + 7 + 7 ≤ 600000 by omega, show slots + 21 + 21 ≤ 7302250 by omega⟩ hq1 rfl hl.1 rfl (Nat.le_of_ble_eq_true rfl) dL_law_593 hP hD hS hA (fun r2 w2 H2 locs2 hq2 hP hD hS => ?_)
  refine lv_icmp_eq (tgt := 1183) hx hb dL_law_596 (by decide) (fun _ => ?_) (fun c9 => absurd hq2.1.symm c9)
  exact kk w2 H2 locs2 hq2.2 hP hD hS
set_option maxHeartbeats 4000000 in
set_option maxRecDepth 100000 in
theorem blk_worth (hx : p.tables.exec = Jvm.exec) (hb : c.code = cL_law) (hml : c.maxLocals = 4) (hown : s.vm.findClass RL = some m.cls) (hts : ∀ w ∈ wsL_law, w.before args s = true) (hX : va_X b L xs s s.heap) (hbl : b < s.heap.size) (hbA : ¬ A b) (hN : kN s) (hK : va_K D vwCl (kT cI cZ cS cP) s) (hL : L ≤ 384) (hi : i + 6 ≤ L) (hfit : cells + 14 ≤ 600000 ∧ slots + 42 ≤ 7302250) (hk : CkI l yX10_worth wsX10_worth D (kT cI cZ cS cP) hO 10 [.int (xs (i + 1))] w0 (fun r w1 => CkI l yX11_worth wsX11_worth D (kT cI cZ cS cP) hM 11 [.int (xs (i + 1))] w1 (fun r2 w2 => r2 = r ∧ J w2))) (hP : va_P D vwCl w0 H) (hD : va_D A w0) (hS : va_S A s.heap H locs) (hA : ∀ q : Nat, s.heap.size ≤ q → A q) (hl : lv_has ls 4 [(0, .ref b), (1, .ref hO), (2, .ref hM), (3, .int (nI i))]) (kk : ∀ (w2 : va_W) (H1 : Heap) (locs1 : List Loc), J w2 → va_P D vwCl w2 H1 → va_D A w2 → va_S A s.heap H1 locs1 → W p l e room_1 s m args below meth c H1 locs1 (cells + 14) (slots + 42) Q (F0 m 1183 ls [])) : W p l e room_1 s m args below meth c H locs cells slots Q (F0 m 601 ls []) := by
  refine lv_aload_n hx hb dL_law_601 rfl (lv_at hl 1 rfl) ?_
  refine lv_aload_n hx hb dL_law_602 rfl (lv_at hl 0 rfl) ?_
  refine lv_iload_n hx hb dL_law_603 rfl (lv_at hl 3 rfl) ?_
  refine lv_iconst (v := nI 1) hx hb dL_law_604 (by decide) ?_
  refine lv_iadd hx hb dL_law_605 ?_
  refine k_eqi (nI_add i 1) ?_
  refine va_sld hx hb hX hbl hbA hS (vp_in_nI (show i + 1 < L by omega) (by omega)) dL_law_606 ?_
  refine k_eqi (show xs (nI (i + 1)).toNatClampNeg = xs (i + 1) by rw [nI_clamp (by omega)]) ?_
  refine k_cki (ci := 10) (n := 1) (As := [.int (xs (i + 1))]) (rest := []) ⟨hx, hb, hml, hown, hts⟩ hN hK gL_law_X10_worth rfl (by decide +kernel) rfl rfl (by decide) ⟨Nat.le_of_ble_eq_true rfl, Nat.le_of_ble_eq_true rfl⟩ ⟨show cells + 7 ≤ 600000 by omega, show slots + 21 ≤ 7302250 by omega⟩ hk rfl hl.1 rfl (Nat.le_of_ble_eq_true rfl) dL_law_607 hP hD hS hA (fun r1 w1 H1 locs1 hq1 hP hD hS => ?_)
  refine lv_aload_n hx hb dL_law_610 rfl (lv_at hl 2 rfl) ?_
  refine lv_aload_n hx hb dL_law_611 rfl (lv_at hl 0 rfl) ?_
  refine lv_iload_n hx hb dL_law_612 rfl (lv_at hl 3 rfl) ?_
  refine lv_iconst (v := nI 1) hx hb dL_law_613 (by decide) ?_
  refine lv_iadd hx hb dL_law_614 ?_
  refine k_eqi (nI_add i 1) ?_
  refine va_sld hx hb hX hbl hbA hS (vp_in_nI (show i + 1 < L by omega) (by omega)) dL_law_615 ?_
  refine k_eqi (show xs (nI (i + 1)).toNatClampNeg = xs (i + 1) by rw [nI_clamp (by omega)]) ?_
  refine k_cki (ci := 11) (n := 1) (As := [.int (xs (i + 1))]) (rest := [.int r1]) ⟨hx, hb, hml, hown, hts⟩ hN hK gL_law_X11_worth rfl (by decide +kernel) rfl rfl (by decide) ⟨Nat.le_of_ble_eq_true rfl, Nat.le_of_ble_eq_true rfl⟩ ⟨show cells + 7 + 7 ≤ 600000 by omega, show slots + 21 + 21 ≤ 7302250 by omega⟩ hq1 rfl hl.1 rfl (Nat.le_of_ble_eq_true rfl) dL_law_616 hP hD hS hA (fun r2 w2 H2 locs2 hq2 hP hD hS => ?_)
  refine lv_icmp_eq (tgt := 1183) hx hb dL_law_619 (by decide) (fun _ => ?_) (fun c9 => absurd hq2.1.symm c9)
  exact kk w2 H2 locs2 hq2.2 hP hD hS
set_option maxHeartbeats 4000000 in
set_option maxRecDepth 100000 in
theorem blk_asked (hx : p.tables.exec = Jvm.exec) (hb : c.code = cL_law) (hml : c.maxLocals = 4) (hown : s.vm.findClass RL = some m.cls) (hts : ∀ w ∈ wsL_law, w.before args s = true) (hX : va_X b L xs s s.heap) (hbl : b < s.heap.size) (hbA : ¬ A b) (hN : kN s) (hK : va_K D vwCl (kT cI cZ cS cP) s) (hL : L ≤ 384) (hi : i + 6 ≤ L) (hfit : cells + 14 ≤ 600000 ∧ slots + 42 ≤ 7302250) (hk : CkI l yX10_asked wsX10_asked D (kT cI cZ cS cP) hO 10 [.int (xs (i + 1)), .int (xs (i + 2)), .int (xs (i + 3)), .int (xs (i + 4))] w0 (fun r w1 => CkI l yX11_asked wsX11_asked D (kT cI cZ cS cP) hM 11 [.int (xs (i + 1)), .int (xs (i + 2)), .int (xs (i + 3)), .int (xs (i + 4))] w1 (fun r2 w2 => r2 = r ∧ J w2))) (hP : va_P D vwCl w0 H) (hD : va_D A w0) (hS : va_S A s.heap H locs) (hA : ∀ q : Nat, s.heap.size ≤ q → A q) (hl : lv_has ls 4 [(0, .ref b), (1, .ref hO), (2, .ref hM), (3, .int (nI i))]) (kk : ∀ (w2 : va_W) (H1 : Heap) (locs1 : List Loc), J w2 → va_P D vwCl w2 H1 → va_D A w2 → va_S A s.heap H1 locs1 → W p l e room_1 s m args below meth c H1 locs1 (cells + 14) (slots + 42) Q (F0 m 1183 ls [])) : W p l e room_1 s m args below meth c H locs cells slots Q (F0 m 624 ls []) := by
  refine lv_aload_n hx hb dL_law_624 rfl (lv_at hl 1 rfl) ?_
  refine lv_aload_n hx hb dL_law_625 rfl (lv_at hl 0 rfl) ?_
  refine lv_iload_n hx hb dL_law_626 rfl (lv_at hl 3 rfl) ?_
  refine lv_iconst (v := nI 1) hx hb dL_law_627 (by decide) ?_
  refine lv_iadd hx hb dL_law_628 ?_
  refine k_eqi (nI_add i 1) ?_
  refine va_sld hx hb hX hbl hbA hS (vp_in_nI (show i + 1 < L by omega) (by omega)) dL_law_629 ?_
  refine k_eqi (show xs (nI (i + 1)).toNatClampNeg = xs (i + 1) by rw [nI_clamp (by omega)]) ?_
  refine lv_aload_n hx hb dL_law_630 rfl (lv_at hl 0 rfl) ?_
  refine lv_iload_n hx hb dL_law_631 rfl (lv_at hl 3 rfl) ?_
  refine lv_iconst (v := nI 2) hx hb dL_law_632 (by decide) ?_
  refine lv_iadd hx hb dL_law_633 ?_
  refine k_eqi (nI_add i 2) ?_
  refine va_sld hx hb hX hbl hbA hS (vp_in_nI (show i + 2 < L by omega) (by omega)) dL_law_634 ?_
  refine k_eqi (show xs (nI (i + 2)).toNatClampNeg = xs (i + 2) by rw [nI_clamp (by omega)]) ?_
  refine lv_aload_n hx hb dL_law_635 rfl (lv_at hl 0 rfl) ?_
  refine lv_iload_n hx hb dL_law_636 rfl (lv_at hl 3 rfl) ?_
  refine lv_iconst (v := nI 3) hx hb dL_law_637 (by decide) ?_
  refine lv_iadd hx hb dL_law_638 ?_
  refine k_eqi (nI_add i 3) ?_
  refine va_sld hx hb hX hbl hbA hS (vp_in_nI (show i + 3 < L by omega) (by omega)) dL_law_639 ?_
  refine k_eqi (show xs (nI (i + 3)).toNatClampNeg = xs (i + 3) by rw [nI_clamp (by omega)]) ?_
  refine lv_aload_n hx hb dL_law_640 rfl (lv_at hl 0 rfl) ?_
  refine lv_iload_n hx hb dL_law_641 rfl (lv_at hl 3 rfl) ?_
  refine lv_iconst (v := nI 4) hx hb dL_law_642 (by decide) ?_
  refine lv_iadd hx hb dL_law_643 ?_
  refine k_eqi (nI_add i 4) ?_
  refine va_sld hx hb hX hbl hbA hS (vp_in_nI (show i + 4 < L by omega) (by omega)) dL_law_644 ?_
  refine k_eqi (show xs (nI (i + 4)).toNatClampNeg = xs (i + 4) by rw [nI_clamp (by omega)]) ?_
  refine k_cki (ci := 10) (n := 4) (As := [.int (xs (i + 1)), .int (xs (i + 2)), .int (xs (i + 3)), .int (xs (i + 4))]) (rest := []) ⟨hx, hb, hml, hown, hts⟩ hN hK gL_law_X10_asked rfl (by decide +kernel) rfl rfl (by decide) ⟨Nat.le_of_ble_eq_true rfl, Nat.le_of_ble_eq_true rfl⟩ ⟨show cells + 7 ≤ 600000 by omega, show slots + 21 ≤ 7302250 by omega⟩ hk rfl hl.1 rfl (Nat.le_of_ble_eq_true rfl) dL_law_645 hP hD hS hA (fun r1 w1 H1 locs1 hq1 hP hD hS => ?_)
  refine lv_aload_n hx hb dL_law_648 rfl (lv_at hl 2 rfl) ?_
  refine lv_aload_n hx hb dL_law_649 rfl (lv_at hl 0 rfl) ?_
  refine lv_iload_n hx hb dL_law_650 rfl (lv_at hl 3 rfl) ?_
  refine lv_iconst (v := nI 1) hx hb dL_law_651 (by decide) ?_
  refine lv_iadd hx hb dL_law_652 ?_
  refine k_eqi (nI_add i 1) ?_
  refine va_sld hx hb hX hbl hbA hS (vp_in_nI (show i + 1 < L by omega) (by omega)) dL_law_653 ?_
  refine k_eqi (show xs (nI (i + 1)).toNatClampNeg = xs (i + 1) by rw [nI_clamp (by omega)]) ?_
  refine lv_aload_n hx hb dL_law_654 rfl (lv_at hl 0 rfl) ?_
  refine lv_iload_n hx hb dL_law_655 rfl (lv_at hl 3 rfl) ?_
  refine lv_iconst (v := nI 2) hx hb dL_law_656 (by decide) ?_
  refine lv_iadd hx hb dL_law_657 ?_
  refine k_eqi (nI_add i 2) ?_
  refine va_sld hx hb hX hbl hbA hS (vp_in_nI (show i + 2 < L by omega) (by omega)) dL_law_658 ?_
  refine k_eqi (show xs (nI (i + 2)).toNatClampNeg = xs (i + 2) by rw [nI_clamp (by omega)]) ?_
  refine lv_aload_n hx hb dL_law_659 rfl (lv_at hl 0 rfl) ?_
  refine lv_iload_n hx hb dL_law_660 rfl (lv_at hl 3 rfl) ?_
  refine lv_iconst (v := nI 3) hx hb dL_law_661 (by decide) ?_
  refine lv_iadd hx hb dL_law_662 ?_
  refine k_eqi (nI_add i 3) ?_
  refine va_sld hx hb hX hbl hbA hS (vp_in_nI (show i + 3 < L by omega) (by omega)) dL_law_663 ?_
  refine k_eqi (show xs (nI (i + 3)).toNatClampNeg = xs (i + 3) by rw [nI_clamp (by omega)]) ?_
  refine lv_aload_n hx hb dL_law_664 rfl (lv_at hl 0 rfl) ?_
  refine lv_iload_n hx hb dL_law_665 rfl (lv_at hl 3 rfl) ?_
  refine lv_iconst (v := nI 4) hx hb dL_law_666 (by decide) ?_
  refine lv_iadd hx hb dL_law_667 ?_
  refine k_eqi (nI_add i 4) ?_
  refine va_sld hx hb hX hbl hbA hS (vp_in_nI (show i + 4 < L by omega) (by omega)) dL_law_668 ?_
  refine k_eqi (show xs (nI (i + 4)).toNatClampNeg = xs (i + 4) by rw [nI_clamp (by omega)]) ?_
  refine k_cki (ci := 11) (n := 4) (As := [.int (xs (i + 1)), .int (xs (i + 2)), .int (xs (i + 3)), .int (xs (i + 4))]) (rest := [.int r1]) ⟨hx, hb, hml, hown, hts⟩ hN hK gL_law_X11_asked rfl (by decide +kernel) rfl rfl (by decide) ⟨Nat.le_of_ble_eq_true rfl, Nat.le_of_ble_eq_true rfl⟩ ⟨show cells + 7 + 7 ≤ 600000 by omega, show slots + 21 + 21 ≤ 7302250 by omega⟩ hq1 rfl hl.1 rfl (Nat.le_of_ble_eq_true rfl) dL_law_669 hP hD hS hA (fun r2 w2 H2 locs2 hq2 hP hD hS => ?_)
  refine lv_icmp_eq (tgt := 1183) hx hb dL_law_672 (by decide) (fun _ => ?_) (fun c9 => absurd hq2.1.symm c9)
  exact kk w2 H2 locs2 hq2.2 hP hD hS
set_option maxHeartbeats 4000000 in
set_option maxRecDepth 100000 in
theorem blk_reading (hx : p.tables.exec = Jvm.exec) (hb : c.code = cL_law) (hml : c.maxLocals = 4) (hown : s.vm.findClass RL = some m.cls) (hts : ∀ w ∈ wsL_law, w.before args s = true) (hX : va_X b L xs s s.heap) (hbl : b < s.heap.size) (hbA : ¬ A b) (hN : kN s) (hK : va_K D vwCl (kT cI cZ cS cP) s) (hL : L ≤ 384) (hi : i + 6 ≤ L) (hfit : cells + 14 ≤ 600000 ∧ slots + 42 ≤ 7302250) {bz : Nat} (hbz : (xs (i + 3) = 0 → bz = 0) ∧ (¬ xs (i + 3) = 0 → bz = 1)) (hk : CkI l yX10_reading wsX10_reading D (kT cI cZ cS cP) hO 10 [.int (xs (i + 1)), .int (xs (i + 2)), .int (nI bz)] w0 (fun r w1 => CkI l yX11_reading wsX11_reading D (kT cI cZ cS cP) hM 11 [.int (xs (i + 1)), .int (xs (i + 2)), .int (nI bz)] w1 (fun r2 w2 => r2 = r ∧ J w2))) (hP : va_P D vwCl w0 H) (hD : va_D A w0) (hS : va_S A s.heap H locs) (hA : ∀ q : Nat, s.heap.size ≤ q → A q) (hl : lv_has ls 4 [(0, .ref b), (1, .ref hO), (2, .ref hM), (3, .int (nI i))]) (kk : ∀ (w2 : va_W) (H1 : Heap) (locs1 : List Loc), J w2 → va_P D vwCl w2 H1 → va_D A w2 → va_S A s.heap H1 locs1 → W p l e room_1 s m args below meth c H1 locs1 (cells + 14) (slots + 42) Q (F0 m 1183 ls [])) : W p l e room_1 s m args below meth c H locs cells slots Q (F0 m 677 ls []) := by
  refine lv_aload_n hx hb dL_law_677 rfl (lv_at hl 1 rfl) ?_
  refine lv_aload_n hx hb dL_law_678 rfl (lv_at hl 0 rfl) ?_
  refine lv_iload_n hx hb dL_law_679 rfl (lv_at hl 3 rfl) ?_
  refine lv_iconst (v := nI 1) hx hb dL_law_680 (by decide) ?_
  refine lv_iadd hx hb dL_law_681 ?_
  refine k_eqi (nI_add i 1) ?_
  refine va_sld hx hb hX hbl hbA hS (vp_in_nI (show i + 1 < L by omega) (by omega)) dL_law_682 ?_
  refine k_eqi (show xs (nI (i + 1)).toNatClampNeg = xs (i + 1) by rw [nI_clamp (by omega)]) ?_
  refine lv_aload_n hx hb dL_law_683 rfl (lv_at hl 0 rfl) ?_
  refine lv_iload_n hx hb dL_law_684 rfl (lv_at hl 3 rfl) ?_
  refine lv_iconst (v := nI 2) hx hb dL_law_685 (by decide) ?_
  refine lv_iadd hx hb dL_law_686 ?_
  refine k_eqi (nI_add i 2) ?_
  refine va_sld hx hb hX hbl hbA hS (vp_in_nI (show i + 2 < L by omega) (by omega)) dL_law_687 ?_
  refine k_eqi (show xs (nI (i + 2)).toNatClampNeg = xs (i + 2) by rw [nI_clamp (by omega)]) ?_
  refine lv_aload_n hx hb dL_law_688 rfl (lv_at hl 0 rfl) ?_
  refine lv_iload_n hx hb dL_law_689 rfl (lv_at hl 3 rfl) ?_
  refine lv_iconst (v := nI 3) hx hb dL_law_690 (by decide) ?_
  refine lv_iadd hx hb dL_law_691 ?_
  refine k_eqi (nI_add i 3) ?_
  refine va_sld hx hb hX hbl hbA hS (vp_in_nI (show i + 3 < L by omega) (by omega)) dL_law_692 ?_
  refine k_eqi (show xs (nI (i + 3)).toNatClampNeg = xs (i + 3) by rw [nI_clamp (by omega)]) ?_
  have j0 : W p l e room_1 s m args below meth c H locs (cells) (slots) Q (F0 m 701 ls [.int (nI bz), .int (xs (i + 2)), .int (xs (i + 1)), .ref hO]) := by
    refine k_cki (ci := 10) (n := 3) (As := [.int (xs (i + 1)), .int (xs (i + 2)), .int (nI bz)]) (rest := []) ⟨hx, hb, hml, hown, hts⟩ hN hK gL_law_X10_reading rfl (by decide +kernel) rfl rfl (by decide) ⟨Nat.le_of_ble_eq_true rfl, Nat.le_of_ble_eq_true rfl⟩ ⟨show cells + 7 ≤ 600000 by omega, show slots + 21 ≤ 7302250 by omega⟩ hk rfl hl.1 rfl (Nat.le_of_ble_eq_true rfl) dL_law_701 hP hD hS hA (fun r1 w1 H1 locs1 hq1 hP hD hS => ?_)
    refine lv_aload_n hx hb dL_law_704 rfl (lv_at hl 2 rfl) ?_
    refine lv_aload_n hx hb dL_law_705 rfl (lv_at hl 0 rfl) ?_
    refine lv_iload_n hx hb dL_law_706 rfl (lv_at hl 3 rfl) ?_
    refine lv_iconst (v := nI 1) hx hb dL_law_707 (by decide) ?_
    refine lv_iadd hx hb dL_law_708 ?_
    refine k_eqi (nI_add i 1) ?_
    refine va_sld hx hb hX hbl hbA hS (vp_in_nI (show i + 1 < L by omega) (by omega)) dL_law_709 ?_
    refine k_eqi (show xs (nI (i + 1)).toNatClampNeg = xs (i + 1) by rw [nI_clamp (by omega)]) ?_
    refine lv_aload_n hx hb dL_law_710 rfl (lv_at hl 0 rfl) ?_
    refine lv_iload_n hx hb dL_law_711 rfl (lv_at hl 3 rfl) ?_
    refine lv_iconst (v := nI 2) hx hb dL_law_712 (by decide) ?_
    refine lv_iadd hx hb dL_law_713 ?_
    refine k_eqi (nI_add i 2) ?_
    refine va_sld hx hb hX hbl hbA hS (vp_in_nI (show i + 2 < L by omega) (by omega)) dL_law_714 ?_
    refine k_eqi (show xs (nI (i + 2)).toNatClampNeg = xs (i + 2) by rw [nI_clamp (by omega)]) ?_
    refine lv_aload_n hx hb dL_law_715 rfl (lv_at hl 0 rfl) ?_
    refine lv_iload_n hx hb dL_law_716 rfl (lv_at hl 3 rfl) ?_
    refine lv_iconst (v := nI 3) hx hb dL_law_717 (by decide) ?_
    refine lv_iadd hx hb dL_law_718 ?_
    refine k_eqi (nI_add i 3) ?_
    refine va_sld hx hb hX hbl hbA hS (vp_in_nI (show i + 3 < L by omega) (by omega)) dL_law_719 ?_
    refine k_eqi (show xs (nI (i + 3)).toNatClampNeg = xs (i + 3) by rw [nI_clamp (by omega)]) ?_
    have j1 : W p l e room_1 s m args below meth c H1 locs1 (cells + 7) (slots + 21) Q (F0 m 728 ls [.int (nI bz), .int (xs (i + 2)), .int (xs (i + 1)), .ref hM, .int r1]) := by
      refine k_cki (ci := 11) (n := 3) (As := [.int (xs (i + 1)), .int (xs (i + 2)), .int (nI bz)]) (rest := [.int r1]) ⟨hx, hb, hml, hown, hts⟩ hN hK gL_law_X11_reading rfl (by decide +kernel) rfl rfl (by decide) ⟨Nat.le_of_ble_eq_true rfl, Nat.le_of_ble_eq_true rfl⟩ ⟨show cells + 7 + 7 ≤ 600000 by omega, show slots + 21 + 21 ≤ 7302250 by omega⟩ hq1 rfl hl.1 rfl (Nat.le_of_ble_eq_true rfl) dL_law_728 hP hD hS hA (fun r2 w2 H2 locs2 hq2 hP hD hS => ?_)
      refine lv_icmp_eq (tgt := 1183) hx hb dL_law_731 (by decide) (fun _ => ?_) (fun c9 => absurd hq2.1.symm c9)
      exact kk w2 H2 locs2 hq2.2 hP hD hS
    refine lv_if_eq (tgt := 727) hx hb dL_law_720 (by decide) (fun c9 => ?_) (fun c9 => ?_)
    · refine lv_iconst (v := nI 0) hx hb dL_law_727 (by decide) ?_
      rw [hbz.1 c9] at j1
      exact j1
    · refine lv_iconst (v := nI 1) hx hb dL_law_723 (by decide) ?_
      refine lv_goto (tgt := 728) hx hb dL_law_724 (by decide) ?_
      rw [hbz.2 c9] at j1
      exact j1
  refine lv_if_eq (tgt := 700) hx hb dL_law_693 (by decide) (fun c9 => ?_) (fun c9 => ?_)
  · refine lv_iconst (v := nI 0) hx hb dL_law_700 (by decide) ?_
    rw [hbz.1 c9] at j0
    exact j0
  · refine lv_iconst (v := nI 1) hx hb dL_law_696 (by decide) ?_
    refine lv_goto (tgt := 701) hx hb dL_law_697 (by decide) ?_
    rw [hbz.2 c9] at j0
    exact j0
set_option maxHeartbeats 4000000 in
set_option maxRecDepth 100000 in
theorem blk_back (hx : p.tables.exec = Jvm.exec) (hb : c.code = cL_law) (hml : c.maxLocals = 4) (hown : s.vm.findClass RL = some m.cls) (hts : ∀ w ∈ wsL_law, w.before args s = true) (hX : va_X b L xs s s.heap) (hbl : b < s.heap.size) (hbA : ¬ A b) (hN : kN s) (hK : va_K D vwCl (kT cI cZ cS cP) s) (hL : L ≤ 384) (hi : i + 6 ≤ L) (hfit : cells + 14 ≤ 600000 ∧ slots + 42 ≤ 7302250) (hk : CkI l yX10_back wsX10_back D (kT cI cZ cS cP) hO 10 [.int (xs (i + 1))] w0 (fun r w1 => CkI l yX11_back wsX11_back D (kT cI cZ cS cP) hM 11 [.int (xs (i + 1))] w1 (fun r2 w2 => r2 = r ∧ J w2))) (hP : va_P D vwCl w0 H) (hD : va_D A w0) (hS : va_S A s.heap H locs) (hA : ∀ q : Nat, s.heap.size ≤ q → A q) (hl : lv_has ls 4 [(0, .ref b), (1, .ref hO), (2, .ref hM), (3, .int (nI i))]) (kk : ∀ (w2 : va_W) (H1 : Heap) (locs1 : List Loc), J w2 → va_P D vwCl w2 H1 → va_D A w2 → va_S A s.heap H1 locs1 → W p l e room_1 s m args below meth c H1 locs1 (cells + 14) (slots + 42) Q (F0 m 1183 ls [])) : W p l e room_1 s m args below meth c H locs cells slots Q (F0 m 736 ls []) := by
  refine lv_aload_n hx hb dL_law_736 rfl (lv_at hl 1 rfl) ?_
  refine lv_aload_n hx hb dL_law_737 rfl (lv_at hl 0 rfl) ?_
  refine lv_iload_n hx hb dL_law_738 rfl (lv_at hl 3 rfl) ?_
  refine lv_iconst (v := nI 1) hx hb dL_law_739 (by decide) ?_
  refine lv_iadd hx hb dL_law_740 ?_
  refine k_eqi (nI_add i 1) ?_
  refine va_sld hx hb hX hbl hbA hS (vp_in_nI (show i + 1 < L by omega) (by omega)) dL_law_741 ?_
  refine k_eqi (show xs (nI (i + 1)).toNatClampNeg = xs (i + 1) by rw [nI_clamp (by omega)]) ?_
  refine k_cki (ci := 10) (n := 1) (As := [.int (xs (i + 1))]) (rest := []) ⟨hx, hb, hml, hown, hts⟩ hN hK gL_law_X10_back rfl (by decide +kernel) rfl rfl (by decide) ⟨Nat.le_of_ble_eq_true rfl, Nat.le_of_ble_eq_true rfl⟩ ⟨show cells + 7 ≤ 600000 by omega, show slots + 21 ≤ 7302250 by omega⟩ hk rfl hl.1 rfl (Nat.le_of_ble_eq_true rfl) dL_law_742 hP hD hS hA (fun r1 w1 H1 locs1 hq1 hP hD hS => ?_)
  refine lv_aload_n hx hb dL_law_745 rfl (lv_at hl 2 rfl) ?_
  refine lv_aload_n hx hb dL_law_746 rfl (lv_at hl 0 rfl) ?_
  refine lv_iload_n hx hb dL_law_747 rfl (lv_at hl 3 rfl) ?_
  refine lv_iconst (v := nI 1) hx hb dL_law_748 (by decide) ?_
  refine lv_iadd hx hb dL_law_749 ?_
  refine k_eqi (nI_add i 1) ?_
  refine va_sld hx hb hX hbl hbA hS (vp_in_nI (show i + 1 < L by omega) (by omega)) dL_law_750 ?_
  refine k_eqi (show xs (nI (i + 1)).toNatClampNeg = xs (i + 1) by rw [nI_clamp (by omega)]) ?_
  refine k_cki (ci := 11) (n := 1) (As := [.int (xs (i + 1))]) (rest := [.int r1]) ⟨hx, hb, hml, hown, hts⟩ hN hK gL_law_X11_back rfl (by decide +kernel) rfl rfl (by decide) ⟨Nat.le_of_ble_eq_true rfl, Nat.le_of_ble_eq_true rfl⟩ ⟨show cells + 7 + 7 ≤ 600000 by omega, show slots + 21 + 21 ≤ 7302250 by omega⟩ hq1 rfl hl.1 rfl (Nat.le_of_ble_eq_true rfl) dL_law_751 hP hD hS hA (fun r2 w2 H2 locs2 hq2 hP hD hS => ?_)
  refine lv_icmp_eq (tgt := 1183) hx hb dL_law_754 (by decide) (fun _ => ?_) (fun c9 => absurd hq2.1.symm c9)
  exact kk w2 H2 locs2 hq2.2 hP hD hS
set_option maxHeartbeats 4000000 in
set_option maxRecDepth 100000 in
theorem blk_where (hx : p.tables.exec = Jvm.exec) (hb : c.code = cL_law) (hml : c.maxLocals = 4) (hown : s.vm.findClass RL = some m.cls) (hts : ∀ w ∈ wsL_law, w.before args s = true) (hX : va_X b L xs s s.heap) (hbl : b < s.heap.size) (hbA : ¬ A b) (hN : kN s) (hK : va_K D vwCl (kT cI cZ cS cP) s) (hL : L ≤ 384) (hi : i + 6 ≤ L) (hfit : cells + 14 ≤ 600000 ∧ slots + 42 ≤ 7302250) (hk : CkI l yX10_where wsX10_where D (kT cI cZ cS cP) hO 10 [.int (xs (i + 1))] w0 (fun r w1 => CkI l yX11_where wsX11_where D (kT cI cZ cS cP) hM 11 [.int (xs (i + 1))] w1 (fun r2 w2 => r2 = r ∧ J w2))) (hP : va_P D vwCl w0 H) (hD : va_D A w0) (hS : va_S A s.heap H locs) (hA : ∀ q : Nat, s.heap.size ≤ q → A q) (hl : lv_has ls 4 [(0, .ref b), (1, .ref hO), (2, .ref hM), (3, .int (nI i))]) (kk : ∀ (w2 : va_W) (H1 : Heap) (locs1 : List Loc), J w2 → va_P D vwCl w2 H1 → va_D A w2 → va_S A s.heap H1 locs1 → W p l e room_1 s m args below meth c H1 locs1 (cells + 14) (slots + 42) Q (F0 m 1183 ls [])) : W p l e room_1 s m args below meth c H locs cells slots Q (F0 m 759 ls []) := by
  refine lv_aload_n hx hb dL_law_759 rfl (lv_at hl 1 rfl) ?_
  refine lv_aload_n hx hb dL_law_760 rfl (lv_at hl 0 rfl) ?_
  refine lv_iload_n hx hb dL_law_761 rfl (lv_at hl 3 rfl) ?_
  refine lv_iconst (v := nI 1) hx hb dL_law_762 (by decide) ?_
  refine lv_iadd hx hb dL_law_763 ?_
  refine k_eqi (nI_add i 1) ?_
  refine va_sld hx hb hX hbl hbA hS (vp_in_nI (show i + 1 < L by omega) (by omega)) dL_law_764 ?_
  refine k_eqi (show xs (nI (i + 1)).toNatClampNeg = xs (i + 1) by rw [nI_clamp (by omega)]) ?_
  refine k_cki (ci := 10) (n := 1) (As := [.int (xs (i + 1))]) (rest := []) ⟨hx, hb, hml, hown, hts⟩ hN hK gL_law_X10_where rfl (by decide +kernel) rfl rfl (by decide) ⟨Nat.le_of_ble_eq_true rfl, Nat.le_of_ble_eq_true rfl⟩ ⟨show cells + 7 ≤ 600000 by omega, show slots + 21 ≤ 7302250 by omega⟩ hk rfl hl.1 rfl (Nat.le_of_ble_eq_true rfl) dL_law_765 hP hD hS hA (fun r1 w1 H1 locs1 hq1 hP hD hS => ?_)
  refine lv_aload_n hx hb dL_law_768 rfl (lv_at hl 2 rfl) ?_
  refine lv_aload_n hx hb dL_law_769 rfl (lv_at hl 0 rfl) ?_
  refine lv_iload_n hx hb dL_law_770 rfl (lv_at hl 3 rfl) ?_
  refine lv_iconst (v := nI 1) hx hb dL_law_771 (by decide) ?_
  refine lv_iadd hx hb dL_law_772 ?_
  refine k_eqi (nI_add i 1) ?_
  refine va_sld hx hb hX hbl hbA hS (vp_in_nI (show i + 1 < L by omega) (by omega)) dL_law_773 ?_
  refine k_eqi (show xs (nI (i + 1)).toNatClampNeg = xs (i + 1) by rw [nI_clamp (by omega)]) ?_
  refine k_cki (ci := 11) (n := 1) (As := [.int (xs (i + 1))]) (rest := [.int r1]) ⟨hx, hb, hml, hown, hts⟩ hN hK gL_law_X11_where rfl (by decide +kernel) rfl rfl (by decide) ⟨Nat.le_of_ble_eq_true rfl, Nat.le_of_ble_eq_true rfl⟩ ⟨show cells + 7 + 7 ≤ 600000 by omega, show slots + 21 + 21 ≤ 7302250 by omega⟩ hq1 rfl hl.1 rfl (Nat.le_of_ble_eq_true rfl) dL_law_774 hP hD hS hA (fun r2 w2 H2 locs2 hq2 hP hD hS => ?_)
  refine lv_icmp_eq (tgt := 1183) hx hb dL_law_777 (by decide) (fun _ => ?_) (fun c9 => absurd hq2.1.symm c9)
  exact kk w2 H2 locs2 hq2.2 hP hD hS
set_option maxHeartbeats 4000000 in
set_option maxRecDepth 100000 in
theorem blk_paid (hx : p.tables.exec = Jvm.exec) (hb : c.code = cL_law) (hml : c.maxLocals = 4) (hown : s.vm.findClass RL = some m.cls) (hts : ∀ w ∈ wsL_law, w.before args s = true) (hX : va_X b L xs s s.heap) (hbl : b < s.heap.size) (hbA : ¬ A b) (hN : kN s) (hK : va_K D vwCl (kT cI cZ cS cP) s) (hL : L ≤ 384) (hi : i + 6 ≤ L) (hfit : cells + 14 ≤ 600000 ∧ slots + 42 ≤ 7302250) (hk : CkI l yX10_paid wsX10_paid D (kT cI cZ cS cP) hO 10 [] w0 (fun r w1 => CkI l yX11_paid wsX11_paid D (kT cI cZ cS cP) hM 11 [] w1 (fun r2 w2 => r2 = r ∧ J w2))) (hP : va_P D vwCl w0 H) (hD : va_D A w0) (hS : va_S A s.heap H locs) (hA : ∀ q : Nat, s.heap.size ≤ q → A q) (hl : lv_has ls 4 [(0, .ref b), (1, .ref hO), (2, .ref hM), (3, .int (nI i))]) (kk : ∀ (w2 : va_W) (H1 : Heap) (locs1 : List Loc), J w2 → va_P D vwCl w2 H1 → va_D A w2 → va_S A s.heap H1 locs1 → W p l e room_1 s m args below meth c H1 locs1 (cells + 14) (slots + 42) Q (F0 m 1183 ls [])) : W p l e room_1 s m args below meth c H locs cells slots Q (F0 m 782 ls []) := by
  refine lv_aload_n hx hb dL_law_782 rfl (lv_at hl 1 rfl) ?_
  refine k_cki (ci := 10) (n := 0) (As := []) (rest := []) ⟨hx, hb, hml, hown, hts⟩ hN hK gL_law_X10_paid rfl (by decide +kernel) rfl rfl (by decide) ⟨Nat.le_of_ble_eq_true rfl, Nat.le_of_ble_eq_true rfl⟩ ⟨show cells + 7 ≤ 600000 by omega, show slots + 21 ≤ 7302250 by omega⟩ hk rfl hl.1 rfl (Nat.le_of_ble_eq_true rfl) dL_law_783 hP hD hS hA (fun r1 w1 H1 locs1 hq1 hP hD hS => ?_)
  refine lv_aload_n hx hb dL_law_786 rfl (lv_at hl 2 rfl) ?_
  refine k_cki (ci := 11) (n := 0) (As := []) (rest := [.int r1]) ⟨hx, hb, hml, hown, hts⟩ hN hK gL_law_X11_paid rfl (by decide +kernel) rfl rfl (by decide) ⟨Nat.le_of_ble_eq_true rfl, Nat.le_of_ble_eq_true rfl⟩ ⟨show cells + 7 + 7 ≤ 600000 by omega, show slots + 21 + 21 ≤ 7302250 by omega⟩ hq1 rfl hl.1 rfl (Nat.le_of_ble_eq_true rfl) dL_law_787 hP hD hS hA (fun r2 w2 H2 locs2 hq2 hP hD hS => ?_)
  refine lv_icmp_eq (tgt := 1183) hx hb dL_law_790 (by decide) (fun _ => ?_) (fun c9 => absurd hq2.1.symm c9)
  exact kk w2 H2 locs2 hq2.2 hP hD hS
set_option maxHeartbeats 4000000 in
set_option maxRecDepth 100000 in
theorem blk_odds (hx : p.tables.exec = Jvm.exec) (hb : c.code = cL_law) (hml : c.maxLocals = 4) (hown : s.vm.findClass RL = some m.cls) (hts : ∀ w ∈ wsL_law, w.before args s = true) (hX : va_X b L xs s s.heap) (hbl : b < s.heap.size) (hbA : ¬ A b) (hN : kN s) (hK : va_K D vwCl (kT cI cZ cS cP) s) (hL : L ≤ 384) (hi : i + 6 ≤ L) (hfit : cells + 14 ≤ 600000 ∧ slots + 42 ≤ 7302250) (hk : CkL l yX10_odds wsX10_odds D (kT cI cZ cS cP) hO 10 [.int (xs (i + 1)), .int (xs (i + 2)), .int (xs (i + 3))] w0 (fun r w1 => CkL l yX11_odds wsX11_odds D (kT cI cZ cS cP) hM 11 [.int (xs (i + 1)), .int (xs (i + 2)), .int (xs (i + 3))] w1 (fun r2 w2 => r2 = r ∧ J w2))) (hP : va_P D vwCl w0 H) (hD : va_D A w0) (hS : va_S A s.heap H locs) (hA : ∀ q : Nat, s.heap.size ≤ q → A q) (hl : lv_has ls 4 [(0, .ref b), (1, .ref hO), (2, .ref hM), (3, .int (nI i))]) (kk : ∀ (w2 : va_W) (H1 : Heap) (locs1 : List Loc), J w2 → va_P D vwCl w2 H1 → va_D A w2 → va_S A s.heap H1 locs1 → W p l e room_1 s m args below meth c H1 locs1 (cells + 14) (slots + 42) Q (F0 m 1183 ls [])) : W p l e room_1 s m args below meth c H locs cells slots Q (F0 m 795 ls []) := by
  refine lv_aload_n hx hb dL_law_795 rfl (lv_at hl 1 rfl) ?_
  refine lv_aload_n hx hb dL_law_796 rfl (lv_at hl 0 rfl) ?_
  refine lv_iload_n hx hb dL_law_797 rfl (lv_at hl 3 rfl) ?_
  refine lv_iconst (v := nI 1) hx hb dL_law_798 (by decide) ?_
  refine lv_iadd hx hb dL_law_799 ?_
  refine k_eqi (nI_add i 1) ?_
  refine va_sld hx hb hX hbl hbA hS (vp_in_nI (show i + 1 < L by omega) (by omega)) dL_law_800 ?_
  refine k_eqi (show xs (nI (i + 1)).toNatClampNeg = xs (i + 1) by rw [nI_clamp (by omega)]) ?_
  refine lv_aload_n hx hb dL_law_801 rfl (lv_at hl 0 rfl) ?_
  refine lv_iload_n hx hb dL_law_802 rfl (lv_at hl 3 rfl) ?_
  refine lv_iconst (v := nI 2) hx hb dL_law_803 (by decide) ?_
  refine lv_iadd hx hb dL_law_804 ?_
  refine k_eqi (nI_add i 2) ?_
  refine va_sld hx hb hX hbl hbA hS (vp_in_nI (show i + 2 < L by omega) (by omega)) dL_law_805 ?_
  refine k_eqi (show xs (nI (i + 2)).toNatClampNeg = xs (i + 2) by rw [nI_clamp (by omega)]) ?_
  refine lv_aload_n hx hb dL_law_806 rfl (lv_at hl 0 rfl) ?_
  refine lv_iload_n hx hb dL_law_807 rfl (lv_at hl 3 rfl) ?_
  refine lv_iconst (v := nI 3) hx hb dL_law_808 (by decide) ?_
  refine lv_iadd hx hb dL_law_809 ?_
  refine k_eqi (nI_add i 3) ?_
  refine va_sld hx hb hX hbl hbA hS (vp_in_nI (show i + 3 < L by omega) (by omega)) dL_law_810 ?_
  refine k_eqi (show xs (nI (i + 3)).toNatClampNeg = xs (i + 3) by rw [nI_clamp (by omega)]) ?_
  refine k_ckl (ci := 10) (n := 3) (As := [.int (xs (i + 1)), .int (xs (i + 2)), .int (xs (i + 3))]) (rest := []) ⟨hx, hb, hml, hown, hts⟩ hN hK gL_law_X10_odds rfl (by decide +kernel) rfl rfl (by decide) ⟨Nat.le_of_ble_eq_true rfl, Nat.le_of_ble_eq_true rfl⟩ ⟨show cells + 7 ≤ 600000 by omega, show slots + 21 ≤ 7302250 by omega⟩ hk rfl hl.1 rfl (Nat.le_of_ble_eq_true rfl) dL_law_811 hP hD hS hA (fun r1 w1 H1 locs1 hq1 hP hD hS => ?_)
  refine lv_aload_n hx hb dL_law_814 rfl (lv_at hl 2 rfl) ?_
  refine lv_aload_n hx hb dL_law_815 rfl (lv_at hl 0 rfl) ?_
  refine lv_iload_n hx hb dL_law_816 rfl (lv_at hl 3 rfl) ?_
  refine lv_iconst (v := nI 1) hx hb dL_law_817 (by decide) ?_
  refine lv_iadd hx hb dL_law_818 ?_
  refine k_eqi (nI_add i 1) ?_
  refine va_sld hx hb hX hbl hbA hS (vp_in_nI (show i + 1 < L by omega) (by omega)) dL_law_819 ?_
  refine k_eqi (show xs (nI (i + 1)).toNatClampNeg = xs (i + 1) by rw [nI_clamp (by omega)]) ?_
  refine lv_aload_n hx hb dL_law_820 rfl (lv_at hl 0 rfl) ?_
  refine lv_iload_n hx hb dL_law_821 rfl (lv_at hl 3 rfl) ?_
  refine lv_iconst (v := nI 2) hx hb dL_law_822 (by decide) ?_
  refine lv_iadd hx hb dL_law_823 ?_
  refine k_eqi (nI_add i 2) ?_
  refine va_sld hx hb hX hbl hbA hS (vp_in_nI (show i + 2 < L by omega) (by omega)) dL_law_824 ?_
  refine k_eqi (show xs (nI (i + 2)).toNatClampNeg = xs (i + 2) by rw [nI_clamp (by omega)]) ?_
  refine lv_aload_n hx hb dL_law_825 rfl (lv_at hl 0 rfl) ?_
  refine lv_iload_n hx hb dL_law_826 rfl (lv_at hl 3 rfl) ?_
  refine lv_iconst (v := nI 3) hx hb dL_law_827 (by decide) ?_
  refine lv_iadd hx hb dL_law_828 ?_
  refine k_eqi (nI_add i 3) ?_
  refine va_sld hx hb hX hbl hbA hS (vp_in_nI (show i + 3 < L by omega) (by omega)) dL_law_829 ?_
  refine k_eqi (show xs (nI (i + 3)).toNatClampNeg = xs (i + 3) by rw [nI_clamp (by omega)]) ?_
  refine k_ckl (ci := 11) (n := 3) (As := [.int (xs (i + 1)), .int (xs (i + 2)), .int (xs (i + 3))]) (rest := [.long r1]) ⟨hx, hb, hml, hown, hts⟩ hN hK gL_law_X11_odds rfl (by decide +kernel) rfl rfl (by decide) ⟨Nat.le_of_ble_eq_true rfl, Nat.le_of_ble_eq_true rfl⟩ ⟨show cells + 7 + 7 ≤ 600000 by omega, show slots + 21 + 21 ≤ 7302250 by omega⟩ hq1 rfl hl.1 rfl (Nat.le_of_ble_eq_true rfl) dL_law_830 hP hD hS hA (fun r2 w2 H2 locs2 hq2 hP hD hS => ?_)
  refine W.lcmp hx hb dL_law_833 ?_
  refine lv_if_eq (tgt := 1183) hx hb dL_law_834 (by decide) (fun _ => ?_) (fun c9 => absurd (by rw [hq2.1]; exact lg_self r1) c9)
  exact kk w2 H2 locs2 hq2.2 hP hD hS
set_option maxHeartbeats 4000000 in
set_option maxRecDepth 100000 in
theorem blk_sheet (hx : p.tables.exec = Jvm.exec) (hb : c.code = cL_law) (hml : c.maxLocals = 4) (hown : s.vm.findClass RL = some m.cls) (hts : ∀ w ∈ wsL_law, w.before args s = true) (hX : va_X b L xs s s.heap) (hbl : b < s.heap.size) (hbA : ¬ A b) (hN : kN s) (hK : va_K D vwCl (kT cI cZ cS cP) s) (hL : L ≤ 384) (hi : i + 6 ≤ L) (hfit : cells + 14 ≤ 600000 ∧ slots + 42 ≤ 7302250) (hk : CkI l yX10_sheet wsX10_sheet D (kT cI cZ cS cP) hO 10 [.int (xs (i + 1)), .int (xs (i + 2)), .int (xs (i + 3))] w0 (fun r w1 => CkI l yX11_sheet wsX11_sheet D (kT cI cZ cS cP) hM 11 [.int (xs (i + 1)), .int (xs (i + 2)), .int (xs (i + 3))] w1 (fun r2 w2 => r2 = r ∧ J w2))) (hP : va_P D vwCl w0 H) (hD : va_D A w0) (hS : va_S A s.heap H locs) (hA : ∀ q : Nat, s.heap.size ≤ q → A q) (hl : lv_has ls 4 [(0, .ref b), (1, .ref hO), (2, .ref hM), (3, .int (nI i))]) (kk : ∀ (w2 : va_W) (H1 : Heap) (locs1 : List Loc), J w2 → va_P D vwCl w2 H1 → va_D A w2 → va_S A s.heap H1 locs1 → W p l e room_1 s m args below meth c H1 locs1 (cells + 14) (slots + 42) Q (F0 m 1183 ls [])) : W p l e room_1 s m args below meth c H locs cells slots Q (F0 m 839 ls []) := by
  refine lv_aload_n hx hb dL_law_839 rfl (lv_at hl 1 rfl) ?_
  refine lv_aload_n hx hb dL_law_840 rfl (lv_at hl 0 rfl) ?_
  refine lv_iload_n hx hb dL_law_841 rfl (lv_at hl 3 rfl) ?_
  refine lv_iconst (v := nI 1) hx hb dL_law_842 (by decide) ?_
  refine lv_iadd hx hb dL_law_843 ?_
  refine k_eqi (nI_add i 1) ?_
  refine va_sld hx hb hX hbl hbA hS (vp_in_nI (show i + 1 < L by omega) (by omega)) dL_law_844 ?_
  refine k_eqi (show xs (nI (i + 1)).toNatClampNeg = xs (i + 1) by rw [nI_clamp (by omega)]) ?_
  refine lv_aload_n hx hb dL_law_845 rfl (lv_at hl 0 rfl) ?_
  refine lv_iload_n hx hb dL_law_846 rfl (lv_at hl 3 rfl) ?_
  refine lv_iconst (v := nI 2) hx hb dL_law_847 (by decide) ?_
  refine lv_iadd hx hb dL_law_848 ?_
  refine k_eqi (nI_add i 2) ?_
  refine va_sld hx hb hX hbl hbA hS (vp_in_nI (show i + 2 < L by omega) (by omega)) dL_law_849 ?_
  refine k_eqi (show xs (nI (i + 2)).toNatClampNeg = xs (i + 2) by rw [nI_clamp (by omega)]) ?_
  refine lv_aload_n hx hb dL_law_850 rfl (lv_at hl 0 rfl) ?_
  refine lv_iload_n hx hb dL_law_851 rfl (lv_at hl 3 rfl) ?_
  refine lv_iconst (v := nI 3) hx hb dL_law_852 (by decide) ?_
  refine lv_iadd hx hb dL_law_853 ?_
  refine k_eqi (nI_add i 3) ?_
  refine va_sld hx hb hX hbl hbA hS (vp_in_nI (show i + 3 < L by omega) (by omega)) dL_law_854 ?_
  refine k_eqi (show xs (nI (i + 3)).toNatClampNeg = xs (i + 3) by rw [nI_clamp (by omega)]) ?_
  refine k_cki (ci := 10) (n := 3) (As := [.int (xs (i + 1)), .int (xs (i + 2)), .int (xs (i + 3))]) (rest := []) ⟨hx, hb, hml, hown, hts⟩ hN hK gL_law_X10_sheet rfl (by decide +kernel) rfl rfl (by decide) ⟨Nat.le_of_ble_eq_true rfl, Nat.le_of_ble_eq_true rfl⟩ ⟨show cells + 7 ≤ 600000 by omega, show slots + 21 ≤ 7302250 by omega⟩ hk rfl hl.1 rfl (Nat.le_of_ble_eq_true rfl) dL_law_855 hP hD hS hA (fun r1 w1 H1 locs1 hq1 hP hD hS => ?_)
  refine lv_aload_n hx hb dL_law_858 rfl (lv_at hl 2 rfl) ?_
  refine lv_aload_n hx hb dL_law_859 rfl (lv_at hl 0 rfl) ?_
  refine lv_iload_n hx hb dL_law_860 rfl (lv_at hl 3 rfl) ?_
  refine lv_iconst (v := nI 1) hx hb dL_law_861 (by decide) ?_
  refine lv_iadd hx hb dL_law_862 ?_
  refine k_eqi (nI_add i 1) ?_
  refine va_sld hx hb hX hbl hbA hS (vp_in_nI (show i + 1 < L by omega) (by omega)) dL_law_863 ?_
  refine k_eqi (show xs (nI (i + 1)).toNatClampNeg = xs (i + 1) by rw [nI_clamp (by omega)]) ?_
  refine lv_aload_n hx hb dL_law_864 rfl (lv_at hl 0 rfl) ?_
  refine lv_iload_n hx hb dL_law_865 rfl (lv_at hl 3 rfl) ?_
  refine lv_iconst (v := nI 2) hx hb dL_law_866 (by decide) ?_
  refine lv_iadd hx hb dL_law_867 ?_
  refine k_eqi (nI_add i 2) ?_
  refine va_sld hx hb hX hbl hbA hS (vp_in_nI (show i + 2 < L by omega) (by omega)) dL_law_868 ?_
  refine k_eqi (show xs (nI (i + 2)).toNatClampNeg = xs (i + 2) by rw [nI_clamp (by omega)]) ?_
  refine lv_aload_n hx hb dL_law_869 rfl (lv_at hl 0 rfl) ?_
  refine lv_iload_n hx hb dL_law_870 rfl (lv_at hl 3 rfl) ?_
  refine lv_iconst (v := nI 3) hx hb dL_law_871 (by decide) ?_
  refine lv_iadd hx hb dL_law_872 ?_
  refine k_eqi (nI_add i 3) ?_
  refine va_sld hx hb hX hbl hbA hS (vp_in_nI (show i + 3 < L by omega) (by omega)) dL_law_873 ?_
  refine k_eqi (show xs (nI (i + 3)).toNatClampNeg = xs (i + 3) by rw [nI_clamp (by omega)]) ?_
  refine k_cki (ci := 11) (n := 3) (As := [.int (xs (i + 1)), .int (xs (i + 2)), .int (xs (i + 3))]) (rest := [.int r1]) ⟨hx, hb, hml, hown, hts⟩ hN hK gL_law_X11_sheet rfl (by decide +kernel) rfl rfl (by decide) ⟨Nat.le_of_ble_eq_true rfl, Nat.le_of_ble_eq_true rfl⟩ ⟨show cells + 7 + 7 ≤ 600000 by omega, show slots + 21 + 21 ≤ 7302250 by omega⟩ hq1 rfl hl.1 rfl (Nat.le_of_ble_eq_true rfl) dL_law_874 hP hD hS hA (fun r2 w2 H2 locs2 hq2 hP hD hS => ?_)
  refine lv_icmp_eq (tgt := 1183) hx hb dL_law_877 (by decide) (fun _ => ?_) (fun c9 => absurd hq2.1.symm c9)
  exact kk w2 H2 locs2 hq2.2 hP hD hS
set_option maxHeartbeats 4000000 in
set_option maxRecDepth 100000 in
theorem blk_lose (hx : p.tables.exec = Jvm.exec) (hb : c.code = cL_law) (hml : c.maxLocals = 4) (hown : s.vm.findClass RL = some m.cls) (hts : ∀ w ∈ wsL_law, w.before args s = true) (hX : va_X b L xs s s.heap) (hbl : b < s.heap.size) (hbA : ¬ A b) (hN : kN s) (hK : va_K D vwCl (kT cI cZ cS cP) s) (hL : L ≤ 384) (hi : i + 6 ≤ L) (hfit : cells + 14 ≤ 600000 ∧ slots + 42 ≤ 7302250) (hk : CkI l yX10_lose wsX10_lose D (kT cI cZ cS cP) hO 10 [.int (xs (i + 1))] w0 (fun r w1 => CkI l yX11_lose wsX11_lose D (kT cI cZ cS cP) hM 11 [.int (xs (i + 1))] w1 (fun r2 w2 => r2 = r ∧ J w2))) (hP : va_P D vwCl w0 H) (hD : va_D A w0) (hS : va_S A s.heap H locs) (hA : ∀ q : Nat, s.heap.size ≤ q → A q) (hl : lv_has ls 4 [(0, .ref b), (1, .ref hO), (2, .ref hM), (3, .int (nI i))]) (kk : ∀ (w2 : va_W) (H1 : Heap) (locs1 : List Loc), J w2 → va_P D vwCl w2 H1 → va_D A w2 → va_S A s.heap H1 locs1 → W p l e room_1 s m args below meth c H1 locs1 (cells + 14) (slots + 42) Q (F0 m 1183 ls [])) : W p l e room_1 s m args below meth c H locs cells slots Q (F0 m 882 ls []) := by
  refine lv_aload_n hx hb dL_law_882 rfl (lv_at hl 1 rfl) ?_
  refine lv_aload_n hx hb dL_law_883 rfl (lv_at hl 0 rfl) ?_
  refine lv_iload_n hx hb dL_law_884 rfl (lv_at hl 3 rfl) ?_
  refine lv_iconst (v := nI 1) hx hb dL_law_885 (by decide) ?_
  refine lv_iadd hx hb dL_law_886 ?_
  refine k_eqi (nI_add i 1) ?_
  refine va_sld hx hb hX hbl hbA hS (vp_in_nI (show i + 1 < L by omega) (by omega)) dL_law_887 ?_
  refine k_eqi (show xs (nI (i + 1)).toNatClampNeg = xs (i + 1) by rw [nI_clamp (by omega)]) ?_
  refine k_cki (ci := 10) (n := 1) (As := [.int (xs (i + 1))]) (rest := []) ⟨hx, hb, hml, hown, hts⟩ hN hK gL_law_X10_lose rfl (by decide +kernel) rfl rfl (by decide) ⟨Nat.le_of_ble_eq_true rfl, Nat.le_of_ble_eq_true rfl⟩ ⟨show cells + 7 ≤ 600000 by omega, show slots + 21 ≤ 7302250 by omega⟩ hk rfl hl.1 rfl (Nat.le_of_ble_eq_true rfl) dL_law_888 hP hD hS hA (fun r1 w1 H1 locs1 hq1 hP hD hS => ?_)
  refine lv_aload_n hx hb dL_law_891 rfl (lv_at hl 2 rfl) ?_
  refine lv_aload_n hx hb dL_law_892 rfl (lv_at hl 0 rfl) ?_
  refine lv_iload_n hx hb dL_law_893 rfl (lv_at hl 3 rfl) ?_
  refine lv_iconst (v := nI 1) hx hb dL_law_894 (by decide) ?_
  refine lv_iadd hx hb dL_law_895 ?_
  refine k_eqi (nI_add i 1) ?_
  refine va_sld hx hb hX hbl hbA hS (vp_in_nI (show i + 1 < L by omega) (by omega)) dL_law_896 ?_
  refine k_eqi (show xs (nI (i + 1)).toNatClampNeg = xs (i + 1) by rw [nI_clamp (by omega)]) ?_
  refine k_cki (ci := 11) (n := 1) (As := [.int (xs (i + 1))]) (rest := [.int r1]) ⟨hx, hb, hml, hown, hts⟩ hN hK gL_law_X11_lose rfl (by decide +kernel) rfl rfl (by decide) ⟨Nat.le_of_ble_eq_true rfl, Nat.le_of_ble_eq_true rfl⟩ ⟨show cells + 7 + 7 ≤ 600000 by omega, show slots + 21 + 21 ≤ 7302250 by omega⟩ hq1 rfl hl.1 rfl (Nat.le_of_ble_eq_true rfl) dL_law_897 hP hD hS hA (fun r2 w2 H2 locs2 hq2 hP hD hS => ?_)
  refine lv_icmp_eq (tgt := 1183) hx hb dL_law_900 (by decide) (fun _ => ?_) (fun c9 => absurd hq2.1.symm c9)
  exact kk w2 H2 locs2 hq2.2 hP hD hS
set_option maxHeartbeats 4000000 in
set_option maxRecDepth 100000 in
theorem blk_put (hx : p.tables.exec = Jvm.exec) (hb : c.code = cL_law) (hml : c.maxLocals = 4) (hown : s.vm.findClass RL = some m.cls) (hts : ∀ w ∈ wsL_law, w.before args s = true) (hX : va_X b L xs s s.heap) (hbl : b < s.heap.size) (hbA : ¬ A b) (hN : kN s) (hK : va_K D vwCl (kT cI cZ cS cP) s) (hL : L ≤ 384) (hi : i + 6 ≤ L) (hfit : cells + 14 ≤ 600000 ∧ slots + 42 ≤ 7302250) (hk : CkI l yX10_put wsX10_put D (kT cI cZ cS cP) hO 10 [.int (xs (i + 1)), .int (xs (i + 2)), .int (xs (i + 3))] w0 (fun r w1 => CkI l yX11_put wsX11_put D (kT cI cZ cS cP) hM 11 [.int (xs (i + 1)), .int (xs (i + 2)), .int (xs (i + 3))] w1 (fun r2 w2 => r2 = r ∧ J w2))) (hP : va_P D vwCl w0 H) (hD : va_D A w0) (hS : va_S A s.heap H locs) (hA : ∀ q : Nat, s.heap.size ≤ q → A q) (hl : lv_has ls 4 [(0, .ref b), (1, .ref hO), (2, .ref hM), (3, .int (nI i))]) (kk : ∀ (w2 : va_W) (H1 : Heap) (locs1 : List Loc), J w2 → va_P D vwCl w2 H1 → va_D A w2 → va_S A s.heap H1 locs1 → W p l e room_1 s m args below meth c H1 locs1 (cells + 14) (slots + 42) Q (F0 m 1183 ls [])) : W p l e room_1 s m args below meth c H locs cells slots Q (F0 m 905 ls []) := by
  refine lv_aload_n hx hb dL_law_905 rfl (lv_at hl 1 rfl) ?_
  refine lv_aload_n hx hb dL_law_906 rfl (lv_at hl 0 rfl) ?_
  refine lv_iload_n hx hb dL_law_907 rfl (lv_at hl 3 rfl) ?_
  refine lv_iconst (v := nI 1) hx hb dL_law_908 (by decide) ?_
  refine lv_iadd hx hb dL_law_909 ?_
  refine k_eqi (nI_add i 1) ?_
  refine va_sld hx hb hX hbl hbA hS (vp_in_nI (show i + 1 < L by omega) (by omega)) dL_law_910 ?_
  refine k_eqi (show xs (nI (i + 1)).toNatClampNeg = xs (i + 1) by rw [nI_clamp (by omega)]) ?_
  refine lv_aload_n hx hb dL_law_911 rfl (lv_at hl 0 rfl) ?_
  refine lv_iload_n hx hb dL_law_912 rfl (lv_at hl 3 rfl) ?_
  refine lv_iconst (v := nI 2) hx hb dL_law_913 (by decide) ?_
  refine lv_iadd hx hb dL_law_914 ?_
  refine k_eqi (nI_add i 2) ?_
  refine va_sld hx hb hX hbl hbA hS (vp_in_nI (show i + 2 < L by omega) (by omega)) dL_law_915 ?_
  refine k_eqi (show xs (nI (i + 2)).toNatClampNeg = xs (i + 2) by rw [nI_clamp (by omega)]) ?_
  refine lv_aload_n hx hb dL_law_916 rfl (lv_at hl 0 rfl) ?_
  refine lv_iload_n hx hb dL_law_917 rfl (lv_at hl 3 rfl) ?_
  refine lv_iconst (v := nI 3) hx hb dL_law_918 (by decide) ?_
  refine lv_iadd hx hb dL_law_919 ?_
  refine k_eqi (nI_add i 3) ?_
  refine va_sld hx hb hX hbl hbA hS (vp_in_nI (show i + 3 < L by omega) (by omega)) dL_law_920 ?_
  refine k_eqi (show xs (nI (i + 3)).toNatClampNeg = xs (i + 3) by rw [nI_clamp (by omega)]) ?_
  refine k_cki (ci := 10) (n := 3) (As := [.int (xs (i + 1)), .int (xs (i + 2)), .int (xs (i + 3))]) (rest := []) ⟨hx, hb, hml, hown, hts⟩ hN hK gL_law_X10_put rfl (by decide +kernel) rfl rfl (by decide) ⟨Nat.le_of_ble_eq_true rfl, Nat.le_of_ble_eq_true rfl⟩ ⟨show cells + 7 ≤ 600000 by omega, show slots + 21 ≤ 7302250 by omega⟩ hk rfl hl.1 rfl (Nat.le_of_ble_eq_true rfl) dL_law_921 hP hD hS hA (fun r1 w1 H1 locs1 hq1 hP hD hS => ?_)
  refine lv_aload_n hx hb dL_law_924 rfl (lv_at hl 2 rfl) ?_
  refine lv_aload_n hx hb dL_law_925 rfl (lv_at hl 0 rfl) ?_
  refine lv_iload_n hx hb dL_law_926 rfl (lv_at hl 3 rfl) ?_
  refine lv_iconst (v := nI 1) hx hb dL_law_927 (by decide) ?_
  refine lv_iadd hx hb dL_law_928 ?_
  refine k_eqi (nI_add i 1) ?_
  refine va_sld hx hb hX hbl hbA hS (vp_in_nI (show i + 1 < L by omega) (by omega)) dL_law_929 ?_
  refine k_eqi (show xs (nI (i + 1)).toNatClampNeg = xs (i + 1) by rw [nI_clamp (by omega)]) ?_
  refine lv_aload_n hx hb dL_law_930 rfl (lv_at hl 0 rfl) ?_
  refine lv_iload_n hx hb dL_law_931 rfl (lv_at hl 3 rfl) ?_
  refine lv_iconst (v := nI 2) hx hb dL_law_932 (by decide) ?_
  refine lv_iadd hx hb dL_law_933 ?_
  refine k_eqi (nI_add i 2) ?_
  refine va_sld hx hb hX hbl hbA hS (vp_in_nI (show i + 2 < L by omega) (by omega)) dL_law_934 ?_
  refine k_eqi (show xs (nI (i + 2)).toNatClampNeg = xs (i + 2) by rw [nI_clamp (by omega)]) ?_
  refine lv_aload_n hx hb dL_law_935 rfl (lv_at hl 0 rfl) ?_
  refine lv_iload_n hx hb dL_law_936 rfl (lv_at hl 3 rfl) ?_
  refine lv_iconst (v := nI 3) hx hb dL_law_937 (by decide) ?_
  refine lv_iadd hx hb dL_law_938 ?_
  refine k_eqi (nI_add i 3) ?_
  refine va_sld hx hb hX hbl hbA hS (vp_in_nI (show i + 3 < L by omega) (by omega)) dL_law_939 ?_
  refine k_eqi (show xs (nI (i + 3)).toNatClampNeg = xs (i + 3) by rw [nI_clamp (by omega)]) ?_
  refine k_cki (ci := 11) (n := 3) (As := [.int (xs (i + 1)), .int (xs (i + 2)), .int (xs (i + 3))]) (rest := [.int r1]) ⟨hx, hb, hml, hown, hts⟩ hN hK gL_law_X11_put rfl (by decide +kernel) rfl rfl (by decide) ⟨Nat.le_of_ble_eq_true rfl, Nat.le_of_ble_eq_true rfl⟩ ⟨show cells + 7 + 7 ≤ 600000 by omega, show slots + 21 + 21 ≤ 7302250 by omega⟩ hq1 rfl hl.1 rfl (Nat.le_of_ble_eq_true rfl) dL_law_940 hP hD hS hA (fun r2 w2 H2 locs2 hq2 hP hD hS => ?_)
  refine lv_icmp_eq (tgt := 1183) hx hb dL_law_943 (by decide) (fun _ => ?_) (fun c9 => absurd hq2.1.symm c9)
  exact kk w2 H2 locs2 hq2.2 hP hD hS
set_option maxHeartbeats 4000000 in
set_option maxRecDepth 100000 in
theorem blk_cell (hx : p.tables.exec = Jvm.exec) (hb : c.code = cL_law) (hml : c.maxLocals = 4) (hown : s.vm.findClass RL = some m.cls) (hts : ∀ w ∈ wsL_law, w.before args s = true) (hX : va_X b L xs s s.heap) (hbl : b < s.heap.size) (hbA : ¬ A b) (hN : kN s) (hK : va_K D vwCl (kT cI cZ cS cP) s) (hL : L ≤ 384) (hi : i + 6 ≤ L) (hfit : cells + 14 ≤ 600000 ∧ slots + 42 ≤ 7302250) (hk : CkL l yX10_cell wsX10_cell D (kT cI cZ cS cP) hO 10 [.int (xs (i + 1)), .int (xs (i + 2)), .int (xs (i + 3))] w0 (fun r w1 => CkL l yX11_cell wsX11_cell D (kT cI cZ cS cP) hM 11 [.int (xs (i + 1)), .int (xs (i + 2)), .int (xs (i + 3))] w1 (fun r2 w2 => r2 = r ∧ J w2))) (hP : va_P D vwCl w0 H) (hD : va_D A w0) (hS : va_S A s.heap H locs) (hA : ∀ q : Nat, s.heap.size ≤ q → A q) (hl : lv_has ls 4 [(0, .ref b), (1, .ref hO), (2, .ref hM), (3, .int (nI i))]) (kk : ∀ (w2 : va_W) (H1 : Heap) (locs1 : List Loc), J w2 → va_P D vwCl w2 H1 → va_D A w2 → va_S A s.heap H1 locs1 → W p l e room_1 s m args below meth c H1 locs1 (cells + 14) (slots + 42) Q (F0 m 1183 ls [])) : W p l e room_1 s m args below meth c H locs cells slots Q (F0 m 948 ls []) := by
  refine lv_aload_n hx hb dL_law_948 rfl (lv_at hl 1 rfl) ?_
  refine lv_aload_n hx hb dL_law_949 rfl (lv_at hl 0 rfl) ?_
  refine lv_iload_n hx hb dL_law_950 rfl (lv_at hl 3 rfl) ?_
  refine lv_iconst (v := nI 1) hx hb dL_law_951 (by decide) ?_
  refine lv_iadd hx hb dL_law_952 ?_
  refine k_eqi (nI_add i 1) ?_
  refine va_sld hx hb hX hbl hbA hS (vp_in_nI (show i + 1 < L by omega) (by omega)) dL_law_953 ?_
  refine k_eqi (show xs (nI (i + 1)).toNatClampNeg = xs (i + 1) by rw [nI_clamp (by omega)]) ?_
  refine lv_aload_n hx hb dL_law_954 rfl (lv_at hl 0 rfl) ?_
  refine lv_iload_n hx hb dL_law_955 rfl (lv_at hl 3 rfl) ?_
  refine lv_iconst (v := nI 2) hx hb dL_law_956 (by decide) ?_
  refine lv_iadd hx hb dL_law_957 ?_
  refine k_eqi (nI_add i 2) ?_
  refine va_sld hx hb hX hbl hbA hS (vp_in_nI (show i + 2 < L by omega) (by omega)) dL_law_958 ?_
  refine k_eqi (show xs (nI (i + 2)).toNatClampNeg = xs (i + 2) by rw [nI_clamp (by omega)]) ?_
  refine lv_aload_n hx hb dL_law_959 rfl (lv_at hl 0 rfl) ?_
  refine lv_iload_n hx hb dL_law_960 rfl (lv_at hl 3 rfl) ?_
  refine lv_iconst (v := nI 3) hx hb dL_law_961 (by decide) ?_
  refine lv_iadd hx hb dL_law_962 ?_
  refine k_eqi (nI_add i 3) ?_
  refine va_sld hx hb hX hbl hbA hS (vp_in_nI (show i + 3 < L by omega) (by omega)) dL_law_963 ?_
  refine k_eqi (show xs (nI (i + 3)).toNatClampNeg = xs (i + 3) by rw [nI_clamp (by omega)]) ?_
  refine k_ckl (ci := 10) (n := 3) (As := [.int (xs (i + 1)), .int (xs (i + 2)), .int (xs (i + 3))]) (rest := []) ⟨hx, hb, hml, hown, hts⟩ hN hK gL_law_X10_cell rfl (by decide +kernel) rfl rfl (by decide) ⟨Nat.le_of_ble_eq_true rfl, Nat.le_of_ble_eq_true rfl⟩ ⟨show cells + 7 ≤ 600000 by omega, show slots + 21 ≤ 7302250 by omega⟩ hk rfl hl.1 rfl (Nat.le_of_ble_eq_true rfl) dL_law_964 hP hD hS hA (fun r1 w1 H1 locs1 hq1 hP hD hS => ?_)
  refine lv_aload_n hx hb dL_law_967 rfl (lv_at hl 2 rfl) ?_
  refine lv_aload_n hx hb dL_law_968 rfl (lv_at hl 0 rfl) ?_
  refine lv_iload_n hx hb dL_law_969 rfl (lv_at hl 3 rfl) ?_
  refine lv_iconst (v := nI 1) hx hb dL_law_970 (by decide) ?_
  refine lv_iadd hx hb dL_law_971 ?_
  refine k_eqi (nI_add i 1) ?_
  refine va_sld hx hb hX hbl hbA hS (vp_in_nI (show i + 1 < L by omega) (by omega)) dL_law_972 ?_
  refine k_eqi (show xs (nI (i + 1)).toNatClampNeg = xs (i + 1) by rw [nI_clamp (by omega)]) ?_
  refine lv_aload_n hx hb dL_law_973 rfl (lv_at hl 0 rfl) ?_
  refine lv_iload_n hx hb dL_law_974 rfl (lv_at hl 3 rfl) ?_
  refine lv_iconst (v := nI 2) hx hb dL_law_975 (by decide) ?_
  refine lv_iadd hx hb dL_law_976 ?_
  refine k_eqi (nI_add i 2) ?_
  refine va_sld hx hb hX hbl hbA hS (vp_in_nI (show i + 2 < L by omega) (by omega)) dL_law_977 ?_
  refine k_eqi (show xs (nI (i + 2)).toNatClampNeg = xs (i + 2) by rw [nI_clamp (by omega)]) ?_
  refine lv_aload_n hx hb dL_law_978 rfl (lv_at hl 0 rfl) ?_
  refine lv_iload_n hx hb dL_law_979 rfl (lv_at hl 3 rfl) ?_
  refine lv_iconst (v := nI 3) hx hb dL_law_980 (by decide) ?_
  refine lv_iadd hx hb dL_law_981 ?_
  refine k_eqi (nI_add i 3) ?_
  refine va_sld hx hb hX hbl hbA hS (vp_in_nI (show i + 3 < L by omega) (by omega)) dL_law_982 ?_
  refine k_eqi (show xs (nI (i + 3)).toNatClampNeg = xs (i + 3) by rw [nI_clamp (by omega)]) ?_
  refine k_ckl (ci := 11) (n := 3) (As := [.int (xs (i + 1)), .int (xs (i + 2)), .int (xs (i + 3))]) (rest := [.long r1]) ⟨hx, hb, hml, hown, hts⟩ hN hK gL_law_X11_cell rfl (by decide +kernel) rfl rfl (by decide) ⟨Nat.le_of_ble_eq_true rfl, Nat.le_of_ble_eq_true rfl⟩ ⟨show cells + 7 + 7 ≤ 600000 by omega, show slots + 21 + 21 ≤ 7302250 by omega⟩ hq1 rfl hl.1 rfl (Nat.le_of_ble_eq_true rfl) dL_law_983 hP hD hS hA (fun r2 w2 H2 locs2 hq2 hP hD hS => ?_)
  refine W.lcmp hx hb dL_law_986 ?_
  refine lv_if_eq (tgt := 1183) hx hb dL_law_987 (by decide) (fun _ => ?_) (fun c9 => absurd (by rw [hq2.1]; exact lg_self r1) c9)
  exact kk w2 H2 locs2 hq2.2 hP hD hS
set_option maxHeartbeats 4000000 in
set_option maxRecDepth 100000 in
theorem blk_copy (hx : p.tables.exec = Jvm.exec) (hb : c.code = cL_law) (hml : c.maxLocals = 4) (hown : s.vm.findClass RL = some m.cls) (hts : ∀ w ∈ wsL_law, w.before args s = true) (hX : va_X b L xs s s.heap) (hbl : b < s.heap.size) (hbA : ¬ A b) (hN : kN s) (hK : va_K D vwCl (kT cI cZ cS cP) s) (hL : L ≤ 384) (hi : i + 6 ≤ L) (hfit : cells + 14 ≤ 600000 ∧ slots + 42 ≤ 7302250) (hk : CkI l yX10_copy wsX10_copy D (kT cI cZ cS cP) hO 10 [.int (xs (i + 1)), .int (xs (i + 2)), .int (xs (i + 3)), .int (xs (i + 4)), .int (xs (i + 5))] w0 (fun r w1 => CkI l yX11_copy wsX11_copy D (kT cI cZ cS cP) hM 11 [.int (xs (i + 1)), .int (xs (i + 2)), .int (xs (i + 3)), .int (xs (i + 4)), .int (xs (i + 5))] w1 (fun r2 w2 => r2 = r ∧ J w2))) (hP : va_P D vwCl w0 H) (hD : va_D A w0) (hS : va_S A s.heap H locs) (hA : ∀ q : Nat, s.heap.size ≤ q → A q) (hl : lv_has ls 4 [(0, .ref b), (1, .ref hO), (2, .ref hM), (3, .int (nI i))]) (kk : ∀ (w2 : va_W) (H1 : Heap) (locs1 : List Loc), J w2 → va_P D vwCl w2 H1 → va_D A w2 → va_S A s.heap H1 locs1 → W p l e room_1 s m args below meth c H1 locs1 (cells + 14) (slots + 42) Q (F0 m 1183 ls [])) : W p l e room_1 s m args below meth c H locs cells slots Q (F0 m 992 ls []) := by
  refine lv_aload_n hx hb dL_law_992 rfl (lv_at hl 1 rfl) ?_
  refine lv_aload_n hx hb dL_law_993 rfl (lv_at hl 0 rfl) ?_
  refine lv_iload_n hx hb dL_law_994 rfl (lv_at hl 3 rfl) ?_
  refine lv_iconst (v := nI 1) hx hb dL_law_995 (by decide) ?_
  refine lv_iadd hx hb dL_law_996 ?_
  refine k_eqi (nI_add i 1) ?_
  refine va_sld hx hb hX hbl hbA hS (vp_in_nI (show i + 1 < L by omega) (by omega)) dL_law_997 ?_
  refine k_eqi (show xs (nI (i + 1)).toNatClampNeg = xs (i + 1) by rw [nI_clamp (by omega)]) ?_
  refine lv_aload_n hx hb dL_law_998 rfl (lv_at hl 0 rfl) ?_
  refine lv_iload_n hx hb dL_law_999 rfl (lv_at hl 3 rfl) ?_
  refine lv_iconst (v := nI 2) hx hb dL_law_1000 (by decide) ?_
  refine lv_iadd hx hb dL_law_1001 ?_
  refine k_eqi (nI_add i 2) ?_
  refine va_sld hx hb hX hbl hbA hS (vp_in_nI (show i + 2 < L by omega) (by omega)) dL_law_1002 ?_
  refine k_eqi (show xs (nI (i + 2)).toNatClampNeg = xs (i + 2) by rw [nI_clamp (by omega)]) ?_
  refine lv_aload_n hx hb dL_law_1003 rfl (lv_at hl 0 rfl) ?_
  refine lv_iload_n hx hb dL_law_1004 rfl (lv_at hl 3 rfl) ?_
  refine lv_iconst (v := nI 3) hx hb dL_law_1005 (by decide) ?_
  refine lv_iadd hx hb dL_law_1006 ?_
  refine k_eqi (nI_add i 3) ?_
  refine va_sld hx hb hX hbl hbA hS (vp_in_nI (show i + 3 < L by omega) (by omega)) dL_law_1007 ?_
  refine k_eqi (show xs (nI (i + 3)).toNatClampNeg = xs (i + 3) by rw [nI_clamp (by omega)]) ?_
  refine lv_aload_n hx hb dL_law_1008 rfl (lv_at hl 0 rfl) ?_
  refine lv_iload_n hx hb dL_law_1009 rfl (lv_at hl 3 rfl) ?_
  refine lv_iconst (v := nI 4) hx hb dL_law_1010 (by decide) ?_
  refine lv_iadd hx hb dL_law_1011 ?_
  refine k_eqi (nI_add i 4) ?_
  refine va_sld hx hb hX hbl hbA hS (vp_in_nI (show i + 4 < L by omega) (by omega)) dL_law_1012 ?_
  refine k_eqi (show xs (nI (i + 4)).toNatClampNeg = xs (i + 4) by rw [nI_clamp (by omega)]) ?_
  refine lv_aload_n hx hb dL_law_1013 rfl (lv_at hl 0 rfl) ?_
  refine lv_iload_n hx hb dL_law_1014 rfl (lv_at hl 3 rfl) ?_
  refine lv_iconst (v := nI 5) hx hb dL_law_1015 (by decide) ?_
  refine lv_iadd hx hb dL_law_1016 ?_
  refine k_eqi (nI_add i 5) ?_
  refine va_sld hx hb hX hbl hbA hS (vp_in_nI (show i + 5 < L by omega) (by omega)) dL_law_1017 ?_
  refine k_eqi (show xs (nI (i + 5)).toNatClampNeg = xs (i + 5) by rw [nI_clamp (by omega)]) ?_
  refine k_cki (ci := 10) (n := 5) (As := [.int (xs (i + 1)), .int (xs (i + 2)), .int (xs (i + 3)), .int (xs (i + 4)), .int (xs (i + 5))]) (rest := []) ⟨hx, hb, hml, hown, hts⟩ hN hK gL_law_X10_copy rfl (by decide +kernel) rfl rfl (by decide) ⟨Nat.le_of_ble_eq_true rfl, Nat.le_of_ble_eq_true rfl⟩ ⟨show cells + 7 ≤ 600000 by omega, show slots + 21 ≤ 7302250 by omega⟩ hk rfl hl.1 rfl (Nat.le_of_ble_eq_true rfl) dL_law_1018 hP hD hS hA (fun r1 w1 H1 locs1 hq1 hP hD hS => ?_)
  refine lv_aload_n hx hb dL_law_1021 rfl (lv_at hl 2 rfl) ?_
  refine lv_aload_n hx hb dL_law_1022 rfl (lv_at hl 0 rfl) ?_
  refine lv_iload_n hx hb dL_law_1023 rfl (lv_at hl 3 rfl) ?_
  refine lv_iconst (v := nI 1) hx hb dL_law_1024 (by decide) ?_
  refine lv_iadd hx hb dL_law_1025 ?_
  refine k_eqi (nI_add i 1) ?_
  refine va_sld hx hb hX hbl hbA hS (vp_in_nI (show i + 1 < L by omega) (by omega)) dL_law_1026 ?_
  refine k_eqi (show xs (nI (i + 1)).toNatClampNeg = xs (i + 1) by rw [nI_clamp (by omega)]) ?_
  refine lv_aload_n hx hb dL_law_1027 rfl (lv_at hl 0 rfl) ?_
  refine lv_iload_n hx hb dL_law_1028 rfl (lv_at hl 3 rfl) ?_
  refine lv_iconst (v := nI 2) hx hb dL_law_1029 (by decide) ?_
  refine lv_iadd hx hb dL_law_1030 ?_
  refine k_eqi (nI_add i 2) ?_
  refine va_sld hx hb hX hbl hbA hS (vp_in_nI (show i + 2 < L by omega) (by omega)) dL_law_1031 ?_
  refine k_eqi (show xs (nI (i + 2)).toNatClampNeg = xs (i + 2) by rw [nI_clamp (by omega)]) ?_
  refine lv_aload_n hx hb dL_law_1032 rfl (lv_at hl 0 rfl) ?_
  refine lv_iload_n hx hb dL_law_1033 rfl (lv_at hl 3 rfl) ?_
  refine lv_iconst (v := nI 3) hx hb dL_law_1034 (by decide) ?_
  refine lv_iadd hx hb dL_law_1035 ?_
  refine k_eqi (nI_add i 3) ?_
  refine va_sld hx hb hX hbl hbA hS (vp_in_nI (show i + 3 < L by omega) (by omega)) dL_law_1036 ?_
  refine k_eqi (show xs (nI (i + 3)).toNatClampNeg = xs (i + 3) by rw [nI_clamp (by omega)]) ?_
  refine lv_aload_n hx hb dL_law_1037 rfl (lv_at hl 0 rfl) ?_
  refine lv_iload_n hx hb dL_law_1038 rfl (lv_at hl 3 rfl) ?_
  refine lv_iconst (v := nI 4) hx hb dL_law_1039 (by decide) ?_
  refine lv_iadd hx hb dL_law_1040 ?_
  refine k_eqi (nI_add i 4) ?_
  refine va_sld hx hb hX hbl hbA hS (vp_in_nI (show i + 4 < L by omega) (by omega)) dL_law_1041 ?_
  refine k_eqi (show xs (nI (i + 4)).toNatClampNeg = xs (i + 4) by rw [nI_clamp (by omega)]) ?_
  refine lv_aload_n hx hb dL_law_1042 rfl (lv_at hl 0 rfl) ?_
  refine lv_iload_n hx hb dL_law_1043 rfl (lv_at hl 3 rfl) ?_
  refine lv_iconst (v := nI 5) hx hb dL_law_1044 (by decide) ?_
  refine lv_iadd hx hb dL_law_1045 ?_
  refine k_eqi (nI_add i 5) ?_
  refine va_sld hx hb hX hbl hbA hS (vp_in_nI (show i + 5 < L by omega) (by omega)) dL_law_1046 ?_
  refine k_eqi (show xs (nI (i + 5)).toNatClampNeg = xs (i + 5) by rw [nI_clamp (by omega)]) ?_
  refine k_cki (ci := 11) (n := 5) (As := [.int (xs (i + 1)), .int (xs (i + 2)), .int (xs (i + 3)), .int (xs (i + 4)), .int (xs (i + 5))]) (rest := [.int r1]) ⟨hx, hb, hml, hown, hts⟩ hN hK gL_law_X11_copy rfl (by decide +kernel) rfl rfl (by decide) ⟨Nat.le_of_ble_eq_true rfl, Nat.le_of_ble_eq_true rfl⟩ ⟨show cells + 7 + 7 ≤ 600000 by omega, show slots + 21 + 21 ≤ 7302250 by omega⟩ hq1 rfl hl.1 rfl (Nat.le_of_ble_eq_true rfl) dL_law_1047 hP hD hS hA (fun r2 w2 H2 locs2 hq2 hP hD hS => ?_)
  refine lv_icmp_eq (tgt := 1183) hx hb dL_law_1050 (by decide) (fun _ => ?_) (fun c9 => absurd hq2.1.symm c9)
  exact kk w2 H2 locs2 hq2.2 hP hD hS
set_option maxHeartbeats 4000000 in
set_option maxRecDepth 100000 in
theorem blk_tell (hx : p.tables.exec = Jvm.exec) (hb : c.code = cL_law) (hml : c.maxLocals = 4) (hown : s.vm.findClass RL = some m.cls) (hts : ∀ w ∈ wsL_law, w.before args s = true) (hX : va_X b L xs s s.heap) (hbl : b < s.heap.size) (hbA : ¬ A b) (hN : kN s) (hK : va_K D vwCl (kT cI cZ cS cP) s) (hL : L ≤ 384) (hi : i + 6 ≤ L) (hfit : cells + 14 ≤ 600000 ∧ slots + 42 ≤ 7302250) (hk : CkI l yX10_tell wsX10_tell D (kT cI cZ cS cP) hO 10 [.int (xs (i + 1))] w0 (fun r w1 => CkI l yX11_tell wsX11_tell D (kT cI cZ cS cP) hM 11 [.int (xs (i + 1))] w1 (fun r2 w2 => r2 = r ∧ J w2))) (hP : va_P D vwCl w0 H) (hD : va_D A w0) (hS : va_S A s.heap H locs) (hA : ∀ q : Nat, s.heap.size ≤ q → A q) (hl : lv_has ls 4 [(0, .ref b), (1, .ref hO), (2, .ref hM), (3, .int (nI i))]) (kk : ∀ (w2 : va_W) (H1 : Heap) (locs1 : List Loc), J w2 → va_P D vwCl w2 H1 → va_D A w2 → va_S A s.heap H1 locs1 → W p l e room_1 s m args below meth c H1 locs1 (cells + 14) (slots + 42) Q (F0 m 1183 ls [])) : W p l e room_1 s m args below meth c H locs cells slots Q (F0 m 1055 ls []) := by
  refine lv_aload_n hx hb dL_law_1055 rfl (lv_at hl 1 rfl) ?_
  refine lv_aload_n hx hb dL_law_1056 rfl (lv_at hl 0 rfl) ?_
  refine lv_iload_n hx hb dL_law_1057 rfl (lv_at hl 3 rfl) ?_
  refine lv_iconst (v := nI 1) hx hb dL_law_1058 (by decide) ?_
  refine lv_iadd hx hb dL_law_1059 ?_
  refine k_eqi (nI_add i 1) ?_
  refine va_sld hx hb hX hbl hbA hS (vp_in_nI (show i + 1 < L by omega) (by omega)) dL_law_1060 ?_
  refine k_eqi (show xs (nI (i + 1)).toNatClampNeg = xs (i + 1) by rw [nI_clamp (by omega)]) ?_
  refine k_cki (ci := 10) (n := 1) (As := [.int (xs (i + 1))]) (rest := []) ⟨hx, hb, hml, hown, hts⟩ hN hK gL_law_X10_tell rfl (by decide +kernel) rfl rfl (by decide) ⟨Nat.le_of_ble_eq_true rfl, Nat.le_of_ble_eq_true rfl⟩ ⟨show cells + 7 ≤ 600000 by omega, show slots + 21 ≤ 7302250 by omega⟩ hk rfl hl.1 rfl (Nat.le_of_ble_eq_true rfl) dL_law_1061 hP hD hS hA (fun r1 w1 H1 locs1 hq1 hP hD hS => ?_)
  refine lv_aload_n hx hb dL_law_1064 rfl (lv_at hl 2 rfl) ?_
  refine lv_aload_n hx hb dL_law_1065 rfl (lv_at hl 0 rfl) ?_
  refine lv_iload_n hx hb dL_law_1066 rfl (lv_at hl 3 rfl) ?_
  refine lv_iconst (v := nI 1) hx hb dL_law_1067 (by decide) ?_
  refine lv_iadd hx hb dL_law_1068 ?_
  refine k_eqi (nI_add i 1) ?_
  refine va_sld hx hb hX hbl hbA hS (vp_in_nI (show i + 1 < L by omega) (by omega)) dL_law_1069 ?_
  refine k_eqi (show xs (nI (i + 1)).toNatClampNeg = xs (i + 1) by rw [nI_clamp (by omega)]) ?_
  refine k_cki (ci := 11) (n := 1) (As := [.int (xs (i + 1))]) (rest := [.int r1]) ⟨hx, hb, hml, hown, hts⟩ hN hK gL_law_X11_tell rfl (by decide +kernel) rfl rfl (by decide) ⟨Nat.le_of_ble_eq_true rfl, Nat.le_of_ble_eq_true rfl⟩ ⟨show cells + 7 + 7 ≤ 600000 by omega, show slots + 21 + 21 ≤ 7302250 by omega⟩ hq1 rfl hl.1 rfl (Nat.le_of_ble_eq_true rfl) dL_law_1070 hP hD hS hA (fun r2 w2 H2 locs2 hq2 hP hD hS => ?_)
  refine lv_icmp_eq (tgt := 1183) hx hb dL_law_1073 (by decide) (fun _ => ?_) (fun c9 => absurd hq2.1.symm c9)
  exact kk w2 H2 locs2 hq2.2 hP hD hS
set_option maxHeartbeats 4000000 in
set_option maxRecDepth 100000 in
theorem blk_bow (hx : p.tables.exec = Jvm.exec) (hb : c.code = cL_law) (hml : c.maxLocals = 4) (hown : s.vm.findClass RL = some m.cls) (hts : ∀ w ∈ wsL_law, w.before args s = true) (hX : va_X b L xs s s.heap) (hbl : b < s.heap.size) (hbA : ¬ A b) (hN : kN s) (hK : va_K D vwCl (kT cI cZ cS cP) s) (hL : L ≤ 384) (hi : i + 6 ≤ L) (hfit : cells + 14 ≤ 600000 ∧ slots + 42 ≤ 7302250) (hk : CkI l yX10_bow wsX10_bow D (kT cI cZ cS cP) hO 10 [.int (xs (i + 1))] w0 (fun r w1 => CkI l yX11_bow wsX11_bow D (kT cI cZ cS cP) hM 11 [.int (xs (i + 1))] w1 (fun r2 w2 => r2 = r ∧ J w2))) (hP : va_P D vwCl w0 H) (hD : va_D A w0) (hS : va_S A s.heap H locs) (hA : ∀ q : Nat, s.heap.size ≤ q → A q) (hl : lv_has ls 4 [(0, .ref b), (1, .ref hO), (2, .ref hM), (3, .int (nI i))]) (kk : ∀ (w2 : va_W) (H1 : Heap) (locs1 : List Loc), J w2 → va_P D vwCl w2 H1 → va_D A w2 → va_S A s.heap H1 locs1 → W p l e room_1 s m args below meth c H1 locs1 (cells + 14) (slots + 42) Q (F0 m 1183 ls [])) : W p l e room_1 s m args below meth c H locs cells slots Q (F0 m 1078 ls []) := by
  refine lv_aload_n hx hb dL_law_1078 rfl (lv_at hl 1 rfl) ?_
  refine lv_aload_n hx hb dL_law_1079 rfl (lv_at hl 0 rfl) ?_
  refine lv_iload_n hx hb dL_law_1080 rfl (lv_at hl 3 rfl) ?_
  refine lv_iconst (v := nI 1) hx hb dL_law_1081 (by decide) ?_
  refine lv_iadd hx hb dL_law_1082 ?_
  refine k_eqi (nI_add i 1) ?_
  refine va_sld hx hb hX hbl hbA hS (vp_in_nI (show i + 1 < L by omega) (by omega)) dL_law_1083 ?_
  refine k_eqi (show xs (nI (i + 1)).toNatClampNeg = xs (i + 1) by rw [nI_clamp (by omega)]) ?_
  refine k_cki (ci := 10) (n := 1) (As := [.int (xs (i + 1))]) (rest := []) ⟨hx, hb, hml, hown, hts⟩ hN hK gL_law_X10_bow rfl (by decide +kernel) rfl rfl (by decide) ⟨Nat.le_of_ble_eq_true rfl, Nat.le_of_ble_eq_true rfl⟩ ⟨show cells + 7 ≤ 600000 by omega, show slots + 21 ≤ 7302250 by omega⟩ hk rfl hl.1 rfl (Nat.le_of_ble_eq_true rfl) dL_law_1084 hP hD hS hA (fun r1 w1 H1 locs1 hq1 hP hD hS => ?_)
  refine lv_aload_n hx hb dL_law_1087 rfl (lv_at hl 2 rfl) ?_
  refine lv_aload_n hx hb dL_law_1088 rfl (lv_at hl 0 rfl) ?_
  refine lv_iload_n hx hb dL_law_1089 rfl (lv_at hl 3 rfl) ?_
  refine lv_iconst (v := nI 1) hx hb dL_law_1090 (by decide) ?_
  refine lv_iadd hx hb dL_law_1091 ?_
  refine k_eqi (nI_add i 1) ?_
  refine va_sld hx hb hX hbl hbA hS (vp_in_nI (show i + 1 < L by omega) (by omega)) dL_law_1092 ?_
  refine k_eqi (show xs (nI (i + 1)).toNatClampNeg = xs (i + 1) by rw [nI_clamp (by omega)]) ?_
  refine k_cki (ci := 11) (n := 1) (As := [.int (xs (i + 1))]) (rest := [.int r1]) ⟨hx, hb, hml, hown, hts⟩ hN hK gL_law_X11_bow rfl (by decide +kernel) rfl rfl (by decide) ⟨Nat.le_of_ble_eq_true rfl, Nat.le_of_ble_eq_true rfl⟩ ⟨show cells + 7 + 7 ≤ 600000 by omega, show slots + 21 + 21 ≤ 7302250 by omega⟩ hq1 rfl hl.1 rfl (Nat.le_of_ble_eq_true rfl) dL_law_1093 hP hD hS hA (fun r2 w2 H2 locs2 hq2 hP hD hS => ?_)
  refine lv_icmp_eq (tgt := 1183) hx hb dL_law_1096 (by decide) (fun _ => ?_) (fun c9 => absurd hq2.1.symm c9)
  exact kk w2 H2 locs2 hq2.2 hP hD hS
set_option maxHeartbeats 4000000 in
set_option maxRecDepth 100000 in
theorem blk_as (hx : p.tables.exec = Jvm.exec) (hb : c.code = cL_law) (hml : c.maxLocals = 4) (hown : s.vm.findClass RL = some m.cls) (hts : ∀ w ∈ wsL_law, w.before args s = true) (hX : va_X b L xs s s.heap) (hbl : b < s.heap.size) (hbA : ¬ A b) (hN : kN s) (hK : va_K D vwCl (kT cI cZ cS cP) s) (hL : L ≤ 384) (hi : i + 6 ≤ L) (hfit : cells + 14 ≤ 600000 ∧ slots + 42 ≤ 7302250) (hk : CkI l yX10_as wsX10_as D (kT cI cZ cS cP) hO 10 [.int (xs (i + 1)), .int (xs (i + 2))] w0 (fun r w1 => CkI l yX11_as wsX11_as D (kT cI cZ cS cP) hM 11 [.int (xs (i + 1)), .int (xs (i + 2))] w1 (fun r2 w2 => r2 = r ∧ J w2))) (hP : va_P D vwCl w0 H) (hD : va_D A w0) (hS : va_S A s.heap H locs) (hA : ∀ q : Nat, s.heap.size ≤ q → A q) (hl : lv_has ls 4 [(0, .ref b), (1, .ref hO), (2, .ref hM), (3, .int (nI i))]) (kk : ∀ (w2 : va_W) (H1 : Heap) (locs1 : List Loc), J w2 → va_P D vwCl w2 H1 → va_D A w2 → va_S A s.heap H1 locs1 → W p l e room_1 s m args below meth c H1 locs1 (cells + 14) (slots + 42) Q (F0 m 1183 ls [])) : W p l e room_1 s m args below meth c H locs cells slots Q (F0 m 1101 ls []) := by
  refine lv_aload_n hx hb dL_law_1101 rfl (lv_at hl 1 rfl) ?_
  refine lv_aload_n hx hb dL_law_1102 rfl (lv_at hl 0 rfl) ?_
  refine lv_iload_n hx hb dL_law_1103 rfl (lv_at hl 3 rfl) ?_
  refine lv_iconst (v := nI 1) hx hb dL_law_1104 (by decide) ?_
  refine lv_iadd hx hb dL_law_1105 ?_
  refine k_eqi (nI_add i 1) ?_
  refine va_sld hx hb hX hbl hbA hS (vp_in_nI (show i + 1 < L by omega) (by omega)) dL_law_1106 ?_
  refine k_eqi (show xs (nI (i + 1)).toNatClampNeg = xs (i + 1) by rw [nI_clamp (by omega)]) ?_
  refine lv_aload_n hx hb dL_law_1107 rfl (lv_at hl 0 rfl) ?_
  refine lv_iload_n hx hb dL_law_1108 rfl (lv_at hl 3 rfl) ?_
  refine lv_iconst (v := nI 2) hx hb dL_law_1109 (by decide) ?_
  refine lv_iadd hx hb dL_law_1110 ?_
  refine k_eqi (nI_add i 2) ?_
  refine va_sld hx hb hX hbl hbA hS (vp_in_nI (show i + 2 < L by omega) (by omega)) dL_law_1111 ?_
  refine k_eqi (show xs (nI (i + 2)).toNatClampNeg = xs (i + 2) by rw [nI_clamp (by omega)]) ?_
  refine k_cki (ci := 10) (n := 2) (As := [.int (xs (i + 1)), .int (xs (i + 2))]) (rest := []) ⟨hx, hb, hml, hown, hts⟩ hN hK gL_law_X10_as rfl (by decide +kernel) rfl rfl (by decide) ⟨Nat.le_of_ble_eq_true rfl, Nat.le_of_ble_eq_true rfl⟩ ⟨show cells + 7 ≤ 600000 by omega, show slots + 21 ≤ 7302250 by omega⟩ hk rfl hl.1 rfl (Nat.le_of_ble_eq_true rfl) dL_law_1112 hP hD hS hA (fun r1 w1 H1 locs1 hq1 hP hD hS => ?_)
  refine lv_aload_n hx hb dL_law_1115 rfl (lv_at hl 2 rfl) ?_
  refine lv_aload_n hx hb dL_law_1116 rfl (lv_at hl 0 rfl) ?_
  refine lv_iload_n hx hb dL_law_1117 rfl (lv_at hl 3 rfl) ?_
  refine lv_iconst (v := nI 1) hx hb dL_law_1118 (by decide) ?_
  refine lv_iadd hx hb dL_law_1119 ?_
  refine k_eqi (nI_add i 1) ?_
  refine va_sld hx hb hX hbl hbA hS (vp_in_nI (show i + 1 < L by omega) (by omega)) dL_law_1120 ?_
  refine k_eqi (show xs (nI (i + 1)).toNatClampNeg = xs (i + 1) by rw [nI_clamp (by omega)]) ?_
  refine lv_aload_n hx hb dL_law_1121 rfl (lv_at hl 0 rfl) ?_
  refine lv_iload_n hx hb dL_law_1122 rfl (lv_at hl 3 rfl) ?_
  refine lv_iconst (v := nI 2) hx hb dL_law_1123 (by decide) ?_
  refine lv_iadd hx hb dL_law_1124 ?_
  refine k_eqi (nI_add i 2) ?_
  refine va_sld hx hb hX hbl hbA hS (vp_in_nI (show i + 2 < L by omega) (by omega)) dL_law_1125 ?_
  refine k_eqi (show xs (nI (i + 2)).toNatClampNeg = xs (i + 2) by rw [nI_clamp (by omega)]) ?_
  refine k_cki (ci := 11) (n := 2) (As := [.int (xs (i + 1)), .int (xs (i + 2))]) (rest := [.int r1]) ⟨hx, hb, hml, hown, hts⟩ hN hK gL_law_X11_as rfl (by decide +kernel) rfl rfl (by decide) ⟨Nat.le_of_ble_eq_true rfl, Nat.le_of_ble_eq_true rfl⟩ ⟨show cells + 7 + 7 ≤ 600000 by omega, show slots + 21 + 21 ≤ 7302250 by omega⟩ hq1 rfl hl.1 rfl (Nat.le_of_ble_eq_true rfl) dL_law_1126 hP hD hS hA (fun r2 w2 H2 locs2 hq2 hP hD hS => ?_)
  refine lv_icmp_eq (tgt := 1183) hx hb dL_law_1129 (by decide) (fun _ => ?_) (fun c9 => absurd hq2.1.symm c9)
  exact kk w2 H2 locs2 hq2.2 hP hD hS
set_option maxHeartbeats 4000000 in
set_option maxRecDepth 100000 in
theorem blk_trace (hx : p.tables.exec = Jvm.exec) (hb : c.code = cL_law) (hml : c.maxLocals = 4) (hown : s.vm.findClass RL = some m.cls) (hts : ∀ w ∈ wsL_law, w.before args s = true) (hX : va_X b L xs s s.heap) (hbl : b < s.heap.size) (hbA : ¬ A b) (hN : kN s) (hK : va_K D vwCl (kT cI cZ cS cP) s) (hL : L ≤ 384) (hi : i + 6 ≤ L) (hfit : cells + 14 ≤ 600000 ∧ slots + 42 ≤ 7302250) (hk : CkI l yX10_trace wsX10_trace D (kT cI cZ cS cP) hO 10 [] w0 (fun r w1 => CkI l yX11_trace wsX11_trace D (kT cI cZ cS cP) hM 11 [] w1 (fun r2 w2 => r2 = r ∧ J w2))) (hP : va_P D vwCl w0 H) (hD : va_D A w0) (hS : va_S A s.heap H locs) (hA : ∀ q : Nat, s.heap.size ≤ q → A q) (hl : lv_has ls 4 [(0, .ref b), (1, .ref hO), (2, .ref hM), (3, .int (nI i))]) (kk : ∀ (w2 : va_W) (H1 : Heap) (locs1 : List Loc), J w2 → va_P D vwCl w2 H1 → va_D A w2 → va_S A s.heap H1 locs1 → W p l e room_1 s m args below meth c H1 locs1 (cells + 14) (slots + 42) Q (F0 m 1183 ls [])) : W p l e room_1 s m args below meth c H locs cells slots Q (F0 m 1134 ls []) := by
  refine lv_aload_n hx hb dL_law_1134 rfl (lv_at hl 1 rfl) ?_
  refine k_cki (ci := 10) (n := 0) (As := []) (rest := []) ⟨hx, hb, hml, hown, hts⟩ hN hK gL_law_X10_trace rfl (by decide +kernel) rfl rfl (by decide) ⟨Nat.le_of_ble_eq_true rfl, Nat.le_of_ble_eq_true rfl⟩ ⟨show cells + 7 ≤ 600000 by omega, show slots + 21 ≤ 7302250 by omega⟩ hk rfl hl.1 rfl (Nat.le_of_ble_eq_true rfl) dL_law_1135 hP hD hS hA (fun r1 w1 H1 locs1 hq1 hP hD hS => ?_)
  refine lv_aload_n hx hb dL_law_1138 rfl (lv_at hl 2 rfl) ?_
  refine k_cki (ci := 11) (n := 0) (As := []) (rest := [.int r1]) ⟨hx, hb, hml, hown, hts⟩ hN hK gL_law_X11_trace rfl (by decide +kernel) rfl rfl (by decide) ⟨Nat.le_of_ble_eq_true rfl, Nat.le_of_ble_eq_true rfl⟩ ⟨show cells + 7 + 7 ≤ 600000 by omega, show slots + 21 + 21 ≤ 7302250 by omega⟩ hq1 rfl hl.1 rfl (Nat.le_of_ble_eq_true rfl) dL_law_1139 hP hD hS hA (fun r2 w2 H2 locs2 hq2 hP hD hS => ?_)
  refine lv_icmp_eq (tgt := 1183) hx hb dL_law_1142 (by decide) (fun _ => ?_) (fun c9 => absurd hq2.1.symm c9)
  exact kk w2 H2 locs2 hq2.2 hP hD hS
set_option maxHeartbeats 4000000 in
set_option maxRecDepth 100000 in
theorem blk_fault (hx : p.tables.exec = Jvm.exec) (hb : c.code = cL_law) (hml : c.maxLocals = 4) (hown : s.vm.findClass RL = some m.cls) (hts : ∀ w ∈ wsL_law, w.before args s = true) (hX : va_X b L xs s s.heap) (hbl : b < s.heap.size) (hbA : ¬ A b) (hN : kN s) (hK : va_K D vwCl (kT cI cZ cS cP) s) (hL : L ≤ 384) (hi : i + 6 ≤ L) (hfit : cells + 14 ≤ 600000 ∧ slots + 42 ≤ 7302250) (hk : CkI l yX10_fault wsX10_fault D (kT cI cZ cS cP) hO 10 [] w0 (fun r w1 => CkI l yX11_fault wsX11_fault D (kT cI cZ cS cP) hM 11 [] w1 (fun r2 w2 => r2 = r ∧ J w2))) (hP : va_P D vwCl w0 H) (hD : va_D A w0) (hS : va_S A s.heap H locs) (hA : ∀ q : Nat, s.heap.size ≤ q → A q) (hl : lv_has ls 4 [(0, .ref b), (1, .ref hO), (2, .ref hM), (3, .int (nI i))]) (kk : ∀ (w2 : va_W) (H1 : Heap) (locs1 : List Loc), J w2 → va_P D vwCl w2 H1 → va_D A w2 → va_S A s.heap H1 locs1 → W p l e room_1 s m args below meth c H1 locs1 (cells + 14) (slots + 42) Q (F0 m 1183 ls [])) : W p l e room_1 s m args below meth c H locs cells slots Q (F0 m 1147 ls []) := by
  refine lv_aload_n hx hb dL_law_1147 rfl (lv_at hl 1 rfl) ?_
  refine k_cki (ci := 10) (n := 0) (As := []) (rest := []) ⟨hx, hb, hml, hown, hts⟩ hN hK gL_law_X10_fault rfl (by decide +kernel) rfl rfl (by decide) ⟨Nat.le_of_ble_eq_true rfl, Nat.le_of_ble_eq_true rfl⟩ ⟨show cells + 7 ≤ 600000 by omega, show slots + 21 ≤ 7302250 by omega⟩ hk rfl hl.1 rfl (Nat.le_of_ble_eq_true rfl) dL_law_1148 hP hD hS hA (fun r1 w1 H1 locs1 hq1 hP hD hS => ?_)
  refine lv_aload_n hx hb dL_law_1151 rfl (lv_at hl 2 rfl) ?_
  refine k_cki (ci := 11) (n := 0) (As := []) (rest := [.int r1]) ⟨hx, hb, hml, hown, hts⟩ hN hK gL_law_X11_fault rfl (by decide +kernel) rfl rfl (by decide) ⟨Nat.le_of_ble_eq_true rfl, Nat.le_of_ble_eq_true rfl⟩ ⟨show cells + 7 + 7 ≤ 600000 by omega, show slots + 21 + 21 ≤ 7302250 by omega⟩ hq1 rfl hl.1 rfl (Nat.le_of_ble_eq_true rfl) dL_law_1152 hP hD hS hA (fun r2 w2 H2 locs2 hq2 hP hD hS => ?_)
  refine lv_icmp_eq (tgt := 1183) hx hb dL_law_1155 (by decide) (fun _ => ?_) (fun c9 => absurd hq2.1.symm c9)
  exact kk w2 H2 locs2 hq2.2 hP hD hS
set_option maxHeartbeats 4000000 in
set_option maxRecDepth 100000 in
theorem blk_many (hx : p.tables.exec = Jvm.exec) (hb : c.code = cL_law) (hml : c.maxLocals = 4) (hown : s.vm.findClass RL = some m.cls) (hts : ∀ w ∈ wsL_law, w.before args s = true) (hX : va_X b L xs s s.heap) (hbl : b < s.heap.size) (hbA : ¬ A b) (hN : kN s) (hK : va_K D vwCl (kT cI cZ cS cP) s) (hL : L ≤ 384) (hi : i + 6 ≤ L) (hfit : cells + 14 ≤ 600000 ∧ slots + 42 ≤ 7302250) (hk : CkI l yX10_many wsX10_many D (kT cI cZ cS cP) hO 10 [.int (xs (i + 1))] w0 (fun r w1 => CkI l yX11_many wsX11_many D (kT cI cZ cS cP) hM 11 [.int (xs (i + 1))] w1 (fun r2 w2 => r2 = r ∧ J w2))) (hP : va_P D vwCl w0 H) (hD : va_D A w0) (hS : va_S A s.heap H locs) (hA : ∀ q : Nat, s.heap.size ≤ q → A q) (hl : lv_has ls 4 [(0, .ref b), (1, .ref hO), (2, .ref hM), (3, .int (nI i))]) (kk : ∀ (w2 : va_W) (H1 : Heap) (locs1 : List Loc), J w2 → va_P D vwCl w2 H1 → va_D A w2 → va_S A s.heap H1 locs1 → W p l e room_1 s m args below meth c H1 locs1 (cells + 14) (slots + 42) Q (F0 m 1183 ls [])) : W p l e room_1 s m args below meth c H locs cells slots Q (F0 m 1160 ls []) := by
  refine lv_aload_n hx hb dL_law_1160 rfl (lv_at hl 1 rfl) ?_
  refine lv_aload_n hx hb dL_law_1161 rfl (lv_at hl 0 rfl) ?_
  refine lv_iload_n hx hb dL_law_1162 rfl (lv_at hl 3 rfl) ?_
  refine lv_iconst (v := nI 1) hx hb dL_law_1163 (by decide) ?_
  refine lv_iadd hx hb dL_law_1164 ?_
  refine k_eqi (nI_add i 1) ?_
  refine va_sld hx hb hX hbl hbA hS (vp_in_nI (show i + 1 < L by omega) (by omega)) dL_law_1165 ?_
  refine k_eqi (show xs (nI (i + 1)).toNatClampNeg = xs (i + 1) by rw [nI_clamp (by omega)]) ?_
  refine k_cki (ci := 10) (n := 1) (As := [.int (xs (i + 1))]) (rest := []) ⟨hx, hb, hml, hown, hts⟩ hN hK gL_law_X10_many rfl (by decide +kernel) rfl rfl (by decide) ⟨Nat.le_of_ble_eq_true rfl, Nat.le_of_ble_eq_true rfl⟩ ⟨show cells + 7 ≤ 600000 by omega, show slots + 21 ≤ 7302250 by omega⟩ hk rfl hl.1 rfl (Nat.le_of_ble_eq_true rfl) dL_law_1166 hP hD hS hA (fun r1 w1 H1 locs1 hq1 hP hD hS => ?_)
  refine lv_aload_n hx hb dL_law_1169 rfl (lv_at hl 2 rfl) ?_
  refine lv_aload_n hx hb dL_law_1170 rfl (lv_at hl 0 rfl) ?_
  refine lv_iload_n hx hb dL_law_1171 rfl (lv_at hl 3 rfl) ?_
  refine lv_iconst (v := nI 1) hx hb dL_law_1172 (by decide) ?_
  refine lv_iadd hx hb dL_law_1173 ?_
  refine k_eqi (nI_add i 1) ?_
  refine va_sld hx hb hX hbl hbA hS (vp_in_nI (show i + 1 < L by omega) (by omega)) dL_law_1174 ?_
  refine k_eqi (show xs (nI (i + 1)).toNatClampNeg = xs (i + 1) by rw [nI_clamp (by omega)]) ?_
  refine k_cki (ci := 11) (n := 1) (As := [.int (xs (i + 1))]) (rest := [.int r1]) ⟨hx, hb, hml, hown, hts⟩ hN hK gL_law_X11_many rfl (by decide +kernel) rfl rfl (by decide) ⟨Nat.le_of_ble_eq_true rfl, Nat.le_of_ble_eq_true rfl⟩ ⟨show cells + 7 + 7 ≤ 600000 by omega, show slots + 21 + 21 ≤ 7302250 by omega⟩ hq1 rfl hl.1 rfl (Nat.le_of_ble_eq_true rfl) dL_law_1175 hP hD hS hA (fun r2 w2 H2 locs2 hq2 hP hD hS => ?_)
  refine lv_icmp_eq (tgt := 1183) hx hb dL_law_1178 (by decide) (fun _ => ?_) (fun c9 => absurd hq2.1.symm c9)
  exact kk w2 H2 locs2 hq2.2 hP hD hS
end BLK
