set_option maxRecDepth 100000 in
theorem op_word {l : Launch} {D : va_G} {ad : Nat → Nat} {cI cZ cS cP : ClassId} : Op_word l D cI cZ cS cP (ad 0) (ad 36) (Inv ad cI cZ cS cP) := by
  intro w0 hJ a1 a2
  refine hJ (fun w0 => CkI l yX10_word wsX10_word D (kT cI cZ cS cP) (ad 0) 10 [.int a1, .int a2] w0 (fun r w1 => CkI l yX11_word wsX11_word D (kT cI cZ cS cP) (ad 36) 11 [.int a1, .int a2] w1 (fun r2 w2 => r2 = r ∧ Inv ad cI cZ cS cP w2))) ?_
  intro vpg vem vdr vn vxp vxd vxo vxh vnw vnh vB vsd vrc vyp vyd vyh vnr vt1 vt2 vt3 vt4 vtn vtm vtb vzd vzr vfl vln vsz vsf vt vft vra vrn vkd vlo ver vqk vql vqe vwp vwd vho vhh vso vrp vrd vrh vss vsl vsc vhs pa h_em h_dr h_xp h_xd h_xo h_xh h_sd h_rc h_yp h_yd h_yh h_t1 h_t2 h_t3 h_t4 h_zd h_zr h_fl h_ln h_kd h_lo h_er h_qk h_ql h_qe h_wp h_wd h_ho h_hh h_so h_rp h_rd h_rh h_sl h_n h_nw h_nh h_B h_nr h_sz h_s7 r_P r_W r_H r_R r_S r_G
  have h_B1 := B128 h_n h_B
  by_cases c1 : inR a1 vn
  · obtain ⟨x, hx, rfl⟩ := inR_nat c1
    by_cases c2 : inR a2 40
    · obtain ⟨y, hy, rfl⟩ := inR_nat c2
      by_cases c3 : vnw = 6
      · skip
        refine CkI.mono (pkC_word_full (hn := h_n) (hx1 := (by first | assumption | omega)) (hy1 := (by first | assumption | omega)) (hnw := (by first | assumption | omega))) (fun r w1 h1 => ?_)
        obtain ⟨rfl, rfl⟩ := h1
        refine CkI.mono (pkM_word_full (hn := h_n) (ha := (by first | assumption | omega)) (hd := (by first | assumption | omega)) (hw6 := (by first | assumption | omega))) (fun r2 w2 h2 => ?_)
        obtain ⟨h2, rfl⟩ := h2
        exact ⟨h2.trans (rfl), inv_mk (h_em := h_em) (h_dr := h_dr) (h_xp := h_xp) (h_xd := h_xd) (h_xo := h_xo) (h_xh := h_xh) (h_sd := h_sd) (h_rc := h_rc) (h_yp := h_yp) (h_yd := h_yd) (h_yh := h_yh) (h_t1 := h_t1) (h_t2 := h_t2) (h_t3 := h_t3) (h_t4 := h_t4) (h_zd := h_zd) (h_zr := h_zr) (h_fl := h_fl) (h_ln := h_ln) (h_kd := h_kd) (h_lo := h_lo) (h_er := h_er) (h_qk := h_qk) (h_ql := h_ql) (h_qe := h_qe) (h_wp := h_wp) (h_wd := h_wd) (h_ho := h_ho) (h_hh := h_hh) (h_so := h_so) (h_rp := h_rp) (h_rd := h_rd) (h_rh := h_rh) (h_sl := h_sl) (h_n := h_n) (h_nw := h_nw) (h_nh := h_nh) (h_B := h_B) (h_nr := h_nr) (h_sz := h_sz) (h_s7 := h_s7) (r_P := r_P) (r_W := r_W) (r_H := r_H) (r_R := r_R) (r_S := r_S) (r_G := r_G)⟩
      · have c4 : vnw < 6 := by omega
        refine CkI.mono (pkC_word_ok (hn := h_n) (hwp := h_xp) (hwd := h_xd) (hho := h_xo) (hhh := h_xh) (hx1 := (by first | assumption | omega)) (hy1 := (by first | assumption | omega)) (hnw := (by first | assumption | omega))) (fun r w1 h1 => ?_)
        obtain ⟨rfl, rfl⟩ := h1
        refine CkI.mono (pkM_word_ok (hn := h_n) (hwp := h_wp) (hwd := h_wd) (ha := (by first | assumption | omega)) (hd := (by first | assumption | omega)) (hw6 := (by first | assumption | omega))) (fun r2 w2 h2 => ?_)
        obtain ⟨h2, rfl⟩ := h2
        exact ⟨h2.trans (rfl), inv_mk (h_em := h_em) (h_dr := h_dr) (h_xp := (up_lt h_xp (by omega))) (h_xd := (up_lt h_xd hy)) (h_xo := h_xo) (h_xh := h_xh) (h_sd := h_sd) (h_rc := h_rc) (h_yp := h_yp) (h_yd := h_yd) (h_yh := h_yh) (h_t1 := h_t1) (h_t2 := h_t2) (h_t3 := h_t3) (h_t4 := h_t4) (h_zd := h_zd) (h_zr := h_zr) (h_fl := h_fl) (h_ln := h_ln) (h_kd := h_kd) (h_lo := h_lo) (h_er := h_er) (h_qk := h_qk) (h_ql := h_ql) (h_qe := h_qe) (h_wp := (up_lt h_wp (by omega))) (h_wd := (up_lt h_wd hy)) (h_ho := h_ho) (h_hh := h_hh) (h_so := h_so) (h_rp := h_rp) (h_rd := h_rd) (h_rh := h_rh) (h_sl := h_sl) (h_n := h_n) (h_nw := (by omega)) (h_nh := h_nh) (h_B := h_B) (h_nr := h_nr) (h_sz := h_sz) (h_s7 := h_s7) (r_P := r_P) (r_W := (relW_up r_W hx)) (r_H := r_H) (r_R := r_R) (r_S := r_S) (r_G := r_G)⟩
    · skip
      refine CkI.mono (pkC_word_day (a1 := 0) (a2 := 0) (a3 := 0) (a4 := 0) (hn := h_n) (hx1 := (by first | assumption | omega)) (hy1 := (by first | assumption | omega))) (fun r w1 h1 => ?_)
      obtain ⟨rfl, rfl⟩ := h1
      refine CkI.mono (pkM_word_o (hn := h_n) (ha := (by first | assumption | omega)) (hx1 := (by first | assumption | omega))) (fun r2 w2 h2 => ?_)
      obtain ⟨h2, rfl⟩ := h2
      exact ⟨h2.trans (rfl), inv_mk (h_em := h_em) (h_dr := h_dr) (h_xp := h_xp) (h_xd := h_xd) (h_xo := h_xo) (h_xh := h_xh) (h_sd := h_sd) (h_rc := h_rc) (h_yp := h_yp) (h_yd := h_yd) (h_yh := h_yh) (h_t1 := h_t1) (h_t2 := h_t2) (h_t3 := h_t3) (h_t4 := h_t4) (h_zd := h_zd) (h_zr := h_zr) (h_fl := h_fl) (h_ln := h_ln) (h_kd := h_kd) (h_lo := h_lo) (h_er := h_er) (h_qk := h_qk) (h_ql := h_ql) (h_qe := h_qe) (h_wp := h_wp) (h_wd := h_wd) (h_ho := h_ho) (h_hh := h_hh) (h_so := h_so) (h_rp := h_rp) (h_rd := h_rd) (h_rh := h_rh) (h_sl := h_sl) (h_n := h_n) (h_nw := h_nw) (h_nh := h_nh) (h_B := h_B) (h_nr := h_nr) (h_sz := h_sz) (h_s7 := h_s7) (r_P := r_P) (r_W := r_W) (r_H := r_H) (r_R := r_R) (r_S := r_S) (r_G := r_G)⟩
  · skip
    refine CkI.mono (pkC_word_bad (a1 := 0) (a2 := 0) (a3 := 0) (a4 := 0) (hn := h_n) (hx1 := (by first | assumption | omega))) (fun r w1 h1 => ?_)
    obtain ⟨rfl, rfl⟩ := h1
    refine CkI.mono (pkM_word_u (hn := h_n) (hx1 := (by first | assumption | omega))) (fun r2 w2 h2 => ?_)
    obtain ⟨h2, rfl⟩ := h2
    exact ⟨h2.trans (rfl), inv_mk (h_em := h_em) (h_dr := h_dr) (h_xp := h_xp) (h_xd := h_xd) (h_xo := h_xo) (h_xh := h_xh) (h_sd := h_sd) (h_rc := h_rc) (h_yp := h_yp) (h_yd := h_yd) (h_yh := h_yh) (h_t1 := h_t1) (h_t2 := h_t2) (h_t3 := h_t3) (h_t4 := h_t4) (h_zd := h_zd) (h_zr := h_zr) (h_fl := h_fl) (h_ln := h_ln) (h_kd := h_kd) (h_lo := h_lo) (h_er := h_er) (h_qk := h_qk) (h_ql := h_ql) (h_qe := h_qe) (h_wp := h_wp) (h_wd := h_wd) (h_ho := h_ho) (h_hh := h_hh) (h_so := h_so) (h_rp := h_rp) (h_rd := h_rd) (h_rh := h_rh) (h_sl := h_sl) (h_n := h_n) (h_nw := h_nw) (h_nh := h_nh) (h_B := h_B) (h_nr := h_nr) (h_sz := h_sz) (h_s7 := h_s7) (r_P := r_P) (r_W := r_W) (r_H := r_H) (r_R := r_R) (r_S := r_S) (r_G := r_G)⟩
set_option maxRecDepth 100000 in
theorem op_unsay {l : Launch} {D : va_G} {ad : Nat → Nat} {cI cZ cS cP : ClassId} : Op_unsay l D cI cZ cS cP (ad 0) (ad 36) (Inv ad cI cZ cS cP) := by
  intro w0 hJ a1
  refine hJ (fun w0 => CkI l yX10_unsay wsX10_unsay D (kT cI cZ cS cP) (ad 0) 10 [.int a1] w0 (fun r w1 => CkI l yX11_unsay wsX11_unsay D (kT cI cZ cS cP) (ad 36) 11 [.int a1] w1 (fun r2 w2 => r2 = r ∧ Inv ad cI cZ cS cP w2))) ?_
  intro vpg vem vdr vn vxp vxd vxo vxh vnw vnh vB vsd vrc vyp vyd vyh vnr vt1 vt2 vt3 vt4 vtn vtm vtb vzd vzr vfl vln vsz vsf vt vft vra vrn vkd vlo ver vqk vql vqe vwp vwd vho vhh vso vrp vrd vrh vss vsl vsc vhs pa h_em h_dr h_xp h_xd h_xo h_xh h_sd h_rc h_yp h_yd h_yh h_t1 h_t2 h_t3 h_t4 h_zd h_zr h_fl h_ln h_kd h_lo h_er h_qk h_ql h_qe h_wp h_wd h_ho h_hh h_so h_rp h_rd h_rh h_sl h_n h_nw h_nh h_B h_nr h_sz h_s7 r_P r_W r_H r_R r_S r_G
  have h_B1 := B128 h_n h_B
  by_cases c1 : inR a1 (vnw + 1)
  · obtain ⟨k, hk, rfl⟩ := inR_nat c1
    refine CkI.mono (pkC_unsay_ok (hnw := (by first | assumption | omega)) (hk1 := (by first | assumption | omega))) (fun r w1 h1 => ?_)
    obtain ⟨rfl, rfl⟩ := h1
    refine CkI.mono (pkM_unsay_ok (hh0 := (by first | assumption | omega)) (hk1 := (by first | assumption | omega))) (fun r2 w2 h2 => ?_)
    obtain ⟨h2, rfl⟩ := h2
    exact ⟨h2.trans (rfl), inv_mk (h_em := h_em) (h_dr := h_dr) (h_xp := h_xp) (h_xd := h_xd) (h_xo := h_xo) (h_xh := h_xh) (h_sd := h_sd) (h_rc := h_rc) (h_yp := h_yp) (h_yd := h_yd) (h_yh := h_yh) (h_t1 := h_t1) (h_t2 := h_t2) (h_t3 := h_t3) (h_t4 := h_t4) (h_zd := h_zd) (h_zr := h_zr) (h_fl := h_fl) (h_ln := h_ln) (h_kd := h_kd) (h_lo := h_lo) (h_er := h_er) (h_qk := h_qk) (h_ql := h_ql) (h_qe := h_qe) (h_wp := h_wp) (h_wd := h_wd) (h_ho := h_ho) (h_hh := h_hh) (h_so := h_so) (h_rp := h_rp) (h_rd := h_rd) (h_rh := h_rh) (h_sl := h_sl) (h_n := h_n) (h_nw := (by omega)) (h_nh := h_nh) (h_B := h_B) (h_nr := h_nr) (h_sz := h_sz) (h_s7 := h_s7) (r_P := r_P) (r_W := (relW_drop r_W (Nat.sub_le _ _))) (r_H := r_H) (r_R := r_R) (r_S := r_S) (r_G := r_G)⟩
  · skip
    refine CkI.mono (pkC_unsay_bad (hnw := (by first | assumption | omega)) (hx1 := (by first | assumption | omega))) (fun r w1 h1 => ?_)
    obtain ⟨rfl, rfl⟩ := h1
    refine CkI.mono (pkM_unsay_o (hh0 := (by first | assumption | omega)) (hx1 := (by first | assumption | omega))) (fun r2 w2 h2 => ?_)
    obtain ⟨h2, rfl⟩ := h2
    exact ⟨h2.trans (rfl), inv_mk (h_em := h_em) (h_dr := h_dr) (h_xp := h_xp) (h_xd := h_xd) (h_xo := h_xo) (h_xh := h_xh) (h_sd := h_sd) (h_rc := h_rc) (h_yp := h_yp) (h_yd := h_yd) (h_yh := h_yh) (h_t1 := h_t1) (h_t2 := h_t2) (h_t3 := h_t3) (h_t4 := h_t4) (h_zd := h_zd) (h_zr := h_zr) (h_fl := h_fl) (h_ln := h_ln) (h_kd := h_kd) (h_lo := h_lo) (h_er := h_er) (h_qk := h_qk) (h_ql := h_ql) (h_qe := h_qe) (h_wp := h_wp) (h_wd := h_wd) (h_ho := h_ho) (h_hh := h_hh) (h_so := h_so) (h_rp := h_rp) (h_rd := h_rd) (h_rh := h_rh) (h_sl := h_sl) (h_n := h_n) (h_nw := h_nw) (h_nh := h_nh) (h_B := h_B) (h_nr := h_nr) (h_sz := h_sz) (h_s7 := h_s7) (r_P := r_P) (r_W := r_W) (r_H := r_H) (r_R := r_R) (r_S := r_S) (r_G := r_G)⟩
set_option maxRecDepth 100000 in
theorem op_forget {l : Launch} {D : va_G} {ad : Nat → Nat} {cI cZ cS cP : ClassId} : Op_forget l D cI cZ cS cP (ad 0) (ad 36) (Inv ad cI cZ cS cP) := by
  intro w0 hJ a1
  refine hJ (fun w0 => CkI l yX10_forget wsX10_forget D (kT cI cZ cS cP) (ad 0) 10 [.int a1] w0 (fun r w1 => CkI l yX11_forget wsX11_forget D (kT cI cZ cS cP) (ad 36) 11 [.int a1] w1 (fun r2 w2 => r2 = r ∧ Inv ad cI cZ cS cP w2))) ?_
  intro vpg vem vdr vn vxp vxd vxo vxh vnw vnh vB vsd vrc vyp vyd vyh vnr vt1 vt2 vt3 vt4 vtn vtm vtb vzd vzr vfl vln vsz vsf vt vft vra vrn vkd vlo ver vqk vql vqe vwp vwd vho vhh vso vrp vrd vrh vss vsl vsc vhs pa h_em h_dr h_xp h_xd h_xo h_xh h_sd h_rc h_yp h_yd h_yh h_t1 h_t2 h_t3 h_t4 h_zd h_zr h_fl h_ln h_kd h_lo h_er h_qk h_ql h_qe h_wp h_wd h_ho h_hh h_so h_rp h_rd h_rh h_sl h_n h_nw h_nh h_B h_nr h_sz h_s7 r_P r_W r_H r_R r_S r_G
  have h_B1 := B128 h_n h_B
  by_cases c1 : inR a1 (vnh + 1)
  · obtain ⟨k, hk, rfl⟩ := inR_nat c1
    refine CkI.mono (pkC_forget_ok (hnh := (by first | assumption | omega)) (hk1 := (by first | assumption | omega))) (fun r w1 h1 => ?_)
    obtain ⟨rfl, rfl⟩ := h1
    refine CkI.mono (pkM_forget_ok (hh0 := (by first | assumption | omega)) (hk1 := (by first | assumption | omega))) (fun r2 w2 h2 => ?_)
    obtain ⟨h2, rfl⟩ := h2
    exact ⟨h2.trans (rfl), inv_mk (h_em := h_em) (h_dr := h_dr) (h_xp := h_xp) (h_xd := h_xd) (h_xo := h_xo) (h_xh := h_xh) (h_sd := h_sd) (h_rc := h_rc) (h_yp := h_yp) (h_yd := h_yd) (h_yh := h_yh) (h_t1 := h_t1) (h_t2 := h_t2) (h_t3 := h_t3) (h_t4 := h_t4) (h_zd := h_zd) (h_zr := h_zr) (h_fl := h_fl) (h_ln := h_ln) (h_kd := h_kd) (h_lo := h_lo) (h_er := h_er) (h_qk := h_qk) (h_ql := h_ql) (h_qe := h_qe) (h_wp := h_wp) (h_wd := h_wd) (h_ho := h_ho) (h_hh := h_hh) (h_so := h_so) (h_rp := h_rp) (h_rd := h_rd) (h_rh := h_rh) (h_sl := h_sl) (h_n := h_n) (h_nw := h_nw) (h_nh := (by omega)) (h_B := h_B) (h_nr := h_nr) (h_sz := h_sz) (h_s7 := h_s7) (r_P := r_P) (r_W := r_W) (r_H := (relH_drop r_H (Nat.sub_le _ _))) (r_R := r_R) (r_S := r_S) (r_G := r_G)⟩
  · skip
    refine CkI.mono (pkC_forget_bad (hnh := (by first | assumption | omega)) (hx1 := (by first | assumption | omega))) (fun r w1 h1 => ?_)
    obtain ⟨rfl, rfl⟩ := h1
    refine CkI.mono (pkM_forget_o (hh0 := (by first | assumption | omega)) (hx1 := (by first | assumption | omega))) (fun r2 w2 h2 => ?_)
    obtain ⟨h2, rfl⟩ := h2
    exact ⟨h2.trans (rfl), inv_mk (h_em := h_em) (h_dr := h_dr) (h_xp := h_xp) (h_xd := h_xd) (h_xo := h_xo) (h_xh := h_xh) (h_sd := h_sd) (h_rc := h_rc) (h_yp := h_yp) (h_yd := h_yd) (h_yh := h_yh) (h_t1 := h_t1) (h_t2 := h_t2) (h_t3 := h_t3) (h_t4 := h_t4) (h_zd := h_zd) (h_zr := h_zr) (h_fl := h_fl) (h_ln := h_ln) (h_kd := h_kd) (h_lo := h_lo) (h_er := h_er) (h_qk := h_qk) (h_ql := h_ql) (h_qe := h_qe) (h_wp := h_wp) (h_wd := h_wd) (h_ho := h_ho) (h_hh := h_hh) (h_so := h_so) (h_rp := h_rp) (h_rd := h_rd) (h_rh := h_rh) (h_sl := h_sl) (h_n := h_n) (h_nw := h_nw) (h_nh := h_nh) (h_B := h_B) (h_nr := h_nr) (h_sz := h_sz) (h_s7 := h_s7) (r_P := r_P) (r_W := r_W) (r_H := r_H) (r_R := r_R) (r_S := r_S) (r_G := r_G)⟩
set_option maxRecDepth 100000 in
theorem op_back {l : Launch} {D : va_G} {ad : Nat → Nat} {cI cZ cS cP : ClassId} : Op_back l D cI cZ cS cP (ad 0) (ad 36) (Inv ad cI cZ cS cP) := by
  intro w0 hJ a1
  refine hJ (fun w0 => CkI l yX10_back wsX10_back D (kT cI cZ cS cP) (ad 0) 10 [.int a1] w0 (fun r w1 => CkI l yX11_back wsX11_back D (kT cI cZ cS cP) (ad 36) 11 [.int a1] w1 (fun r2 w2 => r2 = r ∧ Inv ad cI cZ cS cP w2))) ?_
  intro vpg vem vdr vn vxp vxd vxo vxh vnw vnh vB vsd vrc vyp vyd vyh vnr vt1 vt2 vt3 vt4 vtn vtm vtb vzd vzr vfl vln vsz vsf vt vft vra vrn vkd vlo ver vqk vql vqe vwp vwd vho vhh vso vrp vrd vrh vss vsl vsc vhs pa h_em h_dr h_xp h_xd h_xo h_xh h_sd h_rc h_yp h_yd h_yh h_t1 h_t2 h_t3 h_t4 h_zd h_zr h_fl h_ln h_kd h_lo h_er h_qk h_ql h_qe h_wp h_wd h_ho h_hh h_so h_rp h_rd h_rh h_sl h_n h_nw h_nh h_B h_nr h_sz h_s7 r_P r_W r_H r_R r_S r_G
  have h_B1 := B128 h_n h_B
  by_cases c1 : inR a1 (vnr + 1)
  · obtain ⟨k, hk, rfl⟩ := inR_nat c1
    refine CkI.mono (pkC_back_ok (hnr := (by first | assumption | omega)) (hk1 := (by first | assumption | omega))) (fun r w1 h1 => ?_)
    obtain ⟨rfl, rfl⟩ := h1
    refine CkI.mono (pkM_back_ok (hh0 := (by first | assumption | omega)) (hk1 := (by first | assumption | omega))) (fun r2 w2 h2 => ?_)
    obtain ⟨h2, rfl⟩ := h2
    exact ⟨h2.trans (rfl), inv_mk (h_em := h_em) (h_dr := h_dr) (h_xp := h_xp) (h_xd := h_xd) (h_xo := h_xo) (h_xh := h_xh) (h_sd := h_sd) (h_rc := h_rc) (h_yp := h_yp) (h_yd := h_yd) (h_yh := h_yh) (h_t1 := h_t1) (h_t2 := h_t2) (h_t3 := h_t3) (h_t4 := h_t4) (h_zd := h_zd) (h_zr := h_zr) (h_fl := h_fl) (h_ln := h_ln) (h_kd := h_kd) (h_lo := h_lo) (h_er := h_er) (h_qk := h_qk) (h_ql := h_ql) (h_qe := h_qe) (h_wp := h_wp) (h_wd := h_wd) (h_ho := h_ho) (h_hh := h_hh) (h_so := h_so) (h_rp := h_rp) (h_rd := h_rd) (h_rh := h_rh) (h_sl := h_sl) (h_n := h_n) (h_nw := h_nw) (h_nh := h_nh) (h_B := h_B) (h_nr := (by omega)) (h_sz := h_sz) (h_s7 := h_s7) (r_P := r_P) (r_W := r_W) (r_H := r_H) (r_R := (relR_drop r_R (Nat.sub_le _ _))) (r_S := r_S) (r_G := r_G)⟩
  · skip
    refine CkI.mono (pkC_back_bad (hnr := (by first | assumption | omega)) (hx1 := (by first | assumption | omega))) (fun r w1 h1 => ?_)
    obtain ⟨rfl, rfl⟩ := h1
    refine CkI.mono (pkM_back_o (hh0 := (by first | assumption | omega)) (hx1 := (by first | assumption | omega))) (fun r2 w2 h2 => ?_)
    obtain ⟨h2, rfl⟩ := h2
    exact ⟨h2.trans (rfl), inv_mk (h_em := h_em) (h_dr := h_dr) (h_xp := h_xp) (h_xd := h_xd) (h_xo := h_xo) (h_xh := h_xh) (h_sd := h_sd) (h_rc := h_rc) (h_yp := h_yp) (h_yd := h_yd) (h_yh := h_yh) (h_t1 := h_t1) (h_t2 := h_t2) (h_t3 := h_t3) (h_t4 := h_t4) (h_zd := h_zd) (h_zr := h_zr) (h_fl := h_fl) (h_ln := h_ln) (h_kd := h_kd) (h_lo := h_lo) (h_er := h_er) (h_qk := h_qk) (h_ql := h_ql) (h_qe := h_qe) (h_wp := h_wp) (h_wd := h_wd) (h_ho := h_ho) (h_hh := h_hh) (h_so := h_so) (h_rp := h_rp) (h_rd := h_rd) (h_rh := h_rh) (h_sl := h_sl) (h_n := h_n) (h_nw := h_nw) (h_nh := h_nh) (h_B := h_B) (h_nr := h_nr) (h_sz := h_sz) (h_s7 := h_s7) (r_P := r_P) (r_W := r_W) (r_H := r_H) (r_R := r_R) (r_S := r_S) (r_G := r_G)⟩
set_option maxRecDepth 100000 in
theorem op_bribe {l : Launch} {D : va_G} {ad : Nat → Nat} {cI cZ cS cP : ClassId} : Op_bribe l D cI cZ cS cP (ad 0) (ad 36) (Inv ad cI cZ cS cP) := by
  intro w0 hJ a1 z hz
  refine hJ (fun w0 => CkI l yX10_bribe wsX10_bribe D (kT cI cZ cS cP) (ad 0) 10 [.int a1, .int (nI z)] w0 (fun r w1 => CkI l yX11_bribe wsX11_bribe D (kT cI cZ cS cP) (ad 36) 11 [.int a1, .int (nI z)] w1 (fun r2 w2 => r2 = r ∧ Inv ad cI cZ cS cP w2))) ?_
  intro vpg vem vdr vn vxp vxd vxo vxh vnw vnh vB vsd vrc vyp vyd vyh vnr vt1 vt2 vt3 vt4 vtn vtm vtb vzd vzr vfl vln vsz vsf vt vft vra vrn vkd vlo ver vqk vql vqe vwp vwd vho vhh vso vrp vrd vrh vss vsl vsc vhs pa h_em h_dr h_xp h_xd h_xo h_xh h_sd h_rc h_yp h_yd h_yh h_t1 h_t2 h_t3 h_t4 h_zd h_zr h_fl h_ln h_kd h_lo h_er h_qk h_ql h_qe h_wp h_wd h_ho h_hh h_so h_rp h_rd h_rh h_sl h_n h_nw h_nh h_B h_nr h_sz h_s7 r_P r_W r_H r_R r_S r_G
  have h_B1 := B128 h_n h_B
  by_cases c1 : inR a1 vn
  · obtain ⟨x, hx, rfl⟩ := inR_nat c1
    rcases (show z = 0 ∨ z = 1 by omega) with rfl | rfl
    · by_cases c2 : vB.testBit x = true
      · skip
        refine CkI.mono (pkC_bribe_new (hn := h_n) (hB := h_B1) (hx1 := (by first | assumption | omega)) (hyy := (by decide)) (hy1 := (by rw [if_pos c2]; decide))) (fun r w1 h1 => ?_)
        obtain ⟨rfl, rfl⟩ := h1
        refine CkI.mono (pkM_bribe_k0 (hn := h_n) (ha := (by first | assumption | omega)) (hmb := h_B1)) (fun r2 w2 h2 => ?_)
        obtain ⟨h2, rfl⟩ := h2
        exact ⟨h2.trans (by rw [if_pos c2]; decide), (by rw [brm_x h_B1 c2]; exact inv_mk (h_em := h_em) (h_dr := h_dr) (h_xp := h_xp) (h_xd := h_xd) (h_xo := h_xo) (h_xh := h_xh) (h_sd := h_sd) (h_rc := h_rc) (h_yp := h_yp) (h_yd := h_yd) (h_yh := h_yh) (h_t1 := h_t1) (h_t2 := h_t2) (h_t3 := h_t3) (h_t4 := h_t4) (h_zd := h_zd) (h_zr := h_zr) (h_fl := h_fl) (h_ln := h_ln) (h_kd := h_kd) (h_lo := h_lo) (h_er := h_er) (h_qk := h_qk) (h_ql := h_ql) (h_qe := h_qe) (h_wp := h_wp) (h_wd := h_wd) (h_ho := h_ho) (h_hh := h_hh) (h_so := h_so) (h_rp := h_rp) (h_rd := h_rd) (h_rh := h_rh) (h_sl := h_sl) (h_n := h_n) (h_nw := h_nw) (h_nh := h_nh) (h_B := (bx_lt h_B hx)) (h_nr := h_nr) (h_sz := h_sz) (h_s7 := h_s7) (r_P := r_P) (r_W := r_W) (r_H := r_H) (r_R := r_R) (r_S := r_S) (r_G := r_G))⟩
      · skip
        refine CkI.mono (pkC_bribe_same (hn := h_n) (hB := h_B1) (hx1 := (by first | assumption | omega)) (hyy := (by decide)) (hy1 := (by rw [if_neg c2]))) (fun r w1 h1 => ?_)
        obtain ⟨rfl, rfl⟩ := h1
        refine CkI.mono (pkM_bribe_k0 (hn := h_n) (ha := (by first | assumption | omega)) (hmb := h_B1)) (fun r2 w2 h2 => ?_)
        obtain ⟨h2, rfl⟩ := h2
        exact ⟨h2.trans (by rw [if_neg c2]; decide), (by rw [brm_n h_B1 c2]; exact inv_mk (h_em := h_em) (h_dr := h_dr) (h_xp := h_xp) (h_xd := h_xd) (h_xo := h_xo) (h_xh := h_xh) (h_sd := h_sd) (h_rc := h_rc) (h_yp := h_yp) (h_yd := h_yd) (h_yh := h_yh) (h_t1 := h_t1) (h_t2 := h_t2) (h_t3 := h_t3) (h_t4 := h_t4) (h_zd := h_zd) (h_zr := h_zr) (h_fl := h_fl) (h_ln := h_ln) (h_kd := h_kd) (h_lo := h_lo) (h_er := h_er) (h_qk := h_qk) (h_ql := h_ql) (h_qe := h_qe) (h_wp := h_wp) (h_wd := h_wd) (h_ho := h_ho) (h_hh := h_hh) (h_so := h_so) (h_rp := h_rp) (h_rd := h_rd) (h_rh := h_rh) (h_sl := h_sl) (h_n := h_n) (h_nw := h_nw) (h_nh := h_nh) (h_B := h_B) (h_nr := h_nr) (h_sz := h_sz) (h_s7 := h_s7) (r_P := r_P) (r_W := r_W) (r_H := r_H) (r_R := r_R) (r_S := r_S) (r_G := r_G))⟩
    · by_cases c2 : vB.testBit x = true
      · skip
        refine CkI.mono (pkC_bribe_same (hn := h_n) (hB := h_B1) (hx1 := (by first | assumption | omega)) (hyy := (by decide)) (hy1 := (by rw [if_pos c2]))) (fun r w1 h1 => ?_)
        obtain ⟨rfl, rfl⟩ := h1
        refine CkI.mono (pkM_bribe_k1 (hn := h_n) (ha := (by first | assumption | omega)) (hmb := h_B1)) (fun r2 w2 h2 => ?_)
        obtain ⟨h2, rfl⟩ := h2
        exact ⟨h2.trans (by rw [if_pos c2]; decide), (by rw [bx_in c2]; exact inv_mk (h_em := h_em) (h_dr := h_dr) (h_xp := h_xp) (h_xd := h_xd) (h_xo := h_xo) (h_xh := h_xh) (h_sd := h_sd) (h_rc := h_rc) (h_yp := h_yp) (h_yd := h_yd) (h_yh := h_yh) (h_t1 := h_t1) (h_t2 := h_t2) (h_t3 := h_t3) (h_t4 := h_t4) (h_zd := h_zd) (h_zr := h_zr) (h_fl := h_fl) (h_ln := h_ln) (h_kd := h_kd) (h_lo := h_lo) (h_er := h_er) (h_qk := h_qk) (h_ql := h_ql) (h_qe := h_qe) (h_wp := h_wp) (h_wd := h_wd) (h_ho := h_ho) (h_hh := h_hh) (h_so := h_so) (h_rp := h_rp) (h_rd := h_rd) (h_rh := h_rh) (h_sl := h_sl) (h_n := h_n) (h_nw := h_nw) (h_nh := h_nh) (h_B := h_B) (h_nr := h_nr) (h_sz := h_sz) (h_s7 := h_s7) (r_P := r_P) (r_W := r_W) (r_H := r_H) (r_R := r_R) (r_S := r_S) (r_G := r_G))⟩
      · skip
        refine CkI.mono (pkC_bribe_new (hn := h_n) (hB := h_B1) (hx1 := (by first | assumption | omega)) (hyy := (by decide)) (hy1 := (by rw [if_neg c2]; decide))) (fun r w1 h1 => ?_)
        obtain ⟨rfl, rfl⟩ := h1
        refine CkI.mono (pkM_bribe_k1 (hn := h_n) (ha := (by first | assumption | omega)) (hmb := h_B1)) (fun r2 w2 h2 => ?_)
        obtain ⟨h2, rfl⟩ := h2
        exact ⟨h2.trans (by rw [if_neg c2]; decide), (by rw [bx_or c2]; exact inv_mk (h_em := h_em) (h_dr := h_dr) (h_xp := h_xp) (h_xd := h_xd) (h_xo := h_xo) (h_xh := h_xh) (h_sd := h_sd) (h_rc := h_rc) (h_yp := h_yp) (h_yd := h_yd) (h_yh := h_yh) (h_t1 := h_t1) (h_t2 := h_t2) (h_t3 := h_t3) (h_t4 := h_t4) (h_zd := h_zd) (h_zr := h_zr) (h_fl := h_fl) (h_ln := h_ln) (h_kd := h_kd) (h_lo := h_lo) (h_er := h_er) (h_qk := h_qk) (h_ql := h_ql) (h_qe := h_qe) (h_wp := h_wp) (h_wd := h_wd) (h_ho := h_ho) (h_hh := h_hh) (h_so := h_so) (h_rp := h_rp) (h_rd := h_rd) (h_rh := h_rh) (h_sl := h_sl) (h_n := h_n) (h_nw := h_nw) (h_nh := h_nh) (h_B := (bx_lt h_B hx)) (h_nr := h_nr) (h_sz := h_sz) (h_s7 := h_s7) (r_P := r_P) (r_W := r_W) (r_H := r_H) (r_R := r_R) (r_S := r_S) (r_G := r_G))⟩
  · skip
    refine CkI.mono (pkC_bribe_bad (a1 := 0) (a2 := 0) (a3 := 0) (a4 := 0) (hn := h_n) (hx1 := (by first | assumption | omega))) (fun r w1 h1 => ?_)
    obtain ⟨rfl, rfl⟩ := h1
    refine CkI.mono (pkM_bribe_u (hn := h_n) (hx1 := (by first | assumption | omega))) (fun r2 w2 h2 => ?_)
    obtain ⟨h2, rfl⟩ := h2
    exact ⟨h2.trans (rfl), inv_mk (h_em := h_em) (h_dr := h_dr) (h_xp := h_xp) (h_xd := h_xd) (h_xo := h_xo) (h_xh := h_xh) (h_sd := h_sd) (h_rc := h_rc) (h_yp := h_yp) (h_yd := h_yd) (h_yh := h_yh) (h_t1 := h_t1) (h_t2 := h_t2) (h_t3 := h_t3) (h_t4 := h_t4) (h_zd := h_zd) (h_zr := h_zr) (h_fl := h_fl) (h_ln := h_ln) (h_kd := h_kd) (h_lo := h_lo) (h_er := h_er) (h_qk := h_qk) (h_ql := h_ql) (h_qe := h_qe) (h_wp := h_wp) (h_wd := h_wd) (h_ho := h_ho) (h_hh := h_hh) (h_so := h_so) (h_rp := h_rp) (h_rd := h_rd) (h_rh := h_rh) (h_sl := h_sl) (h_n := h_n) (h_nw := h_nw) (h_nh := h_nh) (h_B := h_B) (h_nr := h_nr) (h_sz := h_sz) (h_s7 := h_s7) (r_P := r_P) (r_W := r_W) (r_H := r_H) (r_R := r_R) (r_S := r_S) (r_G := r_G)⟩
set_option maxRecDepth 100000 in
theorem op_whisper {l : Launch} {D : va_G} {ad : Nat → Nat} {cI cZ cS cP : ClassId} : Op_whisper l D cI cZ cS cP (ad 0) (ad 36) (Inv ad cI cZ cS cP) := by
  intro w0 hJ a1 a2
  refine hJ (fun w0 => CkI l yX10_whisper wsX10_whisper D (kT cI cZ cS cP) (ad 0) 10 [.int a1, .int a2] w0 (fun r w1 => CkI l yX11_whisper wsX11_whisper D (kT cI cZ cS cP) (ad 36) 11 [.int a1, .int a2] w1 (fun r2 w2 => r2 = r ∧ Inv ad cI cZ cS cP w2))) ?_
  intro vpg vem vdr vn vxp vxd vxo vxh vnw vnh vB vsd vrc vyp vyd vyh vnr vt1 vt2 vt3 vt4 vtn vtm vtb vzd vzr vfl vln vsz vsf vt vft vra vrn vkd vlo ver vqk vql vqe vwp vwd vho vhh vso vrp vrd vrh vss vsl vsc vhs pa h_em h_dr h_xp h_xd h_xo h_xh h_sd h_rc h_yp h_yd h_yh h_t1 h_t2 h_t3 h_t4 h_zd h_zr h_fl h_ln h_kd h_lo h_er h_qk h_ql h_qe h_wp h_wd h_ho h_hh h_so h_rp h_rd h_rh h_sl h_n h_nw h_nh h_B h_nr h_sz h_s7 r_P r_W r_H r_R r_S r_G
  have h_B1 := B128 h_n h_B
  by_cases c1 : inR a1 vn
  · obtain ⟨x, hx, rfl⟩ := inR_nat c1
    by_cases c2 : inR a2 vn
    · obtain ⟨y, hy, rfl⟩ := inR_nat c2
      by_cases c3 : x = y
      · subst c3
        refine CkI.mono (pkC_whisper_one (a1 := 0) (a2 := 0) (a3 := 0) (a4 := 0) (hn := h_n) (hx1 := (by first | assumption | omega))) (fun r w1 h1 => ?_)
        obtain ⟨rfl, rfl⟩ := h1
        refine CkI.mono (pkM_whisper_one (hn := h_n) (ha := (by first | assumption | omega))) (fun r2 w2 h2 => ?_)
        obtain ⟨h2, rfl⟩ := h2
        exact ⟨h2.trans (rfl), inv_mk (h_em := h_em) (h_dr := h_dr) (h_xp := h_xp) (h_xd := h_xd) (h_xo := h_xo) (h_xh := h_xh) (h_sd := h_sd) (h_rc := h_rc) (h_yp := h_yp) (h_yd := h_yd) (h_yh := h_yh) (h_t1 := h_t1) (h_t2 := h_t2) (h_t3 := h_t3) (h_t4 := h_t4) (h_zd := h_zd) (h_zr := h_zr) (h_fl := h_fl) (h_ln := h_ln) (h_kd := h_kd) (h_lo := h_lo) (h_er := h_er) (h_qk := h_qk) (h_ql := h_ql) (h_qe := h_qe) (h_wp := h_wp) (h_wd := h_wd) (h_ho := h_ho) (h_hh := h_hh) (h_so := h_so) (h_rp := h_rp) (h_rd := h_rd) (h_rh := h_rh) (h_sl := h_sl) (h_n := h_n) (h_nw := h_nw) (h_nh := h_nh) (h_B := h_B) (h_nr := h_nr) (h_sz := h_sz) (h_s7 := h_s7) (r_P := r_P) (r_W := r_W) (r_H := r_H) (r_R := r_R) (r_S := r_S) (r_G := r_G)⟩
      · by_cases c4 : vnh = 6
        · skip
          refine CkI.mono (pkC_whisper_full (hn := h_n) (hx1 := (by first | assumption | omega)) (hy1 := (by first | assumption | omega)) (hxy := (by first | assumption | omega)) (hnh := (by first | assumption | omega))) (fun r w1 h1 => ?_)
          obtain ⟨rfl, rfl⟩ := h1
          refine CkI.mono (pkM_whisper_full (hn := h_n) (ha := (by first | assumption | omega)) (hb1 := (by first | assumption | omega)) (hab := (by first | assumption | omega)) (hw6 := (by first | assumption | omega))) (fun r2 w2 h2 => ?_)
          obtain ⟨h2, rfl⟩ := h2
          exact ⟨h2.trans (rfl), inv_mk (h_em := h_em) (h_dr := h_dr) (h_xp := h_xp) (h_xd := h_xd) (h_xo := h_xo) (h_xh := h_xh) (h_sd := h_sd) (h_rc := h_rc) (h_yp := h_yp) (h_yd := h_yd) (h_yh := h_yh) (h_t1 := h_t1) (h_t2 := h_t2) (h_t3 := h_t3) (h_t4 := h_t4) (h_zd := h_zd) (h_zr := h_zr) (h_fl := h_fl) (h_ln := h_ln) (h_kd := h_kd) (h_lo := h_lo) (h_er := h_er) (h_qk := h_qk) (h_ql := h_ql) (h_qe := h_qe) (h_wp := h_wp) (h_wd := h_wd) (h_ho := h_ho) (h_hh := h_hh) (h_so := h_so) (h_rp := h_rp) (h_rd := h_rd) (h_rh := h_rh) (h_sl := h_sl) (h_n := h_n) (h_nw := h_nw) (h_nh := h_nh) (h_B := h_B) (h_nr := h_nr) (h_sz := h_sz) (h_s7 := h_s7) (r_P := r_P) (r_W := r_W) (r_H := r_H) (r_R := r_R) (r_S := r_S) (r_G := r_G)⟩
        · have c5 : vnh < 6 := by omega
          refine CkI.mono (pkC_whisper_ok (hn := h_n) (hwp := h_xp) (hwd := h_xd) (hho := h_xo) (hhh := h_xh) (hx1 := (by first | assumption | omega)) (hy1 := (by first | assumption | omega)) (hxy := (by first | assumption | omega)) (hnh := (by first | assumption | omega))) (fun r w1 h1 => ?_)
          obtain ⟨rfl, rfl⟩ := h1
          refine CkI.mono (pkM_whisper_ok (hn := h_n) (hho := h_ho) (hhh := h_hh) (ha := (by first | assumption | omega)) (hb1 := (by first | assumption | omega)) (hab := (by first | assumption | omega)) (hw6 := (by first | assumption | omega))) (fun r2 w2 h2 => ?_)
          obtain ⟨h2, rfl⟩ := h2
          exact ⟨h2.trans (rfl), inv_mk (h_em := h_em) (h_dr := h_dr) (h_xp := h_xp) (h_xd := h_xd) (h_xo := (up_lt h_xo (by omega))) (h_xh := (up_lt h_xh (by omega))) (h_sd := h_sd) (h_rc := h_rc) (h_yp := h_yp) (h_yd := h_yd) (h_yh := h_yh) (h_t1 := h_t1) (h_t2 := h_t2) (h_t3 := h_t3) (h_t4 := h_t4) (h_zd := h_zd) (h_zr := h_zr) (h_fl := h_fl) (h_ln := h_ln) (h_kd := h_kd) (h_lo := h_lo) (h_er := h_er) (h_qk := h_qk) (h_ql := h_ql) (h_qe := h_qe) (h_wp := h_wp) (h_wd := h_wd) (h_ho := (up_lt h_ho (by omega))) (h_hh := (up_lt h_hh (by omega))) (h_so := h_so) (h_rp := h_rp) (h_rd := h_rd) (h_rh := h_rh) (h_sl := h_sl) (h_n := h_n) (h_nw := h_nw) (h_nh := (by omega)) (h_B := h_B) (h_nr := h_nr) (h_sz := h_sz) (h_s7 := h_s7) (r_P := r_P) (r_W := r_W) (r_H := (relH_up r_H)) (r_R := r_R) (r_S := r_S) (r_G := r_G)⟩
    · skip
      refine CkI.mono (pkC_whisper_bad2 (a1 := 0) (a2 := 0) (a3 := 0) (a4 := 0) (hn := h_n) (hx1 := (by first | assumption | omega)) (hy1 := (by first | assumption | omega))) (fun r w1 h1 => ?_)
      obtain ⟨rfl, rfl⟩ := h1
      refine CkI.mono (pkM_whisper_v (hn := h_n) (ha := (by first | assumption | omega)) (hx1 := (by first | assumption | omega))) (fun r2 w2 h2 => ?_)
      obtain ⟨h2, rfl⟩ := h2
      exact ⟨h2.trans (rfl), inv_mk (h_em := h_em) (h_dr := h_dr) (h_xp := h_xp) (h_xd := h_xd) (h_xo := h_xo) (h_xh := h_xh) (h_sd := h_sd) (h_rc := h_rc) (h_yp := h_yp) (h_yd := h_yd) (h_yh := h_yh) (h_t1 := h_t1) (h_t2 := h_t2) (h_t3 := h_t3) (h_t4 := h_t4) (h_zd := h_zd) (h_zr := h_zr) (h_fl := h_fl) (h_ln := h_ln) (h_kd := h_kd) (h_lo := h_lo) (h_er := h_er) (h_qk := h_qk) (h_ql := h_ql) (h_qe := h_qe) (h_wp := h_wp) (h_wd := h_wd) (h_ho := h_ho) (h_hh := h_hh) (h_so := h_so) (h_rp := h_rp) (h_rd := h_rd) (h_rh := h_rh) (h_sl := h_sl) (h_n := h_n) (h_nw := h_nw) (h_nh := h_nh) (h_B := h_B) (h_nr := h_nr) (h_sz := h_sz) (h_s7 := h_s7) (r_P := r_P) (r_W := r_W) (r_H := r_H) (r_R := r_R) (r_S := r_S) (r_G := r_G)⟩
  · skip
    refine CkI.mono (pkC_whisper_bad1 (a1 := 0) (a2 := 0) (a3 := 0) (a4 := 0) (hn := h_n) (hx1 := (by first | assumption | omega))) (fun r w1 h1 => ?_)
    obtain ⟨rfl, rfl⟩ := h1
    refine CkI.mono (pkM_whisper_u (hn := h_n) (hx1 := (by first | assumption | omega))) (fun r2 w2 h2 => ?_)
    obtain ⟨h2, rfl⟩ := h2
    exact ⟨h2.trans (rfl), inv_mk (h_em := h_em) (h_dr := h_dr) (h_xp := h_xp) (h_xd := h_xd) (h_xo := h_xo) (h_xh := h_xh) (h_sd := h_sd) (h_rc := h_rc) (h_yp := h_yp) (h_yd := h_yd) (h_yh := h_yh) (h_t1 := h_t1) (h_t2 := h_t2) (h_t3 := h_t3) (h_t4 := h_t4) (h_zd := h_zd) (h_zr := h_zr) (h_fl := h_fl) (h_ln := h_ln) (h_kd := h_kd) (h_lo := h_lo) (h_er := h_er) (h_qk := h_qk) (h_ql := h_ql) (h_qe := h_qe) (h_wp := h_wp) (h_wd := h_wd) (h_ho := h_ho) (h_hh := h_hh) (h_so := h_so) (h_rp := h_rp) (h_rd := h_rd) (h_rh := h_rh) (h_sl := h_sl) (h_n := h_n) (h_nw := h_nw) (h_nh := h_nh) (h_B := h_B) (h_nr := h_nr) (h_sz := h_sz) (h_s7 := h_s7) (r_P := r_P) (r_W := r_W) (r_H := r_H) (r_R := r_R) (r_S := r_S) (r_G := r_G)⟩
set_option maxRecDepth 100000 in
theorem op_reading {l : Launch} {D : va_G} {ad : Nat → Nat} {cI cZ cS cP : ClassId} : Op_reading l D cI cZ cS cP (ad 0) (ad 36) (Inv ad cI cZ cS cP) := by
  intro w0 hJ a1 a2 z hz
  refine hJ (fun w0 => CkI l yX10_reading wsX10_reading D (kT cI cZ cS cP) (ad 0) 10 [.int a1, .int a2, .int (nI z)] w0 (fun r w1 => CkI l yX11_reading wsX11_reading D (kT cI cZ cS cP) (ad 36) 11 [.int a1, .int a2, .int (nI z)] w1 (fun r2 w2 => r2 = r ∧ Inv ad cI cZ cS cP w2))) ?_
  intro vpg vem vdr vn vxp vxd vxo vxh vnw vnh vB vsd vrc vyp vyd vyh vnr vt1 vt2 vt3 vt4 vtn vtm vtb vzd vzr vfl vln vsz vsf vt vft vra vrn vkd vlo ver vqk vql vqe vwp vwd vho vhh vso vrp vrd vrh vss vsl vsc vhs pa h_em h_dr h_xp h_xd h_xo h_xh h_sd h_rc h_yp h_yd h_yh h_t1 h_t2 h_t3 h_t4 h_zd h_zr h_fl h_ln h_kd h_lo h_er h_qk h_ql h_qe h_wp h_wd h_ho h_hh h_so h_rp h_rd h_rh h_sl h_n h_nw h_nh h_B h_nr h_sz h_s7 r_P r_W r_H r_R r_S r_G
  have h_B1 := B128 h_n h_B
  by_cases c1 : inR a1 vn
  · obtain ⟨x, hx, rfl⟩ := inR_nat c1
    by_cases c2 : inR a2 40
    · obtain ⟨y, hy, rfl⟩ := inR_nat c2
      by_cases c3 : vnr = 8
      · skip
        refine CkI.mono (pkC_reading_full (hn := h_n) (hx1 := (by first | assumption | omega)) (hy1 := (by first | assumption | omega)) (hnr := (by first | assumption | omega))) (fun r w1 h1 => ?_)
        obtain ⟨rfl, rfl⟩ := h1
        refine CkI.mono (pkM_reading_full (hn := h_n) (ha := (by first | assumption | omega)) (hd := (by first | assumption | omega)) (hr8 := (by first | assumption | omega))) (fun r2 w2 h2 => ?_)
        obtain ⟨h2, rfl⟩ := h2
        exact ⟨h2.trans (rfl), inv_mk (h_em := h_em) (h_dr := h_dr) (h_xp := h_xp) (h_xd := h_xd) (h_xo := h_xo) (h_xh := h_xh) (h_sd := h_sd) (h_rc := h_rc) (h_yp := h_yp) (h_yd := h_yd) (h_yh := h_yh) (h_t1 := h_t1) (h_t2 := h_t2) (h_t3 := h_t3) (h_t4 := h_t4) (h_zd := h_zd) (h_zr := h_zr) (h_fl := h_fl) (h_ln := h_ln) (h_kd := h_kd) (h_lo := h_lo) (h_er := h_er) (h_qk := h_qk) (h_ql := h_ql) (h_qe := h_qe) (h_wp := h_wp) (h_wd := h_wd) (h_ho := h_ho) (h_hh := h_hh) (h_so := h_so) (h_rp := h_rp) (h_rd := h_rd) (h_rh := h_rh) (h_sl := h_sl) (h_n := h_n) (h_nw := h_nw) (h_nh := h_nh) (h_B := h_B) (h_nr := h_nr) (h_sz := h_sz) (h_s7 := h_s7) (r_P := r_P) (r_W := r_W) (r_H := r_H) (r_R := r_R) (r_S := r_S) (r_G := r_G)⟩
      · have c4 : vnr < 8 := by omega
        refine CkI.mono (pkC_reading_ok (hn := h_n) (hrp := h_yp) (hrd := h_yd) (hrh := h_yh) (hx1 := (by first | assumption | omega)) (hy1 := (by first | assumption | omega)) (hz1 := (by first | assumption | omega)) (hnr := (by first | assumption | omega))) (fun r w1 h1 => ?_)
        obtain ⟨rfl, rfl⟩ := h1
        refine CkI.mono (pkM_reading_ok (hn := h_n) (hrp := h_rp) (hrd := h_rd) (hrh := h_rh) (ha := (by first | assumption | omega)) (hd := (by first | assumption | omega)) (hz2 := (by first | assumption | omega)) (hr8 := (by first | assumption | omega))) (fun r2 w2 h2 => ?_)
        obtain ⟨h2, rfl⟩ := h2
        exact ⟨h2.trans (rfl), inv_mk (h_em := h_em) (h_dr := h_dr) (h_xp := h_xp) (h_xd := h_xd) (h_xo := h_xo) (h_xh := h_xh) (h_sd := h_sd) (h_rc := h_rc) (h_yp := (up_lt h_yp (by omega))) (h_yd := (up_lt h_yd hy)) (h_yh := (up_lt h_yh hz)) (h_t1 := h_t1) (h_t2 := h_t2) (h_t3 := h_t3) (h_t4 := h_t4) (h_zd := h_zd) (h_zr := h_zr) (h_fl := h_fl) (h_ln := h_ln) (h_kd := h_kd) (h_lo := h_lo) (h_er := h_er) (h_qk := h_qk) (h_ql := h_ql) (h_qe := h_qe) (h_wp := h_wp) (h_wd := h_wd) (h_ho := h_ho) (h_hh := h_hh) (h_so := h_so) (h_rp := (up_lt h_rp (by omega))) (h_rd := (up_lt h_rd hy)) (h_rh := (up_lt h_rh hz)) (h_sl := h_sl) (h_n := h_n) (h_nw := h_nw) (h_nh := h_nh) (h_B := h_B) (h_nr := (by omega)) (h_sz := h_sz) (h_s7 := h_s7) (r_P := r_P) (r_W := r_W) (r_H := r_H) (r_R := (relR_up r_R hx hy)) (r_S := r_S) (r_G := r_G)⟩
    · skip
      refine CkI.mono (pkC_reading_day (hn := h_n) (hx1 := (by first | assumption | omega)) (hy1 := (by first | assumption | omega))) (fun r w1 h1 => ?_)
      obtain ⟨rfl, rfl⟩ := h1
      refine CkI.mono (pkM_reading_o (hn := h_n) (ha := (by first | assumption | omega)) (hx1 := (by first | assumption | omega))) (fun r2 w2 h2 => ?_)
      obtain ⟨h2, rfl⟩ := h2
      exact ⟨h2.trans (rfl), inv_mk (h_em := h_em) (h_dr := h_dr) (h_xp := h_xp) (h_xd := h_xd) (h_xo := h_xo) (h_xh := h_xh) (h_sd := h_sd) (h_rc := h_rc) (h_yp := h_yp) (h_yd := h_yd) (h_yh := h_yh) (h_t1 := h_t1) (h_t2 := h_t2) (h_t3 := h_t3) (h_t4 := h_t4) (h_zd := h_zd) (h_zr := h_zr) (h_fl := h_fl) (h_ln := h_ln) (h_kd := h_kd) (h_lo := h_lo) (h_er := h_er) (h_qk := h_qk) (h_ql := h_ql) (h_qe := h_qe) (h_wp := h_wp) (h_wd := h_wd) (h_ho := h_ho) (h_hh := h_hh) (h_so := h_so) (h_rp := h_rp) (h_rd := h_rd) (h_rh := h_rh) (h_sl := h_sl) (h_n := h_n) (h_nw := h_nw) (h_nh := h_nh) (h_B := h_B) (h_nr := h_nr) (h_sz := h_sz) (h_s7 := h_s7) (r_P := r_P) (r_W := r_W) (r_H := r_H) (r_R := r_R) (r_S := r_S) (r_G := r_G)⟩
  · skip
    refine CkI.mono (pkC_reading_bad (hn := h_n) (hx1 := (by first | assumption | omega))) (fun r w1 h1 => ?_)
    obtain ⟨rfl, rfl⟩ := h1
    refine CkI.mono (pkM_reading_u (hn := h_n) (hx1 := (by first | assumption | omega))) (fun r2 w2 h2 => ?_)
    obtain ⟨h2, rfl⟩ := h2
    exact ⟨h2.trans (rfl), inv_mk (h_em := h_em) (h_dr := h_dr) (h_xp := h_xp) (h_xd := h_xd) (h_xo := h_xo) (h_xh := h_xh) (h_sd := h_sd) (h_rc := h_rc) (h_yp := h_yp) (h_yd := h_yd) (h_yh := h_yh) (h_t1 := h_t1) (h_t2 := h_t2) (h_t3 := h_t3) (h_t4 := h_t4) (h_zd := h_zd) (h_zr := h_zr) (h_fl := h_fl) (h_ln := h_ln) (h_kd := h_kd) (h_lo := h_lo) (h_er := h_er) (h_qk := h_qk) (h_ql := h_ql) (h_qe := h_qe) (h_wp := h_wp) (h_wd := h_wd) (h_ho := h_ho) (h_hh := h_hh) (h_so := h_so) (h_rp := h_rp) (h_rd := h_rd) (h_rh := h_rh) (h_sl := h_sl) (h_n := h_n) (h_nw := h_nw) (h_nh := h_nh) (h_B := h_B) (h_nr := h_nr) (h_sz := h_sz) (h_s7 := h_s7) (r_P := r_P) (r_W := r_W) (r_H := r_H) (r_R := r_R) (r_S := r_S) (r_G := r_G)⟩
set_option maxRecDepth 100000 in
theorem op_trace {l : Launch} {D : va_G} {ad : Nat → Nat} {cI cZ cS cP : ClassId} : Op_trace l D cI cZ cS cP (ad 0) (ad 36) (Inv ad cI cZ cS cP) := by
  intro w0 hJ 
  refine hJ (fun w0 => CkI l yX10_trace wsX10_trace D (kT cI cZ cS cP) (ad 0) 10 [] w0 (fun r w1 => CkI l yX11_trace wsX11_trace D (kT cI cZ cS cP) (ad 36) 11 [] w1 (fun r2 w2 => r2 = r ∧ Inv ad cI cZ cS cP w2))) ?_
  intro vpg vem vdr vn vxp vxd vxo vxh vnw vnh vB vsd vrc vyp vyd vyh vnr vt1 vt2 vt3 vt4 vtn vtm vtb vzd vzr vfl vln vsz vsf vt vft vra vrn vkd vlo ver vqk vql vqe vwp vwd vho vhh vso vrp vrd vrh vss vsl vsc vhs pa h_em h_dr h_xp h_xd h_xo h_xh h_sd h_rc h_yp h_yd h_yh h_t1 h_t2 h_t3 h_t4 h_zd h_zr h_fl h_ln h_kd h_lo h_er h_qk h_ql h_qe h_wp h_wd h_ho h_hh h_so h_rp h_rd h_rh h_sl h_n h_nw h_nh h_B h_nr h_sz h_s7 r_P r_W r_H r_R r_S r_G
  have h_B1 := B128 h_n h_B
  refine CkI.mono (pkC_trace_ok) (fun r w1 h1 => ?_)
  obtain ⟨rfl, rfl⟩ := h1
  refine CkI.mono (pkM_trace_k) (fun r2 w2 h2 => ?_)
  obtain ⟨h2, rfl⟩ := h2
  exact ⟨h2.trans (rfl), inv_mk (h_em := h_em) (h_dr := h_dr) (h_xp := h_xp) (h_xd := h_xd) (h_xo := h_xo) (h_xh := h_xh) (h_sd := h_sd) (h_rc := h_rc) (h_yp := h_yp) (h_yd := h_yd) (h_yh := h_yh) (h_t1 := h_t1) (h_t2 := h_t2) (h_t3 := h_t3) (h_t4 := h_t4) (h_zd := h_zd) (h_zr := h_zr) (h_fl := h_fl) (h_ln := h_ln) (h_kd := h_kd) (h_lo := h_lo) (h_er := h_er) (h_qk := h_qk) (h_ql := h_ql) (h_qe := h_qe) (h_wp := h_wp) (h_wd := h_wd) (h_ho := h_ho) (h_hh := h_hh) (h_so := h_so) (h_rp := h_rp) (h_rd := h_rd) (h_rh := h_rh) (h_sl := h_sl) (h_n := h_n) (h_nw := h_nw) (h_nh := h_nh) (h_B := h_B) (h_nr := h_nr) (h_sz := h_sz) (h_s7 := h_s7) (r_P := r_P) (r_W := r_W) (r_H := r_H) (r_R := r_R) (r_S := r_S) (r_G := r_G)⟩
set_option maxRecDepth 100000 in
theorem op_fault {l : Launch} {D : va_G} {ad : Nat → Nat} {cI cZ cS cP : ClassId} : Op_fault l D cI cZ cS cP (ad 0) (ad 36) (Inv ad cI cZ cS cP) := by
  intro w0 hJ 
  refine hJ (fun w0 => CkI l yX10_fault wsX10_fault D (kT cI cZ cS cP) (ad 0) 10 [] w0 (fun r w1 => CkI l yX11_fault wsX11_fault D (kT cI cZ cS cP) (ad 36) 11 [] w1 (fun r2 w2 => r2 = r ∧ Inv ad cI cZ cS cP w2))) ?_
  intro vpg vem vdr vn vxp vxd vxo vxh vnw vnh vB vsd vrc vyp vyd vyh vnr vt1 vt2 vt3 vt4 vtn vtm vtb vzd vzr vfl vln vsz vsf vt vft vra vrn vkd vlo ver vqk vql vqe vwp vwd vho vhh vso vrp vrd vrh vss vsl vsc vhs pa h_em h_dr h_xp h_xd h_xo h_xh h_sd h_rc h_yp h_yd h_yh h_t1 h_t2 h_t3 h_t4 h_zd h_zr h_fl h_ln h_kd h_lo h_er h_qk h_ql h_qe h_wp h_wd h_ho h_hh h_so h_rp h_rd h_rh h_sl h_n h_nw h_nh h_B h_nr h_sz h_s7 r_P r_W r_H r_R r_S r_G
  have h_B1 := B128 h_n h_B
  refine CkI.mono (pkC_fault_ok) (fun r w1 h1 => ?_)
  obtain ⟨rfl, rfl⟩ := h1
  refine CkI.mono (pkM_fault_k) (fun r2 w2 h2 => ?_)
  obtain ⟨h2, rfl⟩ := h2
  exact ⟨h2.trans (rfl), inv_mk (h_em := h_em) (h_dr := h_dr) (h_xp := h_xp) (h_xd := h_xd) (h_xo := h_xo) (h_xh := h_xh) (h_sd := h_sd) (h_rc := h_rc) (h_yp := h_yp) (h_yd := h_yd) (h_yh := h_yh) (h_t1 := h_t1) (h_t2 := h_t2) (h_t3 := h_t3) (h_t4 := h_t4) (h_zd := h_zd) (h_zr := h_zr) (h_fl := h_fl) (h_ln := h_ln) (h_kd := h_kd) (h_lo := h_lo) (h_er := h_er) (h_qk := h_qk) (h_ql := h_ql) (h_qe := h_qe) (h_wp := h_wp) (h_wd := h_wd) (h_ho := h_ho) (h_hh := h_hh) (h_so := h_so) (h_rp := h_rp) (h_rd := h_rd) (h_rh := h_rh) (h_sl := h_sl) (h_n := h_n) (h_nw := h_nw) (h_nh := h_nh) (h_B := h_B) (h_nr := h_nr) (h_sz := h_sz) (h_s7 := h_s7) (r_P := r_P) (r_W := r_W) (r_H := r_H) (r_R := r_R) (r_S := r_S) (r_G := r_G)⟩
set_option maxRecDepth 100000 in
theorem op_many {l : Launch} {D : va_G} {ad : Nat → Nat} {cI cZ cS cP : ClassId} : Op_many l D cI cZ cS cP (ad 0) (ad 36) (Inv ad cI cZ cS cP) := by
  intro w0 hJ a1
  refine hJ (fun w0 => CkI l yX10_many wsX10_many D (kT cI cZ cS cP) (ad 0) 10 [.int a1] w0 (fun r w1 => CkI l yX11_many wsX11_many D (kT cI cZ cS cP) (ad 36) 11 [.int a1] w1 (fun r2 w2 => r2 = r ∧ Inv ad cI cZ cS cP w2))) ?_
  intro vpg vem vdr vn vxp vxd vxo vxh vnw vnh vB vsd vrc vyp vyd vyh vnr vt1 vt2 vt3 vt4 vtn vtm vtb vzd vzr vfl vln vsz vsf vt vft vra vrn vkd vlo ver vqk vql vqe vwp vwd vho vhh vso vrp vrd vrh vss vsl vsc vhs pa h_em h_dr h_xp h_xd h_xo h_xh h_sd h_rc h_yp h_yd h_yh h_t1 h_t2 h_t3 h_t4 h_zd h_zr h_fl h_ln h_kd h_lo h_er h_qk h_ql h_qe h_wp h_wd h_ho h_hh h_so h_rp h_rd h_rh h_sl h_n h_nw h_nh h_B h_nr h_sz h_s7 r_P r_W r_H r_R r_S r_G
  have h_B1 := B128 h_n h_B
  rcases k_sw3 a1 with rfl | rfl | rfl | rfl | c1
  · skip
    refine CkI.mono (pkC_many_0) (fun r w1 h1 => ?_)
    obtain ⟨rfl, rfl⟩ := h1
    refine CkI.mono (pkM_many_0) (fun r2 w2 h2 => ?_)
    obtain ⟨h2, rfl⟩ := h2
    exact ⟨h2.trans (rfl), inv_mk (h_em := h_em) (h_dr := h_dr) (h_xp := h_xp) (h_xd := h_xd) (h_xo := h_xo) (h_xh := h_xh) (h_sd := h_sd) (h_rc := h_rc) (h_yp := h_yp) (h_yd := h_yd) (h_yh := h_yh) (h_t1 := h_t1) (h_t2 := h_t2) (h_t3 := h_t3) (h_t4 := h_t4) (h_zd := h_zd) (h_zr := h_zr) (h_fl := h_fl) (h_ln := h_ln) (h_kd := h_kd) (h_lo := h_lo) (h_er := h_er) (h_qk := h_qk) (h_ql := h_ql) (h_qe := h_qe) (h_wp := h_wp) (h_wd := h_wd) (h_ho := h_ho) (h_hh := h_hh) (h_so := h_so) (h_rp := h_rp) (h_rd := h_rd) (h_rh := h_rh) (h_sl := h_sl) (h_n := h_n) (h_nw := h_nw) (h_nh := h_nh) (h_B := h_B) (h_nr := h_nr) (h_sz := h_sz) (h_s7 := h_s7) (r_P := r_P) (r_W := r_W) (r_H := r_H) (r_R := r_R) (r_S := r_S) (r_G := r_G)⟩
  · skip
    refine CkI.mono (pkC_many_1) (fun r w1 h1 => ?_)
    obtain ⟨rfl, rfl⟩ := h1
    refine CkI.mono (pkM_many_1) (fun r2 w2 h2 => ?_)
    obtain ⟨h2, rfl⟩ := h2
    exact ⟨h2.trans (rfl), inv_mk (h_em := h_em) (h_dr := h_dr) (h_xp := h_xp) (h_xd := h_xd) (h_xo := h_xo) (h_xh := h_xh) (h_sd := h_sd) (h_rc := h_rc) (h_yp := h_yp) (h_yd := h_yd) (h_yh := h_yh) (h_t1 := h_t1) (h_t2 := h_t2) (h_t3 := h_t3) (h_t4 := h_t4) (h_zd := h_zd) (h_zr := h_zr) (h_fl := h_fl) (h_ln := h_ln) (h_kd := h_kd) (h_lo := h_lo) (h_er := h_er) (h_qk := h_qk) (h_ql := h_ql) (h_qe := h_qe) (h_wp := h_wp) (h_wd := h_wd) (h_ho := h_ho) (h_hh := h_hh) (h_so := h_so) (h_rp := h_rp) (h_rd := h_rd) (h_rh := h_rh) (h_sl := h_sl) (h_n := h_n) (h_nw := h_nw) (h_nh := h_nh) (h_B := h_B) (h_nr := h_nr) (h_sz := h_sz) (h_s7 := h_s7) (r_P := r_P) (r_W := r_W) (r_H := r_H) (r_R := r_R) (r_S := r_S) (r_G := r_G)⟩
  · skip
    refine CkI.mono (pkC_many_2) (fun r w1 h1 => ?_)
    obtain ⟨rfl, rfl⟩ := h1
    refine CkI.mono (pkM_many_2) (fun r2 w2 h2 => ?_)
    obtain ⟨h2, rfl⟩ := h2
    exact ⟨h2.trans (rfl), inv_mk (h_em := h_em) (h_dr := h_dr) (h_xp := h_xp) (h_xd := h_xd) (h_xo := h_xo) (h_xh := h_xh) (h_sd := h_sd) (h_rc := h_rc) (h_yp := h_yp) (h_yd := h_yd) (h_yh := h_yh) (h_t1 := h_t1) (h_t2 := h_t2) (h_t3 := h_t3) (h_t4 := h_t4) (h_zd := h_zd) (h_zr := h_zr) (h_fl := h_fl) (h_ln := h_ln) (h_kd := h_kd) (h_lo := h_lo) (h_er := h_er) (h_qk := h_qk) (h_ql := h_ql) (h_qe := h_qe) (h_wp := h_wp) (h_wd := h_wd) (h_ho := h_ho) (h_hh := h_hh) (h_so := h_so) (h_rp := h_rp) (h_rd := h_rd) (h_rh := h_rh) (h_sl := h_sl) (h_n := h_n) (h_nw := h_nw) (h_nh := h_nh) (h_B := h_B) (h_nr := h_nr) (h_sz := h_sz) (h_s7 := h_s7) (r_P := r_P) (r_W := r_W) (r_H := r_H) (r_R := r_R) (r_S := r_S) (r_G := r_G)⟩
  · skip
    refine CkI.mono (pkC_many_3) (fun r w1 h1 => ?_)
    obtain ⟨rfl, rfl⟩ := h1
    refine CkI.mono (pkM_many_3) (fun r2 w2 h2 => ?_)
    obtain ⟨h2, rfl⟩ := h2
    exact ⟨h2.trans (rfl), inv_mk (h_em := h_em) (h_dr := h_dr) (h_xp := h_xp) (h_xd := h_xd) (h_xo := h_xo) (h_xh := h_xh) (h_sd := h_sd) (h_rc := h_rc) (h_yp := h_yp) (h_yd := h_yd) (h_yh := h_yh) (h_t1 := h_t1) (h_t2 := h_t2) (h_t3 := h_t3) (h_t4 := h_t4) (h_zd := h_zd) (h_zr := h_zr) (h_fl := h_fl) (h_ln := h_ln) (h_kd := h_kd) (h_lo := h_lo) (h_er := h_er) (h_qk := h_qk) (h_ql := h_ql) (h_qe := h_qe) (h_wp := h_wp) (h_wd := h_wd) (h_ho := h_ho) (h_hh := h_hh) (h_so := h_so) (h_rp := h_rp) (h_rd := h_rd) (h_rh := h_rh) (h_sl := h_sl) (h_n := h_n) (h_nw := h_nw) (h_nh := h_nh) (h_B := h_B) (h_nr := h_nr) (h_sz := h_sz) (h_s7 := h_s7) (r_P := r_P) (r_W := r_W) (r_H := r_H) (r_R := r_R) (r_S := r_S) (r_G := r_G)⟩
  · skip
    refine CkI.mono (pkC_many_o (hx1 := (nin4 c1))) (fun r w1 h1 => ?_)
    obtain ⟨rfl, rfl⟩ := h1
    refine CkI.mono (pkM_many_o (hx1 := (nin4 c1))) (fun r2 w2 h2 => ?_)
    obtain ⟨h2, rfl⟩ := h2
    exact ⟨h2.trans (rfl), inv_mk (h_em := h_em) (h_dr := h_dr) (h_xp := h_xp) (h_xd := h_xd) (h_xo := h_xo) (h_xh := h_xh) (h_sd := h_sd) (h_rc := h_rc) (h_yp := h_yp) (h_yd := h_yd) (h_yh := h_yh) (h_t1 := h_t1) (h_t2 := h_t2) (h_t3 := h_t3) (h_t4 := h_t4) (h_zd := h_zd) (h_zr := h_zr) (h_fl := h_fl) (h_ln := h_ln) (h_kd := h_kd) (h_lo := h_lo) (h_er := h_er) (h_qk := h_qk) (h_ql := h_ql) (h_qe := h_qe) (h_wp := h_wp) (h_wd := h_wd) (h_ho := h_ho) (h_hh := h_hh) (h_so := h_so) (h_rp := h_rp) (h_rd := h_rd) (h_rh := h_rh) (h_sl := h_sl) (h_n := h_n) (h_nw := h_nw) (h_nh := h_nh) (h_B := h_B) (h_nr := h_nr) (h_sz := h_sz) (h_s7 := h_s7) (r_P := r_P) (r_W := r_W) (r_H := r_H) (r_R := r_R) (r_S := r_S) (r_G := r_G)⟩
