set_option maxRecDepth 100000 in
theorem op_says {l : Launch} {D : va_G} {ad : Nat → Nat} {cI cZ cS cP : ClassId} : Op_says l D cI cZ cS cP (ad 0) (ad 36) (Inv ad cI cZ cS cP) := by
  intro w0 hJ a1
  refine hJ (fun w0 => CkI l yX10_says wsX10_says D (kT cI cZ cS cP) (ad 0) 10 [.int a1] w0 (fun r w1 => CkI l yX11_says wsX11_says D (kT cI cZ cS cP) (ad 36) 11 [.int a1] w1 (fun r2 w2 => r2 = r ∧ Inv ad cI cZ cS cP w2))) ?_
  intro vpg vem vdr vn vxp vxd vxo vxh vnw vnh vB vsd vrc vyp vyd vyh vnr vt1 vt2 vt3 vt4 vtn vtm vtb vzd vzr vfl vln vsz vsf vt vft vra vrn vkd vlo ver vqk vql vqe vwp vwd vho vhh vso vrp vrd vrh vss vsl vsc vhs pa h_em h_dr h_xp h_xd h_xo h_xh h_sd h_rc h_yp h_yd h_yh h_t1 h_t2 h_t3 h_t4 h_zd h_zr h_fl h_ln h_kd h_lo h_er h_qk h_ql h_qe h_wp h_wd h_ho h_hh h_so h_rp h_rd h_rh h_sl h_n h_nw h_nh h_B h_nr h_sz h_s7 r_P r_W r_H r_R r_S r_G
  have h_B1 := B128 h_n h_B
  by_cases c1 : inR a1 vn
  · obtain ⟨x, hx, rfl⟩ := inR_nat c1
    refine CkI.mono (pkC_says_ok (hem := h_em) (hdr := h_dr) (hwp := h_xp) (hwd := h_xd) (hho := h_xo) (hhh := h_xh) (hsd := h_sd) (hrc := h_rc) (hn := h_n) (hnw := (by first | assumption | omega)) (hnh := (by first | assumption | omega)) (hB := h_B1) (hx1 := (by first | assumption | omega))) (fun r w1 h1 => ?_)
    obtain ⟨c_u2, c_u1, ⟨rfl, c_hu2, c_hu1⟩, rfl⟩ := h1
    refine CkI.mono (pkM_says_k (hkd := h_kd) (hlo := h_lo) (her := h_er) (hwp := h_wp) (hwd := h_wd) (hho := h_ho) (hhh := h_hh) (hn := h_n) (hmw := (by first | assumption | omega)) (hmh := (by first | assumption | omega)) (hmm := (by decide)) (hso := h_so) (hmb := h_B1) (hs7 := h_s7) (ha := (by first | assumption | omega))) (fun r2 w2 h2 => ?_)
    obtain ⟨h2, rfl⟩ := h2
    exact ⟨h2.trans ((ans_says h_n r_P r_W r_H hx).symm), inv_mk (h_em := h_em) (h_dr := h_dr) (h_xp := h_xp) (h_xd := h_xd) (h_xo := h_xo) (h_xh := h_xh) (h_sd := c_hu2) (h_rc := c_hu1) (h_yp := h_yp) (h_yd := h_yd) (h_yh := h_yh) (h_t1 := h_t1) (h_t2 := h_t2) (h_t3 := h_t3) (h_t4 := h_t4) (h_zd := h_zd) (h_zr := h_zr) (h_fl := h_fl) (h_ln := h_ln) (h_kd := h_kd) (h_lo := h_lo) (h_er := h_er) (h_qk := h_qk) (h_ql := h_ql) (h_qe := h_qe) (h_wp := h_wp) (h_wd := h_wd) (h_ho := h_ho) (h_hh := h_hh) (h_so := gM_lt) (h_rp := h_rp) (h_rd := h_rd) (h_rh := h_rh) (h_sl := h_sl) (h_n := h_n) (h_nw := h_nw) (h_nh := h_nh) (h_B := h_B) (h_nr := h_nr) (h_sz := h_sz) (h_s7 := gM_7 h_n) (r_P := r_P) (r_W := r_W) (r_H := r_H) (r_R := r_R) (r_S := r_S) (r_G := r_G)⟩
  · skip
    refine CkI.mono (pkC_says_bad (a1 := 0) (a2 := 0) (a3 := 0) (a4 := 0) (hn := h_n) (hx1 := (by first | assumption | omega))) (fun r w1 h1 => ?_)
    obtain ⟨rfl, rfl⟩ := h1
    refine CkI.mono (pkM_says_u (hn := h_n) (hx1 := (by first | assumption | omega))) (fun r2 w2 h2 => ?_)
    obtain ⟨h2, rfl⟩ := h2
    exact ⟨h2.trans (rfl), inv_mk (h_em := h_em) (h_dr := h_dr) (h_xp := h_xp) (h_xd := h_xd) (h_xo := h_xo) (h_xh := h_xh) (h_sd := h_sd) (h_rc := h_rc) (h_yp := h_yp) (h_yd := h_yd) (h_yh := h_yh) (h_t1 := h_t1) (h_t2 := h_t2) (h_t3 := h_t3) (h_t4 := h_t4) (h_zd := h_zd) (h_zr := h_zr) (h_fl := h_fl) (h_ln := h_ln) (h_kd := h_kd) (h_lo := h_lo) (h_er := h_er) (h_qk := h_qk) (h_ql := h_ql) (h_qe := h_qe) (h_wp := h_wp) (h_wd := h_wd) (h_ho := h_ho) (h_hh := h_hh) (h_so := h_so) (h_rp := h_rp) (h_rd := h_rd) (h_rh := h_rh) (h_sl := h_sl) (h_n := h_n) (h_nw := h_nw) (h_nh := h_nh) (h_B := h_B) (h_nr := h_nr) (h_sz := h_sz) (h_s7 := h_s7) (r_P := r_P) (r_W := r_W) (r_H := r_H) (r_R := r_R) (r_S := r_S) (r_G := r_G)⟩
set_option maxRecDepth 100000 in
theorem op_crowd {l : Launch} {D : va_G} {ad : Nat → Nat} {cI cZ cS cP : ClassId} : Op_crowd l D cI cZ cS cP (ad 0) (ad 36) (Inv ad cI cZ cS cP) := by
  intro w0 hJ a1
  refine hJ (fun w0 => CkI l yX10_crowd wsX10_crowd D (kT cI cZ cS cP) (ad 0) 10 [.int a1] w0 (fun r w1 => CkI l yX11_crowd wsX11_crowd D (kT cI cZ cS cP) (ad 36) 11 [.int a1] w1 (fun r2 w2 => r2 = r ∧ Inv ad cI cZ cS cP w2))) ?_
  intro vpg vem vdr vn vxp vxd vxo vxh vnw vnh vB vsd vrc vyp vyd vyh vnr vt1 vt2 vt3 vt4 vtn vtm vtb vzd vzr vfl vln vsz vsf vt vft vra vrn vkd vlo ver vqk vql vqe vwp vwd vho vhh vso vrp vrd vrh vss vsl vsc vhs pa h_em h_dr h_xp h_xd h_xo h_xh h_sd h_rc h_yp h_yd h_yh h_t1 h_t2 h_t3 h_t4 h_zd h_zr h_fl h_ln h_kd h_lo h_er h_qk h_ql h_qe h_wp h_wd h_ho h_hh h_so h_rp h_rd h_rh h_sl h_n h_nw h_nh h_B h_nr h_sz h_s7 r_P r_W r_H r_R r_S r_G
  have h_B1 := B128 h_n h_B
  by_cases c1 : inR a1 40
  · obtain ⟨x, hx, rfl⟩ := inR_nat c1
    by_cases c0 : vn = 0
    · subst c0
      refine CkI.mono (pkC_crowd_none (a1 := 0) (a2 := 0) (a3 := 0) (a4 := 0) (hn := h_n) (hx1 := (by first | assumption | omega)) (hn0 := rfl)) (fun r w1 h1 => ?_)
      obtain ⟨rfl, rfl⟩ := h1
      refine CkI.mono (pkM_crowd_0 (ha := (by first | assumption | omega))) (fun r2 w2 h2 => ?_)
      obtain ⟨h2, rfl⟩ := h2
      exact ⟨h2.trans (rfl), inv_mk (h_em := h_em) (h_dr := h_dr) (h_xp := h_xp) (h_xd := h_xd) (h_xo := h_xo) (h_xh := h_xh) (h_sd := h_sd) (h_rc := h_rc) (h_yp := h_yp) (h_yd := h_yd) (h_yh := h_yh) (h_t1 := h_t1) (h_t2 := h_t2) (h_t3 := h_t3) (h_t4 := h_t4) (h_zd := h_zd) (h_zr := h_zr) (h_fl := h_fl) (h_ln := h_ln) (h_kd := h_kd) (h_lo := h_lo) (h_er := h_er) (h_qk := h_qk) (h_ql := h_ql) (h_qe := h_qe) (h_wp := h_wp) (h_wd := h_wd) (h_ho := h_ho) (h_hh := h_hh) (h_so := h_so) (h_rp := h_rp) (h_rd := h_rd) (h_rh := h_rh) (h_sl := h_sl) (h_n := h_n) (h_nw := h_nw) (h_nh := h_nh) (h_B := h_B) (h_nr := h_nr) (h_sz := h_sz) (h_s7 := h_s7) (r_P := r_P) (r_W := r_W) (r_H := r_H) (r_R := r_R) (r_S := r_S) (r_G := r_G)⟩
    · have c9 : 0 < vn := by omega
      refine CkI.mono (pkC_crowd_ok (hem := h_em) (hdr := h_dr) (hwp := h_xp) (hwd := h_xd) (hho := h_xo) (hhh := h_xh) (hsd := h_sd) (hrc := h_rc) (hn := h_n) (hnw := (by first | assumption | omega)) (hnh := (by first | assumption | omega)) (hB := h_B1) (hx1 := (by first | assumption | omega)) (hn0 := (by first | assumption | omega))) (fun r w1 h1 => ?_)
      obtain ⟨c_u2, c_u1, ⟨rfl, c_hu2, c_hu1⟩, rfl⟩ := h1
      refine CkI.mono (pkM_crowd_k (hkd := h_kd) (hlo := h_lo) (her := h_er) (hwp := h_wp) (hwd := h_wd) (hho := h_ho) (hhh := h_hh) (hn := h_n) (hmw := (by first | assumption | omega)) (hmh := (by first | assumption | omega)) (hmm := (by decide)) (hso := h_so) (hmb := h_B1) (hs7 := h_s7) (ha := (by first | assumption | omega)) (hn0 := (by first | assumption | omega))) (fun r2 w2 h2 => ?_)
      obtain ⟨h2, rfl⟩ := h2
      exact ⟨h2.trans (congrArg nI (ans_now h_n r_P r_W r_H hx).symm), inv_mk (h_em := h_em) (h_dr := h_dr) (h_xp := h_xp) (h_xd := h_xd) (h_xo := h_xo) (h_xh := h_xh) (h_sd := c_hu2) (h_rc := c_hu1) (h_yp := h_yp) (h_yd := h_yd) (h_yh := h_yh) (h_t1 := h_t1) (h_t2 := h_t2) (h_t3 := h_t3) (h_t4 := h_t4) (h_zd := h_zd) (h_zr := h_zr) (h_fl := h_fl) (h_ln := h_ln) (h_kd := h_kd) (h_lo := h_lo) (h_er := h_er) (h_qk := h_qk) (h_ql := h_ql) (h_qe := h_qe) (h_wp := h_wp) (h_wd := h_wd) (h_ho := h_ho) (h_hh := h_hh) (h_so := gM_lt) (h_rp := h_rp) (h_rd := h_rd) (h_rh := h_rh) (h_sl := h_sl) (h_n := h_n) (h_nw := h_nw) (h_nh := h_nh) (h_B := h_B) (h_nr := h_nr) (h_sz := h_sz) (h_s7 := gM_7 h_n) (r_P := r_P) (r_W := r_W) (r_H := r_H) (r_R := r_R) (r_S := r_S) (r_G := r_G)⟩
  · skip
    refine CkI.mono (pkC_crowd_bad (s1 := 0) (s2 := 0) (s3 := 0) (em := (fun _ => 0)) (dr := (fun _ => 0)) (n := 0) (a1 := 0) (a2 := 0) (a3 := 0) (a4 := 0) (hx1 := (by first | assumption | omega))) (fun r w1 h1 => ?_)
    obtain ⟨rfl, rfl⟩ := h1
    refine CkI.mono (pkM_crowd_o (hx1 := (by first | assumption | omega))) (fun r2 w2 h2 => ?_)
    obtain ⟨h2, rfl⟩ := h2
    exact ⟨h2.trans (rfl), inv_mk (h_em := h_em) (h_dr := h_dr) (h_xp := h_xp) (h_xd := h_xd) (h_xo := h_xo) (h_xh := h_xh) (h_sd := h_sd) (h_rc := h_rc) (h_yp := h_yp) (h_yd := h_yd) (h_yh := h_yh) (h_t1 := h_t1) (h_t2 := h_t2) (h_t3 := h_t3) (h_t4 := h_t4) (h_zd := h_zd) (h_zr := h_zr) (h_fl := h_fl) (h_ln := h_ln) (h_kd := h_kd) (h_lo := h_lo) (h_er := h_er) (h_qk := h_qk) (h_ql := h_ql) (h_qe := h_qe) (h_wp := h_wp) (h_wd := h_wd) (h_ho := h_ho) (h_hh := h_hh) (h_so := h_so) (h_rp := h_rp) (h_rd := h_rd) (h_rh := h_rh) (h_sl := h_sl) (h_n := h_n) (h_nw := h_nw) (h_nh := h_nh) (h_B := h_B) (h_nr := h_nr) (h_sz := h_sz) (h_s7 := h_s7) (r_P := r_P) (r_W := r_W) (r_H := r_H) (r_R := r_R) (r_S := r_S) (r_G := r_G)⟩
set_option maxRecDepth 100000 in
theorem op_heard {l : Launch} {D : va_G} {ad : Nat → Nat} {cI cZ cS cP : ClassId} : Op_heard l D cI cZ cS cP (ad 0) (ad 36) (Inv ad cI cZ cS cP) := by
  intro w0 hJ a1 a2 a3
  refine hJ (fun w0 => CkI l yX10_heard wsX10_heard D (kT cI cZ cS cP) (ad 0) 10 [.int a1, .int a2, .int a3] w0 (fun r w1 => CkI l yX11_heard wsX11_heard D (kT cI cZ cS cP) (ad 36) 11 [.int a1, .int a2, .int a3] w1 (fun r2 w2 => r2 = r ∧ Inv ad cI cZ cS cP w2))) ?_
  intro vpg vem vdr vn vxp vxd vxo vxh vnw vnh vB vsd vrc vyp vyd vyh vnr vt1 vt2 vt3 vt4 vtn vtm vtb vzd vzr vfl vln vsz vsf vt vft vra vrn vkd vlo ver vqk vql vqe vwp vwd vho vhh vso vrp vrd vrh vss vsl vsc vhs pa h_em h_dr h_xp h_xd h_xo h_xh h_sd h_rc h_yp h_yd h_yh h_t1 h_t2 h_t3 h_t4 h_zd h_zr h_fl h_ln h_kd h_lo h_er h_qk h_ql h_qe h_wp h_wd h_ho h_hh h_so h_rp h_rd h_rh h_sl h_n h_nw h_nh h_B h_nr h_sz h_s7 r_P r_W r_H r_R r_S r_G
  have h_B1 := B128 h_n h_B
  by_cases c1 : inR a1 vn
  · obtain ⟨x, hx, rfl⟩ := inR_nat c1
    by_cases c2 : inR a2 40
    · obtain ⟨y, hy, rfl⟩ := inR_nat c2
      by_cases c3 : inR a3 2
      · rcases in2 c3 with rfl | rfl
        · skip
          refine CkI.mono (pkC_heard_0 (hem := h_em) (hdr := h_dr) (hwp := h_xp) (hwd := h_xd) (hho := h_xo) (hhh := h_xh) (hsd := h_sd) (hrc := h_rc) (hn := h_n) (hnw := (by first | assumption | omega)) (hnh := (by first | assumption | omega)) (hB := h_B1) (hx0 := (by first | assumption | omega)) (hd := (by first | assumption | omega))) (fun r w1 h1 => ?_)
          obtain ⟨c_u2, c_u1, ⟨rfl, c_hu2, c_hu1⟩, rfl⟩ := h1
          refine CkI.mono (pkM_heard_0 (hkd := h_kd) (hlo := h_lo) (her := h_er) (hwp := h_wp) (hwd := h_wd) (hho := h_ho) (hhh := h_hh) (hn := h_n) (hmw := (by first | assumption | omega)) (hmh := (by first | assumption | omega)) (hmm := (by decide)) (hso := h_so) (hmb := h_B1) (hs7 := h_s7) (ha := (by first | assumption | omega)) (hd := (by first | assumption | omega))) (fun r2 w2 h2 => ?_)
          obtain ⟨h2, rfl⟩ := h2
          exact ⟨h2.trans (congrArg nI (ans_heard0 h_n r_P r_W r_H hx hy).symm), inv_mk (h_em := h_em) (h_dr := h_dr) (h_xp := h_xp) (h_xd := h_xd) (h_xo := h_xo) (h_xh := h_xh) (h_sd := c_hu2) (h_rc := c_hu1) (h_yp := h_yp) (h_yd := h_yd) (h_yh := h_yh) (h_t1 := h_t1) (h_t2 := h_t2) (h_t3 := h_t3) (h_t4 := h_t4) (h_zd := h_zd) (h_zr := h_zr) (h_fl := h_fl) (h_ln := h_ln) (h_kd := h_kd) (h_lo := h_lo) (h_er := h_er) (h_qk := h_qk) (h_ql := h_ql) (h_qe := h_qe) (h_wp := h_wp) (h_wd := h_wd) (h_ho := h_ho) (h_hh := h_hh) (h_so := gM_lt) (h_rp := h_rp) (h_rd := h_rd) (h_rh := h_rh) (h_sl := h_sl) (h_n := h_n) (h_nw := h_nw) (h_nh := h_nh) (h_B := h_B) (h_nr := h_nr) (h_sz := h_sz) (h_s7 := gM_7 h_n) (r_P := r_P) (r_W := r_W) (r_H := r_H) (r_R := r_R) (r_S := r_S) (r_G := r_G)⟩
        · skip
          refine CkI.mono (pkC_heard_1 (hem := h_em) (hdr := h_dr) (hwp := h_xp) (hwd := h_xd) (hho := h_xo) (hhh := h_xh) (hsd := h_sd) (hrc := h_rc) (hn := h_n) (hnw := (by first | assumption | omega)) (hnh := (by first | assumption | omega)) (hB := h_B1) (hx0 := (by first | assumption | omega)) (hd := (by first | assumption | omega))) (fun r w1 h1 => ?_)
          obtain ⟨c_u2, c_u1, ⟨rfl, c_hu2, c_hu1⟩, rfl⟩ := h1
          refine CkI.mono (pkM_heard_1 (hkd := h_kd) (hlo := h_lo) (her := h_er) (hwp := h_wp) (hwd := h_wd) (hho := h_ho) (hhh := h_hh) (hn := h_n) (hmw := (by first | assumption | omega)) (hmh := (by first | assumption | omega)) (hmm := (by decide)) (hso := h_so) (hmb := h_B1) (hs7 := h_s7) (ha := (by first | assumption | omega)) (hd := (by first | assumption | omega))) (fun r2 w2 h2 => ?_)
          obtain ⟨h2, rfl⟩ := h2
          exact ⟨h2.trans (congrArg nI (ans_heard1 h_n r_P r_W r_H hx hy).symm), inv_mk (h_em := h_em) (h_dr := h_dr) (h_xp := h_xp) (h_xd := h_xd) (h_xo := h_xo) (h_xh := h_xh) (h_sd := c_hu2) (h_rc := c_hu1) (h_yp := h_yp) (h_yd := h_yd) (h_yh := h_yh) (h_t1 := h_t1) (h_t2 := h_t2) (h_t3 := h_t3) (h_t4 := h_t4) (h_zd := h_zd) (h_zr := h_zr) (h_fl := h_fl) (h_ln := h_ln) (h_kd := h_kd) (h_lo := h_lo) (h_er := h_er) (h_qk := h_qk) (h_ql := h_ql) (h_qe := h_qe) (h_wp := h_wp) (h_wd := h_wd) (h_ho := h_ho) (h_hh := h_hh) (h_so := gM_lt) (h_rp := h_rp) (h_rd := h_rd) (h_rh := h_rh) (h_sl := h_sl) (h_n := h_n) (h_nw := h_nw) (h_nh := h_nh) (h_B := h_B) (h_nr := h_nr) (h_sz := h_sz) (h_s7 := gM_7 h_n) (r_P := r_P) (r_W := r_W) (r_H := r_H) (r_R := r_R) (r_S := r_S) (r_G := r_G)⟩
      · skip
        refine CkI.mono (pkC_heard_what (hn := h_n) (hx0 := (by first | assumption | omega)) (hd := (by first | assumption | omega)) (hx1 := (by first | assumption | omega))) (fun r w1 h1 => ?_)
        obtain ⟨rfl, rfl⟩ := h1
        refine CkI.mono (pkM_heard_o (hn := h_n) (ha := (by first | assumption | omega)) (hd := (by first | assumption | omega)) (hx1 := (by first | assumption | omega))) (fun r2 w2 h2 => ?_)
        obtain ⟨h2, rfl⟩ := h2
        exact ⟨h2.trans (rfl), inv_mk (h_em := h_em) (h_dr := h_dr) (h_xp := h_xp) (h_xd := h_xd) (h_xo := h_xo) (h_xh := h_xh) (h_sd := h_sd) (h_rc := h_rc) (h_yp := h_yp) (h_yd := h_yd) (h_yh := h_yh) (h_t1 := h_t1) (h_t2 := h_t2) (h_t3 := h_t3) (h_t4 := h_t4) (h_zd := h_zd) (h_zr := h_zr) (h_fl := h_fl) (h_ln := h_ln) (h_kd := h_kd) (h_lo := h_lo) (h_er := h_er) (h_qk := h_qk) (h_ql := h_ql) (h_qe := h_qe) (h_wp := h_wp) (h_wd := h_wd) (h_ho := h_ho) (h_hh := h_hh) (h_so := h_so) (h_rp := h_rp) (h_rd := h_rd) (h_rh := h_rh) (h_sl := h_sl) (h_n := h_n) (h_nw := h_nw) (h_nh := h_nh) (h_B := h_B) (h_nr := h_nr) (h_sz := h_sz) (h_s7 := h_s7) (r_P := r_P) (r_W := r_W) (r_H := r_H) (r_R := r_R) (r_S := r_S) (r_G := r_G)⟩
    · skip
      refine CkI.mono (pkC_heard_day (hn := h_n) (hx0 := (by first | assumption | omega)) (hx1 := (by first | assumption | omega))) (fun r w1 h1 => ?_)
      obtain ⟨rfl, rfl⟩ := h1
      refine CkI.mono (pkM_heard_d (hn := h_n) (ha := (by first | assumption | omega)) (hx1 := (by first | assumption | omega))) (fun r2 w2 h2 => ?_)
      obtain ⟨h2, rfl⟩ := h2
      exact ⟨h2.trans (rfl), inv_mk (h_em := h_em) (h_dr := h_dr) (h_xp := h_xp) (h_xd := h_xd) (h_xo := h_xo) (h_xh := h_xh) (h_sd := h_sd) (h_rc := h_rc) (h_yp := h_yp) (h_yd := h_yd) (h_yh := h_yh) (h_t1 := h_t1) (h_t2 := h_t2) (h_t3 := h_t3) (h_t4 := h_t4) (h_zd := h_zd) (h_zr := h_zr) (h_fl := h_fl) (h_ln := h_ln) (h_kd := h_kd) (h_lo := h_lo) (h_er := h_er) (h_qk := h_qk) (h_ql := h_ql) (h_qe := h_qe) (h_wp := h_wp) (h_wd := h_wd) (h_ho := h_ho) (h_hh := h_hh) (h_so := h_so) (h_rp := h_rp) (h_rd := h_rd) (h_rh := h_rh) (h_sl := h_sl) (h_n := h_n) (h_nw := h_nw) (h_nh := h_nh) (h_B := h_B) (h_nr := h_nr) (h_sz := h_sz) (h_s7 := h_s7) (r_P := r_P) (r_W := r_W) (r_H := r_H) (r_R := r_R) (r_S := r_S) (r_G := r_G)⟩
  · skip
    refine CkI.mono (pkC_heard_bad (hn := h_n) (hx1 := (by first | assumption | omega))) (fun r w1 h1 => ?_)
    obtain ⟨rfl, rfl⟩ := h1
    refine CkI.mono (pkM_heard_u (hn := h_n) (hx1 := (by first | assumption | omega))) (fun r2 w2 h2 => ?_)
    obtain ⟨h2, rfl⟩ := h2
    exact ⟨h2.trans (rfl), inv_mk (h_em := h_em) (h_dr := h_dr) (h_xp := h_xp) (h_xd := h_xd) (h_xo := h_xo) (h_xh := h_xh) (h_sd := h_sd) (h_rc := h_rc) (h_yp := h_yp) (h_yd := h_yd) (h_yh := h_yh) (h_t1 := h_t1) (h_t2 := h_t2) (h_t3 := h_t3) (h_t4 := h_t4) (h_zd := h_zd) (h_zr := h_zr) (h_fl := h_fl) (h_ln := h_ln) (h_kd := h_kd) (h_lo := h_lo) (h_er := h_er) (h_qk := h_qk) (h_ql := h_ql) (h_qe := h_qe) (h_wp := h_wp) (h_wd := h_wd) (h_ho := h_ho) (h_hh := h_hh) (h_so := h_so) (h_rp := h_rp) (h_rd := h_rd) (h_rh := h_rh) (h_sl := h_sl) (h_n := h_n) (h_nw := h_nw) (h_nh := h_nh) (h_B := h_B) (h_nr := h_nr) (h_sz := h_sz) (h_s7 := h_s7) (r_P := r_P) (r_W := r_W) (r_H := r_H) (r_R := r_R) (r_S := r_S) (r_G := r_G)⟩
set_option maxRecDepth 100000 in
theorem op_silence {l : Launch} {D : va_G} {ad : Nat → Nat} {cI cZ cS cP : ClassId} : Op_silence l D cI cZ cS cP (ad 0) (ad 36) (Inv ad cI cZ cS cP) := by
  intro w0 hJ 
  refine hJ (fun w0 => CkI l yX10_silence wsX10_silence D (kT cI cZ cS cP) (ad 0) 10 [] w0 (fun r w1 => CkI l yX11_silence wsX11_silence D (kT cI cZ cS cP) (ad 36) 11 [] w1 (fun r2 w2 => r2 = r ∧ Inv ad cI cZ cS cP w2))) ?_
  intro vpg vem vdr vn vxp vxd vxo vxh vnw vnh vB vsd vrc vyp vyd vyh vnr vt1 vt2 vt3 vt4 vtn vtm vtb vzd vzr vfl vln vsz vsf vt vft vra vrn vkd vlo ver vqk vql vqe vwp vwd vho vhh vso vrp vrd vrh vss vsl vsc vhs pa h_em h_dr h_xp h_xd h_xo h_xh h_sd h_rc h_yp h_yd h_yh h_t1 h_t2 h_t3 h_t4 h_zd h_zr h_fl h_ln h_kd h_lo h_er h_qk h_ql h_qe h_wp h_wd h_ho h_hh h_so h_rp h_rd h_rh h_sl h_n h_nw h_nh h_B h_nr h_sz h_s7 r_P r_W r_H r_R r_S r_G
  have h_B1 := B128 h_n h_B
  by_cases c0 : vn = 0
  · subst c0
    refine CkI.mono (pkC_silence_none (a1 := 0) (a2 := 0) (a3 := 0) (a4 := 0) (hn := h_n) (hn0 := rfl)) (fun r w1 h1 => ?_)
    obtain ⟨rfl, rfl⟩ := h1
    refine CkI.mono (pkM_silence_0) (fun r2 w2 h2 => ?_)
    obtain ⟨h2, rfl⟩ := h2
    exact ⟨h2.trans (rfl), inv_mk (h_em := h_em) (h_dr := h_dr) (h_xp := h_xp) (h_xd := h_xd) (h_xo := h_xo) (h_xh := h_xh) (h_sd := h_sd) (h_rc := h_rc) (h_yp := h_yp) (h_yd := h_yd) (h_yh := h_yh) (h_t1 := h_t1) (h_t2 := h_t2) (h_t3 := h_t3) (h_t4 := h_t4) (h_zd := h_zd) (h_zr := h_zr) (h_fl := h_fl) (h_ln := h_ln) (h_kd := h_kd) (h_lo := h_lo) (h_er := h_er) (h_qk := h_qk) (h_ql := h_ql) (h_qe := h_qe) (h_wp := h_wp) (h_wd := h_wd) (h_ho := h_ho) (h_hh := h_hh) (h_so := h_so) (h_rp := h_rp) (h_rd := h_rd) (h_rh := h_rh) (h_sl := h_sl) (h_n := h_n) (h_nw := h_nw) (h_nh := h_nh) (h_B := h_B) (h_nr := h_nr) (h_sz := h_sz) (h_s7 := h_s7) (r_P := r_P) (r_W := r_W) (r_H := r_H) (r_R := r_R) (r_S := r_S) (r_G := r_G)⟩
  · have c9 : 0 < vn := by omega
    refine CkI.mono (pkC_silence_ok (hem := h_em) (hdr := h_dr) (hwp := h_xp) (hwd := h_xd) (hho := h_xo) (hhh := h_xh) (hsd := h_sd) (hrc := h_rc) (hn := h_n) (hnw := (by first | assumption | omega)) (hnh := (by first | assumption | omega)) (hB := h_B1) (hn0 := (by first | assumption | omega))) (fun r w1 h1 => ?_)
    obtain ⟨c_u2, c_u1, ⟨rfl, c_hu2, c_hu1⟩, rfl⟩ := h1
    refine CkI.mono (pkM_silence_k (hkd := h_kd) (hlo := h_lo) (her := h_er) (hwp := h_wp) (hwd := h_wd) (hho := h_ho) (hhh := h_hh) (hn := h_n) (hmw := (by first | assumption | omega)) (hmh := (by first | assumption | omega)) (hmm := (by decide)) (hso := h_so) (hmb := h_B1) (hs7 := h_s7) (hn0 := (by first | assumption | omega))) (fun r2 w2 h2 => ?_)
    obtain ⟨h2, rfl⟩ := h2
    exact ⟨h2.trans (congrArg nI (k_ifc (by rw [ans_now (d := 39) h_n r_P r_W r_H (by decide)]; exact Iff.rfl))), inv_mk (h_em := h_em) (h_dr := h_dr) (h_xp := h_xp) (h_xd := h_xd) (h_xo := h_xo) (h_xh := h_xh) (h_sd := c_hu2) (h_rc := c_hu1) (h_yp := h_yp) (h_yd := h_yd) (h_yh := h_yh) (h_t1 := h_t1) (h_t2 := h_t2) (h_t3 := h_t3) (h_t4 := h_t4) (h_zd := h_zd) (h_zr := h_zr) (h_fl := h_fl) (h_ln := h_ln) (h_kd := h_kd) (h_lo := h_lo) (h_er := h_er) (h_qk := h_qk) (h_ql := h_ql) (h_qe := h_qe) (h_wp := h_wp) (h_wd := h_wd) (h_ho := h_ho) (h_hh := h_hh) (h_so := gM_lt) (h_rp := h_rp) (h_rd := h_rd) (h_rh := h_rh) (h_sl := h_sl) (h_n := h_n) (h_nw := h_nw) (h_nh := h_nh) (h_B := h_B) (h_nr := h_nr) (h_sz := h_sz) (h_s7 := gM_7 h_n) (r_P := r_P) (r_W := r_W) (r_H := r_H) (r_R := r_R) (r_S := r_S) (r_G := r_G)⟩
set_option maxRecDepth 100000 in
theorem op_noticed {l : Launch} {D : va_G} {ad : Nat → Nat} {cI cZ cS cP : ClassId} : Op_noticed l D cI cZ cS cP (ad 0) (ad 36) (Inv ad cI cZ cS cP) := by
  intro w0 hJ 
  refine hJ (fun w0 => CkI l yX10_noticed wsX10_noticed D (kT cI cZ cS cP) (ad 0) 10 [] w0 (fun r w1 => CkI l yX11_noticed wsX11_noticed D (kT cI cZ cS cP) (ad 36) 11 [] w1 (fun r2 w2 => r2 = r ∧ Inv ad cI cZ cS cP w2))) ?_
  intro vpg vem vdr vn vxp vxd vxo vxh vnw vnh vB vsd vrc vyp vyd vyh vnr vt1 vt2 vt3 vt4 vtn vtm vtb vzd vzr vfl vln vsz vsf vt vft vra vrn vkd vlo ver vqk vql vqe vwp vwd vho vhh vso vrp vrd vrh vss vsl vsc vhs pa h_em h_dr h_xp h_xd h_xo h_xh h_sd h_rc h_yp h_yd h_yh h_t1 h_t2 h_t3 h_t4 h_zd h_zr h_fl h_ln h_kd h_lo h_er h_qk h_ql h_qe h_wp h_wd h_ho h_hh h_so h_rp h_rd h_rh h_sl h_n h_nw h_nh h_B h_nr h_sz h_s7 r_P r_W r_H r_R r_S r_G
  have h_B1 := B128 h_n h_B
  by_cases c0 : vn = 0
  · subst c0
    refine CkI.mono (pkC_noticed_none (a1 := 0) (a2 := 0) (a3 := 0) (a4 := 0) (hn := h_n) (hn0 := rfl)) (fun r w1 h1 => ?_)
    obtain ⟨rfl, rfl⟩ := h1
    refine CkI.mono (pkM_noticed_0) (fun r2 w2 h2 => ?_)
    obtain ⟨h2, rfl⟩ := h2
    exact ⟨h2.trans (rfl), inv_mk (h_em := h_em) (h_dr := h_dr) (h_xp := h_xp) (h_xd := h_xd) (h_xo := h_xo) (h_xh := h_xh) (h_sd := h_sd) (h_rc := h_rc) (h_yp := h_yp) (h_yd := h_yd) (h_yh := h_yh) (h_t1 := h_t1) (h_t2 := h_t2) (h_t3 := h_t3) (h_t4 := h_t4) (h_zd := h_zd) (h_zr := h_zr) (h_fl := h_fl) (h_ln := h_ln) (h_kd := h_kd) (h_lo := h_lo) (h_er := h_er) (h_qk := h_qk) (h_ql := h_ql) (h_qe := h_qe) (h_wp := h_wp) (h_wd := h_wd) (h_ho := h_ho) (h_hh := h_hh) (h_so := h_so) (h_rp := h_rp) (h_rd := h_rd) (h_rh := h_rh) (h_sl := h_sl) (h_n := h_n) (h_nw := h_nw) (h_nh := h_nh) (h_B := h_B) (h_nr := h_nr) (h_sz := h_sz) (h_s7 := h_s7) (r_P := r_P) (r_W := r_W) (r_H := r_H) (r_R := r_R) (r_S := r_S) (r_G := r_G)⟩
  · have c9 : 0 < vn := by omega
    refine CkI.mono (pkC_noticed_ok (hem := h_em) (hdr := h_dr) (hwp := h_xp) (hwd := h_xd) (hho := h_xo) (hhh := h_xh) (hsd := h_sd) (hrc := h_rc) (hn := h_n) (hnw := (by first | assumption | omega)) (hnh := (by first | assumption | omega)) (hB := h_B1) (hn0 := (by first | assumption | omega))) (fun r w1 h1 => ?_)
    obtain ⟨c_u2, c_u1, ⟨rfl, c_hu2, c_hu1⟩, rfl⟩ := h1
    refine CkI.mono (pkM_noticed_k (hkd := h_kd) (hlo := h_lo) (her := h_er) (hwp := h_wp) (hwd := h_wd) (hho := h_ho) (hhh := h_hh) (hn := h_n) (hmw := (by first | assumption | omega)) (hmh := (by first | assumption | omega)) (hmm := (by decide)) (hso := h_so) (hmb := h_B1) (hs7 := h_s7) (hn0 := (by first | assumption | omega))) (fun r2 w2 h2 => ?_)
    obtain ⟨h2, rfl⟩ := h2
    exact ⟨h2.trans ((ans_noticed h_n r_P r_W r_H).symm), inv_mk (h_em := h_em) (h_dr := h_dr) (h_xp := h_xp) (h_xd := h_xd) (h_xo := h_xo) (h_xh := h_xh) (h_sd := c_hu2) (h_rc := c_hu1) (h_yp := h_yp) (h_yd := h_yd) (h_yh := h_yh) (h_t1 := h_t1) (h_t2 := h_t2) (h_t3 := h_t3) (h_t4 := h_t4) (h_zd := h_zd) (h_zr := h_zr) (h_fl := h_fl) (h_ln := h_ln) (h_kd := h_kd) (h_lo := h_lo) (h_er := h_er) (h_qk := h_qk) (h_ql := h_ql) (h_qe := h_qe) (h_wp := h_wp) (h_wd := h_wd) (h_ho := h_ho) (h_hh := h_hh) (h_so := gM_lt) (h_rp := h_rp) (h_rd := h_rd) (h_rh := h_rh) (h_sl := h_sl) (h_n := h_n) (h_nw := h_nw) (h_nh := h_nh) (h_B := h_B) (h_nr := h_nr) (h_sz := h_sz) (h_s7 := gM_7 h_n) (r_P := r_P) (r_W := r_W) (r_H := r_H) (r_R := r_R) (r_S := r_S) (r_G := r_G)⟩
set_option maxRecDepth 100000 in
theorem op_fewest {l : Launch} {D : va_G} {ad : Nat → Nat} {cI cZ cS cP : ClassId} : Op_fewest l D cI cZ cS cP (ad 0) (ad 36) (Inv ad cI cZ cS cP) := by
  intro w0 hJ 
  refine hJ (fun w0 => CkI l yX10_fewest wsX10_fewest D (kT cI cZ cS cP) (ad 0) 10 [] w0 (fun r w1 => CkI l yX11_fewest wsX11_fewest D (kT cI cZ cS cP) (ad 36) 11 [] w1 (fun r2 w2 => r2 = r ∧ Inv ad cI cZ cS cP w2))) ?_
  intro vpg vem vdr vn vxp vxd vxo vxh vnw vnh vB vsd vrc vyp vyd vyh vnr vt1 vt2 vt3 vt4 vtn vtm vtb vzd vzr vfl vln vsz vsf vt vft vra vrn vkd vlo ver vqk vql vqe vwp vwd vho vhh vso vrp vrd vrh vss vsl vsc vhs pa h_em h_dr h_xp h_xd h_xo h_xh h_sd h_rc h_yp h_yd h_yh h_t1 h_t2 h_t3 h_t4 h_zd h_zr h_fl h_ln h_kd h_lo h_er h_qk h_ql h_qe h_wp h_wd h_ho h_hh h_so h_rp h_rd h_rh h_sl h_n h_nw h_nh h_B h_nr h_sz h_s7 r_P r_W r_H r_R r_S r_G
  have h_B1 := B128 h_n h_B
  by_cases c0 : vn = 0
  · subst c0
    refine CkI.mono (pkC_fewest_none (hn := h_n) (hn0 := rfl)) (fun r w1 h1 => ?_)
    obtain ⟨rfl, rfl⟩ := h1
    refine CkI.mono (pkM_fewest_0) (fun r2 w2 h2 => ?_)
    obtain ⟨h2, rfl⟩ := h2
    exact ⟨h2.trans (rfl), inv_mk (h_em := h_em) (h_dr := h_dr) (h_xp := h_xp) (h_xd := h_xd) (h_xo := h_xo) (h_xh := h_xh) (h_sd := h_sd) (h_rc := h_rc) (h_yp := h_yp) (h_yd := h_yd) (h_yh := h_yh) (h_t1 := h_t1) (h_t2 := h_t2) (h_t3 := h_t3) (h_t4 := h_t4) (h_zd := h_zd) (h_zr := h_zr) (h_fl := h_fl) (h_ln := h_ln) (h_kd := h_kd) (h_lo := h_lo) (h_er := h_er) (h_qk := h_qk) (h_ql := h_ql) (h_qe := h_qe) (h_wp := h_wp) (h_wd := h_wd) (h_ho := h_ho) (h_hh := h_hh) (h_so := h_so) (h_rp := h_rp) (h_rd := h_rd) (h_rh := h_rh) (h_sl := h_sl) (h_n := h_n) (h_nw := h_nw) (h_nh := h_nh) (h_B := h_B) (h_nr := h_nr) (h_sz := h_sz) (h_s7 := h_s7) (r_P := r_P) (r_W := r_W) (r_H := r_H) (r_R := r_R) (r_S := r_S) (r_G := r_G)⟩
  · have c9 : 0 < vn := by omega
    refine CkI.mono (pkC_fewest_ok (hem := h_em) (hdr := h_dr) (hwp := h_t1) (hwd := h_t2) (hho := h_t3) (hhh := h_t4) (hxp := h_xp) (hxd := h_xd) (hxo := h_xo) (hxh := h_xh) (hsd := h_zd) (hrc := h_zr) (hn := h_n) (hmw := (by first | assumption | omega)) (hmh := (by first | assumption | omega)) (hC := h_B1) (hn0 := (by first | assumption | omega))) (fun r w1 h1 => ?_)
    obtain ⟨c_e1, c_e2, c_e3, c_e4, c_e5, c_e6, c_e7, c_e8, c_e9, ⟨rfl, c_he1, c_he2, c_he3, c_he4, c_he8, c_he9⟩, rfl⟩ := h1
    refine CkI.mono (pkM_fewest_k (hkd := h_kd) (hlo := h_lo) (her := h_er) (hwp := h_wp) (hwd := h_wd) (hho := h_ho) (hhh := h_hh) (hn := h_n) (hmw := (by first | assumption | omega)) (hmh := (by first | assumption | omega)) (hmm := (by decide)) (hso := h_so) (hmb := h_B1) (hs7 := h_s7) (hn0 := (by first | assumption | omega))) (fun r2 w2 h2 => ?_)
    obtain ⟨m_e1, ⟨h2, m_he1, m_hes⟩, rfl⟩ := h2
    exact ⟨h2.trans ((ans_fewest h_n r_P r_W r_H h_B).symm), inv_mk (h_em := h_em) (h_dr := h_dr) (h_xp := h_xp) (h_xd := h_xd) (h_xo := h_xo) (h_xh := h_xh) (h_sd := h_sd) (h_rc := h_rc) (h_yp := h_yp) (h_yd := h_yd) (h_yh := h_yh) (h_t1 := c_he1) (h_t2 := c_he2) (h_t3 := c_he3) (h_t4 := c_he4) (h_zd := c_he8) (h_zr := c_he9) (h_fl := h_fl) (h_ln := h_ln) (h_kd := h_kd) (h_lo := h_lo) (h_er := h_er) (h_qk := h_qk) (h_ql := h_ql) (h_qe := h_qe) (h_wp := h_wp) (h_wd := h_wd) (h_ho := h_ho) (h_hh := h_hh) (h_so := m_he1) (h_rp := h_rp) (h_rd := h_rd) (h_rh := h_rh) (h_sl := h_sl) (h_n := h_n) (h_nw := h_nw) (h_nh := h_nh) (h_B := h_B) (h_nr := h_nr) (h_sz := h_sz) (h_s7 := m_hes) (r_P := r_P) (r_W := r_W) (r_H := r_H) (r_R := r_R) (r_S := r_S) (r_G := r_G)⟩
set_option maxRecDepth 100000 in
theorem op_bribes {l : Launch} {D : va_G} {ad : Nat → Nat} {cI cZ cS cP : ClassId} : Op_bribes l D cI cZ cS cP (ad 0) (ad 36) (Inv ad cI cZ cS cP) := by
  intro w0 hJ a1
  refine hJ (fun w0 => CkI l yX10_bribes wsX10_bribes D (kT cI cZ cS cP) (ad 0) 10 [.int a1] w0 (fun r w1 => CkI l yX11_bribes wsX11_bribes D (kT cI cZ cS cP) (ad 36) 11 [.int a1] w1 (fun r2 w2 => r2 = r ∧ Inv ad cI cZ cS cP w2))) ?_
  intro vpg vem vdr vn vxp vxd vxo vxh vnw vnh vB vsd vrc vyp vyd vyh vnr vt1 vt2 vt3 vt4 vtn vtm vtb vzd vzr vfl vln vsz vsf vt vft vra vrn vkd vlo ver vqk vql vqe vwp vwd vho vhh vso vrp vrd vrh vss vsl vsc vhs pa h_em h_dr h_xp h_xd h_xo h_xh h_sd h_rc h_yp h_yd h_yh h_t1 h_t2 h_t3 h_t4 h_zd h_zr h_fl h_ln h_kd h_lo h_er h_qk h_ql h_qe h_wp h_wd h_ho h_hh h_so h_rp h_rd h_rh h_sl h_n h_nw h_nh h_B h_nr h_sz h_s7 r_P r_W r_H r_R r_S r_G
  have h_B1 := B128 h_n h_B
  by_cases c1 : inR a1 vn
  · obtain ⟨x, hx, rfl⟩ := inR_nat c1
    refine CkI.mono (pkC_bribes_ok (hem := h_em) (hdr := h_dr) (hwp := h_t1) (hwd := h_t2) (hho := h_t3) (hhh := h_t4) (hxp := h_xp) (hxd := h_xd) (hxo := h_xo) (hxh := h_xh) (hsd := h_zd) (hrc := h_zr) (hn := h_n) (hmw := (by first | assumption | omega)) (hmh := (by first | assumption | omega)) (hC := h_B1) (hx1 := (by first | assumption | omega))) (fun r w1 h1 => ?_)
    obtain ⟨c_e1, c_e2, c_e3, c_e4, c_e5, c_e6, c_e7, c_e8, c_e9, ⟨rfl, c_he1, c_he2, c_he3, c_he4, c_he8, c_he9⟩, rfl⟩ := h1
    refine CkI.mono (pkM_bribes_k (hkd := h_kd) (hlo := h_lo) (her := h_er) (hwp := h_wp) (hwd := h_wd) (hho := h_ho) (hhh := h_hh) (hn := h_n) (hmw := (by first | assumption | omega)) (hmh := (by first | assumption | omega)) (hmm := (by decide)) (hso := h_so) (hmb := h_B1) (hs7 := h_s7) (ha := (by first | assumption | omega))) (fun r2 w2 h2 => ?_)
    obtain ⟨m_e1, ⟨h2, m_he1, m_hes⟩, rfl⟩ := h2
    exact ⟨h2.trans ((ans_bribes h_n r_P r_W r_H h_B hx).symm), inv_mk (h_em := h_em) (h_dr := h_dr) (h_xp := h_xp) (h_xd := h_xd) (h_xo := h_xo) (h_xh := h_xh) (h_sd := h_sd) (h_rc := h_rc) (h_yp := h_yp) (h_yd := h_yd) (h_yh := h_yh) (h_t1 := c_he1) (h_t2 := c_he2) (h_t3 := c_he3) (h_t4 := c_he4) (h_zd := c_he8) (h_zr := c_he9) (h_fl := h_fl) (h_ln := h_ln) (h_kd := h_kd) (h_lo := h_lo) (h_er := h_er) (h_qk := h_qk) (h_ql := h_ql) (h_qe := h_qe) (h_wp := h_wp) (h_wd := h_wd) (h_ho := h_ho) (h_hh := h_hh) (h_so := m_he1) (h_rp := h_rp) (h_rd := h_rd) (h_rh := h_rh) (h_sl := h_sl) (h_n := h_n) (h_nw := h_nw) (h_nh := h_nh) (h_B := h_B) (h_nr := h_nr) (h_sz := h_sz) (h_s7 := m_hes) (r_P := r_P) (r_W := r_W) (r_H := r_H) (r_R := r_R) (r_S := r_S) (r_G := r_G)⟩
  · skip
    refine CkI.mono (pkC_bribes_bad (hn := h_n) (hx1 := (by first | assumption | omega))) (fun r w1 h1 => ?_)
    obtain ⟨rfl, rfl⟩ := h1
    refine CkI.mono (pkM_bribes_u (hn := h_n) (hx1 := (by first | assumption | omega))) (fun r2 w2 h2 => ?_)
    obtain ⟨h2, rfl⟩ := h2
    exact ⟨h2.trans (rfl), inv_mk (h_em := h_em) (h_dr := h_dr) (h_xp := h_xp) (h_xd := h_xd) (h_xo := h_xo) (h_xh := h_xh) (h_sd := h_sd) (h_rc := h_rc) (h_yp := h_yp) (h_yd := h_yd) (h_yh := h_yh) (h_t1 := h_t1) (h_t2 := h_t2) (h_t3 := h_t3) (h_t4 := h_t4) (h_zd := h_zd) (h_zr := h_zr) (h_fl := h_fl) (h_ln := h_ln) (h_kd := h_kd) (h_lo := h_lo) (h_er := h_er) (h_qk := h_qk) (h_ql := h_ql) (h_qe := h_qe) (h_wp := h_wp) (h_wd := h_wd) (h_ho := h_ho) (h_hh := h_hh) (h_so := h_so) (h_rp := h_rp) (h_rd := h_rd) (h_rh := h_rh) (h_sl := h_sl) (h_n := h_n) (h_nw := h_nw) (h_nh := h_nh) (h_B := h_B) (h_nr := h_nr) (h_sz := h_sz) (h_s7 := h_s7) (r_P := r_P) (r_W := r_W) (r_H := r_H) (r_R := r_R) (r_S := r_S) (r_G := r_G)⟩
set_option maxRecDepth 100000 in
theorem op_whispers {l : Launch} {D : va_G} {ad : Nat → Nat} {cI cZ cS cP : ClassId} : Op_whispers l D cI cZ cS cP (ad 0) (ad 36) (Inv ad cI cZ cS cP) := by
  intro w0 hJ a1
  refine hJ (fun w0 => CkI l yX10_whispers wsX10_whispers D (kT cI cZ cS cP) (ad 0) 10 [.int a1] w0 (fun r w1 => CkI l yX11_whispers wsX11_whispers D (kT cI cZ cS cP) (ad 36) 11 [.int a1] w1 (fun r2 w2 => r2 = r ∧ Inv ad cI cZ cS cP w2))) ?_
  intro vpg vem vdr vn vxp vxd vxo vxh vnw vnh vB vsd vrc vyp vyd vyh vnr vt1 vt2 vt3 vt4 vtn vtm vtb vzd vzr vfl vln vsz vsf vt vft vra vrn vkd vlo ver vqk vql vqe vwp vwd vho vhh vso vrp vrd vrh vss vsl vsc vhs pa h_em h_dr h_xp h_xd h_xo h_xh h_sd h_rc h_yp h_yd h_yh h_t1 h_t2 h_t3 h_t4 h_zd h_zr h_fl h_ln h_kd h_lo h_er h_qk h_ql h_qe h_wp h_wd h_ho h_hh h_so h_rp h_rd h_rh h_sl h_n h_nw h_nh h_B h_nr h_sz h_s7 r_P r_W r_H r_R r_S r_G
  have h_B1 := B128 h_n h_B
  by_cases c1 : inR a1 2
  · by_cases c0 : vn = 0
    · subst c0
      obtain ⟨x, hx, rfl⟩ := inR_nat c1
      refine CkI.mono (pkC_whispers_none (hn := h_n) (hn0 := rfl) (hx1 := (by first | assumption | omega))) (fun r w1 h1 => ?_)
      obtain ⟨rfl, rfl⟩ := h1
      refine CkI.mono (pkM_whispers_0 (hx1 := (by first | assumption | omega))) (fun r2 w2 h2 => ?_)
      obtain ⟨h2, rfl⟩ := h2
      exact ⟨h2.trans (rfl), inv_mk (h_em := h_em) (h_dr := h_dr) (h_xp := h_xp) (h_xd := h_xd) (h_xo := h_xo) (h_xh := h_xh) (h_sd := h_sd) (h_rc := h_rc) (h_yp := h_yp) (h_yd := h_yd) (h_yh := h_yh) (h_t1 := h_t1) (h_t2 := h_t2) (h_t3 := h_t3) (h_t4 := h_t4) (h_zd := h_zd) (h_zr := h_zr) (h_fl := h_fl) (h_ln := h_ln) (h_kd := h_kd) (h_lo := h_lo) (h_er := h_er) (h_qk := h_qk) (h_ql := h_ql) (h_qe := h_qe) (h_wp := h_wp) (h_wd := h_wd) (h_ho := h_ho) (h_hh := h_hh) (h_so := h_so) (h_rp := h_rp) (h_rd := h_rd) (h_rh := h_rh) (h_sl := h_sl) (h_n := h_n) (h_nw := h_nw) (h_nh := h_nh) (h_B := h_B) (h_nr := h_nr) (h_sz := h_sz) (h_s7 := h_s7) (r_P := r_P) (r_W := r_W) (r_H := r_H) (r_R := r_R) (r_S := r_S) (r_G := r_G)⟩
    · have c9 : 0 < vn := by omega
      rcases in2 c1 with rfl | rfl
      · skip
        refine CkI.mono (pkC_whispers_0 (hem := h_em) (hdr := h_dr) (hwp := h_t1) (hwd := h_t2) (hho := h_t3) (hhh := h_t4) (hxp := h_xp) (hxd := h_xd) (hxo := h_xo) (hxh := h_xh) (hsd := h_zd) (hrc := h_zr) (hn := h_n) (hmw := (by first | assumption | omega)) (hmh := (by first | assumption | omega)) (hC := h_B1) (hn0 := (by first | assumption | omega))) (fun r w1 h1 => ?_)
        obtain ⟨c_e1, c_e2, c_e3, c_e4, c_e5, c_e6, c_e7, c_e8, c_e9, ⟨rfl, c_he1, c_he2, c_he3, c_he4, c_he8, c_he9⟩, rfl⟩ := h1
        refine CkI.mono (pkM_whispers_k0 (hkd := h_kd) (hlo := h_lo) (her := h_er) (hwp := h_wp) (hwd := h_wd) (hho := h_ho) (hhh := h_hh) (hn := h_n) (hmw := (by first | assumption | omega)) (hmh := (by first | assumption | omega)) (hmm := (by decide)) (hso := h_so) (hmb := h_B1) (hs7 := h_s7) (hn0 := (by first | assumption | omega)) (hh6 := (by first | assumption | omega))) (fun r2 w2 h2 => ?_)
        obtain ⟨m_e1, m_e2, m_e3, ⟨h2, m_he1, m_hes, m_he2, m_he3⟩, rfl⟩ := h2
        exact ⟨h2.trans (congrArg (fun z => oD z.1) (ans_whispers h_n r_P r_W r_H).symm), inv_mk (h_em := h_em) (h_dr := h_dr) (h_xp := h_xp) (h_xd := h_xd) (h_xo := h_xo) (h_xh := h_xh) (h_sd := h_sd) (h_rc := h_rc) (h_yp := h_yp) (h_yd := h_yd) (h_yh := h_yh) (h_t1 := c_he1) (h_t2 := c_he2) (h_t3 := c_he3) (h_t4 := c_he4) (h_zd := c_he8) (h_zr := c_he9) (h_fl := h_fl) (h_ln := h_ln) (h_kd := h_kd) (h_lo := h_lo) (h_er := h_er) (h_qk := h_qk) (h_ql := h_ql) (h_qe := h_qe) (h_wp := h_wp) (h_wd := h_wd) (h_ho := (up_lt h_ho m_he2)) (h_hh := (up_lt h_hh m_he3)) (h_so := m_he1) (h_rp := h_rp) (h_rd := h_rd) (h_rh := h_rh) (h_sl := h_sl) (h_n := h_n) (h_nw := h_nw) (h_nh := h_nh) (h_B := h_B) (h_nr := h_nr) (h_sz := h_sz) (h_s7 := m_hes) (r_P := r_P) (r_W := r_W) (r_H := (relH_keep r_H)) (r_R := r_R) (r_S := r_S) (r_G := r_G)⟩
      · skip
        refine CkI.mono (pkC_whispers_1 (hem := h_em) (hdr := h_dr) (hwp := h_t1) (hwd := h_t2) (hho := h_t3) (hhh := h_t4) (hxp := h_xp) (hxd := h_xd) (hxo := h_xo) (hxh := h_xh) (hsd := h_zd) (hrc := h_zr) (hn := h_n) (hmw := (by first | assumption | omega)) (hmh := (by first | assumption | omega)) (hC := h_B1) (hn0 := (by first | assumption | omega))) (fun r w1 h1 => ?_)
        obtain ⟨c_e1, c_e2, c_e3, c_e4, c_e5, c_e6, c_e7, c_e8, c_e9, ⟨rfl, c_he1, c_he2, c_he3, c_he4, c_he8, c_he9⟩, rfl⟩ := h1
        refine CkI.mono (pkM_whispers_k1 (hkd := h_kd) (hlo := h_lo) (her := h_er) (hwp := h_wp) (hwd := h_wd) (hho := h_ho) (hhh := h_hh) (hn := h_n) (hmw := (by first | assumption | omega)) (hmh := (by first | assumption | omega)) (hmm := (by decide)) (hso := h_so) (hmb := h_B1) (hs7 := h_s7) (hn0 := (by first | assumption | omega)) (hh6 := (by first | assumption | omega))) (fun r2 w2 h2 => ?_)
        obtain ⟨m_e1, m_e2, m_e3, ⟨h2, m_he1, m_hes, m_he2, m_he3⟩, rfl⟩ := h2
        exact ⟨h2.trans (congrArg (fun z => nI z.2) (ans_whispers h_n r_P r_W r_H).symm), inv_mk (h_em := h_em) (h_dr := h_dr) (h_xp := h_xp) (h_xd := h_xd) (h_xo := h_xo) (h_xh := h_xh) (h_sd := h_sd) (h_rc := h_rc) (h_yp := h_yp) (h_yd := h_yd) (h_yh := h_yh) (h_t1 := c_he1) (h_t2 := c_he2) (h_t3 := c_he3) (h_t4 := c_he4) (h_zd := c_he8) (h_zr := c_he9) (h_fl := h_fl) (h_ln := h_ln) (h_kd := h_kd) (h_lo := h_lo) (h_er := h_er) (h_qk := h_qk) (h_ql := h_ql) (h_qe := h_qe) (h_wp := h_wp) (h_wd := h_wd) (h_ho := (up_lt h_ho m_he2)) (h_hh := (up_lt h_hh m_he3)) (h_so := m_he1) (h_rp := h_rp) (h_rd := h_rd) (h_rh := h_rh) (h_sl := h_sl) (h_n := h_n) (h_nw := h_nw) (h_nh := h_nh) (h_B := h_B) (h_nr := h_nr) (h_sz := h_sz) (h_s7 := m_hes) (r_P := r_P) (r_W := r_W) (r_H := (relH_keep r_H)) (r_R := r_R) (r_S := r_S) (r_G := r_G)⟩
  · skip
    refine CkI.mono (pkC_whispers_bad (s1 := 0) (s2 := 0) (s3 := 0) (em := (fun _ => 0)) (dr := (fun _ => 0)) (n := 0) (hx1 := (by first | assumption | omega))) (fun r w1 h1 => ?_)
    obtain ⟨rfl, rfl⟩ := h1
    refine CkI.mono (pkM_whispers_o (hx1 := (by first | assumption | omega))) (fun r2 w2 h2 => ?_)
    obtain ⟨h2, rfl⟩ := h2
    exact ⟨h2.trans (rfl), inv_mk (h_em := h_em) (h_dr := h_dr) (h_xp := h_xp) (h_xd := h_xd) (h_xo := h_xo) (h_xh := h_xh) (h_sd := h_sd) (h_rc := h_rc) (h_yp := h_yp) (h_yd := h_yd) (h_yh := h_yh) (h_t1 := h_t1) (h_t2 := h_t2) (h_t3 := h_t3) (h_t4 := h_t4) (h_zd := h_zd) (h_zr := h_zr) (h_fl := h_fl) (h_ln := h_ln) (h_kd := h_kd) (h_lo := h_lo) (h_er := h_er) (h_qk := h_qk) (h_ql := h_ql) (h_qe := h_qe) (h_wp := h_wp) (h_wd := h_wd) (h_ho := h_ho) (h_hh := h_hh) (h_so := h_so) (h_rp := h_rp) (h_rd := h_rd) (h_rh := h_rh) (h_sl := h_sl) (h_n := h_n) (h_nw := h_nw) (h_nh := h_nh) (h_B := h_B) (h_nr := h_nr) (h_sz := h_sz) (h_s7 := h_s7) (r_P := r_P) (r_W := r_W) (r_H := r_H) (r_R := r_R) (r_S := r_S) (r_G := r_G)⟩
set_option maxRecDepth 100000 in
theorem op_worth {l : Launch} {D : va_G} {ad : Nat → Nat} {cI cZ cS cP : ClassId} : Op_worth l D cI cZ cS cP (ad 0) (ad 36) (Inv ad cI cZ cS cP) := by
  intro w0 hJ a1
  refine hJ (fun w0 => CkI l yX10_worth wsX10_worth D (kT cI cZ cS cP) (ad 0) 10 [.int a1] w0 (fun r w1 => CkI l yX11_worth wsX11_worth D (kT cI cZ cS cP) (ad 36) 11 [.int a1] w1 (fun r2 w2 => r2 = r ∧ Inv ad cI cZ cS cP w2))) ?_
  intro vpg vem vdr vn vxp vxd vxo vxh vnw vnh vB vsd vrc vyp vyd vyh vnr vt1 vt2 vt3 vt4 vtn vtm vtb vzd vzr vfl vln vsz vsf vt vft vra vrn vkd vlo ver vqk vql vqe vwp vwd vho vhh vso vrp vrd vrh vss vsl vsc vhs pa h_em h_dr h_xp h_xd h_xo h_xh h_sd h_rc h_yp h_yd h_yh h_t1 h_t2 h_t3 h_t4 h_zd h_zr h_fl h_ln h_kd h_lo h_er h_qk h_ql h_qe h_wp h_wd h_ho h_hh h_so h_rp h_rd h_rh h_sl h_n h_nw h_nh h_B h_nr h_sz h_s7 r_P r_W r_H r_R r_S r_G
  have h_B1 := B128 h_n h_B
  by_cases c1 : inR a1 vnw
  · obtain ⟨x, hx, rfl⟩ := inR_nat c1
    refine CkI.mono (pkC_worth_ok (hem := h_em) (hdr := h_dr) (hwp := h_t1) (hwd := h_t2) (hho := h_t3) (hhh := h_t4) (hxp := h_xp) (hxd := h_xd) (hxo := h_xo) (hxh := h_xh) (hsd := h_zd) (hrc := h_zr) (hn := h_n) (hmw := (by first | assumption | omega)) (hmh := (by first | assumption | omega)) (hC := h_B1) (hk1 := (by first | assumption | omega))) (fun r w1 h1 => ?_)
    obtain ⟨c_e1, c_e2, c_e3, c_e4, c_e5, c_e6, c_e7, c_e8, c_e9, ⟨rfl, c_he1, c_he2, c_he3, c_he4, c_he8, c_he9⟩, rfl⟩ := h1
    refine CkI.mono (pkM_worth_k (hkd := h_kd) (hlo := h_lo) (her := h_er) (hwp := h_wp) (hwd := h_wd) (hho := h_ho) (hhh := h_hh) (hn := h_n) (hmw := (by first | assumption | omega)) (hmh := (by first | assumption | omega)) (hmm := (by decide)) (hso := h_so) (hmb := h_B1) (hs7 := h_s7) (hk1 := (by first | assumption | omega))) (fun r2 w2 h2 => ?_)
    obtain ⟨h2, rfl⟩ := h2
    exact ⟨h2.trans ((ans_worth h_n r_P r_W r_H hx).symm), inv_mk (h_em := h_em) (h_dr := h_dr) (h_xp := h_xp) (h_xd := h_xd) (h_xo := h_xo) (h_xh := h_xh) (h_sd := h_sd) (h_rc := h_rc) (h_yp := h_yp) (h_yd := h_yd) (h_yh := h_yh) (h_t1 := c_he1) (h_t2 := c_he2) (h_t3 := c_he3) (h_t4 := c_he4) (h_zd := c_he8) (h_zr := c_he9) (h_fl := h_fl) (h_ln := h_ln) (h_kd := h_kd) (h_lo := h_lo) (h_er := h_er) (h_qk := h_qk) (h_ql := h_ql) (h_qe := h_qe) (h_wp := h_wp) (h_wd := h_wd) (h_ho := h_ho) (h_hh := h_hh) (h_so := gM_lt) (h_rp := h_rp) (h_rd := h_rd) (h_rh := h_rh) (h_sl := h_sl) (h_n := h_n) (h_nw := h_nw) (h_nh := h_nh) (h_B := h_B) (h_nr := h_nr) (h_sz := h_sz) (h_s7 := (gM_7 h_n)) (r_P := r_P) (r_W := r_W) (r_H := r_H) (r_R := r_R) (r_S := r_S) (r_G := r_G)⟩
  · skip
    refine CkI.mono (pkC_worth_bad (s1 := 0) (s2 := 0) (s3 := 0) (em := (fun _ => 0)) (dr := (fun _ => 0)) (n := 0) (hT := 0) (a1 := 0) (a2 := 0) (a3 := 0) (a4 := 0) (wp := (fun _ => 0)) (wd := (fun _ => 0)) (ho := (fun _ => 0)) (hh := (fun _ => 0)) (nw := 0) (nh := 0) (B := 0) (hY := 0) (y1 := 0) (y2 := 0) (sd := (fun _ => 0)) (rc := (fun _ => 0)) (hmw := (by first | assumption | omega)) (hx1 := (by first | assumption | omega))) (fun r w1 h1 => ?_)
    obtain ⟨rfl, rfl⟩ := h1
    refine CkI.mono (pkM_worth_u (hmw := (by first | assumption | omega)) (hx1 := (by first | assumption | omega))) (fun r2 w2 h2 => ?_)
    obtain ⟨h2, rfl⟩ := h2
    exact ⟨h2.trans (rfl), inv_mk (h_em := h_em) (h_dr := h_dr) (h_xp := h_xp) (h_xd := h_xd) (h_xo := h_xo) (h_xh := h_xh) (h_sd := h_sd) (h_rc := h_rc) (h_yp := h_yp) (h_yd := h_yd) (h_yh := h_yh) (h_t1 := h_t1) (h_t2 := h_t2) (h_t3 := h_t3) (h_t4 := h_t4) (h_zd := h_zd) (h_zr := h_zr) (h_fl := h_fl) (h_ln := h_ln) (h_kd := h_kd) (h_lo := h_lo) (h_er := h_er) (h_qk := h_qk) (h_ql := h_ql) (h_qe := h_qe) (h_wp := h_wp) (h_wd := h_wd) (h_ho := h_ho) (h_hh := h_hh) (h_so := h_so) (h_rp := h_rp) (h_rd := h_rd) (h_rh := h_rh) (h_sl := h_sl) (h_n := h_n) (h_nw := h_nw) (h_nh := h_nh) (h_B := h_B) (h_nr := h_nr) (h_sz := h_sz) (h_s7 := h_s7) (r_P := r_P) (r_W := r_W) (r_H := r_H) (r_R := r_R) (r_S := r_S) (r_G := r_G)⟩
set_option maxRecDepth 100000 in
theorem op_where {l : Launch} {D : va_G} {ad : Nat → Nat} {cI cZ cS cP : ClassId} : Op_where l D cI cZ cS cP (ad 0) (ad 36) (Inv ad cI cZ cS cP) := by
  intro w0 hJ a1
  refine hJ (fun w0 => CkI l yX10_where wsX10_where D (kT cI cZ cS cP) (ad 0) 10 [.int a1] w0 (fun r w1 => CkI l yX11_where wsX11_where D (kT cI cZ cS cP) (ad 36) 11 [.int a1] w1 (fun r2 w2 => r2 = r ∧ Inv ad cI cZ cS cP w2))) ?_
  intro vpg vem vdr vn vxp vxd vxo vxh vnw vnh vB vsd vrc vyp vyd vyh vnr vt1 vt2 vt3 vt4 vtn vtm vtb vzd vzr vfl vln vsz vsf vt vft vra vrn vkd vlo ver vqk vql vqe vwp vwd vho vhh vso vrp vrd vrh vss vsl vsc vhs pa h_em h_dr h_xp h_xd h_xo h_xh h_sd h_rc h_yp h_yd h_yh h_t1 h_t2 h_t3 h_t4 h_zd h_zr h_fl h_ln h_kd h_lo h_er h_qk h_ql h_qe h_wp h_wd h_ho h_hh h_so h_rp h_rd h_rh h_sl h_n h_nw h_nh h_B h_nr h_sz h_s7 r_P r_W r_H r_R r_S r_G
  have h_B1 := B128 h_n h_B
  by_cases c1 : inR a1 40
  · obtain ⟨x, hx, rfl⟩ := inR_nat c1
    by_cases c0 : vn = 0
    · subst c0
      refine CkI.mono (pkC_where_none (hn := h_n) (hn0 := rfl) (hx1 := (by first | assumption | omega))) (fun r w1 h1 => ?_)
      obtain ⟨rfl, rfl⟩ := h1
      refine CkI.mono (pkM_where_0 (hd := (by first | assumption | omega))) (fun r2 w2 h2 => ?_)
      obtain ⟨h2, rfl⟩ := h2
      exact ⟨h2.trans (rfl), inv_mk (h_em := h_em) (h_dr := h_dr) (h_xp := h_xp) (h_xd := h_xd) (h_xo := h_xo) (h_xh := h_xh) (h_sd := h_sd) (h_rc := h_rc) (h_yp := h_yp) (h_yd := h_yd) (h_yh := h_yh) (h_t1 := h_t1) (h_t2 := h_t2) (h_t3 := h_t3) (h_t4 := h_t4) (h_zd := h_zd) (h_zr := h_zr) (h_fl := h_fl) (h_ln := h_ln) (h_kd := h_kd) (h_lo := h_lo) (h_er := h_er) (h_qk := h_qk) (h_ql := h_ql) (h_qe := h_qe) (h_wp := h_wp) (h_wd := h_wd) (h_ho := h_ho) (h_hh := h_hh) (h_so := h_so) (h_rp := h_rp) (h_rd := h_rd) (h_rh := h_rh) (h_sl := h_sl) (h_n := h_n) (h_nw := h_nw) (h_nh := h_nh) (h_B := h_B) (h_nr := h_nr) (h_sz := h_sz) (h_s7 := h_s7) (r_P := r_P) (r_W := r_W) (r_H := r_H) (r_R := r_R) (r_S := r_S) (r_G := r_G)⟩
    · have c9 : 0 < vn := by omega
      refine CkI.mono (pkC_where_ok (hem := h_em) (hdr := h_dr) (hwp := h_t1) (hwd := h_t2) (hho := h_t3) (hhh := h_t4) (hxp := h_xp) (hxd := h_xd) (hxo := h_xo) (hxh := h_xh) (hsd := h_zd) (hrc := h_zr) (hn := h_n) (hmw := (by first | assumption | omega)) (hmh := (by first | assumption | omega)) (hC := h_B1) (hrp := h_yp) (hrd := h_yd) (hrh := h_yh) (hnr := (by first | assumption | omega)) (hn0 := (by first | assumption | omega)) (hx1 := (by first | assumption | omega))) (fun r w1 h1 => ?_)
      obtain ⟨c_e1, c_e2, c_e3, c_e4, c_e5, c_e6, c_e7, c_e8, c_e9, ⟨rfl, c_he1, c_he2, c_he3, c_he4, c_he8, c_he9⟩, rfl⟩ := h1
      refine CkI.mono (pkM_where_k (hkd := h_kd) (hlo := h_lo) (her := h_er) (hwp := h_wp) (hwd := h_wd) (hho := h_ho) (hhh := h_hh) (hn := h_n) (hmw := (by first | assumption | omega)) (hmh := (by first | assumption | omega)) (hmm := (by decide)) (hso := h_so) (hmb := h_B1) (hs7 := h_s7) (hrp := h_rp) (hrd := h_rd) (hrh := h_rh) (hmr := (by first | assumption | omega)) (hn0 := (by first | assumption | omega)) (hd := (by first | assumption | omega)) (hw6 := (by first | assumption | omega))) (fun r2 w2 h2 => ?_)
      obtain ⟨m_e1, m_e2, ⟨h2, m_he1, m_hes, m_he2⟩, rfl⟩ := h2
      exact ⟨h2.trans (congrArg nI (ans_where h_n r_P r_W r_H r_R).symm), inv_mk (h_em := h_em) (h_dr := h_dr) (h_xp := h_xp) (h_xd := h_xd) (h_xo := h_xo) (h_xh := h_xh) (h_sd := h_sd) (h_rc := h_rc) (h_yp := h_yp) (h_yd := h_yd) (h_yh := h_yh) (h_t1 := c_he1) (h_t2 := c_he2) (h_t3 := c_he3) (h_t4 := c_he4) (h_zd := c_he8) (h_zr := c_he9) (h_fl := h_fl) (h_ln := h_ln) (h_kd := h_kd) (h_lo := h_lo) (h_er := h_er) (h_qk := h_qk) (h_ql := h_ql) (h_qe := h_qe) (h_wp := (up_lt h_wp m_he2)) (h_wd := (up_lt h_wd hx)) (h_ho := h_ho) (h_hh := h_hh) (h_so := m_he1) (h_rp := h_rp) (h_rd := h_rd) (h_rh := h_rh) (h_sl := h_sl) (h_n := h_n) (h_nw := h_nw) (h_nh := h_nh) (h_B := h_B) (h_nr := h_nr) (h_sz := h_sz) (h_s7 := m_hes) (r_P := r_P) (r_W := (relW_keep r_W)) (r_H := r_H) (r_R := r_R) (r_S := r_S) (r_G := r_G)⟩
  · skip
    refine CkI.mono (pkC_where_bad (s1 := 0) (s2 := 0) (s3 := 0) (em := (fun _ => 0)) (dr := (fun _ => 0)) (n := 0) (hx1 := (by first | assumption | omega))) (fun r w1 h1 => ?_)
    obtain ⟨rfl, rfl⟩ := h1
    refine CkI.mono (pkM_where_o (hx1 := (by first | assumption | omega))) (fun r2 w2 h2 => ?_)
    obtain ⟨h2, rfl⟩ := h2
    exact ⟨h2.trans (rfl), inv_mk (h_em := h_em) (h_dr := h_dr) (h_xp := h_xp) (h_xd := h_xd) (h_xo := h_xo) (h_xh := h_xh) (h_sd := h_sd) (h_rc := h_rc) (h_yp := h_yp) (h_yd := h_yd) (h_yh := h_yh) (h_t1 := h_t1) (h_t2 := h_t2) (h_t3 := h_t3) (h_t4 := h_t4) (h_zd := h_zd) (h_zr := h_zr) (h_fl := h_fl) (h_ln := h_ln) (h_kd := h_kd) (h_lo := h_lo) (h_er := h_er) (h_qk := h_qk) (h_ql := h_ql) (h_qe := h_qe) (h_wp := h_wp) (h_wd := h_wd) (h_ho := h_ho) (h_hh := h_hh) (h_so := h_so) (h_rp := h_rp) (h_rd := h_rd) (h_rh := h_rh) (h_sl := h_sl) (h_n := h_n) (h_nw := h_nw) (h_nh := h_nh) (h_B := h_B) (h_nr := h_nr) (h_sz := h_sz) (h_s7 := h_s7) (r_P := r_P) (r_W := r_W) (r_H := r_H) (r_R := r_R) (r_S := r_S) (r_G := r_G)⟩
set_option maxRecDepth 100000 in
theorem op_paid {l : Launch} {D : va_G} {ad : Nat → Nat} {cI cZ cS cP : ClassId} : Op_paid l D cI cZ cS cP (ad 0) (ad 36) (Inv ad cI cZ cS cP) := by
  intro w0 hJ 
  refine hJ (fun w0 => CkI l yX10_paid wsX10_paid D (kT cI cZ cS cP) (ad 0) 10 [] w0 (fun r w1 => CkI l yX11_paid wsX11_paid D (kT cI cZ cS cP) (ad 36) 11 [] w1 (fun r2 w2 => r2 = r ∧ Inv ad cI cZ cS cP w2))) ?_
  intro vpg vem vdr vn vxp vxd vxo vxh vnw vnh vB vsd vrc vyp vyd vyh vnr vt1 vt2 vt3 vt4 vtn vtm vtb vzd vzr vfl vln vsz vsf vt vft vra vrn vkd vlo ver vqk vql vqe vwp vwd vho vhh vso vrp vrd vrh vss vsl vsc vhs pa h_em h_dr h_xp h_xd h_xo h_xh h_sd h_rc h_yp h_yd h_yh h_t1 h_t2 h_t3 h_t4 h_zd h_zr h_fl h_ln h_kd h_lo h_er h_qk h_ql h_qe h_wp h_wd h_ho h_hh h_so h_rp h_rd h_rh h_sl h_n h_nw h_nh h_B h_nr h_sz h_s7 r_P r_W r_H r_R r_S r_G
  have h_B1 := B128 h_n h_B
  by_cases c0 : vn = 0
  · subst c0
    refine CkI.mono (pkC_paid_none (hn := h_n) (hn0 := rfl)) (fun r w1 h1 => ?_)
    obtain ⟨rfl, rfl⟩ := h1
    refine CkI.mono (pkM_paid_0) (fun r2 w2 h2 => ?_)
    obtain ⟨h2, rfl⟩ := h2
    exact ⟨h2.trans (rfl), inv_mk (h_em := h_em) (h_dr := h_dr) (h_xp := h_xp) (h_xd := h_xd) (h_xo := h_xo) (h_xh := h_xh) (h_sd := h_sd) (h_rc := h_rc) (h_yp := h_yp) (h_yd := h_yd) (h_yh := h_yh) (h_t1 := h_t1) (h_t2 := h_t2) (h_t3 := h_t3) (h_t4 := h_t4) (h_zd := h_zd) (h_zr := h_zr) (h_fl := h_fl) (h_ln := h_ln) (h_kd := h_kd) (h_lo := h_lo) (h_er := h_er) (h_qk := h_qk) (h_ql := h_ql) (h_qe := h_qe) (h_wp := h_wp) (h_wd := h_wd) (h_ho := h_ho) (h_hh := h_hh) (h_so := h_so) (h_rp := h_rp) (h_rd := h_rd) (h_rh := h_rh) (h_sl := h_sl) (h_n := h_n) (h_nw := h_nw) (h_nh := h_nh) (h_B := h_B) (h_nr := h_nr) (h_sz := h_sz) (h_s7 := h_s7) (r_P := r_P) (r_W := r_W) (r_H := r_H) (r_R := r_R) (r_S := r_S) (r_G := r_G)⟩
  · have c9 : 0 < vn := by omega
    refine CkI.mono (pkC_paid_ok (hem := h_em) (hdr := h_dr) (hwp := h_t1) (hwd := h_t2) (hho := h_t3) (hhh := h_t4) (hxp := h_xp) (hxd := h_xd) (hxo := h_xo) (hxh := h_xh) (hsd := h_zd) (hrc := h_zr) (hn := h_n) (hmw := (by first | assumption | omega)) (hmh := (by first | assumption | omega)) (hC := h_B1) (hrp := h_yp) (hrd := h_yd) (hrh := h_yh) (hnr := (by first | assumption | omega)) (hn0 := (by first | assumption | omega))) (fun r w1 h1 => ?_)
    obtain ⟨c_e1, c_e2, c_e3, c_e4, c_e5, c_e6, c_e7, c_e8, c_e9, ⟨rfl, c_he1, c_he2, c_he3, c_he4, c_he8, c_he9⟩, rfl⟩ := h1
    refine CkI.mono (pkM_paid_k (hkd := h_kd) (hlo := h_lo) (her := h_er) (hwp := h_wp) (hwd := h_wd) (hho := h_ho) (hhh := h_hh) (hn := h_n) (hmw := (by first | assumption | omega)) (hmh := (by first | assumption | omega)) (hmm := (by decide)) (hso := h_so) (hmb := h_B1) (hs7 := h_s7) (hrp := h_rp) (hrd := h_rd) (hrh := h_rh) (hmr := (by first | assumption | omega)) (hn0 := (by first | assumption | omega))) (fun r2 w2 h2 => ?_)
    obtain ⟨m_e1, ⟨h2, m_he1, m_hes⟩, rfl⟩ := h2
    exact ⟨h2.trans (congrArg nI (ans_paid h_n r_P r_W r_H r_R).symm), inv_mk (h_em := h_em) (h_dr := h_dr) (h_xp := h_xp) (h_xd := h_xd) (h_xo := h_xo) (h_xh := h_xh) (h_sd := h_sd) (h_rc := h_rc) (h_yp := h_yp) (h_yd := h_yd) (h_yh := h_yh) (h_t1 := c_he1) (h_t2 := c_he2) (h_t3 := c_he3) (h_t4 := c_he4) (h_zd := c_he8) (h_zr := c_he9) (h_fl := h_fl) (h_ln := h_ln) (h_kd := h_kd) (h_lo := h_lo) (h_er := h_er) (h_qk := h_qk) (h_ql := h_ql) (h_qe := h_qe) (h_wp := h_wp) (h_wd := h_wd) (h_ho := h_ho) (h_hh := h_hh) (h_so := m_he1) (h_rp := h_rp) (h_rd := h_rd) (h_rh := h_rh) (h_sl := h_sl) (h_n := h_n) (h_nw := h_nw) (h_nh := h_nh) (h_B := h_B) (h_nr := h_nr) (h_sz := h_sz) (h_s7 := m_hes) (r_P := r_P) (r_W := r_W) (r_H := r_H) (r_R := r_R) (r_S := r_S) (r_G := r_G)⟩
set_option maxRecDepth 100000 in
theorem op_odds {l : Launch} {D : va_G} {ad : Nat → Nat} {cI cZ cS cP : ClassId} : Op_odds l D cI cZ cS cP (ad 0) (ad 36) (Inv ad cI cZ cS cP) := by
  intro w0 hJ a1 a2 a3
  refine hJ (fun w0 => CkL l yX10_odds wsX10_odds D (kT cI cZ cS cP) (ad 0) 10 [.int a1, .int a2, .int a3] w0 (fun r w1 => CkL l yX11_odds wsX11_odds D (kT cI cZ cS cP) (ad 36) 11 [.int a1, .int a2, .int a3] w1 (fun r2 w2 => r2 = r ∧ Inv ad cI cZ cS cP w2))) ?_
  intro vpg vem vdr vn vxp vxd vxo vxh vnw vnh vB vsd vrc vyp vyd vyh vnr vt1 vt2 vt3 vt4 vtn vtm vtb vzd vzr vfl vln vsz vsf vt vft vra vrn vkd vlo ver vqk vql vqe vwp vwd vho vhh vso vrp vrd vrh vss vsl vsc vhs pa h_em h_dr h_xp h_xd h_xo h_xh h_sd h_rc h_yp h_yd h_yh h_t1 h_t2 h_t3 h_t4 h_zd h_zr h_fl h_ln h_kd h_lo h_er h_qk h_ql h_qe h_wp h_wd h_ho h_hh h_so h_rp h_rd h_rh h_sl h_n h_nw h_nh h_B h_nr h_sz h_s7 r_P r_W r_H r_R r_S r_G
  have h_B1 := B128 h_n h_B
  by_cases c1 : inR a1 vn
  · obtain ⟨x, hx, rfl⟩ := inR_nat c1
    by_cases c2 : inR a2 40
    · obtain ⟨y, hy, rfl⟩ := inR_nat c2
      by_cases c3 : inR a3 2
      · rcases in2 c3 with rfl | rfl
        · skip
          refine CkL.mono (pkC_odds_ok0 (hem := h_em) (hdr := h_dr) (hwp := h_t1) (hwd := h_t2) (hho := h_t3) (hhh := h_t4) (hxp := h_xp) (hxd := h_xd) (hxo := h_xo) (hxh := h_xh) (hsd := h_zd) (hrc := h_zr) (hn := h_n) (hmw := (by first | assumption | omega)) (hmh := (by first | assumption | omega)) (hC := h_B1) (hx1 := (by first | assumption | omega)) (hy1 := (by first | assumption | omega))) (fun r w1 h1 => ?_)
          obtain ⟨c_e1, c_e2, c_e3, c_e4, c_e5, c_e6, c_e7, c_e8, c_e9, ⟨rfl, c_he1, c_he2, c_he3, c_he4, c_he8, c_he9⟩, rfl⟩ := h1
          refine CkL.mono (pkM_odds_k0 (hkd := h_kd) (hlo := h_lo) (her := h_er) (hwp := h_wp) (hwd := h_wd) (hho := h_ho) (hhh := h_hh) (hn := h_n) (hmw := (by first | assumption | omega)) (hmh := (by first | assumption | omega)) (hmm := (by decide)) (hso := h_so) (hmb := h_B1) (hs7 := h_s7) (ha := (by first | assumption | omega)) (hd := (by first | assumption | omega))) (fun r2 w2 h2 => ?_)
          obtain ⟨m_e1, ⟨h2, m_he1, m_hes⟩, rfl⟩ := h2
          exact ⟨h2.trans (congrArg (fun z => lN z.1) (ans_odds h_n r_P r_W r_H hx hy).symm), inv_mk (h_em := h_em) (h_dr := h_dr) (h_xp := h_xp) (h_xd := h_xd) (h_xo := h_xo) (h_xh := h_xh) (h_sd := h_sd) (h_rc := h_rc) (h_yp := h_yp) (h_yd := h_yd) (h_yh := h_yh) (h_t1 := c_he1) (h_t2 := c_he2) (h_t3 := c_he3) (h_t4 := c_he4) (h_zd := c_he8) (h_zr := c_he9) (h_fl := h_fl) (h_ln := h_ln) (h_kd := h_kd) (h_lo := h_lo) (h_er := h_er) (h_qk := h_qk) (h_ql := h_ql) (h_qe := h_qe) (h_wp := h_wp) (h_wd := h_wd) (h_ho := h_ho) (h_hh := h_hh) (h_so := m_he1) (h_rp := h_rp) (h_rd := h_rd) (h_rh := h_rh) (h_sl := h_sl) (h_n := h_n) (h_nw := h_nw) (h_nh := h_nh) (h_B := h_B) (h_nr := h_nr) (h_sz := h_sz) (h_s7 := m_hes) (r_P := r_P) (r_W := r_W) (r_H := r_H) (r_R := r_R) (r_S := r_S) (r_G := r_G)⟩
        · skip
          refine CkL.mono (pkC_odds_ok1 (hem := h_em) (hdr := h_dr) (hwp := h_t1) (hwd := h_t2) (hho := h_t3) (hhh := h_t4) (hxp := h_xp) (hxd := h_xd) (hxo := h_xo) (hxh := h_xh) (hsd := h_zd) (hrc := h_zr) (hn := h_n) (hmw := (by first | assumption | omega)) (hmh := (by first | assumption | omega)) (hC := h_B1) (hx1 := (by first | assumption | omega)) (hy1 := (by first | assumption | omega))) (fun r w1 h1 => ?_)
          obtain ⟨c_e1, c_e2, c_e3, c_e4, c_e5, c_e6, c_e7, c_e8, c_e9, ⟨rfl, c_he1, c_he2, c_he3, c_he4, c_he8, c_he9⟩, rfl⟩ := h1
          refine CkL.mono (pkM_odds_k1 (hkd := h_kd) (hlo := h_lo) (her := h_er) (hwp := h_wp) (hwd := h_wd) (hho := h_ho) (hhh := h_hh) (hn := h_n) (hmw := (by first | assumption | omega)) (hmh := (by first | assumption | omega)) (hmm := (by decide)) (hso := h_so) (hmb := h_B1) (hs7 := h_s7) (ha := (by first | assumption | omega)) (hd := (by first | assumption | omega))) (fun r2 w2 h2 => ?_)
          obtain ⟨m_e1, ⟨h2, m_he1, m_hes⟩, rfl⟩ := h2
          exact ⟨h2.trans (congrArg (fun z => lN z.2) (ans_odds h_n r_P r_W r_H hx hy).symm), inv_mk (h_em := h_em) (h_dr := h_dr) (h_xp := h_xp) (h_xd := h_xd) (h_xo := h_xo) (h_xh := h_xh) (h_sd := h_sd) (h_rc := h_rc) (h_yp := h_yp) (h_yd := h_yd) (h_yh := h_yh) (h_t1 := c_he1) (h_t2 := c_he2) (h_t3 := c_he3) (h_t4 := c_he4) (h_zd := c_he8) (h_zr := c_he9) (h_fl := h_fl) (h_ln := h_ln) (h_kd := h_kd) (h_lo := h_lo) (h_er := h_er) (h_qk := h_qk) (h_ql := h_ql) (h_qe := h_qe) (h_wp := h_wp) (h_wd := h_wd) (h_ho := h_ho) (h_hh := h_hh) (h_so := m_he1) (h_rp := h_rp) (h_rd := h_rd) (h_rh := h_rh) (h_sl := h_sl) (h_n := h_n) (h_nw := h_nw) (h_nh := h_nh) (h_B := h_B) (h_nr := h_nr) (h_sz := h_sz) (h_s7 := m_hes) (r_P := r_P) (r_W := r_W) (r_H := r_H) (r_R := r_R) (r_S := r_S) (r_G := r_G)⟩
      · skip
        refine CkL.mono (pkC_odds_bad3 (hn := h_n) (hx1 := (by first | assumption | omega)) (hy1 := (by first | assumption | omega)) (hz1 := (by first | assumption | omega))) (fun r w1 h1 => ?_)
        obtain ⟨rfl, rfl⟩ := h1
        refine CkL.mono (pkM_odds_o (hn := h_n) (ha := (by first | assumption | omega)) (hd := (by first | assumption | omega)) (hx1 := (by first | assumption | omega))) (fun r2 w2 h2 => ?_)
        obtain ⟨h2, rfl⟩ := h2
        exact ⟨h2.trans (rfl), inv_mk (h_em := h_em) (h_dr := h_dr) (h_xp := h_xp) (h_xd := h_xd) (h_xo := h_xo) (h_xh := h_xh) (h_sd := h_sd) (h_rc := h_rc) (h_yp := h_yp) (h_yd := h_yd) (h_yh := h_yh) (h_t1 := h_t1) (h_t2 := h_t2) (h_t3 := h_t3) (h_t4 := h_t4) (h_zd := h_zd) (h_zr := h_zr) (h_fl := h_fl) (h_ln := h_ln) (h_kd := h_kd) (h_lo := h_lo) (h_er := h_er) (h_qk := h_qk) (h_ql := h_ql) (h_qe := h_qe) (h_wp := h_wp) (h_wd := h_wd) (h_ho := h_ho) (h_hh := h_hh) (h_so := h_so) (h_rp := h_rp) (h_rd := h_rd) (h_rh := h_rh) (h_sl := h_sl) (h_n := h_n) (h_nw := h_nw) (h_nh := h_nh) (h_B := h_B) (h_nr := h_nr) (h_sz := h_sz) (h_s7 := h_s7) (r_P := r_P) (r_W := r_W) (r_H := r_H) (r_R := r_R) (r_S := r_S) (r_G := r_G)⟩
    · skip
      refine CkL.mono (pkC_odds_bad2 (hn := h_n) (hx1 := (by first | assumption | omega)) (hy1 := (by first | assumption | omega))) (fun r w1 h1 => ?_)
      obtain ⟨rfl, rfl⟩ := h1
      refine CkL.mono (pkM_odds_d (hn := h_n) (ha := (by first | assumption | omega)) (hx1 := (by first | assumption | omega))) (fun r2 w2 h2 => ?_)
      obtain ⟨h2, rfl⟩ := h2
      exact ⟨h2.trans (rfl), inv_mk (h_em := h_em) (h_dr := h_dr) (h_xp := h_xp) (h_xd := h_xd) (h_xo := h_xo) (h_xh := h_xh) (h_sd := h_sd) (h_rc := h_rc) (h_yp := h_yp) (h_yd := h_yd) (h_yh := h_yh) (h_t1 := h_t1) (h_t2 := h_t2) (h_t3 := h_t3) (h_t4 := h_t4) (h_zd := h_zd) (h_zr := h_zr) (h_fl := h_fl) (h_ln := h_ln) (h_kd := h_kd) (h_lo := h_lo) (h_er := h_er) (h_qk := h_qk) (h_ql := h_ql) (h_qe := h_qe) (h_wp := h_wp) (h_wd := h_wd) (h_ho := h_ho) (h_hh := h_hh) (h_so := h_so) (h_rp := h_rp) (h_rd := h_rd) (h_rh := h_rh) (h_sl := h_sl) (h_n := h_n) (h_nw := h_nw) (h_nh := h_nh) (h_B := h_B) (h_nr := h_nr) (h_sz := h_sz) (h_s7 := h_s7) (r_P := r_P) (r_W := r_W) (r_H := r_H) (r_R := r_R) (r_S := r_S) (r_G := r_G)⟩
  · skip
    refine CkL.mono (pkC_odds_bad1 (hn := h_n) (hx1 := (by first | assumption | omega))) (fun r w1 h1 => ?_)
    obtain ⟨rfl, rfl⟩ := h1
    refine CkL.mono (pkM_odds_u (hn := h_n) (hx1 := (by first | assumption | omega))) (fun r2 w2 h2 => ?_)
    obtain ⟨h2, rfl⟩ := h2
    exact ⟨h2.trans (rfl), inv_mk (h_em := h_em) (h_dr := h_dr) (h_xp := h_xp) (h_xd := h_xd) (h_xo := h_xo) (h_xh := h_xh) (h_sd := h_sd) (h_rc := h_rc) (h_yp := h_yp) (h_yd := h_yd) (h_yh := h_yh) (h_t1 := h_t1) (h_t2 := h_t2) (h_t3 := h_t3) (h_t4 := h_t4) (h_zd := h_zd) (h_zr := h_zr) (h_fl := h_fl) (h_ln := h_ln) (h_kd := h_kd) (h_lo := h_lo) (h_er := h_er) (h_qk := h_qk) (h_ql := h_ql) (h_qe := h_qe) (h_wp := h_wp) (h_wd := h_wd) (h_ho := h_ho) (h_hh := h_hh) (h_so := h_so) (h_rp := h_rp) (h_rd := h_rd) (h_rh := h_rh) (h_sl := h_sl) (h_n := h_n) (h_nw := h_nw) (h_nh := h_nh) (h_B := h_B) (h_nr := h_nr) (h_sz := h_sz) (h_s7 := h_s7) (r_P := r_P) (r_W := r_W) (r_H := r_H) (r_R := r_R) (r_S := r_S) (r_G := r_G)⟩
