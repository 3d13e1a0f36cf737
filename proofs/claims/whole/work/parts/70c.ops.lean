set_option maxRecDepth 100000 in
theorem op_ofPerson {l : Launch} {D : va_G} {ad : Nat → Nat} {cI cZ cS cP : ClassId} : Op_ofPerson l D cI cZ cS cP (ad 0) (ad 36) (Inv ad cI cZ cS cP) := by
  intro w0 hJ a1 a2
  refine hJ (fun w0 => CkI l yX10_ofPerson wsX10_ofPerson D (kT cI cZ cS cP) (ad 0) 10 [.int a1, .int a2] w0 (fun r w1 => CkI l yX11_ofPerson wsX11_ofPerson D (kT cI cZ cS cP) (ad 36) 11 [.int a1, .int a2] w1 (fun r2 w2 => r2 = r ∧ Inv ad cI cZ cS cP w2))) ?_
  intro vpg vem vdr vn vxp vxd vxo vxh vnw vnh vB vsd vrc vyp vyd vyh vnr vt1 vt2 vt3 vt4 vtn vtm vtb vzd vzr vfl vln vsz vsf vt vft vra vrn vkd vlo ver vqk vql vqe vwp vwd vho vhh vso vrp vrd vrh vss vsl vsc vhs pa h_em h_dr h_xp h_xd h_xo h_xh h_sd h_rc h_yp h_yd h_yh h_t1 h_t2 h_t3 h_t4 h_zd h_zr h_fl h_ln h_kd h_lo h_er h_qk h_ql h_qe h_wp h_wd h_ho h_hh h_so h_rp h_rd h_rh h_sl h_n h_nw h_nh h_B h_nr h_sz h_s7 r_P r_W r_H r_R r_S r_G
  have h_B1 := B128 h_n h_B
  by_cases c1 : inR a1 vn
  · obtain ⟨x, hx, rfl⟩ := inR_nat c1
    rcases k_sw4 a2 with rfl | rfl | rfl | rfl | rfl | c2
    · skip
      rcases (show vkd x = 0 ∨ vkd x = 1 ∨ vkd x = 2 by have := h_kd x; omega) with hk | hk | hk
      · skip
        refine CkI.mono (pkC_ofPerson_0X5 (hn := h_n) (hk := hx) (hpg := (r_G x hx)) (hm9 := hx) (hm7 := h_n) (hkc := (by rw [hk]; rfl))) (fun r w1 h1 => ?_)
        obtain ⟨rfl, rfl⟩ := h1
        refine CkI.mono (pkM_ofPerson_0 (lo := (fun _ => 0)) (er := (fun _ => 0)) (hn := h_n) (hkd := h_kd) (hlo := (fun _ => by decide)) (her := (fun _ => by decide)) (ha := (by first | assumption | omega))) (fun r2 w2 h2 => ?_)
        obtain ⟨h2, rfl⟩ := h2
        exact ⟨h2.trans (congrArg nI hk), inv_mk (h_em := h_em) (h_dr := h_dr) (h_xp := h_xp) (h_xd := h_xd) (h_xo := h_xo) (h_xh := h_xh) (h_sd := h_sd) (h_rc := h_rc) (h_yp := h_yp) (h_yd := h_yd) (h_yh := h_yh) (h_t1 := h_t1) (h_t2 := h_t2) (h_t3 := h_t3) (h_t4 := h_t4) (h_zd := h_zd) (h_zr := h_zr) (h_fl := h_fl) (h_ln := h_ln) (h_kd := h_kd) (h_lo := h_lo) (h_er := h_er) (h_qk := h_qk) (h_ql := h_ql) (h_qe := h_qe) (h_wp := h_wp) (h_wd := h_wd) (h_ho := h_ho) (h_hh := h_hh) (h_so := h_so) (h_rp := h_rp) (h_rd := h_rd) (h_rh := h_rh) (h_sl := h_sl) (h_n := h_n) (h_nw := h_nw) (h_nh := h_nh) (h_B := h_B) (h_nr := h_nr) (h_sz := h_sz) (h_s7 := h_s7) (r_P := r_P) (r_W := r_W) (r_H := r_H) (r_R := r_R) (r_S := r_S) (r_G := r_G)⟩
      · skip
        refine CkI.mono (pkC_ofPerson_0X0 (hn := h_n) (hk := hx) (hpg := (r_G x hx)) (hm9 := hx) (hm7 := h_n) (hkc := (by rw [hk]; rfl))) (fun r w1 h1 => ?_)
        obtain ⟨rfl, rfl⟩ := h1
        refine CkI.mono (pkM_ofPerson_0 (lo := (fun _ => 0)) (er := (fun _ => 0)) (hn := h_n) (hkd := h_kd) (hlo := (fun _ => by decide)) (her := (fun _ => by decide)) (ha := (by first | assumption | omega))) (fun r2 w2 h2 => ?_)
        obtain ⟨h2, rfl⟩ := h2
        exact ⟨h2.trans (congrArg nI hk), inv_mk (h_em := h_em) (h_dr := h_dr) (h_xp := h_xp) (h_xd := h_xd) (h_xo := h_xo) (h_xh := h_xh) (h_sd := h_sd) (h_rc := h_rc) (h_yp := h_yp) (h_yd := h_yd) (h_yh := h_yh) (h_t1 := h_t1) (h_t2 := h_t2) (h_t3 := h_t3) (h_t4 := h_t4) (h_zd := h_zd) (h_zr := h_zr) (h_fl := h_fl) (h_ln := h_ln) (h_kd := h_kd) (h_lo := h_lo) (h_er := h_er) (h_qk := h_qk) (h_ql := h_ql) (h_qe := h_qe) (h_wp := h_wp) (h_wd := h_wd) (h_ho := h_ho) (h_hh := h_hh) (h_so := h_so) (h_rp := h_rp) (h_rd := h_rd) (h_rh := h_rh) (h_sl := h_sl) (h_n := h_n) (h_nw := h_nw) (h_nh := h_nh) (h_B := h_B) (h_nr := h_nr) (h_sz := h_sz) (h_s7 := h_s7) (r_P := r_P) (r_W := r_W) (r_H := r_H) (r_R := r_R) (r_S := r_S) (r_G := r_G)⟩
      · skip
        refine CkI.mono (pkC_ofPerson_0X6 (hn := h_n) (hk := hx) (hpg := (r_G x hx)) (hm9 := hx) (hm7 := h_n) (hkc := (by rw [hk]; rfl))) (fun r w1 h1 => ?_)
        obtain ⟨rfl, rfl⟩ := h1
        refine CkI.mono (pkM_ofPerson_0 (lo := (fun _ => 0)) (er := (fun _ => 0)) (hn := h_n) (hkd := h_kd) (hlo := (fun _ => by decide)) (her := (fun _ => by decide)) (ha := (by first | assumption | omega))) (fun r2 w2 h2 => ?_)
        obtain ⟨h2, rfl⟩ := h2
        exact ⟨h2.trans (congrArg nI hk), inv_mk (h_em := h_em) (h_dr := h_dr) (h_xp := h_xp) (h_xd := h_xd) (h_xo := h_xo) (h_xh := h_xh) (h_sd := h_sd) (h_rc := h_rc) (h_yp := h_yp) (h_yd := h_yd) (h_yh := h_yh) (h_t1 := h_t1) (h_t2 := h_t2) (h_t3 := h_t3) (h_t4 := h_t4) (h_zd := h_zd) (h_zr := h_zr) (h_fl := h_fl) (h_ln := h_ln) (h_kd := h_kd) (h_lo := h_lo) (h_er := h_er) (h_qk := h_qk) (h_ql := h_ql) (h_qe := h_qe) (h_wp := h_wp) (h_wd := h_wd) (h_ho := h_ho) (h_hh := h_hh) (h_so := h_so) (h_rp := h_rp) (h_rd := h_rd) (h_rh := h_rh) (h_sl := h_sl) (h_n := h_n) (h_nw := h_nw) (h_nh := h_nh) (h_B := h_B) (h_nr := h_nr) (h_sz := h_sz) (h_s7 := h_s7) (r_P := r_P) (r_W := r_W) (r_H := r_H) (r_R := r_R) (r_S := r_S) (r_G := r_G)⟩
    · skip
      rcases (show vkd x = 0 ∨ vkd x = 1 ∨ vkd x = 2 by have := h_kd x; omega) with hk | hk | hk
      · skip
        refine CkI.mono (pkC_ofPerson_1X5 (hn := h_n) (hk := hx) (hpg := (r_G x hx)) (hm9 := hx) (hm7 := h_n) (hkc := (by rw [hk]; rfl))) (fun r w1 h1 => ?_)
        obtain ⟨rfl, rfl⟩ := h1
        refine CkI.mono (pkM_ofPerson_1 (kd := (fun _ => 0)) (er := (fun _ => 0)) (hn := h_n) (hkd := (fun _ => by decide)) (hlo := h_lo) (her := (fun _ => by decide)) (ha := (by first | assumption | omega))) (fun r2 w2 h2 => ?_)
        obtain ⟨h2, rfl⟩ := h2
        exact ⟨h2.trans (rfl), inv_mk (h_em := h_em) (h_dr := h_dr) (h_xp := h_xp) (h_xd := h_xd) (h_xo := h_xo) (h_xh := h_xh) (h_sd := h_sd) (h_rc := h_rc) (h_yp := h_yp) (h_yd := h_yd) (h_yh := h_yh) (h_t1 := h_t1) (h_t2 := h_t2) (h_t3 := h_t3) (h_t4 := h_t4) (h_zd := h_zd) (h_zr := h_zr) (h_fl := h_fl) (h_ln := h_ln) (h_kd := h_kd) (h_lo := h_lo) (h_er := h_er) (h_qk := h_qk) (h_ql := h_ql) (h_qe := h_qe) (h_wp := h_wp) (h_wd := h_wd) (h_ho := h_ho) (h_hh := h_hh) (h_so := h_so) (h_rp := h_rp) (h_rd := h_rd) (h_rh := h_rh) (h_sl := h_sl) (h_n := h_n) (h_nw := h_nw) (h_nh := h_nh) (h_B := h_B) (h_nr := h_nr) (h_sz := h_sz) (h_s7 := h_s7) (r_P := r_P) (r_W := r_W) (r_H := r_H) (r_R := r_R) (r_S := r_S) (r_G := r_G)⟩
      · skip
        refine CkI.mono (pkC_ofPerson_1X0 (hn := h_n) (hk := hx) (hpg := (r_G x hx)) (hm9 := hx) (hm7 := h_n) (hkc := (by rw [hk]; rfl))) (fun r w1 h1 => ?_)
        obtain ⟨rfl, rfl⟩ := h1
        refine CkI.mono (pkM_ofPerson_1 (kd := (fun _ => 0)) (er := (fun _ => 0)) (hn := h_n) (hkd := (fun _ => by decide)) (hlo := h_lo) (her := (fun _ => by decide)) (ha := (by first | assumption | omega))) (fun r2 w2 h2 => ?_)
        obtain ⟨h2, rfl⟩ := h2
        exact ⟨h2.trans (rfl), inv_mk (h_em := h_em) (h_dr := h_dr) (h_xp := h_xp) (h_xd := h_xd) (h_xo := h_xo) (h_xh := h_xh) (h_sd := h_sd) (h_rc := h_rc) (h_yp := h_yp) (h_yd := h_yd) (h_yh := h_yh) (h_t1 := h_t1) (h_t2 := h_t2) (h_t3 := h_t3) (h_t4 := h_t4) (h_zd := h_zd) (h_zr := h_zr) (h_fl := h_fl) (h_ln := h_ln) (h_kd := h_kd) (h_lo := h_lo) (h_er := h_er) (h_qk := h_qk) (h_ql := h_ql) (h_qe := h_qe) (h_wp := h_wp) (h_wd := h_wd) (h_ho := h_ho) (h_hh := h_hh) (h_so := h_so) (h_rp := h_rp) (h_rd := h_rd) (h_rh := h_rh) (h_sl := h_sl) (h_n := h_n) (h_nw := h_nw) (h_nh := h_nh) (h_B := h_B) (h_nr := h_nr) (h_sz := h_sz) (h_s7 := h_s7) (r_P := r_P) (r_W := r_W) (r_H := r_H) (r_R := r_R) (r_S := r_S) (r_G := r_G)⟩
      · skip
        refine CkI.mono (pkC_ofPerson_1X6 (hn := h_n) (hk := hx) (hpg := (r_G x hx)) (hm9 := hx) (hm7 := h_n) (hkc := (by rw [hk]; rfl))) (fun r w1 h1 => ?_)
        obtain ⟨rfl, rfl⟩ := h1
        refine CkI.mono (pkM_ofPerson_1 (kd := (fun _ => 0)) (er := (fun _ => 0)) (hn := h_n) (hkd := (fun _ => by decide)) (hlo := h_lo) (her := (fun _ => by decide)) (ha := (by first | assumption | omega))) (fun r2 w2 h2 => ?_)
        obtain ⟨h2, rfl⟩ := h2
        exact ⟨h2.trans (rfl), inv_mk (h_em := h_em) (h_dr := h_dr) (h_xp := h_xp) (h_xd := h_xd) (h_xo := h_xo) (h_xh := h_xh) (h_sd := h_sd) (h_rc := h_rc) (h_yp := h_yp) (h_yd := h_yd) (h_yh := h_yh) (h_t1 := h_t1) (h_t2 := h_t2) (h_t3 := h_t3) (h_t4 := h_t4) (h_zd := h_zd) (h_zr := h_zr) (h_fl := h_fl) (h_ln := h_ln) (h_kd := h_kd) (h_lo := h_lo) (h_er := h_er) (h_qk := h_qk) (h_ql := h_ql) (h_qe := h_qe) (h_wp := h_wp) (h_wd := h_wd) (h_ho := h_ho) (h_hh := h_hh) (h_so := h_so) (h_rp := h_rp) (h_rd := h_rd) (h_rh := h_rh) (h_sl := h_sl) (h_n := h_n) (h_nw := h_nw) (h_nh := h_nh) (h_B := h_B) (h_nr := h_nr) (h_sz := h_sz) (h_s7 := h_s7) (r_P := r_P) (r_W := r_W) (r_H := r_H) (r_R := r_R) (r_S := r_S) (r_G := r_G)⟩
    · skip
      rcases (show vkd x = 0 ∨ vkd x = 1 ∨ vkd x = 2 by have := h_kd x; omega) with hk | hk | hk
      · skip
        refine CkI.mono (pkC_ofPerson_2X5 (hn := h_n) (hk := hx) (hpg := (r_G x hx)) (hm9 := hx) (hm7 := h_n) (hkc := (by rw [hk]; rfl))) (fun r w1 h1 => ?_)
        obtain ⟨rfl, rfl⟩ := h1
        refine CkI.mono (pkM_ofPerson_2 (kd := (fun _ => 0)) (lo := (fun _ => 0)) (hn := h_n) (hkd := (fun _ => by decide)) (hlo := (fun _ => by decide)) (her := h_er) (ha := (by first | assumption | omega))) (fun r2 w2 h2 => ?_)
        obtain ⟨h2, rfl⟩ := h2
        exact ⟨h2.trans (rfl), inv_mk (h_em := h_em) (h_dr := h_dr) (h_xp := h_xp) (h_xd := h_xd) (h_xo := h_xo) (h_xh := h_xh) (h_sd := h_sd) (h_rc := h_rc) (h_yp := h_yp) (h_yd := h_yd) (h_yh := h_yh) (h_t1 := h_t1) (h_t2 := h_t2) (h_t3 := h_t3) (h_t4 := h_t4) (h_zd := h_zd) (h_zr := h_zr) (h_fl := h_fl) (h_ln := h_ln) (h_kd := h_kd) (h_lo := h_lo) (h_er := h_er) (h_qk := h_qk) (h_ql := h_ql) (h_qe := h_qe) (h_wp := h_wp) (h_wd := h_wd) (h_ho := h_ho) (h_hh := h_hh) (h_so := h_so) (h_rp := h_rp) (h_rd := h_rd) (h_rh := h_rh) (h_sl := h_sl) (h_n := h_n) (h_nw := h_nw) (h_nh := h_nh) (h_B := h_B) (h_nr := h_nr) (h_sz := h_sz) (h_s7 := h_s7) (r_P := r_P) (r_W := r_W) (r_H := r_H) (r_R := r_R) (r_S := r_S) (r_G := r_G)⟩
      · skip
        refine CkI.mono (pkC_ofPerson_2X0 (hn := h_n) (hk := hx) (hpg := (r_G x hx)) (hm9 := hx) (hm7 := h_n) (hkc := (by rw [hk]; rfl))) (fun r w1 h1 => ?_)
        obtain ⟨rfl, rfl⟩ := h1
        refine CkI.mono (pkM_ofPerson_2 (kd := (fun _ => 0)) (lo := (fun _ => 0)) (hn := h_n) (hkd := (fun _ => by decide)) (hlo := (fun _ => by decide)) (her := h_er) (ha := (by first | assumption | omega))) (fun r2 w2 h2 => ?_)
        obtain ⟨h2, rfl⟩ := h2
        exact ⟨h2.trans (rfl), inv_mk (h_em := h_em) (h_dr := h_dr) (h_xp := h_xp) (h_xd := h_xd) (h_xo := h_xo) (h_xh := h_xh) (h_sd := h_sd) (h_rc := h_rc) (h_yp := h_yp) (h_yd := h_yd) (h_yh := h_yh) (h_t1 := h_t1) (h_t2 := h_t2) (h_t3 := h_t3) (h_t4 := h_t4) (h_zd := h_zd) (h_zr := h_zr) (h_fl := h_fl) (h_ln := h_ln) (h_kd := h_kd) (h_lo := h_lo) (h_er := h_er) (h_qk := h_qk) (h_ql := h_ql) (h_qe := h_qe) (h_wp := h_wp) (h_wd := h_wd) (h_ho := h_ho) (h_hh := h_hh) (h_so := h_so) (h_rp := h_rp) (h_rd := h_rd) (h_rh := h_rh) (h_sl := h_sl) (h_n := h_n) (h_nw := h_nw) (h_nh := h_nh) (h_B := h_B) (h_nr := h_nr) (h_sz := h_sz) (h_s7 := h_s7) (r_P := r_P) (r_W := r_W) (r_H := r_H) (r_R := r_R) (r_S := r_S) (r_G := r_G)⟩
      · skip
        refine CkI.mono (pkC_ofPerson_2X6 (hn := h_n) (hk := hx) (hpg := (r_G x hx)) (hm9 := hx) (hm7 := h_n) (hkc := (by rw [hk]; rfl))) (fun r w1 h1 => ?_)
        obtain ⟨rfl, rfl⟩ := h1
        refine CkI.mono (pkM_ofPerson_2 (kd := (fun _ => 0)) (lo := (fun _ => 0)) (hn := h_n) (hkd := (fun _ => by decide)) (hlo := (fun _ => by decide)) (her := h_er) (ha := (by first | assumption | omega))) (fun r2 w2 h2 => ?_)
        obtain ⟨h2, rfl⟩ := h2
        exact ⟨h2.trans (rfl), inv_mk (h_em := h_em) (h_dr := h_dr) (h_xp := h_xp) (h_xd := h_xd) (h_xo := h_xo) (h_xh := h_xh) (h_sd := h_sd) (h_rc := h_rc) (h_yp := h_yp) (h_yd := h_yd) (h_yh := h_yh) (h_t1 := h_t1) (h_t2 := h_t2) (h_t3 := h_t3) (h_t4 := h_t4) (h_zd := h_zd) (h_zr := h_zr) (h_fl := h_fl) (h_ln := h_ln) (h_kd := h_kd) (h_lo := h_lo) (h_er := h_er) (h_qk := h_qk) (h_ql := h_ql) (h_qe := h_qe) (h_wp := h_wp) (h_wd := h_wd) (h_ho := h_ho) (h_hh := h_hh) (h_so := h_so) (h_rp := h_rp) (h_rd := h_rd) (h_rh := h_rh) (h_sl := h_sl) (h_n := h_n) (h_nw := h_nw) (h_nh := h_nh) (h_B := h_B) (h_nr := h_nr) (h_sz := h_sz) (h_s7 := h_s7) (r_P := r_P) (r_W := r_W) (r_H := r_H) (r_R := r_R) (r_S := r_S) (r_G := r_G)⟩
    · skip
      rcases (show vkd x = 0 ∨ vkd x = 1 ∨ vkd x = 2 by have := h_kd x; omega) with hk | hk | hk
      · skip
        refine CkI.mono (pkC_ofPerson_3X5 (hn := h_n) (hk := hx) (hpg := (r_G x hx)) (hm9 := hx) (hm7 := h_n) (hkc := (by rw [hk]; rfl))) (fun r w1 h1 => ?_)
        obtain ⟨rfl, rfl⟩ := h1
        refine CkI.mono (pkM_ofPerson_3 (er := (fun _ => 0)) (hn := h_n) (hkd := h_kd) (hlo := h_lo) (her := (fun _ => by decide)) (ha := (by first | assumption | omega))) (fun r2 w2 h2 => ?_)
        obtain ⟨h2, rfl⟩ := h2
        exact ⟨h2.trans (congrArg nI (by rw [hk]; rfl)), inv_mk (h_em := h_em) (h_dr := h_dr) (h_xp := h_xp) (h_xd := h_xd) (h_xo := h_xo) (h_xh := h_xh) (h_sd := h_sd) (h_rc := h_rc) (h_yp := h_yp) (h_yd := h_yd) (h_yh := h_yh) (h_t1 := h_t1) (h_t2 := h_t2) (h_t3 := h_t3) (h_t4 := h_t4) (h_zd := h_zd) (h_zr := h_zr) (h_fl := h_fl) (h_ln := h_ln) (h_kd := h_kd) (h_lo := h_lo) (h_er := h_er) (h_qk := h_qk) (h_ql := h_ql) (h_qe := h_qe) (h_wp := h_wp) (h_wd := h_wd) (h_ho := h_ho) (h_hh := h_hh) (h_so := h_so) (h_rp := h_rp) (h_rd := h_rd) (h_rh := h_rh) (h_sl := h_sl) (h_n := h_n) (h_nw := h_nw) (h_nh := h_nh) (h_B := h_B) (h_nr := h_nr) (h_sz := h_sz) (h_s7 := h_s7) (r_P := r_P) (r_W := r_W) (r_H := r_H) (r_R := r_R) (r_S := r_S) (r_G := r_G)⟩
      · skip
        refine CkI.mono (pkC_ofPerson_3X0 (hn := h_n) (hk := hx) (hpg := (r_G x hx)) (hm9 := hx) (hm7 := h_n) (hkc := (by rw [hk]; rfl))) (fun r w1 h1 => ?_)
        obtain ⟨rfl, rfl⟩ := h1
        refine CkI.mono (pkM_ofPerson_3 (er := (fun _ => 0)) (hn := h_n) (hkd := h_kd) (hlo := h_lo) (her := (fun _ => by decide)) (ha := (by first | assumption | omega))) (fun r2 w2 h2 => ?_)
        obtain ⟨h2, rfl⟩ := h2
        exact ⟨h2.trans (congrArg nI (by rw [hk]; rfl)), inv_mk (h_em := h_em) (h_dr := h_dr) (h_xp := h_xp) (h_xd := h_xd) (h_xo := h_xo) (h_xh := h_xh) (h_sd := h_sd) (h_rc := h_rc) (h_yp := h_yp) (h_yd := h_yd) (h_yh := h_yh) (h_t1 := h_t1) (h_t2 := h_t2) (h_t3 := h_t3) (h_t4 := h_t4) (h_zd := h_zd) (h_zr := h_zr) (h_fl := h_fl) (h_ln := h_ln) (h_kd := h_kd) (h_lo := h_lo) (h_er := h_er) (h_qk := h_qk) (h_ql := h_ql) (h_qe := h_qe) (h_wp := h_wp) (h_wd := h_wd) (h_ho := h_ho) (h_hh := h_hh) (h_so := h_so) (h_rp := h_rp) (h_rd := h_rd) (h_rh := h_rh) (h_sl := h_sl) (h_n := h_n) (h_nw := h_nw) (h_nh := h_nh) (h_B := h_B) (h_nr := h_nr) (h_sz := h_sz) (h_s7 := h_s7) (r_P := r_P) (r_W := r_W) (r_H := r_H) (r_R := r_R) (r_S := r_S) (r_G := r_G)⟩
      · skip
        refine CkI.mono (pkC_ofPerson_3X6 (hn := h_n) (hk := hx) (hpg := (r_G x hx)) (hm9 := hx) (hm7 := h_n) (hkc := (by rw [hk]; rfl))) (fun r w1 h1 => ?_)
        obtain ⟨rfl, rfl⟩ := h1
        refine CkI.mono (pkM_ofPerson_3 (er := (fun _ => 0)) (hn := h_n) (hkd := h_kd) (hlo := h_lo) (her := (fun _ => by decide)) (ha := (by first | assumption | omega))) (fun r2 w2 h2 => ?_)
        obtain ⟨h2, rfl⟩ := h2
        exact ⟨h2.trans (congrArg nI (by rw [hk]; rfl)), inv_mk (h_em := h_em) (h_dr := h_dr) (h_xp := h_xp) (h_xd := h_xd) (h_xo := h_xo) (h_xh := h_xh) (h_sd := h_sd) (h_rc := h_rc) (h_yp := h_yp) (h_yd := h_yd) (h_yh := h_yh) (h_t1 := h_t1) (h_t2 := h_t2) (h_t3 := h_t3) (h_t4 := h_t4) (h_zd := h_zd) (h_zr := h_zr) (h_fl := h_fl) (h_ln := h_ln) (h_kd := h_kd) (h_lo := h_lo) (h_er := h_er) (h_qk := h_qk) (h_ql := h_ql) (h_qe := h_qe) (h_wp := h_wp) (h_wd := h_wd) (h_ho := h_ho) (h_hh := h_hh) (h_so := h_so) (h_rp := h_rp) (h_rd := h_rd) (h_rh := h_rh) (h_sl := h_sl) (h_n := h_n) (h_nw := h_nw) (h_nh := h_nh) (h_B := h_B) (h_nr := h_nr) (h_sz := h_sz) (h_s7 := h_s7) (r_P := r_P) (r_W := r_W) (r_H := r_H) (r_R := r_R) (r_S := r_S) (r_G := r_G)⟩
    · skip
      refine CkI.mono (pkC_ofPerson_4 (hn := h_n) (hk := hx) (hpg := (r_G x hx)) (hB := h_B1)) (fun r w1 h1 => ?_)
      obtain ⟨rfl, rfl⟩ := h1
      refine CkI.mono (pkM_ofPerson_4 (hn := h_n) (ha := (by first | assumption | omega)) (hmb := h_B1)) (fun r2 w2 h2 => ?_)
      obtain ⟨h2, rfl⟩ := h2
      exact ⟨h2.trans (rfl), inv_mk (h_em := h_em) (h_dr := h_dr) (h_xp := h_xp) (h_xd := h_xd) (h_xo := h_xo) (h_xh := h_xh) (h_sd := h_sd) (h_rc := h_rc) (h_yp := h_yp) (h_yd := h_yd) (h_yh := h_yh) (h_t1 := h_t1) (h_t2 := h_t2) (h_t3 := h_t3) (h_t4 := h_t4) (h_zd := h_zd) (h_zr := h_zr) (h_fl := h_fl) (h_ln := h_ln) (h_kd := h_kd) (h_lo := h_lo) (h_er := h_er) (h_qk := h_qk) (h_ql := h_ql) (h_qe := h_qe) (h_wp := h_wp) (h_wd := h_wd) (h_ho := h_ho) (h_hh := h_hh) (h_so := h_so) (h_rp := h_rp) (h_rd := h_rd) (h_rh := h_rh) (h_sl := h_sl) (h_n := h_n) (h_nw := h_nw) (h_nh := h_nh) (h_B := h_B) (h_nr := h_nr) (h_sz := h_sz) (h_s7 := h_s7) (r_P := r_P) (r_W := r_W) (r_H := r_H) (r_R := r_R) (r_S := r_S) (r_G := r_G)⟩
    · skip
      refine CkI.mono (pkC_ofPerson_o (hn := h_n) (hk := hx) (hpg := (r_G x hx)) (hx1 := (nin5 c2))) (fun r w1 h1 => ?_)
      obtain ⟨rfl, rfl⟩ := h1
      refine CkI.mono (pkM_ofPerson_o (hn := h_n) (ha := (by first | assumption | omega)) (hx1 := (nin5 c2))) (fun r2 w2 h2 => ?_)
      obtain ⟨h2, rfl⟩ := h2
      exact ⟨h2.trans (rfl), inv_mk (h_em := h_em) (h_dr := h_dr) (h_xp := h_xp) (h_xd := h_xd) (h_xo := h_xo) (h_xh := h_xh) (h_sd := h_sd) (h_rc := h_rc) (h_yp := h_yp) (h_yd := h_yd) (h_yh := h_yh) (h_t1 := h_t1) (h_t2 := h_t2) (h_t3 := h_t3) (h_t4 := h_t4) (h_zd := h_zd) (h_zr := h_zr) (h_fl := h_fl) (h_ln := h_ln) (h_kd := h_kd) (h_lo := h_lo) (h_er := h_er) (h_qk := h_qk) (h_ql := h_ql) (h_qe := h_qe) (h_wp := h_wp) (h_wd := h_wd) (h_ho := h_ho) (h_hh := h_hh) (h_so := h_so) (h_rp := h_rp) (h_rd := h_rd) (h_rh := h_rh) (h_sl := h_sl) (h_n := h_n) (h_nw := h_nw) (h_nh := h_nh) (h_B := h_B) (h_nr := h_nr) (h_sz := h_sz) (h_s7 := h_s7) (r_P := r_P) (r_W := r_W) (r_H := r_H) (r_R := r_R) (r_S := r_S) (r_G := r_G)⟩
  · skip
    refine CkI.mono (pkC_ofPerson_u (hn := h_n) (hx1 := (by first | assumption | omega))) (fun r w1 h1 => ?_)
    obtain ⟨rfl, rfl⟩ := h1
    refine CkI.mono (pkM_ofPerson_u (hn := h_n) (hx1 := (by first | assumption | omega))) (fun r2 w2 h2 => ?_)
    obtain ⟨h2, rfl⟩ := h2
    exact ⟨h2.trans (rfl), inv_mk (h_em := h_em) (h_dr := h_dr) (h_xp := h_xp) (h_xd := h_xd) (h_xo := h_xo) (h_xh := h_xh) (h_sd := h_sd) (h_rc := h_rc) (h_yp := h_yp) (h_yd := h_yd) (h_yh := h_yh) (h_t1 := h_t1) (h_t2 := h_t2) (h_t3 := h_t3) (h_t4 := h_t4) (h_zd := h_zd) (h_zr := h_zr) (h_fl := h_fl) (h_ln := h_ln) (h_kd := h_kd) (h_lo := h_lo) (h_er := h_er) (h_qk := h_qk) (h_ql := h_ql) (h_qe := h_qe) (h_wp := h_wp) (h_wd := h_wd) (h_ho := h_ho) (h_hh := h_hh) (h_so := h_so) (h_rp := h_rp) (h_rd := h_rd) (h_rh := h_rh) (h_sl := h_sl) (h_n := h_n) (h_nw := h_nw) (h_nh := h_nh) (h_B := h_B) (h_nr := h_nr) (h_sz := h_sz) (h_s7 := h_s7) (r_P := r_P) (r_W := r_W) (r_H := r_H) (r_R := r_R) (r_S := r_S) (r_G := r_G)⟩
set_option maxRecDepth 100000 in
theorem op_tell {l : Launch} {D : va_G} {ad : Nat → Nat} {cI cZ cS cP : ClassId} : Op_tell l D cI cZ cS cP (ad 0) (ad 36) (Inv ad cI cZ cS cP) := by
  intro w0 hJ a1
  refine hJ (fun w0 => CkI l yX10_tell wsX10_tell D (kT cI cZ cS cP) (ad 0) 10 [.int a1] w0 (fun r w1 => CkI l yX11_tell wsX11_tell D (kT cI cZ cS cP) (ad 36) 11 [.int a1] w1 (fun r2 w2 => r2 = r ∧ Inv ad cI cZ cS cP w2))) ?_
  intro vpg vem vdr vn vxp vxd vxo vxh vnw vnh vB vsd vrc vyp vyd vyh vnr vt1 vt2 vt3 vt4 vtn vtm vtb vzd vzr vfl vln vsz vsf vt vft vra vrn vkd vlo ver vqk vql vqe vwp vwd vho vhh vso vrp vrd vrh vss vsl vsc vhs pa h_em h_dr h_xp h_xd h_xo h_xh h_sd h_rc h_yp h_yd h_yh h_t1 h_t2 h_t3 h_t4 h_zd h_zr h_fl h_ln h_kd h_lo h_er h_qk h_ql h_qe h_wp h_wd h_ho h_hh h_so h_rp h_rd h_rh h_sl h_n h_nw h_nh h_B h_nr h_sz h_s7 r_P r_W r_H r_R r_S r_G
  have h_B1 := B128 h_n h_B
  by_cases c1 : inR a1 vn
  · obtain ⟨x, hx, rfl⟩ := inR_nat c1
    rcases (show vkd x = 0 ∨ vkd x = 1 ∨ vkd x = 2 by have := h_kd x; omega) with hk | hk | hk
    · skip
      refine CkI.mono (pkC_tell_X5 (hn := h_n) (hk := hx) (hpg := (r_G x hx)) (hm9 := hx) (hm7 := h_n) (hkc := (by rw [hk]; rfl))) (fun r w1 h1 => ?_)
      obtain ⟨rfl, rfl⟩ := h1
      refine CkI.mono (pkM_tell_0 (hn := h_n) (hkd := h_kd) (hlo := h_lo) (ha := (by first | assumption | omega)) (hkv := hk)) (fun r2 w2 h2 => ?_)
      obtain ⟨h2, rfl⟩ := h2
      exact ⟨h2.trans (rfl), inv_mk (h_em := h_em) (h_dr := h_dr) (h_xp := h_xp) (h_xd := h_xd) (h_xo := h_xo) (h_xh := h_xh) (h_sd := h_sd) (h_rc := h_rc) (h_yp := h_yp) (h_yd := h_yd) (h_yh := h_yh) (h_t1 := h_t1) (h_t2 := h_t2) (h_t3 := h_t3) (h_t4 := h_t4) (h_zd := h_zd) (h_zr := h_zr) (h_fl := h_fl) (h_ln := h_ln) (h_kd := h_kd) (h_lo := h_lo) (h_er := h_er) (h_qk := h_qk) (h_ql := h_ql) (h_qe := h_qe) (h_wp := h_wp) (h_wd := h_wd) (h_ho := h_ho) (h_hh := h_hh) (h_so := h_so) (h_rp := h_rp) (h_rd := h_rd) (h_rh := h_rh) (h_sl := h_sl) (h_n := h_n) (h_nw := h_nw) (h_nh := h_nh) (h_B := h_B) (h_nr := h_nr) (h_sz := h_sz) (h_s7 := h_s7) (r_P := r_P) (r_W := r_W) (r_H := r_H) (r_R := r_R) (r_S := r_S) (r_G := r_G)⟩
    · skip
      refine CkI.mono (pkC_tell_X0 (hn := h_n) (hk := hx) (hpg := (r_G x hx)) (hm9 := hx) (hm7 := h_n) (hkc := (by rw [hk]; rfl))) (fun r w1 h1 => ?_)
      obtain ⟨rfl, rfl⟩ := h1
      refine CkI.mono (pkM_tell_1 (hn := h_n) (hkd := h_kd) (hlo := h_lo) (ha := (by first | assumption | omega)) (hkv := hk)) (fun r2 w2 h2 => ?_)
      obtain ⟨h2, rfl⟩ := h2
      exact ⟨h2.trans (rfl), inv_mk (h_em := h_em) (h_dr := h_dr) (h_xp := h_xp) (h_xd := h_xd) (h_xo := h_xo) (h_xh := h_xh) (h_sd := h_sd) (h_rc := h_rc) (h_yp := h_yp) (h_yd := h_yd) (h_yh := h_yh) (h_t1 := h_t1) (h_t2 := h_t2) (h_t3 := h_t3) (h_t4 := h_t4) (h_zd := h_zd) (h_zr := h_zr) (h_fl := h_fl) (h_ln := h_ln) (h_kd := h_kd) (h_lo := h_lo) (h_er := h_er) (h_qk := h_qk) (h_ql := h_ql) (h_qe := h_qe) (h_wp := h_wp) (h_wd := h_wd) (h_ho := h_ho) (h_hh := h_hh) (h_so := h_so) (h_rp := h_rp) (h_rd := h_rd) (h_rh := h_rh) (h_sl := h_sl) (h_n := h_n) (h_nw := h_nw) (h_nh := h_nh) (h_B := h_B) (h_nr := h_nr) (h_sz := h_sz) (h_s7 := h_s7) (r_P := r_P) (r_W := r_W) (r_H := r_H) (r_R := r_R) (r_S := r_S) (r_G := r_G)⟩
    · skip
      refine CkI.mono (pkC_tell_X6 (hn := h_n) (hk := hx) (hpg := (r_G x hx)) (hm9 := hx) (hm7 := h_n) (hkc := (by rw [hk]; rfl))) (fun r w1 h1 => ?_)
      obtain ⟨rfl, rfl⟩ := h1
      refine CkI.mono (pkM_tell_2 (hn := h_n) (hkd := h_kd) (hlo := h_lo) (ha := (by first | assumption | omega)) (hkv := hk)) (fun r2 w2 h2 => ?_)
      obtain ⟨h2, rfl⟩ := h2
      exact ⟨h2.trans (congrArg nI (by omega)), inv_mk (h_em := h_em) (h_dr := h_dr) (h_xp := h_xp) (h_xd := h_xd) (h_xo := h_xo) (h_xh := h_xh) (h_sd := h_sd) (h_rc := h_rc) (h_yp := h_yp) (h_yd := h_yd) (h_yh := h_yh) (h_t1 := h_t1) (h_t2 := h_t2) (h_t3 := h_t3) (h_t4 := h_t4) (h_zd := h_zd) (h_zr := h_zr) (h_fl := h_fl) (h_ln := h_ln) (h_kd := h_kd) (h_lo := h_lo) (h_er := h_er) (h_qk := h_qk) (h_ql := h_ql) (h_qe := h_qe) (h_wp := h_wp) (h_wd := h_wd) (h_ho := h_ho) (h_hh := h_hh) (h_so := h_so) (h_rp := h_rp) (h_rd := h_rd) (h_rh := h_rh) (h_sl := h_sl) (h_n := h_n) (h_nw := h_nw) (h_nh := h_nh) (h_B := h_B) (h_nr := h_nr) (h_sz := h_sz) (h_s7 := h_s7) (r_P := r_P) (r_W := r_W) (r_H := r_H) (r_R := r_R) (r_S := r_S) (r_G := r_G)⟩
  · skip
    refine CkI.mono (pkC_tell_u (hn := h_n) (hx1 := (by first | assumption | omega))) (fun r w1 h1 => ?_)
    obtain ⟨rfl, rfl⟩ := h1
    refine CkI.mono (pkM_tell_u (hn := h_n) (hx1 := (by first | assumption | omega))) (fun r2 w2 h2 => ?_)
    obtain ⟨h2, rfl⟩ := h2
    exact ⟨h2.trans (rfl), inv_mk (h_em := h_em) (h_dr := h_dr) (h_xp := h_xp) (h_xd := h_xd) (h_xo := h_xo) (h_xh := h_xh) (h_sd := h_sd) (h_rc := h_rc) (h_yp := h_yp) (h_yd := h_yd) (h_yh := h_yh) (h_t1 := h_t1) (h_t2 := h_t2) (h_t3 := h_t3) (h_t4 := h_t4) (h_zd := h_zd) (h_zr := h_zr) (h_fl := h_fl) (h_ln := h_ln) (h_kd := h_kd) (h_lo := h_lo) (h_er := h_er) (h_qk := h_qk) (h_ql := h_ql) (h_qe := h_qe) (h_wp := h_wp) (h_wd := h_wd) (h_ho := h_ho) (h_hh := h_hh) (h_so := h_so) (h_rp := h_rp) (h_rd := h_rd) (h_rh := h_rh) (h_sl := h_sl) (h_n := h_n) (h_nw := h_nw) (h_nh := h_nh) (h_B := h_B) (h_nr := h_nr) (h_sz := h_sz) (h_s7 := h_s7) (r_P := r_P) (r_W := r_W) (r_H := r_H) (r_R := r_R) (r_S := r_S) (r_G := r_G)⟩
set_option maxRecDepth 100000 in
theorem op_bow {l : Launch} {D : va_G} {ad : Nat → Nat} {cI cZ cS cP : ClassId} : Op_bow l D cI cZ cS cP (ad 0) (ad 36) (Inv ad cI cZ cS cP) := by
  intro w0 hJ a1
  refine hJ (fun w0 => CkI l yX10_bow wsX10_bow D (kT cI cZ cS cP) (ad 0) 10 [.int a1] w0 (fun r w1 => CkI l yX11_bow wsX11_bow D (kT cI cZ cS cP) (ad 36) 11 [.int a1] w1 (fun r2 w2 => r2 = r ∧ Inv ad cI cZ cS cP w2))) ?_
  intro vpg vem vdr vn vxp vxd vxo vxh vnw vnh vB vsd vrc vyp vyd vyh vnr vt1 vt2 vt3 vt4 vtn vtm vtb vzd vzr vfl vln vsz vsf vt vft vra vrn vkd vlo ver vqk vql vqe vwp vwd vho vhh vso vrp vrd vrh vss vsl vsc vhs pa h_em h_dr h_xp h_xd h_xo h_xh h_sd h_rc h_yp h_yd h_yh h_t1 h_t2 h_t3 h_t4 h_zd h_zr h_fl h_ln h_kd h_lo h_er h_qk h_ql h_qe h_wp h_wd h_ho h_hh h_so h_rp h_rd h_rh h_sl h_n h_nw h_nh h_B h_nr h_sz h_s7 r_P r_W r_H r_R r_S r_G
  have h_B1 := B128 h_n h_B
  by_cases c1 : inR a1 vn
  · obtain ⟨x, hx, rfl⟩ := inR_nat c1
    rcases (show vkd x = 0 ∨ vkd x = 1 ∨ vkd x = 2 by have := h_kd x; omega) with hk | hk | hk
    · skip
      refine CkI.mono (pkC_bow_X5 (hn := h_n) (hk := hx) (hpg := (r_G x hx)) (hm9 := hx) (hm7 := h_n) (hkc := (by rw [hk]; rfl))) (fun r w1 h1 => ?_)
      obtain ⟨rfl, rfl⟩ := h1
      refine CkI.mono (pkM_bow_0 (hn := h_n) (hkd := h_kd) (ha := (by first | assumption | omega)) (hkv := hk)) (fun r2 w2 h2 => ?_)
      obtain ⟨h2, rfl⟩ := h2
      exact ⟨h2.trans (rfl), inv_mk (h_em := h_em) (h_dr := h_dr) (h_xp := h_xp) (h_xd := h_xd) (h_xo := h_xo) (h_xh := h_xh) (h_sd := h_sd) (h_rc := h_rc) (h_yp := h_yp) (h_yd := h_yd) (h_yh := h_yh) (h_t1 := h_t1) (h_t2 := h_t2) (h_t3 := h_t3) (h_t4 := h_t4) (h_zd := h_zd) (h_zr := h_zr) (h_fl := h_fl) (h_ln := h_ln) (h_kd := h_kd) (h_lo := h_lo) (h_er := h_er) (h_qk := h_qk) (h_ql := h_ql) (h_qe := h_qe) (h_wp := h_wp) (h_wd := h_wd) (h_ho := h_ho) (h_hh := h_hh) (h_so := h_so) (h_rp := h_rp) (h_rd := h_rd) (h_rh := h_rh) (h_sl := h_sl) (h_n := h_n) (h_nw := h_nw) (h_nh := h_nh) (h_B := h_B) (h_nr := h_nr) (h_sz := h_sz) (h_s7 := h_s7) (r_P := r_P) (r_W := r_W) (r_H := r_H) (r_R := r_R) (r_S := r_S) (r_G := r_G)⟩
    · skip
      refine CkI.mono (pkC_bow_X0 (hn := h_n) (hk := hx) (hpg := (r_G x hx)) (hm9 := hx) (hm7 := h_n) (hkc := (by rw [hk]; rfl))) (fun r w1 h1 => ?_)
      obtain ⟨rfl, rfl⟩ := h1
      refine CkI.mono (pkM_bow_1 (hn := h_n) (hkd := h_kd) (ha := (by first | assumption | omega)) (hkv := hk)) (fun r2 w2 h2 => ?_)
      obtain ⟨h2, rfl⟩ := h2
      exact ⟨h2.trans (rfl), inv_mk (h_em := h_em) (h_dr := h_dr) (h_xp := h_xp) (h_xd := h_xd) (h_xo := h_xo) (h_xh := h_xh) (h_sd := h_sd) (h_rc := h_rc) (h_yp := h_yp) (h_yd := h_yd) (h_yh := h_yh) (h_t1 := h_t1) (h_t2 := h_t2) (h_t3 := h_t3) (h_t4 := h_t4) (h_zd := h_zd) (h_zr := h_zr) (h_fl := h_fl) (h_ln := h_ln) (h_kd := h_kd) (h_lo := h_lo) (h_er := h_er) (h_qk := h_qk) (h_ql := h_ql) (h_qe := h_qe) (h_wp := h_wp) (h_wd := h_wd) (h_ho := h_ho) (h_hh := h_hh) (h_so := h_so) (h_rp := h_rp) (h_rd := h_rd) (h_rh := h_rh) (h_sl := h_sl) (h_n := h_n) (h_nw := h_nw) (h_nh := h_nh) (h_B := h_B) (h_nr := h_nr) (h_sz := h_sz) (h_s7 := h_s7) (r_P := r_P) (r_W := r_W) (r_H := r_H) (r_R := r_R) (r_S := r_S) (r_G := r_G)⟩
    · skip
      refine CkI.mono (pkC_bow_X6 (hn := h_n) (hk := hx) (hpg := (r_G x hx)) (hm9 := hx) (hm7 := h_n) (hkc := (by rw [hk]; rfl))) (fun r w1 h1 => ?_)
      obtain ⟨rfl, rfl⟩ := h1
      refine CkI.mono (pkM_bow_2 (hn := h_n) (hkd := h_kd) (ha := (by first | assumption | omega)) (hkv := hk)) (fun r2 w2 h2 => ?_)
      obtain ⟨h2, rfl⟩ := h2
      exact ⟨h2.trans (rfl), inv_mk (h_em := h_em) (h_dr := h_dr) (h_xp := h_xp) (h_xd := h_xd) (h_xo := h_xo) (h_xh := h_xh) (h_sd := h_sd) (h_rc := h_rc) (h_yp := h_yp) (h_yd := h_yd) (h_yh := h_yh) (h_t1 := h_t1) (h_t2 := h_t2) (h_t3 := h_t3) (h_t4 := h_t4) (h_zd := h_zd) (h_zr := h_zr) (h_fl := h_fl) (h_ln := h_ln) (h_kd := h_kd) (h_lo := h_lo) (h_er := h_er) (h_qk := h_qk) (h_ql := h_ql) (h_qe := h_qe) (h_wp := h_wp) (h_wd := h_wd) (h_ho := h_ho) (h_hh := h_hh) (h_so := h_so) (h_rp := h_rp) (h_rd := h_rd) (h_rh := h_rh) (h_sl := h_sl) (h_n := h_n) (h_nw := h_nw) (h_nh := h_nh) (h_B := h_B) (h_nr := h_nr) (h_sz := h_sz) (h_s7 := h_s7) (r_P := r_P) (r_W := r_W) (r_H := r_H) (r_R := r_R) (r_S := r_S) (r_G := r_G)⟩
  · skip
    refine CkI.mono (pkC_bow_u (hn := h_n) (hx1 := (by first | assumption | omega))) (fun r w1 h1 => ?_)
    obtain ⟨rfl, rfl⟩ := h1
    refine CkI.mono (pkM_bow_u (hn := h_n) (hx1 := (by first | assumption | omega))) (fun r2 w2 h2 => ?_)
    obtain ⟨h2, rfl⟩ := h2
    exact ⟨h2.trans (rfl), inv_mk (h_em := h_em) (h_dr := h_dr) (h_xp := h_xp) (h_xd := h_xd) (h_xo := h_xo) (h_xh := h_xh) (h_sd := h_sd) (h_rc := h_rc) (h_yp := h_yp) (h_yd := h_yd) (h_yh := h_yh) (h_t1 := h_t1) (h_t2 := h_t2) (h_t3 := h_t3) (h_t4 := h_t4) (h_zd := h_zd) (h_zr := h_zr) (h_fl := h_fl) (h_ln := h_ln) (h_kd := h_kd) (h_lo := h_lo) (h_er := h_er) (h_qk := h_qk) (h_ql := h_ql) (h_qe := h_qe) (h_wp := h_wp) (h_wd := h_wd) (h_ho := h_ho) (h_hh := h_hh) (h_so := h_so) (h_rp := h_rp) (h_rd := h_rd) (h_rh := h_rh) (h_sl := h_sl) (h_n := h_n) (h_nw := h_nw) (h_nh := h_nh) (h_B := h_B) (h_nr := h_nr) (h_sz := h_sz) (h_s7 := h_s7) (r_P := r_P) (r_W := r_W) (r_H := r_H) (r_R := r_R) (r_S := r_S) (r_G := r_G)⟩
set_option maxRecDepth 100000 in
theorem op_as {l : Launch} {D : va_G} {ad : Nat → Nat} {cI cZ cS cP : ClassId} : Op_as l D cI cZ cS cP (ad 0) (ad 36) (Inv ad cI cZ cS cP) := by
  intro w0 hJ a1 a2
  refine hJ (fun w0 => CkI l yX10_as wsX10_as D (kT cI cZ cS cP) (ad 0) 10 [.int a1, .int a2] w0 (fun r w1 => CkI l yX11_as wsX11_as D (kT cI cZ cS cP) (ad 36) 11 [.int a1, .int a2] w1 (fun r2 w2 => r2 = r ∧ Inv ad cI cZ cS cP w2))) ?_
  intro vpg vem vdr vn vxp vxd vxo vxh vnw vnh vB vsd vrc vyp vyd vyh vnr vt1 vt2 vt3 vt4 vtn vtm vtb vzd vzr vfl vln vsz vsf vt vft vra vrn vkd vlo ver vqk vql vqe vwp vwd vho vhh vso vrp vrd vrh vss vsl vsc vhs pa h_em h_dr h_xp h_xd h_xo h_xh h_sd h_rc h_yp h_yd h_yh h_t1 h_t2 h_t3 h_t4 h_zd h_zr h_fl h_ln h_kd h_lo h_er h_qk h_ql h_qe h_wp h_wd h_ho h_hh h_so h_rp h_rd h_rh h_sl h_n h_nw h_nh h_B h_nr h_sz h_s7 r_P r_W r_H r_R r_S r_G
  have h_B1 := B128 h_n h_B
  by_cases c1 : inR a1 vn
  · obtain ⟨x, hx, rfl⟩ := inR_nat c1
    by_cases c2 : inR a2 3
    · obtain ⟨y, hy, rfl⟩ := inR_nat c2
      rcases (show vkd x = 0 ∨ vkd x = 1 ∨ vkd x = 2 by have := h_kd x; omega) with hk | hk | hk
      · skip
        by_cases c3 : y ≤ 0
        · skip
          refine CkI.mono (pkC_as_okX5 (hn := h_n) (hk := hx) (hpg := (r_G x hx)) (hb3 := (by first | assumption | omega)) (hbv := (by first | assumption | omega)) (hm9 := hx) (hm7 := h_n) (hkc := (by rw [hk]; rfl))) (fun r w1 h1 => ?_)
          obtain ⟨rfl, rfl⟩ := h1
          refine CkI.mono (pkM_as_ok (hn := h_n) (hkd := h_kd) (ha := (by first | assumption | omega)) (hbb := (by first | assumption | omega)) (hkk := (by first | assumption | omega))) (fun r2 w2 h2 => ?_)
          obtain ⟨h2, rfl⟩ := h2
          exact ⟨h2.trans (rfl), inv_mk (h_em := h_em) (h_dr := h_dr) (h_xp := h_xp) (h_xd := h_xd) (h_xo := h_xo) (h_xh := h_xh) (h_sd := h_sd) (h_rc := h_rc) (h_yp := h_yp) (h_yd := h_yd) (h_yh := h_yh) (h_t1 := h_t1) (h_t2 := h_t2) (h_t3 := h_t3) (h_t4 := h_t4) (h_zd := h_zd) (h_zr := h_zr) (h_fl := h_fl) (h_ln := h_ln) (h_kd := h_kd) (h_lo := h_lo) (h_er := h_er) (h_qk := h_qk) (h_ql := h_ql) (h_qe := h_qe) (h_wp := h_wp) (h_wd := h_wd) (h_ho := h_ho) (h_hh := h_hh) (h_so := h_so) (h_rp := h_rp) (h_rd := h_rd) (h_rh := h_rh) (h_sl := h_sl) (h_n := h_n) (h_nw := h_nw) (h_nh := h_nh) (h_B := h_B) (h_nr := h_nr) (h_sz := h_sz) (h_s7 := h_s7) (r_P := r_P) (r_W := r_W) (r_H := r_H) (r_R := r_R) (r_S := r_S) (r_G := r_G)⟩
        · skip
          refine CkI.mono (pkC_as_noX5 (hn := h_n) (hk := hx) (hpg := (r_G x hx)) (hb3 := (by first | assumption | omega)) (hbv := (by first | assumption | omega)) (hm9 := hx) (hm7 := h_n) (hkc := (by rw [hk]; rfl))) (fun r w1 h1 => ?_)
          obtain ⟨rfl, rfl⟩ := h1
          refine CkI.mono (pkM_as_no (hn := h_n) (hkd := h_kd) (ha := (by first | assumption | omega)) (hbb := (by first | assumption | omega)) (hkk := (by first | assumption | omega))) (fun r2 w2 h2 => ?_)
          obtain ⟨h2, rfl⟩ := h2
          exact ⟨h2.trans (rfl), inv_mk (h_em := h_em) (h_dr := h_dr) (h_xp := h_xp) (h_xd := h_xd) (h_xo := h_xo) (h_xh := h_xh) (h_sd := h_sd) (h_rc := h_rc) (h_yp := h_yp) (h_yd := h_yd) (h_yh := h_yh) (h_t1 := h_t1) (h_t2 := h_t2) (h_t3 := h_t3) (h_t4 := h_t4) (h_zd := h_zd) (h_zr := h_zr) (h_fl := h_fl) (h_ln := h_ln) (h_kd := h_kd) (h_lo := h_lo) (h_er := h_er) (h_qk := h_qk) (h_ql := h_ql) (h_qe := h_qe) (h_wp := h_wp) (h_wd := h_wd) (h_ho := h_ho) (h_hh := h_hh) (h_so := h_so) (h_rp := h_rp) (h_rd := h_rd) (h_rh := h_rh) (h_sl := h_sl) (h_n := h_n) (h_nw := h_nw) (h_nh := h_nh) (h_B := h_B) (h_nr := h_nr) (h_sz := h_sz) (h_s7 := h_s7) (r_P := r_P) (r_W := r_W) (r_H := r_H) (r_R := r_R) (r_S := r_S) (r_G := r_G)⟩
      · skip
        by_cases c3 : y ≤ 1
        · skip
          refine CkI.mono (pkC_as_okX0 (hn := h_n) (hk := hx) (hpg := (r_G x hx)) (hb3 := (by first | assumption | omega)) (hbv := (by first | assumption | omega)) (hm9 := hx) (hm7 := h_n) (hkc := (by rw [hk]; rfl))) (fun r w1 h1 => ?_)
          obtain ⟨rfl, rfl⟩ := h1
          refine CkI.mono (pkM_as_ok (hn := h_n) (hkd := h_kd) (ha := (by first | assumption | omega)) (hbb := (by first | assumption | omega)) (hkk := (by first | assumption | omega))) (fun r2 w2 h2 => ?_)
          obtain ⟨h2, rfl⟩ := h2
          exact ⟨h2.trans (rfl), inv_mk (h_em := h_em) (h_dr := h_dr) (h_xp := h_xp) (h_xd := h_xd) (h_xo := h_xo) (h_xh := h_xh) (h_sd := h_sd) (h_rc := h_rc) (h_yp := h_yp) (h_yd := h_yd) (h_yh := h_yh) (h_t1 := h_t1) (h_t2 := h_t2) (h_t3 := h_t3) (h_t4 := h_t4) (h_zd := h_zd) (h_zr := h_zr) (h_fl := h_fl) (h_ln := h_ln) (h_kd := h_kd) (h_lo := h_lo) (h_er := h_er) (h_qk := h_qk) (h_ql := h_ql) (h_qe := h_qe) (h_wp := h_wp) (h_wd := h_wd) (h_ho := h_ho) (h_hh := h_hh) (h_so := h_so) (h_rp := h_rp) (h_rd := h_rd) (h_rh := h_rh) (h_sl := h_sl) (h_n := h_n) (h_nw := h_nw) (h_nh := h_nh) (h_B := h_B) (h_nr := h_nr) (h_sz := h_sz) (h_s7 := h_s7) (r_P := r_P) (r_W := r_W) (r_H := r_H) (r_R := r_R) (r_S := r_S) (r_G := r_G)⟩
        · skip
          refine CkI.mono (pkC_as_noX0 (hn := h_n) (hk := hx) (hpg := (r_G x hx)) (hb3 := (by first | assumption | omega)) (hbv := (by first | assumption | omega)) (hm9 := hx) (hm7 := h_n) (hkc := (by rw [hk]; rfl))) (fun r w1 h1 => ?_)
          obtain ⟨rfl, rfl⟩ := h1
          refine CkI.mono (pkM_as_no (hn := h_n) (hkd := h_kd) (ha := (by first | assumption | omega)) (hbb := (by first | assumption | omega)) (hkk := (by first | assumption | omega))) (fun r2 w2 h2 => ?_)
          obtain ⟨h2, rfl⟩ := h2
          exact ⟨h2.trans (rfl), inv_mk (h_em := h_em) (h_dr := h_dr) (h_xp := h_xp) (h_xd := h_xd) (h_xo := h_xo) (h_xh := h_xh) (h_sd := h_sd) (h_rc := h_rc) (h_yp := h_yp) (h_yd := h_yd) (h_yh := h_yh) (h_t1 := h_t1) (h_t2 := h_t2) (h_t3 := h_t3) (h_t4 := h_t4) (h_zd := h_zd) (h_zr := h_zr) (h_fl := h_fl) (h_ln := h_ln) (h_kd := h_kd) (h_lo := h_lo) (h_er := h_er) (h_qk := h_qk) (h_ql := h_ql) (h_qe := h_qe) (h_wp := h_wp) (h_wd := h_wd) (h_ho := h_ho) (h_hh := h_hh) (h_so := h_so) (h_rp := h_rp) (h_rd := h_rd) (h_rh := h_rh) (h_sl := h_sl) (h_n := h_n) (h_nw := h_nw) (h_nh := h_nh) (h_B := h_B) (h_nr := h_nr) (h_sz := h_sz) (h_s7 := h_s7) (r_P := r_P) (r_W := r_W) (r_H := r_H) (r_R := r_R) (r_S := r_S) (r_G := r_G)⟩
      · skip
        by_cases c3 : y ≤ 2
        · skip
          refine CkI.mono (pkC_as_okX6 (hn := h_n) (hk := hx) (hpg := (r_G x hx)) (hb3 := (by first | assumption | omega)) (hbv := (by first | assumption | omega)) (hm9 := hx) (hm7 := h_n) (hkc := (by rw [hk]; rfl))) (fun r w1 h1 => ?_)
          obtain ⟨rfl, rfl⟩ := h1
          refine CkI.mono (pkM_as_ok (hn := h_n) (hkd := h_kd) (ha := (by first | assumption | omega)) (hbb := (by first | assumption | omega)) (hkk := (by first | assumption | omega))) (fun r2 w2 h2 => ?_)
          obtain ⟨h2, rfl⟩ := h2
          exact ⟨h2.trans (rfl), inv_mk (h_em := h_em) (h_dr := h_dr) (h_xp := h_xp) (h_xd := h_xd) (h_xo := h_xo) (h_xh := h_xh) (h_sd := h_sd) (h_rc := h_rc) (h_yp := h_yp) (h_yd := h_yd) (h_yh := h_yh) (h_t1 := h_t1) (h_t2 := h_t2) (h_t3 := h_t3) (h_t4 := h_t4) (h_zd := h_zd) (h_zr := h_zr) (h_fl := h_fl) (h_ln := h_ln) (h_kd := h_kd) (h_lo := h_lo) (h_er := h_er) (h_qk := h_qk) (h_ql := h_ql) (h_qe := h_qe) (h_wp := h_wp) (h_wd := h_wd) (h_ho := h_ho) (h_hh := h_hh) (h_so := h_so) (h_rp := h_rp) (h_rd := h_rd) (h_rh := h_rh) (h_sl := h_sl) (h_n := h_n) (h_nw := h_nw) (h_nh := h_nh) (h_B := h_B) (h_nr := h_nr) (h_sz := h_sz) (h_s7 := h_s7) (r_P := r_P) (r_W := r_W) (r_H := r_H) (r_R := r_R) (r_S := r_S) (r_G := r_G)⟩
        · skip
          exact absurd hy (by omega)
    · skip
      refine CkI.mono (pkC_as_o (hn := h_n) (hk := hx) (hpg := (r_G x hx)) (hx1 := (by first | assumption | omega))) (fun r w1 h1 => ?_)
      obtain ⟨rfl, rfl⟩ := h1
      refine CkI.mono (pkM_as_o (hn := h_n) (ha := (by first | assumption | omega)) (hx1 := (by first | assumption | omega))) (fun r2 w2 h2 => ?_)
      obtain ⟨h2, rfl⟩ := h2
      exact ⟨h2.trans (rfl), inv_mk (h_em := h_em) (h_dr := h_dr) (h_xp := h_xp) (h_xd := h_xd) (h_xo := h_xo) (h_xh := h_xh) (h_sd := h_sd) (h_rc := h_rc) (h_yp := h_yp) (h_yd := h_yd) (h_yh := h_yh) (h_t1 := h_t1) (h_t2 := h_t2) (h_t3 := h_t3) (h_t4 := h_t4) (h_zd := h_zd) (h_zr := h_zr) (h_fl := h_fl) (h_ln := h_ln) (h_kd := h_kd) (h_lo := h_lo) (h_er := h_er) (h_qk := h_qk) (h_ql := h_ql) (h_qe := h_qe) (h_wp := h_wp) (h_wd := h_wd) (h_ho := h_ho) (h_hh := h_hh) (h_so := h_so) (h_rp := h_rp) (h_rd := h_rd) (h_rh := h_rh) (h_sl := h_sl) (h_n := h_n) (h_nw := h_nw) (h_nh := h_nh) (h_B := h_B) (h_nr := h_nr) (h_sz := h_sz) (h_s7 := h_s7) (r_P := r_P) (r_W := r_W) (r_H := r_H) (r_R := r_R) (r_S := r_S) (r_G := r_G)⟩
  · skip
    refine CkI.mono (pkC_as_u (hn := h_n) (hx1 := (by first | assumption | omega))) (fun r w1 h1 => ?_)
    obtain ⟨rfl, rfl⟩ := h1
    refine CkI.mono (pkM_as_u (hn := h_n) (hx1 := (by first | assumption | omega))) (fun r2 w2 h2 => ?_)
    obtain ⟨h2, rfl⟩ := h2
    exact ⟨h2.trans (rfl), inv_mk (h_em := h_em) (h_dr := h_dr) (h_xp := h_xp) (h_xd := h_xd) (h_xo := h_xo) (h_xh := h_xh) (h_sd := h_sd) (h_rc := h_rc) (h_yp := h_yp) (h_yd := h_yd) (h_yh := h_yh) (h_t1 := h_t1) (h_t2 := h_t2) (h_t3 := h_t3) (h_t4 := h_t4) (h_zd := h_zd) (h_zr := h_zr) (h_fl := h_fl) (h_ln := h_ln) (h_kd := h_kd) (h_lo := h_lo) (h_er := h_er) (h_qk := h_qk) (h_ql := h_ql) (h_qe := h_qe) (h_wp := h_wp) (h_wd := h_wd) (h_ho := h_ho) (h_hh := h_hh) (h_so := h_so) (h_rp := h_rp) (h_rd := h_rd) (h_rh := h_rh) (h_sl := h_sl) (h_n := h_n) (h_nw := h_nw) (h_nh := h_nh) (h_B := h_B) (h_nr := h_nr) (h_sz := h_sz) (h_s7 := h_s7) (r_P := r_P) (r_W := r_W) (r_H := r_H) (r_R := r_R) (r_S := r_S) (r_G := r_G)⟩
