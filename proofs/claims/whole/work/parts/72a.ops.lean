set_option maxRecDepth 100000 in
theorem op_sheet {l : Launch} {D : va_G} {ad : Nat → Nat} {cI cZ cS cP : ClassId} : Op_sheet l D cI cZ cS cP (ad 0) (ad 36) (Inv ad cI cZ cS cP) := by
  intro w0 hJ a1 a2 a3
  refine hJ (fun w0 => CkI l yX10_sheet wsX10_sheet D (kT cI cZ cS cP) (ad 0) 10 [.int a1, .int a2, .int a3] w0 (fun r w1 => CkI l yX11_sheet wsX11_sheet D (kT cI cZ cS cP) (ad 36) 11 [.int a1, .int a2, .int a3] w1 (fun r2 w2 => r2 = r ∧ Inv ad cI cZ cS cP w2))) ?_
  intro vpg vem vdr vn vxp vxd vxo vxh vnw vnh vB vsd vrc vyp vyd vyh vnr vt1 vt2 vt3 vt4 vtn vtm vtb vzd vzr vfl vln vsz vsf vt vft vra vrn vkd vlo ver vqk vql vqe vwp vwd vho vhh vso vrp vrd vrh vss vsl vsc vhs pa h_em h_dr h_xp h_xd h_xo h_xh h_sd h_rc h_yp h_yd h_yh h_t1 h_t2 h_t3 h_t4 h_zd h_zr h_fl h_ln h_kd h_lo h_er h_qk h_ql h_qe h_wp h_wd h_ho h_hh h_so h_rp h_rd h_rh h_sl h_n h_nw h_nh h_B h_nr h_sz h_s7 r_P r_W r_H r_R r_S r_G
  have h_B1 := B128 h_n h_B
  by_cases c1 : inR a1 4
  · obtain ⟨k, hk, rfl⟩ := inR_nat c1
    by_cases c2 : inR a2 3
    · obtain ⟨y, hy, rfl⟩ := inR_nat c2
      by_cases c3 : a3 ≤ nI 60
      · by_cases c4 : 0 ≤ a3
        · obtain ⟨z, hz6, rfl⟩ := inR_nat (in61 c4 c3)
          have hc : CkI l yX10_sheet wsX10_sheet D (kT cI cZ cS cP) (ad 0) 10 [.int (nI k), .int (nI y), .int (nI z)] (JW ad cI cZ cS cP vpg vem vdr vn vxp vxd vxo vxh vnw vnh vB vsd vrc vyp vyd vyh vnr vt1 vt2 vt3 vt4 vtn vtm vtb vzd vzr vfl vln vsz vsf vt vft vft vn vB vra vrn vnw vnh vnr vt vkd vlo ver vqk vql vqe vwp vwd vho vhh vso vrp vrd vrh vss vsl vsc vhs (pcs pa vkd vlo ver vn)) (fun r w1 => (r = (nI 1)) ∧ w1 = (JW ad cI cZ cS cP vpg vem vdr vn vxp vxd vxo vxh vnw vnh vB vsd vrc vyp vyd vyh vnr vt1 vt2 vt3 vt4 vtn vtm vtb vzd vzr (va_up vfl k 1) (va_up vln k y) (va_up vsz k z) (va_up vsf k (zf (vsf k) 60)) vt 0 vft vn vB vra vrn vnw vnh vnr vt vkd vlo ver vqk vql vqe vwp vwd vho vhh vso vrp vrd vrh vss vsl vsc vhs (pcs pa vkd vlo ver vn))) := by
            rcases k4 hk with rfl | rfl | rfl | rfl
            · exact pkC_sheet_ok_0 (hk1 := (by decide)) (hsg := rfl) (hfl := (h_fl _)) (hln := (h_ln _)) (hsz := (h_sz _)) (hy1 := (by first | assumption | omega)) (hz1 := (by first | assumption | omega))
            · exact pkC_sheet_ok_1 (hk1 := (by decide)) (hsg := rfl) (hfl := (h_fl _)) (hln := (h_ln _)) (hsz := (h_sz _)) (hy1 := (by first | assumption | omega)) (hz1 := (by first | assumption | omega))
            · exact pkC_sheet_ok_2 (hk1 := (by decide)) (hsg := rfl) (hfl := (h_fl _)) (hln := (h_ln _)) (hsz := (h_sz _)) (hy1 := (by first | assumption | omega)) (hz1 := (by first | assumption | omega))
            · exact pkC_sheet_ok_3 (hk1 := (by decide)) (hsg := rfl) (hfl := (h_fl _)) (hln := (h_ln _)) (hsz := (h_sz _)) (hy1 := (by first | assumption | omega)) (hz1 := (by first | assumption | omega))
          refine CkI.mono hc (fun r w1 h1 => ?_)
          obtain ⟨rfl, rfl⟩ := h1
          refine CkI.mono (pkM_sheet_ok (hsl := h_sl) (hk := (by first | assumption | omega)) (hb3 := (by first | assumption | omega)) (hz6 := (by first | assumption | omega))) (fun r2 w2 h2 => ?_)
          obtain ⟨h2, rfl⟩ := h2
          exact ⟨h2.trans (rfl), inv_mk (h_em := h_em) (h_dr := h_dr) (h_xp := h_xp) (h_xd := h_xd) (h_xo := h_xo) (h_xh := h_xh) (h_sd := h_sd) (h_rc := h_rc) (h_yp := h_yp) (h_yd := h_yd) (h_yh := h_yh) (h_t1 := h_t1) (h_t2 := h_t2) (h_t3 := h_t3) (h_t4 := h_t4) (h_zd := h_zd) (h_zr := h_zr) (h_fl := (up_lt h_fl (by decide))) (h_ln := (up_lt h_ln hy)) (h_kd := h_kd) (h_lo := h_lo) (h_er := h_er) (h_qk := h_qk) (h_ql := h_ql) (h_qe := h_qe) (h_wp := h_wp) (h_wd := h_wd) (h_ho := h_ho) (h_hh := h_hh) (h_so := h_so) (h_rp := h_rp) (h_rd := h_rd) (h_rh := h_rh) (h_sl := (up_lt h_sl hy)) (h_n := h_n) (h_nw := h_nw) (h_nh := h_nh) (h_B := h_B) (h_nr := h_nr) (h_sz := (up_le h_sz (by omega))) (h_s7 := h_s7) (r_P := r_P) (r_W := r_W) (r_H := r_H) (r_R := r_R) (r_S := (rs_sheet r_S h_sz (by omega))) (r_G := r_G)⟩
        · skip
          have hc : CkI l yX10_sheet wsX10_sheet D (kT cI cZ cS cP) (ad 0) 10 [.int (nI k), .int (nI y), .int a3] (JW ad cI cZ cS cP vpg vem vdr vn vxp vxd vxo vxh vnw vnh vB vsd vrc vyp vyd vyh vnr vt1 vt2 vt3 vt4 vtn vtm vtb vzd vzr vfl vln vsz vsf vt vft vft vn vB vra vrn vnw vnh vnr vt vkd vlo ver vqk vql vqe vwp vwd vho vhh vso vrp vrd vrh vss vsl vsc vhs (pcs pa vkd vlo ver vn)) (fun r w1 => (r = ((-10) - (nI 4))) ∧ w1 = (JW ad cI cZ cS cP vpg vem vdr vn vxp vxd vxo vxh vnw vnh vB vsd vrc vyp vyd vyh vnr vt1 vt2 vt3 vt4 vtn vtm vtb vzd vzr vfl vln vsz vsf vt 4 vft vn vB vra vrn vnw vnh vnr vt vkd vlo ver vqk vql vqe vwp vwd vho vhh vso vrp vrd vrh vss vsl vsc vhs (pcs pa vkd vlo ver vn))) := by
            rcases k4 hk with rfl | rfl | rfl | rfl
            · exact pkC_sheet_size_0 (hk1 := (by decide)) (hsg := rfl) (hfl := (h_fl _)) (hln := (h_ln _)) (hsz := (h_sz _)) (hy1 := (by first | assumption | omega)) (hz1 := (by first | assumption | omega)) (hz2 := (by first | assumption | omega))
            · exact pkC_sheet_size_1 (hk1 := (by decide)) (hsg := rfl) (hfl := (h_fl _)) (hln := (h_ln _)) (hsz := (h_sz _)) (hy1 := (by first | assumption | omega)) (hz1 := (by first | assumption | omega)) (hz2 := (by first | assumption | omega))
            · exact pkC_sheet_size_2 (hk1 := (by decide)) (hsg := rfl) (hfl := (h_fl _)) (hln := (h_ln _)) (hsz := (h_sz _)) (hy1 := (by first | assumption | omega)) (hz1 := (by first | assumption | omega)) (hz2 := (by first | assumption | omega))
            · exact pkC_sheet_size_3 (hk1 := (by decide)) (hsg := rfl) (hfl := (h_fl _)) (hln := (h_ln _)) (hsz := (h_sz _)) (hy1 := (by first | assumption | omega)) (hz1 := (by first | assumption | omega)) (hz2 := (by first | assumption | omega))
          refine CkI.mono hc (fun r w1 h1 => ?_)
          obtain ⟨rfl, rfl⟩ := h1
          refine CkI.mono (pkM_sheet_size (hk := (by first | assumption | omega)) (hb3 := (by first | assumption | omega)) (hw1 := (by first | assumption | omega)) (hw2 := (by first | assumption | omega))) (fun r2 w2 h2 => ?_)
          obtain ⟨h2, rfl⟩ := h2
          exact ⟨h2.trans (rfl), inv_mk (h_em := h_em) (h_dr := h_dr) (h_xp := h_xp) (h_xd := h_xd) (h_xo := h_xo) (h_xh := h_xh) (h_sd := h_sd) (h_rc := h_rc) (h_yp := h_yp) (h_yd := h_yd) (h_yh := h_yh) (h_t1 := h_t1) (h_t2 := h_t2) (h_t3 := h_t3) (h_t4 := h_t4) (h_zd := h_zd) (h_zr := h_zr) (h_fl := h_fl) (h_ln := h_ln) (h_kd := h_kd) (h_lo := h_lo) (h_er := h_er) (h_qk := h_qk) (h_ql := h_ql) (h_qe := h_qe) (h_wp := h_wp) (h_wd := h_wd) (h_ho := h_ho) (h_hh := h_hh) (h_so := h_so) (h_rp := h_rp) (h_rd := h_rd) (h_rh := h_rh) (h_sl := h_sl) (h_n := h_n) (h_nw := h_nw) (h_nh := h_nh) (h_B := h_B) (h_nr := h_nr) (h_sz := h_sz) (h_s7 := h_s7) (r_P := r_P) (r_W := r_W) (r_H := r_H) (r_R := r_R) (r_S := r_S) (r_G := r_G)⟩
      · skip
        have hc : CkI l yX10_sheet wsX10_sheet D (kT cI cZ cS cP) (ad 0) 10 [.int (nI k), .int (nI y), .int a3] (JW ad cI cZ cS cP vpg vem vdr vn vxp vxd vxo vxh vnw vnh vB vsd vrc vyp vyd vyh vnr vt1 vt2 vt3 vt4 vtn vtm vtb vzd vzr vfl vln vsz vsf vt vft vft vn vB vra vrn vnw vnh vnr vt vkd vlo ver vqk vql vqe vwp vwd vho vhh vso vrp vrd vrh vss vsl vsc vhs (pcs pa vkd vlo ver vn)) (fun r w1 => (r = (-2)) ∧ w1 = (JW ad cI cZ cS cP vpg vem vdr vn vxp vxd vxo vxh vnw vnh vB vsd vrc vyp vyd vyh vnr vt1 vt2 vt3 vt4 vtn vtm vtb vzd vzr vfl vln vsz vsf vt 0 vft vn vB vra vrn vnw vnh vnr vt vkd vlo ver vqk vql vqe vwp vwd vho vhh vso vrp vrd vrh vss vsl vsc vhs (pcs pa vkd vlo ver vn))) := by
          rcases k4 hk with rfl | rfl | rfl | rfl
          · exact pkC_sheet_big_0 (hk1 := (by decide)) (hsg := rfl) (hfl := (h_fl _)) (hln := (h_ln _)) (hsz := (h_sz _)) (hy1 := (by first | assumption | omega)) (hz1 := (by first | assumption | omega))
          · exact pkC_sheet_big_1 (hk1 := (by decide)) (hsg := rfl) (hfl := (h_fl _)) (hln := (h_ln _)) (hsz := (h_sz _)) (hy1 := (by first | assumption | omega)) (hz1 := (by first | assumption | omega))
          · exact pkC_sheet_big_2 (hk1 := (by decide)) (hsg := rfl) (hfl := (h_fl _)) (hln := (h_ln _)) (hsz := (h_sz _)) (hy1 := (by first | assumption | omega)) (hz1 := (by first | assumption | omega))
          · exact pkC_sheet_big_3 (hk1 := (by decide)) (hsg := rfl) (hfl := (h_fl _)) (hln := (h_ln _)) (hsz := (h_sz _)) (hy1 := (by first | assumption | omega)) (hz1 := (by first | assumption | omega))
        refine CkI.mono hc (fun r w1 h1 => ?_)
        obtain ⟨rfl, rfl⟩ := h1
        refine CkI.mono (pkM_sheet_big (hk := (by first | assumption | omega)) (hb3 := (by first | assumption | omega)) (hw1 := (by first | assumption | omega))) (fun r2 w2 h2 => ?_)
        obtain ⟨h2, rfl⟩ := h2
        exact ⟨h2.trans (rfl), inv_mk (h_em := h_em) (h_dr := h_dr) (h_xp := h_xp) (h_xd := h_xd) (h_xo := h_xo) (h_xh := h_xh) (h_sd := h_sd) (h_rc := h_rc) (h_yp := h_yp) (h_yd := h_yd) (h_yh := h_yh) (h_t1 := h_t1) (h_t2 := h_t2) (h_t3 := h_t3) (h_t4 := h_t4) (h_zd := h_zd) (h_zr := h_zr) (h_fl := h_fl) (h_ln := h_ln) (h_kd := h_kd) (h_lo := h_lo) (h_er := h_er) (h_qk := h_qk) (h_ql := h_ql) (h_qe := h_qe) (h_wp := h_wp) (h_wd := h_wd) (h_ho := h_ho) (h_hh := h_hh) (h_so := h_so) (h_rp := h_rp) (h_rd := h_rd) (h_rh := h_rh) (h_sl := h_sl) (h_n := h_n) (h_nw := h_nw) (h_nh := h_nh) (h_B := h_B) (h_nr := h_nr) (h_sz := h_sz) (h_s7 := h_s7) (r_P := r_P) (r_W := r_W) (r_H := r_H) (r_R := r_R) (r_S := r_S) (r_G := r_G)⟩
    · skip
      have hc : CkI l yX10_sheet wsX10_sheet D (kT cI cZ cS cP) (ad 0) 10 [.int (nI k), .int a2, .int a3] (JW ad cI cZ cS cP vpg vem vdr vn vxp vxd vxo vxh vnw vnh vB vsd vrc vyp vyd vyh vnr vt1 vt2 vt3 vt4 vtn vtm vtb vzd vzr vfl vln vsz vsf vt vft vft vn vB vra vrn vnw vnh vnr vt vkd vlo ver vqk vql vqe vwp vwd vho vhh vso vrp vrd vrh vss vsl vsc vhs (pcs pa vkd vlo ver vn)) (fun r w1 => (r = (-2)) ∧ w1 = (JW ad cI cZ cS cP vpg vem vdr vn vxp vxd vxo vxh vnw vnh vB vsd vrc vyp vyd vyh vnr vt1 vt2 vt3 vt4 vtn vtm vtb vzd vzr vfl vln vsz vsf vt 0 vft vn vB vra vrn vnw vnh vnr vt vkd vlo ver vqk vql vqe vwp vwd vho vhh vso vrp vrd vrh vss vsl vsc vhs (pcs pa vkd vlo ver vn))) := by
        rcases k4 hk with rfl | rfl | rfl | rfl
        · exact pkC_sheet_lane_0 (hk1 := (by decide)) (hsg := rfl) (hfl := (h_fl _)) (hln := (h_ln _)) (hsz := (h_sz _)) (hy1 := (by first | assumption | omega))
        · exact pkC_sheet_lane_1 (hk1 := (by decide)) (hsg := rfl) (hfl := (h_fl _)) (hln := (h_ln _)) (hsz := (h_sz _)) (hy1 := (by first | assumption | omega))
        · exact pkC_sheet_lane_2 (hk1 := (by decide)) (hsg := rfl) (hfl := (h_fl _)) (hln := (h_ln _)) (hsz := (h_sz _)) (hy1 := (by first | assumption | omega))
        · exact pkC_sheet_lane_3 (hk1 := (by decide)) (hsg := rfl) (hfl := (h_fl _)) (hln := (h_ln _)) (hsz := (h_sz _)) (hy1 := (by first | assumption | omega))
      refine CkI.mono hc (fun r w1 h1 => ?_)
      obtain ⟨rfl, rfl⟩ := h1
      refine CkI.mono (pkM_sheet_lane (hk := (by first | assumption | omega)) (hx1 := (by first | assumption | omega))) (fun r2 w2 h2 => ?_)
      obtain ⟨h2, rfl⟩ := h2
      exact ⟨h2.trans (rfl), inv_mk (h_em := h_em) (h_dr := h_dr) (h_xp := h_xp) (h_xd := h_xd) (h_xo := h_xo) (h_xh := h_xh) (h_sd := h_sd) (h_rc := h_rc) (h_yp := h_yp) (h_yd := h_yd) (h_yh := h_yh) (h_t1 := h_t1) (h_t2 := h_t2) (h_t3 := h_t3) (h_t4 := h_t4) (h_zd := h_zd) (h_zr := h_zr) (h_fl := h_fl) (h_ln := h_ln) (h_kd := h_kd) (h_lo := h_lo) (h_er := h_er) (h_qk := h_qk) (h_ql := h_ql) (h_qe := h_qe) (h_wp := h_wp) (h_wd := h_wd) (h_ho := h_ho) (h_hh := h_hh) (h_so := h_so) (h_rp := h_rp) (h_rd := h_rd) (h_rh := h_rh) (h_sl := h_sl) (h_n := h_n) (h_nw := h_nw) (h_nh := h_nh) (h_B := h_B) (h_nr := h_nr) (h_sz := h_sz) (h_s7 := h_s7) (r_P := r_P) (r_W := r_W) (r_H := r_H) (r_R := r_R) (r_S := r_S) (r_G := r_G)⟩
  · skip
    refine CkI.mono (pkC_sheet_bad (hx1 := (by first | assumption | omega))) (fun r w1 h1 => ?_)
    obtain ⟨rfl, rfl⟩ := h1
    refine CkI.mono (pkM_sheet_bad (hx1 := (by first | assumption | omega))) (fun r2 w2 h2 => ?_)
    obtain ⟨h2, rfl⟩ := h2
    exact ⟨h2.trans (rfl), inv_mk (h_em := h_em) (h_dr := h_dr) (h_xp := h_xp) (h_xd := h_xd) (h_xo := h_xo) (h_xh := h_xh) (h_sd := h_sd) (h_rc := h_rc) (h_yp := h_yp) (h_yd := h_yd) (h_yh := h_yh) (h_t1 := h_t1) (h_t2 := h_t2) (h_t3 := h_t3) (h_t4 := h_t4) (h_zd := h_zd) (h_zr := h_zr) (h_fl := h_fl) (h_ln := h_ln) (h_kd := h_kd) (h_lo := h_lo) (h_er := h_er) (h_qk := h_qk) (h_ql := h_ql) (h_qe := h_qe) (h_wp := h_wp) (h_wd := h_wd) (h_ho := h_ho) (h_hh := h_hh) (h_so := h_so) (h_rp := h_rp) (h_rd := h_rd) (h_rh := h_rh) (h_sl := h_sl) (h_n := h_n) (h_nw := h_nw) (h_nh := h_nh) (h_B := h_B) (h_nr := h_nr) (h_sz := h_sz) (h_s7 := h_s7) (r_P := r_P) (r_W := r_W) (r_H := r_H) (r_R := r_R) (r_S := r_S) (r_G := r_G)⟩
set_option maxRecDepth 100000 in
theorem op_lose {l : Launch} {D : va_G} {ad : Nat → Nat} {cI cZ cS cP : ClassId} : Op_lose l D cI cZ cS cP (ad 0) (ad 36) (Inv ad cI cZ cS cP) := by
  intro w0 hJ a1
  refine hJ (fun w0 => CkI l yX10_lose wsX10_lose D (kT cI cZ cS cP) (ad 0) 10 [.int a1] w0 (fun r w1 => CkI l yX11_lose wsX11_lose D (kT cI cZ cS cP) (ad 36) 11 [.int a1] w1 (fun r2 w2 => r2 = r ∧ Inv ad cI cZ cS cP w2))) ?_
  intro vpg vem vdr vn vxp vxd vxo vxh vnw vnh vB vsd vrc vyp vyd vyh vnr vt1 vt2 vt3 vt4 vtn vtm vtb vzd vzr vfl vln vsz vsf vt vft vra vrn vkd vlo ver vqk vql vqe vwp vwd vho vhh vso vrp vrd vrh vss vsl vsc vhs pa h_em h_dr h_xp h_xd h_xo h_xh h_sd h_rc h_yp h_yd h_yh h_t1 h_t2 h_t3 h_t4 h_zd h_zr h_fl h_ln h_kd h_lo h_er h_qk h_ql h_qe h_wp h_wd h_ho h_hh h_so h_rp h_rd h_rh h_sl h_n h_nw h_nh h_B h_nr h_sz h_s7 r_P r_W r_H r_R r_S r_G
  have h_B1 := B128 h_n h_B
  by_cases c1 : inR a1 4
  · obtain ⟨k, hk, rfl⟩ := inR_nat c1
    by_cases cf : vfl k = 0
    · have hz : vss k = -1 := by rw [(r_S k hk).1]; exact ssv_n cf
      have hc : CkI l yX10_lose wsX10_lose D (kT cI cZ cS cP) (ad 0) 10 [.int (nI k)] (JW ad cI cZ cS cP vpg vem vdr vn vxp vxd vxo vxh vnw vnh vB vsd vrc vyp vyd vyh vnr vt1 vt2 vt3 vt4 vtn vtm vtb vzd vzr vfl vln vsz vsf vt vft vft vn vB vra vrn vnw vnh vnr vt vkd vlo ver vqk vql vqe vwp vwd vho vhh vso vrp vrd vrh vss vsl vsc vhs (pcs pa vkd vlo ver vn)) (fun r w1 => (r = (nI 0)) ∧ w1 = (JW ad cI cZ cS cP vpg vem vdr vn vxp vxd vxo vxh vnw vnh vB vsd vrc vyp vyd vyh vnr vt1 vt2 vt3 vt4 vtn vtm vtb vzd vzr vfl vln vsz vsf vt vft vft vn vB vra vrn vnw vnh vnr vt vkd vlo ver vqk vql vqe vwp vwd vho vhh vso vrp vrd vrh vss vsl vsc vhs (pcs pa vkd vlo ver vn))) := by
        rcases k4 hk with rfl | rfl | rfl | rfl
        · exact pkC_lose_none_0 (hk1 := (by decide)) (hsg := rfl) (hfl := (h_fl _)) (hln := (h_ln _)) (hsz := (h_sz _)) (h0 := (by first | assumption | omega))
        · exact pkC_lose_none_1 (hk1 := (by decide)) (hsg := rfl) (hfl := (h_fl _)) (hln := (h_ln _)) (hsz := (h_sz _)) (h0 := (by first | assumption | omega))
        · exact pkC_lose_none_2 (hk1 := (by decide)) (hsg := rfl) (hfl := (h_fl _)) (hln := (h_ln _)) (hsz := (h_sz _)) (h0 := (by first | assumption | omega))
        · exact pkC_lose_none_3 (hk1 := (by decide)) (hsg := rfl) (hfl := (h_fl _)) (hln := (h_ln _)) (hsz := (h_sz _)) (h0 := (by first | assumption | omega))
      refine CkI.mono hc (fun r w1 h1 => ?_)
      obtain ⟨rfl, rfl⟩ := h1
      refine CkI.mono (pkM_lose_none (hk := (by first | assumption | omega)) (hz := (by first | assumption | omega))) (fun r2 w2 h2 => ?_)
      obtain ⟨h2, rfl⟩ := h2
      exact ⟨h2.trans (rfl), inv_mk (h_em := h_em) (h_dr := h_dr) (h_xp := h_xp) (h_xd := h_xd) (h_xo := h_xo) (h_xh := h_xh) (h_sd := h_sd) (h_rc := h_rc) (h_yp := h_yp) (h_yd := h_yd) (h_yh := h_yh) (h_t1 := h_t1) (h_t2 := h_t2) (h_t3 := h_t3) (h_t4 := h_t4) (h_zd := h_zd) (h_zr := h_zr) (h_fl := h_fl) (h_ln := h_ln) (h_kd := h_kd) (h_lo := h_lo) (h_er := h_er) (h_qk := h_qk) (h_ql := h_ql) (h_qe := h_qe) (h_wp := h_wp) (h_wd := h_wd) (h_ho := h_ho) (h_hh := h_hh) (h_so := h_so) (h_rp := h_rp) (h_rd := h_rd) (h_rh := h_rh) (h_sl := h_sl) (h_n := h_n) (h_nw := h_nw) (h_nh := h_nh) (h_B := h_B) (h_nr := h_nr) (h_sz := h_sz) (h_s7 := h_s7) (r_P := r_P) (r_W := r_W) (r_H := r_H) (r_R := r_R) (r_S := (rs_lose0 r_S cf)) (r_G := r_G)⟩
    · have hz : vss k = nI (vsz k) := by rw [(r_S k hk).1]; exact ssv_y cf
      have hc : CkI l yX10_lose wsX10_lose D (kT cI cZ cS cP) (ad 0) 10 [.int (nI k)] (JW ad cI cZ cS cP vpg vem vdr vn vxp vxd vxo vxh vnw vnh vB vsd vrc vyp vyd vyh vnr vt1 vt2 vt3 vt4 vtn vtm vtb vzd vzr vfl vln vsz vsf vt vft vft vn vB vra vrn vnw vnh vnr vt vkd vlo ver vqk vql vqe vwp vwd vho vhh vso vrp vrd vrh vss vsl vsc vhs (pcs pa vkd vlo ver vn)) (fun r w1 => (r = (nI 1)) ∧ w1 = (JW ad cI cZ cS cP vpg vem vdr vn vxp vxd vxo vxh vnw vnh vB vsd vrc vyp vyd vyh vnr vt1 vt2 vt3 vt4 vtn vtm vtb vzd vzr (va_up vfl k 0) (va_up vln k (vln k)) (va_up vsz k 0) vsf vt vft vft vn vB vra vrn vnw vnh vnr vt vkd vlo ver vqk vql vqe vwp vwd vho vhh vso vrp vrd vrh vss vsl vsc vhs (pcs pa vkd vlo ver vn))) := by
        rcases k4 hk with rfl | rfl | rfl | rfl
        · exact pkC_lose_ok_0 (hk1 := (by decide)) (hsg := rfl) (hfl := (h_fl _)) (hln := (h_ln _)) (hsz := (h_sz _)) (h0 := (by first | assumption | omega))
        · exact pkC_lose_ok_1 (hk1 := (by decide)) (hsg := rfl) (hfl := (h_fl _)) (hln := (h_ln _)) (hsz := (h_sz _)) (h0 := (by first | assumption | omega))
        · exact pkC_lose_ok_2 (hk1 := (by decide)) (hsg := rfl) (hfl := (h_fl _)) (hln := (h_ln _)) (hsz := (h_sz _)) (h0 := (by first | assumption | omega))
        · exact pkC_lose_ok_3 (hk1 := (by decide)) (hsg := rfl) (hfl := (h_fl _)) (hln := (h_ln _)) (hsz := (h_sz _)) (h0 := (by first | assumption | omega))
      refine CkI.mono hc (fun r w1 h1 => ?_)
      obtain ⟨rfl, rfl⟩ := h1
      refine CkI.mono (pkM_lose_ok (hk := (by first | assumption | omega)) (hz := hz) (hz6 := (h_sz k))) (fun r2 w2 h2 => ?_)
      obtain ⟨h2, rfl⟩ := h2
      exact ⟨h2.trans (rfl), inv_mk (h_em := h_em) (h_dr := h_dr) (h_xp := h_xp) (h_xd := h_xd) (h_xo := h_xo) (h_xh := h_xh) (h_sd := h_sd) (h_rc := h_rc) (h_yp := h_yp) (h_yd := h_yd) (h_yh := h_yh) (h_t1 := h_t1) (h_t2 := h_t2) (h_t3 := h_t3) (h_t4 := h_t4) (h_zd := h_zd) (h_zr := h_zr) (h_fl := (up_lt h_fl (by decide))) (h_ln := (up_lt h_ln (h_ln k))) (h_kd := h_kd) (h_lo := h_lo) (h_er := h_er) (h_qk := h_qk) (h_ql := h_ql) (h_qe := h_qe) (h_wp := h_wp) (h_wd := h_wd) (h_ho := h_ho) (h_hh := h_hh) (h_so := h_so) (h_rp := h_rp) (h_rd := h_rd) (h_rh := h_rh) (h_sl := h_sl) (h_n := h_n) (h_nw := h_nw) (h_nh := h_nh) (h_B := h_B) (h_nr := h_nr) (h_sz := (up_le h_sz (Nat.zero_le _))) (h_s7 := h_s7) (r_P := r_P) (r_W := r_W) (r_H := r_H) (r_R := r_R) (r_S := (rs_lose r_S)) (r_G := r_G)⟩
  · skip
    refine CkI.mono (pkC_lose_bad (hx1 := (by first | assumption | omega))) (fun r w1 h1 => ?_)
    obtain ⟨rfl, rfl⟩ := h1
    refine CkI.mono (pkM_lose_bad (hx1 := (by first | assumption | omega))) (fun r2 w2 h2 => ?_)
    obtain ⟨h2, rfl⟩ := h2
    exact ⟨h2.trans (rfl), inv_mk (h_em := h_em) (h_dr := h_dr) (h_xp := h_xp) (h_xd := h_xd) (h_xo := h_xo) (h_xh := h_xh) (h_sd := h_sd) (h_rc := h_rc) (h_yp := h_yp) (h_yd := h_yd) (h_yh := h_yh) (h_t1 := h_t1) (h_t2 := h_t2) (h_t3 := h_t3) (h_t4 := h_t4) (h_zd := h_zd) (h_zr := h_zr) (h_fl := h_fl) (h_ln := h_ln) (h_kd := h_kd) (h_lo := h_lo) (h_er := h_er) (h_qk := h_qk) (h_ql := h_ql) (h_qe := h_qe) (h_wp := h_wp) (h_wd := h_wd) (h_ho := h_ho) (h_hh := h_hh) (h_so := h_so) (h_rp := h_rp) (h_rd := h_rd) (h_rh := h_rh) (h_sl := h_sl) (h_n := h_n) (h_nw := h_nw) (h_nh := h_nh) (h_B := h_B) (h_nr := h_nr) (h_sz := h_sz) (h_s7 := h_s7) (r_P := r_P) (r_W := r_W) (r_H := r_H) (r_R := r_R) (r_S := r_S) (r_G := r_G)⟩
set_option maxRecDepth 100000 in
theorem op_put {l : Launch} {D : va_G} {ad : Nat → Nat} {cI cZ cS cP : ClassId} : Op_put l D cI cZ cS cP (ad 0) (ad 36) (Inv ad cI cZ cS cP) := by
  intro w0 hJ a1 a2 a3
  refine hJ (fun w0 => CkI l yX10_put wsX10_put D (kT cI cZ cS cP) (ad 0) 10 [.int a1, .int a2, .int a3] w0 (fun r w1 => CkI l yX11_put wsX11_put D (kT cI cZ cS cP) (ad 36) 11 [.int a1, .int a2, .int a3] w1 (fun r2 w2 => r2 = r ∧ Inv ad cI cZ cS cP w2))) ?_
  intro vpg vem vdr vn vxp vxd vxo vxh vnw vnh vB vsd vrc vyp vyd vyh vnr vt1 vt2 vt3 vt4 vtn vtm vtb vzd vzr vfl vln vsz vsf vt vft vra vrn vkd vlo ver vqk vql vqe vwp vwd vho vhh vso vrp vrd vrh vss vsl vsc vhs pa h_em h_dr h_xp h_xd h_xo h_xh h_sd h_rc h_yp h_yd h_yh h_t1 h_t2 h_t3 h_t4 h_zd h_zr h_fl h_ln h_kd h_lo h_er h_qk h_ql h_qe h_wp h_wd h_ho h_hh h_so h_rp h_rd h_rh h_sl h_n h_nw h_nh h_B h_nr h_sz h_s7 r_P r_W r_H r_R r_S r_G
  have h_B1 := B128 h_n h_B
  by_cases c1 : inR a1 4
  · obtain ⟨k, hk, rfl⟩ := inR_nat c1
    by_cases cf : vfl k = 0
    · have hz : vss k = -1 := by rw [(r_S k hk).1]; exact ssv_n cf
      have hc : CkI l yX10_put wsX10_put D (kT cI cZ cS cP) (ad 0) 10 [.int (nI k), .int a2, .int a3] (JW ad cI cZ cS cP vpg vem vdr vn vxp vxd vxo vxh vnw vnh vB vsd vrc vyp vyd vyh vnr vt1 vt2 vt3 vt4 vtn vtm vtb vzd vzr vfl vln vsz vsf vt vft vft vn vB vra vrn vnw vnh vnr vt vkd vlo ver vqk vql vqe vwp vwd vho vhh vso vrp vrd vrh vss vsl vsc vhs (pcs pa vkd vlo ver vn)) (fun r w1 => (r = ((-10) - (nI 1))) ∧ w1 = (JW ad cI cZ cS cP vpg vem vdr vn vxp vxd vxo vxh vnw vnh vB vsd vrc vyp vyd vyh vnr vt1 vt2 vt3 vt4 vtn vtm vtb vzd vzr vfl vln vsz vsf vt 1 vft vn vB vra vrn vnw vnh vnr vt vkd vlo ver vqk vql vqe vwp vwd vho vhh vso vrp vrd vrh vss vsl vsc vhs (pcs pa vkd vlo ver vn))) := by
        rcases k4 hk with rfl | rfl | rfl | rfl
        · exact pkC_put_null_0 (hk1 := (by decide)) (hsg := rfl) (hfl := (h_fl _)) (hln := (h_ln _)) (hsz := (h_sz _)) (h0 := (by first | assumption | omega))
        · exact pkC_put_null_1 (hk1 := (by decide)) (hsg := rfl) (hfl := (h_fl _)) (hln := (h_ln _)) (hsz := (h_sz _)) (h0 := (by first | assumption | omega))
        · exact pkC_put_null_2 (hk1 := (by decide)) (hsg := rfl) (hfl := (h_fl _)) (hln := (h_ln _)) (hsz := (h_sz _)) (h0 := (by first | assumption | omega))
        · exact pkC_put_null_3 (hk1 := (by decide)) (hsg := rfl) (hfl := (h_fl _)) (hln := (h_ln _)) (hsz := (h_sz _)) (h0 := (by first | assumption | omega))
      refine CkI.mono hc (fun r w1 h1 => ?_)
      obtain ⟨rfl, rfl⟩ := h1
      refine CkI.mono (pkM_put_null (hk := (by first | assumption | omega)) (hz := (by first | assumption | omega))) (fun r2 w2 h2 => ?_)
      obtain ⟨h2, rfl⟩ := h2
      exact ⟨h2.trans (rfl), inv_mk (h_em := h_em) (h_dr := h_dr) (h_xp := h_xp) (h_xd := h_xd) (h_xo := h_xo) (h_xh := h_xh) (h_sd := h_sd) (h_rc := h_rc) (h_yp := h_yp) (h_yd := h_yd) (h_yh := h_yh) (h_t1 := h_t1) (h_t2 := h_t2) (h_t3 := h_t3) (h_t4 := h_t4) (h_zd := h_zd) (h_zr := h_zr) (h_fl := h_fl) (h_ln := h_ln) (h_kd := h_kd) (h_lo := h_lo) (h_er := h_er) (h_qk := h_qk) (h_ql := h_ql) (h_qe := h_qe) (h_wp := h_wp) (h_wd := h_wd) (h_ho := h_ho) (h_hh := h_hh) (h_so := h_so) (h_rp := h_rp) (h_rd := h_rd) (h_rh := h_rh) (h_sl := h_sl) (h_n := h_n) (h_nw := h_nw) (h_nh := h_nh) (h_B := h_B) (h_nr := h_nr) (h_sz := h_sz) (h_s7 := h_s7) (r_P := r_P) (r_W := r_W) (r_H := r_H) (r_R := r_R) (r_S := r_S) (r_G := r_G)⟩
    · have hz : vss k = nI (vsz k) := by rw [(r_S k hk).1]; exact ssv_y cf
      by_cases c2 : inR a2 (vsz k)
      · obtain ⟨y, hy, rfl⟩ := inR_nat c2
        have hc : CkI l yX10_put wsX10_put D (kT cI cZ cS cP) (ad 0) 10 [.int (nI k), .int (nI y), .int a3] (JW ad cI cZ cS cP vpg vem vdr vn vxp vxd vxo vxh vnw vnh vB vsd vrc vyp vyd vyh vnr vt1 vt2 vt3 vt4 vtn vtm vtb vzd vzr vfl vln vsz vsf vt vft vft vn vB vra vrn vnw vnh vnr vt vkd vlo ver vqk vql vqe vwp vwd vho vhh vso vrp vrd vrh vss vsl vsc vhs (pcs pa vkd vlo ver vn)) (fun r w1 => (r = (nI 1)) ∧ w1 = (JW ad cI cZ cS cP vpg vem vdr vn vxp vxd vxo vxh vnw vnh vB vsd vrc vyp vyd vyh vnr vt1 vt2 vt3 vt4 vtn vtm vtb vzd vzr vfl vln vsz (va_up vsf k (upd (vsf k) y (cutv (vln k) a3))) vt 0 vft vn vB vra vrn vnw vnh vnr vt vkd vlo ver vqk vql vqe vwp vwd vho vhh vso vrp vrd vrh vss vsl vsc vhs (pcs pa vkd vlo ver vn))) := by
          rcases k4 hk with rfl | rfl | rfl | rfl
          · exact pkC_put_ok_0 (hk1 := (by decide)) (hsg := rfl) (hfl := (h_fl _)) (hln := (h_ln _)) (hsz := (h_sz _)) (h0 := (by first | assumption | omega)) (hy1 := (by first | assumption | omega))
          · exact pkC_put_ok_1 (hk1 := (by decide)) (hsg := rfl) (hfl := (h_fl _)) (hln := (h_ln _)) (hsz := (h_sz _)) (h0 := (by first | assumption | omega)) (hy1 := (by first | assumption | omega))
          · exact pkC_put_ok_2 (hk1 := (by decide)) (hsg := rfl) (hfl := (h_fl _)) (hln := (h_ln _)) (hsz := (h_sz _)) (h0 := (by first | assumption | omega)) (hy1 := (by first | assumption | omega))
          · exact pkC_put_ok_3 (hk1 := (by decide)) (hsg := rfl) (hfl := (h_fl _)) (hln := (h_ln _)) (hsz := (h_sz _)) (h0 := (by first | assumption | omega)) (hy1 := (by first | assumption | omega))
        refine CkI.mono hc (fun r w1 h1 => ?_)
        obtain ⟨rfl, rfl⟩ := h1
        refine CkI.mono (pkM_put_ok (hsl := h_sl) (hk := (by first | assumption | omega)) (hz := hz) (hz6 := (h_sz k)) (hy1 := hy)) (fun r2 w2 h2 => ?_)
        obtain ⟨h2, rfl⟩ := h2
        exact ⟨h2.trans (rfl), inv_mk (h_em := h_em) (h_dr := h_dr) (h_xp := h_xp) (h_xd := h_xd) (h_xo := h_xo) (h_xh := h_xh) (h_sd := h_sd) (h_rc := h_rc) (h_yp := h_yp) (h_yd := h_yd) (h_yh := h_yh) (h_t1 := h_t1) (h_t2 := h_t2) (h_t3 := h_t3) (h_t4 := h_t4) (h_zd := h_zd) (h_zr := h_zr) (h_fl := h_fl) (h_ln := h_ln) (h_kd := h_kd) (h_lo := h_lo) (h_er := h_er) (h_qk := h_qk) (h_ql := h_ql) (h_qe := h_qe) (h_wp := h_wp) (h_wd := h_wd) (h_ho := h_ho) (h_hh := h_hh) (h_so := h_so) (h_rp := h_rp) (h_rd := h_rd) (h_rh := h_rh) (h_sl := h_sl) (h_n := h_n) (h_nw := h_nw) (h_nh := h_nh) (h_B := h_B) (h_nr := h_nr) (h_sz := h_sz) (h_s7 := h_s7) (r_P := r_P) (r_W := r_W) (r_H := r_H) (r_R := r_R) (r_S := (rs_put r_S h_sz hk hy)) (r_G := r_G)⟩
      · skip
        have hc : CkI l yX10_put wsX10_put D (kT cI cZ cS cP) (ad 0) 10 [.int (nI k), .int a2, .int a3] (JW ad cI cZ cS cP vpg vem vdr vn vxp vxd vxo vxh vnw vnh vB vsd vrc vyp vyd vyh vnr vt1 vt2 vt3 vt4 vtn vtm vtb vzd vzr vfl vln vsz vsf vt vft vft vn vB vra vrn vnw vnh vnr vt vkd vlo ver vqk vql vqe vwp vwd vho vhh vso vrp vrd vrh vss vsl vsc vhs (pcs pa vkd vlo ver vn)) (fun r w1 => (r = ((-10) - (nI 3))) ∧ w1 = (JW ad cI cZ cS cP vpg vem vdr vn vxp vxd vxo vxh vnw vnh vB vsd vrc vyp vyd vyh vnr vt1 vt2 vt3 vt4 vtn vtm vtb vzd vzr vfl vln vsz vsf vt 3 vft vn vB vra vrn vnw vnh vnr vt vkd vlo ver vqk vql vqe vwp vwd vho vhh vso vrp vrd vrh vss vsl vsc vhs (pcs pa vkd vlo ver vn))) := by
          rcases k4 hk with rfl | rfl | rfl | rfl
          · exact pkC_put_idx_0 (hk1 := (by decide)) (hsg := rfl) (hfl := (h_fl _)) (hln := (h_ln _)) (hsz := (h_sz _)) (h0 := (by first | assumption | omega)) (hy1 := (by first | assumption | omega))
          · exact pkC_put_idx_1 (hk1 := (by decide)) (hsg := rfl) (hfl := (h_fl _)) (hln := (h_ln _)) (hsz := (h_sz _)) (h0 := (by first | assumption | omega)) (hy1 := (by first | assumption | omega))
          · exact pkC_put_idx_2 (hk1 := (by decide)) (hsg := rfl) (hfl := (h_fl _)) (hln := (h_ln _)) (hsz := (h_sz _)) (h0 := (by first | assumption | omega)) (hy1 := (by first | assumption | omega))
          · exact pkC_put_idx_3 (hk1 := (by decide)) (hsg := rfl) (hfl := (h_fl _)) (hln := (h_ln _)) (hsz := (h_sz _)) (h0 := (by first | assumption | omega)) (hy1 := (by first | assumption | omega))
        refine CkI.mono hc (fun r w1 h1 => ?_)
        obtain ⟨rfl, rfl⟩ := h1
        refine CkI.mono (pkM_put_idx (hk := (by first | assumption | omega)) (hz := hz) (hz6 := (h_sz k)) (hy1 := c2)) (fun r2 w2 h2 => ?_)
        obtain ⟨h2, rfl⟩ := h2
        exact ⟨h2.trans (rfl), inv_mk (h_em := h_em) (h_dr := h_dr) (h_xp := h_xp) (h_xd := h_xd) (h_xo := h_xo) (h_xh := h_xh) (h_sd := h_sd) (h_rc := h_rc) (h_yp := h_yp) (h_yd := h_yd) (h_yh := h_yh) (h_t1 := h_t1) (h_t2 := h_t2) (h_t3 := h_t3) (h_t4 := h_t4) (h_zd := h_zd) (h_zr := h_zr) (h_fl := h_fl) (h_ln := h_ln) (h_kd := h_kd) (h_lo := h_lo) (h_er := h_er) (h_qk := h_qk) (h_ql := h_ql) (h_qe := h_qe) (h_wp := h_wp) (h_wd := h_wd) (h_ho := h_ho) (h_hh := h_hh) (h_so := h_so) (h_rp := h_rp) (h_rd := h_rd) (h_rh := h_rh) (h_sl := h_sl) (h_n := h_n) (h_nw := h_nw) (h_nh := h_nh) (h_B := h_B) (h_nr := h_nr) (h_sz := h_sz) (h_s7 := h_s7) (r_P := r_P) (r_W := r_W) (r_H := r_H) (r_R := r_R) (r_S := r_S) (r_G := r_G)⟩
  · skip
    refine CkI.mono (pkC_put_bad (hx1 := (by first | assumption | omega))) (fun r w1 h1 => ?_)
    obtain ⟨rfl, rfl⟩ := h1
    refine CkI.mono (pkM_put_bad (hx1 := (by first | assumption | omega))) (fun r2 w2 h2 => ?_)
    obtain ⟨h2, rfl⟩ := h2
    exact ⟨h2.trans (rfl), inv_mk (h_em := h_em) (h_dr := h_dr) (h_xp := h_xp) (h_xd := h_xd) (h_xo := h_xo) (h_xh := h_xh) (h_sd := h_sd) (h_rc := h_rc) (h_yp := h_yp) (h_yd := h_yd) (h_yh := h_yh) (h_t1 := h_t1) (h_t2 := h_t2) (h_t3 := h_t3) (h_t4 := h_t4) (h_zd := h_zd) (h_zr := h_zr) (h_fl := h_fl) (h_ln := h_ln) (h_kd := h_kd) (h_lo := h_lo) (h_er := h_er) (h_qk := h_qk) (h_ql := h_ql) (h_qe := h_qe) (h_wp := h_wp) (h_wd := h_wd) (h_ho := h_ho) (h_hh := h_hh) (h_so := h_so) (h_rp := h_rp) (h_rd := h_rd) (h_rh := h_rh) (h_sl := h_sl) (h_n := h_n) (h_nw := h_nw) (h_nh := h_nh) (h_B := h_B) (h_nr := h_nr) (h_sz := h_sz) (h_s7 := h_s7) (r_P := r_P) (r_W := r_W) (r_H := r_H) (r_R := r_R) (r_S := r_S) (r_G := r_G)⟩
set_option maxRecDepth 100000 in
theorem op_cell {l : Launch} {D : va_G} {ad : Nat → Nat} {cI cZ cS cP : ClassId} : Op_cell l D cI cZ cS cP (ad 0) (ad 36) (Inv ad cI cZ cS cP) := by
  intro w0 hJ a1 a2 a3
  refine hJ (fun w0 => CkL l yX10_cell wsX10_cell D (kT cI cZ cS cP) (ad 0) 10 [.int a1, .int a2, .int a3] w0 (fun r w1 => CkL l yX11_cell wsX11_cell D (kT cI cZ cS cP) (ad 36) 11 [.int a1, .int a2, .int a3] w1 (fun r2 w2 => r2 = r ∧ Inv ad cI cZ cS cP w2))) ?_
  intro vpg vem vdr vn vxp vxd vxo vxh vnw vnh vB vsd vrc vyp vyd vyh vnr vt1 vt2 vt3 vt4 vtn vtm vtb vzd vzr vfl vln vsz vsf vt vft vra vrn vkd vlo ver vqk vql vqe vwp vwd vho vhh vso vrp vrd vrh vss vsl vsc vhs pa h_em h_dr h_xp h_xd h_xo h_xh h_sd h_rc h_yp h_yd h_yh h_t1 h_t2 h_t3 h_t4 h_zd h_zr h_fl h_ln h_kd h_lo h_er h_qk h_ql h_qe h_wp h_wd h_ho h_hh h_so h_rp h_rd h_rh h_sl h_n h_nw h_nh h_B h_nr h_sz h_s7 r_P r_W r_H r_R r_S r_G
  have h_B1 := B128 h_n h_B
  by_cases c1 : inR a1 4
  · obtain ⟨k, hk, rfl⟩ := inR_nat c1
    by_cases c3 : inR a3 3
    · obtain ⟨b, hb3, rfl⟩ := inR_nat c3
      have hsl := (r_S k hk).2.1
      by_cases cf : vfl k = 0
      · have hz : vss k = -1 := by rw [(r_S k hk).1]; exact ssv_n cf
        have hf1 : fLane (vfl k) b (vln k) = 1 := fl_1 cf
        have hc : CkL l yX10_cell wsX10_cell D (kT cI cZ cS cP) (ad 0) 10 [.int (nI k), .int a2, .int (nI b)] (JW ad cI cZ cS cP vpg vem vdr vn vxp vxd vxo vxh vnw vnh vB vsd vrc vyp vyd vyh vnr vt1 vt2 vt3 vt4 vtn vtm vtb vzd vzr vfl vln vsz vsf vt vft vft vn vB vra vrn vnw vnh vnr vt vkd vlo ver vqk vql vqe vwp vwd vho vhh vso vrp vrd vrh vss vsl vsc vhs (pcs pa vkd vlo ver vn)) (fun r w1 => (r = (-9223372036854775808)) ∧ w1 = (JW ad cI cZ cS cP vpg vem vdr vn vxp vxd vxo vxh vnw vnh vB vsd vrc vyp vyd vyh vnr vt1 vt2 vt3 vt4 vtn vtm vtb vzd vzr vfl vln vsz vsf vt (fLane (vfl k) b (vln k)) vft vn vB vra vrn vnw vnh vnr vt vkd vlo ver vqk vql vqe vwp vwd vho vhh vso vrp vrd vrh vss vsl vsc vhs (pcs pa vkd vlo ver vn))) := by
          rcases k4 hk with rfl | rfl | rfl | rfl
          · exact pkC_cell_fl_0 (hk1 := (by decide)) (hsg := rfl) (hfl := (h_fl _)) (hln := (h_ln _)) (hsz := (h_sz _)) (hb3 := (by first | assumption | omega)) (hft := (by rw [hf1]; decide))
          · exact pkC_cell_fl_1 (hk1 := (by decide)) (hsg := rfl) (hfl := (h_fl _)) (hln := (h_ln _)) (hsz := (h_sz _)) (hb3 := (by first | assumption | omega)) (hft := (by rw [hf1]; decide))
          · exact pkC_cell_fl_2 (hk1 := (by decide)) (hsg := rfl) (hfl := (h_fl _)) (hln := (h_ln _)) (hsz := (h_sz _)) (hb3 := (by first | assumption | omega)) (hft := (by rw [hf1]; decide))
          · exact pkC_cell_fl_3 (hk1 := (by decide)) (hsg := rfl) (hfl := (h_fl _)) (hln := (h_ln _)) (hsz := (h_sz _)) (hb3 := (by first | assumption | omega)) (hft := (by rw [hf1]; decide))
        refine CkL.mono hc (fun r w1 h1 => ?_)
        obtain ⟨rfl, rfl⟩ := h1
        refine CkL.mono (pkM_cell_null (hk := (by first | assumption | omega)) (hb3 := (by first | assumption | omega)) (hz := (by first | assumption | omega))) (fun r2 w2 h2 => ?_)
        obtain ⟨h2, rfl⟩ := h2
        exact ⟨h2.trans (rfl), (by rw [hf1]; exact inv_mk (h_em := h_em) (h_dr := h_dr) (h_xp := h_xp) (h_xd := h_xd) (h_xo := h_xo) (h_xh := h_xh) (h_sd := h_sd) (h_rc := h_rc) (h_yp := h_yp) (h_yd := h_yd) (h_yh := h_yh) (h_t1 := h_t1) (h_t2 := h_t2) (h_t3 := h_t3) (h_t4 := h_t4) (h_zd := h_zd) (h_zr := h_zr) (h_fl := h_fl) (h_ln := h_ln) (h_kd := h_kd) (h_lo := h_lo) (h_er := h_er) (h_qk := h_qk) (h_ql := h_ql) (h_qe := h_qe) (h_wp := h_wp) (h_wd := h_wd) (h_ho := h_ho) (h_hh := h_hh) (h_so := h_so) (h_rp := h_rp) (h_rd := h_rd) (h_rh := h_rh) (h_sl := h_sl) (h_n := h_n) (h_nw := h_nw) (h_nh := h_nh) (h_B := h_B) (h_nr := h_nr) (h_sz := h_sz) (h_s7 := h_s7) (r_P := r_P) (r_W := r_W) (r_H := r_H) (r_R := r_R) (r_S := r_S) (r_G := r_G))⟩
      · have hz : vss k = nI (vsz k) := by rw [(r_S k hk).1]; exact ssv_y cf
        by_cases cl : vln k = b
        · have hf1 : fLane (vfl k) b (vln k) = 0 := fl_0 cf cl
          by_cases c2 : inR a2 (vsz k)
          · obtain ⟨y, hy, rfl⟩ := inR_nat c2
            have hc : CkL l yX10_cell wsX10_cell D (kT cI cZ cS cP) (ad 0) 10 [.int (nI k), .int (nI y), .int (nI b)] (JW ad cI cZ cS cP vpg vem vdr vn vxp vxd vxo vxh vnw vnh vB vsd vrc vyp vyd vyh vnr vt1 vt2 vt3 vt4 vtn vtm vtb vzd vzr vfl vln vsz vsf vt vft vft vn vB vra vrn vnw vnh vnr vt vkd vlo ver vqk vql vqe vwp vwd vho vhh vso vrp vrd vrh vss vsl vsc vhs (pcs pa vkd vlo ver vn)) (fun r w1 => (r = (((vsf k) y).toInt64)) ∧ w1 = (JW ad cI cZ cS cP vpg vem vdr vn vxp vxd vxo vxh vnw vnh vB vsd vrc vyp vyd vyh vnr vt1 vt2 vt3 vt4 vtn vtm vtb vzd vzr vfl vln vsz vsf vt 0 vft vn vB vra vrn vnw vnh vnr vt vkd vlo ver vqk vql vqe vwp vwd vho vhh vso vrp vrd vrh vss vsl vsc vhs (pcs pa vkd vlo ver vn))) := by
              rcases k4 hk with rfl | rfl | rfl | rfl
              · exact pkC_cell_ok_0 (hk1 := (by decide)) (hsg := rfl) (hfl := (h_fl _)) (hln := (h_ln _)) (hsz := (h_sz _)) (hb3 := (by first | assumption | omega)) (hft := (by first | assumption | omega)) (hy1 := (by first | assumption | omega))
              · exact pkC_cell_ok_1 (hk1 := (by decide)) (hsg := rfl) (hfl := (h_fl _)) (hln := (h_ln _)) (hsz := (h_sz _)) (hb3 := (by first | assumption | omega)) (hft := (by first | assumption | omega)) (hy1 := (by first | assumption | omega))
              · exact pkC_cell_ok_2 (hk1 := (by decide)) (hsg := rfl) (hfl := (h_fl _)) (hln := (h_ln _)) (hsz := (h_sz _)) (hb3 := (by first | assumption | omega)) (hft := (by first | assumption | omega)) (hy1 := (by first | assumption | omega))
              · exact pkC_cell_ok_3 (hk1 := (by decide)) (hsg := rfl) (hfl := (h_fl _)) (hln := (h_ln _)) (hsz := (h_sz _)) (hb3 := (by first | assumption | omega)) (hft := (by first | assumption | omega)) (hy1 := (by first | assumption | omega))
            refine CkL.mono hc (fun r w1 h1 => ?_)
            obtain ⟨rfl, rfl⟩ := h1
            refine CkL.mono (pkM_cell_ok (hsl := h_sl) (hk := (by first | assumption | omega)) (hb3 := (by first | assumption | omega)) (hc := (by rw [hsl]; exact cl)) (hz := hz) (hz6 := (h_sz k)) (hy1 := hy)) (fun r2 w2 h2 => ?_)
            obtain ⟨h2, rfl⟩ := h2
            exact ⟨h2.trans (congrArg Int32.toInt64 ((r_S k hk).2.2 y hy)), inv_mk (h_em := h_em) (h_dr := h_dr) (h_xp := h_xp) (h_xd := h_xd) (h_xo := h_xo) (h_xh := h_xh) (h_sd := h_sd) (h_rc := h_rc) (h_yp := h_yp) (h_yd := h_yd) (h_yh := h_yh) (h_t1 := h_t1) (h_t2 := h_t2) (h_t3 := h_t3) (h_t4 := h_t4) (h_zd := h_zd) (h_zr := h_zr) (h_fl := h_fl) (h_ln := h_ln) (h_kd := h_kd) (h_lo := h_lo) (h_er := h_er) (h_qk := h_qk) (h_ql := h_ql) (h_qe := h_qe) (h_wp := h_wp) (h_wd := h_wd) (h_ho := h_ho) (h_hh := h_hh) (h_so := h_so) (h_rp := h_rp) (h_rd := h_rd) (h_rh := h_rh) (h_sl := h_sl) (h_n := h_n) (h_nw := h_nw) (h_nh := h_nh) (h_B := h_B) (h_nr := h_nr) (h_sz := h_sz) (h_s7 := h_s7) (r_P := r_P) (r_W := r_W) (r_H := r_H) (r_R := r_R) (r_S := r_S) (r_G := r_G)⟩
          · skip
            have hc : CkL l yX10_cell wsX10_cell D (kT cI cZ cS cP) (ad 0) 10 [.int (nI k), .int a2, .int (nI b)] (JW ad cI cZ cS cP vpg vem vdr vn vxp vxd vxo vxh vnw vnh vB vsd vrc vyp vyd vyh vnr vt1 vt2 vt3 vt4 vtn vtm vtb vzd vzr vfl vln vsz vsf vt vft vft vn vB vra vrn vnw vnh vnr vt vkd vlo ver vqk vql vqe vwp vwd vho vhh vso vrp vrd vrh vss vsl vsc vhs (pcs pa vkd vlo ver vn)) (fun r w1 => (r = (-9223372036854775808)) ∧ w1 = (JW ad cI cZ cS cP vpg vem vdr vn vxp vxd vxo vxh vnw vnh vB vsd vrc vyp vyd vyh vnr vt1 vt2 vt3 vt4 vtn vtm vtb vzd vzr vfl vln vsz vsf vt 3 vft vn vB vra vrn vnw vnh vnr vt vkd vlo ver vqk vql vqe vwp vwd vho vhh vso vrp vrd vrh vss vsl vsc vhs (pcs pa vkd vlo ver vn))) := by
              rcases k4 hk with rfl | rfl | rfl | rfl
              · exact pkC_cell_idx_0 (hk1 := (by decide)) (hsg := rfl) (hfl := (h_fl _)) (hln := (h_ln _)) (hsz := (h_sz _)) (hb3 := (by first | assumption | omega)) (hft := (by first | assumption | omega)) (hy1 := (by first | assumption | omega))
              · exact pkC_cell_idx_1 (hk1 := (by decide)) (hsg := rfl) (hfl := (h_fl _)) (hln := (h_ln _)) (hsz := (h_sz _)) (hb3 := (by first | assumption | omega)) (hft := (by first | assumption | omega)) (hy1 := (by first | assumption | omega))
              · exact pkC_cell_idx_2 (hk1 := (by decide)) (hsg := rfl) (hfl := (h_fl _)) (hln := (h_ln _)) (hsz := (h_sz _)) (hb3 := (by first | assumption | omega)) (hft := (by first | assumption | omega)) (hy1 := (by first | assumption | omega))
              · exact pkC_cell_idx_3 (hk1 := (by decide)) (hsg := rfl) (hfl := (h_fl _)) (hln := (h_ln _)) (hsz := (h_sz _)) (hb3 := (by first | assumption | omega)) (hft := (by first | assumption | omega)) (hy1 := (by first | assumption | omega))
            refine CkL.mono hc (fun r w1 h1 => ?_)
            obtain ⟨rfl, rfl⟩ := h1
            refine CkL.mono (pkM_cell_idx (hsl := h_sl) (hk := (by first | assumption | omega)) (hb3 := (by first | assumption | omega)) (hc := (by rw [hsl]; exact cl)) (hz := hz) (hz6 := (h_sz k)) (hy1 := c2)) (fun r2 w2 h2 => ?_)
            obtain ⟨h2, rfl⟩ := h2
            exact ⟨h2.trans (rfl), inv_mk (h_em := h_em) (h_dr := h_dr) (h_xp := h_xp) (h_xd := h_xd) (h_xo := h_xo) (h_xh := h_xh) (h_sd := h_sd) (h_rc := h_rc) (h_yp := h_yp) (h_yd := h_yd) (h_yh := h_yh) (h_t1 := h_t1) (h_t2 := h_t2) (h_t3 := h_t3) (h_t4 := h_t4) (h_zd := h_zd) (h_zr := h_zr) (h_fl := h_fl) (h_ln := h_ln) (h_kd := h_kd) (h_lo := h_lo) (h_er := h_er) (h_qk := h_qk) (h_ql := h_ql) (h_qe := h_qe) (h_wp := h_wp) (h_wd := h_wd) (h_ho := h_ho) (h_hh := h_hh) (h_so := h_so) (h_rp := h_rp) (h_rd := h_rd) (h_rh := h_rh) (h_sl := h_sl) (h_n := h_n) (h_nw := h_nw) (h_nh := h_nh) (h_B := h_B) (h_nr := h_nr) (h_sz := h_sz) (h_s7 := h_s7) (r_P := r_P) (r_W := r_W) (r_H := r_H) (r_R := r_R) (r_S := r_S) (r_G := r_G)⟩
        · have hf1 : fLane (vfl k) b (vln k) = 2 := fl_2 cf cl
          have hc : CkL l yX10_cell wsX10_cell D (kT cI cZ cS cP) (ad 0) 10 [.int (nI k), .int a2, .int (nI b)] (JW ad cI cZ cS cP vpg vem vdr vn vxp vxd vxo vxh vnw vnh vB vsd vrc vyp vyd vyh vnr vt1 vt2 vt3 vt4 vtn vtm vtb vzd vzr vfl vln vsz vsf vt vft vft vn vB vra vrn vnw vnh vnr vt vkd vlo ver vqk vql vqe vwp vwd vho vhh vso vrp vrd vrh vss vsl vsc vhs (pcs pa vkd vlo ver vn)) (fun r w1 => (r = (-9223372036854775808)) ∧ w1 = (JW ad cI cZ cS cP vpg vem vdr vn vxp vxd vxo vxh vnw vnh vB vsd vrc vyp vyd vyh vnr vt1 vt2 vt3 vt4 vtn vtm vtb vzd vzr vfl vln vsz vsf vt (fLane (vfl k) b (vln k)) vft vn vB vra vrn vnw vnh vnr vt vkd vlo ver vqk vql vqe vwp vwd vho vhh vso vrp vrd vrh vss vsl vsc vhs (pcs pa vkd vlo ver vn))) := by
            rcases k4 hk with rfl | rfl | rfl | rfl
            · exact pkC_cell_fl_0 (hk1 := (by decide)) (hsg := rfl) (hfl := (h_fl _)) (hln := (h_ln _)) (hsz := (h_sz _)) (hb3 := (by first | assumption | omega)) (hft := (by rw [hf1]; decide))
            · exact pkC_cell_fl_1 (hk1 := (by decide)) (hsg := rfl) (hfl := (h_fl _)) (hln := (h_ln _)) (hsz := (h_sz _)) (hb3 := (by first | assumption | omega)) (hft := (by rw [hf1]; decide))
            · exact pkC_cell_fl_2 (hk1 := (by decide)) (hsg := rfl) (hfl := (h_fl _)) (hln := (h_ln _)) (hsz := (h_sz _)) (hb3 := (by first | assumption | omega)) (hft := (by rw [hf1]; decide))
            · exact pkC_cell_fl_3 (hk1 := (by decide)) (hsg := rfl) (hfl := (h_fl _)) (hln := (h_ln _)) (hsz := (h_sz _)) (hb3 := (by first | assumption | omega)) (hft := (by rw [hf1]; decide))
          refine CkL.mono hc (fun r w1 h1 => ?_)
          obtain ⟨rfl, rfl⟩ := h1
          refine CkL.mono (pkM_cell_cast (hsl := h_sl) (hk := (by first | assumption | omega)) (hb3 := (by first | assumption | omega)) (hc := (by rw [hsl]; exact cl)) (hz := hz) (hz6 := (h_sz k))) (fun r2 w2 h2 => ?_)
          obtain ⟨h2, rfl⟩ := h2
          exact ⟨h2.trans (rfl), (by rw [hf1]; exact inv_mk (h_em := h_em) (h_dr := h_dr) (h_xp := h_xp) (h_xd := h_xd) (h_xo := h_xo) (h_xh := h_xh) (h_sd := h_sd) (h_rc := h_rc) (h_yp := h_yp) (h_yd := h_yd) (h_yh := h_yh) (h_t1 := h_t1) (h_t2 := h_t2) (h_t3 := h_t3) (h_t4 := h_t4) (h_zd := h_zd) (h_zr := h_zr) (h_fl := h_fl) (h_ln := h_ln) (h_kd := h_kd) (h_lo := h_lo) (h_er := h_er) (h_qk := h_qk) (h_ql := h_ql) (h_qe := h_qe) (h_wp := h_wp) (h_wd := h_wd) (h_ho := h_ho) (h_hh := h_hh) (h_so := h_so) (h_rp := h_rp) (h_rd := h_rd) (h_rh := h_rh) (h_sl := h_sl) (h_n := h_n) (h_nw := h_nw) (h_nh := h_nh) (h_B := h_B) (h_nr := h_nr) (h_sz := h_sz) (h_s7 := h_s7) (r_P := r_P) (r_W := r_W) (r_H := r_H) (r_R := r_R) (r_S := r_S) (r_G := r_G))⟩
    · skip
      have hc : CkL l yX10_cell wsX10_cell D (kT cI cZ cS cP) (ad 0) 10 [.int (nI k), .int a2, .int a3] (JW ad cI cZ cS cP vpg vem vdr vn vxp vxd vxo vxh vnw vnh vB vsd vrc vyp vyd vyh vnr vt1 vt2 vt3 vt4 vtn vtm vtb vzd vzr vfl vln vsz vsf vt vft vft vn vB vra vrn vnw vnh vnr vt vkd vlo ver vqk vql vqe vwp vwd vho vhh vso vrp vrd vrh vss vsl vsc vhs (pcs pa vkd vlo ver vn)) (fun r w1 => (r = (-9223372036854775808)) ∧ w1 = (JW ad cI cZ cS cP vpg vem vdr vn vxp vxd vxo vxh vnw vnh vB vsd vrc vyp vyd vyh vnr vt1 vt2 vt3 vt4 vtn vtm vtb vzd vzr vfl vln vsz vsf vt 0 vft vn vB vra vrn vnw vnh vnr vt vkd vlo ver vqk vql vqe vwp vwd vho vhh vso vrp vrd vrh vss vsl vsc vhs (pcs pa vkd vlo ver vn))) := by
        rcases k4 hk with rfl | rfl | rfl | rfl
        · exact pkC_cell_lane_0 (q1 := 0) (f := (fun _ => 0)) (fl := 0) (ln := 0) (sz := 0) (hk1 := (by decide)) (hsg := rfl) (hz1 := (by first | assumption | omega))
        · exact pkC_cell_lane_1 (q1 := 0) (f := (fun _ => 0)) (fl := 0) (ln := 0) (sz := 0) (hk1 := (by decide)) (hsg := rfl) (hz1 := (by first | assumption | omega))
        · exact pkC_cell_lane_2 (q1 := 0) (f := (fun _ => 0)) (fl := 0) (ln := 0) (sz := 0) (hk1 := (by decide)) (hsg := rfl) (hz1 := (by first | assumption | omega))
        · exact pkC_cell_lane_3 (q1 := 0) (f := (fun _ => 0)) (fl := 0) (ln := 0) (sz := 0) (hk1 := (by decide)) (hsg := rfl) (hz1 := (by first | assumption | omega))
      refine CkL.mono hc (fun r w1 h1 => ?_)
      obtain ⟨rfl, rfl⟩ := h1
      refine CkL.mono (pkM_cell_lane (hk := (by first | assumption | omega)) (hx1 := (by first | assumption | omega))) (fun r2 w2 h2 => ?_)
      obtain ⟨h2, rfl⟩ := h2
      exact ⟨h2.trans (rfl), inv_mk (h_em := h_em) (h_dr := h_dr) (h_xp := h_xp) (h_xd := h_xd) (h_xo := h_xo) (h_xh := h_xh) (h_sd := h_sd) (h_rc := h_rc) (h_yp := h_yp) (h_yd := h_yd) (h_yh := h_yh) (h_t1 := h_t1) (h_t2 := h_t2) (h_t3 := h_t3) (h_t4 := h_t4) (h_zd := h_zd) (h_zr := h_zr) (h_fl := h_fl) (h_ln := h_ln) (h_kd := h_kd) (h_lo := h_lo) (h_er := h_er) (h_qk := h_qk) (h_ql := h_ql) (h_qe := h_qe) (h_wp := h_wp) (h_wd := h_wd) (h_ho := h_ho) (h_hh := h_hh) (h_so := h_so) (h_rp := h_rp) (h_rd := h_rd) (h_rh := h_rh) (h_sl := h_sl) (h_n := h_n) (h_nw := h_nw) (h_nh := h_nh) (h_B := h_B) (h_nr := h_nr) (h_sz := h_sz) (h_s7 := h_s7) (r_P := r_P) (r_W := r_W) (r_H := r_H) (r_R := r_R) (r_S := r_S) (r_G := r_G)⟩
  · skip
    refine CkL.mono (pkC_cell_bad (hx1 := (by first | assumption | omega))) (fun r w1 h1 => ?_)
    obtain ⟨rfl, rfl⟩ := h1
    refine CkL.mono (pkM_cell_bad (hx1 := (by first | assumption | omega))) (fun r2 w2 h2 => ?_)
    obtain ⟨h2, rfl⟩ := h2
    exact ⟨h2.trans (rfl), inv_mk (h_em := h_em) (h_dr := h_dr) (h_xp := h_xp) (h_xd := h_xd) (h_xo := h_xo) (h_xh := h_xh) (h_sd := h_sd) (h_rc := h_rc) (h_yp := h_yp) (h_yd := h_yd) (h_yh := h_yh) (h_t1 := h_t1) (h_t2 := h_t2) (h_t3 := h_t3) (h_t4 := h_t4) (h_zd := h_zd) (h_zr := h_zr) (h_fl := h_fl) (h_ln := h_ln) (h_kd := h_kd) (h_lo := h_lo) (h_er := h_er) (h_qk := h_qk) (h_ql := h_ql) (h_qe := h_qe) (h_wp := h_wp) (h_wd := h_wd) (h_ho := h_ho) (h_hh := h_hh) (h_so := h_so) (h_rp := h_rp) (h_rd := h_rd) (h_rh := h_rh) (h_sl := h_sl) (h_n := h_n) (h_nw := h_nw) (h_nh := h_nh) (h_B := h_B) (h_nr := h_nr) (h_sz := h_sz) (h_s7 := h_s7) (r_P := r_P) (r_W := r_W) (r_H := r_H) (r_R := r_R) (r_S := r_S) (r_G := r_G)⟩
