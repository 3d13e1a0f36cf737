set_option maxRecDepth 100000 in
theorem op_street {l : Launch} {D : va_G} {ad : Nat → Nat} {cI cZ cS cP : ClassId} : Op_street l D cI cZ cS cP (ad 0) (ad 36) (Inv ad cI cZ cS cP) := by
  intro w0 hJ a1 a2 a3 a4
  refine hJ (fun w0 => CkI l yX10_street wsX10_street D (kT cI cZ cS cP) (ad 0) 10 [.int a1, .int a2, .int a3, .int a4] w0 (fun r w1 => CkI l yX11_street wsX11_street D (kT cI cZ cS cP) (ad 36) 11 [.int a1, .int a2, .int a3, .int a4] w1 (fun r2 w2 => r2 = r ∧ Inv ad cI cZ cS cP w2))) ?_
  intro vpg vem vdr vn vxp vxd vxo vxh vnw vnh vB vsd vrc vyp vyd vyh vnr vt1 vt2 vt3 vt4 vtn vtm vtb vzd vzr vfl vln vsz vsf vt vft vra vrn vkd vlo ver vqk vql vqe vwp vwd vho vhh vso vrp vrd vrh vss vsl vsc vhs pa h_em h_dr h_xp h_xd h_xo h_xh h_sd h_rc h_yp h_yd h_yh h_t1 h_t2 h_t3 h_t4 h_zd h_zr h_fl h_ln h_kd h_lo h_er h_qk h_ql h_qe h_wp h_wd h_ho h_hh h_so h_rp h_rd h_rh h_sl h_n h_nw h_nh h_B h_nr h_sz h_s7 r_P r_W r_H r_R r_S r_G
  have h_B1 := B128 h_n h_B
  by_cases c1 : inR a1 4
  · obtain ⟨k, hk, rfl⟩ := inR_nat c1
    by_cases c2 : inR a2 3
    · obtain ⟨a, ha, rfl⟩ := inR_nat c2
      have hsl := (r_S k hk).2.1
      by_cases cft : fTake (vfl k) a (vln k) (vsz k) a3 a4 = 0
      · obtain ⟨cf, cl, cs, ci⟩ := ft_ok cft
        have hz : vss k = nI (vsz k) := by rw [(r_S k hk).1]; exact ssv_y cf
        have hcl : vsl k = a := by rw [hsl]; exact cl
        obtain ⟨i, nn, hin, rfl, rfl⟩ := hcs_of ci (h_sz k)
        have hs6 := h_sz k
        have hsc : ∀ q, q < nn → vsc (((60 * k) + i) + q) = vsf k (i + q) := fun q hq => by rw [Nat.add_assoc]; exact (r_S k hk).2.2 (i + q) (by omega)
        have hfe := fwr_cg (f := vsf k) (f' := vsc) (fr := i) (fr' := 60 * k + i) (n := nn) (fun z hz9 => (hsc z hz9).symm)
        cases hfw : fwr (vsf k) i nn with
        | some j =>
          have hj := (fwr_some hfw).2.1
          have hc : CkI l yX10_street wsX10_street D (kT cI cZ cS cP) (ad 0) 10 [.int (nI k), .int (nI a), .int (nI i), .int (nI nn)] (JW ad cI cZ cS cP vpg vem vdr vn vxp vxd vxo vxh vnw vnh vB vsd vrc vyp vyd vyh vnr vt1 vt2 vt3 vt4 vtn vtm vtb vzd vzr vfl vln vsz vsf vt vft vft vn vB vra vrn vnw vnh vnr vt vkd vlo ver vqk vql vqe vwp vwd vho vhh vso vrp vrd vrh vss vsl vsc vhs (pcs pa vkd vlo ver vn)) (fun r w1 => (r = ((-100) - (nI j))) ∧ w1 = (JW ad cI cZ cS cP vpg vem vdr vn vxp vxd vxo vxh vnw vnh vB vsd vrc vyp vyd vyh vnr vt1 vt2 vt3 vt4 vtn vtm vtb vzd vzr vfl vln vsz vsf vt 0 vft vn vB vra vrn vnw vnh vnr vt vkd vlo ver vqk vql vqe vwp vwd vho vhh vso vrp vrd vrh vss vsl vsc vhs (pcs pa vkd vlo ver vn))) := by
            rcases k4 hk with rfl | rfl | rfl | rfl
            · exact pkC_street_wrong_0 (hk1 := (by decide)) (hsg := rfl) (hfl := (h_fl _)) (hln := (h_ln _)) (hsz := (h_sz _)) (ha := (by first | assumption | omega)) (hft := cft) (hfn := hin) (hfw := hfw) (hj := hj)
            · exact pkC_street_wrong_1 (hk1 := (by decide)) (hsg := rfl) (hfl := (h_fl _)) (hln := (h_ln _)) (hsz := (h_sz _)) (ha := (by first | assumption | omega)) (hft := cft) (hfn := hin) (hfw := hfw) (hj := hj)
            · exact pkC_street_wrong_2 (hk1 := (by decide)) (hsg := rfl) (hfl := (h_fl _)) (hln := (h_ln _)) (hsz := (h_sz _)) (ha := (by first | assumption | omega)) (hft := cft) (hfn := hin) (hfw := hfw) (hj := hj)
            · exact pkC_street_wrong_3 (hk1 := (by decide)) (hsg := rfl) (hfl := (h_fl _)) (hln := (h_ln _)) (hsz := (h_sz _)) (ha := (by first | assumption | omega)) (hft := cft) (hfn := hin) (hfw := hfw) (hj := hj)
          refine CkI.mono hc (fun r w1 h1 => ?_)
          obtain ⟨rfl, rfl⟩ := h1
          refine CkI.mono (pkM_street_wrong (sz := vsz k) (j := j) (hkd := h_kd) (hlo := h_lo) (her := h_er) (hqk := h_qk) (hql := h_ql) (hqe := h_qe) (hsl := h_sl) (hk := (by first | assumption | omega)) (ha := (by first | assumption | omega)) (hsz := (h_sz k)) (hz0 := hz) (hc := hcl) (hil := hin) (hj := (by rw [← hfe]; exact hfw))) (fun r2 w2 h2 => ?_)
          obtain ⟨m_e1, m_e4, m_e5, m_e6, ⟨h2, m_he1, m_he4, m_he5, m_he6⟩, rfl⟩ := h2
          exact ⟨h2.trans (rfl), inv_mk (h_em := h_em) (h_dr := h_dr) (h_xp := h_xp) (h_xd := h_xd) (h_xo := h_xo) (h_xh := h_xh) (h_sd := h_sd) (h_rc := h_rc) (h_yp := h_yp) (h_yd := h_yd) (h_yh := h_yh) (h_t1 := h_t1) (h_t2 := h_t2) (h_t3 := h_t3) (h_t4 := h_t4) (h_zd := h_zd) (h_zr := h_zr) (h_fl := h_fl) (h_ln := h_ln) (h_kd := h_kd) (h_lo := h_lo) (h_er := h_er) (h_qk := m_he4) (h_ql := m_he5) (h_qe := m_he6) (h_wp := h_wp) (h_wd := h_wd) (h_ho := h_ho) (h_hh := h_hh) (h_so := h_so) (h_rp := h_rp) (h_rd := h_rd) (h_rh := h_rh) (h_sl := h_sl) (h_n := h_n) (h_nw := h_nw) (h_nh := h_nh) (h_B := h_B) (h_nr := h_nr) (h_sz := h_sz) (h_s7 := h_s7) (r_P := r_P) (r_W := r_W) (r_H := r_H) (r_R := r_R) (r_S := r_S) (r_G := r_G)⟩
        | none =>
          obtain ⟨mp, hnn, hm2, hm7, hL, hlo, her⟩ := txt_ok hfw
          have hg := (fwr_none (by rw [← hfe]; exact hfw)).1
          have hlo2 : ∀ p, p < mp → tlo vsc (60 * k + i) p < 6 := fun p hp => by rw [← (tx_same hsc hnn hp).2.1]; exact (hlo p hp).2
          have her2 : ∀ p, p < mp → ter vsc (60 * k + i) p < 7 := fun p hp => by rw [← (tx_same hsc hnn hp).2.2]; exact (her p hp).2
          have hc : CkI l yX10_street wsX10_street D (kT cI cZ cS cP) (ad 0) 10 [.int (nI k), .int (nI a), .int (nI i), .int (nI nn)] (JW ad cI cZ cS cP vpg vem vdr vn vxp vxd vxo vxh vnw vnh vB vsd vrc vyp vyd vyh vnr vt1 vt2 vt3 vt4 vtn vtm vtb vzd vzr vfl vln vsz vsf vt vft vft vn vB vra vrn vnw vnh vnr vt vkd vlo ver vqk vql vqe vwp vwd vho vhh vso vrp vrd vrh vss vsl vsc vhs (pcs pa vkd vlo ver vn)) (fun r w1 => ∃ (u9 : Nat → Nat), (r = (nI mp)) ∧ w1 = (JW ad cI cZ cS cP (cpO (pgo u9) vpg mp) (cpN (emf mp (ter (vsf k) i)) vem mp) (cpN (fun zz => dar (tkd (vsf k) i zz) (tlo (vsf k) i zz)) vdr mp) mp vxp vxd vxo vxh 0 0 0 vsd vrc vyp vyd vyh 0 vt1 vt2 vt3 vt4 vtn vtm vtb vzd vzr vfl vln vsz vsf vt 0 vft vn vB vra vrn vnw vnh vnr vt vkd vlo ver vqk vql vqe vwp vwd vho vhh vso vrp vrd vrh vss vsl vsc vhs (pcs u9 (tkd (vsf k) i) (tlo (vsf k) i) (ter (vsf k) i) mp))) := by
            rcases k4 hk with rfl | rfl | rfl | rfl
            · exact pkC_street_ok_0 (hk1 := (by decide)) (hsg := rfl) (hfl := (h_fl _)) (hln := (h_ln _)) (hsz := (h_sz _)) (hem := h_em) (hdr := h_dr) (ha := (by first | assumption | omega)) (hft := cft) (hfn := hin) (hfw := hfw) (hnn := hnn) (hm := hm7) (hL := hL) (hlo := hlo) (her := her)
            · exact pkC_street_ok_1 (hk1 := (by decide)) (hsg := rfl) (hfl := (h_fl _)) (hln := (h_ln _)) (hsz := (h_sz _)) (hem := h_em) (hdr := h_dr) (ha := (by first | assumption | omega)) (hft := cft) (hfn := hin) (hfw := hfw) (hnn := hnn) (hm := hm7) (hL := hL) (hlo := hlo) (her := her)
            · exact pkC_street_ok_2 (hk1 := (by decide)) (hsg := rfl) (hfl := (h_fl _)) (hln := (h_ln _)) (hsz := (h_sz _)) (hem := h_em) (hdr := h_dr) (ha := (by first | assumption | omega)) (hft := cft) (hfn := hin) (hfw := hfw) (hnn := hnn) (hm := hm7) (hL := hL) (hlo := hlo) (her := her)
            · exact pkC_street_ok_3 (hk1 := (by decide)) (hsg := rfl) (hfl := (h_fl _)) (hln := (h_ln _)) (hsz := (h_sz _)) (hem := h_em) (hdr := h_dr) (ha := (by first | assumption | omega)) (hft := cft) (hfn := hin) (hfw := hfw) (hnn := hnn) (hm := hm7) (hL := hL) (hlo := hlo) (her := her)
          refine CkI.mono hc (fun r w1 h1 => ?_)
          obtain ⟨c_u9, rfl, rfl⟩ := h1
          refine CkI.mono (pkM_street_ok (sz := vsz k) (mp := mp) (hkd := h_kd) (hlo := h_lo) (her := h_er) (hqk := h_qk) (hql := h_ql) (hqe := h_qe) (hsl := h_sl) (hk := (by first | assumption | omega)) (ha := (by first | assumption | omega)) (hsz := (h_sz k)) (hz0 := hz) (hc := hcl) (hil := hin) (hnn := hnn) (hm2 := hm2) (hm7 := hm7) (hg := hg)) (fun r2 w2 h2 => ?_)
          obtain ⟨h2, rfl⟩ := h2
          exact ⟨h2.trans (rfl), (by rw [st_T (qk := vqk) (kd := vkd) (ql := vql) (lo := vlo) (qe := vqe) (er := ver) hsc hnn]; exact inv_mk (h_em := (cpN_lt (fun p => mk_lt7 _ hm7) h_em mp)) (h_dr := (cpN_ltm (fun p hp => dar_lt (hlo p hp).2) h_dr)) (h_xp := h_xp) (h_xd := h_xd) (h_xo := h_xo) (h_xh := h_xh) (h_sd := h_sd) (h_rc := h_rc) (h_yp := h_yp) (h_yd := h_yd) (h_yh := h_yh) (h_t1 := h_t1) (h_t2 := h_t2) (h_t3 := h_t3) (h_t4 := h_t4) (h_zd := h_zd) (h_zr := h_zr) (h_fl := h_fl) (h_ln := h_ln) (h_kd := (cpN_lt (cpN_lt (fun _ => kdc_lt _) h_qk mp) h_kd mp)) (h_lo := (cpN_lt (cpN_ltm hlo2 h_ql) h_lo mp)) (h_er := (cpN_lt (cpN_ltm her2 h_qe) h_er mp)) (h_qk := (cpN_lt (fun _ => kdc_lt _) h_qk mp)) (h_ql := (cpN_ltm hlo2 h_ql)) (h_qe := (cpN_ltm her2 h_qe)) (h_wp := h_wp) (h_wd := h_wd) (h_ho := h_ho) (h_hh := h_hh) (h_so := h_so) (h_rp := h_rp) (h_rd := h_rd) (h_rh := h_rh) (h_sl := h_sl) (h_n := hm7) (h_nw := (Nat.zero_le _)) (h_nh := (Nat.zero_le _)) (h_B := (Nat.two_pow_pos mp)) (h_nr := (Nat.zero_le _)) (h_sz := h_sz) (h_s7 := h_s7) (r_P := (st_P hsc hnn)) (r_W := (fun j hj => absurd hj (Nat.not_lt_zero j))) (r_H := (fun j hj => absurd hj (Nat.not_lt_zero j))) (r_R := (fun j hj => absurd hj (Nat.not_lt_zero j))) (r_S := r_S) (r_G := (fun q hq => if_pos hq)))⟩
      · by_cases cf : vfl k = 0
        · have hz : vss k = -1 := by rw [(r_S k hk).1]; exact ssv_n cf
          have hf1 : fTake (vfl k) a (vln k) (vsz k) a3 a4 = 1 := ft_null cf
          have hc : CkI l yX10_street wsX10_street D (kT cI cZ cS cP) (ad 0) 10 [.int (nI k), .int (nI a), .int a3, .int a4] (JW ad cI cZ cS cP vpg vem vdr vn vxp vxd vxo vxh vnw vnh vB vsd vrc vyp vyd vyh vnr vt1 vt2 vt3 vt4 vtn vtm vtb vzd vzr vfl vln vsz vsf vt vft vft vn vB vra vrn vnw vnh vnr vt vkd vlo ver vqk vql vqe vwp vwd vho vhh vso vrp vrd vrh vss vsl vsc vhs (pcs pa vkd vlo ver vn)) (fun r w1 => (r = ((-10) - (nI (fTake (vfl k) a (vln k) (vsz k) a3 a4)))) ∧ w1 = (JW ad cI cZ cS cP vpg vem vdr vn vxp vxd vxo vxh vnw vnh vB vsd vrc vyp vyd vyh vnr vt1 vt2 vt3 vt4 vtn vtm vtb vzd vzr vfl vln vsz vsf vt (fTake (vfl k) a (vln k) (vsz k) a3 a4) vft vn vB vra vrn vnw vnh vnr vt vkd vlo ver vqk vql vqe vwp vwd vho vhh vso vrp vrd vrh vss vsl vsc vhs (pcs pa vkd vlo ver vn))) := by
            rcases k4 hk with rfl | rfl | rfl | rfl
            · exact pkC_street_fault_0 (hk1 := (by decide)) (hsg := rfl) (hfl := (h_fl _)) (hln := (h_ln _)) (hsz := (h_sz _)) (ha := (by first | assumption | omega)) (hft := cft)
            · exact pkC_street_fault_1 (hk1 := (by decide)) (hsg := rfl) (hfl := (h_fl _)) (hln := (h_ln _)) (hsz := (h_sz _)) (ha := (by first | assumption | omega)) (hft := cft)
            · exact pkC_street_fault_2 (hk1 := (by decide)) (hsg := rfl) (hfl := (h_fl _)) (hln := (h_ln _)) (hsz := (h_sz _)) (ha := (by first | assumption | omega)) (hft := cft)
            · exact pkC_street_fault_3 (hk1 := (by decide)) (hsg := rfl) (hfl := (h_fl _)) (hln := (h_ln _)) (hsz := (h_sz _)) (ha := (by first | assumption | omega)) (hft := cft)
          refine CkI.mono hc (fun r w1 h1 => ?_)
          obtain ⟨rfl, rfl⟩ := h1
          refine CkI.mono (pkM_street_null (sz := vsz k) (hsl := h_sl) (hk := (by first | assumption | omega)) (ha := (by first | assumption | omega)) (hsz := (h_sz k)) (hz0 := hz)) (fun r2 w2 h2 => ?_)
          obtain ⟨h2, rfl⟩ := h2
          exact ⟨h2.trans (by rw [hf1]), (by rw [hf1]; exact inv_mk (h_em := h_em) (h_dr := h_dr) (h_xp := h_xp) (h_xd := h_xd) (h_xo := h_xo) (h_xh := h_xh) (h_sd := h_sd) (h_rc := h_rc) (h_yp := h_yp) (h_yd := h_yd) (h_yh := h_yh) (h_t1 := h_t1) (h_t2 := h_t2) (h_t3 := h_t3) (h_t4 := h_t4) (h_zd := h_zd) (h_zr := h_zr) (h_fl := h_fl) (h_ln := h_ln) (h_kd := h_kd) (h_lo := h_lo) (h_er := h_er) (h_qk := h_qk) (h_ql := h_ql) (h_qe := h_qe) (h_wp := h_wp) (h_wd := h_wd) (h_ho := h_ho) (h_hh := h_hh) (h_so := h_so) (h_rp := h_rp) (h_rd := h_rd) (h_rh := h_rh) (h_sl := h_sl) (h_n := h_n) (h_nw := h_nw) (h_nh := h_nh) (h_B := h_B) (h_nr := h_nr) (h_sz := h_sz) (h_s7 := h_s7) (r_P := r_P) (r_W := r_W) (r_H := r_H) (r_R := r_R) (r_S := r_S) (r_G := r_G))⟩
        · have hz : vss k = nI (vsz k) := by rw [(r_S k hk).1]; exact ssv_y cf
          by_cases cl : vln k = a
          · have hcl : vsl k = a := by rw [hsl]; exact cl
            by_cases cs : a4 < 0
            · skip
              have hf1 : fTake (vfl k) a (vln k) (vsz k) a3 a4 = 4 := ft_size cf cl cs
              have hc : CkI l yX10_street wsX10_street D (kT cI cZ cS cP) (ad 0) 10 [.int (nI k), .int (nI a), .int a3, .int a4] (JW ad cI cZ cS cP vpg vem vdr vn vxp vxd vxo vxh vnw vnh vB vsd vrc vyp vyd vyh vnr vt1 vt2 vt3 vt4 vtn vtm vtb vzd vzr vfl vln vsz vsf vt vft vft vn vB vra vrn vnw vnh vnr vt vkd vlo ver vqk vql vqe vwp vwd vho vhh vso vrp vrd vrh vss vsl vsc vhs (pcs pa vkd vlo ver vn)) (fun r w1 => (r = ((-10) - (nI (fTake (vfl k) a (vln k) (vsz k) a3 a4)))) ∧ w1 = (JW ad cI cZ cS cP vpg vem vdr vn vxp vxd vxo vxh vnw vnh vB vsd vrc vyp vyd vyh vnr vt1 vt2 vt3 vt4 vtn vtm vtb vzd vzr vfl vln vsz vsf vt (fTake (vfl k) a (vln k) (vsz k) a3 a4) vft vn vB vra vrn vnw vnh vnr vt vkd vlo ver vqk vql vqe vwp vwd vho vhh vso vrp vrd vrh vss vsl vsc vhs (pcs pa vkd vlo ver vn))) := by
                rcases k4 hk with rfl | rfl | rfl | rfl
                · exact pkC_street_fault_0 (hk1 := (by decide)) (hsg := rfl) (hfl := (h_fl _)) (hln := (h_ln _)) (hsz := (h_sz _)) (ha := (by first | assumption | omega)) (hft := cft)
                · exact pkC_street_fault_1 (hk1 := (by decide)) (hsg := rfl) (hfl := (h_fl _)) (hln := (h_ln _)) (hsz := (h_sz _)) (ha := (by first | assumption | omega)) (hft := cft)
                · exact pkC_street_fault_2 (hk1 := (by decide)) (hsg := rfl) (hfl := (h_fl _)) (hln := (h_ln _)) (hsz := (h_sz _)) (ha := (by first | assumption | omega)) (hft := cft)
                · exact pkC_street_fault_3 (hk1 := (by decide)) (hsg := rfl) (hfl := (h_fl _)) (hln := (h_ln _)) (hsz := (h_sz _)) (ha := (by first | assumption | omega)) (hft := cft)
              refine CkI.mono hc (fun r w1 h1 => ?_)
              obtain ⟨rfl, rfl⟩ := h1
              refine CkI.mono (pkM_street_size (sz := vsz k) (hsl := h_sl) (hk := (by first | assumption | omega)) (ha := (by first | assumption | omega)) (hsz := (h_sz k)) (hz0 := hz) (hc := hcl) (hy0 := cs)) (fun r2 w2 h2 => ?_)
              obtain ⟨h2, rfl⟩ := h2
              exact ⟨h2.trans (by rw [hf1]), (by rw [hf1]; exact inv_mk (h_em := h_em) (h_dr := h_dr) (h_xp := h_xp) (h_xd := h_xd) (h_xo := h_xo) (h_xh := h_xh) (h_sd := h_sd) (h_rc := h_rc) (h_yp := h_yp) (h_yd := h_yd) (h_yh := h_yh) (h_t1 := h_t1) (h_t2 := h_t2) (h_t3 := h_t3) (h_t4 := h_t4) (h_zd := h_zd) (h_zr := h_zr) (h_fl := h_fl) (h_ln := h_ln) (h_kd := h_kd) (h_lo := h_lo) (h_er := h_er) (h_qk := h_qk) (h_ql := h_ql) (h_qe := h_qe) (h_wp := h_wp) (h_wd := h_wd) (h_ho := h_ho) (h_hh := h_hh) (h_so := h_so) (h_rp := h_rp) (h_rd := h_rd) (h_rh := h_rh) (h_sl := h_sl) (h_n := h_n) (h_nw := h_nw) (h_nh := h_nh) (h_B := h_B) (h_nr := h_nr) (h_sz := h_sz) (h_s7 := h_s7) (r_P := r_P) (r_W := r_W) (r_H := r_H) (r_R := r_R) (r_S := r_S) (r_G := r_G))⟩
            · have ci : ¬ hcs a3 a4 (vsz k) := fun z => cft (by unfold fTake; rw [if_neg cf, if_pos cl.symm, if_neg cs, if_pos z])
              have hf1 : fTake (vfl k) a (vln k) (vsz k) a3 a4 = 3 := ft_idx cf cl cs ci
              have hc : CkI l yX10_street wsX10_street D (kT cI cZ cS cP) (ad 0) 10 [.int (nI k), .int (nI a), .int a3, .int a4] (JW ad cI cZ cS cP vpg vem vdr vn vxp vxd vxo vxh vnw vnh vB vsd vrc vyp vyd vyh vnr vt1 vt2 vt3 vt4 vtn vtm vtb vzd vzr vfl vln vsz vsf vt vft vft vn vB vra vrn vnw vnh vnr vt vkd vlo ver vqk vql vqe vwp vwd vho vhh vso vrp vrd vrh vss vsl vsc vhs (pcs pa vkd vlo ver vn)) (fun r w1 => (r = ((-10) - (nI (fTake (vfl k) a (vln k) (vsz k) a3 a4)))) ∧ w1 = (JW ad cI cZ cS cP vpg vem vdr vn vxp vxd vxo vxh vnw vnh vB vsd vrc vyp vyd vyh vnr vt1 vt2 vt3 vt4 vtn vtm vtb vzd vzr vfl vln vsz vsf vt (fTake (vfl k) a (vln k) (vsz k) a3 a4) vft vn vB vra vrn vnw vnh vnr vt vkd vlo ver vqk vql vqe vwp vwd vho vhh vso vrp vrd vrh vss vsl vsc vhs (pcs pa vkd vlo ver vn))) := by
                rcases k4 hk with rfl | rfl | rfl | rfl
                · exact pkC_street_fault_0 (hk1 := (by decide)) (hsg := rfl) (hfl := (h_fl _)) (hln := (h_ln _)) (hsz := (h_sz _)) (ha := (by first | assumption | omega)) (hft := cft)
                · exact pkC_street_fault_1 (hk1 := (by decide)) (hsg := rfl) (hfl := (h_fl _)) (hln := (h_ln _)) (hsz := (h_sz _)) (ha := (by first | assumption | omega)) (hft := cft)
                · exact pkC_street_fault_2 (hk1 := (by decide)) (hsg := rfl) (hfl := (h_fl _)) (hln := (h_ln _)) (hsz := (h_sz _)) (ha := (by first | assumption | omega)) (hft := cft)
                · exact pkC_street_fault_3 (hk1 := (by decide)) (hsg := rfl) (hfl := (h_fl _)) (hln := (h_ln _)) (hsz := (h_sz _)) (ha := (by first | assumption | omega)) (hft := cft)
              refine CkI.mono hc (fun r w1 h1 => ?_)
              obtain ⟨rfl, rfl⟩ := h1
              refine CkI.mono (pkM_street_idx (sz := vsz k) (hsl := h_sl) (hk := (by first | assumption | omega)) (ha := (by first | assumption | omega)) (hsz := (h_sz k)) (hz0 := hz) (hc := hcl) (hy0 := (Int32.not_lt.mp cs)) (hi1 := ci)) (fun r2 w2 h2 => ?_)
              obtain ⟨h2, rfl⟩ := h2
              exact ⟨h2.trans (by rw [hf1]), (by rw [hf1]; exact inv_mk (h_em := h_em) (h_dr := h_dr) (h_xp := h_xp) (h_xd := h_xd) (h_xo := h_xo) (h_xh := h_xh) (h_sd := h_sd) (h_rc := h_rc) (h_yp := h_yp) (h_yd := h_yd) (h_yh := h_yh) (h_t1 := h_t1) (h_t2 := h_t2) (h_t3 := h_t3) (h_t4 := h_t4) (h_zd := h_zd) (h_zr := h_zr) (h_fl := h_fl) (h_ln := h_ln) (h_kd := h_kd) (h_lo := h_lo) (h_er := h_er) (h_qk := h_qk) (h_ql := h_ql) (h_qe := h_qe) (h_wp := h_wp) (h_wd := h_wd) (h_ho := h_ho) (h_hh := h_hh) (h_so := h_so) (h_rp := h_rp) (h_rd := h_rd) (h_rh := h_rh) (h_sl := h_sl) (h_n := h_n) (h_nw := h_nw) (h_nh := h_nh) (h_B := h_B) (h_nr := h_nr) (h_sz := h_sz) (h_s7 := h_s7) (r_P := r_P) (r_W := r_W) (r_H := r_H) (r_R := r_R) (r_S := r_S) (r_G := r_G))⟩
          · skip
            have hf1 : fTake (vfl k) a (vln k) (vsz k) a3 a4 = 2 := ft_cast cf cl
            have hc : CkI l yX10_street wsX10_street D (kT cI cZ cS cP) (ad 0) 10 [.int (nI k), .int (nI a), .int a3, .int a4] (JW ad cI cZ cS cP vpg vem vdr vn vxp vxd vxo vxh vnw vnh vB vsd vrc vyp vyd vyh vnr vt1 vt2 vt3 vt4 vtn vtm vtb vzd vzr vfl vln vsz vsf vt vft vft vn vB vra vrn vnw vnh vnr vt vkd vlo ver vqk vql vqe vwp vwd vho vhh vso vrp vrd vrh vss vsl vsc vhs (pcs pa vkd vlo ver vn)) (fun r w1 => (r = ((-10) - (nI (fTake (vfl k) a (vln k) (vsz k) a3 a4)))) ∧ w1 = (JW ad cI cZ cS cP vpg vem vdr vn vxp vxd vxo vxh vnw vnh vB vsd vrc vyp vyd vyh vnr vt1 vt2 vt3 vt4 vtn vtm vtb vzd vzr vfl vln vsz vsf vt (fTake (vfl k) a (vln k) (vsz k) a3 a4) vft vn vB vra vrn vnw vnh vnr vt vkd vlo ver vqk vql vqe vwp vwd vho vhh vso vrp vrd vrh vss vsl vsc vhs (pcs pa vkd vlo ver vn))) := by
              rcases k4 hk with rfl | rfl | rfl | rfl
              · exact pkC_street_fault_0 (hk1 := (by decide)) (hsg := rfl) (hfl := (h_fl _)) (hln := (h_ln _)) (hsz := (h_sz _)) (ha := (by first | assumption | omega)) (hft := cft)
              · exact pkC_street_fault_1 (hk1 := (by decide)) (hsg := rfl) (hfl := (h_fl _)) (hln := (h_ln _)) (hsz := (h_sz _)) (ha := (by first | assumption | omega)) (hft := cft)
              · exact pkC_street_fault_2 (hk1 := (by decide)) (hsg := rfl) (hfl := (h_fl _)) (hln := (h_ln _)) (hsz := (h_sz _)) (ha := (by first | assumption | omega)) (hft := cft)
              · exact pkC_street_fault_3 (hk1 := (by decide)) (hsg := rfl) (hfl := (h_fl _)) (hln := (h_ln _)) (hsz := (h_sz _)) (ha := (by first | assumption | omega)) (hft := cft)
            refine CkI.mono hc (fun r w1 h1 => ?_)
            obtain ⟨rfl, rfl⟩ := h1
            refine CkI.mono (pkM_street_cast (sz := vsz k) (hsl := h_sl) (hk := (by first | assumption | omega)) (ha := (by first | assumption | omega)) (hsz := (h_sz k)) (hz0 := hz) (hc := (by rw [hsl]; exact cl))) (fun r2 w2 h2 => ?_)
            obtain ⟨h2, rfl⟩ := h2
            exact ⟨h2.trans (by rw [hf1]), (by rw [hf1]; exact inv_mk (h_em := h_em) (h_dr := h_dr) (h_xp := h_xp) (h_xd := h_xd) (h_xo := h_xo) (h_xh := h_xh) (h_sd := h_sd) (h_rc := h_rc) (h_yp := h_yp) (h_yd := h_yd) (h_yh := h_yh) (h_t1 := h_t1) (h_t2 := h_t2) (h_t3 := h_t3) (h_t4 := h_t4) (h_zd := h_zd) (h_zr := h_zr) (h_fl := h_fl) (h_ln := h_ln) (h_kd := h_kd) (h_lo := h_lo) (h_er := h_er) (h_qk := h_qk) (h_ql := h_ql) (h_qe := h_qe) (h_wp := h_wp) (h_wd := h_wd) (h_ho := h_ho) (h_hh := h_hh) (h_so := h_so) (h_rp := h_rp) (h_rd := h_rd) (h_rh := h_rh) (h_sl := h_sl) (h_n := h_n) (h_nw := h_nw) (h_nh := h_nh) (h_B := h_B) (h_nr := h_nr) (h_sz := h_sz) (h_s7 := h_s7) (r_P := r_P) (r_W := r_W) (r_H := r_H) (r_R := r_R) (r_S := r_S) (r_G := r_G))⟩
    · skip
      have hc : CkI l yX10_street wsX10_street D (kT cI cZ cS cP) (ad 0) 10 [.int (nI k), .int a2, .int a3, .int a4] (JW ad cI cZ cS cP vpg vem vdr vn vxp vxd vxo vxh vnw vnh vB vsd vrc vyp vyd vyh vnr vt1 vt2 vt3 vt4 vtn vtm vtb vzd vzr vfl vln vsz vsf vt vft vft vn vB vra vrn vnw vnh vnr vt vkd vlo ver vqk vql vqe vwp vwd vho vhh vso vrp vrd vrh vss vsl vsc vhs (pcs pa vkd vlo ver vn)) (fun r w1 => (r = (-2)) ∧ w1 = (JW ad cI cZ cS cP vpg vem vdr vn vxp vxd vxo vxh vnw vnh vB vsd vrc vyp vyd vyh vnr vt1 vt2 vt3 vt4 vtn vtm vtb vzd vzr vfl vln vsz vsf vt 0 vft vn vB vra vrn vnw vnh vnr vt vkd vlo ver vqk vql vqe vwp vwd vho vhh vso vrp vrd vrh vss vsl vsc vhs (pcs pa vkd vlo ver vn))) := by
        rcases k4 hk with rfl | rfl | rfl | rfl
        · exact pkC_street_lane_0 (q1 := 0) (f := (fun _ => 0)) (fl := 0) (ln := 0) (sz := 0) (hk1 := (by decide)) (hsg := rfl) (hy1 := (by first | assumption | omega))
        · exact pkC_street_lane_1 (q1 := 0) (f := (fun _ => 0)) (fl := 0) (ln := 0) (sz := 0) (hk1 := (by decide)) (hsg := rfl) (hy1 := (by first | assumption | omega))
        · exact pkC_street_lane_2 (q1 := 0) (f := (fun _ => 0)) (fl := 0) (ln := 0) (sz := 0) (hk1 := (by decide)) (hsg := rfl) (hy1 := (by first | assumption | omega))
        · exact pkC_street_lane_3 (q1 := 0) (f := (fun _ => 0)) (fl := 0) (ln := 0) (sz := 0) (hk1 := (by decide)) (hsg := rfl) (hy1 := (by first | assumption | omega))
      refine CkI.mono hc (fun r w1 h1 => ?_)
      obtain ⟨rfl, rfl⟩ := h1
      refine CkI.mono (pkM_street_lane (hk := (by first | assumption | omega)) (hx1 := (by first | assumption | omega))) (fun r2 w2 h2 => ?_)
      obtain ⟨h2, rfl⟩ := h2
      exact ⟨h2.trans (rfl), inv_mk (h_em := h_em) (h_dr := h_dr) (h_xp := h_xp) (h_xd := h_xd) (h_xo := h_xo) (h_xh := h_xh) (h_sd := h_sd) (h_rc := h_rc) (h_yp := h_yp) (h_yd := h_yd) (h_yh := h_yh) (h_t1 := h_t1) (h_t2 := h_t2) (h_t3 := h_t3) (h_t4 := h_t4) (h_zd := h_zd) (h_zr := h_zr) (h_fl := h_fl) (h_ln := h_ln) (h_kd := h_kd) (h_lo := h_lo) (h_er := h_er) (h_qk := h_qk) (h_ql := h_ql) (h_qe := h_qe) (h_wp := h_wp) (h_wd := h_wd) (h_ho := h_ho) (h_hh := h_hh) (h_so := h_so) (h_rp := h_rp) (h_rd := h_rd) (h_rh := h_rh) (h_sl := h_sl) (h_n := h_n) (h_nw := h_nw) (h_nh := h_nh) (h_B := h_B) (h_nr := h_nr) (h_sz := h_sz) (h_s7 := h_s7) (r_P := r_P) (r_W := r_W) (r_H := r_H) (r_R := r_R) (r_S := r_S) (r_G := r_G)⟩
  · skip
    refine CkI.mono (pkC_street_bad (hx1 := (by first | assumption | omega))) (fun r w1 h1 => ?_)
    obtain ⟨rfl, rfl⟩ := h1
    refine CkI.mono (pkM_street_bad (hx1 := (by first | assumption | omega))) (fun r2 w2 h2 => ?_)
    obtain ⟨h2, rfl⟩ := h2
    exact ⟨h2.trans (rfl), inv_mk (h_em := h_em) (h_dr := h_dr) (h_xp := h_xp) (h_xd := h_xd) (h_xo := h_xo) (h_xh := h_xh) (h_sd := h_sd) (h_rc := h_rc) (h_yp := h_yp) (h_yd := h_yd) (h_yh := h_yh) (h_t1 := h_t1) (h_t2 := h_t2) (h_t3 := h_t3) (h_t4 := h_t4) (h_zd := h_zd) (h_zr := h_zr) (h_fl := h_fl) (h_ln := h_ln) (h_kd := h_kd) (h_lo := h_lo) (h_er := h_er) (h_qk := h_qk) (h_ql := h_ql) (h_qe := h_qe) (h_wp := h_wp) (h_wd := h_wd) (h_ho := h_ho) (h_hh := h_hh) (h_so := h_so) (h_rp := h_rp) (h_rd := h_rd) (h_rh := h_rh) (h_sl := h_sl) (h_n := h_n) (h_nw := h_nw) (h_nh := h_nh) (h_B := h_B) (h_nr := h_nr) (h_sz := h_sz) (h_s7 := h_s7) (r_P := r_P) (r_W := r_W) (r_H := r_H) (r_R := r_R) (r_S := r_S) (r_G := r_G)⟩
