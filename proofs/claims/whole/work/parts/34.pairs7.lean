/-! PAIRS OF CALLS: treeIs, untell, feed -/
section P8
variable {fb : Bool} {d : Nat} {h : pm_HP}
theorem pr_treeIs (hI : Inv h) (x y : Int32) : Pr fb (d + 100) n_X8_treeIs n_X9_treeIs [.int x, .int y] h := by
  obtain ⟨⟨n, u, nt, nb, nw, iN⟩, iZ, iM, iS, iT, iB, iW, iX, iY⟩ := id hI.1
  have ix0 : pm_ix (0 : Int32) 440 = true := by decide
  have cl0 : (0 : Int32).toNatClampNeg = 0 := by decide
  have ht := iN.2.2.1
  have hc5 : h.1 5 3 = nI nt := ht.1
  have hn := iN.1.2.2.2
  by_cases q1 : 0 ≤ x ∧ x < nI nt
  · by_cases q2 : 0 ≤ y ∧ y ≤ 5
    · obtain ⟨s, hs, rfl⟩ := i_lt (by omega) q1
      obtain ⟨c, hc, rfl⟩ := nI_of2 (M := 5) (n := 5) (by decide) (Int32.not_lt.mpr q2.1) q2.2
      have hs16 : s < 16 := by omega
      have q1' := eq_true q1
      have q2' := eq_true q2
      have E : ∀ c, c < 4 → tr h c s = rt h c s := (iT s hs16).1
      obtain ⟨p, hp, ep⟩ := nI_of2 (M := 24) (n := 24) (by decide) (Int32.not_lt.mpr (iT s hs16).2.1) (iT s hs16).2.2
      by_cases c3 : c ≤ 3
      · have e1 : ¬ (3 : Int32) < nI c := by
          show ¬ nI 3 < nI c
          rw [nI_ltI (by omega) (by omega)]; omega
        have e2 : ¬ (4 : Int32) ≤ nI c := by
          show ¬ nI 4 ≤ nI c
          exact nI_ge (by omega) (by omega)
        refine ⟨rt h c s, h, h, ?_, ?_, hI⟩
        · rw [en_X8_treeIs]
          simp only [c20, c2i, c2n, c2r, cs8_0, cs8_1, cs8_2, cs8_3, cs8_4, decide_eq_true_eq, ev_ald0, ev_aldn0, ev_bin, ev_cs3, ev_cv0, ev_cv1, ev_cv2, ev_go, ev_gr, ev_i, ev_if0, ev_if2, ev_ild1, ev_ild2, ev_ild3, ev_ist3, ev_ri, i00, i01, i10, is_sw, not_false_eq_true, not_true_eq_false, pm_bd_s, pm_tl_n, pm_tl_s, ↓reduceIte, pb_X8_treeIs_0, pb_X8_treeIs_1, pb_X8_treeIs_2, pb_X8_treeIs_3, pb_X8_treeIs_4, pb_X8_treeIs_5, pb_X8_treeIs_6, kd_0, rf_0_0, rf_0_1, rf_0_2, rf_0_3, rf_0_4, rf_0_5, rf_0_6, rf_0_7, rf_0_8, is_8_0, kd_1, rf_1_0, rf_1_1, rf_1_2, rf_1_3, rf_1_4, rf_1_5, rf_1_6, is_5_1, kd_5, rf_5_2, fc_5_0, fc_5_1, is_6_3_5, is_3_6_5, has_5 hc5 (show nt ≤ 60 by omega), sp_isIn, bI_0, bI_n0, q1', q2', e1, at_5 (show c < 4 by omega) hs16, E c (by omega)]
        · rw [en_X9_treeIs]
          simp only [c20, c2i, c2n, c2r, cs8_0, cs8_1, cs8_2, cs8_3, cs8_4, decide_eq_true_eq, ev_ald0, ev_aldn0, ev_bin, ev_cs3, ev_cv0, ev_cv1, ev_cv2, ev_go, ev_gr, ev_i, ev_ia, ev_if0, ev_if2, ev_ild1, ev_ild2, ev_ild3, ev_ist3, ev_ri, i00, i01, i10, not_false_eq_true, not_true_eq_false, pm_bd_s, pm_tl_n, pm_tl_s, ↓reduceIte, pb_X9_treeIs_0, pb_X9_treeIs_1, pb_X9_treeIs_2, pb_X9_treeIs_3, pb_X9_treeIs_4, pb_X9_treeIs_5, pb_X9_treeIs_6, kd_59, rf_59_0, rf_59_1, rf_59_3, rf_59_4, rf_59_5, rf_59_6, rf_59_7, rf_59_12, rf_59_14, rf_59_15, rf_59_16, rf_59_19, rf_59_23, rf_59_24, rf_59_25, rf_59_26, is_9_59, sr_is2 ht.2.1 (show nt ≤ 24 by omega), sr_isIn, bI_0, bI_n0, q1', q2', e2, rt_r (show c < 4 by omega) hs16]
      · have e1 : (3 : Int32) < nI c := by
          show nI 3 < nI c
          rw [nI_ltI (by omega) (by omega)]; omega
        have e2 : (4 : Int32) ≤ nI c := by
          show nI 4 ≤ nI c
          exact nI_le (by omega) (by omega)
        have ert : rt h 0 s = nI p := ep
        have E0 := E 0 (by omega)
        rw [ert] at E0
        by_cases g : p ≤ n
        · have g1 : nI p ≤ nI n := nI_le g (by omega)
          obtain ⟨h1, h2, r1, k1, r2, k2, hI2⟩ := go2 (fb := fb) (d := d) hI iN
          have e60 := Gr_60 k1 k2
          have f60 : h1.1 60 = h.1 60 := k1.1.1 60 (by decide)
          have ht1 : h1.1 60 2 = nI nt := by rw [f60]; exact ht.2.1
          have hn1 : h1.1 60 0 = nI n := by rw [f60]; exact iN.1.2.1
          have ert1 : rt h1 0 s = nI p := by unfold rt; rw [f60]; exact ep
          have er : ∀ c, rt h2 c s = rt h c s := fun c => by unfold rt; rw [e60]
          have et : ∀ c, tr h1 c s = tr h c s := fun c => by unfold tr; rw [k1.1.1 33 (by decide)]
          have a1 := (k1.2.2.2.2.1 p g)
          have b1 := (k2.2.1 p g)
          rcases (show c = 4 ∨ c = 5 by omega) with rfl | rfl
          · have z : nI 4 = 4 := rfl
            rw [z] at q2' e1 e2 ⊢
            refine ⟨SDf h u p + rt h 2 s, h1, h2, ?_, ?_, hI2⟩
            · rw [en_X8_treeIs]
              simp only [c20, c2i, c2n, c2r, cs8_0, cs8_1, cs8_2, cs8_3, cs8_4, decide_eq_true_eq, ev_ald0, ev_aldn0, ev_bin, ev_cs3, ev_cv0, ev_cv1, ev_cv2, ev_go, ev_gr, ev_i, ev_if0, ev_if2, ev_ild1, ev_ild2, ev_ild3, ev_ist3, ev_ri, i00, i01, i10, is_sw, not_false_eq_true, not_true_eq_false, pm_bd_s, pm_tl_n, pm_tl_s, ↓reduceIte, pb_X8_treeIs_0, pb_X8_treeIs_1, pb_X8_treeIs_2, pb_X8_treeIs_3, pb_X8_treeIs_4, pb_X8_treeIs_5, pb_X8_treeIs_6, nl_0_1, nl_0_2, nl_0_3, nl_0_4, nl_0_5, nl_0_6, nl_0_7, nl_0_8, nl_1_0, nl_1_2, nl_1_3, nl_1_4, nl_1_5, nl_1_6, nl_1_7, nl_1_8, nl_2_0, nl_2_1, nl_2_3, nl_2_4, nl_2_5, nl_2_6, nl_2_7, nl_2_8, nl_3_0, nl_3_1, nl_3_2, nl_3_4, nl_3_5, nl_3_6, nl_3_7, nl_3_8, nl_4_0, nl_4_1, nl_4_2, nl_4_3, nl_4_5, nl_4_6, nl_4_7, nl_4_8, nl_5_0, nl_5_1, nl_5_2, nl_5_3, nl_5_4, nl_5_6, nl_5_7, nl_5_8, nl_6_0, nl_6_1, nl_6_2, nl_6_3, nl_6_4, nl_6_5, nl_6_7, nl_6_8, nl_7_0, nl_7_1, nl_7_2, nl_7_3, nl_7_4, nl_7_5, nl_7_6, nl_7_8, nl_8_0, nl_8_1, nl_8_2, nl_8_3, nl_8_4, nl_8_5, nl_8_6, nl_8_7, kd_0, rf_0_0, rf_0_1, rf_0_2, rf_0_3, rf_0_4, rf_0_5, rf_0_6, rf_0_7, rf_0_8, is_8_0, kd_1, rf_1_0, rf_1_1, rf_1_2, rf_1_3, rf_1_4, rf_1_5, rf_1_6, is_5_1, kd_3, rf_3_2, fc_3_0, fc_3_1, is_6_3_3, is_3_6_3, kd_5, rf_5_2, fc_5_0, fc_5_1, is_6_3_5, is_3_6_5, kd_17, rf_17_0, rf_17_1, rf_17_2, rf_17_3, rf_17_4, rf_17_5, rf_17_6, is_7_17, has_5 hc5 (show nt ≤ 60 by omega), sp_isIn, bI_0, bI_n0, q1', q2', e1, at_5_0 hs16, E0, sp_used, iN.1.1, g1, r1, sp_sideOf k1.2.1 hn g, a1.1, at_5_2 hs16, et, E 2 (by omega)]
            · rw [en_X9_treeIs]
              simp only [c20, c2i, c2n, c2r, cs8_0, cs8_1, cs8_2, cs8_3, cs8_4, decide_eq_true_eq, ev_ald0, ev_aldn0, ev_bin, ev_cs3, ev_cv0, ev_cv1, ev_cv2, ev_go, ev_gr, ev_i, ev_ia, ev_if0, ev_if2, ev_ild1, ev_ild2, ev_ild3, ev_ist3, ev_ri, i00, i01, i10, not_false_eq_true, not_true_eq_false, pm_bd_s, pm_tl_n, pm_tl_s, ↓reduceIte, pb_X9_treeIs_0, pb_X9_treeIs_1, pb_X9_treeIs_2, pb_X9_treeIs_3, pb_X9_treeIs_4, pb_X9_treeIs_5, pb_X9_treeIs_6, nl_0_1, nl_0_2, nl_0_3, nl_0_4, nl_0_5, nl_0_6, nl_0_7, nl_0_8, nl_1_0, nl_1_2, nl_1_3, nl_1_4, nl_1_5, nl_1_6, nl_1_7, nl_1_8, nl_2_0, nl_2_1, nl_2_3, nl_2_4, nl_2_5, nl_2_6, nl_2_7, nl_2_8, nl_3_0, nl_3_1, nl_3_2, nl_3_4, nl_3_5, nl_3_6, nl_3_7, nl_3_8, nl_4_0, nl_4_1, nl_4_2, nl_4_3, nl_4_5, nl_4_6, nl_4_7, nl_4_8, nl_5_0, nl_5_1, nl_5_2, nl_5_3, nl_5_4, nl_5_6, nl_5_7, nl_5_8, nl_6_0, nl_6_1, nl_6_2, nl_6_3, nl_6_4, nl_6_5, nl_6_7, nl_6_8, nl_7_0, nl_7_1, nl_7_2, nl_7_3, nl_7_4, nl_7_5, nl_7_6, nl_7_8, nl_8_0, nl_8_1, nl_8_2, nl_8_3, nl_8_4, nl_8_5, nl_8_6, nl_8_7, kd_59, rf_59_0, rf_59_1, rf_59_3, rf_59_4, rf_59_5, rf_59_6, rf_59_7, rf_59_12, rf_59_14, rf_59_15, rf_59_16, rf_59_19, rf_59_23, rf_59_24, rf_59_25, rf_59_26, is_9_59, kd_60, al_60, kd_63, al_63, sr_is2 ht1 (show nt ≤ 24 by omega), sr_isIn, bI_0, bI_n0, q1', q2', e2, rt_0 hs16, rt_2 hs16, ert1, er, ix0, cl0, hn1, g1, r2, pm_ix_n (show p < 25 by omega) (show 25 < 2 ^ 31 by omega), nI_clamp (show p < 2 ^ 31 by omega), b1.1]
          · have z : nI 5 = 5 := rfl
            rw [z] at q2' e1 e2 ⊢
            refine ⟨ALf h u p + rt h 3 s, h1, h2, ?_, ?_, hI2⟩
            · rw [en_X8_treeIs]
              simp only [c20, c2i, c2n, c2r, cs8_0, cs8_1, cs8_2, cs8_3, cs8_4, decide_eq_true_eq, ev_ald0, ev_aldn0, ev_bin, ev_cs3, ev_cv0, ev_cv1, ev_cv2, ev_go, ev_gr, ev_i, ev_if0, ev_if2, ev_ild1, ev_ild2, ev_ild3, ev_ist3, ev_ri, i00, i01, i10, is_sw, not_false_eq_true, not_true_eq_false, pm_bd_s, pm_tl_n, pm_tl_s, ↓reduceIte, pb_X8_treeIs_0, pb_X8_treeIs_1, pb_X8_treeIs_2, pb_X8_treeIs_3, pb_X8_treeIs_4, pb_X8_treeIs_5, pb_X8_treeIs_6, nl_0_1, nl_0_2, nl_0_3, nl_0_4, nl_0_5, nl_0_6, nl_0_7, nl_0_8, nl_1_0, nl_1_2, nl_1_3, nl_1_4, nl_1_5, nl_1_6, nl_1_7, nl_1_8, nl_2_0, nl_2_1, nl_2_3, nl_2_4, nl_2_5, nl_2_6, nl_2_7, nl_2_8, nl_3_0, nl_3_1, nl_3_2, nl_3_4, nl_3_5, nl_3_6, nl_3_7, nl_3_8, nl_4_0, nl_4_1, nl_4_2, nl_4_3, nl_4_5, nl_4_6, nl_4_7, nl_4_8, nl_5_0, nl_5_1, nl_5_2, nl_5_3, nl_5_4, nl_5_6, nl_5_7, nl_5_8, nl_6_0, nl_6_1, nl_6_2, nl_6_3, nl_6_4, nl_6_5, nl_6_7, nl_6_8, nl_7_0, nl_7_1, nl_7_2, nl_7_3, nl_7_4, nl_7_5, nl_7_6, nl_7_8, nl_8_0, nl_8_1, nl_8_2, nl_8_3, nl_8_4, nl_8_5, nl_8_6, nl_8_7, kd_0, rf_0_0, rf_0_1, rf_0_2, rf_0_3, rf_0_4, rf_0_5, rf_0_6, rf_0_7, rf_0_8, is_8_0, kd_1, rf_1_0, rf_1_1, rf_1_2, rf_1_3, rf_1_4, rf_1_5, rf_1_6, is_5_1, kd_3, rf_3_2, fc_3_0, fc_3_1, is_6_3_3, is_3_6_3, kd_5, rf_5_2, fc_5_0, fc_5_1, is_6_3_5, is_3_6_5, kd_17, rf_17_0, rf_17_1, rf_17_2, rf_17_3, rf_17_4, rf_17_5, rf_17_6, is_7_17, has_5 hc5 (show nt ≤ 60 by omega), sp_isIn, bI_0, bI_n0, q1', q2', e1, at_5_0 hs16, E0, sp_used, iN.1.1, g1, r1, sp_alongOf k1.2.1 hn g, a1.2, at_5_3 hs16, et, E 3 (by omega)]
            · rw [en_X9_treeIs]
              simp only [c20, c2i, c2n, c2r, cs8_0, cs8_1, cs8_2, cs8_3, cs8_4, decide_eq_true_eq, ev_ald0, ev_aldn0, ev_bin, ev_cs3, ev_cv0, ev_cv1, ev_cv2, ev_go, ev_gr, ev_i, ev_ia, ev_if0, ev_if2, ev_ild1, ev_ild2, ev_ild3, ev_ist3, ev_ri, i00, i01, i10, not_false_eq_true, not_true_eq_false, pm_bd_s, pm_tl_n, pm_tl_s, ↓reduceIte, pb_X9_treeIs_0, pb_X9_treeIs_1, pb_X9_treeIs_2, pb_X9_treeIs_3, pb_X9_treeIs_4, pb_X9_treeIs_5, pb_X9_treeIs_6, nl_0_1, nl_0_2, nl_0_3, nl_0_4, nl_0_5, nl_0_6, nl_0_7, nl_0_8, nl_1_0, nl_1_2, nl_1_3, nl_1_4, nl_1_5, nl_1_6, nl_1_7, nl_1_8, nl_2_0, nl_2_1, nl_2_3, nl_2_4, nl_2_5, nl_2_6, nl_2_7, nl_2_8, nl_3_0, nl_3_1, nl_3_2, nl_3_4, nl_3_5, nl_3_6, nl_3_7, nl_3_8, nl_4_0, nl_4_1, nl_4_2, nl_4_3, nl_4_5, nl_4_6, nl_4_7, nl_4_8, nl_5_0, nl_5_1, nl_5_2, nl_5_3, nl_5_4, nl_5_6, nl_5_7, nl_5_8, nl_6_0, nl_6_1, nl_6_2, nl_6_3, nl_6_4, nl_6_5, nl_6_7, nl_6_8, nl_7_0, nl_7_1, nl_7_2, nl_7_3, nl_7_4, nl_7_5, nl_7_6, nl_7_8, nl_8_0, nl_8_1, nl_8_2, nl_8_3, nl_8_4, nl_8_5, nl_8_6, nl_8_7, kd_59, rf_59_0, rf_59_1, rf_59_3, rf_59_4, rf_59_5, rf_59_6, rf_59_7, rf_59_12, rf_59_14, rf_59_15, rf_59_16, rf_59_19, rf_59_23, rf_59_24, rf_59_25, rf_59_26, is_9_59, kd_60, al_60, kd_64, al_64, sr_is2 ht1 (show nt ≤ 24 by omega), sr_isIn, bI_0, bI_n0, q1', q2', e2, rt_0 hs16, rt_3 hs16, ert1, er, ix0, cl0, hn1, g1, r2, pm_ix_n (show p < 25 by omega) (show 25 < 2 ^ 31 by omega), nI_clamp (show p < 2 ^ 31 by omega), b1.2]
        · have g1 : ¬ nI p ≤ nI n := nI_ge (by omega) (by omega)
          refine Pr_e (e := 2) (x := -1000000002) hI (by omega) (by omega) ?_ ?_
          · rw [en_X8_treeIs]
            simp only [c20, c2i, c2n, c2r, cs8_0, cs8_1, cs8_2, cs8_3, cs8_4, decide_eq_true_eq, ev_ald0, ev_aldn0, ev_bin, ev_cs3, ev_cv0, ev_cv1, ev_cv2, ev_go, ev_gr, ev_i, ev_if0, ev_if2, ev_ild1, ev_ild2, ev_ild3, ev_ist3, ev_ri, i00, i01, i10, is_sw, not_false_eq_true, not_true_eq_false, pm_bd_s, pm_tl_n, pm_tl_s, ↓reduceIte, pb_X8_treeIs_0, pb_X8_treeIs_1, pb_X8_treeIs_2, pb_X8_treeIs_3, pb_X8_treeIs_4, pb_X8_treeIs_5, pb_X8_treeIs_6, kd_0, rf_0_0, rf_0_1, rf_0_2, rf_0_3, rf_0_4, rf_0_5, rf_0_6, rf_0_7, rf_0_8, is_8_0, kd_1, rf_1_0, rf_1_1, rf_1_2, rf_1_3, rf_1_4, rf_1_5, rf_1_6, is_5_1, kd_3, rf_3_2, fc_3_0, fc_3_1, is_6_3_3, is_3_6_3, kd_5, rf_5_2, fc_5_0, fc_5_1, is_6_3_5, is_3_6_5, has_5 hc5 (show nt ≤ 60 by omega), sp_isIn, bI_0, bI_n0, q1', q2', e1, at_5_0 hs16, E0, sp_used, iN.1.1, g1, fail_2, F2]
          · have ert2 : rt (pm_si h 28 2 (h.1 28 2 + 1)) 0 s = nI p := ep
            have hn0 : (pm_si h 28 2 (h.1 28 2 + 1)).1 60 0 = nI n := iN.1.2.1
            rw [en_X9_treeIs]
            simp only [c20, c2i, c2n, c2r, cs8_0, cs8_1, cs8_2, cs8_3, cs8_4, decide_eq_true_eq, ev_ald0, ev_aldn0, ev_bin, ev_cs3, ev_cv0, ev_cv1, ev_cv2, ev_go, ev_gr, ev_i, ev_ia, ev_if0, ev_if2, ev_ild1, ev_ild2, ev_ild3, ev_ist3, ev_ri, i00, i01, i10, not_false_eq_true, not_true_eq_false, pm_bd_s, pm_tl_n, pm_tl_s, ↓reduceIte, pb_X9_treeIs_0, pb_X9_treeIs_1, pb_X9_treeIs_2, pb_X9_treeIs_3, pb_X9_treeIs_4, pb_X9_treeIs_5, pb_X9_treeIs_6, kd_59, rf_59_0, rf_59_1, rf_59_3, rf_59_4, rf_59_5, rf_59_6, rf_59_7, rf_59_12, rf_59_14, rf_59_15, rf_59_16, rf_59_19, rf_59_23, rf_59_24, rf_59_25, rf_59_26, is_9_59, kd_60, al_60, sr_is2 (u := nt) (h := pm_si h 28 2 (h.1 28 2 + 1)) ht.2.1 (show nt ≤ 24 by omega), sr_isIn, bI_0, bI_n0, q1', q2', e2, rt_0 hs16, ert2, ix0, cl0, hn0, g1, find_2]
    · refine Pr_e (e := 1) (x := -1000000001) hI (by omega) (by omega) ?_ ?_
      · rw [en_X8_treeIs]
        simp only [c20, c2i, c2n, c2r, cs8_0, cs8_1, cs8_2, cs8_3, cs8_4, decide_eq_true_eq, ev_ald0, ev_aldn0, ev_bin, ev_cs3, ev_cv0, ev_cv1, ev_cv2, ev_go, ev_gr, ev_i, ev_if0, ev_if2, ev_ild1, ev_ild2, ev_ild3, ev_ist3, ev_ri, i00, i01, i10, is_sw, not_false_eq_true, not_true_eq_false, pm_bd_s, pm_tl_n, pm_tl_s, ↓reduceIte, pb_X8_treeIs_0, pb_X8_treeIs_1, pb_X8_treeIs_2, pb_X8_treeIs_3, pb_X8_treeIs_4, pb_X8_treeIs_5, pb_X8_treeIs_6, kd_0, rf_0_0, rf_0_1, rf_0_2, rf_0_3, rf_0_4, rf_0_5, rf_0_6, rf_0_7, rf_0_8, is_8_0, kd_1, rf_1_0, rf_1_1, rf_1_2, rf_1_3, rf_1_4, rf_1_5, rf_1_6, is_5_1, kd_5, rf_5_2, fc_5_0, fc_5_1, is_6_3_5, is_3_6_5, has_5 hc5 (show nt ≤ 60 by omega), sp_isIn, bI_0, bI_n0, eq_true q1, eq_false q2, fail_1, F1]
      · rw [en_X9_treeIs]
        simp only [c20, c2i, c2n, c2r, cs8_0, cs8_1, cs8_2, cs8_3, cs8_4, decide_eq_true_eq, ev_ald0, ev_aldn0, ev_bin, ev_cs3, ev_cv0, ev_cv1, ev_cv2, ev_go, ev_gr, ev_i, ev_ia, ev_if0, ev_if2, ev_ild1, ev_ild2, ev_ild3, ev_ist3, ev_ri, i00, i01, i10, not_false_eq_true, not_true_eq_false, pm_bd_s, pm_tl_n, pm_tl_s, ↓reduceIte, pb_X9_treeIs_0, pb_X9_treeIs_1, pb_X9_treeIs_2, pb_X9_treeIs_3, pb_X9_treeIs_4, pb_X9_treeIs_5, pb_X9_treeIs_6, kd_59, rf_59_0, rf_59_1, rf_59_3, rf_59_4, rf_59_5, rf_59_6, rf_59_7, rf_59_12, rf_59_14, rf_59_15, rf_59_16, rf_59_19, rf_59_23, rf_59_24, rf_59_25, rf_59_26, is_9_59, sr_is2 (((si_ne (a := 28) (k := 1) (b := 60) (j := 2) h (h.1 28 1 + 1) (by omega)).trans (ht.2.1))) (show nt ≤ 24 by omega), sr_isIn, bI_0, bI_n0, eq_true q1, eq_false q2, find_1]
  · refine Pr_e (e := 1) (x := -1000000001) hI (by omega) (by omega) ?_ ?_
    · rw [en_X8_treeIs]
      simp only [c20, c2i, c2n, c2r, cs8_0, cs8_1, cs8_2, cs8_3, cs8_4, decide_eq_true_eq, ev_ald0, ev_aldn0, ev_bin, ev_cs3, ev_cv0, ev_cv1, ev_cv2, ev_go, ev_gr, ev_i, ev_if0, ev_if2, ev_ild1, ev_ild2, ev_ild3, ev_ist3, ev_ri, i00, i01, i10, is_sw, not_false_eq_true, not_true_eq_false, pm_bd_s, pm_tl_n, pm_tl_s, ↓reduceIte, pb_X8_treeIs_0, pb_X8_treeIs_1, pb_X8_treeIs_2, pb_X8_treeIs_3, pb_X8_treeIs_4, pb_X8_treeIs_5, pb_X8_treeIs_6, kd_0, rf_0_0, rf_0_1, rf_0_2, rf_0_3, rf_0_4, rf_0_5, rf_0_6, rf_0_7, rf_0_8, is_8_0, kd_1, rf_1_0, rf_1_1, rf_1_2, rf_1_3, rf_1_4, rf_1_5, rf_1_6, is_5_1, kd_5, rf_5_2, fc_5_0, fc_5_1, is_6_3_5, is_3_6_5, has_5 hc5 (show nt ≤ 60 by omega), sp_isIn, bI_0, bI_n0, eq_false q1, fail_1, F1]
    · rw [en_X9_treeIs]
      simp only [c20, c2i, c2n, c2r, cs8_0, cs8_1, cs8_2, cs8_3, cs8_4, decide_eq_true_eq, ev_ald0, ev_aldn0, ev_bin, ev_cs3, ev_cv0, ev_cv1, ev_cv2, ev_go, ev_gr, ev_i, ev_ia, ev_if0, ev_if2, ev_ild1, ev_ild2, ev_ild3, ev_ist3, ev_ri, i00, i01, i10, not_false_eq_true, not_true_eq_false, pm_bd_s, pm_tl_n, pm_tl_s, ↓reduceIte, pb_X9_treeIs_0, pb_X9_treeIs_1, pb_X9_treeIs_2, pb_X9_treeIs_3, pb_X9_treeIs_4, pb_X9_treeIs_5, pb_X9_treeIs_6, kd_59, rf_59_0, rf_59_1, rf_59_3, rf_59_4, rf_59_5, rf_59_6, rf_59_7, rf_59_12, rf_59_14, rf_59_15, rf_59_16, rf_59_19, rf_59_23, rf_59_24, rf_59_25, rf_59_26, is_9_59, sr_is2 (((si_ne (a := 28) (k := 1) (b := 60) (j := 2) h (h.1 28 1 + 1) (by omega)).trans (ht.2.1))) (show nt ≤ 24 by omega), sr_isIn, bI_0, bI_n0, eq_false q1, find_1]
end P8
