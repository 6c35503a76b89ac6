/-! PAIRS OF CALLS: as, tree, dig, seed, told, tell -/
section P6
variable {fb : Bool} {d : Nat} {h : pm_HP}
set_option maxRecDepth 100000 in
set_option maxHeartbeats 8000000 in
theorem sr_asR {s a b u : Nat} (hu0 : h.1 60 1 = nI u) (hu8 : u ≤ 8) (hs : s < u) (ha : a ≤ 6) (hb : b ≤ 6) (hk : rl h 0 s = nI a) : rs fb (d + 4) n_X9_as [.ref 59, .int (nI s), .int (nI b)] h = if isK a b = true then some (some (.int (rl h 3 s)), h) else some (some (.int (-1000000005)), pm_si h 62 5 (h.1 62 5 + 1)) := by
  have hs8 : s < 8 := by omega
  have q1 : (0 ≤ nI s ∧ nI s < nI u) = True := eq_true ⟨nI_pos' (by omega), nI_lt hs (by omega)⟩
  have q2 : (0 ≤ nI b ∧ nI b ≤ 6) = True := eq_true ⟨nI_pos' (by omega), nI_le (a := b) (b := 6) (by omega) (by omega)⟩
  rw [en_X9_as]
  rcases (show a = 0 ∨ a = 1 ∨ a = 2 ∨ a = 3 ∨ a = 4 ∨ a = 5 ∨ a = 6 by omega) with rfl | rfl | rfl | rfl | rfl | rfl | rfl <;> rcases (show b = 0 ∨ b = 1 ∨ b = 2 ∨ b = 3 ∨ b = 4 ∨ b = 5 ∨ b = 6 by omega) with rfl | rfl | rfl | rfl | rfl | rfl | rfl <;> simp (decide := true) only [c20, c2i, c2n, c2r, cs8_0, cs8_1, cs8_2, cs8_3, cs8_4, decide_eq_true_eq, ev_ald0, ev_aldn0, ev_cs1, ev_cs3, ev_cv1, ev_cv2, ev_go, ev_i, ev_if0, ev_if2, ev_ild1, ev_ild2, ev_ild3, ev_ist3, ev_ri, i00, i01, i10, not_false_eq_true, not_true_eq_false, pm_bd_s, pm_tl_n, pm_tl_s, ↓reduceIte, pb_X9_as_0, pb_X9_as_1, pb_X9_as_2, pb_X9_as_3, pb_X9_as_4, pb_X9_as_5, pb_X9_as_6, kd_59, rf_59_0, rf_59_1, rf_59_3, rf_59_4, rf_59_5, rf_59_6, rf_59_7, rf_59_12, rf_59_14, rf_59_15, rf_59_16, rf_59_19, rf_59_23, rf_59_24, rf_59_25, rf_59_26, is_9_59, sr_is1 hu0 (show u ≤ 24 by omega), sr_isIn, bI_0, bI_n0, q1, q2, rl_0 hs8, rl_3 hs8, hk, sr_above, find_5, isK]
theorem pr_as (hI : Inv h) (x y : Int32) : Pr fb (d + 100) n_X8_as n_X9_as [.int x, .int y] h := by
  obtain ⟨⟨n, u, nt, nb, nw, iN⟩, iZ, iM, iS, iT, iB, iW, iX, iY⟩ := id hI.1
  have hu := iN.2.1
  have hc4 : h.1 4 3 = nI u := hu.1
  by_cases q1 : 0 ≤ x ∧ x < nI u
  · by_cases q2 : 0 ≤ y ∧ y ≤ 6
    · obtain ⟨s, hs, rfl⟩ := i_lt (by omega) q1
      obtain ⟨b, hb, rfl⟩ := nI_of2 (M := 6) (n := 6) (by decide) (Int32.not_lt.mpr q2.1) q2.2
      have hs8 : s < 8 := by omega
      obtain ⟨a, ha, ea⟩ := nI_of2 (M := 6) (n := 6) (by decide) (Int32.not_lt.mpr (iS s hs8).2.1.1) (iS s hs8).2.1.2
      have ea : rl h 0 s = nI a := ea
      have ec : sl h 0 s = nI a := by rw [eq_sl iS hs8 (by omega)]; exact ea
      by_cases qk : isK a b = true
      · refine ⟨sl h 3 s, h, h, ?_, ?_, hI⟩
        · rw [en_X8_as]
          simp only [cs8_0, cs8_1, cs8_2, cs8_3, cs8_4, decide_eq_true_eq, ev_ald0, ev_aldn0, ev_cs3, ev_cv1, ev_cv2, ev_go, ev_gr, ev_i, ev_if0, ev_ild1, ev_ild2, ev_ri, i00, i01, i10, not_false_eq_true, not_true_eq_false, pm_bd_s, pm_tl_n, pm_tl_s, ↓reduceIte, pb_X8_as_0, pb_X8_as_1, pb_X8_as_2, pb_X8_as_3, pb_X8_as_4, kd_0, rf_0_0, rf_0_1, rf_0_2, rf_0_3, rf_0_4, rf_0_5, rf_0_6, rf_0_7, rf_0_8, is_8_0, kd_1, rf_1_0, rf_1_1, rf_1_2, rf_1_3, rf_1_4, rf_1_5, rf_1_6, is_5_1, kd_4, rf_4_2, fc_4_0, fc_4_1, is_6_3_4, is_3_6_4, is_3_4, has_4 hc4 (show u ≤ 60 by omega), sp_isIn, sp_isOf hs8 ha hb ec, bI_0, bI_n0, eq_true q1, eq_true q2, qk, at_4_3 hs8]
        · rw [show d + 100 = (d + 96) + 4 from rfl, sr_asR hu.2.1 hu.2.2 hs ha hb ea, if_pos qk, eq_sl iS hs8 (by omega)]
      · refine Pr_e (e := 5) (x := -1000000005) hI (by omega) (by omega) ?_ ?_
        · have qf : (isK a b = true) = False := eq_false qk
          rw [en_X8_as]
          simp only [cs8_0, cs8_1, cs8_2, cs8_3, cs8_4, decide_eq_true_eq, ev_ald0, ev_aldn0, ev_cs3, ev_cv1, ev_cv2, ev_go, ev_gr, ev_i, ev_if0, ev_ild1, ev_ild2, ev_ri, i00, i01, i10, not_false_eq_true, not_true_eq_false, pm_bd_s, pm_tl_n, pm_tl_s, ↓reduceIte, pb_X8_as_0, pb_X8_as_1, pb_X8_as_2, pb_X8_as_3, pb_X8_as_4, kd_0, rf_0_0, rf_0_1, rf_0_2, rf_0_3, rf_0_4, rf_0_5, rf_0_6, rf_0_7, rf_0_8, is_8_0, kd_1, rf_1_0, rf_1_1, rf_1_2, rf_1_3, rf_1_4, rf_1_5, rf_1_6, is_5_1, kd_4, rf_4_2, fc_4_0, fc_4_1, is_6_3_4, is_3_6_4, is_3_4, has_4 hc4 (show u ≤ 60 by omega), sp_isIn, sp_isOf hs8 ha hb ec, bI_0, bI_n0, eq_true q1, eq_true q2, qf, fail_5, F5]
        · rw [show d + 100 = (d + 96) + 4 from rfl, sr_asR (((si_ne (a := 28) (k := 5) (b := 60) (j := 1) h (h.1 28 5 + 1) (by omega)).trans (hu.2.1))) hu.2.2 hs ha hb (by rw [si_rl (by omega)]; exact ea), if_neg qk]
    · refine Pr_e (e := 1) (x := -1000000001) hI (by omega) (by omega) ?_ ?_
      · rw [en_X8_as]
        simp only [cs8_0, cs8_1, cs8_2, cs8_3, cs8_4, decide_eq_true_eq, ev_ald0, ev_aldn0, ev_cs3, ev_cv1, ev_cv2, ev_go, ev_gr, ev_i, ev_if0, ev_ild1, ev_ild2, ev_ri, i00, i01, i10, not_false_eq_true, not_true_eq_false, pm_bd_s, pm_tl_n, pm_tl_s, ↓reduceIte, pb_X8_as_0, pb_X8_as_1, pb_X8_as_2, pb_X8_as_3, pb_X8_as_4, kd_0, rf_0_0, rf_0_1, rf_0_2, rf_0_3, rf_0_4, rf_0_5, rf_0_6, rf_0_7, rf_0_8, is_8_0, kd_1, rf_1_0, rf_1_1, rf_1_2, rf_1_3, rf_1_4, rf_1_5, rf_1_6, is_5_1, kd_4, rf_4_2, fc_4_0, fc_4_1, is_6_3_4, is_3_6_4, is_3_4, has_4 hc4 (show u ≤ 60 by omega), sp_isIn, bI_0, bI_n0, eq_true q1, eq_false q2, fail_1, F1]
      · rw [en_X9_as]
        simp only [c20, c2i, c2n, c2r, cs8_0, cs8_1, cs8_2, cs8_3, cs8_4, decide_eq_true_eq, ev_ald0, ev_aldn0, ev_cs1, ev_cs3, ev_cv1, ev_cv2, ev_go, ev_i, ev_if0, ev_if2, ev_ild1, ev_ild2, ev_ild3, ev_ist3, ev_ri, i00, i01, i10, not_false_eq_true, not_true_eq_false, pm_bd_s, pm_tl_n, pm_tl_s, ↓reduceIte, pb_X9_as_0, pb_X9_as_1, pb_X9_as_2, pb_X9_as_3, pb_X9_as_4, pb_X9_as_5, pb_X9_as_6, kd_59, rf_59_0, rf_59_1, rf_59_3, rf_59_4, rf_59_5, rf_59_6, rf_59_7, rf_59_12, rf_59_14, rf_59_15, rf_59_16, rf_59_19, rf_59_23, rf_59_24, rf_59_25, rf_59_26, is_9_59, sr_is1 (((si_ne (a := 28) (k := 1) (b := 60) (j := 1) h (h.1 28 1 + 1) (by omega)).trans (hu.2.1))) (show u ≤ 24 by omega), sr_isIn, bI_0, bI_n0, eq_true q1, eq_false q2, find_1]
  · refine Pr_e (e := 1) (x := -1000000001) hI (by omega) (by omega) ?_ ?_
    · rw [en_X8_as]
      simp only [cs8_0, cs8_1, cs8_2, cs8_3, cs8_4, decide_eq_true_eq, ev_ald0, ev_aldn0, ev_cs3, ev_cv1, ev_cv2, ev_go, ev_gr, ev_i, ev_if0, ev_ild1, ev_ild2, ev_ri, i00, i01, i10, not_false_eq_true, not_true_eq_false, pm_bd_s, pm_tl_n, pm_tl_s, ↓reduceIte, pb_X8_as_0, pb_X8_as_1, pb_X8_as_2, pb_X8_as_3, pb_X8_as_4, kd_0, rf_0_0, rf_0_1, rf_0_2, rf_0_3, rf_0_4, rf_0_5, rf_0_6, rf_0_7, rf_0_8, is_8_0, kd_1, rf_1_0, rf_1_1, rf_1_2, rf_1_3, rf_1_4, rf_1_5, rf_1_6, is_5_1, kd_4, rf_4_2, fc_4_0, fc_4_1, is_6_3_4, is_3_6_4, is_3_4, has_4 hc4 (show u ≤ 60 by omega), sp_isIn, bI_0, bI_n0, eq_false q1, fail_1, F1]
    · rw [en_X9_as]
      simp only [c20, c2i, c2n, c2r, cs8_0, cs8_1, cs8_2, cs8_3, cs8_4, decide_eq_true_eq, ev_ald0, ev_aldn0, ev_cs1, ev_cs3, ev_cv1, ev_cv2, ev_go, ev_i, ev_if0, ev_if2, ev_ild1, ev_ild2, ev_ild3, ev_ist3, ev_ri, i00, i01, i10, not_false_eq_true, not_true_eq_false, pm_bd_s, pm_tl_n, pm_tl_s, ↓reduceIte, pb_X9_as_0, pb_X9_as_1, pb_X9_as_2, pb_X9_as_3, pb_X9_as_4, pb_X9_as_5, pb_X9_as_6, kd_59, rf_59_0, rf_59_1, rf_59_3, rf_59_4, rf_59_5, rf_59_6, rf_59_7, rf_59_12, rf_59_14, rf_59_15, rf_59_16, rf_59_19, rf_59_23, rf_59_24, rf_59_25, rf_59_26, is_9_59, sr_is1 (((si_ne (a := 28) (k := 1) (b := 60) (j := 1) h (h.1 28 1 + 1) (by omega)).trans (hu.2.1))) (show u ≤ 24 by omega), sr_isIn, bI_0, bI_n0, eq_false q1, find_1]
theorem pr_dig (hI : Inv h) (x a b w : Int32) : Pr fb (d + 100) n_X8_dig n_X9_dig [.int x, .int a, .int b, .int w] h := by
  obtain ⟨⟨n, u, nt, nb, nw, iN⟩, iZ, iM, iS, iT, iB, iW, iX, iY⟩ := id hI.1
  have hu := iN.2.2.1
  have hc5 : h.1 5 3 = nI nt := hu.1
  by_cases q1 : 0 ≤ x ∧ x < nI nt
  · by_cases q2 : 0 ≤ w ∧ w ≤ 1
    · obtain ⟨t, ht, rfl⟩ := i_lt (by omega) q1
      have ht16 : t < 16 := by omega
      rcases b01 q2 with rfl | rfl
      · refine ⟨a - tr h 2 t, h, h, ?_, ?_, hI⟩
        · rw [en_X8_dig]
          simp only [cs8_0, cs8_1, cs8_2, cs8_3, cs8_4, decide_eq_true_eq, ev_ald0, ev_aldn0, ev_bin, ev_cs3, ev_cv1, ev_cv2, ev_go, ev_gr, ev_i, ev_if0, ev_ild1, ev_ild2, ev_ild3, ev_ild4, ev_ri, i00, i01, i10, is_sw, not_false_eq_true, not_true_eq_false, pm_bd_s, pm_tl_n, pm_tl_s, ↓reduceIte, pb_X8_dig_0, pb_X8_dig_1, pb_X8_dig_2, pb_X8_dig_3, pb_X8_dig_4, nl_0_1, nl_0_2, nl_0_3, nl_0_4, nl_0_5, nl_0_6, nl_0_7, nl_0_8, nl_1_0, nl_1_2, nl_1_3, nl_1_4, nl_1_5, nl_1_6, nl_1_7, nl_1_8, nl_2_0, nl_2_1, nl_2_3, nl_2_4, nl_2_5, nl_2_6, nl_2_7, nl_2_8, nl_3_0, nl_3_1, nl_3_2, nl_3_4, nl_3_5, nl_3_6, nl_3_7, nl_3_8, nl_4_0, nl_4_1, nl_4_2, nl_4_3, nl_4_5, nl_4_6, nl_4_7, nl_4_8, nl_5_0, nl_5_1, nl_5_2, nl_5_3, nl_5_4, nl_5_6, nl_5_7, nl_5_8, nl_6_0, nl_6_1, nl_6_2, nl_6_3, nl_6_4, nl_6_5, nl_6_7, nl_6_8, nl_7_0, nl_7_1, nl_7_2, nl_7_3, nl_7_4, nl_7_5, nl_7_6, nl_7_8, nl_8_0, nl_8_1, nl_8_2, nl_8_3, nl_8_4, nl_8_5, nl_8_6, nl_8_7, kd_0, rf_0_0, rf_0_1, rf_0_2, rf_0_3, rf_0_4, rf_0_5, rf_0_6, rf_0_7, rf_0_8, is_8_0, kd_1, rf_1_0, rf_1_1, rf_1_2, rf_1_3, rf_1_4, rf_1_5, rf_1_6, is_5_1, kd_5, rf_5_2, fc_5_0, fc_5_1, is_6_3_5, is_3_6_5, has_5 hc5 (show nt ≤ 60 by omega), sp_isIn, bI_0, bI_n0, eq_true q1, eq_true q2, at_5_2 ht16]
        · rw [en_X9_dig]
          simp only [cs8_0, cs8_1, cs8_2, cs8_3, cs8_4, decide_eq_true_eq, ev_ald0, ev_aldn0, ev_bin, ev_cs3, ev_cv1, ev_cv2, ev_go, ev_i, ev_if0, ev_ild1, ev_ild2, ev_ild3, ev_ild4, ev_ri, i00, i01, i10, not_false_eq_true, not_true_eq_false, pm_bd_s, pm_tl_n, pm_tl_s, ↓reduceIte, pb_X9_dig_0, pb_X9_dig_1, pb_X9_dig_2, pb_X9_dig_3, pb_X9_dig_4, nl_0_1, nl_0_2, nl_0_3, nl_0_4, nl_0_5, nl_0_6, nl_0_7, nl_0_8, nl_1_0, nl_1_2, nl_1_3, nl_1_4, nl_1_5, nl_1_6, nl_1_7, nl_1_8, nl_2_0, nl_2_1, nl_2_3, nl_2_4, nl_2_5, nl_2_6, nl_2_7, nl_2_8, nl_3_0, nl_3_1, nl_3_2, nl_3_4, nl_3_5, nl_3_6, nl_3_7, nl_3_8, nl_4_0, nl_4_1, nl_4_2, nl_4_3, nl_4_5, nl_4_6, nl_4_7, nl_4_8, nl_5_0, nl_5_1, nl_5_2, nl_5_3, nl_5_4, nl_5_6, nl_5_7, nl_5_8, nl_6_0, nl_6_1, nl_6_2, nl_6_3, nl_6_4, nl_6_5, nl_6_7, nl_6_8, nl_7_0, nl_7_1, nl_7_2, nl_7_3, nl_7_4, nl_7_5, nl_7_6, nl_7_8, nl_8_0, nl_8_1, nl_8_2, nl_8_3, nl_8_4, nl_8_5, nl_8_6, nl_8_7, kd_59, rf_59_0, rf_59_1, rf_59_3, rf_59_4, rf_59_5, rf_59_6, rf_59_7, rf_59_12, rf_59_14, rf_59_15, rf_59_16, rf_59_19, rf_59_23, rf_59_24, rf_59_25, rf_59_26, is_9_59, sr_is2 hu.2.1 (show nt ≤ 24 by omega), sr_isIn, bI_0, bI_n0, eq_true q1, eq_true q2, rt_2 ht16, eq_tr iT ht16 (show 2 < 4 by omega)]
      · refine ⟨b - tr h 3 t, h, h, ?_, ?_, hI⟩
        · rw [en_X8_dig]
          simp only [cs8_0, cs8_1, cs8_2, cs8_3, cs8_4, decide_eq_true_eq, ev_ald0, ev_aldn0, ev_bin, ev_cs3, ev_cv1, ev_cv2, ev_go, ev_gr, ev_i, ev_if0, ev_ild1, ev_ild2, ev_ild3, ev_ild4, ev_ri, i00, i01, i10, is_sw, not_false_eq_true, not_true_eq_false, pm_bd_s, pm_tl_n, pm_tl_s, ↓reduceIte, pb_X8_dig_0, pb_X8_dig_1, pb_X8_dig_2, pb_X8_dig_3, pb_X8_dig_4, nl_0_1, nl_0_2, nl_0_3, nl_0_4, nl_0_5, nl_0_6, nl_0_7, nl_0_8, nl_1_0, nl_1_2, nl_1_3, nl_1_4, nl_1_5, nl_1_6, nl_1_7, nl_1_8, nl_2_0, nl_2_1, nl_2_3, nl_2_4, nl_2_5, nl_2_6, nl_2_7, nl_2_8, nl_3_0, nl_3_1, nl_3_2, nl_3_4, nl_3_5, nl_3_6, nl_3_7, nl_3_8, nl_4_0, nl_4_1, nl_4_2, nl_4_3, nl_4_5, nl_4_6, nl_4_7, nl_4_8, nl_5_0, nl_5_1, nl_5_2, nl_5_3, nl_5_4, nl_5_6, nl_5_7, nl_5_8, nl_6_0, nl_6_1, nl_6_2, nl_6_3, nl_6_4, nl_6_5, nl_6_7, nl_6_8, nl_7_0, nl_7_1, nl_7_2, nl_7_3, nl_7_4, nl_7_5, nl_7_6, nl_7_8, nl_8_0, nl_8_1, nl_8_2, nl_8_3, nl_8_4, nl_8_5, nl_8_6, nl_8_7, kd_0, rf_0_0, rf_0_1, rf_0_2, rf_0_3, rf_0_4, rf_0_5, rf_0_6, rf_0_7, rf_0_8, is_8_0, kd_1, rf_1_0, rf_1_1, rf_1_2, rf_1_3, rf_1_4, rf_1_5, rf_1_6, is_5_1, kd_5, rf_5_2, fc_5_0, fc_5_1, is_6_3_5, is_3_6_5, has_5 hc5 (show nt ≤ 60 by omega), sp_isIn, bI_0, bI_n0, eq_true q1, eq_true q2, at_5_3 ht16]
        · rw [en_X9_dig]
          simp only [cs8_0, cs8_1, cs8_2, cs8_3, cs8_4, decide_eq_true_eq, ev_ald0, ev_aldn0, ev_bin, ev_cs3, ev_cv1, ev_cv2, ev_go, ev_i, ev_if0, ev_ild1, ev_ild2, ev_ild3, ev_ild4, ev_ri, i00, i01, i10, not_false_eq_true, not_true_eq_false, pm_bd_s, pm_tl_n, pm_tl_s, ↓reduceIte, pb_X9_dig_0, pb_X9_dig_1, pb_X9_dig_2, pb_X9_dig_3, pb_X9_dig_4, nl_0_1, nl_0_2, nl_0_3, nl_0_4, nl_0_5, nl_0_6, nl_0_7, nl_0_8, nl_1_0, nl_1_2, nl_1_3, nl_1_4, nl_1_5, nl_1_6, nl_1_7, nl_1_8, nl_2_0, nl_2_1, nl_2_3, nl_2_4, nl_2_5, nl_2_6, nl_2_7, nl_2_8, nl_3_0, nl_3_1, nl_3_2, nl_3_4, nl_3_5, nl_3_6, nl_3_7, nl_3_8, nl_4_0, nl_4_1, nl_4_2, nl_4_3, nl_4_5, nl_4_6, nl_4_7, nl_4_8, nl_5_0, nl_5_1, nl_5_2, nl_5_3, nl_5_4, nl_5_6, nl_5_7, nl_5_8, nl_6_0, nl_6_1, nl_6_2, nl_6_3, nl_6_4, nl_6_5, nl_6_7, nl_6_8, nl_7_0, nl_7_1, nl_7_2, nl_7_3, nl_7_4, nl_7_5, nl_7_6, nl_7_8, nl_8_0, nl_8_1, nl_8_2, nl_8_3, nl_8_4, nl_8_5, nl_8_6, nl_8_7, kd_59, rf_59_0, rf_59_1, rf_59_3, rf_59_4, rf_59_5, rf_59_6, rf_59_7, rf_59_12, rf_59_14, rf_59_15, rf_59_16, rf_59_19, rf_59_23, rf_59_24, rf_59_25, rf_59_26, is_9_59, sr_is2 hu.2.1 (show nt ≤ 24 by omega), sr_isIn, bI_0, bI_n0, eq_true q1, eq_true q2, rt_3 ht16, eq_tr iT ht16 (show 3 < 4 by omega)]
    · refine Pr_e (e := 1) (x := -1000000001) hI (by omega) (by omega) ?_ ?_
      · rw [en_X8_dig]
        simp only [cs8_0, cs8_1, cs8_2, cs8_3, cs8_4, decide_eq_true_eq, ev_ald0, ev_aldn0, ev_bin, ev_cs3, ev_cv1, ev_cv2, ev_go, ev_gr, ev_i, ev_if0, ev_ild1, ev_ild2, ev_ild3, ev_ild4, ev_ri, i00, i01, i10, is_sw, not_false_eq_true, not_true_eq_false, pm_bd_s, pm_tl_n, pm_tl_s, ↓reduceIte, pb_X8_dig_0, pb_X8_dig_1, pb_X8_dig_2, pb_X8_dig_3, pb_X8_dig_4, kd_0, rf_0_0, rf_0_1, rf_0_2, rf_0_3, rf_0_4, rf_0_5, rf_0_6, rf_0_7, rf_0_8, is_8_0, kd_1, rf_1_0, rf_1_1, rf_1_2, rf_1_3, rf_1_4, rf_1_5, rf_1_6, is_5_1, kd_5, rf_5_2, fc_5_0, fc_5_1, is_6_3_5, is_3_6_5, has_5 hc5 (show nt ≤ 60 by omega), sp_isIn, bI_0, bI_n0, eq_true q1, eq_false q2, fail_1, F1]
      · rw [en_X9_dig]
        simp only [cs8_0, cs8_1, cs8_2, cs8_3, cs8_4, decide_eq_true_eq, ev_ald0, ev_aldn0, ev_bin, ev_cs3, ev_cv1, ev_cv2, ev_go, ev_i, ev_if0, ev_ild1, ev_ild2, ev_ild3, ev_ild4, ev_ri, i00, i01, i10, not_false_eq_true, not_true_eq_false, pm_bd_s, pm_tl_n, pm_tl_s, ↓reduceIte, pb_X9_dig_0, pb_X9_dig_1, pb_X9_dig_2, pb_X9_dig_3, pb_X9_dig_4, kd_59, rf_59_0, rf_59_1, rf_59_3, rf_59_4, rf_59_5, rf_59_6, rf_59_7, rf_59_12, rf_59_14, rf_59_15, rf_59_16, rf_59_19, rf_59_23, rf_59_24, rf_59_25, rf_59_26, is_9_59, sr_is2 (((si_ne (a := 28) (k := 1) (b := 60) (j := 2) h (h.1 28 1 + 1) (by omega)).trans (hu.2.1))) (show nt ≤ 24 by omega), sr_isIn, bI_0, bI_n0, eq_true q1, eq_false q2, find_1]
  · refine Pr_e (e := 1) (x := -1000000001) hI (by omega) (by omega) ?_ ?_
    · rw [en_X8_dig]
      simp only [cs8_0, cs8_1, cs8_2, cs8_3, cs8_4, decide_eq_true_eq, ev_ald0, ev_aldn0, ev_bin, ev_cs3, ev_cv1, ev_cv2, ev_go, ev_gr, ev_i, ev_if0, ev_ild1, ev_ild2, ev_ild3, ev_ild4, ev_ri, i00, i01, i10, is_sw, not_false_eq_true, not_true_eq_false, pm_bd_s, pm_tl_n, pm_tl_s, ↓reduceIte, pb_X8_dig_0, pb_X8_dig_1, pb_X8_dig_2, pb_X8_dig_3, pb_X8_dig_4, kd_0, rf_0_0, rf_0_1, rf_0_2, rf_0_3, rf_0_4, rf_0_5, rf_0_6, rf_0_7, rf_0_8, is_8_0, kd_1, rf_1_0, rf_1_1, rf_1_2, rf_1_3, rf_1_4, rf_1_5, rf_1_6, is_5_1, kd_5, rf_5_2, fc_5_0, fc_5_1, is_6_3_5, is_3_6_5, has_5 hc5 (show nt ≤ 60 by omega), sp_isIn, bI_0, bI_n0, eq_false q1, fail_1, F1]
    · rw [en_X9_dig]
      simp only [cs8_0, cs8_1, cs8_2, cs8_3, cs8_4, decide_eq_true_eq, ev_ald0, ev_aldn0, ev_bin, ev_cs3, ev_cv1, ev_cv2, ev_go, ev_i, ev_if0, ev_ild1, ev_ild2, ev_ild3, ev_ild4, ev_ri, i00, i01, i10, not_false_eq_true, not_true_eq_false, pm_bd_s, pm_tl_n, pm_tl_s, ↓reduceIte, pb_X9_dig_0, pb_X9_dig_1, pb_X9_dig_2, pb_X9_dig_3, pb_X9_dig_4, kd_59, rf_59_0, rf_59_1, rf_59_3, rf_59_4, rf_59_5, rf_59_6, rf_59_7, rf_59_12, rf_59_14, rf_59_15, rf_59_16, rf_59_19, rf_59_23, rf_59_24, rf_59_25, rf_59_26, is_9_59, sr_is2 (((si_ne (a := 28) (k := 1) (b := 60) (j := 2) h (h.1 28 1 + 1) (by omega)).trans (hu.2.1))) (show nt ≤ 24 by omega), sr_isIn, bI_0, bI_n0, eq_false q1, find_1]
theorem Inv_z {v : Int32} (hI : Inv h) : Inv (pm_si (pm_si h 1 9 v) 60 5 v) := by
  obtain ⟨⟨n, u, nt, nb, nw, iN⟩, iZ, iM, iS, iT, iB, iW, iX, iY⟩ := hI.1
  refine Inv_now hI (now_si (now_si (fun _ _ _ => rfl) (by decide)) (by decide)) (R0_si (R0_si hI.2.2.2.2.2 (by omega)) (by omega)) ⟨⟨n, u, nt, nb, nw, RN_t iN (fun k hk => (by repeat (rw [si_ne _ _ (by omega)]))) (fun j _ => (by repeat (rw [si_ne _ _ (by omega)])))⟩, ?_, RM_t iM (by funext b; simp only [si_at, Nat.reduceEqDiff, false_and, ↓reduceIte]) (fun j _ _ => (by repeat (rw [si_ne _ _ (by omega)]))), RS_t iS (by funext b; simp only [si_at, Nat.reduceEqDiff, false_and, ↓reduceIte]) (fun j _ _ => (by repeat (rw [si_ne _ _ (by omega)]))), RT_t iT (by funext b; simp only [si_at, Nat.reduceEqDiff, false_and, ↓reduceIte]) (fun j _ _ => (by repeat (rw [si_ne _ _ (by omega)]))), RB_t iB (by funext b; simp only [si_at, Nat.reduceEqDiff, false_and, ↓reduceIte]) (fun j _ _ => (by repeat (rw [si_ne _ _ (by omega)]))), RW_t iW (by funext b; simp only [si_at, Nat.reduceEqDiff, false_and, ↓reduceIte]) (fun j _ _ => (by repeat (rw [si_ne _ _ (by omega)]))), RX_t iX (by repeat (rw [si_ne _ _ (by omega)])) (by funext b; simp only [si_at, Nat.reduceEqDiff, false_and, ↓reduceIte]) (fun j _ _ => (by repeat (rw [si_ne _ _ (by omega)]))), RX_t iY (by repeat (rw [si_ne _ _ (by omega)])) (by funext b; simp only [si_at, Nat.reduceEqDiff, false_and, ↓reduceIte]) (fun j _ _ => (by repeat (rw [si_ne _ _ (by omega)])))⟩
  refine ⟨?_, ?_, ?_⟩
  · ((repeat (first | rw [si_ne _ _ (by omega)] | rw [si_eq _ (by omega)])))
  · (repeat (first | rw [si_ne _ _ (by omega)] | rw [si_eq _ (by omega)])); exact iZ.2.1
  · (repeat (first | rw [si_ne _ _ (by omega)] | rw [si_eq _ (by omega)])); exact iZ.2.2
theorem pr_seed (hI : Inv h) (v : Int32) : Pr fb (d + 100) n_X8_seed n_X9_seed [.int v] h := by
  have iZ := hI.1.2.1
  have hb := fun d h => sr_become (fb := fb) (d := d) (h := h) (c := 5) (v := v) (by omega)
  have e5 : nI 5 = 5 := rfl
  rw [e5] at hb
  refine ⟨h.1 1 9, pm_si h 1 9 v, _, ?_, ?_, Inv_z (v := v) hI⟩
  · rw [en_X8_seed]
    simp only [c20, c2i, c2n, c2r, ev_ald0, ev_aldn0, ev_gi, ev_gr, ev_ild1, ev_ild2, ev_ist2, ev_pi, ev_ri, pb_X8_seed_0, kd_0, rf_0_0, rf_0_1, rf_0_2, rf_0_3, rf_0_4, rf_0_5, rf_0_6, rf_0_7, rf_0_8, is_8_0, kd_1, rf_1_0, rf_1_1, rf_1_2, rf_1_3, rf_1_4, rf_1_5, rf_1_6, is_5_1]
  · rw [en_X9_seed]
    simp only [cs8_0, cs8_1, cs8_2, cs8_3, cs8_4, ev_ald0, ev_aldn0, ev_cv2, ev_i, ev_ild1, ev_ri, pm_bd_s, pm_tl_n, pm_tl_s, pb_X9_seed_0, kd_59, rf_59_0, rf_59_1, rf_59_3, rf_59_4, rf_59_5, rf_59_6, rf_59_7, rf_59_12, rf_59_14, rf_59_15, rf_59_16, rf_59_19, rf_59_23, rf_59_24, rf_59_25, rf_59_26, is_9_59, hb, si_at, Nat.reduceEqDiff, false_and, ↓reduceIte, iZ.1]
theorem pr_told (hI : Inv h) (v : Int32) : Pr fb (d + 100) n_X8_told n_X9_told [.int v] h := by
  have iE := hI.2.2.1
  by_cases q : 1 ≤ v ∧ v ≤ 6
  · obtain ⟨k, hk, rfl⟩ := nI_of2 (M := 6) (n := 6) (by decide) (Int32.not_lt.mpr (Int32.le_trans (by decide) q.1)) q.2
    have hk1 : 1 ≤ k := (nI_leI (a := 1) (b := k) (by omega) (by omega)).mp q.1
    have hix : pm_ix (nI k) 7 = true := pm_ix_n (by omega) (by omega)
    have hcl := nI_clamp (show k < 2 ^ 31 by omega)
    refine ⟨h.1 28 k, h, h, ?_, ?_, hI⟩
    · rw [en_X8_told]
      simp only [cs8_0, cs8_1, cs8_2, cs8_3, cs8_4, decide_eq_true_eq, ev_ald0, ev_aldn0, ev_cs3, ev_cv1, ev_go, ev_gr, ev_i, ev_ia, ev_if0, ev_ild1, ev_ri, i00, i01, i10, not_false_eq_true, not_true_eq_false, pm_bd_s, pm_tl_n, pm_tl_s, ↓reduceIte, pb_X8_told_0, pb_X8_told_1, pb_X8_told_2, kd_0, rf_0_0, rf_0_1, rf_0_2, rf_0_3, rf_0_4, rf_0_5, rf_0_6, rf_0_7, rf_0_8, is_8_0, kd_28, al_28, sp_isIn, bI_0, eq_true q, hix, hcl]
    · rw [en_X9_told]
      simp only [cs8_0, cs8_1, cs8_2, cs8_3, cs8_4, decide_eq_true_eq, ev_ald0, ev_aldn0, ev_cs3, ev_cv1, ev_go, ev_gr, ev_i, ev_ia, ev_if0, ev_ild1, ev_ri, i00, i01, i10, not_false_eq_true, not_true_eq_false, pm_bd_s, pm_tl_n, pm_tl_s, ↓reduceIte, pb_X9_told_0, pb_X9_told_1, pb_X9_told_2, kd_59, rf_59_0, rf_59_1, rf_59_3, rf_59_4, rf_59_5, rf_59_6, rf_59_7, rf_59_12, rf_59_14, rf_59_15, rf_59_16, rf_59_19, rf_59_23, rf_59_24, rf_59_25, rf_59_26, is_9_59, kd_62, al_62, sr_isIn, bI_0, eq_true q, hix, hcl, iE k hk1 hk]
  · refine Pr_e (e := 1) (x := -1000000001) hI (by omega) (by omega) ?_ ?_
    · rw [en_X8_told]
      simp only [cs8_0, cs8_1, cs8_2, cs8_3, cs8_4, decide_eq_true_eq, ev_ald0, ev_aldn0, ev_cs3, ev_cv1, ev_go, ev_gr, ev_i, ev_ia, ev_if0, ev_ild1, ev_ri, i00, i01, i10, not_false_eq_true, not_true_eq_false, pm_bd_s, pm_tl_n, pm_tl_s, ↓reduceIte, pb_X8_told_0, pb_X8_told_1, pb_X8_told_2, kd_0, rf_0_0, rf_0_1, rf_0_2, rf_0_3, rf_0_4, rf_0_5, rf_0_6, rf_0_7, rf_0_8, is_8_0, kd_28, al_28, sp_isIn, bI_0, eq_false q, fail_1, F1]
    · rw [en_X9_told]
      simp only [cs8_0, cs8_1, cs8_2, cs8_3, cs8_4, decide_eq_true_eq, ev_ald0, ev_aldn0, ev_cs3, ev_cv1, ev_go, ev_gr, ev_i, ev_ia, ev_if0, ev_ild1, ev_ri, i00, i01, i10, not_false_eq_true, not_true_eq_false, pm_bd_s, pm_tl_n, pm_tl_s, ↓reduceIte, pb_X9_told_0, pb_X9_told_1, pb_X9_told_2, kd_59, rf_59_0, rf_59_1, rf_59_3, rf_59_4, rf_59_5, rf_59_6, rf_59_7, rf_59_12, rf_59_14, rf_59_15, rf_59_16, rf_59_19, rf_59_23, rf_59_24, rf_59_25, rf_59_26, is_9_59, kd_62, al_62, sr_isIn, bI_0, eq_false q, find_1]
set_option maxHeartbeats 2000000 in
theorem Inv_wait {n u nt nb nw : Nat} {v : Int32} (hI : Inv h) (iN : RN h 3 60 n u nt nb nw) (hw : nw < 24) : Inv (pm_si (pm_si (pm_si (pm_si h 7 3 (nI (nw + 1))) 35 nw v) 60 (292 + nw) v) 60 4 (nI (nw + 1))) := by
  obtain ⟨-, iZ, iM, iS, iT, iB, iW, iX, iY⟩ := hI.1
  refine Inv_now hI (now_si (now_si (now_si (now_si (fun _ _ _ => rfl) (by decide)) (by decide)) (by decide)) (by decide)) (R0_si (R0_si (R0_si (R0_si hI.2.2.2.2.2 (by omega)) (by omega)) (by omega)) (by omega)) ⟨⟨n, u, nt, nb, nw + 1, ?_⟩, RZ_t iZ ⟨(by repeat (rw [si_ne _ _ (by omega)])), (by repeat (rw [si_ne _ _ (by omega)])), (by repeat (rw [si_ne _ _ (by omega)]))⟩ (fun j _ _ => (by repeat (rw [si_ne _ _ (by omega)]))), RM_t iM (by funext b; simp only [si_at, Nat.reduceEqDiff, false_and, ↓reduceIte]) (fun j _ _ => (by repeat (rw [si_ne _ _ (by omega)]))), RS_t iS (by funext b; simp only [si_at, Nat.reduceEqDiff, false_and, ↓reduceIte]) (fun j _ _ => (by repeat (rw [si_ne _ _ (by omega)]))), RT_t iT (by funext b; simp only [si_at, Nat.reduceEqDiff, false_and, ↓reduceIte]) (fun j _ _ => (by repeat (rw [si_ne _ _ (by omega)]))), RB_t iB (by funext b; simp only [si_at, Nat.reduceEqDiff, false_and, ↓reduceIte]) (fun j _ _ => (by repeat (rw [si_ne _ _ (by omega)]))), ?_, RX_t iX (by repeat (rw [si_ne _ _ (by omega)])) (by funext b; simp only [si_at, Nat.reduceEqDiff, false_and, ↓reduceIte]) (fun j _ _ => (by repeat (rw [si_ne _ _ (by omega)]))), RX_t iY (by repeat (rw [si_ne _ _ (by omega)])) (by funext b; simp only [si_at, Nat.reduceEqDiff, false_and, ↓reduceIte]) (fun j _ _ => (by repeat (rw [si_ne _ _ (by omega)])))⟩
  · obtain ⟨⟨a1, a2, a3⟩, ⟨b1, b2, b3⟩, ⟨c1, c2, c3⟩, ⟨d1, d2, d3⟩, ⟨e1, e2, e3⟩⟩ := iN
    refine ⟨⟨?_, ?_, a3⟩, ⟨?_, ?_, b3⟩, ⟨?_, ?_, c3⟩, ⟨?_, ?_, d3⟩, ⟨?_, ?_, by omega⟩⟩
    · (repeat (first | rw [si_ne _ _ (by omega)] | rw [si_eq _ (by omega)])); exact a1
    · (repeat (first | rw [si_ne _ _ (by omega)] | rw [si_eq _ (by omega)])); exact a2
    · (repeat (first | rw [si_ne _ _ (by omega)] | rw [si_eq _ (by omega)])); exact b1
    · (repeat (first | rw [si_ne _ _ (by omega)] | rw [si_eq _ (by omega)])); exact b2
    · (repeat (first | rw [si_ne _ _ (by omega)] | rw [si_eq _ (by omega)])); exact c1
    · (repeat (first | rw [si_ne _ _ (by omega)] | rw [si_eq _ (by omega)])); exact c2
    · (repeat (first | rw [si_ne _ _ (by omega)] | rw [si_eq _ (by omega)])); exact d1
    · (repeat (first | rw [si_ne _ _ (by omega)] | rw [si_eq _ (by omega)])); exact d2
    · ((repeat (first | rw [si_ne _ _ (by omega)] | rw [si_eq _ (by omega)])))
    · ((repeat (first | rw [si_ne _ _ (by omega)] | rw [si_eq _ (by omega)])))
  · intro i hi
    by_cases q : i = nw
    · subst q
      ((repeat (first | rw [si_ne _ _ (by omega)] | rw [si_eq _ (by omega)])))
    · (repeat (first | rw [si_ne _ _ (by omega)] | rw [si_eq _ (by omega)])); exact iW i hi
theorem pr_tell (hI : Inv h) (v : Int32) : Pr fb (d + 100) n_X8_tell n_X9_tell [.int v] h := by
  obtain ⟨⟨n, u, nt, nb, nw, iN⟩, iZ, iM, iS, iT, iB, iW, iX, iY⟩ := id hI.1
  have hw := iN.2.2.2.2
  have h7 : h.1 7 3 = nI nw := hw.1
  have ix4 : pm_ix (4 : Int32) 440 = true := by decide
  have cl4 : (4 : Int32).toNatClampNeg = 4 := by decide
  have full7 : ∀ d, rs fb (d + 1) n_X6_isFull [.ref 7] h = some (some (.int (bI (nw = 24))), h) := by
    intro d
    have g := sp_isFull (fb := fb) (d := d) (t := 7) (h := h) (by decide) h7 (by rw [tR_7]; exact hw.2.2)
    simp only [tR_7] at g
    exact g
  by_cases q : nw = 24
  · have e24 : (nI nw = 24) = True := eq_true (by rw [q]; rfl)
    refine Pr_e (e := 4) (x := -1000000004) hI (by omega) (by omega) ?_ ?_
    · rw [en_X8_tell]
      simp only [cs8_0, cs8_1, cs8_2, cs8_3, cs8_4, decide_eq_true_eq, ev_ald0, ev_aldn0, ev_cv0, ev_cv1, ev_gr, ev_i, ev_if0, ev_ild1, ev_pop_i, ev_pop_r, ev_ri, i00, i01, i10, is_sw, not_false_eq_true, not_true_eq_false, pm_bd_s, pm_tl_n, pm_tl_s, ↓reduceIte, pb_X8_tell_0, pb_X8_tell_1, kd_0, rf_0_0, rf_0_1, rf_0_2, rf_0_3, rf_0_4, rf_0_5, rf_0_6, rf_0_7, rf_0_8, is_8_0, kd_1, rf_1_0, rf_1_1, rf_1_2, rf_1_3, rf_1_4, rf_1_5, rf_1_6, is_5_1, kd_7, rf_7_2, fc_7_0, fc_7_1, is_6_3_7, is_3_6_7, full7, bI_0, eq_true q, fail_4, F4]
    · have g4 : (pm_si h 28 4 (h.1 28 4 + 1)).1 60 4 = nI nw := (si_ne _ _ (by omega)).trans hw.2.1
      rw [en_X9_tell]
      simp only [cs8_0, cs8_1, cs8_2, cs8_3, cs8_4, decide_eq_true_eq, ev_ald0, ev_aldn0, ev_bin, ev_cv1, ev_dup2_ii, ev_dup2_ir, ev_gr, ev_i, ev_ia, ev_ias, ev_if2, ev_ild1, ev_ri, i00, i01, i10, not_false_eq_true, not_true_eq_false, pm_bd_s, pm_tl_n, pm_tl_s, ↓reduceIte, pb_X9_tell_0, pb_X9_tell_1, kd_59, rf_59_0, rf_59_1, rf_59_3, rf_59_4, rf_59_5, rf_59_6, rf_59_7, rf_59_12, rf_59_14, rf_59_15, rf_59_16, rf_59_19, rf_59_23, rf_59_24, rf_59_25, rf_59_26, is_9_59, kd_60, al_60, ix4, cl4, g4, e24, find_4]
  · have h24 : nw < 24 := by omega
    have e24 : (nI nw = 24) = False := eq_false (fun z => q ((nI_eq (a := nw) (b := 24) (by omega) (by omega)).mp z))
    have add7 : ∀ d, rs fb (d + 3) n_X6_add [.ref 7, .int v] h = some (some (.int (nI nw)), pm_si (pm_si h 7 3 (nI (nw + 1))) 35 nw v) := fun d => sp_add (t := 7) (by decide) h7 (by rw [tR_7]; exact h24)
    have z : (292 : Int32) + nI nw = nI (292 + nw) := by
      show nI 292 + nI nw = _
      rw [nI_add]
    have hix : pm_ix (nI (292 + nw)) 440 = true := pm_ix_n (by omega) (by omega)
    have hcl := nI_clamp (show 292 + nw < 2 ^ 31 by omega)
    have v1 : (4 = 292 + nw) = False := eq_false (by omega)
    refine ⟨nI (nw + 1), pm_si (pm_si h 7 3 (nI (nw + 1))) 35 nw v, _, ?_, ?_, Inv_wait (v := v) hI iN h24⟩
    · rw [en_X8_tell]
      simp only [cs8_0, cs8_1, cs8_2, cs8_3, cs8_4, decide_eq_true_eq, ev_ald0, ev_aldn0, ev_cv0, ev_cv1, ev_gr, ev_i, ev_if0, ev_ild1, ev_pop_i, ev_pop_r, ev_ri, i00, i01, i10, is_sw, not_false_eq_true, not_true_eq_false, pm_bd_s, pm_tl_n, pm_tl_s, ↓reduceIte, pb_X8_tell_0, pb_X8_tell_1, kd_0, rf_0_0, rf_0_1, rf_0_2, rf_0_3, rf_0_4, rf_0_5, rf_0_6, rf_0_7, rf_0_8, is_8_0, kd_1, rf_1_0, rf_1_1, rf_1_2, rf_1_3, rf_1_4, rf_1_5, rf_1_6, is_5_1, kd_7, rf_7_2, fc_7_0, fc_7_1, is_6_3_7, is_3_6_7, full7, bI_0, eq_false q, add7, sp_used, si_at, Nat.reduceEqDiff, false_and, and_self, ↓reduceIte]
    · have g4 : (pm_si (pm_si h 7 3 (nI (nw + 1))) 35 nw v).1 60 4 = nI nw := by rw [si_ne _ _ (by omega), si_ne _ _ (by omega)]; exact hw.2.1
      generalize pm_si (pm_si h 7 3 (nI (nw + 1))) 35 nw v = g at g4
      rw [en_X9_tell]
      simp only [cs8_0, cs8_1, cs8_2, cs8_3, cs8_4, decide_eq_true_eq, ev_ald0, ev_aldn0, ev_bin, ev_cv1, ev_dup2_ii, ev_dup2_ir, ev_gr, ev_i, ev_ia, ev_ias, ev_if2, ev_ild1, ev_ri, i00, i01, i10, not_false_eq_true, not_true_eq_false, pm_bd_s, pm_tl_n, pm_tl_s, ↓reduceIte, pb_X9_tell_0, pb_X9_tell_1, kd_59, rf_59_0, rf_59_1, rf_59_3, rf_59_4, rf_59_5, rf_59_6, rf_59_7, rf_59_12, rf_59_14, rf_59_15, rf_59_16, rf_59_19, rf_59_23, rf_59_24, rf_59_25, rf_59_26, is_9_59, kd_60, al_60, ix4, cl4, g4, e24, z, hix, hcl, si_at, v1, true_and, and_false, and_self, ↓reduceIte, nI_1]
end P6
