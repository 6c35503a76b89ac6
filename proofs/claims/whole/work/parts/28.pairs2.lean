/-! PAIRS OF CALLS: stone, slipIs, turn, slip -/
theorem Inv_stone {h : pm_HP} {x y : Int32} (hI : Inv h) : Inv (pm_si (pm_si (pm_si (pm_si h 1 7 x) 1 8 y) 60 6 x) 60 7 y) := by
  obtain ⟨⟨n, u, nt, nb, nw, iN⟩, iZ, iM, iS, iT, iB, iW, iX, iY⟩ := hI.1
  refine Inv_now hI (now_si (now_si (now_si (now_si (fun _ _ _ => rfl) (by decide)) (by decide)) (by decide)) (by decide)) (R0_si (R0_si (R0_si (R0_si hI.2.2.2.2.2 (by omega)) (by omega)) (by omega)) (by omega)) ⟨⟨n, u, nt, nb, nw, RN_t iN (fun k hk => (by rw [si_ne _ _ (by omega), si_ne _ _ (by omega), si_ne _ _ (by omega), si_ne _ _ (by omega)])) (fun j _ => (by rw [si_ne _ _ (by omega), si_ne _ _ (by omega), si_ne _ _ (by omega), si_ne _ _ (by omega)]))⟩, ?_, RM_t iM (by funext b; simp only [si_at, Nat.reduceEqDiff, false_and, ↓reduceIte]) (fun j _ _ => (by rw [si_ne _ _ (by omega), si_ne _ _ (by omega), si_ne _ _ (by omega), si_ne _ _ (by omega)])), RS_t iS (by funext b; simp only [si_at, Nat.reduceEqDiff, false_and, ↓reduceIte]) (fun j _ _ => (by rw [si_ne _ _ (by omega), si_ne _ _ (by omega), si_ne _ _ (by omega), si_ne _ _ (by omega)])), RT_t iT (by funext b; simp only [si_at, Nat.reduceEqDiff, false_and, ↓reduceIte]) (fun j _ _ => (by rw [si_ne _ _ (by omega), si_ne _ _ (by omega), si_ne _ _ (by omega), si_ne _ _ (by omega)])), RB_t iB (by funext b; simp only [si_at, Nat.reduceEqDiff, false_and, ↓reduceIte]) (fun j _ _ => (by rw [si_ne _ _ (by omega), si_ne _ _ (by omega), si_ne _ _ (by omega), si_ne _ _ (by omega)])), RW_t iW (by funext b; simp only [si_at, Nat.reduceEqDiff, false_and, ↓reduceIte]) (fun j _ _ => (by rw [si_ne _ _ (by omega), si_ne _ _ (by omega), si_ne _ _ (by omega), si_ne _ _ (by omega)])), RX_t iX (by simp only [si_at, Nat.reduceEqDiff, false_and, true_and, ↓reduceIte]; repeat (rw [if_neg (by omega)])) (by funext b; simp only [si_at, Nat.reduceEqDiff, false_and, ↓reduceIte]) (fun j _ _ => (by rw [si_ne _ _ (by omega), si_ne _ _ (by omega), si_ne _ _ (by omega), si_ne _ _ (by omega)])), RX_t iY (by simp only [si_at, Nat.reduceEqDiff, false_and, true_and, ↓reduceIte]; repeat (rw [if_neg (by omega)])) (by funext b; simp only [si_at, Nat.reduceEqDiff, false_and, ↓reduceIte]) (fun j _ _ => (by rw [si_ne _ _ (by omega), si_ne _ _ (by omega), si_ne _ _ (by omega), si_ne _ _ (by omega)]))⟩
  unfold RZ
  simp only [si_at, Nat.reduceEqDiff, false_and, and_false, and_self, and_true, ↓reduceIte]
  exact iZ.1
theorem Inv_on {h : pm_HP} {s : Nat} {v : Int32} (hI : Inv h) (hs : s < 8) (hv : v = 0 ∨ v = 1) : Inv (pm_si (pm_si h 32 (4 * 8 + s) v) 60 (128 + 5 * s + 4) v) := by
  obtain ⟨⟨n, u, nt, nb, nw, iN⟩, iZ, iM, iS, iT, iB, iW, iX, iY⟩ := hI.1
  refine Inv_now hI (now_si (now_si (fun _ _ _ => rfl) (by decide)) (by decide)) (R0_si (R0_si hI.2.2.2.2.2 (by omega)) (by omega)) ⟨⟨n, u, nt, nb, nw, RN_t iN (fun k hk => (by rw [si_ne _ _ (by omega), si_ne _ _ (by omega)])) (fun j _ => (by rw [si_ne _ _ (by omega), si_ne _ _ (by omega)]))⟩, RZ_t iZ ⟨(by rw [si_ne _ _ (by omega), si_ne _ _ (by omega)]), (by rw [si_ne _ _ (by omega), si_ne _ _ (by omega)]), (by rw [si_ne _ _ (by omega), si_ne _ _ (by omega)])⟩ (fun j _ _ => (by rw [si_ne _ _ (by omega), si_ne _ _ (by omega)])), RM_t iM (by funext b; simp only [si_at, Nat.reduceEqDiff, false_and, ↓reduceIte]) (fun j _ _ => (by rw [si_ne _ _ (by omega), si_ne _ _ (by omega)])), ?_, RT_t iT (by funext b; simp only [si_at, Nat.reduceEqDiff, false_and, ↓reduceIte]) (fun j _ _ => (by rw [si_ne _ _ (by omega), si_ne _ _ (by omega)])), RB_t iB (by funext b; simp only [si_at, Nat.reduceEqDiff, false_and, ↓reduceIte]) (fun j _ _ => (by rw [si_ne _ _ (by omega), si_ne _ _ (by omega)])), RW_t iW (by funext b; simp only [si_at, Nat.reduceEqDiff, false_and, ↓reduceIte]) (fun j _ _ => (by rw [si_ne _ _ (by omega), si_ne _ _ (by omega)])), RX_t iX (by rw [si_ne _ _ (by omega), si_ne _ _ (by omega)]) (by funext b; simp only [si_at, Nat.reduceEqDiff, false_and, ↓reduceIte]) (fun j _ _ => (by rw [si_ne _ _ (by omega), si_ne _ _ (by omega)])), RX_t iY (by rw [si_ne _ _ (by omega), si_ne _ _ (by omega)]) (by funext b; simp only [si_at, Nat.reduceEqDiff, false_and, ↓reduceIte]) (fun j _ _ => (by rw [si_ne _ _ (by omega), si_ne _ _ (by omega)]))⟩
  intro i' hi'
  by_cases q : i' = s
  · subst q
    refine ⟨fun c' hc' => ?_, ?_⟩
    · by_cases qc : c' = 4
      · subst qc
        rw [si_ne _ _ (by omega), si_same, si_same]
      · rw [si_ne _ _ (by omega), si_ne _ _ (by omega), si_ne _ _ (by omega), si_ne _ _ (by omega)]
        exact (iS i' hi').1 c' hc'
    · obtain ⟨-, b0, b1, b2, b3, b4, b5⟩ := iS i' hi'
      refine ⟨?_, ?_, ?_, ?_, ?_, ?_⟩
      · rw [si_ne _ _ (by omega), si_ne _ _ (by omega)]; exact b0
      · rw [si_ne _ _ (by omega), si_ne _ _ (by omega)]; exact b1
      · rw [si_ne _ _ (by omega), si_ne _ _ (by omega), si_ne _ _ (by omega), si_ne _ _ (by omega)]; exact b2
      · rw [si_ne _ _ (by omega), si_ne _ _ (by omega)]; exact b3
      · rw [si_ne _ _ (by omega), si_ne _ _ (by omega)]; exact b4
      · rw [si_same]; exact hv
  · refine ⟨fun c' hc' => ?_, ?_⟩
    · rw [si_ne _ _ (by omega), si_ne _ _ (by omega), si_ne _ _ (by omega), si_ne _ _ (by omega)]
      exact (iS i' hi').1 c' hc'
    · obtain ⟨-, b0, b1, b2, b3, b4, b5⟩ := iS i' hi'
      refine ⟨?_, ?_, ?_, ?_, ?_, ?_⟩
      · rw [si_ne _ _ (by omega), si_ne _ _ (by omega)]; exact b0
      · rw [si_ne _ _ (by omega), si_ne _ _ (by omega)]; exact b1
      · rw [si_ne _ _ (by omega), si_ne _ _ (by omega), si_ne _ _ (by omega), si_ne _ _ (by omega)]; exact b2
      · rw [si_ne _ _ (by omega), si_ne _ _ (by omega)]; exact b3
      · rw [si_ne _ _ (by omega), si_ne _ _ (by omega)]; exact b4
      · rw [si_ne _ _ (by omega), si_ne _ _ (by omega)]; exact b5
section P3
variable {fb : Bool} {d : Nat} {h : pm_HP}
theorem has_4 {u : Nat} {v : Int32} (hu : h.1 4 3 = nI u) (hu2 : u ≤ 60) : rs fb (d + 2) n_X6_has [.ref 4, .int v] h = some (some (.int (bI (0 ≤ v ∧ v < nI u))), h) := sp_has (by decide) hu hu2
theorem has_5 {u : Nat} {v : Int32} (hu : h.1 5 3 = nI u) (hu2 : u ≤ 60) : rs fb (d + 2) n_X6_has [.ref 5, .int v] h = some (some (.int (bI (0 ≤ v ∧ v < nI u))), h) := sp_has (by decide) hu hu2
theorem i_lt {v : Int32} {u : Nat} (hu : u ≤ 60) (hv : 0 ≤ v ∧ v < nI u) : ∃ s, s < u ∧ v = nI s := by
  obtain ⟨j, hj, rfl⟩ := nI_of (Int32.not_lt.mpr hv.1)
  exact ⟨j, (nI_ltI hj (by omega)).mp hv.2, rfl⟩
theorem pr_stone (hI : Inv h) (x y : Int32) : Pr fb (d + 100) n_X8_stone n_X9_stone [.int x, .int y] h := by
  have ix6 : pm_ix (6 : Int32) 440 = true := by decide
  have cl6 : (6 : Int32).toNatClampNeg = 6 := by decide
  have ix7 : pm_ix (7 : Int32) 440 = true := by decide
  have cl7 : (7 : Int32).toNatClampNeg = 7 := by decide
  by_cases q1 : -9999 ≤ x ∧ x ≤ 9999
  · by_cases q2 : 0 ≤ y ∧ y ≤ 99999
    · refine ⟨1, pm_si (pm_si h 1 7 x) 1 8 y, _, ?_, ?_, Inv_stone (x := x) (y := y) hI⟩
      · rw [en_X8_stone]
        simp only [cs8_0, cs8_1, cs8_2, cs8_3, cs8_4, decide_eq_true_eq, ev_ald0, ev_aldn0, ev_cs3, ev_cv1, ev_go, ev_gr, ev_i, ev_if0, ev_ild1, ev_ild2, ev_pi, ev_ri, i00, i01, i10, not_false_eq_true, not_true_eq_false, pm_bd_s, pm_tl_n, pm_tl_s, ↓reduceIte, pb_X8_stone_0, pb_X8_stone_1, pb_X8_stone_2, kd_0, rf_0_0, rf_0_1, rf_0_2, rf_0_3, rf_0_4, rf_0_5, rf_0_6, rf_0_7, rf_0_8, is_8_0, kd_1, rf_1_0, rf_1_1, rf_1_2, rf_1_3, rf_1_4, rf_1_5, rf_1_6, is_5_1, sp_isIn, bI_0, bI_n0, eq_true q1, eq_true q2]
      · rw [en_X9_stone]
        simp only [cs8_0, cs8_1, cs8_2, cs8_3, cs8_4, decide_eq_true_eq, ev_ald0, ev_aldn0, ev_cs3, ev_cv1, ev_go, ev_gr, ev_i, ev_ias, ev_if0, ev_ild1, ev_ild2, ev_ri, i00, i01, i10, not_false_eq_true, not_true_eq_false, pm_bd_s, pm_tl_n, pm_tl_s, ↓reduceIte, pb_X9_stone_0, pb_X9_stone_1, pb_X9_stone_2, kd_59, rf_59_0, rf_59_1, rf_59_3, rf_59_4, rf_59_5, rf_59_6, rf_59_7, rf_59_12, rf_59_14, rf_59_15, rf_59_16, rf_59_19, rf_59_23, rf_59_24, rf_59_25, rf_59_26, is_9_59, kd_60, al_60, sr_isIn, bI_0, bI_n0, eq_true q1, eq_true q2, ix6, ix7, cl6, cl7]
    · refine Pr_e (e := 1) (x := -1000000001) hI (by omega) (by omega) ?_ ?_
      · rw [en_X8_stone]
        simp only [cs8_0, cs8_1, cs8_2, cs8_3, cs8_4, decide_eq_true_eq, ev_ald0, ev_aldn0, ev_cs3, ev_cv1, ev_go, ev_gr, ev_i, ev_if0, ev_ild1, ev_ild2, ev_pi, ev_ri, i00, i01, i10, not_false_eq_true, not_true_eq_false, pm_bd_s, pm_tl_n, pm_tl_s, ↓reduceIte, pb_X8_stone_0, pb_X8_stone_1, pb_X8_stone_2, kd_0, rf_0_0, rf_0_1, rf_0_2, rf_0_3, rf_0_4, rf_0_5, rf_0_6, rf_0_7, rf_0_8, is_8_0, kd_1, rf_1_0, rf_1_1, rf_1_2, rf_1_3, rf_1_4, rf_1_5, rf_1_6, is_5_1, sp_isIn, bI_0, bI_n0, eq_true q1, eq_false q2, fail_1, F1]
      · rw [en_X9_stone]
        simp only [cs8_0, cs8_1, cs8_2, cs8_3, cs8_4, decide_eq_true_eq, ev_ald0, ev_aldn0, ev_cs3, ev_cv1, ev_go, ev_gr, ev_i, ev_ias, ev_if0, ev_ild1, ev_ild2, ev_ri, i00, i01, i10, not_false_eq_true, not_true_eq_false, pm_bd_s, pm_tl_n, pm_tl_s, ↓reduceIte, pb_X9_stone_0, pb_X9_stone_1, pb_X9_stone_2, kd_59, rf_59_0, rf_59_1, rf_59_3, rf_59_4, rf_59_5, rf_59_6, rf_59_7, rf_59_12, rf_59_14, rf_59_15, rf_59_16, rf_59_19, rf_59_23, rf_59_24, rf_59_25, rf_59_26, is_9_59, kd_60, al_60, sr_isIn, bI_0, bI_n0, eq_true q1, eq_false q2, find_1]
  · refine Pr_e (e := 1) (x := -1000000001) hI (by omega) (by omega) ?_ ?_
    · rw [en_X8_stone]
      simp only [cs8_0, cs8_1, cs8_2, cs8_3, cs8_4, decide_eq_true_eq, ev_ald0, ev_aldn0, ev_cs3, ev_cv1, ev_go, ev_gr, ev_i, ev_if0, ev_ild1, ev_ild2, ev_pi, ev_ri, i00, i01, i10, not_false_eq_true, not_true_eq_false, pm_bd_s, pm_tl_n, pm_tl_s, ↓reduceIte, pb_X8_stone_0, pb_X8_stone_1, pb_X8_stone_2, kd_0, rf_0_0, rf_0_1, rf_0_2, rf_0_3, rf_0_4, rf_0_5, rf_0_6, rf_0_7, rf_0_8, is_8_0, kd_1, rf_1_0, rf_1_1, rf_1_2, rf_1_3, rf_1_4, rf_1_5, rf_1_6, is_5_1, sp_isIn, bI_0, bI_n0, eq_false q1, fail_1, F1]
    · rw [en_X9_stone]
      simp only [cs8_0, cs8_1, cs8_2, cs8_3, cs8_4, decide_eq_true_eq, ev_ald0, ev_aldn0, ev_cs3, ev_cv1, ev_go, ev_gr, ev_i, ev_ias, ev_if0, ev_ild1, ev_ild2, ev_ri, i00, i01, i10, not_false_eq_true, not_true_eq_false, pm_bd_s, pm_tl_n, pm_tl_s, ↓reduceIte, pb_X9_stone_0, pb_X9_stone_1, pb_X9_stone_2, kd_59, rf_59_0, rf_59_1, rf_59_3, rf_59_4, rf_59_5, rf_59_6, rf_59_7, rf_59_12, rf_59_14, rf_59_15, rf_59_16, rf_59_19, rf_59_23, rf_59_24, rf_59_25, rf_59_26, is_9_59, kd_60, al_60, sr_isIn, bI_0, bI_n0, eq_false q1, find_1]
theorem pr_slipIs (hI : Inv h) (x y : Int32) : Pr fb (d + 100) n_X8_slipIs n_X9_slipIs [.int x, .int y] h := by
  obtain ⟨⟨n, u, nt, nb, nw, iN⟩, iZ, iM, iS, iT, iB, iW, iX, iY⟩ := id hI.1
  have hu := iN.2.1
  have hc4 : h.1 4 3 = nI u := hu.1
  by_cases q1 : 0 ≤ x ∧ x < nI u
  · by_cases q2 : 0 ≤ y ∧ y ≤ 4
    · obtain ⟨s, hs, rfl⟩ := i_lt (by omega) q1
      obtain ⟨c, hc, rfl⟩ := nI_of2 (M := 4) (n := 4) (by decide) (Int32.not_lt.mpr q2.1) q2.2
      have hs8 : s < 8 := by omega
      refine ⟨sl h c s, h, h, ?_, ?_, hI⟩
      · rw [en_X8_slipIs]
        simp only [cs8_0, cs8_1, cs8_2, cs8_3, cs8_4, decide_eq_true_eq, ev_ald0, ev_aldn0, ev_cs3, ev_cv1, ev_cv2, ev_go, ev_gr, ev_i, ev_if0, ev_ild1, ev_ild2, ev_ri, i00, i01, i10, not_false_eq_true, not_true_eq_false, pm_bd_s, pm_tl_n, pm_tl_s, ↓reduceIte, pb_X8_slipIs_0, pb_X8_slipIs_1, pb_X8_slipIs_2, kd_0, rf_0_0, rf_0_1, rf_0_2, rf_0_3, rf_0_4, rf_0_5, rf_0_6, rf_0_7, rf_0_8, is_8_0, kd_1, rf_1_0, rf_1_1, rf_1_2, rf_1_3, rf_1_4, rf_1_5, rf_1_6, is_5_1, kd_4, rf_4_2, fc_4_0, fc_4_1, is_6_3_4, is_3_6_4, is_3_4, has_4 hc4 (show u ≤ 60 by omega), sp_isIn, bI_0, bI_n0, eq_true q1, eq_true q2, at_4 (show c < 5 by omega) hs8]
      · rw [en_X9_slipIs]
        simp only [cs8_0, cs8_1, cs8_2, cs8_3, cs8_4, decide_eq_true_eq, ev_ald0, ev_aldn0, ev_cs3, ev_cv1, ev_cv2, ev_go, ev_i, ev_if0, ev_ild1, ev_ild2, ev_ri, i00, i01, i10, not_false_eq_true, not_true_eq_false, pm_bd_s, pm_tl_n, pm_tl_s, ↓reduceIte, pb_X9_slipIs_0, pb_X9_slipIs_1, pb_X9_slipIs_2, kd_59, rf_59_0, rf_59_1, rf_59_3, rf_59_4, rf_59_5, rf_59_6, rf_59_7, rf_59_12, rf_59_14, rf_59_15, rf_59_16, rf_59_19, rf_59_23, rf_59_24, rf_59_25, rf_59_26, is_9_59, sr_is1 hu.2.1 (show u ≤ 24 by omega), sr_isIn, bI_0, bI_n0, eq_true q1, eq_true q2, rl_r (show c < 5 by omega) hs8]
        unfold sl rl
        rw [← (iS s hs8).1 c (by omega)]
    · refine Pr_e (e := 1) (x := -1000000001) hI (by omega) (by omega) ?_ ?_
      · rw [en_X8_slipIs]
        simp only [cs8_0, cs8_1, cs8_2, cs8_3, cs8_4, decide_eq_true_eq, ev_ald0, ev_aldn0, ev_cs3, ev_cv1, ev_cv2, ev_go, ev_gr, ev_i, ev_if0, ev_ild1, ev_ild2, ev_ri, i00, i01, i10, not_false_eq_true, not_true_eq_false, pm_bd_s, pm_tl_n, pm_tl_s, ↓reduceIte, pb_X8_slipIs_0, pb_X8_slipIs_1, pb_X8_slipIs_2, kd_0, rf_0_0, rf_0_1, rf_0_2, rf_0_3, rf_0_4, rf_0_5, rf_0_6, rf_0_7, rf_0_8, is_8_0, kd_1, rf_1_0, rf_1_1, rf_1_2, rf_1_3, rf_1_4, rf_1_5, rf_1_6, is_5_1, kd_4, rf_4_2, fc_4_0, fc_4_1, is_6_3_4, is_3_6_4, is_3_4, has_4 hc4 (show u ≤ 60 by omega), sp_isIn, bI_0, bI_n0, eq_true q1, eq_false q2, fail_1, F1]
      · rw [en_X9_slipIs]
        simp only [cs8_0, cs8_1, cs8_2, cs8_3, cs8_4, decide_eq_true_eq, ev_ald0, ev_aldn0, ev_cs3, ev_cv1, ev_cv2, ev_go, ev_i, ev_if0, ev_ild1, ev_ild2, ev_ri, i00, i01, i10, not_false_eq_true, not_true_eq_false, pm_bd_s, pm_tl_n, pm_tl_s, ↓reduceIte, pb_X9_slipIs_0, pb_X9_slipIs_1, pb_X9_slipIs_2, kd_59, rf_59_0, rf_59_1, rf_59_3, rf_59_4, rf_59_5, rf_59_6, rf_59_7, rf_59_12, rf_59_14, rf_59_15, rf_59_16, rf_59_19, rf_59_23, rf_59_24, rf_59_25, rf_59_26, is_9_59, sr_is1 (((si_ne (a := 28) (k := 1) (b := 60) (j := 1) h (h.1 28 1 + 1) (by omega)).trans (hu.2.1))) (show u ≤ 24 by omega), sr_isIn, bI_0, bI_n0, eq_true q1, eq_false q2, find_1]
  · refine Pr_e (e := 1) (x := -1000000001) hI (by omega) (by omega) ?_ ?_
    · rw [en_X8_slipIs]
      simp only [cs8_0, cs8_1, cs8_2, cs8_3, cs8_4, decide_eq_true_eq, ev_ald0, ev_aldn0, ev_cs3, ev_cv1, ev_cv2, ev_go, ev_gr, ev_i, ev_if0, ev_ild1, ev_ild2, ev_ri, i00, i01, i10, not_false_eq_true, not_true_eq_false, pm_bd_s, pm_tl_n, pm_tl_s, ↓reduceIte, pb_X8_slipIs_0, pb_X8_slipIs_1, pb_X8_slipIs_2, kd_0, rf_0_0, rf_0_1, rf_0_2, rf_0_3, rf_0_4, rf_0_5, rf_0_6, rf_0_7, rf_0_8, is_8_0, kd_1, rf_1_0, rf_1_1, rf_1_2, rf_1_3, rf_1_4, rf_1_5, rf_1_6, is_5_1, kd_4, rf_4_2, fc_4_0, fc_4_1, is_6_3_4, is_3_6_4, is_3_4, has_4 hc4 (show u ≤ 60 by omega), sp_isIn, bI_0, bI_n0, eq_false q1, fail_1, F1]
    · rw [en_X9_slipIs]
      simp only [cs8_0, cs8_1, cs8_2, cs8_3, cs8_4, decide_eq_true_eq, ev_ald0, ev_aldn0, ev_cs3, ev_cv1, ev_cv2, ev_go, ev_i, ev_if0, ev_ild1, ev_ild2, ev_ri, i00, i01, i10, not_false_eq_true, not_true_eq_false, pm_bd_s, pm_tl_n, pm_tl_s, ↓reduceIte, pb_X9_slipIs_0, pb_X9_slipIs_1, pb_X9_slipIs_2, kd_59, rf_59_0, rf_59_1, rf_59_3, rf_59_4, rf_59_5, rf_59_6, rf_59_7, rf_59_12, rf_59_14, rf_59_15, rf_59_16, rf_59_19, rf_59_23, rf_59_24, rf_59_25, rf_59_26, is_9_59, sr_is1 (((si_ne (a := 28) (k := 1) (b := 60) (j := 1) h (h.1 28 1 + 1) (by omega)).trans (hu.2.1))) (show u ≤ 24 by omega), sr_isIn, bI_0, bI_n0, eq_false q1, find_1]
theorem pr_turn (hI : Inv h) (x y : Int32) : Pr fb (d + 100) n_X8_turn n_X9_turn [.int x, .int y] h := by
  obtain ⟨⟨n, u, nt, nb, nw, iN⟩, iZ, iM, iS, iT, iB, iW, iX, iY⟩ := id hI.1
  have hu := iN.2.1
  have hc4 : h.1 4 3 = nI u := hu.1
  by_cases q1 : 0 ≤ x ∧ x < nI u
  · by_cases q2 : 0 ≤ y ∧ y ≤ 1
    · obtain ⟨s, hs, rfl⟩ := i_lt (by omega) q1
      have hs8 : s < 8 := by omega
      have e : (128 : Int32) + 5 * nI s + 4 = nI (128 + 5 * s + 4) := by
        show nI 128 + nI 5 * nI s + nI 4 = _
        rw [nI_mul, nI_add, nI_add]
      refine ⟨sl h 4 s, pm_si h 32 (4 * 8 + s) y, _, ?_, ?_, Inv_on (v := y) hI hs8 (b01 q2)⟩
      · rw [en_X8_turn]
        simp only [c20, c2i, c2n, c2r, cs8_0, cs8_1, cs8_2, cs8_3, cs8_4, decide_eq_true_eq, ev_ald0, ev_aldn0, ev_cs3, ev_cv1, ev_cv2, ev_cv3, ev_go, ev_gr, ev_i, ev_if0, ev_ild1, ev_ild2, ev_ild3, ev_ist3, ev_ri, i00, i01, i10, not_false_eq_true, not_true_eq_false, pm_bd_s, pm_tl_n, pm_tl_s, ↓reduceIte, pb_X8_turn_0, pb_X8_turn_1, pb_X8_turn_2, kd_0, rf_0_0, rf_0_1, rf_0_2, rf_0_3, rf_0_4, rf_0_5, rf_0_6, rf_0_7, rf_0_8, is_8_0, kd_1, rf_1_0, rf_1_1, rf_1_2, rf_1_3, rf_1_4, rf_1_5, rf_1_6, is_5_1, kd_4, rf_4_2, fc_4_0, fc_4_1, is_6_3_4, is_3_6_4, is_3_4, has_4 hc4 (show u ≤ 60 by omega), sp_isIn, bI_0, bI_n0, eq_true q1, eq_true q2, at_4_4 hs8, set_4_4 hs8]
      · rw [en_X9_turn]
        simp only [cs8_0, cs8_1, cs8_2, cs8_3, cs8_4, decide_eq_true_eq, ev_ald0, ev_aldn0, ev_bin, ev_cs3, ev_cv1, ev_cv2, ev_go, ev_i, ev_if0, ev_ild1, ev_ild2, ev_ri, i00, i01, i10, not_false_eq_true, not_true_eq_false, pm_bd_s, pm_tl_n, pm_tl_s, ↓reduceIte, pb_X9_turn_0, pb_X9_turn_1, pb_X9_turn_2, kd_59, rf_59_0, rf_59_1, rf_59_3, rf_59_4, rf_59_5, rf_59_6, rf_59_7, rf_59_12, rf_59_14, rf_59_15, rf_59_16, rf_59_19, rf_59_23, rf_59_24, rf_59_25, rf_59_26, is_9_59, sr_is1 (((si_ne (a := 32) (k := 4 * 8 + s) (b := 60) (j := 1) h (y) (by omega)).trans (hu.2.1))) (show u ≤ 24 by omega), sr_isIn, bI_0, bI_n0, eq_true q1, eq_true q2, e, sr_become (show 128 + 5 * s + 4 < 440 by omega), si_at, Nat.reduceEqDiff, false_and]
        unfold sl
        rw [← (iS s hs8).1 4 (by omega)]
    · refine Pr_e (e := 1) (x := -1000000001) hI (by omega) (by omega) ?_ ?_
      · rw [en_X8_turn]
        simp only [c20, c2i, c2n, c2r, cs8_0, cs8_1, cs8_2, cs8_3, cs8_4, decide_eq_true_eq, ev_ald0, ev_aldn0, ev_cs3, ev_cv1, ev_cv2, ev_cv3, ev_go, ev_gr, ev_i, ev_if0, ev_ild1, ev_ild2, ev_ild3, ev_ist3, ev_ri, i00, i01, i10, not_false_eq_true, not_true_eq_false, pm_bd_s, pm_tl_n, pm_tl_s, ↓reduceIte, pb_X8_turn_0, pb_X8_turn_1, pb_X8_turn_2, kd_0, rf_0_0, rf_0_1, rf_0_2, rf_0_3, rf_0_4, rf_0_5, rf_0_6, rf_0_7, rf_0_8, is_8_0, kd_1, rf_1_0, rf_1_1, rf_1_2, rf_1_3, rf_1_4, rf_1_5, rf_1_6, is_5_1, kd_4, rf_4_2, fc_4_0, fc_4_1, is_6_3_4, is_3_6_4, is_3_4, has_4 hc4 (show u ≤ 60 by omega), sp_isIn, bI_0, bI_n0, eq_true q1, eq_false q2, fail_1, F1]
      · rw [en_X9_turn]
        simp only [cs8_0, cs8_1, cs8_2, cs8_3, cs8_4, decide_eq_true_eq, ev_ald0, ev_aldn0, ev_bin, ev_cs3, ev_cv1, ev_cv2, ev_go, ev_i, ev_if0, ev_ild1, ev_ild2, ev_ri, i00, i01, i10, not_false_eq_true, not_true_eq_false, pm_bd_s, pm_tl_n, pm_tl_s, ↓reduceIte, pb_X9_turn_0, pb_X9_turn_1, pb_X9_turn_2, kd_59, rf_59_0, rf_59_1, rf_59_3, rf_59_4, rf_59_5, rf_59_6, rf_59_7, rf_59_12, rf_59_14, rf_59_15, rf_59_16, rf_59_19, rf_59_23, rf_59_24, rf_59_25, rf_59_26, is_9_59, sr_is1 (((si_ne (a := 28) (k := 1) (b := 60) (j := 1) h (h.1 28 1 + 1) (by omega)).trans (hu.2.1))) (show u ≤ 24 by omega), sr_isIn, bI_0, bI_n0, eq_true q1, eq_false q2, find_1]
  · refine Pr_e (e := 1) (x := -1000000001) hI (by omega) (by omega) ?_ ?_
    · rw [en_X8_turn]
      simp only [c20, c2i, c2n, c2r, cs8_0, cs8_1, cs8_2, cs8_3, cs8_4, decide_eq_true_eq, ev_ald0, ev_aldn0, ev_cs3, ev_cv1, ev_cv2, ev_cv3, ev_go, ev_gr, ev_i, ev_if0, ev_ild1, ev_ild2, ev_ild3, ev_ist3, ev_ri, i00, i01, i10, not_false_eq_true, not_true_eq_false, pm_bd_s, pm_tl_n, pm_tl_s, ↓reduceIte, pb_X8_turn_0, pb_X8_turn_1, pb_X8_turn_2, kd_0, rf_0_0, rf_0_1, rf_0_2, rf_0_3, rf_0_4, rf_0_5, rf_0_6, rf_0_7, rf_0_8, is_8_0, kd_1, rf_1_0, rf_1_1, rf_1_2, rf_1_3, rf_1_4, rf_1_5, rf_1_6, is_5_1, kd_4, rf_4_2, fc_4_0, fc_4_1, is_6_3_4, is_3_6_4, is_3_4, has_4 hc4 (show u ≤ 60 by omega), sp_isIn, bI_0, bI_n0, eq_false q1, fail_1, F1]
    · rw [en_X9_turn]
      simp only [cs8_0, cs8_1, cs8_2, cs8_3, cs8_4, decide_eq_true_eq, ev_ald0, ev_aldn0, ev_bin, ev_cs3, ev_cv1, ev_cv2, ev_go, ev_i, ev_if0, ev_ild1, ev_ild2, ev_ri, i00, i01, i10, not_false_eq_true, not_true_eq_false, pm_bd_s, pm_tl_n, pm_tl_s, ↓reduceIte, pb_X9_turn_0, pb_X9_turn_1, pb_X9_turn_2, kd_59, rf_59_0, rf_59_1, rf_59_3, rf_59_4, rf_59_5, rf_59_6, rf_59_7, rf_59_12, rf_59_14, rf_59_15, rf_59_16, rf_59_19, rf_59_23, rf_59_24, rf_59_25, rf_59_26, is_9_59, sr_is1 (((si_ne (a := 28) (k := 1) (b := 60) (j := 1) h (h.1 28 1 + 1) (by omega)).trans (hu.2.1))) (show u ≤ 24 by omega), sr_isIn, bI_0, bI_n0, eq_false q1, find_1]
end P3
