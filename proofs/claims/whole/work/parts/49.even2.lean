/-! PAIRS OF CALLS: even -/
section PJ
variable {fb : Bool} {d : Nat} {h : pm_HP}
set_option maxRecDepth 100000 in
theorem sr_even0 {k z : Nat} {y : Int32} (hk : k < 4) (hy : y = 0 ∨ y = 1) (hz : h.1 73 k = nI z) (hz2 : z ≤ 24) : pm_ev P_X9_even (rs fb (d + 2)) (P_X9_even 4) [some (.ref 59), some (.int (nI k)), some (.int y), some (.int 0), some (.int 0), some (.int 0), some (.int 0), some (.int 0), none, none] [] h = some (some (.int (fiE y (smA (pB4 h k) (fun _ => 1) 1 (z - 1) 0) (lgA (pB4 h k) 1 (z - 1) 0 0))), h) := by
  have xk : pm_ix (nI k) 4 = true := pm_ix_n hk (by omega)
  have ck := nI_clamp (show k < 2 ^ 31 by omega)
  by_cases z0 : z = 0
  · subst z0
    have e1 : nI 0 ≤ 0 := by decide
    have zz : 0 - 1 = 0 := rfl
    rw [zz]
    have z10 : ((1 : Int32) = 0) = False := by decide
    have z3 : ((0 : Int32) < 3) = True := by decide
    rw [pb_X9_even_4]
    rcases hy with rfl | rfl
    · simp only [c20, c2i, c2n, c2r, cs8_0, cs8_1, cs8_2, cs8_3, cs8_4, decide_eq_true_eq, ev_ald0, ev_aldn0, ev_bin, ev_cs1, ev_cs3, ev_cv1, ev_go, ev_gr, ev_i, ev_ia, ev_if0, ev_if2, ev_ild1, ev_ild2, ev_ild3, ev_ild4, ev_ild5, ev_ild6, ev_ild7, ev_ild8, ev_ild9, ev_inc7, ev_ist3, ev_ist4, ev_ist5, ev_ist6, ev_ist7, ev_ist8, ev_ist9, ev_m2, ev_ri, i00, i01, i10, not_false_eq_true, not_true_eq_false, pm_bd_s, pm_tl_n, pm_tl_s, ↓reduceIte, pb_X9_even_13, pb_X9_even_14, pb_X9_even_15, pb_X9_even_16, kd_59, rf_59_0, rf_59_1, rf_59_3, rf_59_4, rf_59_5, rf_59_6, rf_59_7, rf_59_12, rf_59_14, rf_59_15, rf_59_16, rf_59_19, rf_59_23, rf_59_24, rf_59_25, rf_59_26, is_9_59, kd_73, al_73, xk, ck, hz, e1, smA, lgA, fiE, not_true_eq_false, if_true, if_false]
    · simp only [c20, c2i, c2n, c2r, cs8_0, cs8_1, cs8_2, cs8_3, cs8_4, decide_eq_true_eq, ev_ald0, ev_aldn0, ev_bin, ev_cs1, ev_cs3, ev_cv1, ev_go, ev_gr, ev_i, ev_ia, ev_if0, ev_if2, ev_ild1, ev_ild2, ev_ild3, ev_ild4, ev_ild5, ev_ild6, ev_ild7, ev_ild8, ev_ild9, ev_inc7, ev_ist3, ev_ist4, ev_ist5, ev_ist6, ev_ist7, ev_ist8, ev_ist9, ev_m2, ev_ri, i00, i01, i10, not_false_eq_true, not_true_eq_false, pm_bd_s, pm_tl_n, pm_tl_s, ↓reduceIte, pb_X9_even_13, pb_X9_even_14, pb_X9_even_15, pb_X9_even_16, kd_59, rf_59_0, rf_59_1, rf_59_3, rf_59_4, rf_59_5, rf_59_6, rf_59_7, rf_59_12, rf_59_14, rf_59_15, rf_59_16, rf_59_19, rf_59_23, rf_59_24, rf_59_25, rf_59_26, is_9_59, kd_73, al_73, xk, ck, hz, e1, smA, lgA, fiE, z10, z3, not_false_eq_true, if_true, if_false]
  · have e1 : ¬ nI z ≤ 0 := nI_ge (a := 0) (by omega) (by omega)
    have e : (24 : Int32) * nI k + 0 = nI (24 * k + 0) := by
      show nI 24 * nI k + nI 0 = _
      rw [nI_mul, nI_add]
    have x1 : pm_ix (nI (24 * k + 0)) 96 = true := pm_ix_n (by omega) (by omega)
    have c1 := nI_clamp (show 24 * k + 0 < 2 ^ 31 by omega)
    have le0 : ((0 : Int32) ≤ 0) = True := by decide
    have lt0 : ((0 : Int32) < 0) = False := by decide
    have z00 : (0 : Int32) + 0 = 0 := by decide
    have z01 : (0 : Int32) + 1 = nI (0 + 1) := by decide
    have es : h.1 74 (24 * k + 0) - 0 = sp4 h k 0 := rfl
    have r := lp_even (fb := fb) (d := d) hk hy hz hz2 (z - 1) 0 0 0 0 (some (.int 0)) (some (.int 0)) (by omega) rfl rfl
    rw [Nat.zero_add] at r
    rw [pb_X9_even_4, ← r]
    simp only [c20, c2i, c2n, c2r, cs8_0, cs8_1, cs8_2, cs8_3, cs8_4, decide_eq_true_eq, ev_ald0, ev_aldn0, ev_bin, ev_cs1, ev_cs3, ev_cv1, ev_go, ev_gr, ev_i, ev_ia, ev_if0, ev_if2, ev_ild1, ev_ild2, ev_ild3, ev_ild4, ev_ild5, ev_ild6, ev_ild7, ev_ild8, ev_ild9, ev_inc7, ev_ist3, ev_ist4, ev_ist5, ev_ist6, ev_ist7, ev_ist8, ev_ist9, ev_m2, ev_ri, i00, i01, i10, not_false_eq_true, not_true_eq_false, pm_bd_s, pm_tl_n, pm_tl_s, ↓reduceIte, pb_X9_even_5, pb_X9_even_6, pb_X9_even_7, pb_X9_even_8, pb_X9_even_9, pb_X9_even_10, pb_X9_even_11, pb_X9_even_12, kd_59, rf_59_0, rf_59_1, rf_59_3, rf_59_4, rf_59_5, rf_59_6, rf_59_7, rf_59_12, rf_59_14, rf_59_15, rf_59_16, rf_59_19, rf_59_23, rf_59_24, rf_59_25, rf_59_26, is_9_59, kd_73, al_73, kd_74, al_74, xk, ck, hz, e1, e, x1, c1, le0, lt0, z00, z01, es, not_true_eq_false, if_true, if_false]
theorem pr_even (hI : Inv h) (x y : Int32) : Pr fb (d + 100) n_X8_even n_X9_even [.int x, .int y] h := by
  by_cases q1 : 0 ≤ x ∧ x ≤ 3
  · obtain ⟨k, hk, rfl⟩ := k_of q1
    obtain ⟨f1, f2, f3, f4, f5⟩ := sh_facts k hk
    obtain ⟨z, g1, g2, g3, g4, g5, g6⟩ := hI.2.2.2.2.1 k hk
    have xk : pm_ix (nI k) 4 = true := pm_ix_n hk (by omega)
    have ck := nI_clamp (show k < 2 ^ 31 by omega)
    have q1' := eq_true q1
    by_cases q2 : 0 ≤ y ∧ y ≤ 1
    · have q2' := eq_true q2
      by_cases w0 : h.1 72 k = 0
      · have w0' : (h.1 (23 + k) 1 = 0) = True := eq_true (by rw [g4]; exact w0)
        have w2 : (pm_si h 28 2 (h.1 28 2 + 1)).1 72 k = 0 := w0
        refine Pr_e (e := 2) (x := -1000000002) hI (by omega) (by omega) ?_ ?_
        · rw [en_X8_even]
          simp only [c20, c2i, c2n, c2r, cs8_0, cs8_1, cs8_2, cs8_3, cs8_4, decide_eq_true_eq, ev_ald0, ev_ald3, ev_aldn0, ev_aldn3, ev_ast3, ev_astn3, ev_cs3, ev_cv0, ev_cv1, ev_go, ev_i, ev_if0, ev_if2, ev_ifn_0, ev_ifn_1, ev_ifn_2, ev_ifn_3, ev_ild1, ev_ild2, ev_ri, i00, i01, i10, not_false_eq_true, not_true_eq_false, pm_bd_s, pm_tl_n, pm_tl_s, ↓reduceIte, pb_X8_even_0, pb_X8_even_1, pb_X8_even_2, pb_X8_even_3, pb_X8_even_4, pb_X8_even_5, pb_X8_even_6, kd_0, rf_0_0, rf_0_1, rf_0_2, rf_0_3, rf_0_4, rf_0_5, rf_0_6, rf_0_7, rf_0_8, is_8_0, f1, sp_sheetOf hk, sp_isIn, sp_isMissing hk, bI_0, bI_n0, q2', w0', not_true_eq_false, if_true, if_false, fail_2, F2]
        · rw [en_X9_even]
          simp only [c20, c2i, c2n, c2r, cs8_0, cs8_1, cs8_2, cs8_3, cs8_4, decide_eq_true_eq, ev_ald0, ev_aldn0, ev_bin, ev_cs1, ev_cs3, ev_cv1, ev_go, ev_gr, ev_i, ev_ia, ev_if0, ev_if2, ev_ild1, ev_ild2, ev_ild3, ev_ild4, ev_ild5, ev_ild6, ev_ild7, ev_ild8, ev_ild9, ev_inc7, ev_ist3, ev_ist4, ev_ist5, ev_ist6, ev_ist7, ev_ist8, ev_ist9, ev_m2, ev_ri, i00, i01, i10, not_false_eq_true, not_true_eq_false, pm_bd_s, pm_tl_n, pm_tl_s, ↓reduceIte, pb_X9_even_0, pb_X9_even_1, pb_X9_even_2, kd_59, rf_59_0, rf_59_1, rf_59_3, rf_59_4, rf_59_5, rf_59_6, rf_59_7, rf_59_12, rf_59_14, rf_59_15, rf_59_16, rf_59_19, rf_59_23, rf_59_24, rf_59_25, rf_59_26, is_9_59, kd_72, al_72, sr_isSheet, sr_isIn, bI_0, bI_n0, q1', q2', xk, ck, w2, not_true_eq_false, if_true, if_false, find_2]
      · have w0' : (h.1 (23 + k) 1 = 0) = False := eq_false (by rw [g4]; exact w0)
        have eA : smA (evB h k) (fun _ => 1) 1 (z - 1) 0 = smA (pB4 h k) (fun _ => 1) 1 (z - 1) 0 := smA_congr _ _ _ (fun s h1 h2 => ⟨ev_eq g2 g1 g6 h1 (by omega), rfl⟩)
        have eL : lgA (evB h k) 1 (z - 1) 0 0 = lgA (pB4 h k) 1 (z - 1) 0 0 := lgA_congr _ _ _ _ (fun s h1 h2 => ev_eq g2 g1 g6 h1 (by omega))
        have sE := sp_evens (fb := fb) (d := d + 94) hk g2 g1
        have sL := sp_longest (fb := fb) (d := d + 94) hk g2 g1
        rw [eA] at sE
        rw [eL] at sL
        have hy := b01 q2
        refine ⟨fiE y (smA (pB4 h k) (fun _ => 1) 1 (z - 1) 0) (lgA (pB4 h k) 1 (z - 1) 0 0), h, h, ?_, ?_, hI⟩
        · rw [en_X8_even]
          unfold fiE
          rcases hy with rfl | rfl
          · simp only [c20, c2i, c2n, c2r, cs8_0, cs8_1, cs8_2, cs8_3, cs8_4, decide_eq_true_eq, ev_ald0, ev_ald3, ev_aldn0, ev_aldn3, ev_ast3, ev_astn3, ev_cs3, ev_cv0, ev_cv1, ev_go, ev_i, ev_if0, ev_if2, ev_ifn_0, ev_ifn_1, ev_ifn_2, ev_ifn_3, ev_ild1, ev_ild2, ev_ri, i00, i01, i10, not_false_eq_true, not_true_eq_false, pm_bd_s, pm_tl_n, pm_tl_s, ↓reduceIte, pb_X8_even_0, pb_X8_even_1, pb_X8_even_2, pb_X8_even_3, pb_X8_even_4, pb_X8_even_5, pb_X8_even_6, kd_0, rf_0_0, rf_0_1, rf_0_2, rf_0_3, rf_0_4, rf_0_5, rf_0_6, rf_0_7, rf_0_8, is_8_0, f1, sp_sheetOf hk, sp_isIn, sp_isMissing hk, bI_0, bI_n0, q2', w0', not_true_eq_false, not_false_eq_true, if_true, if_false, sE]
          · have z10 : ((1 : Int32) = 0) = False := by decide
            by_cases q : lgA (pB4 h k) 1 (z - 1) 0 0 < 3
            · simp only [c20, c2i, c2n, c2r, cs8_0, cs8_1, cs8_2, cs8_3, cs8_4, decide_eq_true_eq, ev_ald0, ev_ald3, ev_aldn0, ev_aldn3, ev_ast3, ev_astn3, ev_cs3, ev_cv0, ev_cv1, ev_go, ev_i, ev_if0, ev_if2, ev_ifn_0, ev_ifn_1, ev_ifn_2, ev_ifn_3, ev_ild1, ev_ild2, ev_ri, i00, i01, i10, not_false_eq_true, not_true_eq_false, pm_bd_s, pm_tl_n, pm_tl_s, ↓reduceIte, pb_X8_even_0, pb_X8_even_1, pb_X8_even_2, pb_X8_even_3, pb_X8_even_4, pb_X8_even_5, pb_X8_even_6, kd_0, rf_0_0, rf_0_1, rf_0_2, rf_0_3, rf_0_4, rf_0_5, rf_0_6, rf_0_7, rf_0_8, is_8_0, f1, sp_sheetOf hk, sp_isIn, sp_isMissing hk, bI_0, bI_n0, q2', w0', z10, not_true_eq_false, not_false_eq_true, if_true, if_false, sL, q]
            · simp only [c20, c2i, c2n, c2r, cs8_0, cs8_1, cs8_2, cs8_3, cs8_4, decide_eq_true_eq, ev_ald0, ev_ald3, ev_aldn0, ev_aldn3, ev_ast3, ev_astn3, ev_cs3, ev_cv0, ev_cv1, ev_go, ev_i, ev_if0, ev_if2, ev_ifn_0, ev_ifn_1, ev_ifn_2, ev_ifn_3, ev_ild1, ev_ild2, ev_ri, i00, i01, i10, not_false_eq_true, not_true_eq_false, pm_bd_s, pm_tl_n, pm_tl_s, ↓reduceIte, pb_X8_even_0, pb_X8_even_1, pb_X8_even_2, pb_X8_even_3, pb_X8_even_4, pb_X8_even_5, pb_X8_even_6, kd_0, rf_0_0, rf_0_1, rf_0_2, rf_0_3, rf_0_4, rf_0_5, rf_0_6, rf_0_7, rf_0_8, is_8_0, f1, sp_sheetOf hk, sp_isIn, sp_isMissing hk, bI_0, bI_n0, q2', w0', z10, not_true_eq_false, not_false_eq_true, if_true, if_false, sL, q]
        · have r := sr_even0 (fb := fb) (d := d + 97) hk hy g3 g1
          rw [en_X9_even]
          simp only [c20, c2i, c2n, c2r, cs8_0, cs8_1, cs8_2, cs8_3, cs8_4, decide_eq_true_eq, ev_ald0, ev_aldn0, ev_bin, ev_cs1, ev_cs3, ev_cv1, ev_go, ev_gr, ev_i, ev_ia, ev_if0, ev_if2, ev_ild1, ev_ild2, ev_ild3, ev_ild4, ev_ild5, ev_ild6, ev_ild7, ev_ild8, ev_ild9, ev_inc7, ev_ist3, ev_ist4, ev_ist5, ev_ist6, ev_ist7, ev_ist8, ev_ist9, ev_m2, ev_ri, i00, i01, i10, not_false_eq_true, not_true_eq_false, pm_bd_s, pm_tl_n, pm_tl_s, ↓reduceIte, pb_X9_even_0, pb_X9_even_1, pb_X9_even_2, pb_X9_even_3, kd_59, rf_59_0, rf_59_1, rf_59_3, rf_59_4, rf_59_5, rf_59_6, rf_59_7, rf_59_12, rf_59_14, rf_59_15, rf_59_16, rf_59_19, rf_59_23, rf_59_24, rf_59_25, rf_59_26, is_9_59, kd_72, al_72, sr_isSheet, sr_isIn, bI_0, bI_n0, q1', q2', xk, ck, w0, not_true_eq_false, not_false_eq_true, if_true, if_false]
          exact r
    · refine Pr_e (e := 1) (x := -1000000001) hI (by omega) (by omega) ?_ ?_
      · rw [en_X8_even]
        simp only [c20, c2i, c2n, c2r, cs8_0, cs8_1, cs8_2, cs8_3, cs8_4, decide_eq_true_eq, ev_ald0, ev_ald3, ev_aldn0, ev_aldn3, ev_ast3, ev_astn3, ev_cs3, ev_cv0, ev_cv1, ev_go, ev_i, ev_if0, ev_if2, ev_ifn_0, ev_ifn_1, ev_ifn_2, ev_ifn_3, ev_ild1, ev_ild2, ev_ri, i00, i01, i10, not_false_eq_true, not_true_eq_false, pm_bd_s, pm_tl_n, pm_tl_s, ↓reduceIte, pb_X8_even_0, pb_X8_even_1, pb_X8_even_2, pb_X8_even_3, pb_X8_even_4, pb_X8_even_5, pb_X8_even_6, kd_0, rf_0_0, rf_0_1, rf_0_2, rf_0_3, rf_0_4, rf_0_5, rf_0_6, rf_0_7, rf_0_8, is_8_0, f1, sp_sheetOf hk, sp_isIn, bI_0, bI_n0, eq_false q2, not_true_eq_false, if_true, if_false, fail_1, F1]
      · rw [en_X9_even]
        simp only [c20, c2i, c2n, c2r, cs8_0, cs8_1, cs8_2, cs8_3, cs8_4, decide_eq_true_eq, ev_ald0, ev_aldn0, ev_bin, ev_cs1, ev_cs3, ev_cv1, ev_go, ev_gr, ev_i, ev_ia, ev_if0, ev_if2, ev_ild1, ev_ild2, ev_ild3, ev_ild4, ev_ild5, ev_ild6, ev_ild7, ev_ild8, ev_ild9, ev_inc7, ev_ist3, ev_ist4, ev_ist5, ev_ist6, ev_ist7, ev_ist8, ev_ist9, ev_m2, ev_ri, i00, i01, i10, not_false_eq_true, not_true_eq_false, pm_bd_s, pm_tl_n, pm_tl_s, ↓reduceIte, pb_X9_even_0, pb_X9_even_1, kd_59, rf_59_0, rf_59_1, rf_59_3, rf_59_4, rf_59_5, rf_59_6, rf_59_7, rf_59_12, rf_59_14, rf_59_15, rf_59_16, rf_59_19, rf_59_23, rf_59_24, rf_59_25, rf_59_26, is_9_59, sr_isSheet, sr_isIn, bI_0, bI_n0, q1', eq_false q2, not_true_eq_false, if_true, if_false, find_1]
  · refine Pr_e (e := 1) (x := -1000000001) hI (by omega) (by omega) ?_ ?_
    · rw [en_X8_even]
      simp only [c20, c2i, c2n, c2r, cs8_0, cs8_1, cs8_2, cs8_3, cs8_4, decide_eq_true_eq, ev_ald0, ev_ald3, ev_aldn0, ev_aldn3, ev_ast3, ev_astn3, ev_cs3, ev_cv0, ev_cv1, ev_go, ev_i, ev_if0, ev_if2, ev_ifn_0, ev_ifn_1, ev_ifn_2, ev_ifn_3, ev_ild1, ev_ild2, ev_ri, i00, i01, i10, not_false_eq_true, not_true_eq_false, pm_bd_s, pm_tl_n, pm_tl_s, ↓reduceIte, pb_X8_even_0, pb_X8_even_1, pb_X8_even_2, pb_X8_even_3, pb_X8_even_4, pb_X8_even_5, pb_X8_even_6, kd_0, rf_0_0, rf_0_1, rf_0_2, rf_0_3, rf_0_4, rf_0_5, rf_0_6, rf_0_7, rf_0_8, is_8_0, sp_sheetOfN q1, fail_1, F1]
    · rw [en_X9_even]
      simp only [c20, c2i, c2n, c2r, cs8_0, cs8_1, cs8_2, cs8_3, cs8_4, decide_eq_true_eq, ev_ald0, ev_aldn0, ev_bin, ev_cs1, ev_cs3, ev_cv1, ev_go, ev_gr, ev_i, ev_ia, ev_if0, ev_if2, ev_ild1, ev_ild2, ev_ild3, ev_ild4, ev_ild5, ev_ild6, ev_ild7, ev_ild8, ev_ild9, ev_inc7, ev_ist3, ev_ist4, ev_ist5, ev_ist6, ev_ist7, ev_ist8, ev_ist9, ev_m2, ev_ri, i00, i01, i10, not_false_eq_true, not_true_eq_false, pm_bd_s, pm_tl_n, pm_tl_s, ↓reduceIte, pb_X9_even_0, pb_X9_even_1, kd_59, rf_59_0, rf_59_1, rf_59_3, rf_59_4, rf_59_5, rf_59_6, rf_59_7, rf_59_12, rf_59_14, rf_59_15, rf_59_16, rf_59_19, rf_59_23, rf_59_24, rf_59_25, rf_59_26, is_9_59, sr_isSheet, bI_0, bI_n0, eq_false q1, not_false_eq_true, if_true, find_1]
end PJ
