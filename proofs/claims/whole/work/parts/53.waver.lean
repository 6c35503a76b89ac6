/-! PAIRS OF CALLS: judge, waver -/
def jgB (N S : Nat → Int32) (n : Nat) (e : Int32) (i : Nat) : Bool := decide (i < n ∧ lg_cmp (ab64 ((N i).toInt64 - (S (i + 1)).toInt64)) e.toInt64 ≤ 0)
def jgA (N S : Nat → Int32) (n : Nat) (e : Int32) : Nat → Nat → Int32
  | _, 0 => 0
  | i, k + 1 => if jgB N S n e i = true then jgA N S n e (i + 1) k else nI (i + 1)
section PO
variable {fb : Bool} {d : Nat} {h : pm_HP}
set_option maxRecDepth 100000 in
theorem lp_judgeC {n k z : Nat} {S : Nat → Int32} {x e : Int32} (hk : k < 4) (hn3 : h.1 3 3 = nI n) (h7 : h.1 17 7 = nI n) (hn : n ≤ 24) (hS : ∀ j, j ≤ n → h.1 52 j = S j) (hz : h.1 (23 + k) 2 = nI z) (hz2 : z ≤ 24) (hr : ∀ i, i < 24 → h.1 (48 + k) i = h.1 74 (24 * k + i)) : ∀ (m i : Nat) (p : Option Value), i + m = z → pm_ev P_X8_judge (rs fb (d + 2)) (P_X8_judge 4) [some (.ref 0), some (.int x), some (.int e), some (.ref (23 + k)), some (.int (nI i)), p] [] h = some (some (.int (jgA (fun i => h.1 74 (24 * k + i)) S n e i m)), h) := by
  obtain ⟨f1, f2, f3, f4, f5⟩ := sh_facts k hk
  have a64 : ∀ x : Int64, (if 0 < x then x else -x) = ab64 x := fun _ => rfl
  intro m
  induction m with
  | zero =>
    intro i p hi
    have e1 : nI z ≤ nI i := nI_le (by omega) (by omega)
    rw [pb_X8_judge_4]
    simp only [c20, c2i, c2n, c2r, cs8_0, cs8_1, cs8_2, cs8_3, cs8_4, decide_eq_true_eq, ev_ald0, ev_ald3, ev_aldn0, ev_aldn3, ev_ast3, ev_astn3, ev_bin, ev_cs3, ev_cv0, ev_cv1, ev_cv2, ev_gi, ev_go, ev_gr, ev_i, ev_i2l, ev_if0, ev_if2, ev_ifn_0, ev_ifn_1, ev_ifn_2, ev_ifn_3, ev_ild1, ev_ild2, ev_ild4, ev_ild5, ev_inc4, ev_ist4, ev_ist5, ev_lbin, ev_lcmp, ev_ml, ev_ri, i00, i01, i10, is_sw, not_false_eq_true, not_true_eq_false, pm_bd_s, pm_tl_n, pm_tl_s, ↓reduceIte, pb_X8_judge_7, f1, hz, e1, jgA, if_true]
  | succ m ih =>
    intro i p hi
    have e1 : ¬ nI z ≤ nI i := nI_ge (by omega) (by omega)
    have nu := sp_number (fb := fb) (d := d) (h := h) (i := nI i) hk hz hz2
    rw [nu_eq hz hz2 hr (show i < z by omega)] at nu
    rw [pb_X8_judge_4, jgA]
    by_cases q : i < n
    · have e2 : ¬ nI n < nI (i + 1) := nI_nlt (by omega) (by omega)
      have s1 := sp_sideOf (fb := fb) (d := d) (h := h) (j := i + 1) h7 hn (by omega)
      rw [hS (i + 1) (by omega)] at s1
      by_cases c : lg_cmp (ab64 ((h.1 74 (24 * k + i)).toInt64 - (S (i + 1)).toInt64)) e.toInt64 ≤ 0
      · have eb : jgB (fun i => h.1 74 (24 * k + i)) S n e i = true := by unfold jgB; simp [q, c]
        simp only [c20, c2i, c2n, c2r, cs8_0, cs8_1, cs8_2, cs8_3, cs8_4, decide_eq_true_eq, ev_ald0, ev_ald3, ev_aldn0, ev_aldn3, ev_ast3, ev_astn3, ev_bin, ev_cs3, ev_cv0, ev_cv1, ev_cv2, ev_gi, ev_go, ev_gr, ev_i, ev_i2l, ev_if0, ev_if2, ev_ifn_0, ev_ifn_1, ev_ifn_2, ev_ifn_3, ev_ild1, ev_ild2, ev_ild4, ev_ild5, ev_inc4, ev_ist4, ev_ist5, ev_lbin, ev_lcmp, ev_ml, ev_ri, i00, i01, i10, is_sw, not_false_eq_true, not_true_eq_false, pm_bd_s, pm_tl_n, pm_tl_s, ↓reduceIte, pb_X8_judge_5, pb_X8_judge_6, kd_0, rf_0_0, rf_0_1, rf_0_2, rf_0_3, rf_0_4, rf_0_5, rf_0_6, rf_0_7, rf_0_8, is_8_0, kd_1, rf_1_0, rf_1_1, rf_1_2, rf_1_3, rf_1_4, rf_1_5, rf_1_6, is_5_1, kd_3, rf_3_2, fc_3_0, fc_3_1, is_6_3_3, is_3_6_3, kd_17, rf_17_0, rf_17_1, rf_17_2, rf_17_3, rf_17_4, rf_17_5, rf_17_6, is_7_17, f1, hz, e1, e2, nI_1, sp_used, hn3, nu, s1, a64, c, eb, if_true, if_false]
        exact ih (i + 1) _ (by omega)
      · have eb : jgB (fun i => h.1 74 (24 * k + i)) S n e i = false := by unfold jgB; simp [c]
        simp only [c20, c2i, c2n, c2r, cs8_0, cs8_1, cs8_2, cs8_3, cs8_4, decide_eq_true_eq, ev_ald0, ev_ald3, ev_aldn0, ev_aldn3, ev_ast3, ev_astn3, ev_bin, ev_cs3, ev_cv0, ev_cv1, ev_cv2, ev_gi, ev_go, ev_gr, ev_i, ev_i2l, ev_if0, ev_if2, ev_ifn_0, ev_ifn_1, ev_ifn_2, ev_ifn_3, ev_ild1, ev_ild2, ev_ild4, ev_ild5, ev_inc4, ev_ist4, ev_ist5, ev_lbin, ev_lcmp, ev_ml, ev_ri, i00, i01, i10, is_sw, not_false_eq_true, not_true_eq_false, pm_bd_s, pm_tl_n, pm_tl_s, ↓reduceIte, pb_X8_judge_5, pb_X8_judge_6, kd_0, rf_0_0, rf_0_1, rf_0_2, rf_0_3, rf_0_4, rf_0_5, rf_0_6, rf_0_7, rf_0_8, is_8_0, kd_1, rf_1_0, rf_1_1, rf_1_2, rf_1_3, rf_1_4, rf_1_5, rf_1_6, is_5_1, kd_3, rf_3_2, fc_3_0, fc_3_1, is_6_3_3, is_3_6_3, kd_17, rf_17_0, rf_17_1, rf_17_2, rf_17_3, rf_17_4, rf_17_5, rf_17_6, is_7_17, f1, hz, e1, e2, nI_1, sp_used, hn3, nu, s1, a64, c, eb, Bool.false_eq_true, if_true, if_false]
    · have e2 : nI n < nI (i + 1) := nI_lt (by omega) (by omega)
      have eb : jgB (fun i => h.1 74 (24 * k + i)) S n e i = false := by unfold jgB; simp [q]
      simp only [c20, c2i, c2n, c2r, cs8_0, cs8_1, cs8_2, cs8_3, cs8_4, decide_eq_true_eq, ev_ald0, ev_ald3, ev_aldn0, ev_aldn3, ev_ast3, ev_astn3, ev_bin, ev_cs3, ev_cv0, ev_cv1, ev_cv2, ev_gi, ev_go, ev_gr, ev_i, ev_i2l, ev_if0, ev_if2, ev_ifn_0, ev_ifn_1, ev_ifn_2, ev_ifn_3, ev_ild1, ev_ild2, ev_ild4, ev_ild5, ev_inc4, ev_ist4, ev_ist5, ev_lbin, ev_lcmp, ev_ml, ev_ri, i00, i01, i10, is_sw, not_false_eq_true, not_true_eq_false, pm_bd_s, pm_tl_n, pm_tl_s, ↓reduceIte, pb_X8_judge_5, pb_X8_judge_6, kd_0, rf_0_0, rf_0_1, rf_0_2, rf_0_3, rf_0_4, rf_0_5, rf_0_6, rf_0_7, rf_0_8, is_8_0, kd_1, rf_1_0, rf_1_1, rf_1_2, rf_1_3, rf_1_4, rf_1_5, rf_1_6, is_5_1, kd_3, rf_3_2, fc_3_0, fc_3_1, is_6_3_3, is_3_6_3, kd_17, rf_17_0, rf_17_1, rf_17_2, rf_17_3, rf_17_4, rf_17_5, rf_17_6, is_7_17, f1, hz, e1, e2, nI_1, sp_used, hn3, eb, Bool.false_eq_true, if_true, if_false]
set_option maxRecDepth 100000 in
theorem lp_judgeR {n k z : Nat} {N S : Nat → Int32} {e : Int32} (hk : k < 4) (hn0 : h.1 60 0 = nI n) (hn : n ≤ 24) (hS : ∀ j, j ≤ n → h.1 63 j = S j) (hz : h.1 73 k = nI z) (hz2 : z ≤ 24) (hN : ∀ i, i < 24 → h.1 74 (24 * k + i) = N i) : ∀ (m i : Nat), i + m = z → pm_ev P_X9_judge (rs fb (d + 2)) (P_X9_judge 4) [some (.ref 59), some (.int (nI k)), some (.int e), some (.int (nI i))] [] h = some (some (.int (jgA N S n e i m)), h) := by
  have a64 : ∀ x : Int64, (if 0 < x then x else -x) = ab64 x := fun _ => rfl
  have ix0 : pm_ix (0 : Int32) 440 = true := by decide
  have cl0 : (0 : Int32).toNatClampNeg = 0 := by decide
  have xk : pm_ix (nI k) 4 = true := pm_ix_n hk (by omega)
  have ck := nI_clamp (show k < 2 ^ 31 by omega)
  intro m
  induction m with
  | zero =>
    intro i hi
    have e1 : nI z ≤ nI i := nI_le (by omega) (by omega)
    rw [pb_X9_judge_4]
    simp only [c20, c2i, c2n, c2r, cs8_0, cs8_1, cs8_2, cs8_3, cs8_4, decide_eq_true_eq, ev_ald0, ev_aldn0, ev_bin, ev_cs1, ev_cs3, ev_cv0, ev_cv1, ev_go, ev_gr, ev_i, ev_i2l, ev_ia, ev_if0, ev_if2, ev_ild1, ev_ild2, ev_ild3, ev_inc3, ev_ist3, ev_lbin, ev_lcmp, ev_ml, ev_ri, i00, i01, i10, not_false_eq_true, not_true_eq_false, pm_bd_s, pm_tl_n, pm_tl_s, ↓reduceIte, pb_X9_judge_7, kd_59, rf_59_0, rf_59_1, rf_59_3, rf_59_4, rf_59_5, rf_59_6, rf_59_7, rf_59_12, rf_59_14, rf_59_15, rf_59_16, rf_59_19, rf_59_23, rf_59_24, rf_59_25, rf_59_26, is_9_59, kd_73, al_73, xk, ck, hz, e1, jgA, if_true]
  | succ m ih =>
    intro i hi
    have e1 : ¬ nI z ≤ nI i := nI_ge (by omega) (by omega)
    have ee : (24 : Int32) * nI k + nI i = nI (24 * k + i) := by
      show nI 24 * nI k + nI i = _
      rw [nI_mul, nI_add]
    have x1 : pm_ix (nI (24 * k + i)) 96 = true := pm_ix_n (by omega) (by omega)
    have c1 := nI_clamp (show 24 * k + i < 2 ^ 31 by omega)
    have hN' := hN i (by omega)
    rw [pb_X9_judge_4, jgA]
    by_cases q : i < n
    · have e2 : ¬ nI n ≤ nI i := nI_ge (by omega) (by omega)
      have x2 : pm_ix (nI (i + 1)) 25 = true := pm_ix_n (by omega) (by omega)
      have c2 := nI_clamp (show i + 1 < 2 ^ 31 by omega)
      have hS' := hS (i + 1) (by omega)
      by_cases c : lg_cmp (ab64 ((N i).toInt64 - (S (i + 1)).toInt64)) e.toInt64 ≤ 0
      · have eb : jgB N S n e i = true := by unfold jgB; simp [q, c]
        simp only [c20, c2i, c2n, c2r, cs8_0, cs8_1, cs8_2, cs8_3, cs8_4, decide_eq_true_eq, ev_ald0, ev_aldn0, ev_bin, ev_cs1, ev_cs3, ev_cv0, ev_cv1, ev_go, ev_gr, ev_i, ev_i2l, ev_ia, ev_if0, ev_if2, ev_ild1, ev_ild2, ev_ild3, ev_inc3, ev_ist3, ev_lbin, ev_lcmp, ev_ml, ev_ri, i00, i01, i10, not_false_eq_true, not_true_eq_false, pm_bd_s, pm_tl_n, pm_tl_s, ↓reduceIte, pb_X9_judge_5, pb_X9_judge_6, kd_59, rf_59_0, rf_59_1, rf_59_3, rf_59_4, rf_59_5, rf_59_6, rf_59_7, rf_59_12, rf_59_14, rf_59_15, rf_59_16, rf_59_19, rf_59_23, rf_59_24, rf_59_25, rf_59_26, is_9_59, kd_60, al_60, kd_63, al_63, kd_73, al_73, kd_74, al_74, ix0, cl0, xk, ck, hn0, hz, e1, e2, ee, x1, c1, x2, c2, nI_1, hN', hS', a64, c, eb, if_true, if_false]
        exact ih (i + 1) (by omega)
      · have eb : jgB N S n e i = false := by unfold jgB; simp [c]
        simp only [c20, c2i, c2n, c2r, cs8_0, cs8_1, cs8_2, cs8_3, cs8_4, decide_eq_true_eq, ev_ald0, ev_aldn0, ev_bin, ev_cs1, ev_cs3, ev_cv0, ev_cv1, ev_go, ev_gr, ev_i, ev_i2l, ev_ia, ev_if0, ev_if2, ev_ild1, ev_ild2, ev_ild3, ev_inc3, ev_ist3, ev_lbin, ev_lcmp, ev_ml, ev_ri, i00, i01, i10, not_false_eq_true, not_true_eq_false, pm_bd_s, pm_tl_n, pm_tl_s, ↓reduceIte, pb_X9_judge_5, pb_X9_judge_6, kd_59, rf_59_0, rf_59_1, rf_59_3, rf_59_4, rf_59_5, rf_59_6, rf_59_7, rf_59_12, rf_59_14, rf_59_15, rf_59_16, rf_59_19, rf_59_23, rf_59_24, rf_59_25, rf_59_26, is_9_59, kd_60, al_60, kd_63, al_63, kd_73, al_73, kd_74, al_74, ix0, cl0, xk, ck, hn0, hz, e1, e2, ee, x1, c1, x2, c2, nI_1, hN', hS', a64, c, eb, Bool.false_eq_true, if_true, if_false]
    · have e2 : nI n ≤ nI i := nI_le (by omega) (by omega)
      have eb : jgB N S n e i = false := by unfold jgB; simp [q]
      simp only [c20, c2i, c2n, c2r, cs8_0, cs8_1, cs8_2, cs8_3, cs8_4, decide_eq_true_eq, ev_ald0, ev_aldn0, ev_bin, ev_cs1, ev_cs3, ev_cv0, ev_cv1, ev_go, ev_gr, ev_i, ev_i2l, ev_ia, ev_if0, ev_if2, ev_ild1, ev_ild2, ev_ild3, ev_inc3, ev_ist3, ev_lbin, ev_lcmp, ev_ml, ev_ri, i00, i01, i10, not_false_eq_true, not_true_eq_false, pm_bd_s, pm_tl_n, pm_tl_s, ↓reduceIte, pb_X9_judge_5, pb_X9_judge_6, kd_59, rf_59_0, rf_59_1, rf_59_3, rf_59_4, rf_59_5, rf_59_6, rf_59_7, rf_59_12, rf_59_14, rf_59_15, rf_59_16, rf_59_19, rf_59_23, rf_59_24, rf_59_25, rf_59_26, is_9_59, kd_60, al_60, kd_63, al_63, kd_73, al_73, kd_74, al_74, ix0, cl0, xk, ck, hn0, hz, e1, e2, nI_1, eb, Bool.false_eq_true, if_true, if_false]
theorem pr_judge (hI : Inv h) (x y : Int32) : Pr fb (d + 100) n_X8_judge n_X9_judge [.int x, .int y] h := by
  obtain ⟨⟨n, u, nt, nb, nw, iN⟩, iZ, iM, iS, iT, iB, iW, iX, iY⟩ := id hI.1
  by_cases q1 : 0 ≤ x ∧ x ≤ 3
  · obtain ⟨k, hk, rfl⟩ := k_of q1
    obtain ⟨f1, f2, f3, f4, f5⟩ := sh_facts k hk
    have xk : pm_ix (nI k) 4 = true := pm_ix_n hk (by omega)
    have ck := nI_clamp (show k < 2 ^ 31 by omega)
    have q1' := eq_true q1
    by_cases q2 : 0 ≤ y ∧ y ≤ 9999
    · have q2' := eq_true q2
      by_cases w0 : h.1 72 k = 0
      · have w0' : (h.1 (23 + k) 1 = 0) = True := eq_true (by
          obtain ⟨z, g1, g2, g3, g4, g5, g6⟩ := hI.2.2.2.2.1 k hk
          rw [g4]; exact w0)
        have w2 : (pm_si h 28 2 (h.1 28 2 + 1)).1 72 k = 0 := w0
        refine Pr_e (e := 2) (x := -1000000002) hI (by omega) (by omega) ?_ ?_
        · rw [en_X8_judge]
          simp only [c20, c2i, c2n, c2r, cs8_0, cs8_1, cs8_2, cs8_3, cs8_4, decide_eq_true_eq, ev_ald0, ev_ald3, ev_aldn0, ev_aldn3, ev_ast3, ev_astn3, ev_bin, ev_cs3, ev_cv0, ev_cv1, ev_cv2, ev_gi, ev_go, ev_gr, ev_i, ev_i2l, ev_if0, ev_if2, ev_ifn_0, ev_ifn_1, ev_ifn_2, ev_ifn_3, ev_ild1, ev_ild2, ev_ild4, ev_ild5, ev_inc4, ev_ist4, ev_ist5, ev_lbin, ev_lcmp, ev_ml, ev_ri, i00, i01, i10, is_sw, not_false_eq_true, not_true_eq_false, pm_bd_s, pm_tl_n, pm_tl_s, ↓reduceIte, pb_X8_judge_0, pb_X8_judge_1, pb_X8_judge_2, kd_0, rf_0_0, rf_0_1, rf_0_2, rf_0_3, rf_0_4, rf_0_5, rf_0_6, rf_0_7, rf_0_8, is_8_0, f1, sp_sheetOf hk, sp_isIn, sp_isMissing hk, bI_0, bI_n0, q2', w0', not_true_eq_false, if_true, if_false, fail_2, F2]
        · rw [en_X9_judge]
          simp only [c20, c2i, c2n, c2r, cs8_0, cs8_1, cs8_2, cs8_3, cs8_4, decide_eq_true_eq, ev_ald0, ev_aldn0, ev_bin, ev_cs1, ev_cs3, ev_cv0, ev_cv1, ev_go, ev_gr, ev_i, ev_i2l, ev_ia, ev_if0, ev_if2, ev_ild1, ev_ild2, ev_ild3, ev_inc3, ev_ist3, ev_lbin, ev_lcmp, ev_ml, ev_ri, i00, i01, i10, not_false_eq_true, not_true_eq_false, pm_bd_s, pm_tl_n, pm_tl_s, ↓reduceIte, pb_X9_judge_0, pb_X9_judge_1, pb_X9_judge_2, kd_59, rf_59_0, rf_59_1, rf_59_3, rf_59_4, rf_59_5, rf_59_6, rf_59_7, rf_59_12, rf_59_14, rf_59_15, rf_59_16, rf_59_19, rf_59_23, rf_59_24, rf_59_25, rf_59_26, is_9_59, kd_72, al_72, sr_isSheet, sr_isIn, bI_0, bI_n0, q1', q2', xk, ck, w2, not_true_eq_false, if_true, if_false, find_2]
      · have w0' : (h.1 (23 + k) 1 = 0) = False := eq_false (by
          obtain ⟨z, g1, g2, g3, g4, g5, g6⟩ := hI.2.2.2.2.1 k hk
          rw [g4]; exact w0)
        obtain ⟨h1, h2, r1, g1, r2, g2, hI2⟩ := go2 (fb := fb) (d := d) hI iN
        have I1 := Inv_gn hI g1
        obtain ⟨z, z1, z2, z3, z4, z5, z6⟩ := I1.2.2.2.2.1 k hk
        have hn := iN.1.2.2.2
        have hn3 : h1.1 3 3 = nI n := by rw [Gn_3 g1]; exact iN.1.1
        have hn0 : h2.1 60 0 = nI n := by rw [Gr_60 g1 g2]; exact iN.1.2.1
        refine ⟨jgA (fun i => h1.1 74 (24 * k + i)) (SDf h u) n y 0 z, h1, h2, ?_, ?_, hI2⟩
        · have e := lp_judgeC (fb := fb) (d := d + 97) (h := h1) (x := nI k) (e := y) (S := SDf h u) hk hn3 g1.2.1 hn (fun j hj => (g1.2.2.2.2.1 j hj).1) z2 z1 z6 z 0 none (by omega)
          rw [nI_0] at e
          rw [en_X8_judge]
          simp only [c20, c2i, c2n, c2r, cs8_0, cs8_1, cs8_2, cs8_3, cs8_4, decide_eq_true_eq, ev_ald0, ev_ald3, ev_aldn0, ev_aldn3, ev_ast3, ev_astn3, ev_bin, ev_cs3, ev_cv0, ev_cv1, ev_cv2, ev_gi, ev_go, ev_gr, ev_i, ev_i2l, ev_if0, ev_if2, ev_ifn_0, ev_ifn_1, ev_ifn_2, ev_ifn_3, ev_ild1, ev_ild2, ev_ild4, ev_ild5, ev_inc4, ev_ist4, ev_ist5, ev_lbin, ev_lcmp, ev_ml, ev_ri, i00, i01, i10, is_sw, not_false_eq_true, not_true_eq_false, pm_bd_s, pm_tl_n, pm_tl_s, ↓reduceIte, pb_X8_judge_0, pb_X8_judge_1, pb_X8_judge_2, pb_X8_judge_3, kd_0, rf_0_0, rf_0_1, rf_0_2, rf_0_3, rf_0_4, rf_0_5, rf_0_6, rf_0_7, rf_0_8, is_8_0, kd_1, rf_1_0, rf_1_1, rf_1_2, rf_1_3, rf_1_4, rf_1_5, rf_1_6, is_5_1, kd_17, rf_17_0, rf_17_1, rf_17_2, rf_17_3, rf_17_4, rf_17_5, rf_17_6, is_7_17, f1, sp_sheetOf hk, sp_isIn, sp_isMissing hk, bI_0, bI_n0, q2', w0', not_true_eq_false, not_false_eq_true, if_true, if_false, r1]
          exact e
        · have e := lp_judgeR (fb := fb) (d := d + 97) (h := h2) (e := y) (N := fun i => h1.1 74 (24 * k + i)) (S := SDf h u) hk hn0 hn (fun j hj => (g2.2.1 j hj).1) (by rw [g2.1.1 73 (by decide)]; exact z3) z1 (fun i hi => by rw [g2.1.1 74 (by decide)]) z 0 (by omega)
          rw [nI_0] at e
          have w2 : ¬ h1.1 72 k = 0 := by rw [g1.1.1 72 (by decide)]; exact w0
          rw [en_X9_judge]
          simp only [c20, c2i, c2n, c2r, cs8_0, cs8_1, cs8_2, cs8_3, cs8_4, decide_eq_true_eq, ev_ald0, ev_aldn0, ev_bin, ev_cs1, ev_cs3, ev_cv0, ev_cv1, ev_go, ev_gr, ev_i, ev_i2l, ev_ia, ev_if0, ev_if2, ev_ild1, ev_ild2, ev_ild3, ev_inc3, ev_ist3, ev_lbin, ev_lcmp, ev_ml, ev_ri, i00, i01, i10, not_false_eq_true, not_true_eq_false, pm_bd_s, pm_tl_n, pm_tl_s, ↓reduceIte, pb_X9_judge_0, pb_X9_judge_1, pb_X9_judge_2, pb_X9_judge_3, kd_59, rf_59_0, rf_59_1, rf_59_3, rf_59_4, rf_59_5, rf_59_6, rf_59_7, rf_59_12, rf_59_14, rf_59_15, rf_59_16, rf_59_19, rf_59_23, rf_59_24, rf_59_25, rf_59_26, is_9_59, kd_72, al_72, sr_isSheet, sr_isIn, bI_0, bI_n0, q1', q2', xk, ck, w2, not_true_eq_false, not_false_eq_true, if_true, if_false, r2]
          exact e
    · refine Pr_e (e := 1) (x := -1000000001) hI (by omega) (by omega) ?_ ?_
      · rw [en_X8_judge]
        simp only [c20, c2i, c2n, c2r, cs8_0, cs8_1, cs8_2, cs8_3, cs8_4, decide_eq_true_eq, ev_ald0, ev_ald3, ev_aldn0, ev_aldn3, ev_ast3, ev_astn3, ev_bin, ev_cs3, ev_cv0, ev_cv1, ev_cv2, ev_gi, ev_go, ev_gr, ev_i, ev_i2l, ev_if0, ev_if2, ev_ifn_0, ev_ifn_1, ev_ifn_2, ev_ifn_3, ev_ild1, ev_ild2, ev_ild4, ev_ild5, ev_inc4, ev_ist4, ev_ist5, ev_lbin, ev_lcmp, ev_ml, ev_ri, i00, i01, i10, is_sw, not_false_eq_true, not_true_eq_false, pm_bd_s, pm_tl_n, pm_tl_s, ↓reduceIte, pb_X8_judge_0, pb_X8_judge_1, kd_0, rf_0_0, rf_0_1, rf_0_2, rf_0_3, rf_0_4, rf_0_5, rf_0_6, rf_0_7, rf_0_8, is_8_0, f1, sp_sheetOf hk, sp_isIn, bI_0, bI_n0, eq_false q2, not_true_eq_false, if_true, if_false, fail_1, F1]
      · rw [en_X9_judge]
        simp only [c20, c2i, c2n, c2r, cs8_0, cs8_1, cs8_2, cs8_3, cs8_4, decide_eq_true_eq, ev_ald0, ev_aldn0, ev_bin, ev_cs1, ev_cs3, ev_cv0, ev_cv1, ev_go, ev_gr, ev_i, ev_i2l, ev_ia, ev_if0, ev_if2, ev_ild1, ev_ild2, ev_ild3, ev_inc3, ev_ist3, ev_lbin, ev_lcmp, ev_ml, ev_ri, i00, i01, i10, not_false_eq_true, not_true_eq_false, pm_bd_s, pm_tl_n, pm_tl_s, ↓reduceIte, pb_X9_judge_0, pb_X9_judge_1, kd_59, rf_59_0, rf_59_1, rf_59_3, rf_59_4, rf_59_5, rf_59_6, rf_59_7, rf_59_12, rf_59_14, rf_59_15, rf_59_16, rf_59_19, rf_59_23, rf_59_24, rf_59_25, rf_59_26, is_9_59, sr_isSheet, sr_isIn, bI_0, bI_n0, q1', eq_false q2, not_true_eq_false, if_true, if_false, find_1]
  · refine Pr_e (e := 1) (x := -1000000001) hI (by omega) (by omega) ?_ ?_
    · rw [en_X8_judge]
      simp only [c20, c2i, c2n, c2r, cs8_0, cs8_1, cs8_2, cs8_3, cs8_4, decide_eq_true_eq, ev_ald0, ev_ald3, ev_aldn0, ev_aldn3, ev_ast3, ev_astn3, ev_bin, ev_cs3, ev_cv0, ev_cv1, ev_cv2, ev_gi, ev_go, ev_gr, ev_i, ev_i2l, ev_if0, ev_if2, ev_ifn_0, ev_ifn_1, ev_ifn_2, ev_ifn_3, ev_ild1, ev_ild2, ev_ild4, ev_ild5, ev_inc4, ev_ist4, ev_ist5, ev_lbin, ev_lcmp, ev_ml, ev_ri, i00, i01, i10, is_sw, not_false_eq_true, not_true_eq_false, pm_bd_s, pm_tl_n, pm_tl_s, ↓reduceIte, pb_X8_judge_0, pb_X8_judge_1, kd_0, rf_0_0, rf_0_1, rf_0_2, rf_0_3, rf_0_4, rf_0_5, rf_0_6, rf_0_7, rf_0_8, is_8_0, sp_sheetOfN q1, fail_1, F1]
    · rw [en_X9_judge]
      simp only [c20, c2i, c2n, c2r, cs8_0, cs8_1, cs8_2, cs8_3, cs8_4, decide_eq_true_eq, ev_ald0, ev_aldn0, ev_bin, ev_cs1, ev_cs3, ev_cv0, ev_cv1, ev_go, ev_gr, ev_i, ev_i2l, ev_ia, ev_if0, ev_if2, ev_ild1, ev_ild2, ev_ild3, ev_inc3, ev_ist3, ev_lbin, ev_lcmp, ev_ml, ev_ri, i00, i01, i10, not_false_eq_true, not_true_eq_false, pm_bd_s, pm_tl_n, pm_tl_s, ↓reduceIte, pb_X9_judge_0, pb_X9_judge_1, kd_59, rf_59_0, rf_59_1, rf_59_3, rf_59_4, rf_59_5, rf_59_6, rf_59_7, rf_59_12, rf_59_14, rf_59_15, rf_59_16, rf_59_19, rf_59_23, rf_59_24, rf_59_25, rf_59_26, is_9_59, sr_isSheet, bI_0, bI_n0, eq_false q1, not_false_eq_true, if_true, find_1]
end PO
/-! waver -/
def zt (z : Int32) : Nat → Int32
  | 0 => z
  | j + 1 => zt z j * 1103515245 + 12345
def drw (z : Int32) : Int32 := (z.toUInt32 >>> ((8 : Int32).toUInt32 &&& Int32.toUInt32 31)).toInt32
def dvF (D z : Int32) : Int32 := drw z - drw z / (2 * D + 1) * (2 * D + 1) - D
theorem drw_n (z : Int32) : ∃ w, w < 2 ^ 24 ∧ drw z = nI w := by
  refine ⟨(z.toUInt32 >>> ((8 : Int32).toUInt32 &&& Int32.toUInt32 31)).toNat, ?_, ?_⟩
  · rw [show ((8 : Int32).toUInt32 &&& Int32.toUInt32 31) = 8 by decide, UInt32.toNat_shiftRight]
    have h1 : z.toUInt32.toNat < 2 ^ 32 := UInt32.toNat_lt _
    rw [show (8 : UInt32).toNat % 32 = 8 by decide, Nat.shiftRight_eq_div_pow]
    omega
  · unfold drw
    generalize (z.toUInt32 >>> ((8 : Int32).toUInt32 &&& Int32.toUInt32 31)) = v
    show v.toInt32 = (UInt32.ofNat v.toNat).toInt32
    rw [UInt32.ofNat_toNat]
theorem sub_n {a b : Nat} (h : b ≤ a) : nI a - nI b = nI (a - b) := by
  have e2 : nI a = nI (a - b) + nI b := by rw [nI_add, show a - b + b = a by omega]
  rw [e2, Int32.add_sub_cancel]
theorem dvF_b {D : Nat} (hD : D ≤ 99) (z : Int32) : inB (-99) 99 (dvF (nI D) z) := by
  obtain ⟨w, hw, e⟩ := drw_n z
  have e2 : (2 : Int32) * nI D + 1 = nI (2 * D + 1) := by
    show nI 2 * nI D + nI 1 = _
    rw [nI_mul, nI_add]
  unfold dvF
  have hq : w / (2 * D + 1) * (2 * D + 1) ≤ w := Nat.div_mul_le_self _ _
  have hm : w - w / (2 * D + 1) * (2 * D + 1) = w % (2 * D + 1) := by
    have := Nat.div_add_mod w (2 * D + 1)
    have c : (2 * D + 1) * (w / (2 * D + 1)) = w / (2 * D + 1) * (2 * D + 1) := Nat.mul_comm _ _
    omega
  rw [e, e2, div_n (by omega) (by omega), nI_mul, sub_n hq, hm]
  have hl : w % (2 * D + 1) < 2 * D + 1 := Nat.mod_lt _ (by omega)
  generalize w % (2 * D + 1) = r at hl
  have t : (nI r - nI D).toInt = (r : Int) - D := by
    rw [Int32.toInt_sub, nI_toInt (by omega), nI_toInt (by omega), Int.bmod_eq_of_le] <;> omega
  have t1 : (-99 : Int32).toInt = -99 := by decide
  have t2 : (99 : Int32).toInt = 99 := by decide
  constructor
  · rw [Int32.le_iff_toInt_le, t, t1]; omega
  · rw [Int32.le_iff_toInt_le, t, t2]; omega
def wvC (h : pm_HP) (f : Nat) (D : Int32) (j : Nat) : pm_HP := (fun a b => if a = 1 ∧ b = 9 then zt (h.1 1 9) j else if a = 31 ∧ 4 * 24 + f ≤ b ∧ b < 4 * 24 + f + j then dvF D (zt (h.1 1 9) (b - (4 * 24 + f) + 1)) else h.1 a b, h.2)
def wvR (h : pm_HP) (f : Nat) (D : Int32) (j : Nat) : pm_HP := (fun a b => if a = 60 ∧ b = 5 then zt (h.1 60 5) j else if a = 60 ∧ 8 + 5 * f ≤ b ∧ b < 8 + 5 * (f + j) ∧ b % 5 = 2 then dvF D (zt (h.1 60 5) ((b - 8) / 5 - f + 1)) else h.1 a b, h.2)
theorem wvC_at (h : pm_HP) (f : Nat) (D : Int32) (j a b : Nat) : (wvC h f D j).1 a b = if a = 1 ∧ b = 9 then zt (h.1 1 9) j else if a = 31 ∧ 4 * 24 + f ≤ b ∧ b < 4 * 24 + f + j then dvF D (zt (h.1 1 9) (b - (4 * 24 + f) + 1)) else h.1 a b := rfl
theorem wvR_at (h : pm_HP) (f : Nat) (D : Int32) (j a b : Nat) : (wvR h f D j).1 a b = if a = 60 ∧ b = 5 then zt (h.1 60 5) j else if a = 60 ∧ 8 + 5 * f ≤ b ∧ b < 8 + 5 * (f + j) ∧ b % 5 = 2 then dvF D (zt (h.1 60 5) ((b - 8) / 5 - f + 1)) else h.1 a b := rfl
theorem wvC_0 (h : pm_HP) (f : Nat) (D : Int32) : wvC h f D 0 = h := by
  unfold wvC
  congr 1
  funext a b
  by_cases q : a = 1 ∧ b = 9
  · rw [if_pos q, q.1, q.2]; rfl
  · rw [if_neg q, if_neg (by omega)]
theorem wvR_0 (h : pm_HP) (f : Nat) (D : Int32) : wvR h f D 0 = h := by
  unfold wvR
  congr 1
  funext a b
  by_cases q : a = 60 ∧ b = 5
  · rw [if_pos q, q.1, q.2]; rfl
  · rw [if_neg q, if_neg (by omega)]
theorem wvC_s (h : pm_HP) (f : Nat) (D : Int32) (j : Nat) : pm_si (pm_si (wvC h f D j) 1 9 ((wvC h f D j).1 1 9 * 1103515245 + 12345)) 31 (4 * 24 + (f + j)) (dvF D ((wvC h f D j).1 1 9 * 1103515245 + 12345)) = wvC h f D (j + 1) := by
  have e : (wvC h f D j).1 1 9 = zt (h.1 1 9) j := rfl
  rw [e]
  show pm_si (pm_si (wvC h f D j) 1 9 (zt (h.1 1 9) (j + 1))) 31 (4 * 24 + (f + j)) (dvF D (zt (h.1 1 9) (j + 1))) = _
  unfold wvC pm_si
  congr 1
  funext a b
  dsimp only
  by_cases q : a = 31 ∧ b = 4 * 24 + (f + j)
  · obtain ⟨rfl, rfl⟩ := q
    rw [if_pos ⟨rfl, rfl⟩, if_neg (by omega), if_pos ⟨rfl, by omega, by omega⟩, show 4 * 24 + (f + j) - (4 * 24 + f) + 1 = j + 1 by omega]
  · rw [if_neg q]
    by_cases q2 : a = 1 ∧ b = 9
    · rw [if_pos q2, if_pos q2]
    · rw [if_neg q2, if_neg q2, if_neg q2]
      by_cases q3 : a = 31 ∧ 4 * 24 + f ≤ b ∧ b < 4 * 24 + f + j
      · rw [if_pos q3, if_pos ⟨q3.1, q3.2.1, by omega⟩]
      · rw [if_neg q3, if_neg (by omega)]
theorem wvR_s (h : pm_HP) (f : Nat) (D : Int32) (j : Nat) : pm_si (pm_si (wvR h f D j) 60 5 ((wvR h f D j).1 60 5 * 1103515245 + 12345)) 60 (8 + 5 * (f + j) + 4) (dvF D ((wvR h f D j).1 60 5 * 1103515245 + 12345)) = wvR h f D (j + 1) := by
  have e : (wvR h f D j).1 60 5 = zt (h.1 60 5) j := rfl
  rw [e]
  show pm_si (pm_si (wvR h f D j) 60 5 (zt (h.1 60 5) (j + 1))) 60 (8 + 5 * (f + j) + 4) (dvF D (zt (h.1 60 5) (j + 1))) = _
  unfold wvR pm_si
  congr 1
  funext a b
  dsimp only
  by_cases q : a = 60 ∧ b = 8 + 5 * (f + j) + 4
  · obtain ⟨rfl, rfl⟩ := q
    rw [if_pos ⟨rfl, rfl⟩, if_neg (by omega), if_pos ⟨rfl, by omega, by omega, by omega⟩, show (8 + 5 * (f + j) + 4 - 8) / 5 - f + 1 = j + 1 by omega]
  · rw [if_neg q]
    by_cases q2 : a = 60 ∧ b = 5
    · rw [if_pos q2, if_pos q2]
    · rw [if_neg q2, if_neg q2, if_neg q2]
      by_cases q3 : a = 60 ∧ 8 + 5 * f ≤ b ∧ b < 8 + 5 * (f + j) ∧ b % 5 = 2
      · rw [if_pos q3, if_pos ⟨q3.1, q3.2.1, by omega, q3.2.2.2⟩]
      · rw [if_neg q3, if_neg (by omega)]
theorem RN_wv {h : pm_HP} {n u nt nb nw f D m : Nat} (iN : RN h 3 60 n u nt nb nw) : RN (wvR (wvC h f (nI D) m) f (nI D) m) 3 60 n u nt nb nw := by
  refine RN_t iN (fun k hk => ?_) (fun j hj => ?_)
  · rw [wvR_at, if_neg (by omega), if_neg (by omega), wvC_at, if_neg (by omega), if_neg (by omega)]
  · rw [wvR_at, if_neg (by omega), if_neg (by omega), wvC_at, if_neg (by omega), if_neg (by omega)]
theorem Inv_wv {h : pm_HP} {f D m : Nat} (hI : Inv h) (hD : D ≤ 99) (hf : f + m ≤ 24) : Inv (wvR (wvC h f (nI D) m) f (nI D) m) := by
  obtain ⟨⟨n, u, nt, nb, nw, iN⟩, iZ, iM, iS, iT, iB, iW, iX, iY⟩ := hI.1
  have V : ∀ a b, (wvR (wvC h f (nI D) m) f (nI D) m).1 a b = if a = 60 ∧ b = 5 then zt (h.1 60 5) m else if a = 60 ∧ 8 + 5 * f ≤ b ∧ b < 8 + 5 * (f + m) ∧ b % 5 = 2 then dvF (nI D) (zt (h.1 60 5) ((b - 8) / 5 - f + 1)) else if a = 1 ∧ b = 9 then zt (h.1 1 9) m else if a = 31 ∧ 4 * 24 + f ≤ b ∧ b < 4 * 24 + f + m then dvF (nI D) (zt (h.1 1 9) (b - (4 * 24 + f) + 1)) else h.1 a b := fun _ _ => rfl
  have E : ∀ a, ¬ a = 31 → ¬ a = 60 → ¬ a = 1 → (wvR (wvC h f (nI D) m) f (nI D) m).1 a = h.1 a := by
    intro a h1 h2 h3
    funext b
    rw [V, if_neg (by omega), if_neg (by omega), if_neg (by omega), if_neg (by omega)]
  have B : ∀ j, ¬ j = 5 → (j < 8 ∨ 128 ≤ j) → (wvR (wvC h f (nI D) m) f (nI D) m).1 60 j = h.1 60 j := by
    intro j h5 hj
    rw [V, if_neg (by omega), if_neg (by omega), if_neg (by omega), if_neg (by omega)]
  refine Inv_now hI (fun a h1 h2 => E a (fun q => h1 (by subst q; decide)) (fun q => h1 (by subst q; decide)) (fun q => h1 (by subst q; decide))) ?_ ⟨⟨n, u, nt, nb, nw, RN_wv iN⟩, ⟨?_, ?_, ?_⟩, ?_, RS_t iS (E _ (by omega) (by omega) (by omega)) (fun j h1 h2 => B j (by omega) (by omega)), RT_t iT (E _ (by omega) (by omega) (by omega)) (fun j h1 h2 => B j (by omega) (by omega)), RB_t iB (E _ (by omega) (by omega) (by omega)) (fun j h1 h2 => B j (by omega) (by omega)), RW_t iW (E _ (by omega) (by omega) (by omega)) (fun j h1 h2 => B j (by omega) (by omega)), RX_t iX (by rw [E _ (by omega) (by omega) (by omega)]) (E _ (by omega) (by omega) (by omega)) (fun j h1 h2 => B j (by omega) (by omega)), RX_t iY (by rw [E _ (by omega) (by omega) (by omega)]) (E _ (by omega) (by omega) (by omega)) (fun j h1 h2 => B j (by omega) (by omega))⟩
  · unfold R0
    rw [E 52 (by omega) (by omega) (by omega), E 53 (by omega) (by omega) (by omega), E 63 (by omega) (by omega) (by omega), E 64 (by omega) (by omega) (by omega)]
    exact hI.2.2.2.2.2
  · rw [V, V, if_neg (by omega), if_neg (by omega), if_pos ⟨rfl, rfl⟩, if_pos ⟨rfl, rfl⟩, iZ.1]
  · rw [V, if_neg (by omega), if_neg (by omega), if_neg (by omega), if_neg (by omega), B 6 (by omega) (by omega)]
    exact iZ.2.1
  · rw [V, if_neg (by omega), if_neg (by omega), if_neg (by omega), if_neg (by omega), B 7 (by omega) (by omega)]
    exact iZ.2.2
  · intro i hi
    obtain ⟨g1, g2, g3, g4, g5, g6⟩ := iM i hi
    have N : ∀ c, c < 4 → (wvR (wvC h f (nI D) m) f (nI D) m).1 60 (8 + 5 * i + c) = h.1 60 (8 + 5 * i + c) := fun c hc => by rw [V, if_neg (by omega), if_neg (by omega), if_neg (by omega), if_neg (by omega)]
    refine ⟨fun c hc => ?_, by rw [N 0 (by omega)]; exact g2, by rw [N 1 (by omega)]; exact g3, by rw [N 2 (by omega)]; exact g4, by rw [N 3 (by omega)]; exact g5, ?_⟩
    · by_cases q : c = 4
      · subst q
        by_cases p : f ≤ i ∧ i < f + m
        · rw [V, V, if_neg (by omega), if_neg (by omega), if_neg (by omega), if_pos ⟨rfl, by omega, by omega⟩, if_neg (by omega), if_pos ⟨rfl, by omega, by omega, by omega⟩, iZ.1, show 4 * 24 + i - (4 * 24 + f) + 1 = (8 + 5 * i + 4 - 8) / 5 - f + 1 by omega]
        · rw [V, V, if_neg (by omega), if_neg (by omega), if_neg (by omega), if_neg (by omega), if_neg (by omega), if_neg (by omega), if_neg (by omega), if_neg (by omega)]
          exact g1 4 hc
      · rw [N c (by omega), V, if_neg (by omega), if_neg (by omega), if_neg (by omega), if_neg (by omega)]
        exact g1 c hc
    · by_cases p : f ≤ i ∧ i < f + m
      · rw [V, if_neg (by omega), if_pos ⟨rfl, by omega, by omega, by omega⟩]
        exact dvF_b hD _
      · rw [V, if_neg (by omega), if_neg (by omega), if_neg (by omega), if_neg (by omega)]
        exact g6
section PQ
variable {fb : Bool} {d : Nat} {h : pm_HP}
/-- the class's line, gone on a heap that is the class's half of h -/
theorem go_c2 {hA : pm_HP} {n u nt nb nw : Nat} (hI : Inv h) (iN : RN h 3 60 n u nt nb nw) (eA : ∀ a, ¬ a = 60 → hA.1 a = h.1 a) : ∃ h1, rs fb (d + 99) n_X7_go [.ref 17, .ref 1, .int (-1)] hA = some (none, h1) ∧ frm wkC hA h1 ∧ h1.1 17 7 = nI n ∧ h1.1 17 8 = h.1 60 6 ∧ h1.1 17 9 = h.1 60 7 ∧ ∀ j, j ≤ n → h1.1 52 j = SDf h u j ∧ h1.1 53 j = ALf h u j := by
  obtain ⟨-, iZ, iM, iS, iT, iB, iW, iX, iY⟩ := hI.1
  obtain ⟨h1, r, hf, h7, h8, h9, k1, k2⟩ := sp_go (fb := fb) (d := d + 93) (wo := -1) (h := hA) (n := n) (u := u) (by rw [eA 3 (by omega)]; exact iN.1.1) iN.1.2.2.2 (by rw [eA 4 (by omega)]; exact iN.2.1.1) iN.2.1.2.2 (by rw [eA 52 (by omega)]; exact hI.2.2.2.2.2.1) (by rw [eA 53 (by omega)]; exact hI.2.2.2.2.2.2.1)
  have hn := iN.1.2.2.2
  have hu := iN.2.1.2.2
  have em : mi hA = mi h := by funext c i; unfold mi; rw [eA 31 (by omega)]
  have es : sl hA = sl h := by funext c i; unfold sl; rw [eA 32 (by omega)]
  have eo : onP hA (-1) = onP h (-1) := by funext s; unfold onP; rw [es]
  have e1 : cLe hA u (-1) = cLe h u (-1) := by funext i; unfold cLe; rw [es, eo]
  have e2 : cPu hA u (-1) = cPu h u (-1) := by funext i; unfold cPu; rw [es, eo, em]
  have e3 : cSh hA u (-1) = cSh h u (-1) := by funext i; unfold cSh; rw [es, eo, em]
  rw [em, e1, e2, e3] at k1
  have eM : ∀ i, i < n → ∀ c, c < 5 → mi h c i = rm h c i := fun i hi c hc => eq_mi iM (by omega) hc
  have eL : ∀ i, i < n → cLe h u (-1) i = rLe h u i := fun i hi => cLe_eq iS hu
  have eP : ∀ i, i < n → cPu h u (-1) i = rPu h u i := fun i hi => cPu_eq iS iM hu (by omega)
  have eS : ∀ i, i < n → cSh h u (-1) i = rSh h u i := fun i hi => cSh_eq iS iM hu (by omega)
  refine ⟨h1, r, hf, h7, by rw [h8, eA 1 (by omega)]; exact iZ.2.1, by rw [h9, eA 1 (by omega)]; exact iZ.2.2, fun j hj => ?_⟩
  rw [(k1 j hj).1, (k1 j hj).2]
  exact ⟨sdF_congr eM eL eP j hj, alF_congr eM eS j hj⟩
set_option maxRecDepth 100000 in
theorem lp_wavC {f N D t : Nat} (hf : f < 24) (hN : N ≤ 24) (hD : D ≤ 99) (ht : t = min N (24 - f)) : ∀ (k j : Nat), j + k = t → pm_ev P_X8_waver (rs fb (d + 2)) (P_X8_waver 3) [some (.ref 0), some (.int (nI f)), some (.int (nI N)), some (.int (nI D)), some (.int (nI (f + j)))] [] (wvC h f (nI D) j) = pm_ev P_X8_waver (rs fb (d + 2)) (P_X8_waver 4) [some (.ref 0), some (.int (nI f)), some (.int (nI N)), some (.int (nI D)), some (.int (nI (f + t)))] [] (wvC h f (nI D) t) := by
  intro k
  induction k with
  | zero =>
    intro j hj
    obtain rfl : j = t := by omega
    rw [pb_X8_waver_3]
    rcases Nat.lt_or_ge j N with c | c
    · have e1 : ¬ nI (f + N) ≤ nI (f + j) := nI_ge (by omega) (by omega)
      have e2 : (24 : Int32) ≤ nI (f + j) := nI_le (a := 24) (by omega) (by omega)
      simp only [c20, c2i, c2n, c2r, cs8_0, cs8_1, cs8_2, cs8_3, cs8_4, decide_eq_true_eq, ev_ald0, ev_aldn0, ev_bin, ev_cs3, ev_cv0, ev_cv1, ev_cv2, ev_cv3, ev_dv, ev_go, ev_gr, ev_i, ev_if0, ev_if2, ev_ild1, ev_ild2, ev_ild3, ev_ild4, ev_inc4, ev_ist4, ev_ri, i00, i01, i10, is_sw, not_false_eq_true, not_true_eq_false, pm_bd_s, pm_tl_n, pm_tl_s, ↓reduceIte, kd_0, rf_0_0, rf_0_1, rf_0_2, rf_0_3, rf_0_4, rf_0_5, rf_0_6, rf_0_7, rf_0_8, is_8_0, nI_add, e1, e2, if_true, if_false]
    · have e1 : nI (f + N) ≤ nI (f + j) := nI_le (by omega) (by omega)
      simp only [c20, c2i, c2n, c2r, cs8_0, cs8_1, cs8_2, cs8_3, cs8_4, decide_eq_true_eq, ev_ald0, ev_aldn0, ev_bin, ev_cs3, ev_cv0, ev_cv1, ev_cv2, ev_cv3, ev_dv, ev_go, ev_gr, ev_i, ev_if0, ev_if2, ev_ild1, ev_ild2, ev_ild3, ev_ild4, ev_inc4, ev_ist4, ev_ri, i00, i01, i10, is_sw, not_false_eq_true, not_true_eq_false, pm_bd_s, pm_tl_n, pm_tl_s, ↓reduceIte, kd_0, rf_0_0, rf_0_1, rf_0_2, rf_0_3, rf_0_4, rf_0_5, rf_0_6, rf_0_7, rf_0_8, is_8_0, nI_add, e1, if_true, if_false]
  | succ k ih =>
    intro j hj
    have e1 : ¬ nI (f + N) ≤ nI (f + j) := nI_ge (by omega) (by omega)
    have e2 : ¬ (24 : Int32) ≤ nI (f + j) := nI_ge (b := 24) (by omega) (by omega)
    have dr := sp_draw (fb := fb) (d := d + 1) (h := wvC h f (nI D) j)
    have st := set_3_4 (fb := fb) (d := d) (h := pm_si (wvC h f (nI D) j) 1 9 ((wvC h f (nI D) j).1 1 9 * 1103515245 + 12345)) (s := f + j) (v := dvF (nI D) ((wvC h f (nI D) j).1 1 9 * 1103515245 + 12345)) (by omega)
    rw [wvC_s] at st
    have nz : ((2 : Int32) * nI D + 1 = 0) = False := by
      rw [show (2 : Int32) * nI D + 1 = nI (2 * D + 1) from by
        show nI 2 * nI D + nI 1 = _
        rw [nI_mul, nI_add]]
      exact nz_of (by omega) (by omega)
    have ed : ∀ z : Int32, drw z - drw z / (2 * nI D + 1) * (2 * nI D + 1) - nI D = dvF (nI D) z := fun _ => rfl
    have ew : ∀ z : Int32, (z.toUInt32 >>> ((8 : Int32).toUInt32 &&& Int32.toUInt32 31)).toInt32 = drw z := fun _ => rfl
    rw [ew] at dr
    have i1 := ih (j + 1) (by omega)
    rw [pb_X8_waver_3]
    simp only [c20, c2i, c2n, c2r, cs8_0, cs8_1, cs8_2, cs8_3, cs8_4, decide_eq_true_eq, ev_ald0, ev_aldn0, ev_bin, ev_cs3, ev_cv0, ev_cv1, ev_cv2, ev_cv3, ev_dv, ev_go, ev_gr, ev_i, ev_if0, ev_if2, ev_ild1, ev_ild2, ev_ild3, ev_ild4, ev_inc4, ev_ist4, ev_ri, i00, i01, i10, is_sw, not_false_eq_true, not_true_eq_false, pm_bd_s, pm_tl_n, pm_tl_s, ↓reduceIte, kd_0, rf_0_0, rf_0_1, rf_0_2, rf_0_3, rf_0_4, rf_0_5, rf_0_6, rf_0_7, rf_0_8, is_8_0, kd_1, rf_1_0, rf_1_1, rf_1_2, rf_1_3, rf_1_4, rf_1_5, rf_1_6, is_5_1, kd_3, rf_3_2, fc_3_0, fc_3_1, is_6_3_3, is_3_6_3, nI_add, e1, e2, dr, nz, ed, st, if_true, if_false, nI_1]
    exact i1
set_option maxRecDepth 100000 in
theorem lp_wavR {f N D t : Nat} (hf : f < 24) (hN : N ≤ 24) (hD : D ≤ 99) (ht : t = min N (24 - f)) : ∀ (k j : Nat), j + k = t → pm_ev P_X9_waver (rs fb (d + 2)) (P_X9_waver 3) [some (.ref 59), some (.int (nI f)), some (.int (nI N)), some (.int (nI D)), some (.int (nI (f + j)))] [] (wvR h f (nI D) j) = pm_ev P_X9_waver (rs fb (d + 2)) (P_X9_waver 4) [some (.ref 59), some (.int (nI f)), some (.int (nI N)), some (.int (nI D)), some (.int (nI (f + t)))] [] (wvR h f (nI D) t) := by
  intro k
  induction k with
  | zero =>
    intro j hj
    obtain rfl : j = t := by omega
    rw [pb_X9_waver_3]
    rcases Nat.lt_or_ge j N with c | c
    · have e1 : ¬ nI (f + N) ≤ nI (f + j) := nI_ge (by omega) (by omega)
      have e2 : (24 : Int32) ≤ nI (f + j) := nI_le (a := 24) (by omega) (by omega)
      simp only [c20, c2i, c2n, c2r, cs8_0, cs8_1, cs8_2, cs8_3, cs8_4, decide_eq_true_eq, ev_ald0, ev_aldn0, ev_bin, ev_cs1, ev_cs3, ev_cv0, ev_cv1, ev_go, ev_gr, ev_i, ev_ias, ev_if0, ev_if2, ev_ild1, ev_ild2, ev_ild3, ev_ild4, ev_inc4, ev_ist4, ev_ri, i00, i01, i10, not_false_eq_true, not_true_eq_false, pm_bd_s, pm_tl_n, pm_tl_s, ↓reduceIte, kd_59, rf_59_0, rf_59_1, rf_59_3, rf_59_4, rf_59_5, rf_59_6, rf_59_7, rf_59_12, rf_59_14, rf_59_15, rf_59_16, rf_59_19, rf_59_23, rf_59_24, rf_59_25, rf_59_26, is_9_59, nI_add, e1, e2, if_true, if_false]
    · have e1 : nI (f + N) ≤ nI (f + j) := nI_le (by omega) (by omega)
      simp only [c20, c2i, c2n, c2r, cs8_0, cs8_1, cs8_2, cs8_3, cs8_4, decide_eq_true_eq, ev_ald0, ev_aldn0, ev_bin, ev_cs1, ev_cs3, ev_cv0, ev_cv1, ev_go, ev_gr, ev_i, ev_ias, ev_if0, ev_if2, ev_ild1, ev_ild2, ev_ild3, ev_ild4, ev_inc4, ev_ist4, ev_ri, i00, i01, i10, not_false_eq_true, not_true_eq_false, pm_bd_s, pm_tl_n, pm_tl_s, ↓reduceIte, kd_59, rf_59_0, rf_59_1, rf_59_3, rf_59_4, rf_59_5, rf_59_6, rf_59_7, rf_59_12, rf_59_14, rf_59_15, rf_59_16, rf_59_19, rf_59_23, rf_59_24, rf_59_25, rf_59_26, is_9_59, nI_add, e1, if_true, if_false]
  | succ k ih =>
    intro j hj
    have e1 : ¬ nI (f + N) ≤ nI (f + j) := nI_ge (by omega) (by omega)
    have e2 : ¬ (24 : Int32) ≤ nI (f + j) := nI_ge (b := 24) (by omega) (by omega)
    have nz : ((2 : Int32) * nI D + 1 = 0) = False := by
      rw [show (2 : Int32) * nI D + 1 = nI (2 * D + 1) from by
        show nI 2 * nI D + nI 1 = _
        rw [nI_mul, nI_add]]
      exact nz_of (by omega) (by omega)
    have dr := sr_drawn (fb := fb) (d := d + 1) (h := wvR h f (nI D) j) (v := 2 * nI D + 1) (by rw [nz]; exact not_false)
    have ed : ∀ z : Int32, drw z - drw z / (2 * nI D + 1) * (2 * nI D + 1) - nI D = dvF (nI D) z := fun _ => rfl
    have ew : ∀ z : Int32, (z.toUInt32 >>> ((8 : Int32).toUInt32 &&& Int32.toUInt32 31)).toInt32 = drw z := fun _ => rfl
    rw [ew] at dr
    have e : (8 : Int32) + 5 * nI (f + j) + 4 = nI (8 + 5 * (f + j) + 4) := by
      show nI 8 + nI 5 * nI (f + j) + nI 4 = _
      rw [nI_mul, nI_add, nI_add]
    have x1 : pm_ix (nI (8 + 5 * (f + j) + 4)) 440 = true := pm_ix_n (by omega) (by omega)
    have c1 := nI_clamp (show 8 + 5 * (f + j) + 4 < 2 ^ 31 by omega)
    have i1 := ih (j + 1) (by omega)
    rw [pb_X9_waver_3]
    simp only [c20, c2i, c2n, c2r, cs8_0, cs8_1, cs8_2, cs8_3, cs8_4, decide_eq_true_eq, ev_ald0, ev_aldn0, ev_bin, ev_cs1, ev_cs3, ev_cv0, ev_cv1, ev_go, ev_gr, ev_i, ev_ias, ev_if0, ev_if2, ev_ild1, ev_ild2, ev_ild3, ev_ild4, ev_inc4, ev_ist4, ev_ri, i00, i01, i10, not_false_eq_true, not_true_eq_false, pm_bd_s, pm_tl_n, pm_tl_s, ↓reduceIte, kd_59, rf_59_0, rf_59_1, rf_59_3, rf_59_4, rf_59_5, rf_59_6, rf_59_7, rf_59_12, rf_59_14, rf_59_15, rf_59_16, rf_59_19, rf_59_23, rf_59_24, rf_59_25, rf_59_26, is_9_59, kd_60, al_60, nI_add, e1, e2, dr, ed, if_true, if_false, nI_1, e, x1, c1, wvR_s]
    exact i1
theorem pr_waver (hI : Inv h) (x y v : Int32) : Pr fb (d + 100) n_X8_waver n_X9_waver [.int x, .int y, .int v] h := by
  obtain ⟨⟨n, u, nt, nb, nw, iN⟩, iZ, iM, iS, iT, iB, iW, iX, iY⟩ := id hI.1
  by_cases q1 : 0 ≤ x ∧ x ≤ 23
  · by_cases q2 : 1 ≤ y ∧ y ≤ 24
    · by_cases q3 : 0 ≤ v ∧ v ≤ 99
      · obtain ⟨f, hf, rfl⟩ := nI_of2 (M := 23) (n := 23) (by decide) (Int32.not_lt.mpr q1.1) q1.2
        obtain ⟨N, hN, rfl⟩ := nI_of2 (M := 24) (n := 24) (by decide) (Int32.not_lt.mpr (Int32.le_trans (by decide) q2.1)) q2.2
        obtain ⟨D, hD, rfl⟩ := nI_of2 (M := 99) (n := 99) (by decide) (Int32.not_lt.mpr q3.1) q3.2
        have hn := iN.1.2.2.2
        obtain ⟨t, ht⟩ : ∃ t, t = min N (24 - f) := ⟨_, rfl⟩
        have I' : Inv (wvR (wvC h f (nI D) t) f (nI D) t) := Inv_wv hI hD (by omega)
        have iN' : RN (wvR (wvC h f (nI D) t) f (nI D) t) 3 60 n u nt nb nw := RN_wv iN
        have eA : ∀ a, ¬ a = 60 → (wvC h f (nI D) t).1 a = (wvR (wvC h f (nI D) t) f (nI D) t).1 a := by
          intro a ha
          funext b
          rw [wvR_at, if_neg (by omega), if_neg (by omega)]
        obtain ⟨h1, r1, f1, w7, w8, w9, w5⟩ := go_c2 (fb := fb) (d := d) (hA := wvC h f (nI D) t) I' iN' eA
        have fB : frm wkC (wvR (wvC h f (nI D) t) f (nI D) t) (wvR h1 f (nI D) t) := by
          have e60 : h1.1 60 = (wvC h f (nI D) t).1 60 := f1.1 60 (by decide)
          refine ⟨fun a ha => ?_, f1.2⟩
          funext b
          rw [wvR_at, wvR_at, e60, f1.1 a ha]
        have z0 := w5 0 (by omega)
        have u52 : ∀ a, ¬ a = 60 → (wvR h1 f (nI D) t).1 a = h1.1 a := by
          intro a ha
          funext b
          rw [wvR_at, if_neg (by omega), if_neg (by omega)]
        have z63 : (wvR h1 f (nI D) t).1 63 0 = 0 := by rw [fB.1 63 (by decide)]; exact I'.2.2.2.2.2.2.2.1
        have z64 : (wvR h1 f (nI D) t).1 64 0 = 0 := by rw [fB.1 64 (by decide)]; exact I'.2.2.2.2.2.2.2.2
        have IB : Inv (wvR h1 f (nI D) t) := Inv_frm I' fB (by decide) ⟨by rw [u52 52 (by omega)]; exact z0.1, by rw [u52 53 (by omega)]; exact z0.2, z63, z64⟩
        obtain ⟨h2, r2, g2⟩ := go_r (fb := fb) (d := d) (h1 := wvR h1 f (nI D) t) I' iN' (fB.1 60 (by decide)) z63 z64
        have lc := lp_wavC (fb := fb) (d := d + 97) (h := h) (f := f) (N := N) (D := D) (t := t) (by omega) hN hD ht t 0 (by omega)
        have lr := lp_wavR (fb := fb) (d := d + 97) (h := h1) (f := f) (N := N) (D := D) (t := t) (by omega) hN hD ht t 0 (by omega)
        rw [wvC_0, show f + 0 = f from rfl] at lc
        rw [wvR_0, show f + 0 = f from rfl] at lr
        have e60 : h2.1 60 = (wvR (wvC h f (nI D) t) f (nI D) t).1 60 := by rw [g2.1.1 60 (by decide), fB.1 60 (by decide)]
        have hn2 : h2.1 60 0 = nI n := by rw [e60]; exact iN'.1.2.1
        have ms := sp_missSide (fb := fb) (d := d + 98) (h := h1) w7 hn
        rw [(w5 n (Nat.le_refl _)).1, w8] at ms
        have s0 := sr_miss0 (fb := fb) (d := d + 98) hn2 hn
        rw [(g2.2.1 n (Nat.le_refl _)).1, e60] at s0
        refine ⟨SDf (wvR (wvC h f (nI D) t) f (nI D) t) u n - (wvR (wvC h f (nI D) t) f (nI D) t).1 60 6, h1, h2, ?_, ?_, Inv_gr IB g2⟩
        · rw [en_X8_waver]
          simp only [c20, c2i, c2n, c2r, cs8_0, cs8_1, cs8_2, cs8_3, cs8_4, decide_eq_true_eq, ev_ald0, ev_aldn0, ev_bin, ev_cs3, ev_cv0, ev_cv1, ev_cv2, ev_cv3, ev_dv, ev_go, ev_gr, ev_i, ev_if0, ev_if2, ev_ild1, ev_ild2, ev_ild3, ev_ild4, ev_inc4, ev_ist4, ev_ri, i00, i01, i10, is_sw, not_false_eq_true, not_true_eq_false, pm_bd_s, pm_tl_n, pm_tl_s, ↓reduceIte, pb_X8_waver_0, pb_X8_waver_1, pb_X8_waver_2, kd_0, rf_0_0, rf_0_1, rf_0_2, rf_0_3, rf_0_4, rf_0_5, rf_0_6, rf_0_7, rf_0_8, is_8_0, sp_isIn, bI_0, bI_n0, eq_true q1, eq_true q2, eq_true q3, not_true_eq_false, if_true, if_false]
          rw [lc, pb_X8_waver_4]
          simp only [c20, c2i, c2n, c2r, cs8_0, cs8_1, cs8_2, cs8_3, cs8_4, decide_eq_true_eq, ev_ald0, ev_aldn0, ev_bin, ev_cs3, ev_cv0, ev_cv1, ev_cv2, ev_cv3, ev_dv, ev_go, ev_gr, ev_i, ev_if0, ev_if2, ev_ild1, ev_ild2, ev_ild3, ev_ild4, ev_inc4, ev_ist4, ev_ri, i00, i01, i10, is_sw, not_false_eq_true, not_true_eq_false, pm_bd_s, pm_tl_n, pm_tl_s, ↓reduceIte, kd_0, rf_0_0, rf_0_1, rf_0_2, rf_0_3, rf_0_4, rf_0_5, rf_0_6, rf_0_7, rf_0_8, is_8_0, kd_1, rf_1_0, rf_1_1, rf_1_2, rf_1_3, rf_1_4, rf_1_5, rf_1_6, is_5_1, kd_17, rf_17_0, rf_17_1, rf_17_2, rf_17_3, rf_17_4, rf_17_5, rf_17_6, is_7_17, r1, ms]
        · rw [en_X9_waver]
          simp only [c20, c2i, c2n, c2r, cs8_0, cs8_1, cs8_2, cs8_3, cs8_4, decide_eq_true_eq, ev_ald0, ev_aldn0, ev_bin, ev_cs1, ev_cs3, ev_cv0, ev_cv1, ev_go, ev_gr, ev_i, ev_ias, ev_if0, ev_if2, ev_ild1, ev_ild2, ev_ild3, ev_ild4, ev_inc4, ev_ist4, ev_ri, i00, i01, i10, not_false_eq_true, not_true_eq_false, pm_bd_s, pm_tl_n, pm_tl_s, ↓reduceIte, pb_X9_waver_0, pb_X9_waver_1, pb_X9_waver_2, kd_59, rf_59_0, rf_59_1, rf_59_3, rf_59_4, rf_59_5, rf_59_6, rf_59_7, rf_59_12, rf_59_14, rf_59_15, rf_59_16, rf_59_19, rf_59_23, rf_59_24, rf_59_25, rf_59_26, is_9_59, sr_isMile, sr_isIn, bI_0, bI_n0, eq_true q1, eq_true q2, eq_true q3, not_true_eq_false, if_true, if_false]
          rw [lr, pb_X9_waver_4]
          simp only [c20, c2i, c2n, c2r, cs8_0, cs8_1, cs8_2, cs8_3, cs8_4, decide_eq_true_eq, ev_ald0, ev_aldn0, ev_bin, ev_cs1, ev_cs3, ev_cv0, ev_cv1, ev_go, ev_gr, ev_i, ev_ias, ev_if0, ev_if2, ev_ild1, ev_ild2, ev_ild3, ev_ild4, ev_inc4, ev_ist4, ev_ri, i00, i01, i10, not_false_eq_true, not_true_eq_false, pm_bd_s, pm_tl_n, pm_tl_s, ↓reduceIte, kd_59, rf_59_0, rf_59_1, rf_59_3, rf_59_4, rf_59_5, rf_59_6, rf_59_7, rf_59_12, rf_59_14, rf_59_15, rf_59_16, rf_59_19, rf_59_23, rf_59_24, rf_59_25, rf_59_26, is_9_59, r2, s0]
      · refine Pr_e (e := 1) (x := -1000000001) hI (by omega) (by omega) ?_ ?_
        · rw [en_X8_waver]
          simp only [c20, c2i, c2n, c2r, cs8_0, cs8_1, cs8_2, cs8_3, cs8_4, decide_eq_true_eq, ev_ald0, ev_aldn0, ev_bin, ev_cs3, ev_cv0, ev_cv1, ev_cv2, ev_cv3, ev_dv, ev_go, ev_gr, ev_i, ev_if0, ev_if2, ev_ild1, ev_ild2, ev_ild3, ev_ild4, ev_inc4, ev_ist4, ev_ri, i00, i01, i10, is_sw, not_false_eq_true, not_true_eq_false, pm_bd_s, pm_tl_n, pm_tl_s, ↓reduceIte, pb_X8_waver_0, pb_X8_waver_1, kd_0, rf_0_0, rf_0_1, rf_0_2, rf_0_3, rf_0_4, rf_0_5, rf_0_6, rf_0_7, rf_0_8, is_8_0, sp_isIn, bI_0, bI_n0, eq_true q1, eq_true q2, eq_false q3, not_true_eq_false, if_true, if_false, fail_1, F1]
        · rw [en_X9_waver]
          simp only [c20, c2i, c2n, c2r, cs8_0, cs8_1, cs8_2, cs8_3, cs8_4, decide_eq_true_eq, ev_ald0, ev_aldn0, ev_bin, ev_cs1, ev_cs3, ev_cv0, ev_cv1, ev_go, ev_gr, ev_i, ev_ias, ev_if0, ev_if2, ev_ild1, ev_ild2, ev_ild3, ev_ild4, ev_inc4, ev_ist4, ev_ri, i00, i01, i10, not_false_eq_true, not_true_eq_false, pm_bd_s, pm_tl_n, pm_tl_s, ↓reduceIte, pb_X9_waver_0, pb_X9_waver_1, kd_59, rf_59_0, rf_59_1, rf_59_3, rf_59_4, rf_59_5, rf_59_6, rf_59_7, rf_59_12, rf_59_14, rf_59_15, rf_59_16, rf_59_19, rf_59_23, rf_59_24, rf_59_25, rf_59_26, is_9_59, sr_isMile, sr_isIn, bI_0, bI_n0, eq_true q1, eq_true q2, eq_false q3, not_true_eq_false, if_true, if_false, find_1]
    · refine Pr_e (e := 1) (x := -1000000001) hI (by omega) (by omega) ?_ ?_
      · rw [en_X8_waver]
        simp only [c20, c2i, c2n, c2r, cs8_0, cs8_1, cs8_2, cs8_3, cs8_4, decide_eq_true_eq, ev_ald0, ev_aldn0, ev_bin, ev_cs3, ev_cv0, ev_cv1, ev_cv2, ev_cv3, ev_dv, ev_go, ev_gr, ev_i, ev_if0, ev_if2, ev_ild1, ev_ild2, ev_ild3, ev_ild4, ev_inc4, ev_ist4, ev_ri, i00, i01, i10, is_sw, not_false_eq_true, not_true_eq_false, pm_bd_s, pm_tl_n, pm_tl_s, ↓reduceIte, pb_X8_waver_0, pb_X8_waver_1, kd_0, rf_0_0, rf_0_1, rf_0_2, rf_0_3, rf_0_4, rf_0_5, rf_0_6, rf_0_7, rf_0_8, is_8_0, sp_isIn, bI_0, bI_n0, eq_true q1, eq_false q2, not_true_eq_false, not_false_eq_true, if_true, if_false, fail_1, F1]
      · rw [en_X9_waver]
        simp only [c20, c2i, c2n, c2r, cs8_0, cs8_1, cs8_2, cs8_3, cs8_4, decide_eq_true_eq, ev_ald0, ev_aldn0, ev_bin, ev_cs1, ev_cs3, ev_cv0, ev_cv1, ev_go, ev_gr, ev_i, ev_ias, ev_if0, ev_if2, ev_ild1, ev_ild2, ev_ild3, ev_ild4, ev_inc4, ev_ist4, ev_ri, i00, i01, i10, not_false_eq_true, not_true_eq_false, pm_bd_s, pm_tl_n, pm_tl_s, ↓reduceIte, pb_X9_waver_0, pb_X9_waver_1, kd_59, rf_59_0, rf_59_1, rf_59_3, rf_59_4, rf_59_5, rf_59_6, rf_59_7, rf_59_12, rf_59_14, rf_59_15, rf_59_16, rf_59_19, rf_59_23, rf_59_24, rf_59_25, rf_59_26, is_9_59, sr_isMile, sr_isIn, bI_0, bI_n0, eq_true q1, eq_false q2, not_true_eq_false, not_false_eq_true, if_true, if_false, find_1]
  · refine Pr_e (e := 1) (x := -1000000001) hI (by omega) (by omega) ?_ ?_
    · rw [en_X8_waver]
      simp only [c20, c2i, c2n, c2r, cs8_0, cs8_1, cs8_2, cs8_3, cs8_4, decide_eq_true_eq, ev_ald0, ev_aldn0, ev_bin, ev_cs3, ev_cv0, ev_cv1, ev_cv2, ev_cv3, ev_dv, ev_go, ev_gr, ev_i, ev_if0, ev_if2, ev_ild1, ev_ild2, ev_ild3, ev_ild4, ev_inc4, ev_ist4, ev_ri, i00, i01, i10, is_sw, not_false_eq_true, not_true_eq_false, pm_bd_s, pm_tl_n, pm_tl_s, ↓reduceIte, pb_X8_waver_0, pb_X8_waver_1, kd_0, rf_0_0, rf_0_1, rf_0_2, rf_0_3, rf_0_4, rf_0_5, rf_0_6, rf_0_7, rf_0_8, is_8_0, sp_isIn, bI_0, bI_n0, eq_false q1, not_false_eq_true, if_true, if_false, fail_1, F1]
    · rw [en_X9_waver]
      simp only [c20, c2i, c2n, c2r, cs8_0, cs8_1, cs8_2, cs8_3, cs8_4, decide_eq_true_eq, ev_ald0, ev_aldn0, ev_bin, ev_cs1, ev_cs3, ev_cv0, ev_cv1, ev_go, ev_gr, ev_i, ev_ias, ev_if0, ev_if2, ev_ild1, ev_ild2, ev_ild3, ev_ild4, ev_inc4, ev_ist4, ev_ri, i00, i01, i10, not_false_eq_true, not_true_eq_false, pm_bd_s, pm_tl_n, pm_tl_s, ↓reduceIte, pb_X9_waver_0, pb_X9_waver_1, kd_59, rf_59_0, rf_59_1, rf_59_3, rf_59_4, rf_59_5, rf_59_6, rf_59_7, rf_59_12, rf_59_14, rf_59_15, rf_59_16, rf_59_19, rf_59_23, rf_59_24, rf_59_25, rf_59_26, is_9_59, sr_isMile, bI_0, bI_n0, eq_false q1, not_false_eq_true, if_true, if_false, find_1]
end PQ
