/-! PAIRS OF CALLS: miss, crosses, leaning, treeIs -/
section P7
variable {fb : Bool} {d : Nat} {h : pm_HP}
theorem Gr_60 {h1 h2 : pm_HP} {n u : Nat} (g : Gn h h1 n u) (g2 : Gr h h1 h2 n u) : h2.1 60 = h.1 60 := by
  rw [g2.1.1 60 (by decide), g.1.1 60 (by decide)]
theorem pr_miss (hI : Inv h) (v : Int32) : Pr fb (d + 100) n_X8_miss n_X9_miss [.int v] h := by
  obtain ⟨⟨n, u, nt, nb, nw, iN⟩, iZ, iM, iS, iT, iB, iW, iX, iY⟩ := id hI.1
  by_cases q : 0 ≤ v ∧ v ≤ 2
  · obtain ⟨h1, h2, r1, g1, r2, g2, hI2⟩ := go2 (fb := fb) (d := d) hI iN
    have hn := iN.1.2.2.2
    have e60 := Gr_60 g1 g2
    have hn2 : h2.1 60 0 = nI n := by rw [e60]; exact iN.1.2.1
    have a1 := (g1.2.2.2.2.1 n (Nat.le_refl n)).1
    have a2 := (g1.2.2.2.2.1 n (Nat.le_refl n)).2
    have b1 := (g2.2.1 n (Nat.le_refl n)).1
    have b2 := (g2.2.1 n (Nat.le_refl n)).2
    obtain ⟨c, hc, rfl⟩ := nI_of2 (M := 2) (n := 2) (by decide) (Int32.not_lt.mpr q.1) q.2
    have qT := eq_true q
    rcases (show c = 0 ∨ c = 1 ∨ c = 2 by omega) with rfl | rfl | rfl
    · have z : nI 0 = 0 := rfl
      rw [z] at qT ⊢
      refine ⟨SDf h u n - h.1 60 6, h1, h2, ?_, ?_, hI2⟩
      · rw [en_X8_miss]
        simp only [cs8_0, cs8_1, cs8_2, cs8_3, cs8_4, decide_eq_true_eq, ev_ald0, ev_aldn0, ev_cs3, ev_cv0, ev_cv1, ev_cv2, ev_gr, ev_i, ev_if0, ev_ild1, ev_ri, ev_sw_0, ev_sw_1, i00, i01, i10, not_false_eq_true, not_true_eq_false, pm_bd_s, pm_tl_n, pm_tl_s, ↓reduceIte, pb_X8_miss_0, pb_X8_miss_1, pb_X8_miss_2, pb_X8_miss_3, pb_X8_miss_4, nl_0_1, nl_0_2, nl_0_3, nl_0_4, nl_0_5, nl_0_6, nl_0_7, nl_0_8, nl_1_0, nl_1_2, nl_1_3, nl_1_4, nl_1_5, nl_1_6, nl_1_7, nl_1_8, nl_2_0, nl_2_1, nl_2_3, nl_2_4, nl_2_5, nl_2_6, nl_2_7, nl_2_8, nl_3_0, nl_3_1, nl_3_2, nl_3_4, nl_3_5, nl_3_6, nl_3_7, nl_3_8, nl_4_0, nl_4_1, nl_4_2, nl_4_3, nl_4_5, nl_4_6, nl_4_7, nl_4_8, nl_5_0, nl_5_1, nl_5_2, nl_5_3, nl_5_4, nl_5_6, nl_5_7, nl_5_8, nl_6_0, nl_6_1, nl_6_2, nl_6_3, nl_6_4, nl_6_5, nl_6_7, nl_6_8, nl_7_0, nl_7_1, nl_7_2, nl_7_3, nl_7_4, nl_7_5, nl_7_6, nl_7_8, nl_8_0, nl_8_1, nl_8_2, nl_8_3, nl_8_4, nl_8_5, nl_8_6, nl_8_7, kd_0, rf_0_0, rf_0_1, rf_0_2, rf_0_3, rf_0_4, rf_0_5, rf_0_6, rf_0_7, rf_0_8, is_8_0, kd_1, rf_1_0, rf_1_1, rf_1_2, rf_1_3, rf_1_4, rf_1_5, rf_1_6, is_5_1, kd_17, rf_17_0, rf_17_1, rf_17_2, rf_17_3, rf_17_4, rf_17_5, rf_17_6, is_7_17, sp_isIn, bI_n0, qT, r1, sp_missSide g1.2.1 hn, a1, g1.2.2.1]
      · rw [en_X9_miss]
        simp only [cs8_0, cs8_1, cs8_2, cs8_3, cs8_4, decide_eq_true_eq, ev_ald0, ev_aldn0, ev_cs3, ev_cv0, ev_cv1, ev_i, ev_if0, ev_ild1, ev_ri, i00, i01, i10, not_false_eq_true, not_true_eq_false, pm_bd_s, pm_tl_n, pm_tl_s, ↓reduceIte, pb_X9_miss_0, pb_X9_miss_1, nl_0_1, nl_0_2, nl_0_3, nl_0_4, nl_0_5, nl_0_6, nl_0_7, nl_0_8, nl_1_0, nl_1_2, nl_1_3, nl_1_4, nl_1_5, nl_1_6, nl_1_7, nl_1_8, nl_2_0, nl_2_1, nl_2_3, nl_2_4, nl_2_5, nl_2_6, nl_2_7, nl_2_8, nl_3_0, nl_3_1, nl_3_2, nl_3_4, nl_3_5, nl_3_6, nl_3_7, nl_3_8, nl_4_0, nl_4_1, nl_4_2, nl_4_3, nl_4_5, nl_4_6, nl_4_7, nl_4_8, nl_5_0, nl_5_1, nl_5_2, nl_5_3, nl_5_4, nl_5_6, nl_5_7, nl_5_8, nl_6_0, nl_6_1, nl_6_2, nl_6_3, nl_6_4, nl_6_5, nl_6_7, nl_6_8, nl_7_0, nl_7_1, nl_7_2, nl_7_3, nl_7_4, nl_7_5, nl_7_6, nl_7_8, nl_8_0, nl_8_1, nl_8_2, nl_8_3, nl_8_4, nl_8_5, nl_8_6, nl_8_7, kd_59, rf_59_0, rf_59_1, rf_59_3, rf_59_4, rf_59_5, rf_59_6, rf_59_7, rf_59_12, rf_59_14, rf_59_15, rf_59_16, rf_59_19, rf_59_23, rf_59_24, rf_59_25, rf_59_26, is_9_59, sr_isIn, bI_n0, qT, r2, sr_miss0 hn2 hn, b1, e60]
    · have z : nI 1 = 1 := rfl
      rw [z] at qT ⊢
      refine ⟨ALf h u n - h.1 60 7, h1, h2, ?_, ?_, hI2⟩
      · rw [en_X8_miss]
        simp only [cs8_0, cs8_1, cs8_2, cs8_3, cs8_4, decide_eq_true_eq, ev_ald0, ev_aldn0, ev_cs3, ev_cv0, ev_cv1, ev_cv2, ev_gr, ev_i, ev_if0, ev_ild1, ev_ri, ev_sw_0, ev_sw_1, i00, i01, i10, not_false_eq_true, not_true_eq_false, pm_bd_s, pm_tl_n, pm_tl_s, ↓reduceIte, pb_X8_miss_0, pb_X8_miss_1, pb_X8_miss_2, pb_X8_miss_3, pb_X8_miss_4, nl_0_1, nl_0_2, nl_0_3, nl_0_4, nl_0_5, nl_0_6, nl_0_7, nl_0_8, nl_1_0, nl_1_2, nl_1_3, nl_1_4, nl_1_5, nl_1_6, nl_1_7, nl_1_8, nl_2_0, nl_2_1, nl_2_3, nl_2_4, nl_2_5, nl_2_6, nl_2_7, nl_2_8, nl_3_0, nl_3_1, nl_3_2, nl_3_4, nl_3_5, nl_3_6, nl_3_7, nl_3_8, nl_4_0, nl_4_1, nl_4_2, nl_4_3, nl_4_5, nl_4_6, nl_4_7, nl_4_8, nl_5_0, nl_5_1, nl_5_2, nl_5_3, nl_5_4, nl_5_6, nl_5_7, nl_5_8, nl_6_0, nl_6_1, nl_6_2, nl_6_3, nl_6_4, nl_6_5, nl_6_7, nl_6_8, nl_7_0, nl_7_1, nl_7_2, nl_7_3, nl_7_4, nl_7_5, nl_7_6, nl_7_8, nl_8_0, nl_8_1, nl_8_2, nl_8_3, nl_8_4, nl_8_5, nl_8_6, nl_8_7, kd_0, rf_0_0, rf_0_1, rf_0_2, rf_0_3, rf_0_4, rf_0_5, rf_0_6, rf_0_7, rf_0_8, is_8_0, kd_1, rf_1_0, rf_1_1, rf_1_2, rf_1_3, rf_1_4, rf_1_5, rf_1_6, is_5_1, kd_17, rf_17_0, rf_17_1, rf_17_2, rf_17_3, rf_17_4, rf_17_5, rf_17_6, is_7_17, sp_isIn, bI_n0, qT, r1, sp_missAlong g1.2.1 hn, a2, g1.2.2.2.1]
      · rw [en_X9_miss]
        simp only [cs8_0, cs8_1, cs8_2, cs8_3, cs8_4, decide_eq_true_eq, ev_ald0, ev_aldn0, ev_cs3, ev_cv0, ev_cv1, ev_i, ev_if0, ev_ild1, ev_ri, i00, i01, i10, not_false_eq_true, not_true_eq_false, pm_bd_s, pm_tl_n, pm_tl_s, ↓reduceIte, pb_X9_miss_0, pb_X9_miss_1, nl_0_1, nl_0_2, nl_0_3, nl_0_4, nl_0_5, nl_0_6, nl_0_7, nl_0_8, nl_1_0, nl_1_2, nl_1_3, nl_1_4, nl_1_5, nl_1_6, nl_1_7, nl_1_8, nl_2_0, nl_2_1, nl_2_3, nl_2_4, nl_2_5, nl_2_6, nl_2_7, nl_2_8, nl_3_0, nl_3_1, nl_3_2, nl_3_4, nl_3_5, nl_3_6, nl_3_7, nl_3_8, nl_4_0, nl_4_1, nl_4_2, nl_4_3, nl_4_5, nl_4_6, nl_4_7, nl_4_8, nl_5_0, nl_5_1, nl_5_2, nl_5_3, nl_5_4, nl_5_6, nl_5_7, nl_5_8, nl_6_0, nl_6_1, nl_6_2, nl_6_3, nl_6_4, nl_6_5, nl_6_7, nl_6_8, nl_7_0, nl_7_1, nl_7_2, nl_7_3, nl_7_4, nl_7_5, nl_7_6, nl_7_8, nl_8_0, nl_8_1, nl_8_2, nl_8_3, nl_8_4, nl_8_5, nl_8_6, nl_8_7, kd_59, rf_59_0, rf_59_1, rf_59_3, rf_59_4, rf_59_5, rf_59_6, rf_59_7, rf_59_12, rf_59_14, rf_59_15, rf_59_16, rf_59_19, rf_59_23, rf_59_24, rf_59_25, rf_59_26, is_9_59, sr_isIn, bI_n0, qT, r2, sr_miss1 hn2 hn, b2, e60]
    · have z : nI 2 = 2 := rfl
      rw [z] at qT ⊢
      refine ⟨ab32 (SDf h u n - h.1 60 6) + ab32 (ALf h u n - h.1 60 7), h1, h2, ?_, ?_, hI2⟩
      · rw [en_X8_miss]
        simp only [cs8_0, cs8_1, cs8_2, cs8_3, cs8_4, decide_eq_true_eq, ev_ald0, ev_aldn0, ev_cs3, ev_cv0, ev_cv1, ev_cv2, ev_gr, ev_i, ev_if0, ev_ild1, ev_ri, ev_sw_0, ev_sw_1, i00, i01, i10, not_false_eq_true, not_true_eq_false, pm_bd_s, pm_tl_n, pm_tl_s, ↓reduceIte, pb_X8_miss_0, pb_X8_miss_1, pb_X8_miss_2, pb_X8_miss_3, pb_X8_miss_4, nl_0_1, nl_0_2, nl_0_3, nl_0_4, nl_0_5, nl_0_6, nl_0_7, nl_0_8, nl_1_0, nl_1_2, nl_1_3, nl_1_4, nl_1_5, nl_1_6, nl_1_7, nl_1_8, nl_2_0, nl_2_1, nl_2_3, nl_2_4, nl_2_5, nl_2_6, nl_2_7, nl_2_8, nl_3_0, nl_3_1, nl_3_2, nl_3_4, nl_3_5, nl_3_6, nl_3_7, nl_3_8, nl_4_0, nl_4_1, nl_4_2, nl_4_3, nl_4_5, nl_4_6, nl_4_7, nl_4_8, nl_5_0, nl_5_1, nl_5_2, nl_5_3, nl_5_4, nl_5_6, nl_5_7, nl_5_8, nl_6_0, nl_6_1, nl_6_2, nl_6_3, nl_6_4, nl_6_5, nl_6_7, nl_6_8, nl_7_0, nl_7_1, nl_7_2, nl_7_3, nl_7_4, nl_7_5, nl_7_6, nl_7_8, nl_8_0, nl_8_1, nl_8_2, nl_8_3, nl_8_4, nl_8_5, nl_8_6, nl_8_7, kd_0, rf_0_0, rf_0_1, rf_0_2, rf_0_3, rf_0_4, rf_0_5, rf_0_6, rf_0_7, rf_0_8, is_8_0, kd_1, rf_1_0, rf_1_1, rf_1_2, rf_1_3, rf_1_4, rf_1_5, rf_1_6, is_5_1, kd_17, rf_17_0, rf_17_1, rf_17_2, rf_17_3, rf_17_4, rf_17_5, rf_17_6, is_7_17, sp_isIn, bI_n0, qT, r1, sp_wholeMiss g1.2.1 hn, a1, a2, g1.2.2.1, g1.2.2.2.1]
      · rw [en_X9_miss]
        simp only [cs8_0, cs8_1, cs8_2, cs8_3, cs8_4, decide_eq_true_eq, ev_ald0, ev_aldn0, ev_cs3, ev_cv0, ev_cv1, ev_i, ev_if0, ev_ild1, ev_ri, i00, i01, i10, not_false_eq_true, not_true_eq_false, pm_bd_s, pm_tl_n, pm_tl_s, ↓reduceIte, pb_X9_miss_0, pb_X9_miss_1, nl_0_1, nl_0_2, nl_0_3, nl_0_4, nl_0_5, nl_0_6, nl_0_7, nl_0_8, nl_1_0, nl_1_2, nl_1_3, nl_1_4, nl_1_5, nl_1_6, nl_1_7, nl_1_8, nl_2_0, nl_2_1, nl_2_3, nl_2_4, nl_2_5, nl_2_6, nl_2_7, nl_2_8, nl_3_0, nl_3_1, nl_3_2, nl_3_4, nl_3_5, nl_3_6, nl_3_7, nl_3_8, nl_4_0, nl_4_1, nl_4_2, nl_4_3, nl_4_5, nl_4_6, nl_4_7, nl_4_8, nl_5_0, nl_5_1, nl_5_2, nl_5_3, nl_5_4, nl_5_6, nl_5_7, nl_5_8, nl_6_0, nl_6_1, nl_6_2, nl_6_3, nl_6_4, nl_6_5, nl_6_7, nl_6_8, nl_7_0, nl_7_1, nl_7_2, nl_7_3, nl_7_4, nl_7_5, nl_7_6, nl_7_8, nl_8_0, nl_8_1, nl_8_2, nl_8_3, nl_8_4, nl_8_5, nl_8_6, nl_8_7, kd_59, rf_59_0, rf_59_1, rf_59_3, rf_59_4, rf_59_5, rf_59_6, rf_59_7, rf_59_12, rf_59_14, rf_59_15, rf_59_16, rf_59_19, rf_59_23, rf_59_24, rf_59_25, rf_59_26, is_9_59, sr_isIn, bI_n0, qT, r2, sr_miss2 hn2 hn, b1, b2, e60]
  · refine Pr_e (e := 1) (x := -1000000001) hI (by omega) (by omega) ?_ ?_
    · rw [en_X8_miss]
      simp only [cs8_0, cs8_1, cs8_2, cs8_3, cs8_4, decide_eq_true_eq, ev_ald0, ev_aldn0, ev_cs3, ev_cv0, ev_cv1, ev_cv2, ev_gr, ev_i, ev_if0, ev_ild1, ev_ri, ev_sw_0, ev_sw_1, i00, i01, i10, not_false_eq_true, not_true_eq_false, pm_bd_s, pm_tl_n, pm_tl_s, ↓reduceIte, pb_X8_miss_0, pb_X8_miss_1, pb_X8_miss_2, pb_X8_miss_3, pb_X8_miss_4, kd_0, rf_0_0, rf_0_1, rf_0_2, rf_0_3, rf_0_4, rf_0_5, rf_0_6, rf_0_7, rf_0_8, is_8_0, sp_isIn, bI_n0, eq_false q, fail_1, F1]
    · rw [en_X9_miss]
      simp only [cs8_0, cs8_1, cs8_2, cs8_3, cs8_4, decide_eq_true_eq, ev_ald0, ev_aldn0, ev_cs3, ev_cv0, ev_cv1, ev_i, ev_if0, ev_ild1, ev_ri, i00, i01, i10, not_false_eq_true, not_true_eq_false, pm_bd_s, pm_tl_n, pm_tl_s, ↓reduceIte, pb_X9_miss_0, pb_X9_miss_1, kd_59, rf_59_0, rf_59_1, rf_59_3, rf_59_4, rf_59_5, rf_59_6, rf_59_7, rf_59_12, rf_59_14, rf_59_15, rf_59_16, rf_59_19, rf_59_23, rf_59_24, rf_59_25, rf_59_26, is_9_59, sr_isIn, bI_n0, eq_false q, find_1]
/-- does the line cross side 0 in a mile -/
def crB (S : Nat → Int32) (j : Nat) : Bool := decide ((S j < 0 ∧ 0 < S (j + 1)) ∨ (0 < S j ∧ S (j + 1) < 0))
theorem cr_cases (x y : Int32) : (0 ≤ x ∨ ¬ 0 < y) ∧ (x ≤ 0 ∨ 0 ≤ y) ↔ ¬ ((x < 0 ∧ 0 < y) ∨ (0 < x ∧ y < 0)) := by
  constructor
  · rintro ⟨a, b⟩ (⟨c, e⟩ | ⟨c, e⟩)
    · rcases a with a | a
      · exact absurd c (Int32.not_lt.mpr a)
      · exact a e
    · rcases b with b | b
      · exact absurd c (Int32.not_lt.mpr b)
      · exact absurd e (Int32.not_lt.mpr b)
  · intro hn
    refine ⟨?_, ?_⟩
    · by_cases a : 0 ≤ x
      · exact Or.inl a
      · exact Or.inr (fun b => hn (Or.inl ⟨Int32.not_le.mp a, b⟩))
    · by_cases a : x ≤ 0
      · exact Or.inl a
      · by_cases b : 0 ≤ y
        · exact Or.inr b
        · exact absurd (Or.inr ⟨Int32.not_le.mp a, Int32.not_le.mp b⟩) hn
set_option maxRecDepth 100000 in
theorem lp_crossC {n : Nat} {S : Nat → Int32} (hn3 : h.1 3 3 = nI n) (h7 : h.1 17 7 = nI n) (hn : n ≤ 24) (hS : ∀ j, j ≤ n → h.1 52 j = S j) : ∀ (k i : Nat) (a : Int32) (x y : Option Value), i + k = n → pm_c2 x = false → pm_c2 y = false → pm_ev P_X8_crosses (rs fb (d + 2)) (P_X8_crosses 1) [some (.ref 0), some (.int a), some (.int (nI i)), x, y] [] h = some (some (.int (smA (crB S) (fun _ => 1) i k a)), h) := by
  intro k
  induction k with
  | zero =>
    intro i a x y hi hx hy
    have e1 : nI n ≤ nI i := nI_le (by omega) (by omega)
    rw [pb_X8_crosses_1]
    simp only [c20, c2i, c2n, c2r, cs8_0, cs8_1, cs8_2, cs8_3, cs8_4, decide_eq_true_eq, ev_ald0, ev_aldn0, ev_bin, ev_cv0, ev_cv1, ev_cv2, ev_go, ev_gr, ev_i, ev_if0, ev_if2, ev_ild1, ev_ild2, ev_ild3, ev_ild4, ev_inc1, ev_inc2, ev_ist1, ev_ist2, ev_ist3, ev_ist4, ev_ri, i00, i01, i10, is_sw, not_false_eq_true, not_true_eq_false, pm_bd_s, pm_tl_n, pm_tl_s, ↓reduceIte, pb_X8_crosses_5, kd_0, rf_0_0, rf_0_1, rf_0_2, rf_0_3, rf_0_4, rf_0_5, rf_0_6, rf_0_7, rf_0_8, is_8_0, kd_1, rf_1_0, rf_1_1, rf_1_2, rf_1_3, rf_1_4, rf_1_5, rf_1_6, is_5_1, kd_3, rf_3_2, fc_3_0, fc_3_1, is_6_3_3, is_3_6_3, sp_used, hn3, e1, smA]
  | succ k ih =>
    intro i a x y hi hx hy
    have e1 : ¬ nI n ≤ nI i := nI_ge (by omega) (by omega)
    have s1 := sp_sideOf (fb := fb) (d := d) (h := h) (j := i) h7 hn (by omega)
    have s2 := sp_sideOf (fb := fb) (d := d) (h := h) (j := i + 1) h7 hn (by omega)
    rw [hS i (by omega)] at s1
    rw [hS (i + 1) (by omega)] at s2
    rw [pb_X8_crosses_1, smA]
    unfold crB
    by_cases p1 : 0 ≤ S i
    · have p1' : ¬ S i < 0 := Int32.not_lt.mpr p1
      by_cases p2 : S i ≤ 0
      · have p2' : ¬ 0 < S i := Int32.not_lt.mpr p2
        simp only [c20, c2i, c2n, c2r, cs8_0, cs8_1, cs8_2, cs8_3, cs8_4, decide_eq_true_eq, ev_ald0, ev_aldn0, ev_bin, ev_cv0, ev_cv1, ev_cv2, ev_go, ev_gr, ev_i, ev_if0, ev_if2, ev_ild1, ev_ild2, ev_ild3, ev_ild4, ev_inc1, ev_inc2, ev_ist1, ev_ist2, ev_ist3, ev_ist4, ev_ri, i00, i01, i10, is_sw, not_false_eq_true, not_true_eq_false, pm_bd_s, pm_tl_n, pm_tl_s, ↓reduceIte, pb_X8_crosses_2, pb_X8_crosses_3, pb_X8_crosses_4, kd_0, rf_0_0, rf_0_1, rf_0_2, rf_0_3, rf_0_4, rf_0_5, rf_0_6, rf_0_7, rf_0_8, is_8_0, kd_1, rf_1_0, rf_1_1, rf_1_2, rf_1_3, rf_1_4, rf_1_5, rf_1_6, is_5_1, kd_3, rf_3_2, fc_3_0, fc_3_1, is_6_3_3, is_3_6_3, kd_17, rf_17_0, rf_17_1, rf_17_2, rf_17_3, rf_17_4, rf_17_5, rf_17_6, is_7_17, sp_used, hn3, e1, nI_1, s1, s2, p1, p2, p1', p2', false_and, or_self, decide_false, Bool.false_eq_true, hx, hy]
        exact ih (i + 1) _ _ _ (by omega) rfl rfl
      · have p2' : 0 < S i := Int32.not_le.mp p2
        by_cases p3 : 0 ≤ S (i + 1)
        · have p3' : ¬ S (i + 1) < 0 := Int32.not_lt.mpr p3
          simp only [c20, c2i, c2n, c2r, cs8_0, cs8_1, cs8_2, cs8_3, cs8_4, decide_eq_true_eq, ev_ald0, ev_aldn0, ev_bin, ev_cv0, ev_cv1, ev_cv2, ev_go, ev_gr, ev_i, ev_if0, ev_if2, ev_ild1, ev_ild2, ev_ild3, ev_ild4, ev_inc1, ev_inc2, ev_ist1, ev_ist2, ev_ist3, ev_ist4, ev_ri, i00, i01, i10, is_sw, not_false_eq_true, not_true_eq_false, pm_bd_s, pm_tl_n, pm_tl_s, ↓reduceIte, pb_X8_crosses_2, pb_X8_crosses_3, pb_X8_crosses_4, kd_0, rf_0_0, rf_0_1, rf_0_2, rf_0_3, rf_0_4, rf_0_5, rf_0_6, rf_0_7, rf_0_8, is_8_0, kd_1, rf_1_0, rf_1_1, rf_1_2, rf_1_3, rf_1_4, rf_1_5, rf_1_6, is_5_1, kd_3, rf_3_2, fc_3_0, fc_3_1, is_6_3_3, is_3_6_3, kd_17, rf_17_0, rf_17_1, rf_17_2, rf_17_3, rf_17_4, rf_17_5, rf_17_6, is_7_17, sp_used, hn3, e1, nI_1, s1, s2, p1, p2, p3, p1', p2', p3', false_and, and_false, or_self, decide_false, Bool.false_eq_true, hx, hy]
          exact ih (i + 1) _ _ _ (by omega) rfl rfl
        · have p3' : S (i + 1) < 0 := Int32.not_le.mp p3
          simp only [c20, c2i, c2n, c2r, cs8_0, cs8_1, cs8_2, cs8_3, cs8_4, decide_eq_true_eq, ev_ald0, ev_aldn0, ev_bin, ev_cv0, ev_cv1, ev_cv2, ev_go, ev_gr, ev_i, ev_if0, ev_if2, ev_ild1, ev_ild2, ev_ild3, ev_ild4, ev_inc1, ev_inc2, ev_ist1, ev_ist2, ev_ist3, ev_ist4, ev_ri, i00, i01, i10, is_sw, not_false_eq_true, not_true_eq_false, pm_bd_s, pm_tl_n, pm_tl_s, ↓reduceIte, pb_X8_crosses_2, pb_X8_crosses_3, pb_X8_crosses_4, kd_0, rf_0_0, rf_0_1, rf_0_2, rf_0_3, rf_0_4, rf_0_5, rf_0_6, rf_0_7, rf_0_8, is_8_0, kd_1, rf_1_0, rf_1_1, rf_1_2, rf_1_3, rf_1_4, rf_1_5, rf_1_6, is_5_1, kd_3, rf_3_2, fc_3_0, fc_3_1, is_6_3_3, is_3_6_3, kd_17, rf_17_0, rf_17_1, rf_17_2, rf_17_3, rf_17_4, rf_17_5, rf_17_6, is_7_17, sp_used, hn3, e1, nI_1, s1, s2, p1, p2, p3, p1', p2', p3', false_and, and_self, or_true, decide_true, hx, hy]
          exact ih (i + 1) _ _ _ (by omega) rfl rfl
    · have p1' : S i < 0 := Int32.not_le.mp p1
      have p2 : S i ≤ 0 := Int32.le_of_lt p1'
      have p2' : ¬ 0 < S i := Int32.not_lt.mpr p2
      by_cases p4 : 0 < S (i + 1)
      · simp only [c20, c2i, c2n, c2r, cs8_0, cs8_1, cs8_2, cs8_3, cs8_4, decide_eq_true_eq, ev_ald0, ev_aldn0, ev_bin, ev_cv0, ev_cv1, ev_cv2, ev_go, ev_gr, ev_i, ev_if0, ev_if2, ev_ild1, ev_ild2, ev_ild3, ev_ild4, ev_inc1, ev_inc2, ev_ist1, ev_ist2, ev_ist3, ev_ist4, ev_ri, i00, i01, i10, is_sw, not_false_eq_true, not_true_eq_false, pm_bd_s, pm_tl_n, pm_tl_s, ↓reduceIte, pb_X8_crosses_2, pb_X8_crosses_3, pb_X8_crosses_4, kd_0, rf_0_0, rf_0_1, rf_0_2, rf_0_3, rf_0_4, rf_0_5, rf_0_6, rf_0_7, rf_0_8, is_8_0, kd_1, rf_1_0, rf_1_1, rf_1_2, rf_1_3, rf_1_4, rf_1_5, rf_1_6, is_5_1, kd_3, rf_3_2, fc_3_0, fc_3_1, is_6_3_3, is_3_6_3, kd_17, rf_17_0, rf_17_1, rf_17_2, rf_17_3, rf_17_4, rf_17_5, rf_17_6, is_7_17, sp_used, hn3, e1, nI_1, s1, s2, p1, p2, p4, p1', p2', false_and, and_self, true_or, decide_true, hx, hy]
        exact ih (i + 1) _ _ _ (by omega) rfl rfl
      · simp only [c20, c2i, c2n, c2r, cs8_0, cs8_1, cs8_2, cs8_3, cs8_4, decide_eq_true_eq, ev_ald0, ev_aldn0, ev_bin, ev_cv0, ev_cv1, ev_cv2, ev_go, ev_gr, ev_i, ev_if0, ev_if2, ev_ild1, ev_ild2, ev_ild3, ev_ild4, ev_inc1, ev_inc2, ev_ist1, ev_ist2, ev_ist3, ev_ist4, ev_ri, i00, i01, i10, is_sw, not_false_eq_true, not_true_eq_false, pm_bd_s, pm_tl_n, pm_tl_s, ↓reduceIte, pb_X8_crosses_2, pb_X8_crosses_3, pb_X8_crosses_4, kd_0, rf_0_0, rf_0_1, rf_0_2, rf_0_3, rf_0_4, rf_0_5, rf_0_6, rf_0_7, rf_0_8, is_8_0, kd_1, rf_1_0, rf_1_1, rf_1_2, rf_1_3, rf_1_4, rf_1_5, rf_1_6, is_5_1, kd_3, rf_3_2, fc_3_0, fc_3_1, is_6_3_3, is_3_6_3, kd_17, rf_17_0, rf_17_1, rf_17_2, rf_17_3, rf_17_4, rf_17_5, rf_17_6, is_7_17, sp_used, hn3, e1, nI_1, s1, s2, p1, p2, p4, p1', p2', false_and, and_false, or_self, decide_false, Bool.false_eq_true, hx, hy]
        exact ih (i + 1) _ _ _ (by omega) rfl rfl
set_option maxRecDepth 100000 in
theorem lp_crossR {n : Nat} {S : Nat → Int32} (hn0 : h.1 60 0 = nI n) (hn : n ≤ 24) (hS : ∀ j, j ≤ n → h.1 63 j = S j) : ∀ (k i : Nat) (a : Int32), i + k = n → pm_ev P_X9_crosses (rs fb d) (P_X9_crosses 1) [some (.ref 59), some (.int a), some (.int (nI i))] [] h = some (some (.int (smA (crB S) (fun _ => 1) i k a)), h) := by
  have ix0 : pm_ix (0 : Int32) 440 = true := by decide
  have cl0 : (0 : Int32).toNatClampNeg = 0 := by decide
  intro k
  induction k with
  | zero =>
    intro i a hi
    have e1 : nI n ≤ nI i := nI_le (by omega) (by omega)
    rw [pb_X9_crosses_1]
    simp only [c20, c2i, c2n, c2r, cs8_0, cs8_1, cs8_2, cs8_3, cs8_4, decide_eq_true_eq, ev_ald0, ev_aldn0, ev_bin, ev_cv0, ev_go, ev_gr, ev_i, ev_ia, ev_if0, ev_if2, ev_ild1, ev_ild2, ev_inc2, ev_ist1, ev_ist2, ev_ri, i00, i01, i10, not_false_eq_true, not_true_eq_false, pm_bd_s, pm_tl_n, pm_tl_s, ↓reduceIte, pb_X9_crosses_6, kd_59, rf_59_0, rf_59_1, rf_59_3, rf_59_4, rf_59_5, rf_59_6, rf_59_7, rf_59_12, rf_59_14, rf_59_15, rf_59_16, rf_59_19, rf_59_23, rf_59_24, rf_59_25, rf_59_26, is_9_59, kd_60, al_60, ix0, cl0, hn0, e1, smA]
  | succ k ih =>
    intro i a hi
    have e1 : ¬ nI n ≤ nI i := nI_ge (by omega) (by omega)
    have x1 : pm_ix (nI i) 25 = true := pm_ix_n (by omega) (by omega)
    have x2 : pm_ix (nI (i + 1)) 25 = true := pm_ix_n (by omega) (by omega)
    have c1 := nI_clamp (show i < 2 ^ 31 by omega)
    have c2 := nI_clamp (show i + 1 < 2 ^ 31 by omega)
    have s1 := hS i (by omega)
    have s2 := hS (i + 1) (by omega)
    rw [pb_X9_crosses_1, smA]
    unfold crB
    by_cases p1 : 0 ≤ S i
    · have p1' : ¬ S i < 0 := Int32.not_lt.mpr p1
      by_cases p2 : S i ≤ 0
      · have p2' : ¬ 0 < S i := Int32.not_lt.mpr p2
        simp only [c20, c2i, c2n, c2r, cs8_0, cs8_1, cs8_2, cs8_3, cs8_4, decide_eq_true_eq, ev_ald0, ev_aldn0, ev_bin, ev_cv0, ev_go, ev_gr, ev_i, ev_ia, ev_if0, ev_if2, ev_ild1, ev_ild2, ev_inc2, ev_ist1, ev_ist2, ev_ri, i00, i01, i10, not_false_eq_true, not_true_eq_false, pm_bd_s, pm_tl_n, pm_tl_s, ↓reduceIte, pb_X9_crosses_2, pb_X9_crosses_3, pb_X9_crosses_4, pb_X9_crosses_5, kd_59, rf_59_0, rf_59_1, rf_59_3, rf_59_4, rf_59_5, rf_59_6, rf_59_7, rf_59_12, rf_59_14, rf_59_15, rf_59_16, rf_59_19, rf_59_23, rf_59_24, rf_59_25, rf_59_26, is_9_59, kd_60, al_60, kd_63, al_63, ix0, cl0, hn0, e1, x1, x2, c1, c2, nI_1, s1, s2, p1, p2, p1', p2', false_and, or_self, decide_false, Bool.false_eq_true, add0]
        exact ih (i + 1) _ (by omega)
      · have p2' : 0 < S i := Int32.not_le.mp p2
        by_cases p3 : 0 ≤ S (i + 1)
        · have p3' : ¬ S (i + 1) < 0 := Int32.not_lt.mpr p3
          simp only [c20, c2i, c2n, c2r, cs8_0, cs8_1, cs8_2, cs8_3, cs8_4, decide_eq_true_eq, ev_ald0, ev_aldn0, ev_bin, ev_cv0, ev_go, ev_gr, ev_i, ev_ia, ev_if0, ev_if2, ev_ild1, ev_ild2, ev_inc2, ev_ist1, ev_ist2, ev_ri, i00, i01, i10, not_false_eq_true, not_true_eq_false, pm_bd_s, pm_tl_n, pm_tl_s, ↓reduceIte, pb_X9_crosses_2, pb_X9_crosses_3, pb_X9_crosses_4, pb_X9_crosses_5, kd_59, rf_59_0, rf_59_1, rf_59_3, rf_59_4, rf_59_5, rf_59_6, rf_59_7, rf_59_12, rf_59_14, rf_59_15, rf_59_16, rf_59_19, rf_59_23, rf_59_24, rf_59_25, rf_59_26, is_9_59, kd_60, al_60, kd_63, al_63, ix0, cl0, hn0, e1, x1, x2, c1, c2, nI_1, s1, s2, p1, p2, p3, p1', p2', p3', false_and, and_false, or_self, decide_false, Bool.false_eq_true, add0]
          exact ih (i + 1) _ (by omega)
        · have p3' : S (i + 1) < 0 := Int32.not_le.mp p3
          simp only [c20, c2i, c2n, c2r, cs8_0, cs8_1, cs8_2, cs8_3, cs8_4, decide_eq_true_eq, ev_ald0, ev_aldn0, ev_bin, ev_cv0, ev_go, ev_gr, ev_i, ev_ia, ev_if0, ev_if2, ev_ild1, ev_ild2, ev_inc2, ev_ist1, ev_ist2, ev_ri, i00, i01, i10, not_false_eq_true, not_true_eq_false, pm_bd_s, pm_tl_n, pm_tl_s, ↓reduceIte, pb_X9_crosses_2, pb_X9_crosses_3, pb_X9_crosses_4, pb_X9_crosses_5, kd_59, rf_59_0, rf_59_1, rf_59_3, rf_59_4, rf_59_5, rf_59_6, rf_59_7, rf_59_12, rf_59_14, rf_59_15, rf_59_16, rf_59_19, rf_59_23, rf_59_24, rf_59_25, rf_59_26, is_9_59, kd_60, al_60, kd_63, al_63, ix0, cl0, hn0, e1, x1, x2, c1, c2, nI_1, s1, s2, p1, p2, p3, p1', p2', p3', false_and, and_self, or_true, decide_true]
          exact ih (i + 1) _ (by omega)
    · have p1' : S i < 0 := Int32.not_le.mp p1
      have p2 : S i ≤ 0 := Int32.le_of_lt p1'
      have p2' : ¬ 0 < S i := Int32.not_lt.mpr p2
      by_cases p4 : 0 < S (i + 1)
      · simp only [c20, c2i, c2n, c2r, cs8_0, cs8_1, cs8_2, cs8_3, cs8_4, decide_eq_true_eq, ev_ald0, ev_aldn0, ev_bin, ev_cv0, ev_go, ev_gr, ev_i, ev_ia, ev_if0, ev_if2, ev_ild1, ev_ild2, ev_inc2, ev_ist1, ev_ist2, ev_ri, i00, i01, i10, not_false_eq_true, not_true_eq_false, pm_bd_s, pm_tl_n, pm_tl_s, ↓reduceIte, pb_X9_crosses_2, pb_X9_crosses_3, pb_X9_crosses_4, pb_X9_crosses_5, kd_59, rf_59_0, rf_59_1, rf_59_3, rf_59_4, rf_59_5, rf_59_6, rf_59_7, rf_59_12, rf_59_14, rf_59_15, rf_59_16, rf_59_19, rf_59_23, rf_59_24, rf_59_25, rf_59_26, is_9_59, kd_60, al_60, kd_63, al_63, ix0, cl0, hn0, e1, x1, x2, c1, c2, nI_1, s1, s2, p1, p2, p4, p1', p2', false_and, and_self, true_or, decide_true]
        exact ih (i + 1) _ (by omega)
      · simp only [c20, c2i, c2n, c2r, cs8_0, cs8_1, cs8_2, cs8_3, cs8_4, decide_eq_true_eq, ev_ald0, ev_aldn0, ev_bin, ev_cv0, ev_go, ev_gr, ev_i, ev_ia, ev_if0, ev_if2, ev_ild1, ev_ild2, ev_inc2, ev_ist1, ev_ist2, ev_ri, i00, i01, i10, not_false_eq_true, not_true_eq_false, pm_bd_s, pm_tl_n, pm_tl_s, ↓reduceIte, pb_X9_crosses_2, pb_X9_crosses_3, pb_X9_crosses_4, pb_X9_crosses_5, kd_59, rf_59_0, rf_59_1, rf_59_3, rf_59_4, rf_59_5, rf_59_6, rf_59_7, rf_59_12, rf_59_14, rf_59_15, rf_59_16, rf_59_19, rf_59_23, rf_59_24, rf_59_25, rf_59_26, is_9_59, kd_60, al_60, kd_63, al_63, ix0, cl0, hn0, e1, x1, x2, c1, c2, nI_1, s1, s2, p1, p2, p4, p1', p2', false_and, and_false, or_self, decide_false, Bool.false_eq_true, add0]
        exact ih (i + 1) _ (by omega)
theorem Gn_3 {h1 : pm_HP} {n u : Nat} (g : Gn h h1 n u) : h1.1 3 = h.1 3 := g.1.1 3 (by decide)
theorem pr_crosses (hI : Inv h) : Pr fb (d + 100) n_X8_crosses n_X9_crosses [] h := by
  obtain ⟨⟨n, u, nt, nb, nw, iN⟩, iZ, iM, iS, iT, iB, iW, iX, iY⟩ := id hI.1
  obtain ⟨h1, h2, r1, g1, r2, g2, hI2⟩ := go2 (fb := fb) (d := d) hI iN
  have hn := iN.1.2.2.2
  have hn3 : h1.1 3 3 = nI n := by rw [Gn_3 g1]; exact iN.1.1
  have hn0 : h2.1 60 0 = nI n := by rw [Gr_60 g1 g2]; exact iN.1.2.1
  refine ⟨smA (crB (SDf h u)) (fun _ => 1) 0 n 0, h1, h2, ?_, ?_, hI2⟩
  · have e := lp_crossC (fb := fb) (d := d + 97) (h := h1) (S := SDf h u) hn3 g1.2.1 hn (fun j hj => (g1.2.2.2.2.1 j hj).1) n 0 0 none none (by omega) rfl rfl
    rw [nI_0] at e
    rw [en_X8_crosses]
    simp only [c20, c2i, c2n, c2r, cs8_0, cs8_1, cs8_2, cs8_3, cs8_4, decide_eq_true_eq, ev_ald0, ev_aldn0, ev_bin, ev_cv0, ev_cv1, ev_cv2, ev_go, ev_gr, ev_i, ev_if0, ev_if2, ev_ild1, ev_ild2, ev_ild3, ev_ild4, ev_inc1, ev_inc2, ev_ist1, ev_ist2, ev_ist3, ev_ist4, ev_ri, i00, i01, i10, is_sw, not_false_eq_true, not_true_eq_false, pm_bd_s, pm_tl_n, pm_tl_s, ↓reduceIte, pb_X8_crosses_0, kd_0, rf_0_0, rf_0_1, rf_0_2, rf_0_3, rf_0_4, rf_0_5, rf_0_6, rf_0_7, rf_0_8, is_8_0, kd_1, rf_1_0, rf_1_1, rf_1_2, rf_1_3, rf_1_4, rf_1_5, rf_1_6, is_5_1, kd_17, rf_17_0, rf_17_1, rf_17_2, rf_17_3, rf_17_4, rf_17_5, rf_17_6, is_7_17, r1]
    exact e
  · have e := lp_crossR (fb := fb) (d := d + 99) (h := h2) (S := SDf h u) hn0 hn (fun j hj => (g2.2.1 j hj).1) n 0 0 (by omega)
    rw [nI_0] at e
    rw [en_X9_crosses]
    simp only [c20, c2i, c2n, c2r, cs8_0, cs8_1, cs8_2, cs8_3, cs8_4, decide_eq_true_eq, ev_ald0, ev_aldn0, ev_bin, ev_cv0, ev_go, ev_gr, ev_i, ev_ia, ev_if0, ev_if2, ev_ild1, ev_ild2, ev_inc2, ev_ist1, ev_ist2, ev_ri, i00, i01, i10, not_false_eq_true, not_true_eq_false, pm_bd_s, pm_tl_n, pm_tl_s, ↓reduceIte, pb_X9_crosses_0, kd_59, rf_59_0, rf_59_1, rf_59_3, rf_59_4, rf_59_5, rf_59_6, rf_59_7, rf_59_12, rf_59_14, rf_59_15, rf_59_16, rf_59_19, rf_59_23, rf_59_24, rf_59_25, rf_59_26, is_9_59, r2]
    exact e
/-- where the heading is greatest -/
def lnA (T : Nat → Int32) : Nat → Nat → Nat → Nat
  | _, 0, b => b
  | i, k + 1, b => lnA T (i + 1) k (if ab32 (T i) ≤ ab32 (T b) then b else i)
set_option maxRecDepth 100000 in
theorem lp_leanC {n : Nat} {T : Nat → Int32} (hn3 : h.1 3 3 = nI n) (h7 : h.1 17 7 = nI n) (hn : n ≤ 24) (hT : ∀ j, j < n → h.1 54 j = T j) : ∀ (k i b : Nat), i + k = n → b < i → pm_ev P_X8_leaning (rs fb (d + 2)) (P_X8_leaning 1) [some (.ref 0), some (.int (nI b)), some (.int (nI i))] [] h = some (some (.int (nI (lnA T i k b))), h) := by
  intro k
  induction k with
  | zero =>
    intro i b hi hb
    have e1 : nI n ≤ nI i := nI_le (by omega) (by omega)
    rw [pb_X8_leaning_1]
    simp only [c20, c2i, c2n, c2r, cs8_0, cs8_1, cs8_2, cs8_3, cs8_4, decide_eq_true_eq, ev_ald0, ev_aldn0, ev_cv0, ev_cv1, ev_cv2, ev_go, ev_gr, ev_i, ev_if2, ev_ild1, ev_ild2, ev_inc2, ev_ist1, ev_ist2, ev_m1, ev_ri, i00, i01, i10, is_sw, not_false_eq_true, not_true_eq_false, pm_bd_s, pm_tl_n, pm_tl_s, ↓reduceIte, pb_X8_leaning_3, kd_0, rf_0_0, rf_0_1, rf_0_2, rf_0_3, rf_0_4, rf_0_5, rf_0_6, rf_0_7, rf_0_8, is_8_0, kd_1, rf_1_0, rf_1_1, rf_1_2, rf_1_3, rf_1_4, rf_1_5, rf_1_6, is_5_1, kd_3, rf_3_2, fc_3_0, fc_3_1, is_6_3_3, is_3_6_3, sp_used, hn3, e1, lnA]
  | succ k ih =>
    intro i b hi hb
    have e1 : ¬ nI n ≤ nI i := nI_ge (by omega) (by omega)
    have s1 := sp_headingIn (fb := fb) (d := d) (h := h) (j := i) h7 hn (by omega)
    have s2 := sp_headingIn (fb := fb) (d := d) (h := h) (j := b) h7 hn (by omega)
    rw [hT i (by omega)] at s1
    rw [hT b (by omega)] at s2
    have ab : ∀ x : Int32, (if 0 ≤ x then x else 0 - x) = ab32 x := fun _ => rfl
    rw [pb_X8_leaning_1, lnA]
    by_cases p : ab32 (T i) ≤ ab32 (T b)
    · simp only [c20, c2i, c2n, c2r, cs8_0, cs8_1, cs8_2, cs8_3, cs8_4, decide_eq_true_eq, ev_ald0, ev_aldn0, ev_cv0, ev_cv1, ev_cv2, ev_go, ev_gr, ev_i, ev_if2, ev_ild1, ev_ild2, ev_inc2, ev_ist1, ev_ist2, ev_m1, ev_ri, i00, i01, i10, is_sw, not_false_eq_true, not_true_eq_false, pm_bd_s, pm_tl_n, pm_tl_s, ↓reduceIte, pb_X8_leaning_2, kd_0, rf_0_0, rf_0_1, rf_0_2, rf_0_3, rf_0_4, rf_0_5, rf_0_6, rf_0_7, rf_0_8, is_8_0, kd_1, rf_1_0, rf_1_1, rf_1_2, rf_1_3, rf_1_4, rf_1_5, rf_1_6, is_5_1, kd_3, rf_3_2, fc_3_0, fc_3_1, is_6_3_3, is_3_6_3, kd_17, rf_17_0, rf_17_1, rf_17_2, rf_17_3, rf_17_4, rf_17_5, rf_17_6, is_7_17, sp_used, hn3, e1, nI_1, s1, s2, ab, p]
      exact ih (i + 1) b (by omega) (by omega)
    · simp only [c20, c2i, c2n, c2r, cs8_0, cs8_1, cs8_2, cs8_3, cs8_4, decide_eq_true_eq, ev_ald0, ev_aldn0, ev_cv0, ev_cv1, ev_cv2, ev_go, ev_gr, ev_i, ev_if2, ev_ild1, ev_ild2, ev_inc2, ev_ist1, ev_ist2, ev_m1, ev_ri, i00, i01, i10, is_sw, not_false_eq_true, not_true_eq_false, pm_bd_s, pm_tl_n, pm_tl_s, ↓reduceIte, pb_X8_leaning_2, kd_0, rf_0_0, rf_0_1, rf_0_2, rf_0_3, rf_0_4, rf_0_5, rf_0_6, rf_0_7, rf_0_8, is_8_0, kd_1, rf_1_0, rf_1_1, rf_1_2, rf_1_3, rf_1_4, rf_1_5, rf_1_6, is_5_1, kd_3, rf_3_2, fc_3_0, fc_3_1, is_6_3_3, is_3_6_3, kd_17, rf_17_0, rf_17_1, rf_17_2, rf_17_3, rf_17_4, rf_17_5, rf_17_6, is_7_17, sp_used, hn3, e1, nI_1, s1, s2, ab, p]
      exact ih (i + 1) i (by omega) (by omega)
set_option maxRecDepth 100000 in
theorem lp_leanR {n : Nat} {T : Nat → Int32} (hn0 : h.1 60 0 = nI n) (hn : n ≤ 24) (hT : ∀ j, j < n → h.1 65 j = T j) : ∀ (k i b : Nat), i + k = n ∨ (k = 0 ∧ n ≤ i) → b < i → i ≤ 25 → pm_ev P_X9_leaning (rs fb d) (P_X9_leaning 1) [some (.ref 59), some (.int (nI b)), some (.int (nI i))] [] h = some (some (.int (nI (lnA T i k b))), h) := by
  have ix0 : pm_ix (0 : Int32) 440 = true := by decide
  have cl0 : (0 : Int32).toNatClampNeg = 0 := by decide
  intro k
  induction k with
  | zero =>
    intro i b hi hb hi2
    have e1 : nI n ≤ nI i := nI_le (by omega) (by omega)
    rw [pb_X9_leaning_1]
    simp only [c20, c2i, c2n, c2r, cs8_0, cs8_1, cs8_2, cs8_3, cs8_4, decide_eq_true_eq, ev_ald0, ev_aldn0, ev_cv0, ev_go, ev_gr, ev_i, ev_ia, ev_if2, ev_ild1, ev_ild2, ev_inc2, ev_ist1, ev_ist2, ev_m1, ev_ri, i00, i01, i10, not_false_eq_true, not_true_eq_false, pm_bd_s, pm_tl_n, pm_tl_s, ↓reduceIte, pb_X9_leaning_4, kd_59, rf_59_0, rf_59_1, rf_59_3, rf_59_4, rf_59_5, rf_59_6, rf_59_7, rf_59_12, rf_59_14, rf_59_15, rf_59_16, rf_59_19, rf_59_23, rf_59_24, rf_59_25, rf_59_26, is_9_59, kd_60, al_60, ix0, cl0, hn0, e1, lnA]
  | succ k ih =>
    intro i b hi hb hi2
    have e1 : ¬ nI n ≤ nI i := nI_ge (by omega) (by omega)
    have x1 : pm_ix (nI i) 24 = true := pm_ix_n (by omega) (by omega)
    have x2 : pm_ix (nI b) 24 = true := pm_ix_n (by omega) (by omega)
    have c1 := nI_clamp (show i < 2 ^ 31 by omega)
    have c2 := nI_clamp (show b < 2 ^ 31 by omega)
    have ab : ∀ x : Int32, (if 0 ≤ x then x else 0 - x) = ab32 x := fun _ => rfl
    rw [pb_X9_leaning_1, lnA]
    by_cases p : ab32 (T i) ≤ ab32 (T b)
    · simp only [c20, c2i, c2n, c2r, cs8_0, cs8_1, cs8_2, cs8_3, cs8_4, decide_eq_true_eq, ev_ald0, ev_aldn0, ev_cv0, ev_go, ev_gr, ev_i, ev_ia, ev_if2, ev_ild1, ev_ild2, ev_inc2, ev_ist1, ev_ist2, ev_m1, ev_ri, i00, i01, i10, not_false_eq_true, not_true_eq_false, pm_bd_s, pm_tl_n, pm_tl_s, ↓reduceIte, pb_X9_leaning_2, pb_X9_leaning_3, kd_59, rf_59_0, rf_59_1, rf_59_3, rf_59_4, rf_59_5, rf_59_6, rf_59_7, rf_59_12, rf_59_14, rf_59_15, rf_59_16, rf_59_19, rf_59_23, rf_59_24, rf_59_25, rf_59_26, is_9_59, kd_60, al_60, kd_65, al_65, ix0, cl0, hn0, e1, x1, x2, c1, c2, nI_1, hT i (show i < n by omega), hT b (show b < n by omega), ab, p]
      exact ih (i + 1) b (by omega) (by omega) (by omega)
    · simp only [c20, c2i, c2n, c2r, cs8_0, cs8_1, cs8_2, cs8_3, cs8_4, decide_eq_true_eq, ev_ald0, ev_aldn0, ev_cv0, ev_go, ev_gr, ev_i, ev_ia, ev_if2, ev_ild1, ev_ild2, ev_inc2, ev_ist1, ev_ist2, ev_m1, ev_ri, i00, i01, i10, not_false_eq_true, not_true_eq_false, pm_bd_s, pm_tl_n, pm_tl_s, ↓reduceIte, pb_X9_leaning_2, pb_X9_leaning_3, kd_59, rf_59_0, rf_59_1, rf_59_3, rf_59_4, rf_59_5, rf_59_6, rf_59_7, rf_59_12, rf_59_14, rf_59_15, rf_59_16, rf_59_19, rf_59_23, rf_59_24, rf_59_25, rf_59_26, is_9_59, kd_60, al_60, kd_65, al_65, ix0, cl0, hn0, e1, x1, x2, c1, c2, nI_1, hT i (show i < n by omega), hT b (show b < n by omega), ab, p]
      exact ih (i + 1) i (by omega) (by omega) (by omega)
theorem pr_leaning (hI : Inv h) : Pr fb (d + 100) n_X8_leaning n_X9_leaning [] h := by
  obtain ⟨⟨n, u, nt, nb, nw, iN⟩, iZ, iM, iS, iT, iB, iW, iX, iY⟩ := id hI.1
  obtain ⟨h1, h2, r1, g1, r2, g2, hI2⟩ := go2 (fb := fb) (d := d) hI iN
  have hn := iN.1.2.2.2
  have hn1 := iN.1.2.2.1
  have hn3 : h1.1 3 3 = nI n := by rw [Gn_3 g1]; exact iN.1.1
  have hn0 : h2.1 60 0 = nI n := by rw [Gr_60 g1 g2]; exact iN.1.2.1
  refine ⟨nI (lnA (fun j => TNf h u (j + 1)) 1 (n - 1) 0), h1, h2, ?_, ?_, hI2⟩
  · have e := lp_leanC (fb := fb) (d := d + 97) (h := h1) (T := fun j => TNf h u (j + 1)) hn3 g1.2.1 hn (fun j hj => (g1.2.2.2.2.2 j hj).1) (n - 1) 1 0 (by omega) (by omega)
    rw [nI_0] at e
    rw [en_X8_leaning]
    simp only [c20, c2i, c2n, c2r, cs8_0, cs8_1, cs8_2, cs8_3, cs8_4, decide_eq_true_eq, ev_ald0, ev_aldn0, ev_cv0, ev_cv1, ev_cv2, ev_go, ev_gr, ev_i, ev_if2, ev_ild1, ev_ild2, ev_inc2, ev_ist1, ev_ist2, ev_m1, ev_ri, i00, i01, i10, is_sw, not_false_eq_true, not_true_eq_false, pm_bd_s, pm_tl_n, pm_tl_s, ↓reduceIte, pb_X8_leaning_0, kd_0, rf_0_0, rf_0_1, rf_0_2, rf_0_3, rf_0_4, rf_0_5, rf_0_6, rf_0_7, rf_0_8, is_8_0, kd_1, rf_1_0, rf_1_1, rf_1_2, rf_1_3, rf_1_4, rf_1_5, rf_1_6, is_5_1, kd_17, rf_17_0, rf_17_1, rf_17_2, rf_17_3, rf_17_4, rf_17_5, rf_17_6, is_7_17, r1]
    exact e
  · have e := lp_leanR (fb := fb) (d := d + 99) (h := h2) (T := fun j => TNf h u (j + 1)) hn0 hn (fun j hj => g2.2.2 j hj) (n - 1) 1 0 (by omega) (by omega) (by omega)
    rw [nI_0] at e
    rw [en_X9_leaning]
    simp only [c20, c2i, c2n, c2r, cs8_0, cs8_1, cs8_2, cs8_3, cs8_4, decide_eq_true_eq, ev_ald0, ev_aldn0, ev_cv0, ev_go, ev_gr, ev_i, ev_ia, ev_if2, ev_ild1, ev_ild2, ev_inc2, ev_ist1, ev_ist2, ev_m1, ev_ri, i00, i01, i10, not_false_eq_true, not_true_eq_false, pm_bd_s, pm_tl_n, pm_tl_s, ↓reduceIte, pb_X9_leaning_0, kd_59, rf_59_0, rf_59_1, rf_59_3, rf_59_4, rf_59_5, rf_59_6, rf_59_7, rf_59_12, rf_59_14, rf_59_15, rf_59_16, rf_59_19, rf_59_23, rf_59_24, rf_59_25, rf_59_26, is_9_59, r2]
    exact e
end P7
