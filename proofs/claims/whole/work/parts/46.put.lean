/-! PAIRS OF CALLS: put, sheet -/
theorem Inv_sh {h h' : pm_HP} (hI : Inv h) (E : ∀ a, ¬ (23 ≤ a ∧ a < 27) → ¬ (48 ≤ a ∧ a < 52) → ¬ (72 ≤ a ∧ a ≤ 74) → h'.1 a = h.1 a) (hh : RH h') : Inv h' := by
  obtain ⟨i1, i2, i3, i4, i5, i6⟩ := hI
  refine ⟨SR_eq i1 (E _ (by omega) (by omega) (by omega)) (E _ (by omega) (by omega) (by omega)) (fun k hk => E _ (by omega) (by omega) (by omega)) (fun k hk => E _ (by omega) (by omega) (by omega)), ?_, ?_, ?_, hh, ?_⟩
  · unfold RI
    rw [E 0 (by omega) (by omega) (by omega), E 59 (by omega) (by omega) (by omega)]
    exact ⟨i2.1, i2.2.imp id (fun q => SR_eq q (E _ (by omega) (by omega) (by omega)) (E _ (by omega) (by omega) (by omega)) (fun k hk => E _ (by omega) (by omega) (by omega)) (fun k hk => E _ (by omega) (by omega) (by omega)))⟩
  · unfold RE
    rw [E 28 (by omega) (by omega) (by omega), E 62 (by omega) (by omega) (by omega)]
    exact i3
  · unfold RV
    rw [E 22 (by omega) (by omega) (by omega), E 59 (by omega) (by omega) (by omega), E 47 (by omega) (by omega) (by omega), E 71 (by omega) (by omega) (by omega)]
    exact i4
  · unfold R0
    rw [E 52 (by omega) (by omega) (by omega), E 53 (by omega) (by omega) (by omega), E 63 (by omega) (by omega) (by omega), E 64 (by omega) (by omega) (by omega)]
    exact i6
theorem st_1 {i : Int32} {z : Nat} (hz : z ≤ 24) : (0 ≤ i ∧ 0 ≤ (1 : Int32) ∧ i ≤ nI z ∧ 1 ≤ nI z - i) ↔ ∃ j, j < z ∧ i = nI j := by
  constructor
  · rintro ⟨a, -, b, c⟩
    obtain ⟨j, hj, rfl⟩ := i_le (n := z) (by omega) ⟨a, b⟩
    refine ⟨j, ?_, rfl⟩
    rcases Nat.lt_or_ge j z with e | e
    · exact e
    · have : j = z := by omega
      subst this
      rw [Int32.sub_self] at c
      exact absurd c (by decide)
  · rintro ⟨j, hj, rfl⟩
    refine ⟨nI_pos' (by omega), by decide, nI_le (by omega) (by omega), ?_⟩
    have e : nI z - nI j = nI (z - j) := by
      have e2 : nI z = nI (z - j) + nI j := by rw [nI_add, show z - j + j = z by omega]
      rw [e2, Int32.add_sub_cancel]
    rw [e]
    exact nI_le (a := 1) (by omega) (by omega)
theorem st_2 {i : Int32} {z : Nat} (hz : z ≤ 24) : (0 ≤ i ∧ i ≤ nI z - 1) ↔ ∃ j, j < z ∧ i = nI j := by
  constructor
  · rintro ⟨a, b⟩
    by_cases e : z = 0
    · subst e
      exact absurd (Int32.le_trans a b) (by decide)
    · rw [nI_m1 (by omega)] at b
      obtain ⟨j, hj, rfl⟩ := i_le (n := z - 1) (by omega) ⟨a, b⟩
      exact ⟨j, by omega, rfl⟩
  · rintro ⟨j, hj, rfl⟩
    rw [nI_m1 (by omega)]
    exact ⟨nI_pos' (by omega), nI_le (by omega) (by omega)⟩
section PG
variable {fb : Bool} {d : Nat} {h : pm_HP}
def loW (w v : Int32) : Int32 := if w = 8 then v.toInt8.toInt32 else if w = 16 then v.toInt16.toInt32 else v
theorem Inv_put {k j : Nat} {w : Int32} (hI : Inv h) (hk : k < 4) (hj : j < 24) : Inv (pm_si (pm_si h (48 + k) j w) 74 (24 * k + j) w) := by
  refine Inv_sh hI (fun a h1 h2 h3 => by funext b; rw [si_ne _ _ (by omega), si_ne _ _ (by omega)]) ?_
  intro k' hk'
  obtain ⟨z, g1, g2, g3, g4, g5, g6⟩ := hI.2.2.2.2.1 k' hk'
  refine ⟨z, g1, ?_, ?_, ?_, ?_, ?_⟩
  · rw [si_ne _ _ (by omega), si_ne _ _ (by omega)]; exact g2
  · rw [si_ne _ _ (by omega), si_ne _ _ (by omega)]; exact g3
  · rw [si_ne _ _ (by omega), si_ne _ _ (by omega), si_ne _ _ (by omega), si_ne _ _ (by omega)]; exact g4
  · rw [si_ne _ _ (by omega), si_ne _ _ (by omega)]; exact g5
  · intro i hi
    by_cases q : k' = k ∧ i = j
    · obtain ⟨rfl, rfl⟩ := q
      rw [si_ne _ _ (by omega), si_same, si_same]
    · rw [si_ne _ _ (by omega), si_ne _ _ (by omega), si_ne _ _ (by omega), si_ne _ _ (by omega)]
      exact g6 i hi
theorem k_of {x : Int32} (hx : 0 ≤ x ∧ x ≤ 3) : ∃ k, k < 4 ∧ x = nI k := by
  obtain ⟨k, hk, rfl⟩ := nI_of2 (M := 3) (n := 3) (by decide) (Int32.not_lt.mpr hx.1) hx.2
  exact ⟨k, by omega, rfl⟩
theorem pr_put (hI : Inv h) (x i v : Int32) : Pr fb (d + 100) n_X8_put n_X9_put [.int x, .int i, .int v] h := by
  by_cases q1 : 0 ≤ x ∧ x ≤ 3
  · obtain ⟨k, hk, rfl⟩ := k_of q1
    obtain ⟨f1, f2, f3, f4, f5⟩ := sh_facts k hk
    obtain ⟨z, g1, g2, g3, g4, g5, g6⟩ := hI.2.2.2.2.1 k hk
    have xk : pm_ix (nI k) 4 = true := pm_ix_n hk (by omega)
    have ck := nI_clamp (show k < 2 ^ 31 by omega)
    have q1' := eq_true q1
    by_cases w0 : h.1 72 k = 0
    · have w0' : (h.1 (23 + k) 1 = 0) = True := eq_true (by rw [g4]; exact w0)
      refine Pr_e (e := 2) (x := -1000000002) hI (by omega) (by omega) ?_ ?_
      · rw [en_X8_put]
        simp only [c20, c2i, c2n, c2r, cs8_0, cs8_1, cs8_2, cs8_3, cs8_4, decide_eq_true_eq, ev_ald0, ev_ald4, ev_aldn0, ev_aldn4, ev_ast4, ev_astn4, ev_cv0, ev_cv1, ev_cv2, ev_i, ev_if0, ev_ifn_0, ev_ifn_1, ev_ifn_2, ev_ifn_3, ev_ild1, ev_ild2, ev_ild3, ev_ri, i00, i01, i10, not_false_eq_true, not_true_eq_false, pm_bd_s, pm_tl_n, pm_tl_s, ↓reduceIte, pb_X8_put_0, pb_X8_put_1, pb_X8_put_2, pb_X8_put_3, kd_0, rf_0_0, rf_0_1, rf_0_2, rf_0_3, rf_0_4, rf_0_5, rf_0_6, rf_0_7, rf_0_8, is_8_0, f1, sp_sheetOf hk, sp_isMissing hk, bI_0, bI_n0, w0', not_true_eq_false, fail_2, F2]
      · have w2 : (pm_si h 28 2 (h.1 28 2 + 1)).1 72 k = 0 := w0
        rw [en_X9_put]
        simp only [cs8_0, cs8_1, cs8_2, cs8_3, cs8_4, decide_eq_true_eq, ev_ald0, ev_aldn0, ev_bin, ev_cs1, ev_cs3, ev_cv1, ev_go, ev_gr, ev_i, ev_ia, ev_ias, ev_if0, ev_if2, ev_ild1, ev_ild2, ev_ild3, ev_ri, ev_un, i00, i01, i10, not_false_eq_true, not_true_eq_false, pm_bd_s, pm_tl_n, pm_tl_s, ↓reduceIte, pb_X9_put_0, pb_X9_put_1, pb_X9_put_2, pb_X9_put_3, pb_X9_put_4, pb_X9_put_5, pb_X9_put_6, kd_59, rf_59_0, rf_59_1, rf_59_3, rf_59_4, rf_59_5, rf_59_6, rf_59_7, rf_59_12, rf_59_14, rf_59_15, rf_59_16, rf_59_19, rf_59_23, rf_59_24, rf_59_25, rf_59_26, is_9_59, kd_72, al_72, sr_isSheet, bI_0, bI_n0, q1', xk, ck, w2, find_2]
    · have w0' : (h.1 (23 + k) 1 = 0) = False := eq_false (by rw [g4]; exact w0)
      by_cases q : ∃ j, j < z ∧ i = nI j
      · have s1 := eq_true ((st_1 (i := i) g1).mpr q)
        have s2 := eq_true ((st_2 (i := i) g1).mpr q)
        obtain ⟨j, hj, rfl⟩ := q
        have xj : pm_ix (nI (24 * k + j)) 96 = true := pm_ix_n (by omega) (by omega)
        have cj := nI_clamp (show 24 * k + j < 2 ^ 31 by omega)
        have e : (24 : Int32) * nI k + nI j = nI (24 * k + j) := by
          show nI 24 * nI k + nI j = _
          rw [nI_mul, nI_add]
        have wr := sp_write (fb := fb) (d := d + 97) (h := h) (v := v) hk g2 g1 hj
        rw [g4] at wr
        have h72 : (pm_si h (48 + k) j (loW (h.1 72 k) v)).1 72 k = h.1 72 k := si_ne _ _ (by omega)
        have h73 : (pm_si h (48 + k) j (loW (h.1 72 k) v)).1 73 k = nI z := (si_ne _ _ (by omega)).trans g3
        refine ⟨1, pm_si h (48 + k) j (loW (h.1 72 k) v), pm_si (pm_si h (48 + k) j (loW (h.1 72 k) v)) 74 (24 * k + j) (loW (h.1 72 k) v), ?_, ?_, Inv_put hI hk (by omega)⟩
        · unfold loW
          rw [en_X8_put]
          simp only [c20, c2i, c2n, c2r, cs8_0, cs8_1, cs8_2, cs8_3, cs8_4, decide_eq_true_eq, ev_ald0, ev_ald4, ev_aldn0, ev_aldn4, ev_ast4, ev_astn4, ev_cv0, ev_cv1, ev_cv2, ev_i, ev_if0, ev_ifn_0, ev_ifn_1, ev_ifn_2, ev_ifn_3, ev_ild1, ev_ild2, ev_ild3, ev_ri, i00, i01, i10, not_false_eq_true, not_true_eq_false, pm_bd_s, pm_tl_n, pm_tl_s, ↓reduceIte, pb_X8_put_0, pb_X8_put_1, pb_X8_put_2, pb_X8_put_3, kd_0, rf_0_0, rf_0_1, rf_0_2, rf_0_3, rf_0_4, rf_0_5, rf_0_6, rf_0_7, rf_0_8, is_8_0, f1, sp_sheetOf hk, sp_isMissing hk, bI_0, bI_n0, w0', not_false_eq_true, sp_stand hk, g2, s1, wr]
        · generalize hw : loW (h.1 72 k) v = w at h72 h73 ⊢
          unfold loW at hw
          rw [en_X9_put]
          by_cases w8 : h.1 72 k = 8
          · rw [if_pos w8] at hw
            simp only [cs8_0, cs8_1, cs8_2, cs8_3, cs8_4, decide_eq_true_eq, ev_ald0, ev_aldn0, ev_bin, ev_cs1, ev_cs3, ev_cv1, ev_go, ev_gr, ev_i, ev_ia, ev_ias, ev_if0, ev_if2, ev_ild1, ev_ild2, ev_ild3, ev_ri, ev_un, i00, i01, i10, not_false_eq_true, not_true_eq_false, pm_bd_s, pm_tl_n, pm_tl_s, ↓reduceIte, pb_X9_put_0, pb_X9_put_1, pb_X9_put_2, pb_X9_put_3, pb_X9_put_4, pb_X9_put_5, pb_X9_put_6, nl_0_1, nl_0_2, nl_0_3, nl_0_4, nl_0_5, nl_0_6, nl_0_7, nl_0_8, nl_1_0, nl_1_2, nl_1_3, nl_1_4, nl_1_5, nl_1_6, nl_1_7, nl_1_8, nl_2_0, nl_2_1, nl_2_3, nl_2_4, nl_2_5, nl_2_6, nl_2_7, nl_2_8, nl_3_0, nl_3_1, nl_3_2, nl_3_4, nl_3_5, nl_3_6, nl_3_7, nl_3_8, nl_4_0, nl_4_1, nl_4_2, nl_4_3, nl_4_5, nl_4_6, nl_4_7, nl_4_8, nl_5_0, nl_5_1, nl_5_2, nl_5_3, nl_5_4, nl_5_6, nl_5_7, nl_5_8, nl_6_0, nl_6_1, nl_6_2, nl_6_3, nl_6_4, nl_6_5, nl_6_7, nl_6_8, nl_7_0, nl_7_1, nl_7_2, nl_7_3, nl_7_4, nl_7_5, nl_7_6, nl_7_8, nl_8_0, nl_8_1, nl_8_2, nl_8_3, nl_8_4, nl_8_5, nl_8_6, nl_8_7, kd_59, rf_59_0, rf_59_1, rf_59_3, rf_59_4, rf_59_5, rf_59_6, rf_59_7, rf_59_12, rf_59_14, rf_59_15, rf_59_16, rf_59_19, rf_59_23, rf_59_24, rf_59_25, rf_59_26, is_9_59, kd_72, al_72, kd_73, al_73, kd_74, al_74, sr_isSheet, sr_isIn, bI_0, bI_n0, q1', xk, ck, h72, h73, w8, s2, e, xj, cj, hw, if_true, if_false]
          · rw [if_neg w8] at hw
            by_cases w16 : h.1 72 k = 16
            · rw [if_pos w16] at hw
              simp only [cs8_0, cs8_1, cs8_2, cs8_3, cs8_4, decide_eq_true_eq, ev_ald0, ev_aldn0, ev_bin, ev_cs1, ev_cs3, ev_cv1, ev_go, ev_gr, ev_i, ev_ia, ev_ias, ev_if0, ev_if2, ev_ild1, ev_ild2, ev_ild3, ev_ri, ev_un, i00, i01, i10, not_false_eq_true, not_true_eq_false, pm_bd_s, pm_tl_n, pm_tl_s, ↓reduceIte, pb_X9_put_0, pb_X9_put_1, pb_X9_put_2, pb_X9_put_3, pb_X9_put_4, pb_X9_put_5, pb_X9_put_6, nl_0_1, nl_0_2, nl_0_3, nl_0_4, nl_0_5, nl_0_6, nl_0_7, nl_0_8, nl_1_0, nl_1_2, nl_1_3, nl_1_4, nl_1_5, nl_1_6, nl_1_7, nl_1_8, nl_2_0, nl_2_1, nl_2_3, nl_2_4, nl_2_5, nl_2_6, nl_2_7, nl_2_8, nl_3_0, nl_3_1, nl_3_2, nl_3_4, nl_3_5, nl_3_6, nl_3_7, nl_3_8, nl_4_0, nl_4_1, nl_4_2, nl_4_3, nl_4_5, nl_4_6, nl_4_7, nl_4_8, nl_5_0, nl_5_1, nl_5_2, nl_5_3, nl_5_4, nl_5_6, nl_5_7, nl_5_8, nl_6_0, nl_6_1, nl_6_2, nl_6_3, nl_6_4, nl_6_5, nl_6_7, nl_6_8, nl_7_0, nl_7_1, nl_7_2, nl_7_3, nl_7_4, nl_7_5, nl_7_6, nl_7_8, nl_8_0, nl_8_1, nl_8_2, nl_8_3, nl_8_4, nl_8_5, nl_8_6, nl_8_7, kd_59, rf_59_0, rf_59_1, rf_59_3, rf_59_4, rf_59_5, rf_59_6, rf_59_7, rf_59_12, rf_59_14, rf_59_15, rf_59_16, rf_59_19, rf_59_23, rf_59_24, rf_59_25, rf_59_26, is_9_59, kd_72, al_72, kd_73, al_73, kd_74, al_74, sr_isSheet, sr_isIn, bI_0, bI_n0, q1', xk, ck, h72, h73, w16, s2, e, xj, cj, hw, if_true, if_false, (show ((16 : Int32) = 8) = False by decide), (show ((16 : Int32) = 0) = False by decide), not_false_eq_true]
            · rw [if_neg w16] at hw
              simp only [cs8_0, cs8_1, cs8_2, cs8_3, cs8_4, decide_eq_true_eq, ev_ald0, ev_aldn0, ev_bin, ev_cs1, ev_cs3, ev_cv1, ev_go, ev_gr, ev_i, ev_ia, ev_ias, ev_if0, ev_if2, ev_ild1, ev_ild2, ev_ild3, ev_ri, ev_un, i00, i01, i10, not_false_eq_true, not_true_eq_false, pm_bd_s, pm_tl_n, pm_tl_s, ↓reduceIte, pb_X9_put_0, pb_X9_put_1, pb_X9_put_2, pb_X9_put_3, pb_X9_put_4, pb_X9_put_5, pb_X9_put_6, nl_0_1, nl_0_2, nl_0_3, nl_0_4, nl_0_5, nl_0_6, nl_0_7, nl_0_8, nl_1_0, nl_1_2, nl_1_3, nl_1_4, nl_1_5, nl_1_6, nl_1_7, nl_1_8, nl_2_0, nl_2_1, nl_2_3, nl_2_4, nl_2_5, nl_2_6, nl_2_7, nl_2_8, nl_3_0, nl_3_1, nl_3_2, nl_3_4, nl_3_5, nl_3_6, nl_3_7, nl_3_8, nl_4_0, nl_4_1, nl_4_2, nl_4_3, nl_4_5, nl_4_6, nl_4_7, nl_4_8, nl_5_0, nl_5_1, nl_5_2, nl_5_3, nl_5_4, nl_5_6, nl_5_7, nl_5_8, nl_6_0, nl_6_1, nl_6_2, nl_6_3, nl_6_4, nl_6_5, nl_6_7, nl_6_8, nl_7_0, nl_7_1, nl_7_2, nl_7_3, nl_7_4, nl_7_5, nl_7_6, nl_7_8, nl_8_0, nl_8_1, nl_8_2, nl_8_3, nl_8_4, nl_8_5, nl_8_6, nl_8_7, kd_59, rf_59_0, rf_59_1, rf_59_3, rf_59_4, rf_59_5, rf_59_6, rf_59_7, rf_59_12, rf_59_14, rf_59_15, rf_59_16, rf_59_19, rf_59_23, rf_59_24, rf_59_25, rf_59_26, is_9_59, kd_72, al_72, kd_73, al_73, kd_74, al_74, sr_isSheet, sr_isIn, bI_0, bI_n0, q1', xk, ck, h72, h73, w0, w8, w16, s2, e, xj, cj, hw, if_true, if_false]
      · have s1 := eq_false (fun c => q ((st_1 (i := i) g1).mp c))
        have s2 := eq_false (fun c => q ((st_2 (i := i) g1).mp c))
        refine Pr_e (e := 1) (x := -1000000001) hI (by omega) (by omega) ?_ ?_
        · rw [en_X8_put]
          simp only [c20, c2i, c2n, c2r, cs8_0, cs8_1, cs8_2, cs8_3, cs8_4, decide_eq_true_eq, ev_ald0, ev_ald4, ev_aldn0, ev_aldn4, ev_ast4, ev_astn4, ev_cv0, ev_cv1, ev_cv2, ev_i, ev_if0, ev_ifn_0, ev_ifn_1, ev_ifn_2, ev_ifn_3, ev_ild1, ev_ild2, ev_ild3, ev_ri, i00, i01, i10, not_false_eq_true, not_true_eq_false, pm_bd_s, pm_tl_n, pm_tl_s, ↓reduceIte, pb_X8_put_0, pb_X8_put_1, pb_X8_put_2, pb_X8_put_3, kd_0, rf_0_0, rf_0_1, rf_0_2, rf_0_3, rf_0_4, rf_0_5, rf_0_6, rf_0_7, rf_0_8, is_8_0, f1, sp_sheetOf hk, sp_isMissing hk, bI_0, bI_n0, w0', not_false_eq_true, sp_stand hk, g2, s1, fail_1, F1]
        · have w2 : (pm_si h 28 1 (h.1 28 1 + 1)).1 72 k = h.1 72 k := rfl
          have w3 : (pm_si h 28 1 (h.1 28 1 + 1)).1 73 k = nI z := g3
          rw [en_X9_put]
          simp only [cs8_0, cs8_1, cs8_2, cs8_3, cs8_4, decide_eq_true_eq, ev_ald0, ev_aldn0, ev_bin, ev_cs1, ev_cs3, ev_cv1, ev_go, ev_gr, ev_i, ev_ia, ev_ias, ev_if0, ev_if2, ev_ild1, ev_ild2, ev_ild3, ev_ri, ev_un, i00, i01, i10, not_false_eq_true, not_true_eq_false, pm_bd_s, pm_tl_n, pm_tl_s, ↓reduceIte, pb_X9_put_0, pb_X9_put_1, pb_X9_put_2, kd_59, rf_59_0, rf_59_1, rf_59_3, rf_59_4, rf_59_5, rf_59_6, rf_59_7, rf_59_12, rf_59_14, rf_59_15, rf_59_16, rf_59_19, rf_59_23, rf_59_24, rf_59_25, rf_59_26, is_9_59, kd_72, al_72, kd_73, al_73, sr_isSheet, sr_isIn, bI_0, bI_n0, q1', xk, ck, w2, w0, w3, s2, find_1]
  · refine Pr_e (e := 1) (x := -1000000001) hI (by omega) (by omega) ?_ ?_
    · rw [en_X8_put]
      simp only [c20, c2i, c2n, c2r, cs8_0, cs8_1, cs8_2, cs8_3, cs8_4, decide_eq_true_eq, ev_ald0, ev_ald4, ev_aldn0, ev_aldn4, ev_ast4, ev_astn4, ev_cv0, ev_cv1, ev_cv2, ev_i, ev_if0, ev_ifn_0, ev_ifn_1, ev_ifn_2, ev_ifn_3, ev_ild1, ev_ild2, ev_ild3, ev_ri, i00, i01, i10, not_false_eq_true, not_true_eq_false, pm_bd_s, pm_tl_n, pm_tl_s, ↓reduceIte, pb_X8_put_0, pb_X8_put_1, pb_X8_put_2, pb_X8_put_3, kd_0, rf_0_0, rf_0_1, rf_0_2, rf_0_3, rf_0_4, rf_0_5, rf_0_6, rf_0_7, rf_0_8, is_8_0, sp_sheetOfN q1, fail_1, F1]
    · rw [en_X9_put]
      simp only [cs8_0, cs8_1, cs8_2, cs8_3, cs8_4, decide_eq_true_eq, ev_ald0, ev_aldn0, ev_bin, ev_cs1, ev_cs3, ev_cv1, ev_go, ev_gr, ev_i, ev_ia, ev_ias, ev_if0, ev_if2, ev_ild1, ev_ild2, ev_ild3, ev_ri, ev_un, i00, i01, i10, not_false_eq_true, not_true_eq_false, pm_bd_s, pm_tl_n, pm_tl_s, ↓reduceIte, pb_X9_put_0, pb_X9_put_1, pb_X9_put_2, pb_X9_put_3, pb_X9_put_4, pb_X9_put_5, pb_X9_put_6, kd_59, rf_59_0, rf_59_1, rf_59_3, rf_59_4, rf_59_5, rf_59_6, rf_59_7, rf_59_12, rf_59_14, rf_59_15, rf_59_16, rf_59_19, rf_59_23, rf_59_24, rf_59_25, rf_59_26, is_9_59, sr_isSheet, bI_0, bI_n0, eq_false q1, find_1]
end PG
