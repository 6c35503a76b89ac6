/-! TEXTS ARE READ: the levels -/
theorem dp_op {nn q : Nat} {v : Int32} (hn : nn ≤ 5) (hv : v = 20124 ∨ v = 20038 ∨ v = 20060 ∨ v = 20061 ∨ v = 20062 ∨ v = 20043 ∨ v = 20045 ∨ v = 20042 ∨ v = 20047 ∨ v = 20037) : dpS nn v (q + 2) = some (q + 1) := by
  have e : (10000 : Int32) + nI nn = nI (10000 + nn) := nI_add 10000 nn
  have k1 : ¬ v < 10000 ∧ ¬ v < nI (10000 + nn) ∧ ¬ v = 20033 := by
    have l : ∀ w : Nat, 20000 ≤ w → w < 30000 → ¬ nI w < nI (10000 + nn) := fun w h1 h2 => nI_nlt (by omega) (by omega)
    rcases hv with rfl | rfl | rfl | rfl | rfl | rfl | rfl | rfl | rfl | rfl
    · exact ⟨by decide, l 20124 (by omega) (by omega), by decide⟩
    · exact ⟨by decide, l 20038 (by omega) (by omega), by decide⟩
    · exact ⟨by decide, l 20060 (by omega) (by omega), by decide⟩
    · exact ⟨by decide, l 20061 (by omega) (by omega), by decide⟩
    · exact ⟨by decide, l 20062 (by omega) (by omega), by decide⟩
    · exact ⟨by decide, l 20043 (by omega) (by omega), by decide⟩
    · exact ⟨by decide, l 20045 (by omega) (by omega), by decide⟩
    · exact ⟨by decide, l 20042 (by omega) (by omega), by decide⟩
    · exact ⟨by decide, l 20047 (by omega) (by omega), by decide⟩
    · exact ⟨by decide, l 20037 (by omega) (by omega), by decide⟩
  unfold dpS
  rw [e, if_neg (fun t => t.elim (fun z => k1.1 z.2) (fun z => k1.2.1 z.2)), if_neg k1.2.2, if_pos hv, if_pos (by omega)]
  rfl
def skR (h : pm_HP) (v : Int32) (a : Nat) : pm_HP := if v = 0 then h else pm_si h 59 8 (nI (a + 1))
theorem skR_n {h : pm_HP} {v : Int32} {a : Nat} (hv : ¬ v = 0) : skR h v a = pm_si h 59 8 (nI (a + 1)) := if_neg hv
theorem skR_0 {h : pm_HP} {a : Nat} : skR h 0 a = h := if_pos rfl
section LV
variable {fb : Bool} {d : Nat} {nb use : Nat} {b : Nat → Int32}
def opP (x : Int32) : Int32 := if x = 42 then 20007 else if x = 47 then 20008 else if x = 37 then 20009 else 0
theorem z_P {hc hr : pm_HP} {D E : Nat} {j : Int32} {p : Option Value} (Z : PZ hc hr nb) : pm_ev P_X1_readP (rs fb (D + 8)) (P_X1_readP 1) [some (.ref 18), some (.int j), p] [] hc = some (none, hc) ∧ pm_ev P_X9_product (rs fb (E + 8)) (P_X9_product 5) [some (.ref 59), some (.int 0)] [] hr = some (none, hr) := by
  obtain ⟨a3, k3, z1, z2, z3, z4, z5, z6, z7⟩ := id Z
  have le0 : ((0 : Int32) ≤ 0) = True := by decide
  refine ⟨?_, ?_⟩
  · rw [pb_X1_readP_1]
    by_cases q : (60 : Int32) ≤ j
    · simp only [c20, c2i, c2n, c2r, cs8_0, cs8_1, cs8_2, cs8_3, cs8_4, decide_eq_true_eq, ev_ald0, ev_aldn0, ev_bin, ev_cv0, ev_cv1, ev_dup_i, ev_dup_r, ev_gi, ev_go, ev_gr, ev_i, ev_if0, ev_if2, ev_ild1, ev_ild2, ev_inc1, ev_ist1, ev_ist2, ev_pi, ev_rv, i00, i01, i10, not_false_eq_true, not_true_eq_false, pm_bd_s, pm_tl_n, pm_tl_s, ↓reduceIte, pb_X1_readP_3, kd_18, rf_18_0, rf_18_1, is_1_18, kd_20, rf_20_0, is_0_20, q, if_true]
    · simp only [c20, c2i, c2n, c2r, cs8_0, cs8_1, cs8_2, cs8_3, cs8_4, decide_eq_true_eq, ev_ald0, ev_aldn0, ev_bin, ev_cv0, ev_cv1, ev_dup_i, ev_dup_r, ev_gi, ev_go, ev_gr, ev_i, ev_if0, ev_if2, ev_ild1, ev_ild2, ev_inc1, ev_ist1, ev_ist2, ev_pi, ev_rv, i00, i01, i10, not_false_eq_true, not_true_eq_false, pm_bd_s, pm_tl_n, pm_tl_s, ↓reduceIte, pb_X1_readP_3, kd_18, rf_18_0, rf_18_1, is_1_18, kd_20, rf_20_0, is_0_20, q, sp_isNextZ z5, not_true_eq_false, if_true, if_false]
  · rw [pb_X9_product_5]
    simp only [c20, c2i, c2n, c2r, cs8_0, cs8_1, cs8_2, cs8_3, cs8_4, decide_eq_true_eq, ev_ald0, ev_aldn0, ev_cv0, ev_cv1, ev_go, ev_i, ev_if0, ev_ild1, ev_ist1, ev_rv, i00, i01, i10, not_false_eq_true, not_true_eq_false, pm_bd_s, pm_tl_n, pm_tl_s, ↓reduceIte, pb_X9_product_10, kd_59, rf_59_0, rf_59_1, rf_59_3, rf_59_4, rf_59_5, rf_59_6, rf_59_7, rf_59_12, rf_59_14, rf_59_15, rf_59_16, rf_59_19, rf_59_23, rf_59_24, rf_59_25, rf_59_26, is_9_59, le0, if_true]
set_option maxRecDepth 100000 in
theorem lp_P {o e a k q : Nat} (B : PBk nb use b) (hk : k ≤ a) (H : RdL fb n_X1_readQ n_X9_one e nb use o b) : ∀ (m a1 k1 j D E : Nat) (hc hr : pm_HP) (p : Option Value), nb - a1 ≤ m → e ≤ D + 8 → e ≤ E + 8 → PXc hc nb use b → PXr hr nb use b → PS hc hr (nnF use) a1 o k1 (q + 1) → a < a1 → a1 ≤ nb → k1 + a ≤ a1 + k → j + 1 ≤ a1 → ∃ hc' hr', pm_ev P_X1_readP (rs fb (D + 8)) (P_X1_readP 1) [some (.ref 18), some (.int (nI j)), p] [] hc = some (none, hc') ∧ pm_ev P_X9_product (rs fb (E + 8)) (P_X9_product 5) [some (.ref 59), some (.int (opP (nxF b nb a1)))] [] (skR hr (opP (nxF b nb a1)) a1) = some (none, hr') ∧ FPc hc hc' ∧ FPr hr hr' ∧ PO hc' hr' (nnF use) nb a o k q := by
  have hb := B.1
  have le0 : ((0 : Int32) ≤ 0) = True := by decide
  have em : ¬ (-1 : Int32) = 42 ∧ ¬ (-1 : Int32) = 47 ∧ ¬ (-1 : Int32) = 37 := by decide
  intro m
  induction m with
  | zero =>
    intro a1 k1 j D E hc hr p hm hD hE Xc Xr P h1 h2 h3 h4
    obtain ⟨p1, p2, p3, p4, p5, p6, p7, p8, p9, p10⟩ := id P
    have e60 : ¬ (60 : Int32) ≤ nI j := nI_ge (b := 60) (by omega) (by omega)
    have x0 : (nxF b nb a1 = 42) = False := eq_false (fun t => absurd (nx_lt t (by decide)) (by omega))
    have x1 : (nxF b nb a1 = 47) = False := eq_false (fun t => absurd (nx_lt t (by decide)) (by omega))
    have x2 : (nxF b nb a1 = 37) = False := eq_false (fun t => absurd (nx_lt t (by decide)) (by omega))
    have ow : opP (nxF b nb a1) = 0 := by
      unfold opP
      simp only [x0, x1, x2, if_false]
    rw [ow, show skR hr 0 a1 = hr from skR_0]
    refine ⟨hc, hr, ?_, ?_, FPc.rf _, FPr.rf _, Or.inl ⟨a1, k1, P, h1, h2, h3⟩⟩
    · rw [pb_X1_readP_1]
      simp only [c20, c2i, c2n, c2r, cs8_0, cs8_1, cs8_2, cs8_3, cs8_4, decide_eq_true_eq, ev_ald0, ev_aldn0, ev_bin, ev_cv0, ev_cv1, ev_dup_i, ev_dup_r, ev_gi, ev_go, ev_gr, ev_i, ev_if0, ev_if2, ev_ild1, ev_ild2, ev_inc1, ev_ist1, ev_ist2, ev_pi, ev_rv, i00, i01, i10, not_false_eq_true, not_true_eq_false, pm_bd_s, pm_tl_n, pm_tl_s, ↓reduceIte, pb_X1_readP_3, kd_18, rf_18_0, rf_18_1, is_1_18, kd_20, rf_20_0, is_0_20, e60, sp_isNext B Xc p1 h2 p5, bI_0, x0, x1, x2, not_false_eq_true, not_true_eq_false, if_true, if_false]
    · rw [pb_X9_product_5]
      simp only [c20, c2i, c2n, c2r, cs8_0, cs8_1, cs8_2, cs8_3, cs8_4, decide_eq_true_eq, ev_ald0, ev_aldn0, ev_cv0, ev_cv1, ev_go, ev_i, ev_if0, ev_ild1, ev_ist1, ev_rv, i00, i01, i10, not_false_eq_true, not_true_eq_false, pm_bd_s, pm_tl_n, pm_tl_s, ↓reduceIte, pb_X9_product_10, kd_59, rf_59_0, rf_59_1, rf_59_3, rf_59_4, rf_59_5, rf_59_6, rf_59_7, rf_59_12, rf_59_14, rf_59_15, rf_59_16, rf_59_19, rf_59_23, rf_59_24, rf_59_25, rf_59_26, is_9_59, le0, if_true]
  | succ m ih =>
    intro a1 k1 j D E hc hr p hm hD hE Xc Xr P h1 h2 h3 h4
    obtain ⟨p1, p2, p3, p4, p5, p6, p7, p8, p9, p10⟩ := id P
    have e60 : ¬ (60 : Int32) ≤ nI j := nI_ge (b := 60) (by omega) (by omega)
    have P1 := PS_at (a' := a1 + 1) P
    have Xc1 : PXc (pm_si hc 18 3 (nI (a1 + 1))) nb use b := PXc_t Xc (FPc_18 (by omega))
    have Xr1 : PXr (pm_si hr 59 8 (nI (a1 + 1))) nb use b := PXr_t Xr (FPr_59 (by omega))
    by_cases hx0 : nxF b nb a1 = 42
    · have a1n := nx_lt hx0 (by decide)
      have lits : ((42 : Int32) = 47) = False ∧ ((42 : Int32) = 37) = False := by decide
      have ow1 : opP (nxF b nb a1) = 20007 := by rw [hx0]; decide
      have ev : (20000 : Int32) + 42 = 20042 := by decide
      have np : ¬ (20007 : Int32) ≤ 0 := by decide
      rw [ow1, show skR hr 20007 a1 = pm_si hr 59 8 (nI (a1 + 1)) from skR_n (by decide)]
      obtain ⟨hc2, hr2, r1, r2, f1, f2, out⟩ := H (D + 8) (E + 8) (a1 + 1) k1 (q + 1) _ _ hD hE Xc1 Xr1 P1 (by omega) (by omega)
      have F1 : FPc hc hc2 := (FPc_18 (by omega)).tr f1
      have F2 : FPr hr hr2 := (FPr_59 (by omega)).tr f2
      rcases out with ⟨a2, k2, P2, u1, u2, u3⟩ | Z
      · obtain ⟨s1, s2, s3, s4, s5, s6, s7, s8, s9, s10⟩ := id P2
        have P3 := PS_add (v := 20042) (w := 20007) P2 (dp_op (nn_5 use) (Or.inr (Or.inr (Or.inr (Or.inr (Or.inr (Or.inr (Or.inr (Or.inl rfl))))))))) (by decide)
        obtain ⟨v1, v2, v3, v4, v5, v6, v7, v8, v9, v10⟩ := id P3
        have Xr3 : PXr (adR hr2 k2 20007) nb use b := PXr_t Xr (F2.tr (adR_f _ _ _))
        obtain ⟨hc4, hr4, t1, t2, t3, t4, t5⟩ := ih a2 (k2 + 1) (j + 1) D E _ _ (some (.int 42)) (by omega) hD hE (PXc_t Xc (F1.tr (adC_f _ k2 20042))) Xr3 P3 (by omega) u2 (by omega) (by omega)
        refine ⟨hc4, hr4, ?_, ?_, (F1.tr (adC_f _ _ _)).tr t3, (F2.tr (adR_f _ _ _)).tr t4, t5⟩
        · rw [pb_X1_readP_1]
          simp only [c20, c2i, c2n, c2r, cs8_0, cs8_1, cs8_2, cs8_3, cs8_4, decide_eq_true_eq, ev_ald0, ev_aldn0, ev_bin, ev_cv0, ev_cv1, ev_dup_i, ev_dup_r, ev_gi, ev_go, ev_gr, ev_i, ev_if0, ev_if2, ev_ild1, ev_ild2, ev_inc1, ev_ist1, ev_ist2, ev_pi, ev_rv, i00, i01, i10, not_false_eq_true, not_true_eq_false, pm_bd_s, pm_tl_n, pm_tl_s, ↓reduceIte, pb_X1_readP_2, kd_18, rf_18_0, rf_18_1, is_1_18, kd_20, rf_20_0, is_0_20, e60, sp_isNext B Xc p1 h2 p5, sp_next B Xc p1 h2, bI_0, hx0, lits, p1, nI_1, r1, ev, add_20 s7 (show k2 < 60 by omega), not_true_eq_false, not_false_eq_true, if_true, if_false]
          exact t1
        · rw [pb_X9_product_5]
          by_cases y0 : nxF b nb a2 = 42
          · have ow : opP (nxF b nb a2) = 20007 := by rw [y0]; decide
            rw [ow, show skR (adR hr2 k2 20007) 20007 a2 = pm_si (adR hr2 k2 20007) 59 8 (nI (a2 + 1)) from skR_n (by decide)] at t2
            simp only [c20, c2i, c2n, c2r, cs8_0, cs8_1, cs8_2, cs8_3, cs8_4, decide_eq_true_eq, ev_ald0, ev_aldn0, ev_cv0, ev_cv1, ev_go, ev_i, ev_if0, ev_ild1, ev_ist1, ev_rv, i00, i01, i10, not_false_eq_true, not_true_eq_false, pm_bd_s, pm_tl_n, pm_tl_s, ↓reduceIte, pb_X9_product_6, pb_X9_product_7, pb_X9_product_8, pb_X9_product_9, kd_59, rf_59_0, rf_59_1, rf_59_3, rf_59_4, rf_59_5, rf_59_6, rf_59_7, rf_59_12, rf_59_14, rf_59_15, rf_59_16, rf_59_19, rf_59_23, rf_59_24, rf_59_25, rf_59_26, is_9_59, np, r2, sr_codes s6 s8 (show k2 < 60 by omega), sr_takes1 B Xr3 v2 u2 v6 y0, i10, if_true, if_false]
            exact t2
          · skip
            by_cases y1 : nxF b nb a2 = 47
            · have ow : opP (nxF b nb a2) = 20008 := by rw [y1]; decide
              rw [ow, show skR (adR hr2 k2 20007) 20008 a2 = pm_si (adR hr2 k2 20007) 59 8 (nI (a2 + 1)) from skR_n (by decide)] at t2
              simp only [c20, c2i, c2n, c2r, cs8_0, cs8_1, cs8_2, cs8_3, cs8_4, decide_eq_true_eq, ev_ald0, ev_aldn0, ev_cv0, ev_cv1, ev_go, ev_i, ev_if0, ev_ild1, ev_ist1, ev_rv, i00, i01, i10, not_false_eq_true, not_true_eq_false, pm_bd_s, pm_tl_n, pm_tl_s, ↓reduceIte, pb_X9_product_6, pb_X9_product_7, pb_X9_product_8, pb_X9_product_9, kd_59, rf_59_0, rf_59_1, rf_59_3, rf_59_4, rf_59_5, rf_59_6, rf_59_7, rf_59_12, rf_59_14, rf_59_15, rf_59_16, rf_59_19, rf_59_23, rf_59_24, rf_59_25, rf_59_26, is_9_59, np, r2, sr_codes s6 s8 (show k2 < 60 by omega), sr_takes0 B Xr3 v2 u2 v6 y0, sr_takes1 B Xr3 v2 u2 v6 y1, i10, if_true, if_false]
              exact t2
            · skip
              by_cases y2 : nxF b nb a2 = 37
              · have ow : opP (nxF b nb a2) = 20009 := by rw [y2]; decide
                rw [ow, show skR (adR hr2 k2 20007) 20009 a2 = pm_si (adR hr2 k2 20007) 59 8 (nI (a2 + 1)) from skR_n (by decide)] at t2
                simp only [c20, c2i, c2n, c2r, cs8_0, cs8_1, cs8_2, cs8_3, cs8_4, decide_eq_true_eq, ev_ald0, ev_aldn0, ev_cv0, ev_cv1, ev_go, ev_i, ev_if0, ev_ild1, ev_ist1, ev_rv, i00, i01, i10, not_false_eq_true, not_true_eq_false, pm_bd_s, pm_tl_n, pm_tl_s, ↓reduceIte, pb_X9_product_6, pb_X9_product_7, pb_X9_product_8, pb_X9_product_9, kd_59, rf_59_0, rf_59_1, rf_59_3, rf_59_4, rf_59_5, rf_59_6, rf_59_7, rf_59_12, rf_59_14, rf_59_15, rf_59_16, rf_59_19, rf_59_23, rf_59_24, rf_59_25, rf_59_26, is_9_59, np, r2, sr_codes s6 s8 (show k2 < 60 by omega), sr_takes0 B Xr3 v2 u2 v6 y0, sr_takes0 B Xr3 v2 u2 v6 y1, sr_takes1 B Xr3 v2 u2 v6 y2, i10, if_true, if_false]
                exact t2
              · skip
                have ow : opP (nxF b nb a2) = 0 := by
                  unfold opP
                  simp only [y0, y1, y2, if_false]
                rw [ow, show skR (adR hr2 k2 20007) 0 a2 = (adR hr2 k2 20007) from skR_0] at t2
                simp only [c20, c2i, c2n, c2r, cs8_0, cs8_1, cs8_2, cs8_3, cs8_4, decide_eq_true_eq, ev_ald0, ev_aldn0, ev_cv0, ev_cv1, ev_go, ev_i, ev_if0, ev_ild1, ev_ist1, ev_rv, i00, i01, i10, not_false_eq_true, not_true_eq_false, pm_bd_s, pm_tl_n, pm_tl_s, ↓reduceIte, pb_X9_product_6, pb_X9_product_7, pb_X9_product_8, pb_X9_product_9, kd_59, rf_59_0, rf_59_1, rf_59_3, rf_59_4, rf_59_5, rf_59_6, rf_59_7, rf_59_12, rf_59_14, rf_59_15, rf_59_16, rf_59_19, rf_59_23, rf_59_24, rf_59_25, rf_59_26, is_9_59, np, r2, sr_codes s6 s8 (show k2 < 60 by omega), sr_takes0 B Xr3 v2 u2 v6 y0, sr_takes0 B Xr3 v2 u2 v6 y1, sr_takes0 B Xr3 v2 u2 v6 y2, i10, if_true, if_false]
                exact t2
      · obtain ⟨hc3, r3, Z2, F3⟩ := PZ_add (fb := fb) (v := 20042) Z
        obtain ⟨-, -, -, -, -, -, -, z6, -⟩ := id Z
        obtain ⟨t1, t2⟩ := z_P (fb := fb) (D := D) (E := E) (j := nI (j + 1)) (p := some (.int 42)) Z2
        refine ⟨hc3, hr2, ?_, ?_, F1.tr F3, F2, Or.inr Z2⟩
        · rw [pb_X1_readP_1]
          simp only [c20, c2i, c2n, c2r, cs8_0, cs8_1, cs8_2, cs8_3, cs8_4, decide_eq_true_eq, ev_ald0, ev_aldn0, ev_bin, ev_cv0, ev_cv1, ev_dup_i, ev_dup_r, ev_gi, ev_go, ev_gr, ev_i, ev_if0, ev_if2, ev_ild1, ev_ild2, ev_inc1, ev_ist1, ev_ist2, ev_pi, ev_rv, i00, i01, i10, not_false_eq_true, not_true_eq_false, pm_bd_s, pm_tl_n, pm_tl_s, ↓reduceIte, pb_X1_readP_2, kd_18, rf_18_0, rf_18_1, is_1_18, kd_20, rf_20_0, is_0_20, e60, sp_isNext B Xc p1 h2 p5, sp_next B Xc p1 h2, bI_0, hx0, lits, p1, nI_1, r1, ev, r3, not_true_eq_false, not_false_eq_true, if_true, if_false]
          exact t1
        · rw [pb_X9_product_5]
          simp only [c20, c2i, c2n, c2r, cs8_0, cs8_1, cs8_2, cs8_3, cs8_4, decide_eq_true_eq, ev_ald0, ev_aldn0, ev_cv0, ev_cv1, ev_go, ev_i, ev_if0, ev_ild1, ev_ist1, ev_rv, i00, i01, i10, not_false_eq_true, not_true_eq_false, pm_bd_s, pm_tl_n, pm_tl_s, ↓reduceIte, pb_X9_product_6, pb_X9_product_7, pb_X9_product_8, pb_X9_product_9, kd_59, rf_59_0, rf_59_1, rf_59_3, rf_59_4, rf_59_5, rf_59_6, rf_59_7, rf_59_12, rf_59_14, rf_59_15, rf_59_16, rf_59_19, rf_59_23, rf_59_24, rf_59_25, rf_59_26, is_9_59, np, r2, sr_codesZ z6, sr_takesZ z6 em.1, sr_takesZ z6 em.2.1, sr_takesZ z6 em.2.2, if_true, if_false]
          exact t2
    · skip
      by_cases hx1 : nxF b nb a1 = 47
      · have a1n := nx_lt hx1 (by decide)
        have lits : ((47 : Int32) = 42) = False ∧ ((47 : Int32) = 37) = False := by decide
        have ow1 : opP (nxF b nb a1) = 20008 := by rw [hx1]; decide
        have ev : (20000 : Int32) + 47 = 20047 := by decide
        have np : ¬ (20008 : Int32) ≤ 0 := by decide
        rw [ow1, show skR hr 20008 a1 = pm_si hr 59 8 (nI (a1 + 1)) from skR_n (by decide)]
        obtain ⟨hc2, hr2, r1, r2, f1, f2, out⟩ := H (D + 8) (E + 8) (a1 + 1) k1 (q + 1) _ _ hD hE Xc1 Xr1 P1 (by omega) (by omega)
        have F1 : FPc hc hc2 := (FPc_18 (by omega)).tr f1
        have F2 : FPr hr hr2 := (FPr_59 (by omega)).tr f2
        rcases out with ⟨a2, k2, P2, u1, u2, u3⟩ | Z
        · obtain ⟨s1, s2, s3, s4, s5, s6, s7, s8, s9, s10⟩ := id P2
          have P3 := PS_add (v := 20047) (w := 20008) P2 (dp_op (nn_5 use) (Or.inr (Or.inr (Or.inr (Or.inr (Or.inr (Or.inr (Or.inr (Or.inr (Or.inl rfl)))))))))) (by decide)
          obtain ⟨v1, v2, v3, v4, v5, v6, v7, v8, v9, v10⟩ := id P3
          have Xr3 : PXr (adR hr2 k2 20008) nb use b := PXr_t Xr (F2.tr (adR_f _ _ _))
          obtain ⟨hc4, hr4, t1, t2, t3, t4, t5⟩ := ih a2 (k2 + 1) (j + 1) D E _ _ (some (.int 47)) (by omega) hD hE (PXc_t Xc (F1.tr (adC_f _ k2 20047))) Xr3 P3 (by omega) u2 (by omega) (by omega)
          refine ⟨hc4, hr4, ?_, ?_, (F1.tr (adC_f _ _ _)).tr t3, (F2.tr (adR_f _ _ _)).tr t4, t5⟩
          · rw [pb_X1_readP_1]
            simp only [c20, c2i, c2n, c2r, cs8_0, cs8_1, cs8_2, cs8_3, cs8_4, decide_eq_true_eq, ev_ald0, ev_aldn0, ev_bin, ev_cv0, ev_cv1, ev_dup_i, ev_dup_r, ev_gi, ev_go, ev_gr, ev_i, ev_if0, ev_if2, ev_ild1, ev_ild2, ev_inc1, ev_ist1, ev_ist2, ev_pi, ev_rv, i00, i01, i10, not_false_eq_true, not_true_eq_false, pm_bd_s, pm_tl_n, pm_tl_s, ↓reduceIte, pb_X1_readP_2, kd_18, rf_18_0, rf_18_1, is_1_18, kd_20, rf_20_0, is_0_20, e60, sp_isNext B Xc p1 h2 p5, sp_next B Xc p1 h2, bI_0, hx1, lits, p1, nI_1, r1, ev, add_20 s7 (show k2 < 60 by omega), not_true_eq_false, not_false_eq_true, if_true, if_false]
            exact t1
          · rw [pb_X9_product_5]
            by_cases y0 : nxF b nb a2 = 42
            · have ow : opP (nxF b nb a2) = 20007 := by rw [y0]; decide
              rw [ow, show skR (adR hr2 k2 20008) 20007 a2 = pm_si (adR hr2 k2 20008) 59 8 (nI (a2 + 1)) from skR_n (by decide)] at t2
              simp only [c20, c2i, c2n, c2r, cs8_0, cs8_1, cs8_2, cs8_3, cs8_4, decide_eq_true_eq, ev_ald0, ev_aldn0, ev_cv0, ev_cv1, ev_go, ev_i, ev_if0, ev_ild1, ev_ist1, ev_rv, i00, i01, i10, not_false_eq_true, not_true_eq_false, pm_bd_s, pm_tl_n, pm_tl_s, ↓reduceIte, pb_X9_product_6, pb_X9_product_7, pb_X9_product_8, pb_X9_product_9, kd_59, rf_59_0, rf_59_1, rf_59_3, rf_59_4, rf_59_5, rf_59_6, rf_59_7, rf_59_12, rf_59_14, rf_59_15, rf_59_16, rf_59_19, rf_59_23, rf_59_24, rf_59_25, rf_59_26, is_9_59, np, r2, sr_codes s6 s8 (show k2 < 60 by omega), sr_takes1 B Xr3 v2 u2 v6 y0, i10, if_true, if_false]
              exact t2
            · skip
              by_cases y1 : nxF b nb a2 = 47
              · have ow : opP (nxF b nb a2) = 20008 := by rw [y1]; decide
                rw [ow, show skR (adR hr2 k2 20008) 20008 a2 = pm_si (adR hr2 k2 20008) 59 8 (nI (a2 + 1)) from skR_n (by decide)] at t2
                simp only [c20, c2i, c2n, c2r, cs8_0, cs8_1, cs8_2, cs8_3, cs8_4, decide_eq_true_eq, ev_ald0, ev_aldn0, ev_cv0, ev_cv1, ev_go, ev_i, ev_if0, ev_ild1, ev_ist1, ev_rv, i00, i01, i10, not_false_eq_true, not_true_eq_false, pm_bd_s, pm_tl_n, pm_tl_s, ↓reduceIte, pb_X9_product_6, pb_X9_product_7, pb_X9_product_8, pb_X9_product_9, kd_59, rf_59_0, rf_59_1, rf_59_3, rf_59_4, rf_59_5, rf_59_6, rf_59_7, rf_59_12, rf_59_14, rf_59_15, rf_59_16, rf_59_19, rf_59_23, rf_59_24, rf_59_25, rf_59_26, is_9_59, np, r2, sr_codes s6 s8 (show k2 < 60 by omega), sr_takes0 B Xr3 v2 u2 v6 y0, sr_takes1 B Xr3 v2 u2 v6 y1, i10, if_true, if_false]
                exact t2
              · skip
                by_cases y2 : nxF b nb a2 = 37
                · have ow : opP (nxF b nb a2) = 20009 := by rw [y2]; decide
                  rw [ow, show skR (adR hr2 k2 20008) 20009 a2 = pm_si (adR hr2 k2 20008) 59 8 (nI (a2 + 1)) from skR_n (by decide)] at t2
                  simp only [c20, c2i, c2n, c2r, cs8_0, cs8_1, cs8_2, cs8_3, cs8_4, decide_eq_true_eq, ev_ald0, ev_aldn0, ev_cv0, ev_cv1, ev_go, ev_i, ev_if0, ev_ild1, ev_ist1, ev_rv, i00, i01, i10, not_false_eq_true, not_true_eq_false, pm_bd_s, pm_tl_n, pm_tl_s, ↓reduceIte, pb_X9_product_6, pb_X9_product_7, pb_X9_product_8, pb_X9_product_9, kd_59, rf_59_0, rf_59_1, rf_59_3, rf_59_4, rf_59_5, rf_59_6, rf_59_7, rf_59_12, rf_59_14, rf_59_15, rf_59_16, rf_59_19, rf_59_23, rf_59_24, rf_59_25, rf_59_26, is_9_59, np, r2, sr_codes s6 s8 (show k2 < 60 by omega), sr_takes0 B Xr3 v2 u2 v6 y0, sr_takes0 B Xr3 v2 u2 v6 y1, sr_takes1 B Xr3 v2 u2 v6 y2, i10, if_true, if_false]
                  exact t2
                · skip
                  have ow : opP (nxF b nb a2) = 0 := by
                    unfold opP
                    simp only [y0, y1, y2, if_false]
                  rw [ow, show skR (adR hr2 k2 20008) 0 a2 = (adR hr2 k2 20008) from skR_0] at t2
                  simp only [c20, c2i, c2n, c2r, cs8_0, cs8_1, cs8_2, cs8_3, cs8_4, decide_eq_true_eq, ev_ald0, ev_aldn0, ev_cv0, ev_cv1, ev_go, ev_i, ev_if0, ev_ild1, ev_ist1, ev_rv, i00, i01, i10, not_false_eq_true, not_true_eq_false, pm_bd_s, pm_tl_n, pm_tl_s, ↓reduceIte, pb_X9_product_6, pb_X9_product_7, pb_X9_product_8, pb_X9_product_9, kd_59, rf_59_0, rf_59_1, rf_59_3, rf_59_4, rf_59_5, rf_59_6, rf_59_7, rf_59_12, rf_59_14, rf_59_15, rf_59_16, rf_59_19, rf_59_23, rf_59_24, rf_59_25, rf_59_26, is_9_59, np, r2, sr_codes s6 s8 (show k2 < 60 by omega), sr_takes0 B Xr3 v2 u2 v6 y0, sr_takes0 B Xr3 v2 u2 v6 y1, sr_takes0 B Xr3 v2 u2 v6 y2, i10, if_true, if_false]
                  exact t2
        · obtain ⟨hc3, r3, Z2, F3⟩ := PZ_add (fb := fb) (v := 20047) Z
          obtain ⟨-, -, -, -, -, -, -, z6, -⟩ := id Z
          obtain ⟨t1, t2⟩ := z_P (fb := fb) (D := D) (E := E) (j := nI (j + 1)) (p := some (.int 47)) Z2
          refine ⟨hc3, hr2, ?_, ?_, F1.tr F3, F2, Or.inr Z2⟩
          · rw [pb_X1_readP_1]
            simp only [c20, c2i, c2n, c2r, cs8_0, cs8_1, cs8_2, cs8_3, cs8_4, decide_eq_true_eq, ev_ald0, ev_aldn0, ev_bin, ev_cv0, ev_cv1, ev_dup_i, ev_dup_r, ev_gi, ev_go, ev_gr, ev_i, ev_if0, ev_if2, ev_ild1, ev_ild2, ev_inc1, ev_ist1, ev_ist2, ev_pi, ev_rv, i00, i01, i10, not_false_eq_true, not_true_eq_false, pm_bd_s, pm_tl_n, pm_tl_s, ↓reduceIte, pb_X1_readP_2, kd_18, rf_18_0, rf_18_1, is_1_18, kd_20, rf_20_0, is_0_20, e60, sp_isNext B Xc p1 h2 p5, sp_next B Xc p1 h2, bI_0, hx1, lits, p1, nI_1, r1, ev, r3, not_true_eq_false, not_false_eq_true, if_true, if_false]
            exact t1
          · rw [pb_X9_product_5]
            simp only [c20, c2i, c2n, c2r, cs8_0, cs8_1, cs8_2, cs8_3, cs8_4, decide_eq_true_eq, ev_ald0, ev_aldn0, ev_cv0, ev_cv1, ev_go, ev_i, ev_if0, ev_ild1, ev_ist1, ev_rv, i00, i01, i10, not_false_eq_true, not_true_eq_false, pm_bd_s, pm_tl_n, pm_tl_s, ↓reduceIte, pb_X9_product_6, pb_X9_product_7, pb_X9_product_8, pb_X9_product_9, kd_59, rf_59_0, rf_59_1, rf_59_3, rf_59_4, rf_59_5, rf_59_6, rf_59_7, rf_59_12, rf_59_14, rf_59_15, rf_59_16, rf_59_19, rf_59_23, rf_59_24, rf_59_25, rf_59_26, is_9_59, np, r2, sr_codesZ z6, sr_takesZ z6 em.1, sr_takesZ z6 em.2.1, sr_takesZ z6 em.2.2, if_true, if_false]
            exact t2
      · skip
        by_cases hx2 : nxF b nb a1 = 37
        · have a1n := nx_lt hx2 (by decide)
          have lits : ((37 : Int32) = 42) = False ∧ ((37 : Int32) = 47) = False := by decide
          have ow1 : opP (nxF b nb a1) = 20009 := by rw [hx2]; decide
          have ev : (20000 : Int32) + 37 = 20037 := by decide
          have np : ¬ (20009 : Int32) ≤ 0 := by decide
          rw [ow1, show skR hr 20009 a1 = pm_si hr 59 8 (nI (a1 + 1)) from skR_n (by decide)]
          obtain ⟨hc2, hr2, r1, r2, f1, f2, out⟩ := H (D + 8) (E + 8) (a1 + 1) k1 (q + 1) _ _ hD hE Xc1 Xr1 P1 (by omega) (by omega)
          have F1 : FPc hc hc2 := (FPc_18 (by omega)).tr f1
          have F2 : FPr hr hr2 := (FPr_59 (by omega)).tr f2
          rcases out with ⟨a2, k2, P2, u1, u2, u3⟩ | Z
          · obtain ⟨s1, s2, s3, s4, s5, s6, s7, s8, s9, s10⟩ := id P2
            have P3 := PS_add (v := 20037) (w := 20009) P2 (dp_op (nn_5 use) (Or.inr (Or.inr (Or.inr (Or.inr (Or.inr (Or.inr (Or.inr (Or.inr (Or.inr rfl)))))))))) (by decide)
            obtain ⟨v1, v2, v3, v4, v5, v6, v7, v8, v9, v10⟩ := id P3
            have Xr3 : PXr (adR hr2 k2 20009) nb use b := PXr_t Xr (F2.tr (adR_f _ _ _))
            obtain ⟨hc4, hr4, t1, t2, t3, t4, t5⟩ := ih a2 (k2 + 1) (j + 1) D E _ _ (some (.int 37)) (by omega) hD hE (PXc_t Xc (F1.tr (adC_f _ k2 20037))) Xr3 P3 (by omega) u2 (by omega) (by omega)
            refine ⟨hc4, hr4, ?_, ?_, (F1.tr (adC_f _ _ _)).tr t3, (F2.tr (adR_f _ _ _)).tr t4, t5⟩
            · rw [pb_X1_readP_1]
              simp only [c20, c2i, c2n, c2r, cs8_0, cs8_1, cs8_2, cs8_3, cs8_4, decide_eq_true_eq, ev_ald0, ev_aldn0, ev_bin, ev_cv0, ev_cv1, ev_dup_i, ev_dup_r, ev_gi, ev_go, ev_gr, ev_i, ev_if0, ev_if2, ev_ild1, ev_ild2, ev_inc1, ev_ist1, ev_ist2, ev_pi, ev_rv, i00, i01, i10, not_false_eq_true, not_true_eq_false, pm_bd_s, pm_tl_n, pm_tl_s, ↓reduceIte, pb_X1_readP_2, kd_18, rf_18_0, rf_18_1, is_1_18, kd_20, rf_20_0, is_0_20, e60, sp_isNext B Xc p1 h2 p5, sp_next B Xc p1 h2, bI_0, hx2, lits, p1, nI_1, r1, ev, add_20 s7 (show k2 < 60 by omega), not_true_eq_false, not_false_eq_true, if_true, if_false]
              exact t1
            · rw [pb_X9_product_5]
              by_cases y0 : nxF b nb a2 = 42
              · have ow : opP (nxF b nb a2) = 20007 := by rw [y0]; decide
                rw [ow, show skR (adR hr2 k2 20009) 20007 a2 = pm_si (adR hr2 k2 20009) 59 8 (nI (a2 + 1)) from skR_n (by decide)] at t2
                simp only [c20, c2i, c2n, c2r, cs8_0, cs8_1, cs8_2, cs8_3, cs8_4, decide_eq_true_eq, ev_ald0, ev_aldn0, ev_cv0, ev_cv1, ev_go, ev_i, ev_if0, ev_ild1, ev_ist1, ev_rv, i00, i01, i10, not_false_eq_true, not_true_eq_false, pm_bd_s, pm_tl_n, pm_tl_s, ↓reduceIte, pb_X9_product_6, pb_X9_product_7, pb_X9_product_8, pb_X9_product_9, kd_59, rf_59_0, rf_59_1, rf_59_3, rf_59_4, rf_59_5, rf_59_6, rf_59_7, rf_59_12, rf_59_14, rf_59_15, rf_59_16, rf_59_19, rf_59_23, rf_59_24, rf_59_25, rf_59_26, is_9_59, np, r2, sr_codes s6 s8 (show k2 < 60 by omega), sr_takes1 B Xr3 v2 u2 v6 y0, i10, if_true, if_false]
                exact t2
              · skip
                by_cases y1 : nxF b nb a2 = 47
                · have ow : opP (nxF b nb a2) = 20008 := by rw [y1]; decide
                  rw [ow, show skR (adR hr2 k2 20009) 20008 a2 = pm_si (adR hr2 k2 20009) 59 8 (nI (a2 + 1)) from skR_n (by decide)] at t2
                  simp only [c20, c2i, c2n, c2r, cs8_0, cs8_1, cs8_2, cs8_3, cs8_4, decide_eq_true_eq, ev_ald0, ev_aldn0, ev_cv0, ev_cv1, ev_go, ev_i, ev_if0, ev_ild1, ev_ist1, ev_rv, i00, i01, i10, not_false_eq_true, not_true_eq_false, pm_bd_s, pm_tl_n, pm_tl_s, ↓reduceIte, pb_X9_product_6, pb_X9_product_7, pb_X9_product_8, pb_X9_product_9, kd_59, rf_59_0, rf_59_1, rf_59_3, rf_59_4, rf_59_5, rf_59_6, rf_59_7, rf_59_12, rf_59_14, rf_59_15, rf_59_16, rf_59_19, rf_59_23, rf_59_24, rf_59_25, rf_59_26, is_9_59, np, r2, sr_codes s6 s8 (show k2 < 60 by omega), sr_takes0 B Xr3 v2 u2 v6 y0, sr_takes1 B Xr3 v2 u2 v6 y1, i10, if_true, if_false]
                  exact t2
                · skip
                  by_cases y2 : nxF b nb a2 = 37
                  · have ow : opP (nxF b nb a2) = 20009 := by rw [y2]; decide
                    rw [ow, show skR (adR hr2 k2 20009) 20009 a2 = pm_si (adR hr2 k2 20009) 59 8 (nI (a2 + 1)) from skR_n (by decide)] at t2
                    simp only [c20, c2i, c2n, c2r, cs8_0, cs8_1, cs8_2, cs8_3, cs8_4, decide_eq_true_eq, ev_ald0, ev_aldn0, ev_cv0, ev_cv1, ev_go, ev_i, ev_if0, ev_ild1, ev_ist1, ev_rv, i00, i01, i10, not_false_eq_true, not_true_eq_false, pm_bd_s, pm_tl_n, pm_tl_s, ↓reduceIte, pb_X9_product_6, pb_X9_product_7, pb_X9_product_8, pb_X9_product_9, kd_59, rf_59_0, rf_59_1, rf_59_3, rf_59_4, rf_59_5, rf_59_6, rf_59_7, rf_59_12, rf_59_14, rf_59_15, rf_59_16, rf_59_19, rf_59_23, rf_59_24, rf_59_25, rf_59_26, is_9_59, np, r2, sr_codes s6 s8 (show k2 < 60 by omega), sr_takes0 B Xr3 v2 u2 v6 y0, sr_takes0 B Xr3 v2 u2 v6 y1, sr_takes1 B Xr3 v2 u2 v6 y2, i10, if_true, if_false]
                    exact t2
                  · skip
                    have ow : opP (nxF b nb a2) = 0 := by
                      unfold opP
                      simp only [y0, y1, y2, if_false]
                    rw [ow, show skR (adR hr2 k2 20009) 0 a2 = (adR hr2 k2 20009) from skR_0] at t2
                    simp only [c20, c2i, c2n, c2r, cs8_0, cs8_1, cs8_2, cs8_3, cs8_4, decide_eq_true_eq, ev_ald0, ev_aldn0, ev_cv0, ev_cv1, ev_go, ev_i, ev_if0, ev_ild1, ev_ist1, ev_rv, i00, i01, i10, not_false_eq_true, not_true_eq_false, pm_bd_s, pm_tl_n, pm_tl_s, ↓reduceIte, pb_X9_product_6, pb_X9_product_7, pb_X9_product_8, pb_X9_product_9, kd_59, rf_59_0, rf_59_1, rf_59_3, rf_59_4, rf_59_5, rf_59_6, rf_59_7, rf_59_12, rf_59_14, rf_59_15, rf_59_16, rf_59_19, rf_59_23, rf_59_24, rf_59_25, rf_59_26, is_9_59, np, r2, sr_codes s6 s8 (show k2 < 60 by omega), sr_takes0 B Xr3 v2 u2 v6 y0, sr_takes0 B Xr3 v2 u2 v6 y1, sr_takes0 B Xr3 v2 u2 v6 y2, i10, if_true, if_false]
                    exact t2
          · obtain ⟨hc3, r3, Z2, F3⟩ := PZ_add (fb := fb) (v := 20037) Z
            obtain ⟨-, -, -, -, -, -, -, z6, -⟩ := id Z
            obtain ⟨t1, t2⟩ := z_P (fb := fb) (D := D) (E := E) (j := nI (j + 1)) (p := some (.int 37)) Z2
            refine ⟨hc3, hr2, ?_, ?_, F1.tr F3, F2, Or.inr Z2⟩
            · rw [pb_X1_readP_1]
              simp only [c20, c2i, c2n, c2r, cs8_0, cs8_1, cs8_2, cs8_3, cs8_4, decide_eq_true_eq, ev_ald0, ev_aldn0, ev_bin, ev_cv0, ev_cv1, ev_dup_i, ev_dup_r, ev_gi, ev_go, ev_gr, ev_i, ev_if0, ev_if2, ev_ild1, ev_ild2, ev_inc1, ev_ist1, ev_ist2, ev_pi, ev_rv, i00, i01, i10, not_false_eq_true, not_true_eq_false, pm_bd_s, pm_tl_n, pm_tl_s, ↓reduceIte, pb_X1_readP_2, kd_18, rf_18_0, rf_18_1, is_1_18, kd_20, rf_20_0, is_0_20, e60, sp_isNext B Xc p1 h2 p5, sp_next B Xc p1 h2, bI_0, hx2, lits, p1, nI_1, r1, ev, r3, not_true_eq_false, not_false_eq_true, if_true, if_false]
              exact t1
            · rw [pb_X9_product_5]
              simp only [c20, c2i, c2n, c2r, cs8_0, cs8_1, cs8_2, cs8_3, cs8_4, decide_eq_true_eq, ev_ald0, ev_aldn0, ev_cv0, ev_cv1, ev_go, ev_i, ev_if0, ev_ild1, ev_ist1, ev_rv, i00, i01, i10, not_false_eq_true, not_true_eq_false, pm_bd_s, pm_tl_n, pm_tl_s, ↓reduceIte, pb_X9_product_6, pb_X9_product_7, pb_X9_product_8, pb_X9_product_9, kd_59, rf_59_0, rf_59_1, rf_59_3, rf_59_4, rf_59_5, rf_59_6, rf_59_7, rf_59_12, rf_59_14, rf_59_15, rf_59_16, rf_59_19, rf_59_23, rf_59_24, rf_59_25, rf_59_26, is_9_59, np, r2, sr_codesZ z6, sr_takesZ z6 em.1, sr_takesZ z6 em.2.1, sr_takesZ z6 em.2.2, if_true, if_false]
              exact t2
        · skip
          have x0 := eq_false hx0
          have x1 := eq_false hx1
          have x2 := eq_false hx2
          have ow : opP (nxF b nb a1) = 0 := by
            unfold opP
            simp only [x0, x1, x2, if_false]
          rw [ow, show skR hr 0 a1 = hr from skR_0]
          refine ⟨hc, hr, ?_, ?_, FPc.rf _, FPr.rf _, Or.inl ⟨a1, k1, P, h1, h2, h3⟩⟩
          · rw [pb_X1_readP_1]
            simp only [c20, c2i, c2n, c2r, cs8_0, cs8_1, cs8_2, cs8_3, cs8_4, decide_eq_true_eq, ev_ald0, ev_aldn0, ev_bin, ev_cv0, ev_cv1, ev_dup_i, ev_dup_r, ev_gi, ev_go, ev_gr, ev_i, ev_if0, ev_if2, ev_ild1, ev_ild2, ev_inc1, ev_ist1, ev_ist2, ev_pi, ev_rv, i00, i01, i10, not_false_eq_true, not_true_eq_false, pm_bd_s, pm_tl_n, pm_tl_s, ↓reduceIte, pb_X1_readP_3, kd_18, rf_18_0, rf_18_1, is_1_18, kd_20, rf_20_0, is_0_20, e60, sp_isNext B Xc p1 h2 p5, bI_0, x0, x1, x2, not_false_eq_true, not_true_eq_false, if_true, if_false]
          · rw [pb_X9_product_5]
            simp only [c20, c2i, c2n, c2r, cs8_0, cs8_1, cs8_2, cs8_3, cs8_4, decide_eq_true_eq, ev_ald0, ev_aldn0, ev_cv0, ev_cv1, ev_go, ev_i, ev_if0, ev_ild1, ev_ist1, ev_rv, i00, i01, i10, not_false_eq_true, not_true_eq_false, pm_bd_s, pm_tl_n, pm_tl_s, ↓reduceIte, pb_X9_product_10, kd_59, rf_59_0, rf_59_1, rf_59_3, rf_59_4, rf_59_5, rf_59_6, rf_59_7, rf_59_12, rf_59_14, rf_59_15, rf_59_16, rf_59_19, rf_59_23, rf_59_24, rf_59_25, rf_59_26, is_9_59, le0, if_true]
theorem PL {o e : Nat} (B : PBk nb use b) (h8 : 8 ≤ e) (H : RdL fb n_X1_readQ n_X9_one e nb use o b) : RdL fb n_X1_readP n_X9_product (e + 1) nb use o b := by
  intro dc dr a k q hc hr hdc hdr Xc Xr P hk ha
  obtain ⟨D, rfl⟩ : ∃ D, dc = D + 8 + 1 := ⟨dc - 9, by omega⟩
  obtain ⟨E, rfl⟩ : ∃ E, dr = E + 8 + 1 := ⟨dr - 9, by omega⟩
  have em : ¬ (-1 : Int32) = 42 ∧ ¬ (-1 : Int32) = 47 ∧ ¬ (-1 : Int32) = 37 := by decide
  obtain ⟨hc2, hr2, r1, r2, f1, f2, out⟩ := H (D + 8) (E + 8) a k q _ _ (by omega) (by omega) Xc Xr P hk ha
  rcases out with ⟨a1, k1, P2, u1, u2, u3⟩ | Z
  · obtain ⟨hc4, hr4, t1, t2, t3, t4, t5⟩ := lp_P B hk H (nb - a1) a1 k1 0 D E _ _ none (Nat.le_refl _) (by omega) (by omega) (PXc_t Xc f1) (PXr_t Xr f2) P2 u1 u2 u3 (by omega)
    obtain ⟨s1, s2, s3, s4, s5, s6, s7, s8, s9, s10⟩ := id P2
    have Xr2 := PXr_t Xr f2
    rw [nI_0] at t1
    refine ⟨hc4, hr4, ?_, ?_, f1.tr t3, f2.tr t4, t5⟩
    · rw [en_X1_readP]
      simp only [c20, c2i, c2n, c2r, cs8_0, cs8_1, cs8_2, cs8_3, cs8_4, decide_eq_true_eq, ev_ald0, ev_aldn0, ev_bin, ev_cv0, ev_cv1, ev_dup_i, ev_dup_r, ev_gi, ev_go, ev_gr, ev_i, ev_if0, ev_if2, ev_ild1, ev_ild2, ev_inc1, ev_ist1, ev_ist2, ev_pi, ev_rv, i00, i01, i10, not_false_eq_true, not_true_eq_false, pm_bd_s, pm_tl_n, pm_tl_s, ↓reduceIte, pb_X1_readP_0, kd_18, rf_18_0, rf_18_1, is_1_18, kd_20, rf_20_0, is_0_20, r1]
      exact t1
    · rw [en_X9_product]
      by_cases y0 : nxF b nb a1 = 42
      · have ow : opP (nxF b nb a1) = 20007 := by rw [y0]; decide
        rw [ow, show skR hr2 20007 a1 = pm_si hr2 59 8 (nI (a1 + 1)) from skR_n (by decide)] at t2
        simp only [c20, c2i, c2n, c2r, cs8_0, cs8_1, cs8_2, cs8_3, cs8_4, decide_eq_true_eq, ev_ald0, ev_aldn0, ev_cv0, ev_cv1, ev_go, ev_i, ev_if0, ev_ild1, ev_ist1, ev_rv, i00, i01, i10, not_false_eq_true, not_true_eq_false, pm_bd_s, pm_tl_n, pm_tl_s, ↓reduceIte, pb_X9_product_0, pb_X9_product_1, pb_X9_product_2, pb_X9_product_3, pb_X9_product_4, kd_59, rf_59_0, rf_59_1, rf_59_3, rf_59_4, rf_59_5, rf_59_6, rf_59_7, rf_59_12, rf_59_14, rf_59_15, rf_59_16, rf_59_19, rf_59_23, rf_59_24, rf_59_25, rf_59_26, is_9_59, r2, sr_takes1 B Xr2 s2 u2 s6 y0, i10, if_true, if_false]
        exact t2
      · skip
        by_cases y1 : nxF b nb a1 = 47
        · have ow : opP (nxF b nb a1) = 20008 := by rw [y1]; decide
          rw [ow, show skR hr2 20008 a1 = pm_si hr2 59 8 (nI (a1 + 1)) from skR_n (by decide)] at t2
          simp only [c20, c2i, c2n, c2r, cs8_0, cs8_1, cs8_2, cs8_3, cs8_4, decide_eq_true_eq, ev_ald0, ev_aldn0, ev_cv0, ev_cv1, ev_go, ev_i, ev_if0, ev_ild1, ev_ist1, ev_rv, i00, i01, i10, not_false_eq_true, not_true_eq_false, pm_bd_s, pm_tl_n, pm_tl_s, ↓reduceIte, pb_X9_product_0, pb_X9_product_1, pb_X9_product_2, pb_X9_product_3, pb_X9_product_4, kd_59, rf_59_0, rf_59_1, rf_59_3, rf_59_4, rf_59_5, rf_59_6, rf_59_7, rf_59_12, rf_59_14, rf_59_15, rf_59_16, rf_59_19, rf_59_23, rf_59_24, rf_59_25, rf_59_26, is_9_59, r2, sr_takes0 B Xr2 s2 u2 s6 y0, sr_takes1 B Xr2 s2 u2 s6 y1, i10, if_true, if_false]
          exact t2
        · skip
          by_cases y2 : nxF b nb a1 = 37
          · have ow : opP (nxF b nb a1) = 20009 := by rw [y2]; decide
            rw [ow, show skR hr2 20009 a1 = pm_si hr2 59 8 (nI (a1 + 1)) from skR_n (by decide)] at t2
            simp only [c20, c2i, c2n, c2r, cs8_0, cs8_1, cs8_2, cs8_3, cs8_4, decide_eq_true_eq, ev_ald0, ev_aldn0, ev_cv0, ev_cv1, ev_go, ev_i, ev_if0, ev_ild1, ev_ist1, ev_rv, i00, i01, i10, not_false_eq_true, not_true_eq_false, pm_bd_s, pm_tl_n, pm_tl_s, ↓reduceIte, pb_X9_product_0, pb_X9_product_1, pb_X9_product_2, pb_X9_product_3, pb_X9_product_4, kd_59, rf_59_0, rf_59_1, rf_59_3, rf_59_4, rf_59_5, rf_59_6, rf_59_7, rf_59_12, rf_59_14, rf_59_15, rf_59_16, rf_59_19, rf_59_23, rf_59_24, rf_59_25, rf_59_26, is_9_59, r2, sr_takes0 B Xr2 s2 u2 s6 y0, sr_takes0 B Xr2 s2 u2 s6 y1, sr_takes1 B Xr2 s2 u2 s6 y2, i10, if_true, if_false]
            exact t2
          · skip
            have ow : opP (nxF b nb a1) = 0 := by
              unfold opP
              simp only [y0, y1, y2, if_false]
            rw [ow, show skR hr2 0 a1 = hr2 from skR_0] at t2
            simp only [c20, c2i, c2n, c2r, cs8_0, cs8_1, cs8_2, cs8_3, cs8_4, decide_eq_true_eq, ev_ald0, ev_aldn0, ev_cv0, ev_cv1, ev_go, ev_i, ev_if0, ev_ild1, ev_ist1, ev_rv, i00, i01, i10, not_false_eq_true, not_true_eq_false, pm_bd_s, pm_tl_n, pm_tl_s, ↓reduceIte, pb_X9_product_0, pb_X9_product_1, pb_X9_product_2, pb_X9_product_3, pb_X9_product_4, kd_59, rf_59_0, rf_59_1, rf_59_3, rf_59_4, rf_59_5, rf_59_6, rf_59_7, rf_59_12, rf_59_14, rf_59_15, rf_59_16, rf_59_19, rf_59_23, rf_59_24, rf_59_25, rf_59_26, is_9_59, r2, sr_takes0 B Xr2 s2 u2 s6 y0, sr_takes0 B Xr2 s2 u2 s6 y1, sr_takes0 B Xr2 s2 u2 s6 y2, i10, if_true, if_false]
            exact t2
  · obtain ⟨t1, t2⟩ := z_P (fb := fb) (D := D) (E := E) (j := 0) (p := none) Z
    obtain ⟨-, -, -, -, -, -, -, z6, -⟩ := id Z
    refine ⟨hc2, hr2, ?_, ?_, f1, f2, Or.inr Z⟩
    · rw [en_X1_readP]
      simp only [c20, c2i, c2n, c2r, cs8_0, cs8_1, cs8_2, cs8_3, cs8_4, decide_eq_true_eq, ev_ald0, ev_aldn0, ev_bin, ev_cv0, ev_cv1, ev_dup_i, ev_dup_r, ev_gi, ev_go, ev_gr, ev_i, ev_if0, ev_if2, ev_ild1, ev_ild2, ev_inc1, ev_ist1, ev_ist2, ev_pi, ev_rv, i00, i01, i10, not_false_eq_true, not_true_eq_false, pm_bd_s, pm_tl_n, pm_tl_s, ↓reduceIte, pb_X1_readP_0, kd_18, rf_18_0, rf_18_1, is_1_18, kd_20, rf_20_0, is_0_20, r1]
      exact t1
    · rw [en_X9_product]
      simp only [c20, c2i, c2n, c2r, cs8_0, cs8_1, cs8_2, cs8_3, cs8_4, decide_eq_true_eq, ev_ald0, ev_aldn0, ev_cv0, ev_cv1, ev_go, ev_i, ev_if0, ev_ild1, ev_ist1, ev_rv, i00, i01, i10, not_false_eq_true, not_true_eq_false, pm_bd_s, pm_tl_n, pm_tl_s, ↓reduceIte, pb_X9_product_0, pb_X9_product_1, pb_X9_product_2, pb_X9_product_3, pb_X9_product_4, kd_59, rf_59_0, rf_59_1, rf_59_3, rf_59_4, rf_59_5, rf_59_6, rf_59_7, rf_59_12, rf_59_14, rf_59_15, rf_59_16, rf_59_19, rf_59_23, rf_59_24, rf_59_25, rf_59_26, is_9_59, r2, sr_takesZ z6 em.1, sr_takesZ z6 em.2.1, sr_takesZ z6 em.2.2, if_true, if_false]
      exact t2
def opS (x : Int32) : Int32 := if x = 43 then 20005 else if x = 45 then 20006 else 0
theorem z_S {hc hr : pm_HP} {D E : Nat} {j : Int32} {p : Option Value} (Z : PZ hc hr nb) : pm_ev P_X1_readS (rs fb (D + 8)) (P_X1_readS 1) [some (.ref 18), some (.int j), p] [] hc = some (none, hc) ∧ pm_ev P_X9_sum (rs fb (E + 8)) (P_X9_sum 4) [some (.ref 59), some (.int 0)] [] hr = some (none, hr) := by
  obtain ⟨a3, k3, z1, z2, z3, z4, z5, z6, z7⟩ := id Z
  have le0 : ((0 : Int32) ≤ 0) = True := by decide
  refine ⟨?_, ?_⟩
  · rw [pb_X1_readS_1]
    by_cases q : (60 : Int32) ≤ j
    · simp only [c20, c2i, c2n, c2r, cs8_0, cs8_1, cs8_2, cs8_3, cs8_4, decide_eq_true_eq, ev_ald0, ev_aldn0, ev_bin, ev_cv0, ev_cv1, ev_dup_i, ev_dup_r, ev_gi, ev_go, ev_gr, ev_i, ev_if0, ev_if2, ev_ild1, ev_ild2, ev_inc1, ev_ist1, ev_ist2, ev_pi, ev_rv, i00, i01, i10, not_false_eq_true, not_true_eq_false, pm_bd_s, pm_tl_n, pm_tl_s, ↓reduceIte, pb_X1_readS_3, kd_18, rf_18_0, rf_18_1, is_1_18, kd_20, rf_20_0, is_0_20, q, if_true]
    · simp only [c20, c2i, c2n, c2r, cs8_0, cs8_1, cs8_2, cs8_3, cs8_4, decide_eq_true_eq, ev_ald0, ev_aldn0, ev_bin, ev_cv0, ev_cv1, ev_dup_i, ev_dup_r, ev_gi, ev_go, ev_gr, ev_i, ev_if0, ev_if2, ev_ild1, ev_ild2, ev_inc1, ev_ist1, ev_ist2, ev_pi, ev_rv, i00, i01, i10, not_false_eq_true, not_true_eq_false, pm_bd_s, pm_tl_n, pm_tl_s, ↓reduceIte, pb_X1_readS_3, kd_18, rf_18_0, rf_18_1, is_1_18, kd_20, rf_20_0, is_0_20, q, sp_isNextZ z5, not_true_eq_false, if_true, if_false]
  · rw [pb_X9_sum_4]
    simp only [c20, c2i, c2n, c2r, cs8_0, cs8_1, cs8_2, cs8_3, cs8_4, decide_eq_true_eq, ev_ald0, ev_aldn0, ev_cv0, ev_cv1, ev_go, ev_i, ev_if0, ev_ild1, ev_ist1, ev_rv, i00, i01, i10, not_false_eq_true, not_true_eq_false, pm_bd_s, pm_tl_n, pm_tl_s, ↓reduceIte, pb_X9_sum_8, kd_59, rf_59_0, rf_59_1, rf_59_3, rf_59_4, rf_59_5, rf_59_6, rf_59_7, rf_59_12, rf_59_14, rf_59_15, rf_59_16, rf_59_19, rf_59_23, rf_59_24, rf_59_25, rf_59_26, is_9_59, le0, if_true]
set_option maxRecDepth 100000 in
theorem lp_S {o e a k q : Nat} (B : PBk nb use b) (hk : k ≤ a) (H : RdL fb n_X1_readP n_X9_product e nb use o b) : ∀ (m a1 k1 j D E : Nat) (hc hr : pm_HP) (p : Option Value), nb - a1 ≤ m → e ≤ D + 8 → e ≤ E + 8 → PXc hc nb use b → PXr hr nb use b → PS hc hr (nnF use) a1 o k1 (q + 1) → a < a1 → a1 ≤ nb → k1 + a ≤ a1 + k → j + 1 ≤ a1 → ∃ hc' hr', pm_ev P_X1_readS (rs fb (D + 8)) (P_X1_readS 1) [some (.ref 18), some (.int (nI j)), p] [] hc = some (none, hc') ∧ pm_ev P_X9_sum (rs fb (E + 8)) (P_X9_sum 4) [some (.ref 59), some (.int (opS (nxF b nb a1)))] [] (skR hr (opS (nxF b nb a1)) a1) = some (none, hr') ∧ FPc hc hc' ∧ FPr hr hr' ∧ PO hc' hr' (nnF use) nb a o k q := by
  have hb := B.1
  have le0 : ((0 : Int32) ≤ 0) = True := by decide
  have em : ¬ (-1 : Int32) = 43 ∧ ¬ (-1 : Int32) = 45 := by decide
  intro m
  induction m with
  | zero =>
    intro a1 k1 j D E hc hr p hm hD hE Xc Xr P h1 h2 h3 h4
    obtain ⟨p1, p2, p3, p4, p5, p6, p7, p8, p9, p10⟩ := id P
    have e60 : ¬ (60 : Int32) ≤ nI j := nI_ge (b := 60) (by omega) (by omega)
    have x0 : (nxF b nb a1 = 43) = False := eq_false (fun t => absurd (nx_lt t (by decide)) (by omega))
    have x1 : (nxF b nb a1 = 45) = False := eq_false (fun t => absurd (nx_lt t (by decide)) (by omega))
    have ow : opS (nxF b nb a1) = 0 := by
      unfold opS
      simp only [x0, x1, if_false]
    rw [ow, show skR hr 0 a1 = hr from skR_0]
    refine ⟨hc, hr, ?_, ?_, FPc.rf _, FPr.rf _, Or.inl ⟨a1, k1, P, h1, h2, h3⟩⟩
    · rw [pb_X1_readS_1]
      simp only [c20, c2i, c2n, c2r, cs8_0, cs8_1, cs8_2, cs8_3, cs8_4, decide_eq_true_eq, ev_ald0, ev_aldn0, ev_bin, ev_cv0, ev_cv1, ev_dup_i, ev_dup_r, ev_gi, ev_go, ev_gr, ev_i, ev_if0, ev_if2, ev_ild1, ev_ild2, ev_inc1, ev_ist1, ev_ist2, ev_pi, ev_rv, i00, i01, i10, not_false_eq_true, not_true_eq_false, pm_bd_s, pm_tl_n, pm_tl_s, ↓reduceIte, pb_X1_readS_3, kd_18, rf_18_0, rf_18_1, is_1_18, kd_20, rf_20_0, is_0_20, e60, sp_isNext B Xc p1 h2 p5, bI_0, x0, x1, not_false_eq_true, not_true_eq_false, if_true, if_false]
    · rw [pb_X9_sum_4]
      simp only [c20, c2i, c2n, c2r, cs8_0, cs8_1, cs8_2, cs8_3, cs8_4, decide_eq_true_eq, ev_ald0, ev_aldn0, ev_cv0, ev_cv1, ev_go, ev_i, ev_if0, ev_ild1, ev_ist1, ev_rv, i00, i01, i10, not_false_eq_true, not_true_eq_false, pm_bd_s, pm_tl_n, pm_tl_s, ↓reduceIte, pb_X9_sum_8, kd_59, rf_59_0, rf_59_1, rf_59_3, rf_59_4, rf_59_5, rf_59_6, rf_59_7, rf_59_12, rf_59_14, rf_59_15, rf_59_16, rf_59_19, rf_59_23, rf_59_24, rf_59_25, rf_59_26, is_9_59, le0, if_true]
  | succ m ih =>
    intro a1 k1 j D E hc hr p hm hD hE Xc Xr P h1 h2 h3 h4
    obtain ⟨p1, p2, p3, p4, p5, p6, p7, p8, p9, p10⟩ := id P
    have e60 : ¬ (60 : Int32) ≤ nI j := nI_ge (b := 60) (by omega) (by omega)
    have P1 := PS_at (a' := a1 + 1) P
    have Xc1 : PXc (pm_si hc 18 3 (nI (a1 + 1))) nb use b := PXc_t Xc (FPc_18 (by omega))
    have Xr1 : PXr (pm_si hr 59 8 (nI (a1 + 1))) nb use b := PXr_t Xr (FPr_59 (by omega))
    by_cases hx0 : nxF b nb a1 = 43
    · have a1n := nx_lt hx0 (by decide)
      have lits : ((43 : Int32) = 45) = False := by decide
      have ow1 : opS (nxF b nb a1) = 20005 := by rw [hx0]; decide
      have ev : (20000 : Int32) + 43 = 20043 := by decide
      have np : ¬ (20005 : Int32) ≤ 0 := by decide
      rw [ow1, show skR hr 20005 a1 = pm_si hr 59 8 (nI (a1 + 1)) from skR_n (by decide)]
      obtain ⟨hc2, hr2, r1, r2, f1, f2, out⟩ := H (D + 8) (E + 8) (a1 + 1) k1 (q + 1) _ _ hD hE Xc1 Xr1 P1 (by omega) (by omega)
      have F1 : FPc hc hc2 := (FPc_18 (by omega)).tr f1
      have F2 : FPr hr hr2 := (FPr_59 (by omega)).tr f2
      rcases out with ⟨a2, k2, P2, u1, u2, u3⟩ | Z
      · obtain ⟨s1, s2, s3, s4, s5, s6, s7, s8, s9, s10⟩ := id P2
        have P3 := PS_add (v := 20043) (w := 20005) P2 (dp_op (nn_5 use) (Or.inr (Or.inr (Or.inr (Or.inr (Or.inr (Or.inl rfl))))))) (by decide)
        obtain ⟨v1, v2, v3, v4, v5, v6, v7, v8, v9, v10⟩ := id P3
        have Xr3 : PXr (adR hr2 k2 20005) nb use b := PXr_t Xr (F2.tr (adR_f _ _ _))
        obtain ⟨hc4, hr4, t1, t2, t3, t4, t5⟩ := ih a2 (k2 + 1) (j + 1) D E _ _ (some (.int 43)) (by omega) hD hE (PXc_t Xc (F1.tr (adC_f _ k2 20043))) Xr3 P3 (by omega) u2 (by omega) (by omega)
        refine ⟨hc4, hr4, ?_, ?_, (F1.tr (adC_f _ _ _)).tr t3, (F2.tr (adR_f _ _ _)).tr t4, t5⟩
        · rw [pb_X1_readS_1]
          simp only [c20, c2i, c2n, c2r, cs8_0, cs8_1, cs8_2, cs8_3, cs8_4, decide_eq_true_eq, ev_ald0, ev_aldn0, ev_bin, ev_cv0, ev_cv1, ev_dup_i, ev_dup_r, ev_gi, ev_go, ev_gr, ev_i, ev_if0, ev_if2, ev_ild1, ev_ild2, ev_inc1, ev_ist1, ev_ist2, ev_pi, ev_rv, i00, i01, i10, not_false_eq_true, not_true_eq_false, pm_bd_s, pm_tl_n, pm_tl_s, ↓reduceIte, pb_X1_readS_2, kd_18, rf_18_0, rf_18_1, is_1_18, kd_20, rf_20_0, is_0_20, e60, sp_isNext B Xc p1 h2 p5, sp_next B Xc p1 h2, bI_0, hx0, lits, p1, nI_1, r1, ev, add_20 s7 (show k2 < 60 by omega), not_true_eq_false, not_false_eq_true, if_true, if_false]
          exact t1
        · rw [pb_X9_sum_4]
          by_cases y0 : nxF b nb a2 = 43
          · have ow : opS (nxF b nb a2) = 20005 := by rw [y0]; decide
            rw [ow, show skR (adR hr2 k2 20005) 20005 a2 = pm_si (adR hr2 k2 20005) 59 8 (nI (a2 + 1)) from skR_n (by decide)] at t2
            simp only [c20, c2i, c2n, c2r, cs8_0, cs8_1, cs8_2, cs8_3, cs8_4, decide_eq_true_eq, ev_ald0, ev_aldn0, ev_cv0, ev_cv1, ev_go, ev_i, ev_if0, ev_ild1, ev_ist1, ev_rv, i00, i01, i10, not_false_eq_true, not_true_eq_false, pm_bd_s, pm_tl_n, pm_tl_s, ↓reduceIte, pb_X9_sum_5, pb_X9_sum_6, pb_X9_sum_7, kd_59, rf_59_0, rf_59_1, rf_59_3, rf_59_4, rf_59_5, rf_59_6, rf_59_7, rf_59_12, rf_59_14, rf_59_15, rf_59_16, rf_59_19, rf_59_23, rf_59_24, rf_59_25, rf_59_26, is_9_59, np, r2, sr_codes s6 s8 (show k2 < 60 by omega), sr_takes1 B Xr3 v2 u2 v6 y0, i10, if_true, if_false]
            exact t2
          · skip
            by_cases y1 : nxF b nb a2 = 45
            · have ow : opS (nxF b nb a2) = 20006 := by rw [y1]; decide
              rw [ow, show skR (adR hr2 k2 20005) 20006 a2 = pm_si (adR hr2 k2 20005) 59 8 (nI (a2 + 1)) from skR_n (by decide)] at t2
              simp only [c20, c2i, c2n, c2r, cs8_0, cs8_1, cs8_2, cs8_3, cs8_4, decide_eq_true_eq, ev_ald0, ev_aldn0, ev_cv0, ev_cv1, ev_go, ev_i, ev_if0, ev_ild1, ev_ist1, ev_rv, i00, i01, i10, not_false_eq_true, not_true_eq_false, pm_bd_s, pm_tl_n, pm_tl_s, ↓reduceIte, pb_X9_sum_5, pb_X9_sum_6, pb_X9_sum_7, kd_59, rf_59_0, rf_59_1, rf_59_3, rf_59_4, rf_59_5, rf_59_6, rf_59_7, rf_59_12, rf_59_14, rf_59_15, rf_59_16, rf_59_19, rf_59_23, rf_59_24, rf_59_25, rf_59_26, is_9_59, np, r2, sr_codes s6 s8 (show k2 < 60 by omega), sr_takes0 B Xr3 v2 u2 v6 y0, sr_takes1 B Xr3 v2 u2 v6 y1, i10, if_true, if_false]
              exact t2
            · skip
              have ow : opS (nxF b nb a2) = 0 := by
                unfold opS
                simp only [y0, y1, if_false]
              rw [ow, show skR (adR hr2 k2 20005) 0 a2 = (adR hr2 k2 20005) from skR_0] at t2
              simp only [c20, c2i, c2n, c2r, cs8_0, cs8_1, cs8_2, cs8_3, cs8_4, decide_eq_true_eq, ev_ald0, ev_aldn0, ev_cv0, ev_cv1, ev_go, ev_i, ev_if0, ev_ild1, ev_ist1, ev_rv, i00, i01, i10, not_false_eq_true, not_true_eq_false, pm_bd_s, pm_tl_n, pm_tl_s, ↓reduceIte, pb_X9_sum_5, pb_X9_sum_6, pb_X9_sum_7, kd_59, rf_59_0, rf_59_1, rf_59_3, rf_59_4, rf_59_5, rf_59_6, rf_59_7, rf_59_12, rf_59_14, rf_59_15, rf_59_16, rf_59_19, rf_59_23, rf_59_24, rf_59_25, rf_59_26, is_9_59, np, r2, sr_codes s6 s8 (show k2 < 60 by omega), sr_takes0 B Xr3 v2 u2 v6 y0, sr_takes0 B Xr3 v2 u2 v6 y1, i10, if_true, if_false]
              exact t2
      · obtain ⟨hc3, r3, Z2, F3⟩ := PZ_add (fb := fb) (v := 20043) Z
        obtain ⟨-, -, -, -, -, -, -, z6, -⟩ := id Z
        obtain ⟨t1, t2⟩ := z_S (fb := fb) (D := D) (E := E) (j := nI (j + 1)) (p := some (.int 43)) Z2
        refine ⟨hc3, hr2, ?_, ?_, F1.tr F3, F2, Or.inr Z2⟩
        · rw [pb_X1_readS_1]
          simp only [c20, c2i, c2n, c2r, cs8_0, cs8_1, cs8_2, cs8_3, cs8_4, decide_eq_true_eq, ev_ald0, ev_aldn0, ev_bin, ev_cv0, ev_cv1, ev_dup_i, ev_dup_r, ev_gi, ev_go, ev_gr, ev_i, ev_if0, ev_if2, ev_ild1, ev_ild2, ev_inc1, ev_ist1, ev_ist2, ev_pi, ev_rv, i00, i01, i10, not_false_eq_true, not_true_eq_false, pm_bd_s, pm_tl_n, pm_tl_s, ↓reduceIte, pb_X1_readS_2, kd_18, rf_18_0, rf_18_1, is_1_18, kd_20, rf_20_0, is_0_20, e60, sp_isNext B Xc p1 h2 p5, sp_next B Xc p1 h2, bI_0, hx0, lits, p1, nI_1, r1, ev, r3, not_true_eq_false, not_false_eq_true, if_true, if_false]
          exact t1
        · rw [pb_X9_sum_4]
          simp only [c20, c2i, c2n, c2r, cs8_0, cs8_1, cs8_2, cs8_3, cs8_4, decide_eq_true_eq, ev_ald0, ev_aldn0, ev_cv0, ev_cv1, ev_go, ev_i, ev_if0, ev_ild1, ev_ist1, ev_rv, i00, i01, i10, not_false_eq_true, not_true_eq_false, pm_bd_s, pm_tl_n, pm_tl_s, ↓reduceIte, pb_X9_sum_5, pb_X9_sum_6, pb_X9_sum_7, kd_59, rf_59_0, rf_59_1, rf_59_3, rf_59_4, rf_59_5, rf_59_6, rf_59_7, rf_59_12, rf_59_14, rf_59_15, rf_59_16, rf_59_19, rf_59_23, rf_59_24, rf_59_25, rf_59_26, is_9_59, np, r2, sr_codesZ z6, sr_takesZ z6 em.1, sr_takesZ z6 em.2, if_true, if_false]
          exact t2
    · skip
      by_cases hx1 : nxF b nb a1 = 45
      · have a1n := nx_lt hx1 (by decide)
        have lits : ((45 : Int32) = 43) = False := by decide
        have ow1 : opS (nxF b nb a1) = 20006 := by rw [hx1]; decide
        have ev : (20000 : Int32) + 45 = 20045 := by decide
        have np : ¬ (20006 : Int32) ≤ 0 := by decide
        rw [ow1, show skR hr 20006 a1 = pm_si hr 59 8 (nI (a1 + 1)) from skR_n (by decide)]
        obtain ⟨hc2, hr2, r1, r2, f1, f2, out⟩ := H (D + 8) (E + 8) (a1 + 1) k1 (q + 1) _ _ hD hE Xc1 Xr1 P1 (by omega) (by omega)
        have F1 : FPc hc hc2 := (FPc_18 (by omega)).tr f1
        have F2 : FPr hr hr2 := (FPr_59 (by omega)).tr f2
        rcases out with ⟨a2, k2, P2, u1, u2, u3⟩ | Z
        · obtain ⟨s1, s2, s3, s4, s5, s6, s7, s8, s9, s10⟩ := id P2
          have P3 := PS_add (v := 20045) (w := 20006) P2 (dp_op (nn_5 use) (Or.inr (Or.inr (Or.inr (Or.inr (Or.inr (Or.inr (Or.inl rfl)))))))) (by decide)
          obtain ⟨v1, v2, v3, v4, v5, v6, v7, v8, v9, v10⟩ := id P3
          have Xr3 : PXr (adR hr2 k2 20006) nb use b := PXr_t Xr (F2.tr (adR_f _ _ _))
          obtain ⟨hc4, hr4, t1, t2, t3, t4, t5⟩ := ih a2 (k2 + 1) (j + 1) D E _ _ (some (.int 45)) (by omega) hD hE (PXc_t Xc (F1.tr (adC_f _ k2 20045))) Xr3 P3 (by omega) u2 (by omega) (by omega)
          refine ⟨hc4, hr4, ?_, ?_, (F1.tr (adC_f _ _ _)).tr t3, (F2.tr (adR_f _ _ _)).tr t4, t5⟩
          · rw [pb_X1_readS_1]
            simp only [c20, c2i, c2n, c2r, cs8_0, cs8_1, cs8_2, cs8_3, cs8_4, decide_eq_true_eq, ev_ald0, ev_aldn0, ev_bin, ev_cv0, ev_cv1, ev_dup_i, ev_dup_r, ev_gi, ev_go, ev_gr, ev_i, ev_if0, ev_if2, ev_ild1, ev_ild2, ev_inc1, ev_ist1, ev_ist2, ev_pi, ev_rv, i00, i01, i10, not_false_eq_true, not_true_eq_false, pm_bd_s, pm_tl_n, pm_tl_s, ↓reduceIte, pb_X1_readS_2, kd_18, rf_18_0, rf_18_1, is_1_18, kd_20, rf_20_0, is_0_20, e60, sp_isNext B Xc p1 h2 p5, sp_next B Xc p1 h2, bI_0, hx1, lits, p1, nI_1, r1, ev, add_20 s7 (show k2 < 60 by omega), not_true_eq_false, not_false_eq_true, if_true, if_false]
            exact t1
          · rw [pb_X9_sum_4]
            by_cases y0 : nxF b nb a2 = 43
            · have ow : opS (nxF b nb a2) = 20005 := by rw [y0]; decide
              rw [ow, show skR (adR hr2 k2 20006) 20005 a2 = pm_si (adR hr2 k2 20006) 59 8 (nI (a2 + 1)) from skR_n (by decide)] at t2
              simp only [c20, c2i, c2n, c2r, cs8_0, cs8_1, cs8_2, cs8_3, cs8_4, decide_eq_true_eq, ev_ald0, ev_aldn0, ev_cv0, ev_cv1, ev_go, ev_i, ev_if0, ev_ild1, ev_ist1, ev_rv, i00, i01, i10, not_false_eq_true, not_true_eq_false, pm_bd_s, pm_tl_n, pm_tl_s, ↓reduceIte, pb_X9_sum_5, pb_X9_sum_6, pb_X9_sum_7, kd_59, rf_59_0, rf_59_1, rf_59_3, rf_59_4, rf_59_5, rf_59_6, rf_59_7, rf_59_12, rf_59_14, rf_59_15, rf_59_16, rf_59_19, rf_59_23, rf_59_24, rf_59_25, rf_59_26, is_9_59, np, r2, sr_codes s6 s8 (show k2 < 60 by omega), sr_takes1 B Xr3 v2 u2 v6 y0, i10, if_true, if_false]
              exact t2
            · skip
              by_cases y1 : nxF b nb a2 = 45
              · have ow : opS (nxF b nb a2) = 20006 := by rw [y1]; decide
                rw [ow, show skR (adR hr2 k2 20006) 20006 a2 = pm_si (adR hr2 k2 20006) 59 8 (nI (a2 + 1)) from skR_n (by decide)] at t2
                simp only [c20, c2i, c2n, c2r, cs8_0, cs8_1, cs8_2, cs8_3, cs8_4, decide_eq_true_eq, ev_ald0, ev_aldn0, ev_cv0, ev_cv1, ev_go, ev_i, ev_if0, ev_ild1, ev_ist1, ev_rv, i00, i01, i10, not_false_eq_true, not_true_eq_false, pm_bd_s, pm_tl_n, pm_tl_s, ↓reduceIte, pb_X9_sum_5, pb_X9_sum_6, pb_X9_sum_7, kd_59, rf_59_0, rf_59_1, rf_59_3, rf_59_4, rf_59_5, rf_59_6, rf_59_7, rf_59_12, rf_59_14, rf_59_15, rf_59_16, rf_59_19, rf_59_23, rf_59_24, rf_59_25, rf_59_26, is_9_59, np, r2, sr_codes s6 s8 (show k2 < 60 by omega), sr_takes0 B Xr3 v2 u2 v6 y0, sr_takes1 B Xr3 v2 u2 v6 y1, i10, if_true, if_false]
                exact t2
              · skip
                have ow : opS (nxF b nb a2) = 0 := by
                  unfold opS
                  simp only [y0, y1, if_false]
                rw [ow, show skR (adR hr2 k2 20006) 0 a2 = (adR hr2 k2 20006) from skR_0] at t2
                simp only [c20, c2i, c2n, c2r, cs8_0, cs8_1, cs8_2, cs8_3, cs8_4, decide_eq_true_eq, ev_ald0, ev_aldn0, ev_cv0, ev_cv1, ev_go, ev_i, ev_if0, ev_ild1, ev_ist1, ev_rv, i00, i01, i10, not_false_eq_true, not_true_eq_false, pm_bd_s, pm_tl_n, pm_tl_s, ↓reduceIte, pb_X9_sum_5, pb_X9_sum_6, pb_X9_sum_7, kd_59, rf_59_0, rf_59_1, rf_59_3, rf_59_4, rf_59_5, rf_59_6, rf_59_7, rf_59_12, rf_59_14, rf_59_15, rf_59_16, rf_59_19, rf_59_23, rf_59_24, rf_59_25, rf_59_26, is_9_59, np, r2, sr_codes s6 s8 (show k2 < 60 by omega), sr_takes0 B Xr3 v2 u2 v6 y0, sr_takes0 B Xr3 v2 u2 v6 y1, i10, if_true, if_false]
                exact t2
        · obtain ⟨hc3, r3, Z2, F3⟩ := PZ_add (fb := fb) (v := 20045) Z
          obtain ⟨-, -, -, -, -, -, -, z6, -⟩ := id Z
          obtain ⟨t1, t2⟩ := z_S (fb := fb) (D := D) (E := E) (j := nI (j + 1)) (p := some (.int 45)) Z2
          refine ⟨hc3, hr2, ?_, ?_, F1.tr F3, F2, Or.inr Z2⟩
          · rw [pb_X1_readS_1]
            simp only [c20, c2i, c2n, c2r, cs8_0, cs8_1, cs8_2, cs8_3, cs8_4, decide_eq_true_eq, ev_ald0, ev_aldn0, ev_bin, ev_cv0, ev_cv1, ev_dup_i, ev_dup_r, ev_gi, ev_go, ev_gr, ev_i, ev_if0, ev_if2, ev_ild1, ev_ild2, ev_inc1, ev_ist1, ev_ist2, ev_pi, ev_rv, i00, i01, i10, not_false_eq_true, not_true_eq_false, pm_bd_s, pm_tl_n, pm_tl_s, ↓reduceIte, pb_X1_readS_2, kd_18, rf_18_0, rf_18_1, is_1_18, kd_20, rf_20_0, is_0_20, e60, sp_isNext B Xc p1 h2 p5, sp_next B Xc p1 h2, bI_0, hx1, lits, p1, nI_1, r1, ev, r3, not_true_eq_false, not_false_eq_true, if_true, if_false]
            exact t1
          · rw [pb_X9_sum_4]
            simp only [c20, c2i, c2n, c2r, cs8_0, cs8_1, cs8_2, cs8_3, cs8_4, decide_eq_true_eq, ev_ald0, ev_aldn0, ev_cv0, ev_cv1, ev_go, ev_i, ev_if0, ev_ild1, ev_ist1, ev_rv, i00, i01, i10, not_false_eq_true, not_true_eq_false, pm_bd_s, pm_tl_n, pm_tl_s, ↓reduceIte, pb_X9_sum_5, pb_X9_sum_6, pb_X9_sum_7, kd_59, rf_59_0, rf_59_1, rf_59_3, rf_59_4, rf_59_5, rf_59_6, rf_59_7, rf_59_12, rf_59_14, rf_59_15, rf_59_16, rf_59_19, rf_59_23, rf_59_24, rf_59_25, rf_59_26, is_9_59, np, r2, sr_codesZ z6, sr_takesZ z6 em.1, sr_takesZ z6 em.2, if_true, if_false]
            exact t2
      · skip
        have x0 := eq_false hx0
        have x1 := eq_false hx1
        have ow : opS (nxF b nb a1) = 0 := by
          unfold opS
          simp only [x0, x1, if_false]
        rw [ow, show skR hr 0 a1 = hr from skR_0]
        refine ⟨hc, hr, ?_, ?_, FPc.rf _, FPr.rf _, Or.inl ⟨a1, k1, P, h1, h2, h3⟩⟩
        · rw [pb_X1_readS_1]
          simp only [c20, c2i, c2n, c2r, cs8_0, cs8_1, cs8_2, cs8_3, cs8_4, decide_eq_true_eq, ev_ald0, ev_aldn0, ev_bin, ev_cv0, ev_cv1, ev_dup_i, ev_dup_r, ev_gi, ev_go, ev_gr, ev_i, ev_if0, ev_if2, ev_ild1, ev_ild2, ev_inc1, ev_ist1, ev_ist2, ev_pi, ev_rv, i00, i01, i10, not_false_eq_true, not_true_eq_false, pm_bd_s, pm_tl_n, pm_tl_s, ↓reduceIte, pb_X1_readS_3, kd_18, rf_18_0, rf_18_1, is_1_18, kd_20, rf_20_0, is_0_20, e60, sp_isNext B Xc p1 h2 p5, bI_0, x0, x1, not_false_eq_true, not_true_eq_false, if_true, if_false]
        · rw [pb_X9_sum_4]
          simp only [c20, c2i, c2n, c2r, cs8_0, cs8_1, cs8_2, cs8_3, cs8_4, decide_eq_true_eq, ev_ald0, ev_aldn0, ev_cv0, ev_cv1, ev_go, ev_i, ev_if0, ev_ild1, ev_ist1, ev_rv, i00, i01, i10, not_false_eq_true, not_true_eq_false, pm_bd_s, pm_tl_n, pm_tl_s, ↓reduceIte, pb_X9_sum_8, kd_59, rf_59_0, rf_59_1, rf_59_3, rf_59_4, rf_59_5, rf_59_6, rf_59_7, rf_59_12, rf_59_14, rf_59_15, rf_59_16, rf_59_19, rf_59_23, rf_59_24, rf_59_25, rf_59_26, is_9_59, le0, if_true]
theorem SL {o e : Nat} (B : PBk nb use b) (h8 : 8 ≤ e) (H : RdL fb n_X1_readP n_X9_product e nb use o b) : RdL fb n_X1_readS n_X9_sum (e + 1) nb use o b := by
  intro dc dr a k q hc hr hdc hdr Xc Xr P hk ha
  obtain ⟨D, rfl⟩ : ∃ D, dc = D + 8 + 1 := ⟨dc - 9, by omega⟩
  obtain ⟨E, rfl⟩ : ∃ E, dr = E + 8 + 1 := ⟨dr - 9, by omega⟩
  have em : ¬ (-1 : Int32) = 43 ∧ ¬ (-1 : Int32) = 45 := by decide
  obtain ⟨hc2, hr2, r1, r2, f1, f2, out⟩ := H (D + 8) (E + 8) a k q _ _ (by omega) (by omega) Xc Xr P hk ha
  rcases out with ⟨a1, k1, P2, u1, u2, u3⟩ | Z
  · obtain ⟨hc4, hr4, t1, t2, t3, t4, t5⟩ := lp_S B hk H (nb - a1) a1 k1 0 D E _ _ none (Nat.le_refl _) (by omega) (by omega) (PXc_t Xc f1) (PXr_t Xr f2) P2 u1 u2 u3 (by omega)
    obtain ⟨s1, s2, s3, s4, s5, s6, s7, s8, s9, s10⟩ := id P2
    have Xr2 := PXr_t Xr f2
    rw [nI_0] at t1
    refine ⟨hc4, hr4, ?_, ?_, f1.tr t3, f2.tr t4, t5⟩
    · rw [en_X1_readS]
      simp only [c20, c2i, c2n, c2r, cs8_0, cs8_1, cs8_2, cs8_3, cs8_4, decide_eq_true_eq, ev_ald0, ev_aldn0, ev_bin, ev_cv0, ev_cv1, ev_dup_i, ev_dup_r, ev_gi, ev_go, ev_gr, ev_i, ev_if0, ev_if2, ev_ild1, ev_ild2, ev_inc1, ev_ist1, ev_ist2, ev_pi, ev_rv, i00, i01, i10, not_false_eq_true, not_true_eq_false, pm_bd_s, pm_tl_n, pm_tl_s, ↓reduceIte, pb_X1_readS_0, kd_18, rf_18_0, rf_18_1, is_1_18, kd_20, rf_20_0, is_0_20, r1]
      exact t1
    · rw [en_X9_sum]
      by_cases y0 : nxF b nb a1 = 43
      · have ow : opS (nxF b nb a1) = 20005 := by rw [y0]; decide
        rw [ow, show skR hr2 20005 a1 = pm_si hr2 59 8 (nI (a1 + 1)) from skR_n (by decide)] at t2
        simp only [c20, c2i, c2n, c2r, cs8_0, cs8_1, cs8_2, cs8_3, cs8_4, decide_eq_true_eq, ev_ald0, ev_aldn0, ev_cv0, ev_cv1, ev_go, ev_i, ev_if0, ev_ild1, ev_ist1, ev_rv, i00, i01, i10, not_false_eq_true, not_true_eq_false, pm_bd_s, pm_tl_n, pm_tl_s, ↓reduceIte, pb_X9_sum_0, pb_X9_sum_1, pb_X9_sum_2, pb_X9_sum_3, kd_59, rf_59_0, rf_59_1, rf_59_3, rf_59_4, rf_59_5, rf_59_6, rf_59_7, rf_59_12, rf_59_14, rf_59_15, rf_59_16, rf_59_19, rf_59_23, rf_59_24, rf_59_25, rf_59_26, is_9_59, r2, sr_takes1 B Xr2 s2 u2 s6 y0, i10, if_true, if_false]
        exact t2
      · skip
        by_cases y1 : nxF b nb a1 = 45
        · have ow : opS (nxF b nb a1) = 20006 := by rw [y1]; decide
          rw [ow, show skR hr2 20006 a1 = pm_si hr2 59 8 (nI (a1 + 1)) from skR_n (by decide)] at t2
          simp only [c20, c2i, c2n, c2r, cs8_0, cs8_1, cs8_2, cs8_3, cs8_4, decide_eq_true_eq, ev_ald0, ev_aldn0, ev_cv0, ev_cv1, ev_go, ev_i, ev_if0, ev_ild1, ev_ist1, ev_rv, i00, i01, i10, not_false_eq_true, not_true_eq_false, pm_bd_s, pm_tl_n, pm_tl_s, ↓reduceIte, pb_X9_sum_0, pb_X9_sum_1, pb_X9_sum_2, pb_X9_sum_3, kd_59, rf_59_0, rf_59_1, rf_59_3, rf_59_4, rf_59_5, rf_59_6, rf_59_7, rf_59_12, rf_59_14, rf_59_15, rf_59_16, rf_59_19, rf_59_23, rf_59_24, rf_59_25, rf_59_26, is_9_59, r2, sr_takes0 B Xr2 s2 u2 s6 y0, sr_takes1 B Xr2 s2 u2 s6 y1, i10, if_true, if_false]
          exact t2
        · skip
          have ow : opS (nxF b nb a1) = 0 := by
            unfold opS
            simp only [y0, y1, if_false]
          rw [ow, show skR hr2 0 a1 = hr2 from skR_0] at t2
          simp only [c20, c2i, c2n, c2r, cs8_0, cs8_1, cs8_2, cs8_3, cs8_4, decide_eq_true_eq, ev_ald0, ev_aldn0, ev_cv0, ev_cv1, ev_go, ev_i, ev_if0, ev_ild1, ev_ist1, ev_rv, i00, i01, i10, not_false_eq_true, not_true_eq_false, pm_bd_s, pm_tl_n, pm_tl_s, ↓reduceIte, pb_X9_sum_0, pb_X9_sum_1, pb_X9_sum_2, pb_X9_sum_3, kd_59, rf_59_0, rf_59_1, rf_59_3, rf_59_4, rf_59_5, rf_59_6, rf_59_7, rf_59_12, rf_59_14, rf_59_15, rf_59_16, rf_59_19, rf_59_23, rf_59_24, rf_59_25, rf_59_26, is_9_59, r2, sr_takes0 B Xr2 s2 u2 s6 y0, sr_takes0 B Xr2 s2 u2 s6 y1, i10, if_true, if_false]
          exact t2
  · obtain ⟨t1, t2⟩ := z_S (fb := fb) (D := D) (E := E) (j := 0) (p := none) Z
    obtain ⟨-, -, -, -, -, -, -, z6, -⟩ := id Z
    refine ⟨hc2, hr2, ?_, ?_, f1, f2, Or.inr Z⟩
    · rw [en_X1_readS]
      simp only [c20, c2i, c2n, c2r, cs8_0, cs8_1, cs8_2, cs8_3, cs8_4, decide_eq_true_eq, ev_ald0, ev_aldn0, ev_bin, ev_cv0, ev_cv1, ev_dup_i, ev_dup_r, ev_gi, ev_go, ev_gr, ev_i, ev_if0, ev_if2, ev_ild1, ev_ild2, ev_inc1, ev_ist1, ev_ist2, ev_pi, ev_rv, i00, i01, i10, not_false_eq_true, not_true_eq_false, pm_bd_s, pm_tl_n, pm_tl_s, ↓reduceIte, pb_X1_readS_0, kd_18, rf_18_0, rf_18_1, is_1_18, kd_20, rf_20_0, is_0_20, r1]
      exact t1
    · rw [en_X9_sum]
      simp only [c20, c2i, c2n, c2r, cs8_0, cs8_1, cs8_2, cs8_3, cs8_4, decide_eq_true_eq, ev_ald0, ev_aldn0, ev_cv0, ev_cv1, ev_go, ev_i, ev_if0, ev_ild1, ev_ist1, ev_rv, i00, i01, i10, not_false_eq_true, not_true_eq_false, pm_bd_s, pm_tl_n, pm_tl_s, ↓reduceIte, pb_X9_sum_0, pb_X9_sum_1, pb_X9_sum_2, pb_X9_sum_3, kd_59, rf_59_0, rf_59_1, rf_59_3, rf_59_4, rf_59_5, rf_59_6, rf_59_7, rf_59_12, rf_59_14, rf_59_15, rf_59_16, rf_59_19, rf_59_23, rf_59_24, rf_59_25, rf_59_26, is_9_59, r2, sr_takesZ z6 em.1, sr_takesZ z6 em.2, if_true, if_false]
      exact t2
theorem BL {o e : Nat} (B : PBk nb use b) (h8 : 8 ≤ e) (H : RdL fb n_X1_readS n_X9_sum e nb use o b) : RdL fb n_X1_readB n_X9_compared (e + 1) nb use o b := by
  intro dc dr a k q hc hr hdc hdr Xc Xr P hk ha
  obtain ⟨D, rfl⟩ : ∃ D, dc = D + 8 + 1 := ⟨dc - 9, by omega⟩
  obtain ⟨E, rfl⟩ : ∃ E, dr = E + 8 + 1 := ⟨dr - 9, by omega⟩
  have hb := B.1
  have em : ¬ (-1 : Int32) = 60 ∧ ¬ (-1 : Int32) = 61 ∧ ¬ (-1 : Int32) = 62 := by decide
  have le0 : ((0 : Int32) ≤ 0) = True := by decide
  obtain ⟨hc2, hr2, r1, r2, f1, f2, out⟩ := H (D + 8) (E + 8) a k q _ _ (by omega) (by omega) Xc Xr P hk ha
  rcases out with ⟨a1, k1, P2, u1, u2, u3⟩ | Z
  · obtain ⟨s1, s2, s3, s4, s5, s6, s7, s8, s9, s10⟩ := id P2
    have Xc2 := PXc_t Xc f1
    have Xr2 := PXr_t Xr f2
    have P1 := PS_at (a' := a1 + 1) P2
    have Xc1 : PXc (pm_si hc2 18 3 (nI (a1 + 1))) nb use b := PXc_t Xc2 (FPc_18 (by omega))
    have Xr1 : PXr (pm_si hr2 59 8 (nI (a1 + 1))) nb use b := PXr_t Xr2 (FPr_59 (by omega))
    by_cases hx0 : nxF b nb a1 = 60
    · have a1n := nx_lt hx0 (by decide)
      have lits : ((60 : Int32) = 61) = False ∧ ((60 : Int32) = 62) = False := by decide
      have ev : (20000 : Int32) + 60 = 20060 := by decide
      have np : ¬ (20002 : Int32) ≤ 0 := by decide
      obtain ⟨hc3, hr3, r3, r4, f3, f4, out⟩ := H (D + 8) (E + 8) (a1 + 1) k1 (q + 1) _ _ (by omega) (by omega) Xc1 Xr1 P1 (by omega) (by omega)
      have F1 : FPc hc hc3 := (f1.tr (FPc_18 (by omega))).tr f3
      have F2 : FPr hr hr3 := (f2.tr (FPr_59 (by omega))).tr f4
      rcases out with ⟨a2, k2, P4, w1, w2, w3⟩ | Z
      · obtain ⟨y1, y2, y3, y4, y5, y6, y7, y8, y9, y10⟩ := id P4
        have P3 := PS_add (v := 20060) (w := 20002) P4 (dp_op (nn_5 use) (Or.inr (Or.inr (Or.inl rfl)))) (by decide)
        refine ⟨_, _, ?_, ?_, F1.tr (adC_f _ _ _), F2.tr (adR_f _ _ _), Or.inl ⟨a2, k2 + 1, P3, by omega, w2, by omega⟩⟩
        · rw [en_X1_readB]
          simp only [c20, c2i, c2n, c2r, cs8_0, cs8_1, cs8_2, cs8_3, cs8_4, decide_eq_true_eq, ev_ald0, ev_aldn0, ev_bin, ev_cv0, ev_cv1, ev_dup_i, ev_dup_r, ev_gi, ev_go, ev_gr, ev_i, ev_if0, ev_ild1, ev_ist1, ev_pi, ev_rv, i00, i01, i10, not_false_eq_true, not_true_eq_false, pm_bd_s, pm_tl_n, pm_tl_s, ↓reduceIte, pb_X1_readB_0, pb_X1_readB_1, pb_X1_readB_2, kd_18, rf_18_0, rf_18_1, is_1_18, kd_20, rf_20_0, is_0_20, r1, sp_isNext B Xc2 s1 u2 s5, sp_next B Xc2 s1 u2, bI_0, hx0, lits, s1, nI_1, r3, ev, add_20 y7 (show k2 < 60 by omega), not_true_eq_false, not_false_eq_true, if_true, if_false]
        · rw [en_X9_compared]
          simp only [c20, c2i, c2n, c2r, cs8_0, cs8_1, cs8_2, cs8_3, cs8_4, decide_eq_true_eq, ev_ald0, ev_aldn0, ev_cv0, ev_cv1, ev_go, ev_i, ev_if0, ev_ild1, ev_ist1, ev_rv, i00, i01, i10, not_false_eq_true, not_true_eq_false, pm_bd_s, pm_tl_n, pm_tl_s, ↓reduceIte, pb_X9_compared_0, pb_X9_compared_1, pb_X9_compared_2, pb_X9_compared_3, pb_X9_compared_4, pb_X9_compared_5, kd_59, rf_59_0, rf_59_1, rf_59_3, rf_59_4, rf_59_5, rf_59_6, rf_59_7, rf_59_12, rf_59_14, rf_59_15, rf_59_16, rf_59_19, rf_59_23, rf_59_24, rf_59_25, rf_59_26, is_9_59, r2, sr_takes1 B Xr2 s2 u2 s6 hx0, i10, np, r4, sr_codes y6 y8 (show k2 < 60 by omega), if_true, if_false]
      · obtain ⟨hc4, r5, Z2, F3⟩ := PZ_add (fb := fb) (v := 20060) Z
        obtain ⟨-, -, -, -, -, -, -, z6, -⟩ := id Z
        refine ⟨hc4, hr3, ?_, ?_, F1.tr F3, F2, Or.inr Z2⟩
        · rw [en_X1_readB]
          simp only [c20, c2i, c2n, c2r, cs8_0, cs8_1, cs8_2, cs8_3, cs8_4, decide_eq_true_eq, ev_ald0, ev_aldn0, ev_bin, ev_cv0, ev_cv1, ev_dup_i, ev_dup_r, ev_gi, ev_go, ev_gr, ev_i, ev_if0, ev_ild1, ev_ist1, ev_pi, ev_rv, i00, i01, i10, not_false_eq_true, not_true_eq_false, pm_bd_s, pm_tl_n, pm_tl_s, ↓reduceIte, pb_X1_readB_0, pb_X1_readB_1, pb_X1_readB_2, kd_18, rf_18_0, rf_18_1, is_1_18, kd_20, rf_20_0, is_0_20, r1, sp_isNext B Xc2 s1 u2 s5, sp_next B Xc2 s1 u2, bI_0, hx0, lits, s1, nI_1, r3, ev, r5, not_true_eq_false, not_false_eq_true, if_true, if_false]
        · rw [en_X9_compared]
          simp only [c20, c2i, c2n, c2r, cs8_0, cs8_1, cs8_2, cs8_3, cs8_4, decide_eq_true_eq, ev_ald0, ev_aldn0, ev_cv0, ev_cv1, ev_go, ev_i, ev_if0, ev_ild1, ev_ist1, ev_rv, i00, i01, i10, not_false_eq_true, not_true_eq_false, pm_bd_s, pm_tl_n, pm_tl_s, ↓reduceIte, pb_X9_compared_0, pb_X9_compared_1, pb_X9_compared_2, pb_X9_compared_3, pb_X9_compared_4, pb_X9_compared_5, kd_59, rf_59_0, rf_59_1, rf_59_3, rf_59_4, rf_59_5, rf_59_6, rf_59_7, rf_59_12, rf_59_14, rf_59_15, rf_59_16, rf_59_19, rf_59_23, rf_59_24, rf_59_25, rf_59_26, is_9_59, r2, sr_takes1 B Xr2 s2 u2 s6 hx0, i10, np, r4, sr_codesZ z6, if_true, if_false]
    · skip
      by_cases hx1 : nxF b nb a1 = 61
      · have a1n := nx_lt hx1 (by decide)
        have lits : ((61 : Int32) = 60) = False ∧ ((61 : Int32) = 62) = False := by decide
        have ev : (20000 : Int32) + 61 = 20061 := by decide
        have np : ¬ (20003 : Int32) ≤ 0 := by decide
        obtain ⟨hc3, hr3, r3, r4, f3, f4, out⟩ := H (D + 8) (E + 8) (a1 + 1) k1 (q + 1) _ _ (by omega) (by omega) Xc1 Xr1 P1 (by omega) (by omega)
        have F1 : FPc hc hc3 := (f1.tr (FPc_18 (by omega))).tr f3
        have F2 : FPr hr hr3 := (f2.tr (FPr_59 (by omega))).tr f4
        rcases out with ⟨a2, k2, P4, w1, w2, w3⟩ | Z
        · obtain ⟨y1, y2, y3, y4, y5, y6, y7, y8, y9, y10⟩ := id P4
          have P3 := PS_add (v := 20061) (w := 20003) P4 (dp_op (nn_5 use) (Or.inr (Or.inr (Or.inr (Or.inl rfl))))) (by decide)
          refine ⟨_, _, ?_, ?_, F1.tr (adC_f _ _ _), F2.tr (adR_f _ _ _), Or.inl ⟨a2, k2 + 1, P3, by omega, w2, by omega⟩⟩
          · rw [en_X1_readB]
            simp only [c20, c2i, c2n, c2r, cs8_0, cs8_1, cs8_2, cs8_3, cs8_4, decide_eq_true_eq, ev_ald0, ev_aldn0, ev_bin, ev_cv0, ev_cv1, ev_dup_i, ev_dup_r, ev_gi, ev_go, ev_gr, ev_i, ev_if0, ev_ild1, ev_ist1, ev_pi, ev_rv, i00, i01, i10, not_false_eq_true, not_true_eq_false, pm_bd_s, pm_tl_n, pm_tl_s, ↓reduceIte, pb_X1_readB_0, pb_X1_readB_1, pb_X1_readB_2, kd_18, rf_18_0, rf_18_1, is_1_18, kd_20, rf_20_0, is_0_20, r1, sp_isNext B Xc2 s1 u2 s5, sp_next B Xc2 s1 u2, bI_0, hx1, lits, s1, nI_1, r3, ev, add_20 y7 (show k2 < 60 by omega), not_true_eq_false, not_false_eq_true, if_true, if_false]
          · rw [en_X9_compared]
            simp only [c20, c2i, c2n, c2r, cs8_0, cs8_1, cs8_2, cs8_3, cs8_4, decide_eq_true_eq, ev_ald0, ev_aldn0, ev_cv0, ev_cv1, ev_go, ev_i, ev_if0, ev_ild1, ev_ist1, ev_rv, i00, i01, i10, not_false_eq_true, not_true_eq_false, pm_bd_s, pm_tl_n, pm_tl_s, ↓reduceIte, pb_X9_compared_0, pb_X9_compared_1, pb_X9_compared_2, pb_X9_compared_3, pb_X9_compared_4, pb_X9_compared_5, kd_59, rf_59_0, rf_59_1, rf_59_3, rf_59_4, rf_59_5, rf_59_6, rf_59_7, rf_59_12, rf_59_14, rf_59_15, rf_59_16, rf_59_19, rf_59_23, rf_59_24, rf_59_25, rf_59_26, is_9_59, r2, sr_takes0 B Xr2 s2 u2 s6 hx0, sr_takes1 B Xr2 s2 u2 s6 hx1, i10, np, r4, sr_codes y6 y8 (show k2 < 60 by omega), if_true, if_false]
        · obtain ⟨hc4, r5, Z2, F3⟩ := PZ_add (fb := fb) (v := 20061) Z
          obtain ⟨-, -, -, -, -, -, -, z6, -⟩ := id Z
          refine ⟨hc4, hr3, ?_, ?_, F1.tr F3, F2, Or.inr Z2⟩
          · rw [en_X1_readB]
            simp only [c20, c2i, c2n, c2r, cs8_0, cs8_1, cs8_2, cs8_3, cs8_4, decide_eq_true_eq, ev_ald0, ev_aldn0, ev_bin, ev_cv0, ev_cv1, ev_dup_i, ev_dup_r, ev_gi, ev_go, ev_gr, ev_i, ev_if0, ev_ild1, ev_ist1, ev_pi, ev_rv, i00, i01, i10, not_false_eq_true, not_true_eq_false, pm_bd_s, pm_tl_n, pm_tl_s, ↓reduceIte, pb_X1_readB_0, pb_X1_readB_1, pb_X1_readB_2, kd_18, rf_18_0, rf_18_1, is_1_18, kd_20, rf_20_0, is_0_20, r1, sp_isNext B Xc2 s1 u2 s5, sp_next B Xc2 s1 u2, bI_0, hx1, lits, s1, nI_1, r3, ev, r5, not_true_eq_false, not_false_eq_true, if_true, if_false]
          · rw [en_X9_compared]
            simp only [c20, c2i, c2n, c2r, cs8_0, cs8_1, cs8_2, cs8_3, cs8_4, decide_eq_true_eq, ev_ald0, ev_aldn0, ev_cv0, ev_cv1, ev_go, ev_i, ev_if0, ev_ild1, ev_ist1, ev_rv, i00, i01, i10, not_false_eq_true, not_true_eq_false, pm_bd_s, pm_tl_n, pm_tl_s, ↓reduceIte, pb_X9_compared_0, pb_X9_compared_1, pb_X9_compared_2, pb_X9_compared_3, pb_X9_compared_4, pb_X9_compared_5, kd_59, rf_59_0, rf_59_1, rf_59_3, rf_59_4, rf_59_5, rf_59_6, rf_59_7, rf_59_12, rf_59_14, rf_59_15, rf_59_16, rf_59_19, rf_59_23, rf_59_24, rf_59_25, rf_59_26, is_9_59, r2, sr_takes0 B Xr2 s2 u2 s6 hx0, sr_takes1 B Xr2 s2 u2 s6 hx1, i10, np, r4, sr_codesZ z6, if_true, if_false]
      · skip
        by_cases hx2 : nxF b nb a1 = 62
        · have a1n := nx_lt hx2 (by decide)
          have lits : ((62 : Int32) = 60) = False ∧ ((62 : Int32) = 61) = False := by decide
          have ev : (20000 : Int32) + 62 = 20062 := by decide
          have np : ¬ (20004 : Int32) ≤ 0 := by decide
          obtain ⟨hc3, hr3, r3, r4, f3, f4, out⟩ := H (D + 8) (E + 8) (a1 + 1) k1 (q + 1) _ _ (by omega) (by omega) Xc1 Xr1 P1 (by omega) (by omega)
          have F1 : FPc hc hc3 := (f1.tr (FPc_18 (by omega))).tr f3
          have F2 : FPr hr hr3 := (f2.tr (FPr_59 (by omega))).tr f4
          rcases out with ⟨a2, k2, P4, w1, w2, w3⟩ | Z
          · obtain ⟨y1, y2, y3, y4, y5, y6, y7, y8, y9, y10⟩ := id P4
            have P3 := PS_add (v := 20062) (w := 20004) P4 (dp_op (nn_5 use) (Or.inr (Or.inr (Or.inr (Or.inr (Or.inl rfl)))))) (by decide)
            refine ⟨_, _, ?_, ?_, F1.tr (adC_f _ _ _), F2.tr (adR_f _ _ _), Or.inl ⟨a2, k2 + 1, P3, by omega, w2, by omega⟩⟩
            · rw [en_X1_readB]
              simp only [c20, c2i, c2n, c2r, cs8_0, cs8_1, cs8_2, cs8_3, cs8_4, decide_eq_true_eq, ev_ald0, ev_aldn0, ev_bin, ev_cv0, ev_cv1, ev_dup_i, ev_dup_r, ev_gi, ev_go, ev_gr, ev_i, ev_if0, ev_ild1, ev_ist1, ev_pi, ev_rv, i00, i01, i10, not_false_eq_true, not_true_eq_false, pm_bd_s, pm_tl_n, pm_tl_s, ↓reduceIte, pb_X1_readB_0, pb_X1_readB_1, pb_X1_readB_2, kd_18, rf_18_0, rf_18_1, is_1_18, kd_20, rf_20_0, is_0_20, r1, sp_isNext B Xc2 s1 u2 s5, sp_next B Xc2 s1 u2, bI_0, hx2, lits, s1, nI_1, r3, ev, add_20 y7 (show k2 < 60 by omega), not_true_eq_false, not_false_eq_true, if_true, if_false]
            · rw [en_X9_compared]
              simp only [c20, c2i, c2n, c2r, cs8_0, cs8_1, cs8_2, cs8_3, cs8_4, decide_eq_true_eq, ev_ald0, ev_aldn0, ev_cv0, ev_cv1, ev_go, ev_i, ev_if0, ev_ild1, ev_ist1, ev_rv, i00, i01, i10, not_false_eq_true, not_true_eq_false, pm_bd_s, pm_tl_n, pm_tl_s, ↓reduceIte, pb_X9_compared_0, pb_X9_compared_1, pb_X9_compared_2, pb_X9_compared_3, pb_X9_compared_4, pb_X9_compared_5, kd_59, rf_59_0, rf_59_1, rf_59_3, rf_59_4, rf_59_5, rf_59_6, rf_59_7, rf_59_12, rf_59_14, rf_59_15, rf_59_16, rf_59_19, rf_59_23, rf_59_24, rf_59_25, rf_59_26, is_9_59, r2, sr_takes0 B Xr2 s2 u2 s6 hx0, sr_takes0 B Xr2 s2 u2 s6 hx1, sr_takes1 B Xr2 s2 u2 s6 hx2, i10, np, r4, sr_codes y6 y8 (show k2 < 60 by omega), if_true, if_false]
          · obtain ⟨hc4, r5, Z2, F3⟩ := PZ_add (fb := fb) (v := 20062) Z
            obtain ⟨-, -, -, -, -, -, -, z6, -⟩ := id Z
            refine ⟨hc4, hr3, ?_, ?_, F1.tr F3, F2, Or.inr Z2⟩
            · rw [en_X1_readB]
              simp only [c20, c2i, c2n, c2r, cs8_0, cs8_1, cs8_2, cs8_3, cs8_4, decide_eq_true_eq, ev_ald0, ev_aldn0, ev_bin, ev_cv0, ev_cv1, ev_dup_i, ev_dup_r, ev_gi, ev_go, ev_gr, ev_i, ev_if0, ev_ild1, ev_ist1, ev_pi, ev_rv, i00, i01, i10, not_false_eq_true, not_true_eq_false, pm_bd_s, pm_tl_n, pm_tl_s, ↓reduceIte, pb_X1_readB_0, pb_X1_readB_1, pb_X1_readB_2, kd_18, rf_18_0, rf_18_1, is_1_18, kd_20, rf_20_0, is_0_20, r1, sp_isNext B Xc2 s1 u2 s5, sp_next B Xc2 s1 u2, bI_0, hx2, lits, s1, nI_1, r3, ev, r5, not_true_eq_false, not_false_eq_true, if_true, if_false]
            · rw [en_X9_compared]
              simp only [c20, c2i, c2n, c2r, cs8_0, cs8_1, cs8_2, cs8_3, cs8_4, decide_eq_true_eq, ev_ald0, ev_aldn0, ev_cv0, ev_cv1, ev_go, ev_i, ev_if0, ev_ild1, ev_ist1, ev_rv, i00, i01, i10, not_false_eq_true, not_true_eq_false, pm_bd_s, pm_tl_n, pm_tl_s, ↓reduceIte, pb_X9_compared_0, pb_X9_compared_1, pb_X9_compared_2, pb_X9_compared_3, pb_X9_compared_4, pb_X9_compared_5, kd_59, rf_59_0, rf_59_1, rf_59_3, rf_59_4, rf_59_5, rf_59_6, rf_59_7, rf_59_12, rf_59_14, rf_59_15, rf_59_16, rf_59_19, rf_59_23, rf_59_24, rf_59_25, rf_59_26, is_9_59, r2, sr_takes0 B Xr2 s2 u2 s6 hx0, sr_takes0 B Xr2 s2 u2 s6 hx1, sr_takes1 B Xr2 s2 u2 s6 hx2, i10, np, r4, sr_codesZ z6, if_true, if_false]
        · skip
          have x0 := eq_false hx0
          have x1 := eq_false hx1
          have x2 := eq_false hx2
          refine ⟨hc2, hr2, ?_, ?_, f1, f2, Or.inl ⟨a1, k1, P2, u1, u2, u3⟩⟩
          · rw [en_X1_readB]
            simp only [c20, c2i, c2n, c2r, cs8_0, cs8_1, cs8_2, cs8_3, cs8_4, decide_eq_true_eq, ev_ald0, ev_aldn0, ev_bin, ev_cv0, ev_cv1, ev_dup_i, ev_dup_r, ev_gi, ev_go, ev_gr, ev_i, ev_if0, ev_ild1, ev_ist1, ev_pi, ev_rv, i00, i01, i10, not_false_eq_true, not_true_eq_false, pm_bd_s, pm_tl_n, pm_tl_s, ↓reduceIte, pb_X1_readB_0, pb_X1_readB_2, kd_18, rf_18_0, rf_18_1, is_1_18, kd_20, rf_20_0, is_0_20, r1, sp_isNext B Xc2 s1 u2 s5, bI_0, x0, x1, x2, not_true_eq_false, not_false_eq_true, if_true, if_false]
          · rw [en_X9_compared]
            simp only [c20, c2i, c2n, c2r, cs8_0, cs8_1, cs8_2, cs8_3, cs8_4, decide_eq_true_eq, ev_ald0, ev_aldn0, ev_cv0, ev_cv1, ev_go, ev_i, ev_if0, ev_ild1, ev_ist1, ev_rv, i00, i01, i10, not_false_eq_true, not_true_eq_false, pm_bd_s, pm_tl_n, pm_tl_s, ↓reduceIte, pb_X9_compared_0, pb_X9_compared_1, pb_X9_compared_2, pb_X9_compared_3, pb_X9_compared_4, pb_X9_compared_5, kd_59, rf_59_0, rf_59_1, rf_59_3, rf_59_4, rf_59_5, rf_59_6, rf_59_7, rf_59_12, rf_59_14, rf_59_15, rf_59_16, rf_59_19, rf_59_23, rf_59_24, rf_59_25, rf_59_26, is_9_59, r2, sr_takes0 B Xr2 s2 u2 s6 hx0, sr_takes0 B Xr2 s2 u2 s6 hx1, sr_takes0 B Xr2 s2 u2 s6 hx2, le0, if_true, if_false]
  · obtain ⟨a3, k3, z1, z2, z3, z4, z5, z6, z7⟩ := id Z
    refine ⟨hc2, hr2, ?_, ?_, f1, f2, Or.inr Z⟩
    · rw [en_X1_readB]
      simp only [c20, c2i, c2n, c2r, cs8_0, cs8_1, cs8_2, cs8_3, cs8_4, decide_eq_true_eq, ev_ald0, ev_aldn0, ev_bin, ev_cv0, ev_cv1, ev_dup_i, ev_dup_r, ev_gi, ev_go, ev_gr, ev_i, ev_if0, ev_ild1, ev_ist1, ev_pi, ev_rv, i00, i01, i10, not_false_eq_true, not_true_eq_false, pm_bd_s, pm_tl_n, pm_tl_s, ↓reduceIte, pb_X1_readB_0, pb_X1_readB_2, kd_18, rf_18_0, rf_18_1, is_1_18, kd_20, rf_20_0, is_0_20, r1, sp_isNextZ z5, not_true_eq_false, if_true, if_false]
    · rw [en_X9_compared]
      simp only [c20, c2i, c2n, c2r, cs8_0, cs8_1, cs8_2, cs8_3, cs8_4, decide_eq_true_eq, ev_ald0, ev_aldn0, ev_cv0, ev_cv1, ev_go, ev_i, ev_if0, ev_ild1, ev_ist1, ev_rv, i00, i01, i10, not_false_eq_true, not_true_eq_false, pm_bd_s, pm_tl_n, pm_tl_s, ↓reduceIte, pb_X9_compared_0, pb_X9_compared_1, pb_X9_compared_2, pb_X9_compared_3, pb_X9_compared_4, pb_X9_compared_5, kd_59, rf_59_0, rf_59_1, rf_59_3, rf_59_4, rf_59_5, rf_59_6, rf_59_7, rf_59_12, rf_59_14, rf_59_15, rf_59_16, rf_59_19, rf_59_23, rf_59_24, rf_59_25, rf_59_26, is_9_59, r2, sr_takesZ z6 em.1, sr_takesZ z6 em.2.1, sr_takesZ z6 em.2.2, le0, if_true, if_false]
theorem z_A {hc hr : pm_HP} {D E : Nat} {j : Int32} (Z : PZ hc hr nb) : pm_ev P_X1_readA (rs fb (D + 8)) (P_X1_readA 1) [some (.ref 18), some (.int j)] [] hc = some (none, hc) ∧ pm_ev P_X9_both (rs fb (E + 8)) (P_X9_both 1) [some (.ref 59)] [] hr = some (none, hr) := by
  obtain ⟨a3, k3, z1, z2, z3, z4, z5, z6, z7⟩ := id Z
  have m1 : ¬ (-1 : Int32) = 38 := by decide
  refine ⟨?_, ?_⟩
  · rw [pb_X1_readA_1]
    by_cases q : (60 : Int32) ≤ j
    · simp only [c20, c2i, c2n, c2r, cs8_0, cs8_1, cs8_2, cs8_3, cs8_4, decide_eq_true_eq, ev_ald0, ev_aldn0, ev_bin, ev_cv0, ev_cv1, ev_dup_i, ev_dup_r, ev_gi, ev_go, ev_gr, ev_i, ev_if0, ev_if2, ev_ild1, ev_inc1, ev_ist1, ev_pi, ev_rv, i00, i01, i10, not_false_eq_true, not_true_eq_false, pm_bd_s, pm_tl_n, pm_tl_s, ↓reduceIte, pb_X1_readA_2, kd_18, rf_18_0, rf_18_1, is_1_18, kd_20, rf_20_0, is_0_20, q, if_true]
    · simp only [c20, c2i, c2n, c2r, cs8_0, cs8_1, cs8_2, cs8_3, cs8_4, decide_eq_true_eq, ev_ald0, ev_aldn0, ev_bin, ev_cv0, ev_cv1, ev_dup_i, ev_dup_r, ev_gi, ev_go, ev_gr, ev_i, ev_if0, ev_if2, ev_ild1, ev_inc1, ev_ist1, ev_pi, ev_rv, i00, i01, i10, not_false_eq_true, not_true_eq_false, pm_bd_s, pm_tl_n, pm_tl_s, ↓reduceIte, pb_X1_readA_2, kd_18, rf_18_0, rf_18_1, is_1_18, kd_20, rf_20_0, is_0_20, q, sp_isNextZ z5, if_true, if_false]
  · rw [pb_X9_both_1]
    simp only [cs8_0, cs8_1, cs8_2, cs8_3, cs8_4, decide_eq_true_eq, ev_ald0, ev_aldn0, ev_cv0, ev_cv1, ev_go, ev_i, ev_if0, ev_rv, i00, i01, i10, not_false_eq_true, not_true_eq_false, pm_bd_s, pm_tl_n, pm_tl_s, ↓reduceIte, pb_X9_both_2, kd_59, rf_59_0, rf_59_1, rf_59_3, rf_59_4, rf_59_5, rf_59_6, rf_59_7, rf_59_12, rf_59_14, rf_59_15, rf_59_16, rf_59_19, rf_59_23, rf_59_24, rf_59_25, rf_59_26, is_9_59, sr_takesZ z6 m1, if_true]
set_option maxRecDepth 100000 in
theorem lp_A {o e a k q : Nat} (B : PBk nb use b) (hk : k ≤ a) (H : RdL fb n_X1_readB n_X9_compared e nb use o b) : ∀ (m a1 k1 j D E : Nat) (hc hr : pm_HP), nb - a1 ≤ m → e ≤ D + 8 → e ≤ E + 8 → PXc hc nb use b → PXr hr nb use b → PS hc hr (nnF use) a1 o k1 (q + 1) → a < a1 → a1 ≤ nb → k1 + a ≤ a1 + k → j + 1 ≤ a1 → ∃ hc' hr', pm_ev P_X1_readA (rs fb (D + 8)) (P_X1_readA 1) [some (.ref 18), some (.int (nI j))] [] hc = some (none, hc') ∧ pm_ev P_X9_both (rs fb (E + 8)) (P_X9_both 1) [some (.ref 59)] [] hr = some (none, hr') ∧ FPc hc hc' ∧ FPr hr hr' ∧ PO hc' hr' (nnF use) nb a o k q := by
  have hb := B.1
  intro m
  induction m with
  | zero =>
    intro a1 k1 j D E hc hr hm hD hE Xc Xr P h1 h2 h3 h4
    obtain ⟨p1, p2, p3, p4, p5, p6, p7, p8, p9, p10⟩ := id P
    have e60 : ¬ (60 : Int32) ≤ nI j := nI_ge (b := 60) (by omega) (by omega)
    have hx : ¬ nxF b nb a1 = 38 := fun t => absurd (nx_lt t (by decide)) (by omega)
    have hxF := eq_false hx
    refine ⟨hc, hr, ?_, ?_, FPc.rf _, FPr.rf _, Or.inl ⟨a1, k1, P, h1, h2, h3⟩⟩
    · rw [pb_X1_readA_1]
      simp only [c20, c2i, c2n, c2r, cs8_0, cs8_1, cs8_2, cs8_3, cs8_4, decide_eq_true_eq, ev_ald0, ev_aldn0, ev_bin, ev_cv0, ev_cv1, ev_dup_i, ev_dup_r, ev_gi, ev_go, ev_gr, ev_i, ev_if0, ev_if2, ev_ild1, ev_inc1, ev_ist1, ev_pi, ev_rv, i00, i01, i10, not_false_eq_true, not_true_eq_false, pm_bd_s, pm_tl_n, pm_tl_s, ↓reduceIte, pb_X1_readA_2, kd_18, rf_18_0, rf_18_1, is_1_18, kd_20, rf_20_0, is_0_20, e60, sp_isNext B Xc p1 h2 p5, bI_0, hxF, not_false_eq_true, if_true, if_false]
    · rw [pb_X9_both_1]
      simp only [cs8_0, cs8_1, cs8_2, cs8_3, cs8_4, decide_eq_true_eq, ev_ald0, ev_aldn0, ev_cv0, ev_cv1, ev_go, ev_i, ev_if0, ev_rv, i00, i01, i10, not_false_eq_true, not_true_eq_false, pm_bd_s, pm_tl_n, pm_tl_s, ↓reduceIte, pb_X9_both_2, kd_59, rf_59_0, rf_59_1, rf_59_3, rf_59_4, rf_59_5, rf_59_6, rf_59_7, rf_59_12, rf_59_14, rf_59_15, rf_59_16, rf_59_19, rf_59_23, rf_59_24, rf_59_25, rf_59_26, is_9_59, sr_takes0 B Xr p2 h2 p6 hx, if_true]
  | succ m ih =>
    intro a1 k1 j D E hc hr hm hD hE Xc Xr P h1 h2 h3 h4
    obtain ⟨p1, p2, p3, p4, p5, p6, p7, p8, p9, p10⟩ := id P
    have e60 : ¬ (60 : Int32) ≤ nI j ∨ j = 59 ∨ 60 ≤ j := by
      rcases Nat.lt_or_ge j 60 with t | t
      · exact Or.inl (nI_ge (b := 60) (by omega) (by omega))
      · exact Or.inr (Or.inr t)
    have e60 : ¬ (60 : Int32) ≤ nI j := nI_ge (b := 60) (by omega) (by omega)
    by_cases hx : nxF b nb a1 = 38
    · have a1n := nx_lt hx (by decide)
      have P1 := PS_at (a' := a1 + 1) P
      obtain ⟨hc2, hr2, r1, r2, f1, f2, out⟩ := H (D + 8) (E + 8) (a1 + 1) k1 (q + 1) _ _ hD hE (PXc_t Xc (FPc_18 (k := 3) (v := nI (a1 + 1)) (by omega))) (PXr_t Xr (FPr_59 (k := 8) (v := nI (a1 + 1)) (by omega))) P1 (by omega) (by omega)
      have F1 : FPc hc hc2 := (FPc_18 (by omega)).tr f1
      have F2 : FPr hr hr2 := (FPr_59 (by omega)).tr f2
      rcases out with ⟨a2, k2, P2, u1, u2, u3⟩ | Z
      · obtain ⟨s1, s2, s3, s4, s5, s6, s7, s8, s9, s10⟩ := id P2
        have P3 := PS_add (v := 20038) (w := 20001) P2 (dp_op (nn_5 use) (Or.inr (Or.inl rfl))) (by decide)
        obtain ⟨hc4, hr4, t1, t2, t3, t4, t5⟩ := ih a2 (k2 + 1) (j + 1) D E _ _ (by omega) hD hE (PXc_t Xc (F1.tr (adC_f _ k2 20038))) (PXr_t Xr (F2.tr (adR_f _ k2 20001))) P3 (by omega) u2 (by omega) (by omega)
        refine ⟨hc4, hr4, ?_, ?_, (F1.tr (adC_f _ _ _)).tr t3, (F2.tr (adR_f _ _ _)).tr t4, t5⟩
        · rw [pb_X1_readA_1]
          simp only [c20, c2i, c2n, c2r, cs8_0, cs8_1, cs8_2, cs8_3, cs8_4, decide_eq_true_eq, ev_ald0, ev_aldn0, ev_bin, ev_cv0, ev_cv1, ev_dup_i, ev_dup_r, ev_gi, ev_go, ev_gr, ev_i, ev_if0, ev_if2, ev_ild1, ev_inc1, ev_ist1, ev_pi, ev_rv, i00, i01, i10, not_false_eq_true, not_true_eq_false, pm_bd_s, pm_tl_n, pm_tl_s, ↓reduceIte, kd_18, rf_18_0, rf_18_1, is_1_18, kd_20, rf_20_0, is_0_20, e60, sp_isNext B Xc p1 h2 p5, bI_0, hx, p1, nI_1, r1, add_20 s7 (show k2 < 60 by omega), not_true_eq_false, if_true, if_false]
          exact t1
        · rw [pb_X9_both_1]
          simp only [cs8_0, cs8_1, cs8_2, cs8_3, cs8_4, decide_eq_true_eq, ev_ald0, ev_aldn0, ev_cv0, ev_cv1, ev_go, ev_i, ev_if0, ev_rv, i00, i01, i10, not_false_eq_true, not_true_eq_false, pm_bd_s, pm_tl_n, pm_tl_s, ↓reduceIte, kd_59, rf_59_0, rf_59_1, rf_59_3, rf_59_4, rf_59_5, rf_59_6, rf_59_7, rf_59_12, rf_59_14, rf_59_15, rf_59_16, rf_59_19, rf_59_23, rf_59_24, rf_59_25, rf_59_26, is_9_59, sr_takes1 B Xr p2 h2 p6 hx, i10, r2, sr_codes s6 s8 (show k2 < 60 by omega), if_true, if_false]
          exact t2
      · obtain ⟨hc3, r3, Z2, F3⟩ := PZ_add (fb := fb) (v := 20038) Z
        obtain ⟨-, -, -, -, -, -, -, z6, -⟩ := id Z
        obtain ⟨t1, t2⟩ := z_A (fb := fb) (D := D) (E := E) (j := nI (j + 1)) Z2
        refine ⟨hc3, hr2, ?_, ?_, F1.tr F3, F2, Or.inr Z2⟩
        · rw [pb_X1_readA_1]
          simp only [c20, c2i, c2n, c2r, cs8_0, cs8_1, cs8_2, cs8_3, cs8_4, decide_eq_true_eq, ev_ald0, ev_aldn0, ev_bin, ev_cv0, ev_cv1, ev_dup_i, ev_dup_r, ev_gi, ev_go, ev_gr, ev_i, ev_if0, ev_if2, ev_ild1, ev_inc1, ev_ist1, ev_pi, ev_rv, i00, i01, i10, not_false_eq_true, not_true_eq_false, pm_bd_s, pm_tl_n, pm_tl_s, ↓reduceIte, kd_18, rf_18_0, rf_18_1, is_1_18, kd_20, rf_20_0, is_0_20, e60, sp_isNext B Xc p1 h2 p5, bI_0, hx, p1, nI_1, r1, r3, not_true_eq_false, if_true, if_false]
          exact t1
        · rw [pb_X9_both_1]
          simp only [cs8_0, cs8_1, cs8_2, cs8_3, cs8_4, decide_eq_true_eq, ev_ald0, ev_aldn0, ev_cv0, ev_cv1, ev_go, ev_i, ev_if0, ev_rv, i00, i01, i10, not_false_eq_true, not_true_eq_false, pm_bd_s, pm_tl_n, pm_tl_s, ↓reduceIte, kd_59, rf_59_0, rf_59_1, rf_59_3, rf_59_4, rf_59_5, rf_59_6, rf_59_7, rf_59_12, rf_59_14, rf_59_15, rf_59_16, rf_59_19, rf_59_23, rf_59_24, rf_59_25, rf_59_26, is_9_59, sr_takes1 B Xr p2 h2 p6 hx, i10, r2, sr_codesZ z6, if_true, if_false]
          exact t2
    · have hxF := eq_false hx
      refine ⟨hc, hr, ?_, ?_, FPc.rf _, FPr.rf _, Or.inl ⟨a1, k1, P, h1, h2, h3⟩⟩
      · rw [pb_X1_readA_1]
        simp only [c20, c2i, c2n, c2r, cs8_0, cs8_1, cs8_2, cs8_3, cs8_4, decide_eq_true_eq, ev_ald0, ev_aldn0, ev_bin, ev_cv0, ev_cv1, ev_dup_i, ev_dup_r, ev_gi, ev_go, ev_gr, ev_i, ev_if0, ev_if2, ev_ild1, ev_inc1, ev_ist1, ev_pi, ev_rv, i00, i01, i10, not_false_eq_true, not_true_eq_false, pm_bd_s, pm_tl_n, pm_tl_s, ↓reduceIte, pb_X1_readA_2, kd_18, rf_18_0, rf_18_1, is_1_18, kd_20, rf_20_0, is_0_20, e60, sp_isNext B Xc p1 h2 p5, bI_0, hxF, not_false_eq_true, if_true, if_false]
      · rw [pb_X9_both_1]
        simp only [cs8_0, cs8_1, cs8_2, cs8_3, cs8_4, decide_eq_true_eq, ev_ald0, ev_aldn0, ev_cv0, ev_cv1, ev_go, ev_i, ev_if0, ev_rv, i00, i01, i10, not_false_eq_true, not_true_eq_false, pm_bd_s, pm_tl_n, pm_tl_s, ↓reduceIte, pb_X9_both_2, kd_59, rf_59_0, rf_59_1, rf_59_3, rf_59_4, rf_59_5, rf_59_6, rf_59_7, rf_59_12, rf_59_14, rf_59_15, rf_59_16, rf_59_19, rf_59_23, rf_59_24, rf_59_25, rf_59_26, is_9_59, sr_takes0 B Xr p2 h2 p6 hx, if_true]
theorem AL {o e : Nat} (B : PBk nb use b) (h8 : 8 ≤ e) (H : RdL fb n_X1_readB n_X9_compared e nb use o b) : RdL fb n_X1_readA n_X9_both (e + 1) nb use o b := by
  intro dc dr a k q hc hr hdc hdr Xc Xr P hk ha
  obtain ⟨D, rfl⟩ : ∃ D, dc = D + 8 + 1 := ⟨dc - 9, by omega⟩
  obtain ⟨E, rfl⟩ : ∃ E, dr = E + 8 + 1 := ⟨dr - 9, by omega⟩
  obtain ⟨hc2, hr2, r1, r2, f1, f2, out⟩ := H (D + 8) (E + 8) a k q _ _ (by omega) (by omega) Xc Xr P hk ha
  rcases out with ⟨a1, k1, P2, u1, u2, u3⟩ | Z
  · obtain ⟨hc4, hr4, t1, t2, t3, t4, t5⟩ := lp_A B hk H (nb - a1) a1 k1 0 D E _ _ (Nat.le_refl _) (by omega) (by omega) (PXc_t Xc f1) (PXr_t Xr f2) P2 u1 u2 u3 (by omega)
    rw [nI_0] at t1
    refine ⟨hc4, hr4, ?_, ?_, f1.tr t3, f2.tr t4, t5⟩
    · rw [en_X1_readA]
      simp only [c20, c2i, c2n, c2r, cs8_0, cs8_1, cs8_2, cs8_3, cs8_4, decide_eq_true_eq, ev_ald0, ev_aldn0, ev_bin, ev_cv0, ev_cv1, ev_dup_i, ev_dup_r, ev_gi, ev_go, ev_gr, ev_i, ev_if0, ev_if2, ev_ild1, ev_inc1, ev_ist1, ev_pi, ev_rv, i00, i01, i10, not_false_eq_true, not_true_eq_false, pm_bd_s, pm_tl_n, pm_tl_s, ↓reduceIte, pb_X1_readA_0, kd_18, rf_18_0, rf_18_1, is_1_18, kd_20, rf_20_0, is_0_20, r1]
      exact t1
    · rw [en_X9_both]
      simp only [cs8_0, cs8_1, cs8_2, cs8_3, cs8_4, decide_eq_true_eq, ev_ald0, ev_aldn0, ev_cv0, ev_cv1, ev_go, ev_i, ev_if0, ev_rv, i00, i01, i10, not_false_eq_true, not_true_eq_false, pm_bd_s, pm_tl_n, pm_tl_s, ↓reduceIte, pb_X9_both_0, kd_59, rf_59_0, rf_59_1, rf_59_3, rf_59_4, rf_59_5, rf_59_6, rf_59_7, rf_59_12, rf_59_14, rf_59_15, rf_59_16, rf_59_19, rf_59_23, rf_59_24, rf_59_25, rf_59_26, is_9_59, r2]
      exact t2
  · obtain ⟨t1, t2⟩ := z_A (fb := fb) (D := D) (E := E) (j := 0) Z
    refine ⟨hc2, hr2, ?_, ?_, f1, f2, Or.inr Z⟩
    · rw [en_X1_readA]
      simp only [c20, c2i, c2n, c2r, cs8_0, cs8_1, cs8_2, cs8_3, cs8_4, decide_eq_true_eq, ev_ald0, ev_aldn0, ev_bin, ev_cv0, ev_cv1, ev_dup_i, ev_dup_r, ev_gi, ev_go, ev_gr, ev_i, ev_if0, ev_if2, ev_ild1, ev_inc1, ev_ist1, ev_pi, ev_rv, i00, i01, i10, not_false_eq_true, not_true_eq_false, pm_bd_s, pm_tl_n, pm_tl_s, ↓reduceIte, pb_X1_readA_0, kd_18, rf_18_0, rf_18_1, is_1_18, kd_20, rf_20_0, is_0_20, r1]
      exact t1
    · rw [en_X9_both]
      simp only [cs8_0, cs8_1, cs8_2, cs8_3, cs8_4, decide_eq_true_eq, ev_ald0, ev_aldn0, ev_cv0, ev_cv1, ev_go, ev_i, ev_if0, ev_rv, i00, i01, i10, not_false_eq_true, not_true_eq_false, pm_bd_s, pm_tl_n, pm_tl_s, ↓reduceIte, pb_X9_both_0, kd_59, rf_59_0, rf_59_1, rf_59_3, rf_59_4, rf_59_5, rf_59_6, rf_59_7, rf_59_12, rf_59_14, rf_59_15, rf_59_16, rf_59_19, rf_59_23, rf_59_24, rf_59_25, rf_59_26, is_9_59, r2]
      exact t2
theorem z_T {hc hr : pm_HP} {D E : Nat} {j : Int32} (Z : PZ hc hr nb) : pm_ev P_X1_readT (rs fb (D + 8)) (P_X1_readT 1) [some (.ref 18), some (.int j)] [] hc = some (none, hc) ∧ pm_ev P_X9_either (rs fb (E + 8)) (P_X9_either 1) [some (.ref 59)] [] hr = some (none, hr) := by
  obtain ⟨a3, k3, z1, z2, z3, z4, z5, z6, z7⟩ := id Z
  have m1 : ¬ (-1 : Int32) = 124 := by decide
  refine ⟨?_, ?_⟩
  · rw [pb_X1_readT_1]
    by_cases q : (60 : Int32) ≤ j
    · simp only [c20, c2i, c2n, c2r, cs8_0, cs8_1, cs8_2, cs8_3, cs8_4, decide_eq_true_eq, ev_ald0, ev_aldn0, ev_bin, ev_cv0, ev_cv1, ev_dup_i, ev_dup_r, ev_gi, ev_go, ev_gr, ev_i, ev_if0, ev_if2, ev_ild1, ev_inc1, ev_ist1, ev_pi, ev_rv, i00, i01, i10, not_false_eq_true, not_true_eq_false, pm_bd_s, pm_tl_n, pm_tl_s, ↓reduceIte, pb_X1_readT_2, kd_18, rf_18_0, rf_18_1, is_1_18, kd_20, rf_20_0, is_0_20, q, if_true]
    · simp only [c20, c2i, c2n, c2r, cs8_0, cs8_1, cs8_2, cs8_3, cs8_4, decide_eq_true_eq, ev_ald0, ev_aldn0, ev_bin, ev_cv0, ev_cv1, ev_dup_i, ev_dup_r, ev_gi, ev_go, ev_gr, ev_i, ev_if0, ev_if2, ev_ild1, ev_inc1, ev_ist1, ev_pi, ev_rv, i00, i01, i10, not_false_eq_true, not_true_eq_false, pm_bd_s, pm_tl_n, pm_tl_s, ↓reduceIte, pb_X1_readT_2, kd_18, rf_18_0, rf_18_1, is_1_18, kd_20, rf_20_0, is_0_20, q, sp_isNextZ z5, if_true, if_false]
  · rw [pb_X9_either_1]
    simp only [cs8_0, cs8_1, cs8_2, cs8_3, cs8_4, decide_eq_true_eq, ev_ald0, ev_aldn0, ev_cv0, ev_cv1, ev_go, ev_i, ev_if0, ev_rv, i00, i01, i10, not_false_eq_true, not_true_eq_false, pm_bd_s, pm_tl_n, pm_tl_s, ↓reduceIte, pb_X9_either_2, kd_59, rf_59_0, rf_59_1, rf_59_3, rf_59_4, rf_59_5, rf_59_6, rf_59_7, rf_59_12, rf_59_14, rf_59_15, rf_59_16, rf_59_19, rf_59_23, rf_59_24, rf_59_25, rf_59_26, is_9_59, sr_takesZ z6 m1, if_true]
set_option maxRecDepth 100000 in
theorem lp_T {o e a k q : Nat} (B : PBk nb use b) (hk : k ≤ a) (H : RdL fb n_X1_readA n_X9_both e nb use o b) : ∀ (m a1 k1 j D E : Nat) (hc hr : pm_HP), nb - a1 ≤ m → e ≤ D + 8 → e ≤ E + 8 → PXc hc nb use b → PXr hr nb use b → PS hc hr (nnF use) a1 o k1 (q + 1) → a < a1 → a1 ≤ nb → k1 + a ≤ a1 + k → j + 1 ≤ a1 → ∃ hc' hr', pm_ev P_X1_readT (rs fb (D + 8)) (P_X1_readT 1) [some (.ref 18), some (.int (nI j))] [] hc = some (none, hc') ∧ pm_ev P_X9_either (rs fb (E + 8)) (P_X9_either 1) [some (.ref 59)] [] hr = some (none, hr') ∧ FPc hc hc' ∧ FPr hr hr' ∧ PO hc' hr' (nnF use) nb a o k q := by
  have hb := B.1
  intro m
  induction m with
  | zero =>
    intro a1 k1 j D E hc hr hm hD hE Xc Xr P h1 h2 h3 h4
    obtain ⟨p1, p2, p3, p4, p5, p6, p7, p8, p9, p10⟩ := id P
    have e60 : ¬ (60 : Int32) ≤ nI j := nI_ge (b := 60) (by omega) (by omega)
    have hx : ¬ nxF b nb a1 = 124 := fun t => absurd (nx_lt t (by decide)) (by omega)
    have hxF := eq_false hx
    refine ⟨hc, hr, ?_, ?_, FPc.rf _, FPr.rf _, Or.inl ⟨a1, k1, P, h1, h2, h3⟩⟩
    · rw [pb_X1_readT_1]
      simp only [c20, c2i, c2n, c2r, cs8_0, cs8_1, cs8_2, cs8_3, cs8_4, decide_eq_true_eq, ev_ald0, ev_aldn0, ev_bin, ev_cv0, ev_cv1, ev_dup_i, ev_dup_r, ev_gi, ev_go, ev_gr, ev_i, ev_if0, ev_if2, ev_ild1, ev_inc1, ev_ist1, ev_pi, ev_rv, i00, i01, i10, not_false_eq_true, not_true_eq_false, pm_bd_s, pm_tl_n, pm_tl_s, ↓reduceIte, pb_X1_readT_2, kd_18, rf_18_0, rf_18_1, is_1_18, kd_20, rf_20_0, is_0_20, e60, sp_isNext B Xc p1 h2 p5, bI_0, hxF, not_false_eq_true, if_true, if_false]
    · rw [pb_X9_either_1]
      simp only [cs8_0, cs8_1, cs8_2, cs8_3, cs8_4, decide_eq_true_eq, ev_ald0, ev_aldn0, ev_cv0, ev_cv1, ev_go, ev_i, ev_if0, ev_rv, i00, i01, i10, not_false_eq_true, not_true_eq_false, pm_bd_s, pm_tl_n, pm_tl_s, ↓reduceIte, pb_X9_either_2, kd_59, rf_59_0, rf_59_1, rf_59_3, rf_59_4, rf_59_5, rf_59_6, rf_59_7, rf_59_12, rf_59_14, rf_59_15, rf_59_16, rf_59_19, rf_59_23, rf_59_24, rf_59_25, rf_59_26, is_9_59, sr_takes0 B Xr p2 h2 p6 hx, if_true]
  | succ m ih =>
    intro a1 k1 j D E hc hr hm hD hE Xc Xr P h1 h2 h3 h4
    obtain ⟨p1, p2, p3, p4, p5, p6, p7, p8, p9, p10⟩ := id P
    have e60 : ¬ (60 : Int32) ≤ nI j ∨ j = 59 ∨ 60 ≤ j := by
      rcases Nat.lt_or_ge j 60 with t | t
      · exact Or.inl (nI_ge (b := 60) (by omega) (by omega))
      · exact Or.inr (Or.inr t)
    have e60 : ¬ (60 : Int32) ≤ nI j := nI_ge (b := 60) (by omega) (by omega)
    by_cases hx : nxF b nb a1 = 124
    · have a1n := nx_lt hx (by decide)
      have P1 := PS_at (a' := a1 + 1) P
      obtain ⟨hc2, hr2, r1, r2, f1, f2, out⟩ := H (D + 8) (E + 8) (a1 + 1) k1 (q + 1) _ _ hD hE (PXc_t Xc (FPc_18 (k := 3) (v := nI (a1 + 1)) (by omega))) (PXr_t Xr (FPr_59 (k := 8) (v := nI (a1 + 1)) (by omega))) P1 (by omega) (by omega)
      have F1 : FPc hc hc2 := (FPc_18 (by omega)).tr f1
      have F2 : FPr hr hr2 := (FPr_59 (by omega)).tr f2
      rcases out with ⟨a2, k2, P2, u1, u2, u3⟩ | Z
      · obtain ⟨s1, s2, s3, s4, s5, s6, s7, s8, s9, s10⟩ := id P2
        have P3 := PS_add (v := 20124) (w := 20000) P2 (dp_op (nn_5 use) (Or.inl rfl)) (by decide)
        obtain ⟨hc4, hr4, t1, t2, t3, t4, t5⟩ := ih a2 (k2 + 1) (j + 1) D E _ _ (by omega) hD hE (PXc_t Xc (F1.tr (adC_f _ k2 20124))) (PXr_t Xr (F2.tr (adR_f _ k2 20000))) P3 (by omega) u2 (by omega) (by omega)
        refine ⟨hc4, hr4, ?_, ?_, (F1.tr (adC_f _ _ _)).tr t3, (F2.tr (adR_f _ _ _)).tr t4, t5⟩
        · rw [pb_X1_readT_1]
          simp only [c20, c2i, c2n, c2r, cs8_0, cs8_1, cs8_2, cs8_3, cs8_4, decide_eq_true_eq, ev_ald0, ev_aldn0, ev_bin, ev_cv0, ev_cv1, ev_dup_i, ev_dup_r, ev_gi, ev_go, ev_gr, ev_i, ev_if0, ev_if2, ev_ild1, ev_inc1, ev_ist1, ev_pi, ev_rv, i00, i01, i10, not_false_eq_true, not_true_eq_false, pm_bd_s, pm_tl_n, pm_tl_s, ↓reduceIte, kd_18, rf_18_0, rf_18_1, is_1_18, kd_20, rf_20_0, is_0_20, e60, sp_isNext B Xc p1 h2 p5, bI_0, hx, p1, nI_1, r1, add_20 s7 (show k2 < 60 by omega), not_true_eq_false, if_true, if_false]
          exact t1
        · rw [pb_X9_either_1]
          simp only [cs8_0, cs8_1, cs8_2, cs8_3, cs8_4, decide_eq_true_eq, ev_ald0, ev_aldn0, ev_cv0, ev_cv1, ev_go, ev_i, ev_if0, ev_rv, i00, i01, i10, not_false_eq_true, not_true_eq_false, pm_bd_s, pm_tl_n, pm_tl_s, ↓reduceIte, kd_59, rf_59_0, rf_59_1, rf_59_3, rf_59_4, rf_59_5, rf_59_6, rf_59_7, rf_59_12, rf_59_14, rf_59_15, rf_59_16, rf_59_19, rf_59_23, rf_59_24, rf_59_25, rf_59_26, is_9_59, sr_takes1 B Xr p2 h2 p6 hx, i10, r2, sr_codes s6 s8 (show k2 < 60 by omega), if_true, if_false]
          exact t2
      · obtain ⟨hc3, r3, Z2, F3⟩ := PZ_add (fb := fb) (v := 20124) Z
        obtain ⟨-, -, -, -, -, -, -, z6, -⟩ := id Z
        obtain ⟨t1, t2⟩ := z_T (fb := fb) (D := D) (E := E) (j := nI (j + 1)) Z2
        refine ⟨hc3, hr2, ?_, ?_, F1.tr F3, F2, Or.inr Z2⟩
        · rw [pb_X1_readT_1]
          simp only [c20, c2i, c2n, c2r, cs8_0, cs8_1, cs8_2, cs8_3, cs8_4, decide_eq_true_eq, ev_ald0, ev_aldn0, ev_bin, ev_cv0, ev_cv1, ev_dup_i, ev_dup_r, ev_gi, ev_go, ev_gr, ev_i, ev_if0, ev_if2, ev_ild1, ev_inc1, ev_ist1, ev_pi, ev_rv, i00, i01, i10, not_false_eq_true, not_true_eq_false, pm_bd_s, pm_tl_n, pm_tl_s, ↓reduceIte, kd_18, rf_18_0, rf_18_1, is_1_18, kd_20, rf_20_0, is_0_20, e60, sp_isNext B Xc p1 h2 p5, bI_0, hx, p1, nI_1, r1, r3, not_true_eq_false, if_true, if_false]
          exact t1
        · rw [pb_X9_either_1]
          simp only [cs8_0, cs8_1, cs8_2, cs8_3, cs8_4, decide_eq_true_eq, ev_ald0, ev_aldn0, ev_cv0, ev_cv1, ev_go, ev_i, ev_if0, ev_rv, i00, i01, i10, not_false_eq_true, not_true_eq_false, pm_bd_s, pm_tl_n, pm_tl_s, ↓reduceIte, kd_59, rf_59_0, rf_59_1, rf_59_3, rf_59_4, rf_59_5, rf_59_6, rf_59_7, rf_59_12, rf_59_14, rf_59_15, rf_59_16, rf_59_19, rf_59_23, rf_59_24, rf_59_25, rf_59_26, is_9_59, sr_takes1 B Xr p2 h2 p6 hx, i10, r2, sr_codesZ z6, if_true, if_false]
          exact t2
    · have hxF := eq_false hx
      refine ⟨hc, hr, ?_, ?_, FPc.rf _, FPr.rf _, Or.inl ⟨a1, k1, P, h1, h2, h3⟩⟩
      · rw [pb_X1_readT_1]
        simp only [c20, c2i, c2n, c2r, cs8_0, cs8_1, cs8_2, cs8_3, cs8_4, decide_eq_true_eq, ev_ald0, ev_aldn0, ev_bin, ev_cv0, ev_cv1, ev_dup_i, ev_dup_r, ev_gi, ev_go, ev_gr, ev_i, ev_if0, ev_if2, ev_ild1, ev_inc1, ev_ist1, ev_pi, ev_rv, i00, i01, i10, not_false_eq_true, not_true_eq_false, pm_bd_s, pm_tl_n, pm_tl_s, ↓reduceIte, pb_X1_readT_2, kd_18, rf_18_0, rf_18_1, is_1_18, kd_20, rf_20_0, is_0_20, e60, sp_isNext B Xc p1 h2 p5, bI_0, hxF, not_false_eq_true, if_true, if_false]
      · rw [pb_X9_either_1]
        simp only [cs8_0, cs8_1, cs8_2, cs8_3, cs8_4, decide_eq_true_eq, ev_ald0, ev_aldn0, ev_cv0, ev_cv1, ev_go, ev_i, ev_if0, ev_rv, i00, i01, i10, not_false_eq_true, not_true_eq_false, pm_bd_s, pm_tl_n, pm_tl_s, ↓reduceIte, pb_X9_either_2, kd_59, rf_59_0, rf_59_1, rf_59_3, rf_59_4, rf_59_5, rf_59_6, rf_59_7, rf_59_12, rf_59_14, rf_59_15, rf_59_16, rf_59_19, rf_59_23, rf_59_24, rf_59_25, rf_59_26, is_9_59, sr_takes0 B Xr p2 h2 p6 hx, if_true]
theorem TL {o e : Nat} (B : PBk nb use b) (h8 : 8 ≤ e) (H : RdL fb n_X1_readA n_X9_both e nb use o b) : RdL fb n_X1_readT n_X9_either (e + 1) nb use o b := by
  intro dc dr a k q hc hr hdc hdr Xc Xr P hk ha
  obtain ⟨D, rfl⟩ : ∃ D, dc = D + 8 + 1 := ⟨dc - 9, by omega⟩
  obtain ⟨E, rfl⟩ : ∃ E, dr = E + 8 + 1 := ⟨dr - 9, by omega⟩
  obtain ⟨hc2, hr2, r1, r2, f1, f2, out⟩ := H (D + 8) (E + 8) a k q _ _ (by omega) (by omega) Xc Xr P hk ha
  rcases out with ⟨a1, k1, P2, u1, u2, u3⟩ | Z
  · obtain ⟨hc4, hr4, t1, t2, t3, t4, t5⟩ := lp_T B hk H (nb - a1) a1 k1 0 D E _ _ (Nat.le_refl _) (by omega) (by omega) (PXc_t Xc f1) (PXr_t Xr f2) P2 u1 u2 u3 (by omega)
    rw [nI_0] at t1
    refine ⟨hc4, hr4, ?_, ?_, f1.tr t3, f2.tr t4, t5⟩
    · rw [en_X1_readT]
      simp only [c20, c2i, c2n, c2r, cs8_0, cs8_1, cs8_2, cs8_3, cs8_4, decide_eq_true_eq, ev_ald0, ev_aldn0, ev_bin, ev_cv0, ev_cv1, ev_dup_i, ev_dup_r, ev_gi, ev_go, ev_gr, ev_i, ev_if0, ev_if2, ev_ild1, ev_inc1, ev_ist1, ev_pi, ev_rv, i00, i01, i10, not_false_eq_true, not_true_eq_false, pm_bd_s, pm_tl_n, pm_tl_s, ↓reduceIte, pb_X1_readT_0, kd_18, rf_18_0, rf_18_1, is_1_18, kd_20, rf_20_0, is_0_20, r1]
      exact t1
    · rw [en_X9_either]
      simp only [cs8_0, cs8_1, cs8_2, cs8_3, cs8_4, decide_eq_true_eq, ev_ald0, ev_aldn0, ev_cv0, ev_cv1, ev_go, ev_i, ev_if0, ev_rv, i00, i01, i10, not_false_eq_true, not_true_eq_false, pm_bd_s, pm_tl_n, pm_tl_s, ↓reduceIte, pb_X9_either_0, kd_59, rf_59_0, rf_59_1, rf_59_3, rf_59_4, rf_59_5, rf_59_6, rf_59_7, rf_59_12, rf_59_14, rf_59_15, rf_59_16, rf_59_19, rf_59_23, rf_59_24, rf_59_25, rf_59_26, is_9_59, r2]
      exact t2
  · obtain ⟨t1, t2⟩ := z_T (fb := fb) (D := D) (E := E) (j := 0) Z
    refine ⟨hc2, hr2, ?_, ?_, f1, f2, Or.inr Z⟩
    · rw [en_X1_readT]
      simp only [c20, c2i, c2n, c2r, cs8_0, cs8_1, cs8_2, cs8_3, cs8_4, decide_eq_true_eq, ev_ald0, ev_aldn0, ev_bin, ev_cv0, ev_cv1, ev_dup_i, ev_dup_r, ev_gi, ev_go, ev_gr, ev_i, ev_if0, ev_if2, ev_ild1, ev_inc1, ev_ist1, ev_pi, ev_rv, i00, i01, i10, not_false_eq_true, not_true_eq_false, pm_bd_s, pm_tl_n, pm_tl_s, ↓reduceIte, pb_X1_readT_0, kd_18, rf_18_0, rf_18_1, is_1_18, kd_20, rf_20_0, is_0_20, r1]
      exact t1
    · rw [en_X9_either]
      simp only [cs8_0, cs8_1, cs8_2, cs8_3, cs8_4, decide_eq_true_eq, ev_ald0, ev_aldn0, ev_cv0, ev_cv1, ev_go, ev_i, ev_if0, ev_rv, i00, i01, i10, not_false_eq_true, not_true_eq_false, pm_bd_s, pm_tl_n, pm_tl_s, ↓reduceIte, pb_X9_either_0, kd_59, rf_59_0, rf_59_1, rf_59_3, rf_59_4, rf_59_5, rf_59_6, rf_59_7, rf_59_12, rf_59_14, rf_59_15, rf_59_16, rf_59_19, rf_59_23, rf_59_24, rf_59_25, rf_59_26, is_9_59, r2]
      exact t2
theorem TL_all (B : PBk nb use b) : ∀ n, n ≤ 5 → RdL fb n_X1_readQ n_X9_one (6 * n + 8) nb use (5 - n) b ∧ RdL fb n_X1_readT n_X9_either (6 * n + 13) nb use (5 - n) b
  | 0, _ => by
    have q := QL (fb := fb) (o := 5) (e := 7) (eq := 0) (et := 0) B (by omega) (by omega) (by omega) (by omega) (fun t => absurd t (by omega)) (fun t => absurd t (by omega))
    exact ⟨q, TL B (by omega) (AL B (by omega) (BL B (by omega) (SL B (by omega) (PL B (by omega) q))))⟩
  | n + 1, hn => by
    obtain ⟨i1, i2⟩ := TL_all B n (by omega)
    have e : 5 - (n + 1) + 1 = 5 - n := by omega
    have q := QL (fb := fb) (o := 5 - (n + 1)) (e := 6 * n + 13) (eq := 6 * n + 8) (et := 6 * n + 13) B (by omega) (by omega) (by omega) (by omega) (fun _ => by rw [e]; exact i1) (fun _ => by rw [e]; exact i2)
    have t := TL B (by omega) (AL B (by omega) (BL B (by omega) (SL B (by omega) (PL B (by omega) q))))
    exact ⟨q, t⟩
end LV
