/-! PAIRS OF CALLS: post, wronged -/
section PA
variable {fb : Bool} {d : Nat} {h : pm_HP}
theorem i_le {v : Int32} {n : Nat} (hn : n ≤ 60) (hv : 0 ≤ v ∧ v ≤ nI n) : ∃ j, j ≤ n ∧ v = nI j := by
  obtain ⟨j, hj, rfl⟩ := nI_of (Int32.not_lt.mpr hv.1)
  refine ⟨j, ?_, rfl⟩
  rcases Nat.lt_or_ge n j with c | c
  · exact absurd hv.2 (nI_ge c hj)
  · exact c
theorem ref_mv {hc : pm_HP} {n u nt nb nw k j : Nat} (hI : Inv h) (iN : RN h 3 60 n u nt nb nw) (hk : h.1 60 316 = nI k) (hk6 : k ≤ 60) (hp : ∀ i, i < k → h.1 60 (317 + i) = cod (h.1 36 i)) (hz : k = 0 ∨ dpF 5 (h.1 36) k = some 1) (hj : j ≤ n) (g : Gm h hc n u) : ∃ h2 h3, rs fb (d + 99) n_X9_goes [.ref 59] hc = some (none, h2) ∧ rs fb (d + 99) n_X9_movingOf [.ref 59, .int (nI j)] h2 = some (some (.int (mvF h n u nt k j)), h3) ∧ Gs h hc h3 n u ∧ Inv h3 ∧ h3.1 60 = h.1 60 ∧ hc.1 60 = h.1 60 := by
  obtain ⟨h2, r2, g2⟩ := go_s (fb := fb) (d := d) hI iN g
  have e60 : hc.1 60 = h.1 60 := (Gm_f g).1 60 (by decide)
  obtain ⟨h3, r3, f3⟩ := mv_r (fb := fb) (d := d + 93) (h2 := h2) iN (by rw [g2.1.1 60 (by decide), e60]) (g2.2.1 n (Nat.le_refl _)) hk hk6 hp hz hj
  exact ⟨h2, h3, r2, r3, ⟨h2, g2, f3⟩, Inv_gs (Inv_gm hI g) ⟨h2, g2, f3⟩, by rw [f3.1 60 (by decide), g2.1.1 60 (by decide), e60], e60⟩
theorem pr_post (hI : Inv h) (x y : Int32) : Pr fb (d + 100) n_X8_post n_X9_post [.int x, .int y] h := by
  obtain ⟨⟨n, u, nt, nb, nw, iN⟩, iZ, iM, iS, iT, iB, iW, iX, iY⟩ := id hI.1
  obtain ⟨k, hk6, hk, hk2, hp, hz⟩ := iX
  have ix0 : pm_ix (0 : Int32) 440 = true := by decide
  have cl0 : (0 : Int32).toNatClampNeg = 0 := by decide
  have z100 : ((100 : Int32) = 0) = False := by decide
  have hn := iN.1.2.2.2
  have hc3 := iN.1.1
  have hn0 := iN.1.2.1
  by_cases q1 : 0 ≤ x ∧ x ≤ nI n
  · by_cases q2 : 0 ≤ y ∧ y ≤ 5
    · obtain ⟨j, hj, rfl⟩ := i_le (show n ≤ 60 by omega) q1
      obtain ⟨c, hc, rfl⟩ := nI_of2 (M := 5) (n := 5) (by decide) (Int32.not_lt.mpr q2.1) q2.2
      have q1' := eq_true q1
      have q2' := eq_true q2
      obtain ⟨h1, r1, g1⟩ := go_c (fb := fb) (d := d) hI iN
      have gm := Gm_0 g1
      have w := g1.2.2.2.2.1
      have xj : pm_ix (nI j) 25 = true := pm_ix_n (by omega) (by omega)
      have cj := nI_clamp (show j < 2 ^ 31 by omega)
      obtain ⟨hm, rm1, fm⟩ := mv_c (fb := fb) (d := d + 93) (j := j) iN iT gm hk hk6 hz hj
      obtain ⟨hv, rv1, fv⟩ := mv_c (fb := fb) (d := d + 92) (j := j) iN iT gm hk hk6 hz hj
      have gv := Gm_t gm fv
      have ms := sp_missSide (fb := fb) (d := d + 98) g1.2.1 hn
      have ma := sp_missAlong (fb := fb) (d := d + 98) g1.2.1 hn
      rw [(w n (Nat.le_refl _)).1, g1.2.2.1] at ms
      rw [(w n (Nat.le_refl _)).2, g1.2.2.2.1] at ma
      have sj := sp_sideOf (fb := fb) (d := d + 97) g1.2.1 hn hj
      have aj := sp_alongOf (fb := fb) (d := d + 97) g1.2.1 hn hj
      rw [(w j hj).1] at sj
      rw [(w j hj).2] at aj
      have mb : ∀ m : Int32, rs fb (d + 99) n_X8_movedBy [.ref 0, .int (nI j), .int m] h1 = some (some (.int (m * mvF h n u nt k j / 100)), hv) := by
        intro m
        rw [en_X8_movedBy]
        simp only [cs8_0, cs8_1, cs8_2, cs8_3, cs8_4, ev_ald0, ev_aldn0, ev_bin, ev_cv1, ev_dv, ev_i, ev_ild1, ev_ild2, ev_ri, pm_bd_s, pm_tl_n, pm_tl_s, pb_X8_movedBy_0, kd_0, rf_0_0, rf_0_1, rf_0_2, rf_0_3, rf_0_4, rf_0_5, rf_0_6, rf_0_7, rf_0_8, is_8_0, rv1, z100, if_false]
      rcases (show c = 0 ∨ c = 1 ∨ c = 2 ∨ c = 3 ∨ c = 4 ∨ c = 5 by omega) with rfl | rfl | rfl | rfl | rfl | rfl
      · have z : nI 0 = 0 := rfl
        rw [z] at q2' ⊢
        obtain ⟨h2, h3, r2, r3, gs, hI3, e60, f60⟩ := ref_mv (fb := fb) (d := d) hI iN hk2 hk6 (fun i hi => (hp i hi).symm) hz hj gm
        have hn1 : h1.1 60 0 = nI n := by rw [f60]; exact hn0
        refine ⟨SDf h u j, h1, h3, ?_, ?_, hI3⟩
        · rw [en_X8_post]
          simp only [cs8_0, cs8_1, cs8_2, cs8_3, cs8_4, decide_eq_true_eq, ev_ald0, ev_aldn0, ev_bin, ev_cs3, ev_cv0, ev_cv1, ev_cv2, ev_go, ev_gr, ev_i, ev_if0, ev_ild1, ev_ild2, ev_ri, ev_sw_0, ev_sw_1, i00, i01, i10, is_sw, not_false_eq_true, not_true_eq_false, pm_bd_s, pm_tl_n, pm_tl_s, ↓reduceIte, pb_X8_post_0, pb_X8_post_1, pb_X8_post_2, pb_X8_post_3, pb_X8_post_4, pb_X8_post_5, pb_X8_post_6, pb_X8_post_7, pb_X8_post_8, nl_0_1, nl_0_2, nl_0_3, nl_0_4, nl_0_5, nl_0_6, nl_0_7, nl_0_8, nl_1_0, nl_1_2, nl_1_3, nl_1_4, nl_1_5, nl_1_6, nl_1_7, nl_1_8, nl_2_0, nl_2_1, nl_2_3, nl_2_4, nl_2_5, nl_2_6, nl_2_7, nl_2_8, nl_3_0, nl_3_1, nl_3_2, nl_3_4, nl_3_5, nl_3_6, nl_3_7, nl_3_8, nl_4_0, nl_4_1, nl_4_2, nl_4_3, nl_4_5, nl_4_6, nl_4_7, nl_4_8, nl_5_0, nl_5_1, nl_5_2, nl_5_3, nl_5_4, nl_5_6, nl_5_7, nl_5_8, nl_6_0, nl_6_1, nl_6_2, nl_6_3, nl_6_4, nl_6_5, nl_6_7, nl_6_8, nl_7_0, nl_7_1, nl_7_2, nl_7_3, nl_7_4, nl_7_5, nl_7_6, nl_7_8, nl_8_0, nl_8_1, nl_8_2, nl_8_3, nl_8_4, nl_8_5, nl_8_6, nl_8_7, kd_0, rf_0_0, rf_0_1, rf_0_2, rf_0_3, rf_0_4, rf_0_5, rf_0_6, rf_0_7, rf_0_8, is_8_0, kd_1, rf_1_0, rf_1_1, rf_1_2, rf_1_3, rf_1_4, rf_1_5, rf_1_6, is_5_1, kd_3, rf_3_2, fc_3_0, fc_3_1, is_6_3_3, is_3_6_3, kd_17, rf_17_0, rf_17_1, rf_17_2, rf_17_3, rf_17_4, rf_17_5, rf_17_6, is_7_17, sp_used, hc3, sp_isIn, bI_0, bI_n0, q1', q2', r1, sj]
        · rw [en_X9_post]
          simp only [c20, c2i, c2n, c2r, cs8_0, cs8_1, cs8_2, cs8_3, cs8_4, decide_eq_true_eq, ev_ald0, ev_aldn0, ev_bin, ev_cs3, ev_cv0, ev_cv1, ev_dv, ev_go, ev_gr, ev_i, ev_ia, ev_if0, ev_ild1, ev_ild2, ev_ild3, ev_ist3, ev_ri, ev_sw_0, ev_sw_1, i00, i01, i10, not_false_eq_true, not_true_eq_false, pm_bd_s, pm_tl_n, pm_tl_s, ↓reduceIte, pb_X9_post_0, pb_X9_post_1, pb_X9_post_2, pb_X9_post_3, pb_X9_post_4, pb_X9_post_5, pb_X9_post_6, pb_X9_post_7, pb_X9_post_8, nl_0_1, nl_0_2, nl_0_3, nl_0_4, nl_0_5, nl_0_6, nl_0_7, nl_0_8, nl_1_0, nl_1_2, nl_1_3, nl_1_4, nl_1_5, nl_1_6, nl_1_7, nl_1_8, nl_2_0, nl_2_1, nl_2_3, nl_2_4, nl_2_5, nl_2_6, nl_2_7, nl_2_8, nl_3_0, nl_3_1, nl_3_2, nl_3_4, nl_3_5, nl_3_6, nl_3_7, nl_3_8, nl_4_0, nl_4_1, nl_4_2, nl_4_3, nl_4_5, nl_4_6, nl_4_7, nl_4_8, nl_5_0, nl_5_1, nl_5_2, nl_5_3, nl_5_4, nl_5_6, nl_5_7, nl_5_8, nl_6_0, nl_6_1, nl_6_2, nl_6_3, nl_6_4, nl_6_5, nl_6_7, nl_6_8, nl_7_0, nl_7_1, nl_7_2, nl_7_3, nl_7_4, nl_7_5, nl_7_6, nl_7_8, nl_8_0, nl_8_1, nl_8_2, nl_8_3, nl_8_4, nl_8_5, nl_8_6, nl_8_7, kd_59, rf_59_0, rf_59_1, rf_59_3, rf_59_4, rf_59_5, rf_59_6, rf_59_7, rf_59_12, rf_59_14, rf_59_15, rf_59_16, rf_59_19, rf_59_23, rf_59_24, rf_59_25, rf_59_26, is_9_59, kd_60, al_60, kd_63, al_63, ix0, cl0, hn1, sr_isIn, bI_0, bI_n0, q1', q2', r2, r3, xj, cj, (Gs_w gs j hj).1]
      · have z : nI 1 = 1 := rfl
        rw [z] at q2' ⊢
        obtain ⟨h2, h3, r2, r3, gs, hI3, e60, f60⟩ := ref_mv (fb := fb) (d := d) hI iN hk2 hk6 (fun i hi => (hp i hi).symm) hz hj gm
        have hn1 : h1.1 60 0 = nI n := by rw [f60]; exact hn0
        refine ⟨ALf h u j, h1, h3, ?_, ?_, hI3⟩
        · rw [en_X8_post]
          simp only [cs8_0, cs8_1, cs8_2, cs8_3, cs8_4, decide_eq_true_eq, ev_ald0, ev_aldn0, ev_bin, ev_cs3, ev_cv0, ev_cv1, ev_cv2, ev_go, ev_gr, ev_i, ev_if0, ev_ild1, ev_ild2, ev_ri, ev_sw_0, ev_sw_1, i00, i01, i10, is_sw, not_false_eq_true, not_true_eq_false, pm_bd_s, pm_tl_n, pm_tl_s, ↓reduceIte, pb_X8_post_0, pb_X8_post_1, pb_X8_post_2, pb_X8_post_3, pb_X8_post_4, pb_X8_post_5, pb_X8_post_6, pb_X8_post_7, pb_X8_post_8, nl_0_1, nl_0_2, nl_0_3, nl_0_4, nl_0_5, nl_0_6, nl_0_7, nl_0_8, nl_1_0, nl_1_2, nl_1_3, nl_1_4, nl_1_5, nl_1_6, nl_1_7, nl_1_8, nl_2_0, nl_2_1, nl_2_3, nl_2_4, nl_2_5, nl_2_6, nl_2_7, nl_2_8, nl_3_0, nl_3_1, nl_3_2, nl_3_4, nl_3_5, nl_3_6, nl_3_7, nl_3_8, nl_4_0, nl_4_1, nl_4_2, nl_4_3, nl_4_5, nl_4_6, nl_4_7, nl_4_8, nl_5_0, nl_5_1, nl_5_2, nl_5_3, nl_5_4, nl_5_6, nl_5_7, nl_5_8, nl_6_0, nl_6_1, nl_6_2, nl_6_3, nl_6_4, nl_6_5, nl_6_7, nl_6_8, nl_7_0, nl_7_1, nl_7_2, nl_7_3, nl_7_4, nl_7_5, nl_7_6, nl_7_8, nl_8_0, nl_8_1, nl_8_2, nl_8_3, nl_8_4, nl_8_5, nl_8_6, nl_8_7, kd_0, rf_0_0, rf_0_1, rf_0_2, rf_0_3, rf_0_4, rf_0_5, rf_0_6, rf_0_7, rf_0_8, is_8_0, kd_1, rf_1_0, rf_1_1, rf_1_2, rf_1_3, rf_1_4, rf_1_5, rf_1_6, is_5_1, kd_3, rf_3_2, fc_3_0, fc_3_1, is_6_3_3, is_3_6_3, kd_17, rf_17_0, rf_17_1, rf_17_2, rf_17_3, rf_17_4, rf_17_5, rf_17_6, is_7_17, sp_used, hc3, sp_isIn, bI_0, bI_n0, q1', q2', r1, aj]
        · rw [en_X9_post]
          simp only [c20, c2i, c2n, c2r, cs8_0, cs8_1, cs8_2, cs8_3, cs8_4, decide_eq_true_eq, ev_ald0, ev_aldn0, ev_bin, ev_cs3, ev_cv0, ev_cv1, ev_dv, ev_go, ev_gr, ev_i, ev_ia, ev_if0, ev_ild1, ev_ild2, ev_ild3, ev_ist3, ev_ri, ev_sw_0, ev_sw_1, i00, i01, i10, not_false_eq_true, not_true_eq_false, pm_bd_s, pm_tl_n, pm_tl_s, ↓reduceIte, pb_X9_post_0, pb_X9_post_1, pb_X9_post_2, pb_X9_post_3, pb_X9_post_4, pb_X9_post_5, pb_X9_post_6, pb_X9_post_7, pb_X9_post_8, nl_0_1, nl_0_2, nl_0_3, nl_0_4, nl_0_5, nl_0_6, nl_0_7, nl_0_8, nl_1_0, nl_1_2, nl_1_3, nl_1_4, nl_1_5, nl_1_6, nl_1_7, nl_1_8, nl_2_0, nl_2_1, nl_2_3, nl_2_4, nl_2_5, nl_2_6, nl_2_7, nl_2_8, nl_3_0, nl_3_1, nl_3_2, nl_3_4, nl_3_5, nl_3_6, nl_3_7, nl_3_8, nl_4_0, nl_4_1, nl_4_2, nl_4_3, nl_4_5, nl_4_6, nl_4_7, nl_4_8, nl_5_0, nl_5_1, nl_5_2, nl_5_3, nl_5_4, nl_5_6, nl_5_7, nl_5_8, nl_6_0, nl_6_1, nl_6_2, nl_6_3, nl_6_4, nl_6_5, nl_6_7, nl_6_8, nl_7_0, nl_7_1, nl_7_2, nl_7_3, nl_7_4, nl_7_5, nl_7_6, nl_7_8, nl_8_0, nl_8_1, nl_8_2, nl_8_3, nl_8_4, nl_8_5, nl_8_6, nl_8_7, kd_59, rf_59_0, rf_59_1, rf_59_3, rf_59_4, rf_59_5, rf_59_6, rf_59_7, rf_59_12, rf_59_14, rf_59_15, rf_59_16, rf_59_19, rf_59_23, rf_59_24, rf_59_25, rf_59_26, is_9_59, kd_60, al_60, kd_64, al_64, ix0, cl0, hn1, sr_isIn, bI_0, bI_n0, q1', q2', r2, r3, xj, cj, (Gs_w gs j hj).2]
      · have z : nI 2 = 2 := rfl
        rw [z] at q2' ⊢
        obtain ⟨h2, h3, r2, r3, gs, hI3, e60, f60⟩ := ref_mv (fb := fb) (d := d) hI iN hk2 hk6 (fun i hi => (hp i hi).symm) hz hj gv
        have hn1 : hv.1 60 0 = nI n := by rw [f60]; exact hn0
        have hn3 : h3.1 60 0 = nI n := by rw [e60]; exact hn0
        have s0 := sr_miss0 (fb := fb) (d := d + 98) hn3 hn
        rw [(Gs_w gs n (Nat.le_refl _)).1, e60] at s0
        refine ⟨SDf h u j - (SDf h u n - h.1 60 6) * mvF h n u nt k j / 100, hv, h3, ?_, ?_, hI3⟩
        · rw [en_X8_post]
          simp only [cs8_0, cs8_1, cs8_2, cs8_3, cs8_4, decide_eq_true_eq, ev_ald0, ev_aldn0, ev_bin, ev_cs3, ev_cv0, ev_cv1, ev_cv2, ev_go, ev_gr, ev_i, ev_if0, ev_ild1, ev_ild2, ev_ri, ev_sw_0, ev_sw_1, i00, i01, i10, is_sw, not_false_eq_true, not_true_eq_false, pm_bd_s, pm_tl_n, pm_tl_s, ↓reduceIte, pb_X8_post_0, pb_X8_post_1, pb_X8_post_2, pb_X8_post_3, pb_X8_post_4, pb_X8_post_5, pb_X8_post_6, pb_X8_post_7, pb_X8_post_8, nl_0_1, nl_0_2, nl_0_3, nl_0_4, nl_0_5, nl_0_6, nl_0_7, nl_0_8, nl_1_0, nl_1_2, nl_1_3, nl_1_4, nl_1_5, nl_1_6, nl_1_7, nl_1_8, nl_2_0, nl_2_1, nl_2_3, nl_2_4, nl_2_5, nl_2_6, nl_2_7, nl_2_8, nl_3_0, nl_3_1, nl_3_2, nl_3_4, nl_3_5, nl_3_6, nl_3_7, nl_3_8, nl_4_0, nl_4_1, nl_4_2, nl_4_3, nl_4_5, nl_4_6, nl_4_7, nl_4_8, nl_5_0, nl_5_1, nl_5_2, nl_5_3, nl_5_4, nl_5_6, nl_5_7, nl_5_8, nl_6_0, nl_6_1, nl_6_2, nl_6_3, nl_6_4, nl_6_5, nl_6_7, nl_6_8, nl_7_0, nl_7_1, nl_7_2, nl_7_3, nl_7_4, nl_7_5, nl_7_6, nl_7_8, nl_8_0, nl_8_1, nl_8_2, nl_8_3, nl_8_4, nl_8_5, nl_8_6, nl_8_7, kd_0, rf_0_0, rf_0_1, rf_0_2, rf_0_3, rf_0_4, rf_0_5, rf_0_6, rf_0_7, rf_0_8, is_8_0, kd_1, rf_1_0, rf_1_1, rf_1_2, rf_1_3, rf_1_4, rf_1_5, rf_1_6, is_5_1, kd_3, rf_3_2, fc_3_0, fc_3_1, is_6_3_3, is_3_6_3, kd_17, rf_17_0, rf_17_1, rf_17_2, rf_17_3, rf_17_4, rf_17_5, rf_17_6, is_7_17, sp_used, hc3, sp_isIn, bI_0, bI_n0, q1', q2', r1, sj, ms, mb]
        · rw [en_X9_post]
          simp only [c20, c2i, c2n, c2r, cs8_0, cs8_1, cs8_2, cs8_3, cs8_4, decide_eq_true_eq, ev_ald0, ev_aldn0, ev_bin, ev_cs3, ev_cv0, ev_cv1, ev_dv, ev_go, ev_gr, ev_i, ev_ia, ev_if0, ev_ild1, ev_ild2, ev_ild3, ev_ist3, ev_ri, ev_sw_0, ev_sw_1, i00, i01, i10, not_false_eq_true, not_true_eq_false, pm_bd_s, pm_tl_n, pm_tl_s, ↓reduceIte, pb_X9_post_0, pb_X9_post_1, pb_X9_post_2, pb_X9_post_3, pb_X9_post_4, pb_X9_post_5, pb_X9_post_6, pb_X9_post_7, pb_X9_post_8, nl_0_1, nl_0_2, nl_0_3, nl_0_4, nl_0_5, nl_0_6, nl_0_7, nl_0_8, nl_1_0, nl_1_2, nl_1_3, nl_1_4, nl_1_5, nl_1_6, nl_1_7, nl_1_8, nl_2_0, nl_2_1, nl_2_3, nl_2_4, nl_2_5, nl_2_6, nl_2_7, nl_2_8, nl_3_0, nl_3_1, nl_3_2, nl_3_4, nl_3_5, nl_3_6, nl_3_7, nl_3_8, nl_4_0, nl_4_1, nl_4_2, nl_4_3, nl_4_5, nl_4_6, nl_4_7, nl_4_8, nl_5_0, nl_5_1, nl_5_2, nl_5_3, nl_5_4, nl_5_6, nl_5_7, nl_5_8, nl_6_0, nl_6_1, nl_6_2, nl_6_3, nl_6_4, nl_6_5, nl_6_7, nl_6_8, nl_7_0, nl_7_1, nl_7_2, nl_7_3, nl_7_4, nl_7_5, nl_7_6, nl_7_8, nl_8_0, nl_8_1, nl_8_2, nl_8_3, nl_8_4, nl_8_5, nl_8_6, nl_8_7, kd_59, rf_59_0, rf_59_1, rf_59_3, rf_59_4, rf_59_5, rf_59_6, rf_59_7, rf_59_12, rf_59_14, rf_59_15, rf_59_16, rf_59_19, rf_59_23, rf_59_24, rf_59_25, rf_59_26, is_9_59, kd_60, al_60, kd_63, al_63, ix0, cl0, hn1, sr_isIn, bI_0, bI_n0, q1', q2', r2, r3, xj, cj, (Gs_w gs j hj).1, s0, z100]
      · have z : nI 3 = 3 := rfl
        rw [z] at q2' ⊢
        obtain ⟨h2, h3, r2, r3, gs, hI3, e60, f60⟩ := ref_mv (fb := fb) (d := d) hI iN hk2 hk6 (fun i hi => (hp i hi).symm) hz hj gv
        have hn1 : hv.1 60 0 = nI n := by rw [f60]; exact hn0
        have hn3 : h3.1 60 0 = nI n := by rw [e60]; exact hn0
        have s0 := sr_miss1 (fb := fb) (d := d + 98) hn3 hn
        rw [(Gs_w gs n (Nat.le_refl _)).2, e60] at s0
        refine ⟨ALf h u j - (ALf h u n - h.1 60 7) * mvF h n u nt k j / 100, hv, h3, ?_, ?_, hI3⟩
        · rw [en_X8_post]
          simp only [cs8_0, cs8_1, cs8_2, cs8_3, cs8_4, decide_eq_true_eq, ev_ald0, ev_aldn0, ev_bin, ev_cs3, ev_cv0, ev_cv1, ev_cv2, ev_go, ev_gr, ev_i, ev_if0, ev_ild1, ev_ild2, ev_ri, ev_sw_0, ev_sw_1, i00, i01, i10, is_sw, not_false_eq_true, not_true_eq_false, pm_bd_s, pm_tl_n, pm_tl_s, ↓reduceIte, pb_X8_post_0, pb_X8_post_1, pb_X8_post_2, pb_X8_post_3, pb_X8_post_4, pb_X8_post_5, pb_X8_post_6, pb_X8_post_7, pb_X8_post_8, nl_0_1, nl_0_2, nl_0_3, nl_0_4, nl_0_5, nl_0_6, nl_0_7, nl_0_8, nl_1_0, nl_1_2, nl_1_3, nl_1_4, nl_1_5, nl_1_6, nl_1_7, nl_1_8, nl_2_0, nl_2_1, nl_2_3, nl_2_4, nl_2_5, nl_2_6, nl_2_7, nl_2_8, nl_3_0, nl_3_1, nl_3_2, nl_3_4, nl_3_5, nl_3_6, nl_3_7, nl_3_8, nl_4_0, nl_4_1, nl_4_2, nl_4_3, nl_4_5, nl_4_6, nl_4_7, nl_4_8, nl_5_0, nl_5_1, nl_5_2, nl_5_3, nl_5_4, nl_5_6, nl_5_7, nl_5_8, nl_6_0, nl_6_1, nl_6_2, nl_6_3, nl_6_4, nl_6_5, nl_6_7, nl_6_8, nl_7_0, nl_7_1, nl_7_2, nl_7_3, nl_7_4, nl_7_5, nl_7_6, nl_7_8, nl_8_0, nl_8_1, nl_8_2, nl_8_3, nl_8_4, nl_8_5, nl_8_6, nl_8_7, kd_0, rf_0_0, rf_0_1, rf_0_2, rf_0_3, rf_0_4, rf_0_5, rf_0_6, rf_0_7, rf_0_8, is_8_0, kd_1, rf_1_0, rf_1_1, rf_1_2, rf_1_3, rf_1_4, rf_1_5, rf_1_6, is_5_1, kd_3, rf_3_2, fc_3_0, fc_3_1, is_6_3_3, is_3_6_3, kd_17, rf_17_0, rf_17_1, rf_17_2, rf_17_3, rf_17_4, rf_17_5, rf_17_6, is_7_17, sp_used, hc3, sp_isIn, bI_0, bI_n0, q1', q2', r1, aj, ma, mb]
        · rw [en_X9_post]
          simp only [c20, c2i, c2n, c2r, cs8_0, cs8_1, cs8_2, cs8_3, cs8_4, decide_eq_true_eq, ev_ald0, ev_aldn0, ev_bin, ev_cs3, ev_cv0, ev_cv1, ev_dv, ev_go, ev_gr, ev_i, ev_ia, ev_if0, ev_ild1, ev_ild2, ev_ild3, ev_ist3, ev_ri, ev_sw_0, ev_sw_1, i00, i01, i10, not_false_eq_true, not_true_eq_false, pm_bd_s, pm_tl_n, pm_tl_s, ↓reduceIte, pb_X9_post_0, pb_X9_post_1, pb_X9_post_2, pb_X9_post_3, pb_X9_post_4, pb_X9_post_5, pb_X9_post_6, pb_X9_post_7, pb_X9_post_8, nl_0_1, nl_0_2, nl_0_3, nl_0_4, nl_0_5, nl_0_6, nl_0_7, nl_0_8, nl_1_0, nl_1_2, nl_1_3, nl_1_4, nl_1_5, nl_1_6, nl_1_7, nl_1_8, nl_2_0, nl_2_1, nl_2_3, nl_2_4, nl_2_5, nl_2_6, nl_2_7, nl_2_8, nl_3_0, nl_3_1, nl_3_2, nl_3_4, nl_3_5, nl_3_6, nl_3_7, nl_3_8, nl_4_0, nl_4_1, nl_4_2, nl_4_3, nl_4_5, nl_4_6, nl_4_7, nl_4_8, nl_5_0, nl_5_1, nl_5_2, nl_5_3, nl_5_4, nl_5_6, nl_5_7, nl_5_8, nl_6_0, nl_6_1, nl_6_2, nl_6_3, nl_6_4, nl_6_5, nl_6_7, nl_6_8, nl_7_0, nl_7_1, nl_7_2, nl_7_3, nl_7_4, nl_7_5, nl_7_6, nl_7_8, nl_8_0, nl_8_1, nl_8_2, nl_8_3, nl_8_4, nl_8_5, nl_8_6, nl_8_7, kd_59, rf_59_0, rf_59_1, rf_59_3, rf_59_4, rf_59_5, rf_59_6, rf_59_7, rf_59_12, rf_59_14, rf_59_15, rf_59_16, rf_59_19, rf_59_23, rf_59_24, rf_59_25, rf_59_26, is_9_59, kd_60, al_60, kd_64, al_64, ix0, cl0, hn1, sr_isIn, bI_0, bI_n0, q1', q2', r2, r3, xj, cj, (Gs_w gs j hj).2, s0, z100]
      · have z : nI 4 = 4 := rfl
        rw [z] at q2' ⊢
        have gm' := Gm_t gm fm
        obtain ⟨h2, h3, r2, r3, gs, hI3, e60, f60⟩ := ref_mv (fb := fb) (d := d) hI iN hk2 hk6 (fun i hi => (hp i hi).symm) hz hj gm'
        have hn1 : hm.1 60 0 = nI n := by rw [f60]; exact hn0
        refine ⟨mvF h n u nt k j, hm, h3, ?_, ?_, hI3⟩
        · rw [en_X8_post]
          simp only [cs8_0, cs8_1, cs8_2, cs8_3, cs8_4, decide_eq_true_eq, ev_ald0, ev_aldn0, ev_bin, ev_cs3, ev_cv0, ev_cv1, ev_cv2, ev_go, ev_gr, ev_i, ev_if0, ev_ild1, ev_ild2, ev_ri, ev_sw_0, ev_sw_1, i00, i01, i10, is_sw, not_false_eq_true, not_true_eq_false, pm_bd_s, pm_tl_n, pm_tl_s, ↓reduceIte, pb_X8_post_0, pb_X8_post_1, pb_X8_post_2, pb_X8_post_3, pb_X8_post_4, pb_X8_post_5, pb_X8_post_6, pb_X8_post_7, pb_X8_post_8, nl_0_1, nl_0_2, nl_0_3, nl_0_4, nl_0_5, nl_0_6, nl_0_7, nl_0_8, nl_1_0, nl_1_2, nl_1_3, nl_1_4, nl_1_5, nl_1_6, nl_1_7, nl_1_8, nl_2_0, nl_2_1, nl_2_3, nl_2_4, nl_2_5, nl_2_6, nl_2_7, nl_2_8, nl_3_0, nl_3_1, nl_3_2, nl_3_4, nl_3_5, nl_3_6, nl_3_7, nl_3_8, nl_4_0, nl_4_1, nl_4_2, nl_4_3, nl_4_5, nl_4_6, nl_4_7, nl_4_8, nl_5_0, nl_5_1, nl_5_2, nl_5_3, nl_5_4, nl_5_6, nl_5_7, nl_5_8, nl_6_0, nl_6_1, nl_6_2, nl_6_3, nl_6_4, nl_6_5, nl_6_7, nl_6_8, nl_7_0, nl_7_1, nl_7_2, nl_7_3, nl_7_4, nl_7_5, nl_7_6, nl_7_8, nl_8_0, nl_8_1, nl_8_2, nl_8_3, nl_8_4, nl_8_5, nl_8_6, nl_8_7, kd_0, rf_0_0, rf_0_1, rf_0_2, rf_0_3, rf_0_4, rf_0_5, rf_0_6, rf_0_7, rf_0_8, is_8_0, kd_1, rf_1_0, rf_1_1, rf_1_2, rf_1_3, rf_1_4, rf_1_5, rf_1_6, is_5_1, kd_3, rf_3_2, fc_3_0, fc_3_1, is_6_3_3, is_3_6_3, kd_17, rf_17_0, rf_17_1, rf_17_2, rf_17_3, rf_17_4, rf_17_5, rf_17_6, is_7_17, sp_used, hc3, sp_isIn, bI_0, bI_n0, q1', q2', r1, rm1]
        · rw [en_X9_post]
          simp only [c20, c2i, c2n, c2r, cs8_0, cs8_1, cs8_2, cs8_3, cs8_4, decide_eq_true_eq, ev_ald0, ev_aldn0, ev_bin, ev_cs3, ev_cv0, ev_cv1, ev_dv, ev_go, ev_gr, ev_i, ev_ia, ev_if0, ev_ild1, ev_ild2, ev_ild3, ev_ist3, ev_ri, ev_sw_0, ev_sw_1, i00, i01, i10, not_false_eq_true, not_true_eq_false, pm_bd_s, pm_tl_n, pm_tl_s, ↓reduceIte, pb_X9_post_0, pb_X9_post_1, pb_X9_post_2, pb_X9_post_3, pb_X9_post_4, pb_X9_post_5, pb_X9_post_6, pb_X9_post_7, pb_X9_post_8, nl_0_1, nl_0_2, nl_0_3, nl_0_4, nl_0_5, nl_0_6, nl_0_7, nl_0_8, nl_1_0, nl_1_2, nl_1_3, nl_1_4, nl_1_5, nl_1_6, nl_1_7, nl_1_8, nl_2_0, nl_2_1, nl_2_3, nl_2_4, nl_2_5, nl_2_6, nl_2_7, nl_2_8, nl_3_0, nl_3_1, nl_3_2, nl_3_4, nl_3_5, nl_3_6, nl_3_7, nl_3_8, nl_4_0, nl_4_1, nl_4_2, nl_4_3, nl_4_5, nl_4_6, nl_4_7, nl_4_8, nl_5_0, nl_5_1, nl_5_2, nl_5_3, nl_5_4, nl_5_6, nl_5_7, nl_5_8, nl_6_0, nl_6_1, nl_6_2, nl_6_3, nl_6_4, nl_6_5, nl_6_7, nl_6_8, nl_7_0, nl_7_1, nl_7_2, nl_7_3, nl_7_4, nl_7_5, nl_7_6, nl_7_8, nl_8_0, nl_8_1, nl_8_2, nl_8_3, nl_8_4, nl_8_5, nl_8_6, nl_8_7, kd_59, rf_59_0, rf_59_1, rf_59_3, rf_59_4, rf_59_5, rf_59_6, rf_59_7, rf_59_12, rf_59_14, rf_59_15, rf_59_16, rf_59_19, rf_59_23, rf_59_24, rf_59_25, rf_59_26, is_9_59, kd_60, al_60, ix0, cl0, hn1, sr_isIn, bI_0, bI_n0, q1', q2', r2, r3]
      · have z : nI 5 = 5 := rfl
        rw [z] at q2' ⊢
        obtain ⟨h2, h3, r2, r3, gs, hI3, e60, f60⟩ := ref_mv (fb := fb) (d := d) hI iN hk2 hk6 (fun i hi => (hp i hi).symm) hz hj gm
        have hn1 : h1.1 60 0 = nI n := by rw [f60]; exact hn0
        have ht3 : h3.1 60 2 = nI nt := by rw [e60]; exact iN.2.2.1.2.1
        have ht := iN.2.2.1.2.2
        have hm5 := sp_howMany (fb := fb) (d := d + 96) (t := 5) (c := 0) (u := nt) (v := nI j) (h := h1) (by decide) (by decide) (by rw [g1.1.1 5 (by decide)]; exact iN.2.2.1.1) (by show nt ≤ 16; exact ht)
        have em : smA (fun i => decide (h1.1 (pm_rf 5 2) (0 * tR 5 + i) = nI j)) (fun _ => 1) 0 nt 0 = smA (fun i => decide (rt h3 0 i = nI j)) (fun _ => 1) 0 nt 0 := by
          refine smA_congr nt 0 0 (fun s _ hs => ⟨?_, rfl⟩)
          show decide (h1.1 33 (0 * 16 + s) = nI j) = _
          unfold rt
          rw [g1.1.1 33 (by decide), e60, (iT s (by omega)).1 0 (by omega)]
        rw [em, nI_0] at hm5
        refine ⟨smA (fun i => decide (rt h3 0 i = nI j)) (fun _ => 1) 0 nt 0, h1, h3, ?_, ?_, hI3⟩
        · rw [en_X8_post]
          simp only [cs8_0, cs8_1, cs8_2, cs8_3, cs8_4, decide_eq_true_eq, ev_ald0, ev_aldn0, ev_bin, ev_cs3, ev_cv0, ev_cv1, ev_cv2, ev_go, ev_gr, ev_i, ev_if0, ev_ild1, ev_ild2, ev_ri, ev_sw_0, ev_sw_1, i00, i01, i10, is_sw, not_false_eq_true, not_true_eq_false, pm_bd_s, pm_tl_n, pm_tl_s, ↓reduceIte, pb_X8_post_0, pb_X8_post_1, pb_X8_post_2, pb_X8_post_3, pb_X8_post_4, pb_X8_post_5, pb_X8_post_6, pb_X8_post_7, pb_X8_post_8, nl_0_1, nl_0_2, nl_0_3, nl_0_4, nl_0_5, nl_0_6, nl_0_7, nl_0_8, nl_1_0, nl_1_2, nl_1_3, nl_1_4, nl_1_5, nl_1_6, nl_1_7, nl_1_8, nl_2_0, nl_2_1, nl_2_3, nl_2_4, nl_2_5, nl_2_6, nl_2_7, nl_2_8, nl_3_0, nl_3_1, nl_3_2, nl_3_4, nl_3_5, nl_3_6, nl_3_7, nl_3_8, nl_4_0, nl_4_1, nl_4_2, nl_4_3, nl_4_5, nl_4_6, nl_4_7, nl_4_8, nl_5_0, nl_5_1, nl_5_2, nl_5_3, nl_5_4, nl_5_6, nl_5_7, nl_5_8, nl_6_0, nl_6_1, nl_6_2, nl_6_3, nl_6_4, nl_6_5, nl_6_7, nl_6_8, nl_7_0, nl_7_1, nl_7_2, nl_7_3, nl_7_4, nl_7_5, nl_7_6, nl_7_8, nl_8_0, nl_8_1, nl_8_2, nl_8_3, nl_8_4, nl_8_5, nl_8_6, nl_8_7, kd_0, rf_0_0, rf_0_1, rf_0_2, rf_0_3, rf_0_4, rf_0_5, rf_0_6, rf_0_7, rf_0_8, is_8_0, kd_1, rf_1_0, rf_1_1, rf_1_2, rf_1_3, rf_1_4, rf_1_5, rf_1_6, is_5_1, kd_3, rf_3_2, fc_3_0, fc_3_1, is_6_3_3, is_3_6_3, kd_5, rf_5_2, fc_5_0, fc_5_1, is_6_3_5, is_3_6_5, kd_17, rf_17_0, rf_17_1, rf_17_2, rf_17_3, rf_17_4, rf_17_5, rf_17_6, is_7_17, sp_used, hc3, sp_isIn, bI_0, bI_n0, q1', q2', r1, hm5]
        · rw [en_X9_post]
          simp only [c20, c2i, c2n, c2r, cs8_0, cs8_1, cs8_2, cs8_3, cs8_4, decide_eq_true_eq, ev_ald0, ev_aldn0, ev_bin, ev_cs3, ev_cv0, ev_cv1, ev_dv, ev_go, ev_gr, ev_i, ev_ia, ev_if0, ev_ild1, ev_ild2, ev_ild3, ev_ist3, ev_ri, ev_sw_0, ev_sw_1, i00, i01, i10, not_false_eq_true, not_true_eq_false, pm_bd_s, pm_tl_n, pm_tl_s, ↓reduceIte, pb_X9_post_0, pb_X9_post_1, pb_X9_post_2, pb_X9_post_3, pb_X9_post_4, pb_X9_post_5, pb_X9_post_6, pb_X9_post_7, pb_X9_post_8, nl_0_1, nl_0_2, nl_0_3, nl_0_4, nl_0_5, nl_0_6, nl_0_7, nl_0_8, nl_1_0, nl_1_2, nl_1_3, nl_1_4, nl_1_5, nl_1_6, nl_1_7, nl_1_8, nl_2_0, nl_2_1, nl_2_3, nl_2_4, nl_2_5, nl_2_6, nl_2_7, nl_2_8, nl_3_0, nl_3_1, nl_3_2, nl_3_4, nl_3_5, nl_3_6, nl_3_7, nl_3_8, nl_4_0, nl_4_1, nl_4_2, nl_4_3, nl_4_5, nl_4_6, nl_4_7, nl_4_8, nl_5_0, nl_5_1, nl_5_2, nl_5_3, nl_5_4, nl_5_6, nl_5_7, nl_5_8, nl_6_0, nl_6_1, nl_6_2, nl_6_3, nl_6_4, nl_6_5, nl_6_7, nl_6_8, nl_7_0, nl_7_1, nl_7_2, nl_7_3, nl_7_4, nl_7_5, nl_7_6, nl_7_8, nl_8_0, nl_8_1, nl_8_2, nl_8_3, nl_8_4, nl_8_5, nl_8_6, nl_8_7, kd_59, rf_59_0, rf_59_1, rf_59_3, rf_59_4, rf_59_5, rf_59_6, rf_59_7, rf_59_12, rf_59_14, rf_59_15, rf_59_16, rf_59_19, rf_59_23, rf_59_24, rf_59_25, rf_59_26, is_9_59, kd_60, al_60, ix0, cl0, hn1, sr_isIn, bI_0, bI_n0, q1', q2', r2, r3, sr_treesAt ht3 ht]
    · refine Pr_e (e := 1) (x := -1000000001) hI (by omega) (by omega) ?_ ?_
      · rw [en_X8_post]
        simp only [cs8_0, cs8_1, cs8_2, cs8_3, cs8_4, decide_eq_true_eq, ev_ald0, ev_aldn0, ev_bin, ev_cs3, ev_cv0, ev_cv1, ev_cv2, ev_go, ev_gr, ev_i, ev_if0, ev_ild1, ev_ild2, ev_ri, ev_sw_0, ev_sw_1, i00, i01, i10, is_sw, not_false_eq_true, not_true_eq_false, pm_bd_s, pm_tl_n, pm_tl_s, ↓reduceIte, pb_X8_post_0, pb_X8_post_1, pb_X8_post_2, pb_X8_post_3, pb_X8_post_4, pb_X8_post_5, pb_X8_post_6, pb_X8_post_7, pb_X8_post_8, kd_0, rf_0_0, rf_0_1, rf_0_2, rf_0_3, rf_0_4, rf_0_5, rf_0_6, rf_0_7, rf_0_8, is_8_0, kd_1, rf_1_0, rf_1_1, rf_1_2, rf_1_3, rf_1_4, rf_1_5, rf_1_6, is_5_1, kd_3, rf_3_2, fc_3_0, fc_3_1, is_6_3_3, is_3_6_3, sp_used, hc3, sp_isIn, bI_0, bI_n0, eq_true q1, eq_false q2, fail_1, F1]
      · have hn1 : (pm_si h 28 1 (h.1 28 1 + 1)).1 60 0 = nI n := hn0
        rw [en_X9_post]
        simp only [c20, c2i, c2n, c2r, cs8_0, cs8_1, cs8_2, cs8_3, cs8_4, decide_eq_true_eq, ev_ald0, ev_aldn0, ev_bin, ev_cs3, ev_cv0, ev_cv1, ev_dv, ev_go, ev_gr, ev_i, ev_ia, ev_if0, ev_ild1, ev_ild2, ev_ild3, ev_ist3, ev_ri, ev_sw_0, ev_sw_1, i00, i01, i10, not_false_eq_true, not_true_eq_false, pm_bd_s, pm_tl_n, pm_tl_s, ↓reduceIte, pb_X9_post_0, pb_X9_post_1, pb_X9_post_2, pb_X9_post_3, pb_X9_post_4, pb_X9_post_5, pb_X9_post_6, pb_X9_post_7, pb_X9_post_8, kd_59, rf_59_0, rf_59_1, rf_59_3, rf_59_4, rf_59_5, rf_59_6, rf_59_7, rf_59_12, rf_59_14, rf_59_15, rf_59_16, rf_59_19, rf_59_23, rf_59_24, rf_59_25, rf_59_26, is_9_59, kd_60, al_60, ix0, cl0, hn1, sr_isIn, bI_0, bI_n0, eq_true q1, eq_false q2, find_1]
  · refine Pr_e (e := 1) (x := -1000000001) hI (by omega) (by omega) ?_ ?_
    · rw [en_X8_post]
      simp only [cs8_0, cs8_1, cs8_2, cs8_3, cs8_4, decide_eq_true_eq, ev_ald0, ev_aldn0, ev_bin, ev_cs3, ev_cv0, ev_cv1, ev_cv2, ev_go, ev_gr, ev_i, ev_if0, ev_ild1, ev_ild2, ev_ri, ev_sw_0, ev_sw_1, i00, i01, i10, is_sw, not_false_eq_true, not_true_eq_false, pm_bd_s, pm_tl_n, pm_tl_s, ↓reduceIte, pb_X8_post_0, pb_X8_post_1, pb_X8_post_2, pb_X8_post_3, pb_X8_post_4, pb_X8_post_5, pb_X8_post_6, pb_X8_post_7, pb_X8_post_8, kd_0, rf_0_0, rf_0_1, rf_0_2, rf_0_3, rf_0_4, rf_0_5, rf_0_6, rf_0_7, rf_0_8, is_8_0, kd_1, rf_1_0, rf_1_1, rf_1_2, rf_1_3, rf_1_4, rf_1_5, rf_1_6, is_5_1, kd_3, rf_3_2, fc_3_0, fc_3_1, is_6_3_3, is_3_6_3, sp_used, hc3, sp_isIn, bI_0, bI_n0, eq_false q1, fail_1, F1]
    · have hn1 : (pm_si h 28 1 (h.1 28 1 + 1)).1 60 0 = nI n := hn0
      rw [en_X9_post]
      simp only [c20, c2i, c2n, c2r, cs8_0, cs8_1, cs8_2, cs8_3, cs8_4, decide_eq_true_eq, ev_ald0, ev_aldn0, ev_bin, ev_cs3, ev_cv0, ev_cv1, ev_dv, ev_go, ev_gr, ev_i, ev_ia, ev_if0, ev_ild1, ev_ild2, ev_ild3, ev_ist3, ev_ri, ev_sw_0, ev_sw_1, i00, i01, i10, not_false_eq_true, not_true_eq_false, pm_bd_s, pm_tl_n, pm_tl_s, ↓reduceIte, pb_X9_post_0, pb_X9_post_1, pb_X9_post_2, pb_X9_post_3, pb_X9_post_4, pb_X9_post_5, pb_X9_post_6, pb_X9_post_7, pb_X9_post_8, kd_59, rf_59_0, rf_59_1, rf_59_3, rf_59_4, rf_59_5, rf_59_6, rf_59_7, rf_59_12, rf_59_14, rf_59_15, rf_59_16, rf_59_19, rf_59_23, rf_59_24, rf_59_25, rf_59_26, is_9_59, kd_60, al_60, ix0, cl0, hn1, sr_isIn, bI_0, bI_n0, eq_false q1, find_1]
end PA
