/-! PAIRS OF CALLS: mileIs, post -/
section P9
variable {fb : Bool} {d : Nat} {h : pm_HP}
theorem Inv_gm {h1 : pm_HP} {n u : Nat} (hI : Inv h) (g : Gm h h1 n u) : Inv h1 := by
  have f := Gm_f g
  have w := Gm_w g
  refine Inv_frm hI f (by decide) ⟨(w.2.2.2 0 (by omega)).1, (w.2.2.2 0 (by omega)).2, ?_, ?_⟩
  · rw [f.1 63 (by decide)]; exact hI.2.2.2.2.2.2.2.1
  · rw [f.1 64 (by decide)]; exact hI.2.2.2.2.2.2.2.2
theorem Inv_gs {h1 h2 : pm_HP} {n u : Nat} (hI : Inv h1) (g : Gs h h1 h2 n u) : Inv h2 := by
  have w := Gs_w g
  obtain ⟨g0, x, y⟩ := g
  have f : frm [63, 64, 65, 68, 69] h1 h2 := (x.1.sub (by decide)).tr (y.sub (by decide))
  refine Inv_frm hI f (by decide) ⟨?_, ?_, (w 0 (by omega)).1, (w 0 (by omega)).2⟩
  · rw [f.1 52 (by decide)]; exact hI.2.2.2.2.2.1
  · rw [f.1 53 (by decide)]; exact hI.2.2.2.2.2.2.1
/-- the reference's line gone behind the class's -/
theorem go_s {h1 : pm_HP} {n u nt nb nw : Nat} (hI : Inv h) (iN : RN h 3 60 n u nt nb nw) (g : Gm h h1 n u) : ∃ h2, rs fb (d + 99) n_X9_goes [.ref 59] h1 = some (none, h2) ∧ Gr h h1 h2 n u := by
  have f := Gm_f g
  exact go_r hI iN (f.1 60 (by decide)) (by rw [f.1 63 (by decide)]; exact hI.2.2.2.2.2.2.2.1) (by rw [f.1 64 (by decide)]; exact hI.2.2.2.2.2.2.2.2)
theorem has_3 {u : Nat} {v : Int32} (hu : h.1 3 3 = nI u) (hu2 : u ≤ 60) : rs fb (d + 2) n_X6_has [.ref 3, .int v] h = some (some (.int (bI (0 ≤ v ∧ v < nI u))), h) := sp_has (by decide) hu hu2
theorem pr_mileIs (hI : Inv h) (x y : Int32) : Pr fb (d + 100) n_X8_mileIs n_X9_mileIs [.int x, .int y] h := by
  obtain ⟨⟨n, u, nt, nb, nw, iN⟩, iZ, iM, iS, iT, iB, iW, iX, iY⟩ := id hI.1
  obtain ⟨k, hk6, hk, hk2, hp, hz⟩ := iY
  have hn := iN.1.2.2.2
  have hc3 := iN.1.1
  have hn0 := iN.1.2.1
  by_cases q1 : 0 ≤ x ∧ x < nI n
  · by_cases q2 : 0 ≤ y ∧ y ≤ 8
    · obtain ⟨i, hi, rfl⟩ := i_lt (by omega) q1
      obtain ⟨c, hc, rfl⟩ := nI_of2 (M := 8) (n := 8) (by decide) (Int32.not_lt.mpr q2.1) q2.2
      have hi24 : i < 24 := by omega
      have q1' := eq_true q1
      have q2' := eq_true q2
      by_cases c4 : c ≤ 4
      · have e1 : ¬ (4 : Int32) < nI c := by
          show ¬ nI 4 < nI c
          rw [nI_ltI (by omega) (by omega)]; omega
        obtain ⟨h2, r2, g2⟩ := go_r (fb := fb) (d := d) (h1 := h) hI iN rfl hI.2.2.2.2.2.2.2.1 hI.2.2.2.2.2.2.2.2
        have er : rm h2 c i = rm h c i := by unfold rm; rw [g2.1.1 60 (by decide)]
        refine ⟨rm h c i, h, h2, ?_, ?_, Inv_gr hI g2⟩
        · rw [en_X8_mileIs]
          simp only [cs8_0, cs8_1, cs8_2, cs8_3, cs8_4, decide_eq_true_eq, ev_ald0, ev_aldn0, ev_cs3, ev_cv1, ev_cv2, ev_go, ev_gr, ev_i, ev_if0, ev_if2, ev_ild1, ev_ild2, ev_ri, ev_sw_0, ev_sw_1, i00, i01, i10, is_sw, not_false_eq_true, not_true_eq_false, pm_bd_s, pm_tl_n, pm_tl_s, ↓reduceIte, pb_X8_mileIs_0, pb_X8_mileIs_1, pb_X8_mileIs_2, pb_X8_mileIs_3, pb_X8_mileIs_4, pb_X8_mileIs_5, pb_X8_mileIs_6, pb_X8_mileIs_7, kd_0, rf_0_0, rf_0_1, rf_0_2, rf_0_3, rf_0_4, rf_0_5, rf_0_6, rf_0_7, rf_0_8, is_8_0, kd_1, rf_1_0, rf_1_1, rf_1_2, rf_1_3, rf_1_4, rf_1_5, rf_1_6, is_5_1, kd_3, rf_3_2, fc_3_0, fc_3_1, is_6_3_3, is_3_6_3, has_3 hc3 (show n ≤ 60 by omega), sp_isIn, bI_0, bI_n0, q1', q2', e1, at_3 (show c < 5 by omega) hi24, eq_mi iM hi24 (show c < 5 by omega)]
        · have n5 : (nI c = 5) = False ∧ (nI c = 6) = False ∧ (nI c = 7) = False ∧ (nI c = 8) = False := by
            rcases (show c = 0 ∨ c = 1 ∨ c = 2 ∨ c = 3 ∨ c = 4 by omega) with rfl | rfl | rfl | rfl | rfl <;> decide
          rw [en_X9_mileIs]
          simp only [cs8_0, cs8_1, cs8_2, cs8_3, cs8_4, decide_eq_true_eq, ev_ald0, ev_aldn0, ev_cs3, ev_cv0, ev_cv1, ev_cv2, ev_go, ev_gr, ev_i, ev_ia, ev_if0, ev_ild1, ev_ild2, ev_ri, ev_sw_0, ev_sw_1, i00, i01, i10, not_false_eq_true, not_true_eq_false, pm_bd_s, pm_tl_n, pm_tl_s, ↓reduceIte, pb_X9_mileIs_0, pb_X9_mileIs_1, pb_X9_mileIs_2, pb_X9_mileIs_3, pb_X9_mileIs_4, pb_X9_mileIs_5, pb_X9_mileIs_6, pb_X9_mileIs_7, kd_59, rf_59_0, rf_59_1, rf_59_3, rf_59_4, rf_59_5, rf_59_6, rf_59_7, rf_59_12, rf_59_14, rf_59_15, rf_59_16, rf_59_19, rf_59_23, rf_59_24, rf_59_25, rf_59_26, is_9_59, sr_is0 hn0 (show n ≤ 24 by omega), sr_isIn, bI_0, bI_n0, q1', q2', r2, n5, rm_r (show c < 5 by omega) hi24, er]
      · have e1 : (4 : Int32) < nI c := by
          show nI 4 < nI c
          rw [nI_ltI (by omega) (by omega)]; omega
        obtain ⟨h1, r1, g1⟩ := go_c (fb := fb) (d := d) hI iN
        have gm := Gm_0 g1
        rcases (show c = 5 ∨ c = 6 ∨ c = 7 ∨ c = 8 by omega) with rfl | rfl | rfl | rfl
        · have z : nI 5 = 5 := rfl
          rw [z] at q2' e1 ⊢
          obtain ⟨hc, rc, fc⟩ := hr_c (fb := fb) (d := d + 93) (i := i) iM (Gm_f gm) hk hk6 hz hi24
          have gm' := Gm_t gm fc
          obtain ⟨h2, r2, g2⟩ := go_s (fb := fb) (d := d) hI iN gm'
          obtain ⟨h3, r3, f3⟩ := hr_r (fb := fb) (d := d + 93) (i := i) (h2 := h2) iM (by rw [g2.1.1 60 (by decide), (Gm_f gm').1 60 (by decide)]) hk2 hk6 (fun i hi => (hp i hi).symm) hz hi24
          have hn0c : hc.1 60 0 = nI n := by rw [(Gm_f gm').1 60 (by decide)]; exact hn0
          refine ⟨hrF h k i, hc, h3, ?_, ?_, Inv_gs (Inv_gm hI gm') ⟨h2, g2, f3⟩⟩
          · rw [en_X8_mileIs]
            simp only [cs8_0, cs8_1, cs8_2, cs8_3, cs8_4, decide_eq_true_eq, ev_ald0, ev_aldn0, ev_cs3, ev_cv1, ev_cv2, ev_go, ev_gr, ev_i, ev_if0, ev_if2, ev_ild1, ev_ild2, ev_ri, ev_sw_0, ev_sw_1, i00, i01, i10, is_sw, not_false_eq_true, not_true_eq_false, pm_bd_s, pm_tl_n, pm_tl_s, ↓reduceIte, pb_X8_mileIs_0, pb_X8_mileIs_1, pb_X8_mileIs_2, pb_X8_mileIs_3, pb_X8_mileIs_4, pb_X8_mileIs_5, pb_X8_mileIs_6, pb_X8_mileIs_7, nl_0_1, nl_0_2, nl_0_3, nl_0_4, nl_0_5, nl_0_6, nl_0_7, nl_0_8, nl_1_0, nl_1_2, nl_1_3, nl_1_4, nl_1_5, nl_1_6, nl_1_7, nl_1_8, nl_2_0, nl_2_1, nl_2_3, nl_2_4, nl_2_5, nl_2_6, nl_2_7, nl_2_8, nl_3_0, nl_3_1, nl_3_2, nl_3_4, nl_3_5, nl_3_6, nl_3_7, nl_3_8, nl_4_0, nl_4_1, nl_4_2, nl_4_3, nl_4_5, nl_4_6, nl_4_7, nl_4_8, nl_5_0, nl_5_1, nl_5_2, nl_5_3, nl_5_4, nl_5_6, nl_5_7, nl_5_8, nl_6_0, nl_6_1, nl_6_2, nl_6_3, nl_6_4, nl_6_5, nl_6_7, nl_6_8, nl_7_0, nl_7_1, nl_7_2, nl_7_3, nl_7_4, nl_7_5, nl_7_6, nl_7_8, nl_8_0, nl_8_1, nl_8_2, nl_8_3, nl_8_4, nl_8_5, nl_8_6, nl_8_7, kd_0, rf_0_0, rf_0_1, rf_0_2, rf_0_3, rf_0_4, rf_0_5, rf_0_6, rf_0_7, rf_0_8, is_8_0, kd_1, rf_1_0, rf_1_1, rf_1_2, rf_1_3, rf_1_4, rf_1_5, rf_1_6, is_5_1, kd_3, rf_3_2, fc_3_0, fc_3_1, is_6_3_3, is_3_6_3, kd_17, rf_17_0, rf_17_1, rf_17_2, rf_17_3, rf_17_4, rf_17_5, rf_17_6, is_7_17, has_3 hc3 (show n ≤ 60 by omega), sp_isIn, bI_0, bI_n0, q1', q2', e1, r1, rc]
          · rw [en_X9_mileIs]
            simp only [cs8_0, cs8_1, cs8_2, cs8_3, cs8_4, decide_eq_true_eq, ev_ald0, ev_aldn0, ev_cs3, ev_cv0, ev_cv1, ev_cv2, ev_go, ev_gr, ev_i, ev_ia, ev_if0, ev_ild1, ev_ild2, ev_ri, ev_sw_0, ev_sw_1, i00, i01, i10, not_false_eq_true, not_true_eq_false, pm_bd_s, pm_tl_n, pm_tl_s, ↓reduceIte, pb_X9_mileIs_0, pb_X9_mileIs_1, pb_X9_mileIs_2, pb_X9_mileIs_3, pb_X9_mileIs_4, pb_X9_mileIs_5, pb_X9_mileIs_6, pb_X9_mileIs_7, nl_0_1, nl_0_2, nl_0_3, nl_0_4, nl_0_5, nl_0_6, nl_0_7, nl_0_8, nl_1_0, nl_1_2, nl_1_3, nl_1_4, nl_1_5, nl_1_6, nl_1_7, nl_1_8, nl_2_0, nl_2_1, nl_2_3, nl_2_4, nl_2_5, nl_2_6, nl_2_7, nl_2_8, nl_3_0, nl_3_1, nl_3_2, nl_3_4, nl_3_5, nl_3_6, nl_3_7, nl_3_8, nl_4_0, nl_4_1, nl_4_2, nl_4_3, nl_4_5, nl_4_6, nl_4_7, nl_4_8, nl_5_0, nl_5_1, nl_5_2, nl_5_3, nl_5_4, nl_5_6, nl_5_7, nl_5_8, nl_6_0, nl_6_1, nl_6_2, nl_6_3, nl_6_4, nl_6_5, nl_6_7, nl_6_8, nl_7_0, nl_7_1, nl_7_2, nl_7_3, nl_7_4, nl_7_5, nl_7_6, nl_7_8, nl_8_0, nl_8_1, nl_8_2, nl_8_3, nl_8_4, nl_8_5, nl_8_6, nl_8_7, kd_59, rf_59_0, rf_59_1, rf_59_3, rf_59_4, rf_59_5, rf_59_6, rf_59_7, rf_59_12, rf_59_14, rf_59_15, rf_59_16, rf_59_19, rf_59_23, rf_59_24, rf_59_25, rf_59_26, is_9_59, sr_is0 hn0c (show n ≤ 24 by omega), sr_isIn, bI_0, bI_n0, q1', q2', r2, r3]
        all_goals
          obtain ⟨h2, r2, g2⟩ := go_s (fb := fb) (d := d) hI iN gm
          have hn01 : h1.1 60 0 = nI n := by rw [g1.1.1 60 (by decide)]; exact hn0
          have e60 : h2.1 60 = h.1 60 := Gr_60 g1 g2
          have er : rm h2 = rm h := by funext c i; unfold rm; rw [e60]
          have el : rl h2 = rl h := by funext c i; unfold rl; rw [e60]
          have ep : rPu h2 u i = rPu h u i := by unfold rPu; rw [el, er]
          have es : rSh h2 u i = rSh h u i := by unfold rSh; rw [el, er]
          have hu2 : h2.1 60 1 = nI u := by rw [e60]; exact iN.2.1.2.1
          have hft : ∀ s, s < 8 → rl h2 1 s ≤ rl h2 2 s := fun s hs => by rw [el]; exact (iS s hs).2.2.2.1
        · have z : nI 6 = 6 := rfl
          rw [z] at q2' e1 ⊢
          refine ⟨TNf h u (i + 1), h1, h2, ?_, ?_, Inv_gr (Inv_gn hI g1) g2⟩
          · rw [en_X8_mileIs]
            simp only [cs8_0, cs8_1, cs8_2, cs8_3, cs8_4, decide_eq_true_eq, ev_ald0, ev_aldn0, ev_cs3, ev_cv1, ev_cv2, ev_go, ev_gr, ev_i, ev_if0, ev_if2, ev_ild1, ev_ild2, ev_ri, ev_sw_0, ev_sw_1, i00, i01, i10, is_sw, not_false_eq_true, not_true_eq_false, pm_bd_s, pm_tl_n, pm_tl_s, ↓reduceIte, pb_X8_mileIs_0, pb_X8_mileIs_1, pb_X8_mileIs_2, pb_X8_mileIs_3, pb_X8_mileIs_4, pb_X8_mileIs_5, pb_X8_mileIs_6, pb_X8_mileIs_7, nl_0_1, nl_0_2, nl_0_3, nl_0_4, nl_0_5, nl_0_6, nl_0_7, nl_0_8, nl_1_0, nl_1_2, nl_1_3, nl_1_4, nl_1_5, nl_1_6, nl_1_7, nl_1_8, nl_2_0, nl_2_1, nl_2_3, nl_2_4, nl_2_5, nl_2_6, nl_2_7, nl_2_8, nl_3_0, nl_3_1, nl_3_2, nl_3_4, nl_3_5, nl_3_6, nl_3_7, nl_3_8, nl_4_0, nl_4_1, nl_4_2, nl_4_3, nl_4_5, nl_4_6, nl_4_7, nl_4_8, nl_5_0, nl_5_1, nl_5_2, nl_5_3, nl_5_4, nl_5_6, nl_5_7, nl_5_8, nl_6_0, nl_6_1, nl_6_2, nl_6_3, nl_6_4, nl_6_5, nl_6_7, nl_6_8, nl_7_0, nl_7_1, nl_7_2, nl_7_3, nl_7_4, nl_7_5, nl_7_6, nl_7_8, nl_8_0, nl_8_1, nl_8_2, nl_8_3, nl_8_4, nl_8_5, nl_8_6, nl_8_7, kd_0, rf_0_0, rf_0_1, rf_0_2, rf_0_3, rf_0_4, rf_0_5, rf_0_6, rf_0_7, rf_0_8, is_8_0, kd_1, rf_1_0, rf_1_1, rf_1_2, rf_1_3, rf_1_4, rf_1_5, rf_1_6, is_5_1, kd_3, rf_3_2, fc_3_0, fc_3_1, is_6_3_3, is_3_6_3, kd_17, rf_17_0, rf_17_1, rf_17_2, rf_17_3, rf_17_4, rf_17_5, rf_17_6, is_7_17, has_3 hc3 (show n ≤ 60 by omega), sp_isIn, bI_0, bI_n0, q1', q2', e1, r1, sp_headingIn g1.2.1 hn hi, (g1.2.2.2.2.2 i hi).1]
          · rw [en_X9_mileIs]
            simp only [cs8_0, cs8_1, cs8_2, cs8_3, cs8_4, decide_eq_true_eq, ev_ald0, ev_aldn0, ev_cs3, ev_cv0, ev_cv1, ev_cv2, ev_go, ev_gr, ev_i, ev_ia, ev_if0, ev_ild1, ev_ild2, ev_ri, ev_sw_0, ev_sw_1, i00, i01, i10, not_false_eq_true, not_true_eq_false, pm_bd_s, pm_tl_n, pm_tl_s, ↓reduceIte, pb_X9_mileIs_0, pb_X9_mileIs_1, pb_X9_mileIs_2, pb_X9_mileIs_3, pb_X9_mileIs_4, pb_X9_mileIs_5, pb_X9_mileIs_6, pb_X9_mileIs_7, nl_0_1, nl_0_2, nl_0_3, nl_0_4, nl_0_5, nl_0_6, nl_0_7, nl_0_8, nl_1_0, nl_1_2, nl_1_3, nl_1_4, nl_1_5, nl_1_6, nl_1_7, nl_1_8, nl_2_0, nl_2_1, nl_2_3, nl_2_4, nl_2_5, nl_2_6, nl_2_7, nl_2_8, nl_3_0, nl_3_1, nl_3_2, nl_3_4, nl_3_5, nl_3_6, nl_3_7, nl_3_8, nl_4_0, nl_4_1, nl_4_2, nl_4_3, nl_4_5, nl_4_6, nl_4_7, nl_4_8, nl_5_0, nl_5_1, nl_5_2, nl_5_3, nl_5_4, nl_5_6, nl_5_7, nl_5_8, nl_6_0, nl_6_1, nl_6_2, nl_6_3, nl_6_4, nl_6_5, nl_6_7, nl_6_8, nl_7_0, nl_7_1, nl_7_2, nl_7_3, nl_7_4, nl_7_5, nl_7_6, nl_7_8, nl_8_0, nl_8_1, nl_8_2, nl_8_3, nl_8_4, nl_8_5, nl_8_6, nl_8_7, kd_59, rf_59_0, rf_59_1, rf_59_3, rf_59_4, rf_59_5, rf_59_6, rf_59_7, rf_59_12, rf_59_14, rf_59_15, rf_59_16, rf_59_19, rf_59_23, rf_59_24, rf_59_25, rf_59_26, is_9_59, kd_65, al_65, sr_is0 hn01 (show n ≤ 24 by omega), sr_isIn, bI_0, bI_n0, q1', q2', r2, pm_ix_n (show i < 24 by omega) (show 24 < 2 ^ 31 by omega), nI_clamp (show i < 2 ^ 31 by omega), g2.2.2 i hi]
        · have z : nI 7 = 7 := rfl
          rw [z] at q2' e1 ⊢
          refine ⟨rPu h u i, h1, h2, ?_, ?_, Inv_gr (Inv_gn hI g1) g2⟩
          · rw [en_X8_mileIs]
            simp only [cs8_0, cs8_1, cs8_2, cs8_3, cs8_4, decide_eq_true_eq, ev_ald0, ev_aldn0, ev_cs3, ev_cv1, ev_cv2, ev_go, ev_gr, ev_i, ev_if0, ev_if2, ev_ild1, ev_ild2, ev_ri, ev_sw_0, ev_sw_1, i00, i01, i10, is_sw, not_false_eq_true, not_true_eq_false, pm_bd_s, pm_tl_n, pm_tl_s, ↓reduceIte, pb_X8_mileIs_0, pb_X8_mileIs_1, pb_X8_mileIs_2, pb_X8_mileIs_3, pb_X8_mileIs_4, pb_X8_mileIs_5, pb_X8_mileIs_6, pb_X8_mileIs_7, nl_0_1, nl_0_2, nl_0_3, nl_0_4, nl_0_5, nl_0_6, nl_0_7, nl_0_8, nl_1_0, nl_1_2, nl_1_3, nl_1_4, nl_1_5, nl_1_6, nl_1_7, nl_1_8, nl_2_0, nl_2_1, nl_2_3, nl_2_4, nl_2_5, nl_2_6, nl_2_7, nl_2_8, nl_3_0, nl_3_1, nl_3_2, nl_3_4, nl_3_5, nl_3_6, nl_3_7, nl_3_8, nl_4_0, nl_4_1, nl_4_2, nl_4_3, nl_4_5, nl_4_6, nl_4_7, nl_4_8, nl_5_0, nl_5_1, nl_5_2, nl_5_3, nl_5_4, nl_5_6, nl_5_7, nl_5_8, nl_6_0, nl_6_1, nl_6_2, nl_6_3, nl_6_4, nl_6_5, nl_6_7, nl_6_8, nl_7_0, nl_7_1, nl_7_2, nl_7_3, nl_7_4, nl_7_5, nl_7_6, nl_7_8, nl_8_0, nl_8_1, nl_8_2, nl_8_3, nl_8_4, nl_8_5, nl_8_6, nl_8_7, kd_0, rf_0_0, rf_0_1, rf_0_2, rf_0_3, rf_0_4, rf_0_5, rf_0_6, rf_0_7, rf_0_8, is_8_0, kd_1, rf_1_0, rf_1_1, rf_1_2, rf_1_3, rf_1_4, rf_1_5, rf_1_6, is_5_1, kd_3, rf_3_2, fc_3_0, fc_3_1, is_6_3_3, is_3_6_3, kd_17, rf_17_0, rf_17_1, rf_17_2, rf_17_3, rf_17_4, rf_17_5, rf_17_6, is_7_17, has_3 hc3 (show n ≤ 60 by omega), sp_isIn, bI_0, bI_n0, q1', q2', e1, r1, sp_pushesIn g1.2.1 hn hi, (g1.2.2.2.2.2 i hi).2.2.1]
          · rw [en_X9_mileIs]
            simp only [cs8_0, cs8_1, cs8_2, cs8_3, cs8_4, decide_eq_true_eq, ev_ald0, ev_aldn0, ev_cs3, ev_cv0, ev_cv1, ev_cv2, ev_go, ev_gr, ev_i, ev_ia, ev_if0, ev_ild1, ev_ild2, ev_ri, ev_sw_0, ev_sw_1, i00, i01, i10, not_false_eq_true, not_true_eq_false, pm_bd_s, pm_tl_n, pm_tl_s, ↓reduceIte, pb_X9_mileIs_0, pb_X9_mileIs_1, pb_X9_mileIs_2, pb_X9_mileIs_3, pb_X9_mileIs_4, pb_X9_mileIs_5, pb_X9_mileIs_6, pb_X9_mileIs_7, nl_0_1, nl_0_2, nl_0_3, nl_0_4, nl_0_5, nl_0_6, nl_0_7, nl_0_8, nl_1_0, nl_1_2, nl_1_3, nl_1_4, nl_1_5, nl_1_6, nl_1_7, nl_1_8, nl_2_0, nl_2_1, nl_2_3, nl_2_4, nl_2_5, nl_2_6, nl_2_7, nl_2_8, nl_3_0, nl_3_1, nl_3_2, nl_3_4, nl_3_5, nl_3_6, nl_3_7, nl_3_8, nl_4_0, nl_4_1, nl_4_2, nl_4_3, nl_4_5, nl_4_6, nl_4_7, nl_4_8, nl_5_0, nl_5_1, nl_5_2, nl_5_3, nl_5_4, nl_5_6, nl_5_7, nl_5_8, nl_6_0, nl_6_1, nl_6_2, nl_6_3, nl_6_4, nl_6_5, nl_6_7, nl_6_8, nl_7_0, nl_7_1, nl_7_2, nl_7_3, nl_7_4, nl_7_5, nl_7_6, nl_7_8, nl_8_0, nl_8_1, nl_8_2, nl_8_3, nl_8_4, nl_8_5, nl_8_6, nl_8_7, kd_59, rf_59_0, rf_59_1, rf_59_3, rf_59_4, rf_59_5, rf_59_6, rf_59_7, rf_59_12, rf_59_14, rf_59_15, rf_59_16, rf_59_19, rf_59_23, rf_59_24, rf_59_25, rf_59_26, is_9_59, sr_is0 hn01 (show n ≤ 24 by omega), sr_isIn, bI_0, bI_n0, q1', q2', r2, sr_all1 hi24 hu2 iN.2.1.2.2 hft, ep]
        · have z : nI 8 = 8 := rfl
          rw [z] at q2' e1 ⊢
          refine ⟨rSh h u i, h1, h2, ?_, ?_, Inv_gr (Inv_gn hI g1) g2⟩
          · rw [en_X8_mileIs]
            simp only [cs8_0, cs8_1, cs8_2, cs8_3, cs8_4, decide_eq_true_eq, ev_ald0, ev_aldn0, ev_cs3, ev_cv1, ev_cv2, ev_go, ev_gr, ev_i, ev_if0, ev_if2, ev_ild1, ev_ild2, ev_ri, ev_sw_0, ev_sw_1, i00, i01, i10, is_sw, not_false_eq_true, not_true_eq_false, pm_bd_s, pm_tl_n, pm_tl_s, ↓reduceIte, pb_X8_mileIs_0, pb_X8_mileIs_1, pb_X8_mileIs_2, pb_X8_mileIs_3, pb_X8_mileIs_4, pb_X8_mileIs_5, pb_X8_mileIs_6, pb_X8_mileIs_7, nl_0_1, nl_0_2, nl_0_3, nl_0_4, nl_0_5, nl_0_6, nl_0_7, nl_0_8, nl_1_0, nl_1_2, nl_1_3, nl_1_4, nl_1_5, nl_1_6, nl_1_7, nl_1_8, nl_2_0, nl_2_1, nl_2_3, nl_2_4, nl_2_5, nl_2_6, nl_2_7, nl_2_8, nl_3_0, nl_3_1, nl_3_2, nl_3_4, nl_3_5, nl_3_6, nl_3_7, nl_3_8, nl_4_0, nl_4_1, nl_4_2, nl_4_3, nl_4_5, nl_4_6, nl_4_7, nl_4_8, nl_5_0, nl_5_1, nl_5_2, nl_5_3, nl_5_4, nl_5_6, nl_5_7, nl_5_8, nl_6_0, nl_6_1, nl_6_2, nl_6_3, nl_6_4, nl_6_5, nl_6_7, nl_6_8, nl_7_0, nl_7_1, nl_7_2, nl_7_3, nl_7_4, nl_7_5, nl_7_6, nl_7_8, nl_8_0, nl_8_1, nl_8_2, nl_8_3, nl_8_4, nl_8_5, nl_8_6, nl_8_7, kd_0, rf_0_0, rf_0_1, rf_0_2, rf_0_3, rf_0_4, rf_0_5, rf_0_6, rf_0_7, rf_0_8, is_8_0, kd_1, rf_1_0, rf_1_1, rf_1_2, rf_1_3, rf_1_4, rf_1_5, rf_1_6, is_5_1, kd_3, rf_3_2, fc_3_0, fc_3_1, is_6_3_3, is_3_6_3, kd_17, rf_17_0, rf_17_1, rf_17_2, rf_17_3, rf_17_4, rf_17_5, rf_17_6, is_7_17, has_3 hc3 (show n ≤ 60 by omega), sp_isIn, bI_0, bI_n0, q1', q2', e1, r1, sp_shortensIn g1.2.1 hn hi, (g1.2.2.2.2.2 i hi).2.2.2.1]
          · rw [en_X9_mileIs]
            simp only [cs8_0, cs8_1, cs8_2, cs8_3, cs8_4, decide_eq_true_eq, ev_ald0, ev_aldn0, ev_cs3, ev_cv0, ev_cv1, ev_cv2, ev_go, ev_gr, ev_i, ev_ia, ev_if0, ev_ild1, ev_ild2, ev_ri, ev_sw_0, ev_sw_1, i00, i01, i10, not_false_eq_true, not_true_eq_false, pm_bd_s, pm_tl_n, pm_tl_s, ↓reduceIte, pb_X9_mileIs_0, pb_X9_mileIs_1, pb_X9_mileIs_2, pb_X9_mileIs_3, pb_X9_mileIs_4, pb_X9_mileIs_5, pb_X9_mileIs_6, pb_X9_mileIs_7, nl_0_1, nl_0_2, nl_0_3, nl_0_4, nl_0_5, nl_0_6, nl_0_7, nl_0_8, nl_1_0, nl_1_2, nl_1_3, nl_1_4, nl_1_5, nl_1_6, nl_1_7, nl_1_8, nl_2_0, nl_2_1, nl_2_3, nl_2_4, nl_2_5, nl_2_6, nl_2_7, nl_2_8, nl_3_0, nl_3_1, nl_3_2, nl_3_4, nl_3_5, nl_3_6, nl_3_7, nl_3_8, nl_4_0, nl_4_1, nl_4_2, nl_4_3, nl_4_5, nl_4_6, nl_4_7, nl_4_8, nl_5_0, nl_5_1, nl_5_2, nl_5_3, nl_5_4, nl_5_6, nl_5_7, nl_5_8, nl_6_0, nl_6_1, nl_6_2, nl_6_3, nl_6_4, nl_6_5, nl_6_7, nl_6_8, nl_7_0, nl_7_1, nl_7_2, nl_7_3, nl_7_4, nl_7_5, nl_7_6, nl_7_8, nl_8_0, nl_8_1, nl_8_2, nl_8_3, nl_8_4, nl_8_5, nl_8_6, nl_8_7, kd_59, rf_59_0, rf_59_1, rf_59_3, rf_59_4, rf_59_5, rf_59_6, rf_59_7, rf_59_12, rf_59_14, rf_59_15, rf_59_16, rf_59_19, rf_59_23, rf_59_24, rf_59_25, rf_59_26, is_9_59, sr_is0 hn01 (show n ≤ 24 by omega), sr_isIn, bI_0, bI_n0, q1', q2', r2, sr_all2 hi24 hu2 iN.2.1.2.2 hft, es]
    · refine Pr_e (e := 1) (x := -1000000001) hI (by omega) (by omega) ?_ ?_
      · rw [en_X8_mileIs]
        simp only [cs8_0, cs8_1, cs8_2, cs8_3, cs8_4, decide_eq_true_eq, ev_ald0, ev_aldn0, ev_cs3, ev_cv1, ev_cv2, ev_go, ev_gr, ev_i, ev_if0, ev_if2, ev_ild1, ev_ild2, ev_ri, ev_sw_0, ev_sw_1, i00, i01, i10, is_sw, not_false_eq_true, not_true_eq_false, pm_bd_s, pm_tl_n, pm_tl_s, ↓reduceIte, pb_X8_mileIs_0, pb_X8_mileIs_1, pb_X8_mileIs_2, pb_X8_mileIs_3, pb_X8_mileIs_4, pb_X8_mileIs_5, pb_X8_mileIs_6, pb_X8_mileIs_7, kd_0, rf_0_0, rf_0_1, rf_0_2, rf_0_3, rf_0_4, rf_0_5, rf_0_6, rf_0_7, rf_0_8, is_8_0, kd_1, rf_1_0, rf_1_1, rf_1_2, rf_1_3, rf_1_4, rf_1_5, rf_1_6, is_5_1, kd_3, rf_3_2, fc_3_0, fc_3_1, is_6_3_3, is_3_6_3, has_3 hc3 (show n ≤ 60 by omega), sp_isIn, bI_0, bI_n0, eq_true q1, eq_false q2, fail_1, F1]
      · rw [en_X9_mileIs]
        simp only [cs8_0, cs8_1, cs8_2, cs8_3, cs8_4, decide_eq_true_eq, ev_ald0, ev_aldn0, ev_cs3, ev_cv0, ev_cv1, ev_cv2, ev_go, ev_gr, ev_i, ev_ia, ev_if0, ev_ild1, ev_ild2, ev_ri, ev_sw_0, ev_sw_1, i00, i01, i10, not_false_eq_true, not_true_eq_false, pm_bd_s, pm_tl_n, pm_tl_s, ↓reduceIte, pb_X9_mileIs_0, pb_X9_mileIs_1, pb_X9_mileIs_2, pb_X9_mileIs_3, pb_X9_mileIs_4, pb_X9_mileIs_5, pb_X9_mileIs_6, pb_X9_mileIs_7, kd_59, rf_59_0, rf_59_1, rf_59_3, rf_59_4, rf_59_5, rf_59_6, rf_59_7, rf_59_12, rf_59_14, rf_59_15, rf_59_16, rf_59_19, rf_59_23, rf_59_24, rf_59_25, rf_59_26, is_9_59, sr_is0 (((si_ne (a := 28) (k := 1) (b := 60) (j := 0) h (h.1 28 1 + 1) (by omega)).trans (hn0))) (show n ≤ 24 by omega), sr_isIn, bI_0, bI_n0, eq_true q1, eq_false q2, find_1]
  · refine Pr_e (e := 1) (x := -1000000001) hI (by omega) (by omega) ?_ ?_
    · rw [en_X8_mileIs]
      simp only [cs8_0, cs8_1, cs8_2, cs8_3, cs8_4, decide_eq_true_eq, ev_ald0, ev_aldn0, ev_cs3, ev_cv1, ev_cv2, ev_go, ev_gr, ev_i, ev_if0, ev_if2, ev_ild1, ev_ild2, ev_ri, ev_sw_0, ev_sw_1, i00, i01, i10, is_sw, not_false_eq_true, not_true_eq_false, pm_bd_s, pm_tl_n, pm_tl_s, ↓reduceIte, pb_X8_mileIs_0, pb_X8_mileIs_1, pb_X8_mileIs_2, pb_X8_mileIs_3, pb_X8_mileIs_4, pb_X8_mileIs_5, pb_X8_mileIs_6, pb_X8_mileIs_7, kd_0, rf_0_0, rf_0_1, rf_0_2, rf_0_3, rf_0_4, rf_0_5, rf_0_6, rf_0_7, rf_0_8, is_8_0, kd_1, rf_1_0, rf_1_1, rf_1_2, rf_1_3, rf_1_4, rf_1_5, rf_1_6, is_5_1, kd_3, rf_3_2, fc_3_0, fc_3_1, is_6_3_3, is_3_6_3, has_3 hc3 (show n ≤ 60 by omega), sp_isIn, bI_0, bI_n0, eq_false q1, fail_1, F1]
    · rw [en_X9_mileIs]
      simp only [cs8_0, cs8_1, cs8_2, cs8_3, cs8_4, decide_eq_true_eq, ev_ald0, ev_aldn0, ev_cs3, ev_cv0, ev_cv1, ev_cv2, ev_go, ev_gr, ev_i, ev_ia, ev_if0, ev_ild1, ev_ild2, ev_ri, ev_sw_0, ev_sw_1, i00, i01, i10, not_false_eq_true, not_true_eq_false, pm_bd_s, pm_tl_n, pm_tl_s, ↓reduceIte, pb_X9_mileIs_0, pb_X9_mileIs_1, pb_X9_mileIs_2, pb_X9_mileIs_3, pb_X9_mileIs_4, pb_X9_mileIs_5, pb_X9_mileIs_6, pb_X9_mileIs_7, kd_59, rf_59_0, rf_59_1, rf_59_3, rf_59_4, rf_59_5, rf_59_6, rf_59_7, rf_59_12, rf_59_14, rf_59_15, rf_59_16, rf_59_19, rf_59_23, rf_59_24, rf_59_25, rf_59_26, is_9_59, sr_is0 (((si_ne (a := 28) (k := 1) (b := 60) (j := 0) h (h.1 28 1 + 1) (by omega)).trans (hn0))) (show n ≤ 24 by omega), sr_isIn, bI_0, bI_n0, eq_false q1, find_1]
end P9
