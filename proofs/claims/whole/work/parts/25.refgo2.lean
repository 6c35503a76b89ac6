/-! THE REFERENCE'S LINE, AND WHAT IS ASKED OF IT -/
theorem i3a (a b c e f : Int32) : a + b + c + e + f = a + b + (c + e + f) := by
  simp only [Int32.add_assoc]
section R3
variable {fb : Bool} {d : Nat} {h : pm_HP}
theorem ro1_rk {M : Nat → Nat → Int32} {L P S : Nat → Int32} {i : Nat} {t0 : Int32} (hM : M = rm h) (hI : rkI h M L P S i) (ht : t0 = tnF M L i) : rkI (ro1 h i t0 (L i) (P i) (S i)) M L P S (i + 1) := by
  subst hM
  obtain ⟨h1, h2⟩ := hI
  have g := h1 i (Nat.le_refl i)
  refine ⟨fun j hj => ?_, fun j hj => ?_⟩
  · by_cases q : j = i + 1
    · subst q
      unfold ro1
      simp only [si_at, Nat.reduceEqDiff, false_and, and_self, and_true, ↓reduceIte]
      rw [g.1, g.2, ht, i3a]
      exact ⟨rfl, rfl⟩
    · have hq : ¬ j = i + 1 := q
      have g2 := h1 j (by omega)
      unfold ro1
      simp only [si_at, Nat.reduceEqDiff, false_and, and_false, hq, ↓reduceIte]
      exact g2
  · by_cases q : j = i
    · subst q
      unfold ro1
      simp only [si_at, Nat.reduceEqDiff, false_and, and_self, and_true, ↓reduceIte]
      rw [ht]
      rfl
    · have g2 := h2 j (by omega)
      have hq : ¬ j = i := q
      unfold ro1
      simp only [si_at, Nat.reduceEqDiff, false_and, and_false, hq, ↓reduceIte]
      exact g2
set_option maxRecDepth 100000 in
theorem lp_goes {n u : Nat} (hn : n ≤ 24) (hu8 : u ≤ 8) {h0 : pm_HP} (hu : h0.1 60 1 = nI u) (hn0 : h0.1 60 0 = nI n) (hft : ∀ s, s < 8 → rl h0 1 s ≤ rl h0 2 s) : ∀ (k i : Nat) (h : pm_HP), i + k = n → frm [63, 64, 65] h0 h → rkI h (rm h0) (rLe h0 u) (rPu h0 u) (rSh h0 u) i →
    ∃ h', frm [63, 64, 65] h0 h' ∧ rkI h' (rm h0) (rLe h0 u) (rPu h0 u) (rSh h0 u) n ∧ pm_ev P_X9_goes (rs fb (d + 3)) (P_X9_goes 1) [some (.ref 59), some (.int (tnF (rm h0) (rLe h0 u) i)), some (.int (nI i))] [] h = some (none, h') := by
  have ix0 : pm_ix (0 : Int32) 440 = true := by decide
  have cl0 : (0 : Int32).toNatClampNeg = 0 := by decide
  intro k
  induction k with
  | zero =>
    intro i h hi hf hI
    have e1 : nI n ≤ nI i := nI_le (by omega) (by omega)
    have h7 : h.1 60 0 = nI n := by rw [hf.1 60 (by decide)]; exact hn0
    refine ⟨h, hf, by rw [show n = i by omega]; exact hI, ?_⟩
    rw [pb_X9_goes_1]
    simp only [c20, c2i, c2n, c2r, cs8_0, cs8_1, cs8_2, cs8_3, cs8_4, decide_eq_true_eq, ev_ald0, ev_aldn0, ev_bin, ev_cv2, ev_go, ev_gr, ev_i, ev_ia, ev_ias, ev_if2, ev_ild1, ev_ild2, ev_inc2, ev_ist1, ev_ist2, ev_rv, i00, i01, i10, pm_bd_s, pm_tl_n, pm_tl_s, ↓reduceIte, pb_X9_goes_4, kd_59, rf_59_0, rf_59_1, rf_59_3, rf_59_4, rf_59_5, rf_59_6, rf_59_7, rf_59_12, rf_59_14, rf_59_15, rf_59_16, rf_59_19, rf_59_23, rf_59_24, rf_59_25, rf_59_26, is_9_59, kd_60, al_60, ix0, cl0, h7, e1]
  | succ k ih =>
    intro i h hi hf hI
    have h7 : h.1 60 0 = nI n := by rw [hf.1 60 (by decide)]; exact hn0
    have h4 : h.1 60 1 = nI u := by rw [hf.1 60 (by decide)]; exact hu
    have r := ro1_run (fb := fb) (d := d) (t0 := tnF (rm h0) (rLe h0 u) i) (show i < n by omega) hn hu8 h4 h7 (by rw [frm_rl hf (by decide)]; exact hft)
    rw [frm_rLe hf (by decide), frm_rPu hf (by decide), frm_rSh hf (by decide), frm_rm hf (by decide)] at r
    rw [r]
    exact ih (i + 1) _ (by omega) (hf.tr (ro1_frm _ _ _ _ _ _)) (ro1_rk (frm_rm hf (by decide)).symm hI rfl)
theorem sr_goes {n u : Nat} (hn : n ≤ 24) (hu8 : u ≤ 8) (hu : h.1 60 1 = nI u) (hn0 : h.1 60 0 = nI n) (hft : ∀ s, s < 8 → rl h 1 s ≤ rl h 2 s) (h63 : h.1 63 0 = 0) (h64 : h.1 64 0 = 0) :
    ∃ h', rs fb (d + 4) n_X9_goes [.ref 59] h = some (none, h') ∧ frm [63, 64, 65] h h' ∧ rkI h' (rm h) (rLe h u) (rPu h u) (rSh h u) n := by
  obtain ⟨h', hf, hI, r⟩ := lp_goes (fb := fb) (d := d) hn hu8 hu hn0 hft n 0 h (by omega) (frm.rf _ h) ⟨fun j hj => by
    have : j = 0 := by omega
    subst this
    simp [h63, h64, sdF, alF], fun j hj => absurd hj (Nat.not_lt_zero j)⟩
  refine ⟨h', ?_, hf, hI⟩
  rw [en_X9_goes]
  simp only [c20, c2i, c2n, c2r, cs8_0, cs8_1, cs8_2, cs8_3, cs8_4, decide_eq_true_eq, ev_ald0, ev_aldn0, ev_bin, ev_cv2, ev_go, ev_gr, ev_i, ev_ia, ev_ias, ev_if2, ev_ild1, ev_ild2, ev_inc2, ev_ist1, ev_ist2, ev_rv, i00, i01, i10, pm_bd_s, pm_tl_n, pm_tl_s, ↓reduceIte, pb_X9_goes_0]
  rw [nI_0] at r
  exact r
theorem sr_miss0 {n : Nat} (hn : h.1 60 0 = nI n) (hn24 : n ≤ 24) : rs fb (d + 1) n_X9_missIn [.ref 59, .int 0] h = some (some (.int (h.1 63 n - h.1 60 6)), h) := by
  have ix0 : pm_ix (0 : Int32) 440 = true := by decide
  have cl0 : (0 : Int32).toNatClampNeg = 0 := by decide
  have ix6 : pm_ix (6 : Int32) 440 = true := by decide
  have cl6 : (6 : Int32).toNatClampNeg = 6 := by decide
  have ix7 : pm_ix (7 : Int32) 440 = true := by decide
  have cl7 : (7 : Int32).toNatClampNeg = 7 := by decide
  have hix : pm_ix (nI n) 25 = true := pm_ix_n (by omega) (by omega)
  have hcl := nI_clamp (show n < 2 ^ 31 by omega)
  rw [en_X9_missIn]
  simp only [c20, c2i, c2n, c2r, cs8_0, cs8_1, cs8_2, cs8_3, cs8_4, decide_eq_true_eq, ev_ald0, ev_aldn0, ev_bin, ev_go, ev_gr, ev_i, ev_ia, ev_if0, ev_if2, ev_ild1, ev_ild2, ev_ild3, ev_ild4, ev_ist2, ev_ist3, ev_ist4, ev_m1, ev_ri, i00, i01, i10, ↓reduceIte, pb_X9_missIn_0, pb_X9_missIn_1, pb_X9_missIn_2, pb_X9_missIn_3, kd_59, rf_59_0, rf_59_1, rf_59_3, rf_59_4, rf_59_5, rf_59_6, rf_59_7, rf_59_12, rf_59_14, rf_59_15, rf_59_16, rf_59_19, rf_59_23, rf_59_24, rf_59_25, rf_59_26, is_9_59, kd_60, al_60, kd_63, al_63, kd_64, al_64, ix0, cl0, ix6, cl6, ix7, cl7, hn, hix, hcl, not_true_eq_false]
theorem sr_miss1 {n : Nat} (hn : h.1 60 0 = nI n) (hn24 : n ≤ 24) : rs fb (d + 1) n_X9_missIn [.ref 59, .int 1] h = some (some (.int (h.1 64 n - h.1 60 7)), h) := by
  have ix0 : pm_ix (0 : Int32) 440 = true := by decide
  have cl0 : (0 : Int32).toNatClampNeg = 0 := by decide
  have ix6 : pm_ix (6 : Int32) 440 = true := by decide
  have cl6 : (6 : Int32).toNatClampNeg = 6 := by decide
  have ix7 : pm_ix (7 : Int32) 440 = true := by decide
  have cl7 : (7 : Int32).toNatClampNeg = 7 := by decide
  have hix : pm_ix (nI n) 25 = true := pm_ix_n (by omega) (by omega)
  have hcl := nI_clamp (show n < 2 ^ 31 by omega)
  rw [en_X9_missIn]
  simp only [c20, c2i, c2n, c2r, cs8_0, cs8_1, cs8_2, cs8_3, cs8_4, decide_eq_true_eq, ev_ald0, ev_aldn0, ev_bin, ev_go, ev_gr, ev_i, ev_ia, ev_if0, ev_if2, ev_ild1, ev_ild2, ev_ild3, ev_ild4, ev_ist2, ev_ist3, ev_ist4, ev_m1, ev_ri, i00, i01, i10, ↓reduceIte, pb_X9_missIn_0, pb_X9_missIn_1, pb_X9_missIn_2, pb_X9_missIn_3, kd_59, rf_59_0, rf_59_1, rf_59_3, rf_59_4, rf_59_5, rf_59_6, rf_59_7, rf_59_12, rf_59_14, rf_59_15, rf_59_16, rf_59_19, rf_59_23, rf_59_24, rf_59_25, rf_59_26, is_9_59, kd_60, al_60, kd_63, al_63, kd_64, al_64, ix0, cl0, ix6, cl6, ix7, cl7, hn, hix, hcl, not_true_eq_false, not_false_eq_true]
theorem sr_miss2 {n : Nat} (hn : h.1 60 0 = nI n) (hn24 : n ≤ 24) : rs fb (d + 1) n_X9_missIn [.ref 59, .int 2] h = some (some (.int (ab32 (h.1 63 n - h.1 60 6) + ab32 (h.1 64 n - h.1 60 7))), h) := by
  have ix0 : pm_ix (0 : Int32) 440 = true := by decide
  have cl0 : (0 : Int32).toNatClampNeg = 0 := by decide
  have ix6 : pm_ix (6 : Int32) 440 = true := by decide
  have cl6 : (6 : Int32).toNatClampNeg = 6 := by decide
  have ix7 : pm_ix (7 : Int32) 440 = true := by decide
  have cl7 : (7 : Int32).toNatClampNeg = 7 := by decide
  have n20 : ((2 : Int32) = 0) = False := by simp
  have n21 : ((2 : Int32) = 1) = False := by simp
  have hix : pm_ix (nI n) 25 = true := pm_ix_n (by omega) (by omega)
  have hcl := nI_clamp (show n < 2 ^ 31 by omega)
  rw [en_X9_missIn]
  simp only [c20, c2i, c2n, c2r, cs8_0, cs8_1, cs8_2, cs8_3, cs8_4, decide_eq_true_eq, ev_ald0, ev_aldn0, ev_bin, ev_go, ev_gr, ev_i, ev_ia, ev_if0, ev_if2, ev_ild1, ev_ild2, ev_ild3, ev_ild4, ev_ist2, ev_ist3, ev_ist4, ev_m1, ev_ri, i00, i01, i10, ↓reduceIte, pb_X9_missIn_0, pb_X9_missIn_1, pb_X9_missIn_2, pb_X9_missIn_3, kd_59, rf_59_0, rf_59_1, rf_59_3, rf_59_4, rf_59_5, rf_59_6, rf_59_7, rf_59_12, rf_59_14, rf_59_15, rf_59_16, rf_59_19, rf_59_23, rf_59_24, rf_59_25, rf_59_26, is_9_59, kd_60, al_60, kd_63, al_63, kd_64, al_64, ix0, cl0, ix6, cl6, ix7, cl7, hn, hix, hcl, n20, n21, not_false_eq_true]
  rfl
set_option maxRecDepth 100000 in
theorem lp_treesAt {u : Nat} {v : Int32} (hu : h.1 60 2 = nI u) (hu2 : u ≤ 16) : ∀ (k i : Nat) (a : Int32), i + k = u → pm_ev P_X9_treesAt (rs fb (d + 1)) (P_X9_treesAt 1) [some (.ref 59), some (.int v), some (.int a), some (.int (nI i))] [] h = some (some (.int (smA (fun i => decide (rt h 0 i = v)) (fun _ => 1) i k a)), h) := by
  have ix2 : pm_ix (2 : Int32) 440 = true := by decide
  have cl2 : (2 : Int32).toNatClampNeg = 2 := by decide
  intro k
  induction k with
  | zero =>
    intro i a hi
    have e1 : nI u ≤ nI i := nI_le (by omega) (by omega)
    rw [pb_X9_treesAt_1]
    simp only [c20, c2i, c2n, c2r, cs8_0, cs8_1, cs8_2, cs8_3, cs8_4, decide_eq_true_eq, ev_ald0, ev_aldn0, ev_bin, ev_cv2, ev_go, ev_gr, ev_i, ev_ia, ev_if2, ev_ild1, ev_ild2, ev_ild3, ev_inc3, ev_ist2, ev_ist3, ev_ri, i00, i01, i10, pm_bd_s, pm_tl_n, pm_tl_s, ↓reduceIte, pb_X9_treesAt_4, kd_59, rf_59_0, rf_59_1, rf_59_3, rf_59_4, rf_59_5, rf_59_6, rf_59_7, rf_59_12, rf_59_14, rf_59_15, rf_59_16, rf_59_19, rf_59_23, rf_59_24, rf_59_25, rf_59_26, is_9_59, kd_60, al_60, ix2, cl2, hu, e1, smA]
  | succ k ih =>
    intro i a hi
    have e1 : ¬ nI u ≤ nI i := nI_ge (by omega) (by omega)
    have h16 : i < 16 := by omega
    rw [pb_X9_treesAt_1, smA]
    by_cases q : rt h 0 i = v
    · simp only [c20, c2i, c2n, c2r, cs8_0, cs8_1, cs8_2, cs8_3, cs8_4, decide_eq_true_eq, ev_ald0, ev_aldn0, ev_bin, ev_cv2, ev_go, ev_gr, ev_i, ev_ia, ev_if2, ev_ild1, ev_ild2, ev_ild3, ev_inc3, ev_ist2, ev_ist3, ev_ri, i00, i01, i10, pm_bd_s, pm_tl_n, pm_tl_s, ↓reduceIte, pb_X9_treesAt_2, pb_X9_treesAt_3, kd_59, rf_59_0, rf_59_1, rf_59_3, rf_59_4, rf_59_5, rf_59_6, rf_59_7, rf_59_12, rf_59_14, rf_59_15, rf_59_16, rf_59_19, rf_59_23, rf_59_24, rf_59_25, rf_59_26, is_9_59, kd_60, al_60, ix2, cl2, hu, e1, rt_0 h16, q, nI_1, not_true_eq_false, decide_true]
      exact ih (i + 1) _ (by omega)
    · simp only [c20, c2i, c2n, c2r, cs8_0, cs8_1, cs8_2, cs8_3, cs8_4, decide_eq_true_eq, ev_ald0, ev_aldn0, ev_bin, ev_cv2, ev_go, ev_gr, ev_i, ev_ia, ev_if2, ev_ild1, ev_ild2, ev_ild3, ev_inc3, ev_ist2, ev_ist3, ev_ri, i00, i01, i10, pm_bd_s, pm_tl_n, pm_tl_s, ↓reduceIte, pb_X9_treesAt_2, pb_X9_treesAt_3, kd_59, rf_59_0, rf_59_1, rf_59_3, rf_59_4, rf_59_5, rf_59_6, rf_59_7, rf_59_12, rf_59_14, rf_59_15, rf_59_16, rf_59_19, rf_59_23, rf_59_24, rf_59_25, rf_59_26, is_9_59, kd_60, al_60, ix2, cl2, hu, e1, rt_0 h16, q, nI_1, not_false_eq_true, decide_false, Bool.false_eq_true, add0]
      exact ih (i + 1) _ (by omega)
theorem sr_treesAt {u : Nat} {v : Int32} (hu : h.1 60 2 = nI u) (hu2 : u ≤ 16) : rs fb (d + 2) n_X9_treesAt [.ref 59, .int v] h = some (some (.int (smA (fun i => decide (rt h 0 i = v)) (fun _ => 1) 0 u 0)), h) := by
  rw [en_X9_treesAt]
  simp only [c20, c2i, c2n, c2r, cs8_0, cs8_1, cs8_2, cs8_3, cs8_4, decide_eq_true_eq, ev_ald0, ev_aldn0, ev_bin, ev_cv2, ev_go, ev_gr, ev_i, ev_ia, ev_if2, ev_ild1, ev_ild2, ev_ild3, ev_inc3, ev_ist2, ev_ist3, ev_ri, i00, i01, i10, pm_bd_s, pm_tl_n, pm_tl_s, ↓reduceIte, pb_X9_treesAt_0]
  have e := lp_treesAt (fb := fb) (d := d) (v := v) hu hu2 u 0 0 (by omega)
  rw [nI_0] at e
  exact e
theorem sr_drawn {v : Int32} (hv : ¬ v = 0) : rs fb (d + 1) n_X9_drawn [.ref 59, .int v] h = some (some (.int (((h.1 60 5 * 1103515245 + 12345).toUInt32 >>> ((8 : Int32).toUInt32 &&& Int32.toUInt32 31)).toInt32 - ((h.1 60 5 * 1103515245 + 12345).toUInt32 >>> ((8 : Int32).toUInt32 &&& Int32.toUInt32 31)).toInt32 / v * v)), pm_si h 60 5 (h.1 60 5 * 1103515245 + 12345)) := by
  have ix5 : pm_ix (5 : Int32) 440 = true := by decide
  have cl5 : (5 : Int32).toNatClampNeg = 5 := by decide
  rw [en_X9_drawn]
  simp only [ev_ald0, ev_aldn0, ev_bin, ev_dv, ev_gr, ev_i, ev_ia, ev_ias, ev_ild1, ev_ri, pb_X9_drawn_0, kd_59, rf_59_0, rf_59_1, rf_59_3, rf_59_4, rf_59_5, rf_59_6, rf_59_7, rf_59_12, rf_59_14, rf_59_15, rf_59_16, rf_59_19, rf_59_23, rf_59_24, rf_59_25, rf_59_26, is_9_59, kd_60, al_60, ix5, cl5, si_at, and_self, hv, ↓reduceIte]
theorem sr_hasText0 : rs fb (d + 1) n_X9_hasText [.ref 59, .int 0] h = some (some (.int (bI (0 < h.1 60 316))), h) := by
  have e : (316 : Int32) + 62 * 0 = 316 := by decide
  have ix : pm_ix (316 : Int32) 440 = true := by decide
  have cl : (316 : Int32).toNatClampNeg = 316 := by decide
  rw [en_X9_hasText]
  by_cases q : h.1 60 316 ≤ 0
  · simp only [decide_eq_true_eq, ev_ald0, ev_aldn0, ev_bin, ev_go, ev_gr, ev_i, ev_ia, ev_if0, ev_ild1, ev_rz, i00, i01, i10, ↓reduceIte, pb_X9_hasText_0, pb_X9_hasText_1, pb_X9_hasText_2, kd_59, rf_59_0, rf_59_1, rf_59_3, rf_59_4, rf_59_5, rf_59_6, rf_59_7, rf_59_12, rf_59_14, rf_59_15, rf_59_16, rf_59_19, rf_59_23, rf_59_24, rf_59_25, rf_59_26, is_9_59, kd_60, al_60, e, ix, cl, q]
    simp [bI, Int32.not_lt.mpr q]
  · simp only [decide_eq_true_eq, ev_ald0, ev_aldn0, ev_bin, ev_go, ev_gr, ev_i, ev_ia, ev_if0, ev_ild1, ev_rz, i00, i01, i10, ↓reduceIte, pb_X9_hasText_0, pb_X9_hasText_1, pb_X9_hasText_2, kd_59, rf_59_0, rf_59_1, rf_59_3, rf_59_4, rf_59_5, rf_59_6, rf_59_7, rf_59_12, rf_59_14, rf_59_15, rf_59_16, rf_59_19, rf_59_23, rf_59_24, rf_59_25, rf_59_26, is_9_59, kd_60, al_60, e, ix, cl, q]
    simp [bI, Int32.not_le.mp q]
theorem sr_hasText1 : rs fb (d + 1) n_X9_hasText [.ref 59, .int 1] h = some (some (.int (bI (0 < h.1 60 378))), h) := by
  have e : (316 : Int32) + 62 * 1 = 378 := by decide
  have ix : pm_ix (378 : Int32) 440 = true := by decide
  have cl : (378 : Int32).toNatClampNeg = 378 := by decide
  rw [en_X9_hasText]
  by_cases q : h.1 60 378 ≤ 0
  · simp only [decide_eq_true_eq, ev_ald0, ev_aldn0, ev_bin, ev_go, ev_gr, ev_i, ev_ia, ev_if0, ev_ild1, ev_rz, i00, i01, i10, ↓reduceIte, pb_X9_hasText_0, pb_X9_hasText_1, pb_X9_hasText_2, kd_59, rf_59_0, rf_59_1, rf_59_3, rf_59_4, rf_59_5, rf_59_6, rf_59_7, rf_59_12, rf_59_14, rf_59_15, rf_59_16, rf_59_19, rf_59_23, rf_59_24, rf_59_25, rf_59_26, is_9_59, kd_60, al_60, e, ix, cl, q]
    simp [bI, Int32.not_lt.mpr q]
  · simp only [decide_eq_true_eq, ev_ald0, ev_aldn0, ev_bin, ev_go, ev_gr, ev_i, ev_ia, ev_if0, ev_ild1, ev_rz, i00, i01, i10, ↓reduceIte, pb_X9_hasText_0, pb_X9_hasText_1, pb_X9_hasText_2, kd_59, rf_59_0, rf_59_1, rf_59_3, rf_59_4, rf_59_5, rf_59_6, rf_59_7, rf_59_12, rf_59_14, rf_59_15, rf_59_16, rf_59_19, rf_59_23, rf_59_24, rf_59_25, rf_59_26, is_9_59, kd_60, al_60, e, ix, cl, q]
    simp [bI, Int32.not_le.mp q]
end R3
