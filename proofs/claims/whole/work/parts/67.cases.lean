/-! THE LAW'S LOOP, in the pure machine: by the pairs, with no end but 1 -/
section LL
variable {fb : Bool} {L : Nat} {xs : Nat → Int32} {h : pm_HP} {i : Int32}
theorem lg_cmp_s {x : Int64} : lg_cmp x x = 0 := by simp [lg_cmp]
/-- a case goes on to the next -/
def lc_G (fb : Bool) (L : Nat) (xs : Nat → Int32) (i : Int32) (k : List pm_Ac) (h : pm_HP) : Prop := ∃ h', Inv h' ∧ pm_ev (P_L xs L) (rs fb (1 + 100)) k [some (.ref 88), some (.ref 0), some (.ref 59), some (.int i)] [] h = pm_ev (P_L xs L) (rs fb (1 + 100)) (P_L xs L 45) [some (.ref 88), some (.ref 0), some (.ref 59), some (.int i)] [] h'
set_option maxRecDepth 100000 in
theorem lc_1 (hI : Inv h) (i1 : pm_ix (i + 1) L = true) (i2 : pm_ix (i + 2) L = true) (i3 : pm_ix (i + 3) L = true) (i4 : pm_ix (i + 4) L = true) (i5 : pm_ix (i + 5) L = true) : lc_G fb L xs i (P_L xs L 1) h := by
  obtain ⟨x, g1, g2, e1, e2, hJ⟩ := pr_miles (fb := fb) (d := 1) hI (xs (i + 1).toNatClampNeg)
  refine ⟨g2, hJ, ?_⟩
  have e1 : rs fb (1 + 100) n_X8_miles (.ref 0 :: [.int (xs (i + 1).toNatClampNeg)]) h = some (some (.int x), g1) := e1
  have e2 : rs fb (1 + 100) n_X9_miles (.ref 59 :: [.int (xs (i + 1).toNatClampNeg)]) g1 = some (some (.int x), g2) := e2
  simp only [pb_L_1, ev_ald0, ev_ald1, ev_ald2, ev_bin, ev_cv1, ev_i, ev_if2, ev_ild3, ev_rz, ev_sx i1, ev_sx i2, ev_sx i3, ev_sx i4, ev_sx i5, is_8_0, is_9_59, cs8_0, cs8_1, cs8_2, cs8_3, cs8_4, e1, e2, pm_bd_s, pm_tl_s, decide_eq_true_eq, lg_cmp_s, ↓reduceIte]
set_option maxRecDepth 100000 in
theorem lc_2 (hI : Inv h) (i1 : pm_ix (i + 1) L = true) (i2 : pm_ix (i + 2) L = true) (i3 : pm_ix (i + 3) L = true) (i4 : pm_ix (i + 4) L = true) (i5 : pm_ix (i + 5) L = true) : lc_G fb L xs i (P_L xs L 2) h := by
  obtain ⟨x, g1, g2, e1, e2, hJ⟩ := pr_mile (fb := fb) (d := 1) hI (xs (i + 1).toNatClampNeg) (xs (i + 2).toNatClampNeg) (xs (i + 3).toNatClampNeg)
  refine ⟨g2, hJ, ?_⟩
  have e1 : rs fb (1 + 100) n_X8_mile (.ref 0 :: [.int (xs (i + 1).toNatClampNeg), .int (xs (i + 2).toNatClampNeg), .int (xs (i + 3).toNatClampNeg)]) h = some (some (.int x), g1) := e1
  have e2 : rs fb (1 + 100) n_X9_mile (.ref 59 :: [.int (xs (i + 1).toNatClampNeg), .int (xs (i + 2).toNatClampNeg), .int (xs (i + 3).toNatClampNeg)]) g1 = some (some (.int x), g2) := e2
  simp only [pb_L_2, ev_ald0, ev_ald1, ev_ald2, ev_bin, ev_cv3, ev_i, ev_if2, ev_ild3, ev_rz, ev_sx i1, ev_sx i2, ev_sx i3, ev_sx i4, ev_sx i5, is_8_0, is_9_59, cs8_0, cs8_1, cs8_2, cs8_3, cs8_4, e1, e2, pm_bd_s, pm_tl_s, decide_eq_true_eq, lg_cmp_s, ↓reduceIte]
set_option maxRecDepth 100000 in
theorem lc_3 (hI : Inv h) (i1 : pm_ix (i + 1) L = true) (i2 : pm_ix (i + 2) L = true) (i3 : pm_ix (i + 3) L = true) (i4 : pm_ix (i + 4) L = true) (i5 : pm_ix (i + 5) L = true) : lc_G fb L xs i (P_L xs L 3) h := by
  obtain ⟨x, g1, g2, e1, e2, hJ⟩ := pr_mileIs (fb := fb) (d := 1) hI (xs (i + 1).toNatClampNeg) (xs (i + 2).toNatClampNeg)
  refine ⟨g2, hJ, ?_⟩
  have e1 : rs fb (1 + 100) n_X8_mileIs (.ref 0 :: [.int (xs (i + 1).toNatClampNeg), .int (xs (i + 2).toNatClampNeg)]) h = some (some (.int x), g1) := e1
  have e2 : rs fb (1 + 100) n_X9_mileIs (.ref 59 :: [.int (xs (i + 1).toNatClampNeg), .int (xs (i + 2).toNatClampNeg)]) g1 = some (some (.int x), g2) := e2
  simp only [pb_L_3, ev_ald0, ev_ald1, ev_ald2, ev_bin, ev_cv2, ev_i, ev_if2, ev_ild3, ev_rz, ev_sx i1, ev_sx i2, ev_sx i3, ev_sx i4, ev_sx i5, is_8_0, is_9_59, cs8_0, cs8_1, cs8_2, cs8_3, cs8_4, e1, e2, pm_bd_s, pm_tl_s, decide_eq_true_eq, lg_cmp_s, ↓reduceIte]
set_option maxRecDepth 100000 in
theorem lc_4 (hI : Inv h) (i1 : pm_ix (i + 1) L = true) (i2 : pm_ix (i + 2) L = true) (i3 : pm_ix (i + 3) L = true) (i4 : pm_ix (i + 4) L = true) (i5 : pm_ix (i + 5) L = true) : lc_G fb L xs i (P_L xs L 4) h := by
  obtain ⟨x, g1, g2, e1, e2, hJ⟩ := pr_stone (fb := fb) (d := 1) hI (xs (i + 1).toNatClampNeg) (xs (i + 2).toNatClampNeg)
  refine ⟨g2, hJ, ?_⟩
  have e1 : rs fb (1 + 100) n_X8_stone (.ref 0 :: [.int (xs (i + 1).toNatClampNeg), .int (xs (i + 2).toNatClampNeg)]) h = some (some (.int x), g1) := e1
  have e2 : rs fb (1 + 100) n_X9_stone (.ref 59 :: [.int (xs (i + 1).toNatClampNeg), .int (xs (i + 2).toNatClampNeg)]) g1 = some (some (.int x), g2) := e2
  simp only [pb_L_4, ev_ald0, ev_ald1, ev_ald2, ev_bin, ev_cv2, ev_i, ev_if2, ev_ild3, ev_rz, ev_sx i1, ev_sx i2, ev_sx i3, ev_sx i4, ev_sx i5, is_8_0, is_9_59, cs8_0, cs8_1, cs8_2, cs8_3, cs8_4, e1, e2, pm_bd_s, pm_tl_s, decide_eq_true_eq, lg_cmp_s, ↓reduceIte]
set_option maxRecDepth 100000 in
theorem lc_5 (hI : Inv h) (i1 : pm_ix (i + 1) L = true) (i2 : pm_ix (i + 2) L = true) (i3 : pm_ix (i + 3) L = true) (i4 : pm_ix (i + 4) L = true) (i5 : pm_ix (i + 5) L = true) : lc_G fb L xs i (P_L xs L 5) h := by
  obtain ⟨x, g1, g2, e1, e2, hJ⟩ := pr_slip (fb := fb) (d := 1) hI (xs (i + 1).toNatClampNeg) (xs (i + 2).toNatClampNeg) (xs (i + 3).toNatClampNeg)
  refine ⟨g2, hJ, ?_⟩
  have e1 : rs fb (1 + 100) n_X8_slip (.ref 0 :: [.int (xs (i + 1).toNatClampNeg), .int (xs (i + 2).toNatClampNeg), .int (xs (i + 3).toNatClampNeg)]) h = some (some (.int x), g1) := e1
  have e2 : rs fb (1 + 100) n_X9_slip (.ref 59 :: [.int (xs (i + 1).toNatClampNeg), .int (xs (i + 2).toNatClampNeg), .int (xs (i + 3).toNatClampNeg)]) g1 = some (some (.int x), g2) := e2
  simp only [pb_L_5, ev_ald0, ev_ald1, ev_ald2, ev_bin, ev_cv3, ev_i, ev_if2, ev_ild3, ev_rz, ev_sx i1, ev_sx i2, ev_sx i3, ev_sx i4, ev_sx i5, is_8_0, is_9_59, cs8_0, cs8_1, cs8_2, cs8_3, cs8_4, e1, e2, pm_bd_s, pm_tl_s, decide_eq_true_eq, lg_cmp_s, ↓reduceIte]
set_option maxRecDepth 100000 in
theorem lc_6 (hI : Inv h) (i1 : pm_ix (i + 1) L = true) (i2 : pm_ix (i + 2) L = true) (i3 : pm_ix (i + 3) L = true) (i4 : pm_ix (i + 4) L = true) (i5 : pm_ix (i + 5) L = true) : lc_G fb L xs i (P_L xs L 6) h := by
  obtain ⟨x, g1, g2, e1, e2, hJ⟩ := pr_slipIs (fb := fb) (d := 1) hI (xs (i + 1).toNatClampNeg) (xs (i + 2).toNatClampNeg)
  refine ⟨g2, hJ, ?_⟩
  have e1 : rs fb (1 + 100) n_X8_slipIs (.ref 0 :: [.int (xs (i + 1).toNatClampNeg), .int (xs (i + 2).toNatClampNeg)]) h = some (some (.int x), g1) := e1
  have e2 : rs fb (1 + 100) n_X9_slipIs (.ref 59 :: [.int (xs (i + 1).toNatClampNeg), .int (xs (i + 2).toNatClampNeg)]) g1 = some (some (.int x), g2) := e2
  simp only [pb_L_6, ev_ald0, ev_ald1, ev_ald2, ev_bin, ev_cv2, ev_i, ev_if2, ev_ild3, ev_rz, ev_sx i1, ev_sx i2, ev_sx i3, ev_sx i4, ev_sx i5, is_8_0, is_9_59, cs8_0, cs8_1, cs8_2, cs8_3, cs8_4, e1, e2, pm_bd_s, pm_tl_s, decide_eq_true_eq, lg_cmp_s, ↓reduceIte]
set_option maxRecDepth 100000 in
theorem lc_7 (hI : Inv h) (i1 : pm_ix (i + 1) L = true) (i2 : pm_ix (i + 2) L = true) (i3 : pm_ix (i + 3) L = true) (i4 : pm_ix (i + 4) L = true) (i5 : pm_ix (i + 5) L = true) : lc_G fb L xs i (P_L xs L 7) h := by
  obtain ⟨x, g1, g2, e1, e2, hJ⟩ := pr_as (fb := fb) (d := 1) hI (xs (i + 1).toNatClampNeg) (xs (i + 2).toNatClampNeg)
  refine ⟨g2, hJ, ?_⟩
  have e1 : rs fb (1 + 100) n_X8_as (.ref 0 :: [.int (xs (i + 1).toNatClampNeg), .int (xs (i + 2).toNatClampNeg)]) h = some (some (.int x), g1) := e1
  have e2 : rs fb (1 + 100) n_X9_as (.ref 59 :: [.int (xs (i + 1).toNatClampNeg), .int (xs (i + 2).toNatClampNeg)]) g1 = some (some (.int x), g2) := e2
  simp only [pb_L_7, ev_ald0, ev_ald1, ev_ald2, ev_bin, ev_cv2, ev_i, ev_if2, ev_ild3, ev_rz, ev_sx i1, ev_sx i2, ev_sx i3, ev_sx i4, ev_sx i5, is_8_0, is_9_59, cs8_0, cs8_1, cs8_2, cs8_3, cs8_4, e1, e2, pm_bd_s, pm_tl_s, decide_eq_true_eq, lg_cmp_s, ↓reduceIte]
set_option maxRecDepth 100000 in
theorem lc_8 (hI : Inv h) (i1 : pm_ix (i + 1) L = true) (i2 : pm_ix (i + 2) L = true) (i3 : pm_ix (i + 3) L = true) (i4 : pm_ix (i + 4) L = true) (i5 : pm_ix (i + 5) L = true) : lc_G fb L xs i (P_L xs L 8) h := by
  obtain ⟨x, g1, g2, e1, e2, hJ⟩ := pr_turn (fb := fb) (d := 1) hI (xs (i + 1).toNatClampNeg) (xs (i + 2).toNatClampNeg)
  refine ⟨g2, hJ, ?_⟩
  have e1 : rs fb (1 + 100) n_X8_turn (.ref 0 :: [.int (xs (i + 1).toNatClampNeg), .int (xs (i + 2).toNatClampNeg)]) h = some (some (.int x), g1) := e1
  have e2 : rs fb (1 + 100) n_X9_turn (.ref 59 :: [.int (xs (i + 1).toNatClampNeg), .int (xs (i + 2).toNatClampNeg)]) g1 = some (some (.int x), g2) := e2
  simp only [pb_L_8, ev_ald0, ev_ald1, ev_ald2, ev_bin, ev_cv2, ev_i, ev_if2, ev_ild3, ev_rz, ev_sx i1, ev_sx i2, ev_sx i3, ev_sx i4, ev_sx i5, is_8_0, is_9_59, cs8_0, cs8_1, cs8_2, cs8_3, cs8_4, e1, e2, pm_bd_s, pm_tl_s, decide_eq_true_eq, lg_cmp_s, ↓reduceIte]
set_option maxRecDepth 100000 in
theorem lc_9 (hI : Inv h) (i1 : pm_ix (i + 1) L = true) (i2 : pm_ix (i + 2) L = true) (i3 : pm_ix (i + 3) L = true) (i4 : pm_ix (i + 4) L = true) (i5 : pm_ix (i + 5) L = true) : lc_G fb L xs i (P_L xs L 9) h := by
  obtain ⟨x, g1, g2, e1, e2, hJ⟩ := pr_does (fb := fb) (d := 1) hI (xs (i + 1).toNatClampNeg) (xs (i + 2).toNatClampNeg) (xs (i + 3).toNatClampNeg)
  refine ⟨g2, hJ, ?_⟩
  have e1 : rs fb (1 + 100) n_X8_does (.ref 0 :: [.int (xs (i + 1).toNatClampNeg), .int (xs (i + 2).toNatClampNeg), .int (xs (i + 3).toNatClampNeg)]) h = some (some (.int x), g1) := e1
  have e2 : rs fb (1 + 100) n_X9_does (.ref 59 :: [.int (xs (i + 1).toNatClampNeg), .int (xs (i + 2).toNatClampNeg), .int (xs (i + 3).toNatClampNeg)]) g1 = some (some (.int x), g2) := e2
  simp only [pb_L_9, ev_ald0, ev_ald1, ev_ald2, ev_bin, ev_cv3, ev_i, ev_if2, ev_ild3, ev_rz, ev_sx i1, ev_sx i2, ev_sx i3, ev_sx i4, ev_sx i5, is_8_0, is_9_59, cs8_0, cs8_1, cs8_2, cs8_3, cs8_4, e1, e2, pm_bd_s, pm_tl_s, decide_eq_true_eq, lg_cmp_s, ↓reduceIte]
set_option maxRecDepth 100000 in
theorem lc_10 (hI : Inv h) (i1 : pm_ix (i + 1) L = true) (i2 : pm_ix (i + 2) L = true) (i3 : pm_ix (i + 3) L = true) (i4 : pm_ix (i + 4) L = true) (i5 : pm_ix (i + 5) L = true) : lc_G fb L xs i (P_L xs L 10) h := by
  obtain ⟨x, g1, g2, e1, e2, hJ⟩ := pr_feed (fb := fb) (d := 1) hI (((xs (i + 1).toNatClampNeg).toInt64 <<< ((32 : Int32).toInt64 &&& 63)) ||| ((xs (i + 2).toNatClampNeg).toInt64 &&& (4294967295 : Int64))) (xs (i + 3).toNatClampNeg)
  refine ⟨g2, hJ, ?_⟩
  have e1 : rs fb (1 + 100) n_X8_feed (.ref 0 :: [.long (((xs (i + 1).toNatClampNeg).toInt64 <<< ((32 : Int32).toInt64 &&& 63)) ||| ((xs (i + 2).toNatClampNeg).toInt64 &&& (4294967295 : Int64))), .int (xs (i + 3).toNatClampNeg)]) h = some (some (.int x), g1) := e1
  have e2 : rs fb (1 + 100) n_X9_feed (.ref 59 :: [.long (((xs (i + 1).toNatClampNeg).toInt64 <<< ((32 : Int32).toInt64 &&& 63)) ||| ((xs (i + 2).toNatClampNeg).toInt64 &&& (4294967295 : Int64))), .int (xs (i + 3).toNatClampNeg)]) g1 = some (some (.int x), g2) := e2
  simp only [pb_L_10, ev_ald0, ev_ald1, ev_ald2, ev_bin, ev_cv2, ev_i, ev_i2l, ev_if2, ev_ild3, ev_l, ev_lbin, ev_lsh, ev_rz, ev_sx i1, ev_sx i2, ev_sx i3, ev_sx i4, ev_sx i5, is_8_0, is_9_59, cs8_0, cs8_1, cs8_2, cs8_3, cs8_4, e1, e2, pm_bd_s, pm_tl_s, decide_eq_true_eq, lg_cmp_s, ↓reduceIte]
set_option maxRecDepth 100000 in
theorem lc_11 (hI : Inv h) (i1 : pm_ix (i + 1) L = true) (i2 : pm_ix (i + 2) L = true) (i3 : pm_ix (i + 3) L = true) (i4 : pm_ix (i + 4) L = true) (i5 : pm_ix (i + 5) L = true) : lc_G fb L xs i (P_L xs L 11) h := by
  obtain ⟨x, g1, g2, e1, e2, hJ⟩ := pr_text (fb := fb) (d := 1) hI (xs (i + 1).toNatClampNeg)
  refine ⟨g2, hJ, ?_⟩
  have e1 : rs fb (1 + 100) n_X8_text (.ref 0 :: [.int (xs (i + 1).toNatClampNeg)]) h = some (some (.int x), g1) := e1
  have e2 : rs fb (1 + 100) n_X9_text (.ref 59 :: [.int (xs (i + 1).toNatClampNeg)]) g1 = some (some (.int x), g2) := e2
  simp only [pb_L_11, ev_ald0, ev_ald1, ev_ald2, ev_bin, ev_cv1, ev_i, ev_if2, ev_ild3, ev_rz, ev_sx i1, ev_sx i2, ev_sx i3, ev_sx i4, ev_sx i5, is_8_0, is_9_59, cs8_0, cs8_1, cs8_2, cs8_3, cs8_4, e1, e2, pm_bd_s, pm_tl_s, decide_eq_true_eq, lg_cmp_s, ↓reduceIte]
set_option maxRecDepth 100000 in
theorem lc_12 (hI : Inv h) (i1 : pm_ix (i + 1) L = true) (i2 : pm_ix (i + 2) L = true) (i3 : pm_ix (i + 3) L = true) (i4 : pm_ix (i + 4) L = true) (i5 : pm_ix (i + 5) L = true) : lc_G fb L xs i (P_L xs L 12) h := by
  obtain ⟨x, g1, g2, e1, e2, hJ⟩ := pr_untell (fb := fb) (d := 1) hI (xs (i + 1).toNatClampNeg)
  refine ⟨g2, hJ, ?_⟩
  have e1 : rs fb (1 + 100) n_X8_untell (.ref 0 :: [.int (xs (i + 1).toNatClampNeg)]) h = some (some (.int x), g1) := e1
  have e2 : rs fb (1 + 100) n_X9_untell (.ref 59 :: [.int (xs (i + 1).toNatClampNeg)]) g1 = some (some (.int x), g2) := e2
  simp only [pb_L_12, ev_ald0, ev_ald1, ev_ald2, ev_bin, ev_cv1, ev_i, ev_if2, ev_ild3, ev_rz, ev_sx i1, ev_sx i2, ev_sx i3, ev_sx i4, ev_sx i5, is_8_0, is_9_59, cs8_0, cs8_1, cs8_2, cs8_3, cs8_4, e1, e2, pm_bd_s, pm_tl_s, decide_eq_true_eq, lg_cmp_s, ↓reduceIte]
set_option maxRecDepth 100000 in
theorem lc_13 (hI : Inv h) (i1 : pm_ix (i + 1) L = true) (i2 : pm_ix (i + 2) L = true) (i3 : pm_ix (i + 3) L = true) (i4 : pm_ix (i + 4) L = true) (i5 : pm_ix (i + 5) L = true) : lc_G fb L xs i (P_L xs L 13) h := by
  obtain ⟨x, g1, g2, e1, e2, hJ⟩ := pr_post (fb := fb) (d := 1) hI (xs (i + 1).toNatClampNeg) (xs (i + 2).toNatClampNeg)
  refine ⟨g2, hJ, ?_⟩
  have e1 : rs fb (1 + 100) n_X8_post (.ref 0 :: [.int (xs (i + 1).toNatClampNeg), .int (xs (i + 2).toNatClampNeg)]) h = some (some (.int x), g1) := e1
  have e2 : rs fb (1 + 100) n_X9_post (.ref 59 :: [.int (xs (i + 1).toNatClampNeg), .int (xs (i + 2).toNatClampNeg)]) g1 = some (some (.int x), g2) := e2
  simp only [pb_L_13, ev_ald0, ev_ald1, ev_ald2, ev_bin, ev_cv2, ev_i, ev_if2, ev_ild3, ev_rz, ev_sx i1, ev_sx i2, ev_sx i3, ev_sx i4, ev_sx i5, is_8_0, is_9_59, cs8_0, cs8_1, cs8_2, cs8_3, cs8_4, e1, e2, pm_bd_s, pm_tl_s, decide_eq_true_eq, lg_cmp_s, ↓reduceIte]
set_option maxRecDepth 100000 in
theorem lc_14 (hI : Inv h) (i1 : pm_ix (i + 1) L = true) (i2 : pm_ix (i + 2) L = true) (i3 : pm_ix (i + 3) L = true) (i4 : pm_ix (i + 4) L = true) (i5 : pm_ix (i + 5) L = true) : lc_G fb L xs i (P_L xs L 14) h := by
  obtain ⟨x, g1, g2, e1, e2, hJ⟩ := pr_miss (fb := fb) (d := 1) hI (xs (i + 1).toNatClampNeg)
  refine ⟨g2, hJ, ?_⟩
  have e1 : rs fb (1 + 100) n_X8_miss (.ref 0 :: [.int (xs (i + 1).toNatClampNeg)]) h = some (some (.int x), g1) := e1
  have e2 : rs fb (1 + 100) n_X9_miss (.ref 59 :: [.int (xs (i + 1).toNatClampNeg)]) g1 = some (some (.int x), g2) := e2
  simp only [pb_L_14, ev_ald0, ev_ald1, ev_ald2, ev_bin, ev_cv1, ev_i, ev_if2, ev_ild3, ev_rz, ev_sx i1, ev_sx i2, ev_sx i3, ev_sx i4, ev_sx i5, is_8_0, is_9_59, cs8_0, cs8_1, cs8_2, cs8_3, cs8_4, e1, e2, pm_bd_s, pm_tl_s, decide_eq_true_eq, lg_cmp_s, ↓reduceIte]
set_option maxRecDepth 100000 in
theorem lc_15 (hI : Inv h) (i1 : pm_ix (i + 1) L = true) (i2 : pm_ix (i + 2) L = true) (i3 : pm_ix (i + 3) L = true) (i4 : pm_ix (i + 4) L = true) (i5 : pm_ix (i + 5) L = true) : lc_G fb L xs i (P_L xs L 15) h := by
  obtain ⟨x, g1, g2, e1, e2, hJ⟩ := pr_wronged (fb := fb) (d := 1) hI (xs (i + 1).toNatClampNeg)
  refine ⟨g2, hJ, ?_⟩
  have e1 : rs fb (1 + 100) n_X8_wronged (.ref 0 :: [.int (xs (i + 1).toNatClampNeg)]) h = some (some (.int x), g1) := e1
  have e2 : rs fb (1 + 100) n_X9_wronged (.ref 59 :: [.int (xs (i + 1).toNatClampNeg)]) g1 = some (some (.int x), g2) := e2
  simp only [pb_L_15, ev_ald0, ev_ald1, ev_ald2, ev_bin, ev_cv1, ev_i, ev_if2, ev_ild3, ev_rz, ev_sx i1, ev_sx i2, ev_sx i3, ev_sx i4, ev_sx i5, is_8_0, is_9_59, cs8_0, cs8_1, cs8_2, cs8_3, cs8_4, e1, e2, pm_bd_s, pm_tl_s, decide_eq_true_eq, lg_cmp_s, ↓reduceIte]
set_option maxRecDepth 100000 in
theorem lc_16 (hI : Inv h) (i1 : pm_ix (i + 1) L = true) (i2 : pm_ix (i + 2) L = true) (i3 : pm_ix (i + 3) L = true) (i4 : pm_ix (i + 4) L = true) (i5 : pm_ix (i + 5) L = true) : lc_G fb L xs i (P_L xs L 16) h := by
  obtain ⟨x, g1, g2, e1, e2, hJ⟩ := pr_which (fb := fb) (d := 1) hI (xs (i + 1).toNatClampNeg)
  refine ⟨g2, hJ, ?_⟩
  have e1 : rs fb (1 + 100) n_X8_which (.ref 0 :: [.int (xs (i + 1).toNatClampNeg)]) h = some (some (.int x), g1) := e1
  have e2 : rs fb (1 + 100) n_X9_which (.ref 59 :: [.int (xs (i + 1).toNatClampNeg)]) g1 = some (some (.int x), g2) := e2
  simp only [pb_L_16, ev_ald0, ev_ald1, ev_ald2, ev_bin, ev_cv1, ev_i, ev_if2, ev_ild3, ev_rz, ev_sx i1, ev_sx i2, ev_sx i3, ev_sx i4, ev_sx i5, is_8_0, is_9_59, cs8_0, cs8_1, cs8_2, cs8_3, cs8_4, e1, e2, pm_bd_s, pm_tl_s, decide_eq_true_eq, lg_cmp_s, ↓reduceIte]
set_option maxRecDepth 100000 in
theorem lc_17 (hI : Inv h) (i1 : pm_ix (i + 1) L = true) (i2 : pm_ix (i + 2) L = true) (i3 : pm_ix (i + 3) L = true) (i4 : pm_ix (i + 4) L = true) (i5 : pm_ix (i + 5) L = true) : lc_G fb L xs i (P_L xs L 17) h := by
  obtain ⟨x, g1, g2, e1, e2, hJ⟩ := pr_checks (fb := fb) (d := 1) hI (xs (i + 1).toNatClampNeg) (xs (i + 2).toNatClampNeg)
  refine ⟨g2, hJ, ?_⟩
  have e1 : rs fb (1 + 100) n_X8_checks (.ref 0 :: [.int (xs (i + 1).toNatClampNeg), .int (xs (i + 2).toNatClampNeg)]) h = some (some (.int x), g1) := e1
  have e2 : rs fb (1 + 100) n_X9_checks (.ref 59 :: [.int (xs (i + 1).toNatClampNeg), .int (xs (i + 2).toNatClampNeg)]) g1 = some (some (.int x), g2) := e2
  simp only [pb_L_17, ev_ald0, ev_ald1, ev_ald2, ev_bin, ev_cv2, ev_i, ev_if2, ev_ild3, ev_rz, ev_sx i1, ev_sx i2, ev_sx i3, ev_sx i4, ev_sx i5, is_8_0, is_9_59, cs8_0, cs8_1, cs8_2, cs8_3, cs8_4, e1, e2, pm_bd_s, pm_tl_s, decide_eq_true_eq, lg_cmp_s, ↓reduceIte]
set_option maxRecDepth 100000 in
theorem lc_18 (hI : Inv h) (i1 : pm_ix (i + 1) L = true) (i2 : pm_ix (i + 2) L = true) (i3 : pm_ix (i + 3) L = true) (i4 : pm_ix (i + 4) L = true) (i5 : pm_ix (i + 5) L = true) : lc_G fb L xs i (P_L xs L 18) h := by
  obtain ⟨x, g1, g2, e1, e2, hJ⟩ := pr_hours (fb := fb) (d := 1) hI 
  refine ⟨g2, hJ, ?_⟩
  have e1 : rs fb (1 + 100) n_X8_hours (.ref 0 :: []) h = some (some (.int x), g1) := e1
  have e2 : rs fb (1 + 100) n_X9_hours (.ref 59 :: []) g1 = some (some (.int x), g2) := e2
  simp only [pb_L_18, ev_ald1, ev_ald2, ev_cv0, ev_i, ev_if2, ev_rz, ev_sx i1, ev_sx i2, ev_sx i3, ev_sx i4, ev_sx i5, is_8_0, is_9_59, cs8_0, cs8_1, cs8_2, cs8_3, cs8_4, e1, e2, pm_bd_s, pm_tl_s, decide_eq_true_eq, lg_cmp_s, ↓reduceIte]
set_option maxRecDepth 100000 in
theorem lc_19 (hI : Inv h) (i1 : pm_ix (i + 1) L = true) (i2 : pm_ix (i + 2) L = true) (i3 : pm_ix (i + 3) L = true) (i4 : pm_ix (i + 4) L = true) (i5 : pm_ix (i + 5) L = true) : lc_G fb L xs i (P_L xs L 19) h := by
  obtain ⟨x, g1, g2, e1, e2, hJ⟩ := pr_within (fb := fb) (d := 1) hI (xs (i + 1).toNatClampNeg)
  refine ⟨g2, hJ, ?_⟩
  have e1 : rs fb (1 + 100) n_X8_within (.ref 0 :: [.int (xs (i + 1).toNatClampNeg)]) h = some (some (.int x), g1) := e1
  have e2 : rs fb (1 + 100) n_X9_within (.ref 59 :: [.int (xs (i + 1).toNatClampNeg)]) g1 = some (some (.int x), g2) := e2
  simp only [pb_L_19, ev_ald0, ev_ald1, ev_ald2, ev_bin, ev_cv1, ev_i, ev_if2, ev_ild3, ev_rz, ev_sx i1, ev_sx i2, ev_sx i3, ev_sx i4, ev_sx i5, is_8_0, is_9_59, cs8_0, cs8_1, cs8_2, cs8_3, cs8_4, e1, e2, pm_bd_s, pm_tl_s, decide_eq_true_eq, lg_cmp_s, ↓reduceIte]
set_option maxRecDepth 100000 in
theorem lc_20 (hI : Inv h) (i1 : pm_ix (i + 1) L = true) (i2 : pm_ix (i + 2) L = true) (i3 : pm_ix (i + 3) L = true) (i4 : pm_ix (i + 4) L = true) (i5 : pm_ix (i + 5) L = true) : lc_G fb L xs i (P_L xs L 20) h := by
  obtain ⟨x, g1, g2, e1, e2, hJ⟩ := pr_leaning (fb := fb) (d := 1) hI 
  refine ⟨g2, hJ, ?_⟩
  have e1 : rs fb (1 + 100) n_X8_leaning (.ref 0 :: []) h = some (some (.int x), g1) := e1
  have e2 : rs fb (1 + 100) n_X9_leaning (.ref 59 :: []) g1 = some (some (.int x), g2) := e2
  simp only [pb_L_20, ev_ald1, ev_ald2, ev_cv0, ev_i, ev_if2, ev_rz, ev_sx i1, ev_sx i2, ev_sx i3, ev_sx i4, ev_sx i5, is_8_0, is_9_59, cs8_0, cs8_1, cs8_2, cs8_3, cs8_4, e1, e2, pm_bd_s, pm_tl_s, decide_eq_true_eq, lg_cmp_s, ↓reduceIte]
set_option maxRecDepth 100000 in
theorem lc_21 (hI : Inv h) (i1 : pm_ix (i + 1) L = true) (i2 : pm_ix (i + 2) L = true) (i3 : pm_ix (i + 3) L = true) (i4 : pm_ix (i + 4) L = true) (i5 : pm_ix (i + 5) L = true) : lc_G fb L xs i (P_L xs L 21) h := by
  obtain ⟨x, g1, g2, e1, e2, hJ⟩ := pr_straight (fb := fb) (d := 0) hI (xs (i + 1).toNatClampNeg)
  refine ⟨g2, hJ, ?_⟩
  have e1 : rs fb (1 + 100) n_X8_straight (.ref 0 :: [.int (xs (i + 1).toNatClampNeg)]) h = some (some (.long x), g1) := e1
  have e2 : rs fb (1 + 100) n_X9_straight (.ref 59 :: [.int (xs (i + 1).toNatClampNeg)]) g1 = some (some (.long x), g2) := e2
  simp only [pb_L_21, ev_ald0, ev_ald1, ev_ald2, ev_bin, ev_cv1, ev_i, ev_if0, ev_ild3, ev_lcmp, ev_rz, ev_sx i1, ev_sx i2, ev_sx i3, ev_sx i4, ev_sx i5, is_8_0, is_9_59, cs8_0, cs8_1, cs8_2, cs8_3, cs8_4, e1, e2, pm_bd_s, pm_tl_s, decide_eq_true_eq, lg_cmp_s, ↓reduceIte]
set_option maxRecDepth 100000 in
theorem lc_22 (hI : Inv h) (i1 : pm_ix (i + 1) L = true) (i2 : pm_ix (i + 2) L = true) (i3 : pm_ix (i + 3) L = true) (i4 : pm_ix (i + 4) L = true) (i5 : pm_ix (i + 5) L = true) : lc_G fb L xs i (P_L xs L 22) h := by
  obtain ⟨x, g1, g2, e1, e2, hJ⟩ := pr_offIt (fb := fb) (d := 0) hI 
  refine ⟨g2, hJ, ?_⟩
  have e1 : rs fb (1 + 100) n_X8_offIt (.ref 0 :: []) h = some (some (.int x), g1) := e1
  have e2 : rs fb (1 + 100) n_X9_offIt (.ref 59 :: []) g1 = some (some (.int x), g2) := e2
  simp only [pb_L_22, ev_ald1, ev_ald2, ev_cv0, ev_i, ev_if2, ev_rz, ev_sx i1, ev_sx i2, ev_sx i3, ev_sx i4, ev_sx i5, is_8_0, is_9_59, cs8_0, cs8_1, cs8_2, cs8_3, cs8_4, e1, e2, pm_bd_s, pm_tl_s, decide_eq_true_eq, lg_cmp_s, ↓reduceIte]
set_option maxRecDepth 100000 in
theorem lc_23 (hI : Inv h) (i1 : pm_ix (i + 1) L = true) (i2 : pm_ix (i + 2) L = true) (i3 : pm_ix (i + 3) L = true) (i4 : pm_ix (i + 4) L = true) (i5 : pm_ix (i + 5) L = true) : lc_G fb L xs i (P_L xs L 23) h := by
  obtain ⟨x, g1, g2, e1, e2, hJ⟩ := pr_nearest (fb := fb) (d := 1) hI (xs (i + 1).toNatClampNeg) (xs (i + 2).toNatClampNeg)
  refine ⟨g2, hJ, ?_⟩
  have e1 : rs fb (1 + 100) n_X8_nearest (.ref 0 :: [.int (xs (i + 1).toNatClampNeg), .int (xs (i + 2).toNatClampNeg)]) h = some (some (.int x), g1) := e1
  have e2 : rs fb (1 + 100) n_X9_nearest (.ref 59 :: [.int (xs (i + 1).toNatClampNeg), .int (xs (i + 2).toNatClampNeg)]) g1 = some (some (.int x), g2) := e2
  simp only [pb_L_23, ev_ald0, ev_ald1, ev_ald2, ev_bin, ev_cv2, ev_i, ev_if2, ev_ild3, ev_rz, ev_sx i1, ev_sx i2, ev_sx i3, ev_sx i4, ev_sx i5, is_8_0, is_9_59, cs8_0, cs8_1, cs8_2, cs8_3, cs8_4, e1, e2, pm_bd_s, pm_tl_s, decide_eq_true_eq, lg_cmp_s, ↓reduceIte]
set_option maxRecDepth 100000 in
theorem lc_24 (hI : Inv h) (i1 : pm_ix (i + 1) L = true) (i2 : pm_ix (i + 2) L = true) (i3 : pm_ix (i + 3) L = true) (i4 : pm_ix (i + 4) L = true) (i5 : pm_ix (i + 5) L = true) : lc_G fb L xs i (P_L xs L 24) h := by
  obtain ⟨x, g1, g2, e1, e2, hJ⟩ := pr_crosses (fb := fb) (d := 1) hI 
  refine ⟨g2, hJ, ?_⟩
  have e1 : rs fb (1 + 100) n_X8_crosses (.ref 0 :: []) h = some (some (.int x), g1) := e1
  have e2 : rs fb (1 + 100) n_X9_crosses (.ref 59 :: []) g1 = some (some (.int x), g2) := e2
  simp only [pb_L_24, ev_ald1, ev_ald2, ev_cv0, ev_i, ev_if2, ev_rz, ev_sx i1, ev_sx i2, ev_sx i3, ev_sx i4, ev_sx i5, is_8_0, is_9_59, cs8_0, cs8_1, cs8_2, cs8_3, cs8_4, e1, e2, pm_bd_s, pm_tl_s, decide_eq_true_eq, lg_cmp_s, ↓reduceIte]
set_option maxRecDepth 100000 in
theorem lc_25 (hI : Inv h) (i1 : pm_ix (i + 1) L = true) (i2 : pm_ix (i + 2) L = true) (i3 : pm_ix (i + 3) L = true) (i4 : pm_ix (i + 4) L = true) (i5 : pm_ix (i + 5) L = true) : lc_G fb L xs i (P_L xs L 25) h := by
  obtain ⟨x, g1, g2, e1, e2, hJ⟩ := pr_tree (fb := fb) (d := 1) hI (xs (i + 1).toNatClampNeg) (xs (i + 2).toNatClampNeg) (xs (i + 3).toNatClampNeg)
  refine ⟨g2, hJ, ?_⟩
  have e1 : rs fb (1 + 100) n_X8_tree (.ref 0 :: [.int (xs (i + 1).toNatClampNeg), .int (xs (i + 2).toNatClampNeg), .int (xs (i + 3).toNatClampNeg)]) h = some (some (.int x), g1) := e1
  have e2 : rs fb (1 + 100) n_X9_tree (.ref 59 :: [.int (xs (i + 1).toNatClampNeg), .int (xs (i + 2).toNatClampNeg), .int (xs (i + 3).toNatClampNeg)]) g1 = some (some (.int x), g2) := e2
  simp only [pb_L_25, ev_ald0, ev_ald1, ev_ald2, ev_bin, ev_cv3, ev_i, ev_if2, ev_ild3, ev_rz, ev_sx i1, ev_sx i2, ev_sx i3, ev_sx i4, ev_sx i5, is_8_0, is_9_59, cs8_0, cs8_1, cs8_2, cs8_3, cs8_4, e1, e2, pm_bd_s, pm_tl_s, decide_eq_true_eq, lg_cmp_s, ↓reduceIte]
set_option maxRecDepth 100000 in
theorem lc_26 (hI : Inv h) (i1 : pm_ix (i + 1) L = true) (i2 : pm_ix (i + 2) L = true) (i3 : pm_ix (i + 3) L = true) (i4 : pm_ix (i + 4) L = true) (i5 : pm_ix (i + 5) L = true) : lc_G fb L xs i (P_L xs L 26) h := by
  obtain ⟨x, g1, g2, e1, e2, hJ⟩ := pr_treeIs (fb := fb) (d := 1) hI (xs (i + 1).toNatClampNeg) (xs (i + 2).toNatClampNeg)
  refine ⟨g2, hJ, ?_⟩
  have e1 : rs fb (1 + 100) n_X8_treeIs (.ref 0 :: [.int (xs (i + 1).toNatClampNeg), .int (xs (i + 2).toNatClampNeg)]) h = some (some (.int x), g1) := e1
  have e2 : rs fb (1 + 100) n_X9_treeIs (.ref 59 :: [.int (xs (i + 1).toNatClampNeg), .int (xs (i + 2).toNatClampNeg)]) g1 = some (some (.int x), g2) := e2
  simp only [pb_L_26, ev_ald0, ev_ald1, ev_ald2, ev_bin, ev_cv2, ev_i, ev_if2, ev_ild3, ev_rz, ev_sx i1, ev_sx i2, ev_sx i3, ev_sx i4, ev_sx i5, is_8_0, is_9_59, cs8_0, cs8_1, cs8_2, cs8_3, cs8_4, e1, e2, pm_bd_s, pm_tl_s, decide_eq_true_eq, lg_cmp_s, ↓reduceIte]
set_option maxRecDepth 100000 in
theorem lc_27 (hI : Inv h) (i1 : pm_ix (i + 1) L = true) (i2 : pm_ix (i + 2) L = true) (i3 : pm_ix (i + 3) L = true) (i4 : pm_ix (i + 4) L = true) (i5 : pm_ix (i + 5) L = true) : lc_G fb L xs i (P_L xs L 27) h := by
  obtain ⟨x, g1, g2, e1, e2, hJ⟩ := pr_dig (fb := fb) (d := 1) hI (xs (i + 1).toNatClampNeg) (xs (i + 2).toNatClampNeg) (xs (i + 3).toNatClampNeg) (xs (i + 4).toNatClampNeg)
  refine ⟨g2, hJ, ?_⟩
  have e1 : rs fb (1 + 100) n_X8_dig (.ref 0 :: [.int (xs (i + 1).toNatClampNeg), .int (xs (i + 2).toNatClampNeg), .int (xs (i + 3).toNatClampNeg), .int (xs (i + 4).toNatClampNeg)]) h = some (some (.int x), g1) := e1
  have e2 : rs fb (1 + 100) n_X9_dig (.ref 59 :: [.int (xs (i + 1).toNatClampNeg), .int (xs (i + 2).toNatClampNeg), .int (xs (i + 3).toNatClampNeg), .int (xs (i + 4).toNatClampNeg)]) g1 = some (some (.int x), g2) := e2
  simp only [pb_L_27, ev_ald0, ev_ald1, ev_ald2, ev_bin, ev_cv4, ev_i, ev_if2, ev_ild3, ev_rz, ev_sx i1, ev_sx i2, ev_sx i3, ev_sx i4, ev_sx i5, is_8_0, is_9_59, cs8_0, cs8_1, cs8_2, cs8_3, cs8_4, e1, e2, pm_bd_s, pm_tl_s, decide_eq_true_eq, lg_cmp_s, ↓reduceIte]
set_option maxRecDepth 100000 in
theorem lc_28 (hI : Inv h) (i1 : pm_ix (i + 1) L = true) (i2 : pm_ix (i + 2) L = true) (i3 : pm_ix (i + 3) L = true) (i4 : pm_ix (i + 4) L = true) (i5 : pm_ix (i + 5) L = true) : lc_G fb L xs i (P_L xs L 28) h := by
  obtain ⟨x, g1, g2, e1, e2, hJ⟩ := pr_sorts (fb := fb) (d := 1) hI (xs (i + 1).toNatClampNeg)
  refine ⟨g2, hJ, ?_⟩
  have e1 : rs fb (1 + 100) n_X8_sorts (.ref 0 :: [.int (xs (i + 1).toNatClampNeg)]) h = some (some (.int x), g1) := e1
  have e2 : rs fb (1 + 100) n_X9_sorts (.ref 59 :: [.int (xs (i + 1).toNatClampNeg)]) g1 = some (some (.int x), g2) := e2
  simp only [pb_L_28, ev_ald0, ev_ald1, ev_ald2, ev_bin, ev_cv1, ev_i, ev_if2, ev_ild3, ev_rz, ev_sx i1, ev_sx i2, ev_sx i3, ev_sx i4, ev_sx i5, is_8_0, is_9_59, cs8_0, cs8_1, cs8_2, cs8_3, cs8_4, e1, e2, pm_bd_s, pm_tl_s, decide_eq_true_eq, lg_cmp_s, ↓reduceIte]
set_option maxRecDepth 100000 in
theorem lc_29 (hI : Inv h) (i1 : pm_ix (i + 1) L = true) (i2 : pm_ix (i + 2) L = true) (i3 : pm_ix (i + 3) L = true) (i4 : pm_ix (i + 4) L = true) (i5 : pm_ix (i + 5) L = true) : lc_G fb L xs i (P_L xs L 29) h := by
  obtain ⟨x, g1, g2, e1, e2, hJ⟩ := pr_waver (fb := fb) (d := 1) hI (xs (i + 1).toNatClampNeg) (xs (i + 2).toNatClampNeg) (xs (i + 3).toNatClampNeg)
  refine ⟨g2, hJ, ?_⟩
  have e1 : rs fb (1 + 100) n_X8_waver (.ref 0 :: [.int (xs (i + 1).toNatClampNeg), .int (xs (i + 2).toNatClampNeg), .int (xs (i + 3).toNatClampNeg)]) h = some (some (.int x), g1) := e1
  have e2 : rs fb (1 + 100) n_X9_waver (.ref 59 :: [.int (xs (i + 1).toNatClampNeg), .int (xs (i + 2).toNatClampNeg), .int (xs (i + 3).toNatClampNeg)]) g1 = some (some (.int x), g2) := e2
  simp only [pb_L_29, ev_ald0, ev_ald1, ev_ald2, ev_bin, ev_cv3, ev_i, ev_if2, ev_ild3, ev_rz, ev_sx i1, ev_sx i2, ev_sx i3, ev_sx i4, ev_sx i5, is_8_0, is_9_59, cs8_0, cs8_1, cs8_2, cs8_3, cs8_4, e1, e2, pm_bd_s, pm_tl_s, decide_eq_true_eq, lg_cmp_s, ↓reduceIte]
set_option maxRecDepth 100000 in
theorem lc_30 (hI : Inv h) (i1 : pm_ix (i + 1) L = true) (i2 : pm_ix (i + 2) L = true) (i3 : pm_ix (i + 3) L = true) (i4 : pm_ix (i + 4) L = true) (i5 : pm_ix (i + 5) L = true) : lc_G fb L xs i (P_L xs L 30) h := by
  obtain ⟨x, g1, g2, e1, e2, hJ⟩ := pr_still (fb := fb) (d := 1) hI 
  refine ⟨g2, hJ, ?_⟩
  have e1 : rs fb (1 + 100) n_X8_still (.ref 0 :: []) h = some (some (.int x), g1) := e1
  have e2 : rs fb (1 + 100) n_X9_still (.ref 59 :: []) g1 = some (some (.int x), g2) := e2
  simp only [pb_L_30, ev_ald1, ev_ald2, ev_cv0, ev_i, ev_if2, ev_rz, ev_sx i1, ev_sx i2, ev_sx i3, ev_sx i4, ev_sx i5, is_8_0, is_9_59, cs8_0, cs8_1, cs8_2, cs8_3, cs8_4, e1, e2, pm_bd_s, pm_tl_s, decide_eq_true_eq, lg_cmp_s, ↓reduceIte]
set_option maxRecDepth 100000 in
theorem lc_31 (hI : Inv h) (i1 : pm_ix (i + 1) L = true) (i2 : pm_ix (i + 2) L = true) (i3 : pm_ix (i + 3) L = true) (i4 : pm_ix (i + 4) L = true) (i5 : pm_ix (i + 5) L = true) : lc_G fb L xs i (P_L xs L 31) h := by
  obtain ⟨x, g1, g2, e1, e2, hJ⟩ := pr_seed (fb := fb) (d := 1) hI (xs (i + 1).toNatClampNeg)
  refine ⟨g2, hJ, ?_⟩
  have e1 : rs fb (1 + 100) n_X8_seed (.ref 0 :: [.int (xs (i + 1).toNatClampNeg)]) h = some (some (.int x), g1) := e1
  have e2 : rs fb (1 + 100) n_X9_seed (.ref 59 :: [.int (xs (i + 1).toNatClampNeg)]) g1 = some (some (.int x), g2) := e2
  simp only [pb_L_31, ev_ald0, ev_ald1, ev_ald2, ev_bin, ev_cv1, ev_i, ev_if2, ev_ild3, ev_rz, ev_sx i1, ev_sx i2, ev_sx i3, ev_sx i4, ev_sx i5, is_8_0, is_9_59, cs8_0, cs8_1, cs8_2, cs8_3, cs8_4, e1, e2, pm_bd_s, pm_tl_s, decide_eq_true_eq, lg_cmp_s, ↓reduceIte]
set_option maxRecDepth 100000 in
theorem lc_32 (hI : Inv h) (i1 : pm_ix (i + 1) L = true) (i2 : pm_ix (i + 2) L = true) (i3 : pm_ix (i + 3) L = true) (i4 : pm_ix (i + 4) L = true) (i5 : pm_ix (i + 5) L = true) : lc_G fb L xs i (P_L xs L 32) h := by
  obtain ⟨x, g1, g2, e1, e2, hJ⟩ := pr_voice (fb := fb) (d := 1) hI (xs (i + 1).toNatClampNeg) (xs (i + 2).toNatClampNeg) (xs (i + 3).toNatClampNeg)
  refine ⟨g2, hJ, ?_⟩
  have e1 : rs fb (1 + 100) n_X8_voice (.ref 0 :: [.int (xs (i + 1).toNatClampNeg), .int (xs (i + 2).toNatClampNeg), .int (xs (i + 3).toNatClampNeg)]) h = some (some (.int x), g1) := e1
  have e2 : rs fb (1 + 100) n_X9_voice (.ref 59 :: [.int (xs (i + 1).toNatClampNeg), .int (xs (i + 2).toNatClampNeg), .int (xs (i + 3).toNatClampNeg)]) g1 = some (some (.int x), g2) := e2
  simp only [pb_L_32, ev_ald0, ev_ald1, ev_ald2, ev_bin, ev_cv3, ev_i, ev_if2, ev_ild3, ev_rz, ev_sx i1, ev_sx i2, ev_sx i3, ev_sx i4, ev_sx i5, is_8_0, is_9_59, cs8_0, cs8_1, cs8_2, cs8_3, cs8_4, e1, e2, pm_bd_s, pm_tl_s, decide_eq_true_eq, lg_cmp_s, ↓reduceIte]
set_option maxRecDepth 100000 in
theorem lc_33 (hI : Inv h) (i1 : pm_ix (i + 1) L = true) (i2 : pm_ix (i + 2) L = true) (i3 : pm_ix (i + 3) L = true) (i4 : pm_ix (i + 4) L = true) (i5 : pm_ix (i + 5) L = true) : lc_G fb L xs i (P_L xs L 33) h := by
  obtain ⟨x, g1, g2, e1, e2, hJ⟩ := pr_body (fb := fb) (d := 1) hI (xs (i + 1).toNatClampNeg)
  refine ⟨g2, hJ, ?_⟩
  have e1 : rs fb (1 + 100) n_X8_body (.ref 0 :: [.int (xs (i + 1).toNatClampNeg)]) h = some (some (.int x), g1) := e1
  have e2 : rs fb (1 + 100) n_X9_body_ (.ref 59 :: [.int (xs (i + 1).toNatClampNeg)]) g1 = some (some (.int x), g2) := e2
  simp only [pb_L_33, ev_ald0, ev_ald1, ev_ald2, ev_bin, ev_cv1, ev_i, ev_if2, ev_ild3, ev_rz, ev_sx i1, ev_sx i2, ev_sx i3, ev_sx i4, ev_sx i5, is_8_0, is_9_59, cs8_0, cs8_1, cs8_2, cs8_3, cs8_4, e1, e2, pm_bd_s, pm_tl_s, decide_eq_true_eq, lg_cmp_s, ↓reduceIte]
set_option maxRecDepth 100000 in
theorem lc_34 (hI : Inv h) (i1 : pm_ix (i + 1) L = true) (i2 : pm_ix (i + 2) L = true) (i3 : pm_ix (i + 3) L = true) (i4 : pm_ix (i + 4) L = true) (i5 : pm_ix (i + 5) L = true) : lc_G fb L xs i (P_L xs L 34) h := by
  obtain ⟨x, g1, g2, e1, e2, hJ⟩ := pr_sheet (fb := fb) (d := 1) hI (xs (i + 1).toNatClampNeg) (xs (i + 2).toNatClampNeg) (xs (i + 3).toNatClampNeg)
  refine ⟨g2, hJ, ?_⟩
  have e1 : rs fb (1 + 100) n_X8_sheet (.ref 0 :: [.int (xs (i + 1).toNatClampNeg), .int (xs (i + 2).toNatClampNeg), .int (xs (i + 3).toNatClampNeg)]) h = some (some (.int x), g1) := e1
  have e2 : rs fb (1 + 100) n_X9_sheet (.ref 59 :: [.int (xs (i + 1).toNatClampNeg), .int (xs (i + 2).toNatClampNeg), .int (xs (i + 3).toNatClampNeg)]) g1 = some (some (.int x), g2) := e2
  simp only [pb_L_34, ev_ald0, ev_ald1, ev_ald2, ev_bin, ev_cv3, ev_i, ev_if2, ev_ild3, ev_rz, ev_sx i1, ev_sx i2, ev_sx i3, ev_sx i4, ev_sx i5, is_8_0, is_9_59, cs8_0, cs8_1, cs8_2, cs8_3, cs8_4, e1, e2, pm_bd_s, pm_tl_s, decide_eq_true_eq, lg_cmp_s, ↓reduceIte]
set_option maxRecDepth 100000 in
theorem lc_35 (hI : Inv h) (i1 : pm_ix (i + 1) L = true) (i2 : pm_ix (i + 2) L = true) (i3 : pm_ix (i + 3) L = true) (i4 : pm_ix (i + 4) L = true) (i5 : pm_ix (i + 5) L = true) : lc_G fb L xs i (P_L xs L 35) h := by
  obtain ⟨x, g1, g2, e1, e2, hJ⟩ := pr_put (fb := fb) (d := 1) hI (xs (i + 1).toNatClampNeg) (xs (i + 2).toNatClampNeg) (xs (i + 3).toNatClampNeg)
  refine ⟨g2, hJ, ?_⟩
  have e1 : rs fb (1 + 100) n_X8_put (.ref 0 :: [.int (xs (i + 1).toNatClampNeg), .int (xs (i + 2).toNatClampNeg), .int (xs (i + 3).toNatClampNeg)]) h = some (some (.int x), g1) := e1
  have e2 : rs fb (1 + 100) n_X9_put (.ref 59 :: [.int (xs (i + 1).toNatClampNeg), .int (xs (i + 2).toNatClampNeg), .int (xs (i + 3).toNatClampNeg)]) g1 = some (some (.int x), g2) := e2
  simp only [pb_L_35, ev_ald0, ev_ald1, ev_ald2, ev_bin, ev_cv3, ev_i, ev_if2, ev_ild3, ev_rz, ev_sx i1, ev_sx i2, ev_sx i3, ev_sx i4, ev_sx i5, is_8_0, is_9_59, cs8_0, cs8_1, cs8_2, cs8_3, cs8_4, e1, e2, pm_bd_s, pm_tl_s, decide_eq_true_eq, lg_cmp_s, ↓reduceIte]
set_option maxRecDepth 100000 in
theorem lc_36 (hI : Inv h) (i1 : pm_ix (i + 1) L = true) (i2 : pm_ix (i + 2) L = true) (i3 : pm_ix (i + 3) L = true) (i4 : pm_ix (i + 4) L = true) (i5 : pm_ix (i + 5) L = true) : lc_G fb L xs i (P_L xs L 36) h := by
  obtain ⟨x, g1, g2, e1, e2, hJ⟩ := pr_move (fb := fb) (d := 1) hI (xs (i + 1).toNatClampNeg) (xs (i + 2).toNatClampNeg) (xs (i + 3).toNatClampNeg) (xs (i + 4).toNatClampNeg) (xs (i + 5).toNatClampNeg)
  refine ⟨g2, hJ, ?_⟩
  have e1 : rs fb (1 + 100) n_X8_move (.ref 0 :: [.int (xs (i + 1).toNatClampNeg), .int (xs (i + 2).toNatClampNeg), .int (xs (i + 3).toNatClampNeg), .int (xs (i + 4).toNatClampNeg), .int (xs (i + 5).toNatClampNeg)]) h = some (some (.int x), g1) := e1
  have e2 : rs fb (1 + 100) n_X9_move (.ref 59 :: [.int (xs (i + 1).toNatClampNeg), .int (xs (i + 2).toNatClampNeg), .int (xs (i + 3).toNatClampNeg), .int (xs (i + 4).toNatClampNeg), .int (xs (i + 5).toNatClampNeg)]) g1 = some (some (.int x), g2) := e2
  simp only [pb_L_36, ev_ald0, ev_ald1, ev_ald2, ev_bin, ev_cv5, ev_i, ev_if2, ev_ild3, ev_rz, ev_sx i1, ev_sx i2, ev_sx i3, ev_sx i4, ev_sx i5, is_8_0, is_9_59, cs8_0, cs8_1, cs8_2, cs8_3, cs8_4, e1, e2, pm_bd_s, pm_tl_s, decide_eq_true_eq, lg_cmp_s, ↓reduceIte]
set_option maxRecDepth 100000 in
theorem lc_37 (hI : Inv h) (i1 : pm_ix (i + 1) L = true) (i2 : pm_ix (i + 2) L = true) (i3 : pm_ix (i + 3) L = true) (i4 : pm_ix (i + 4) L = true) (i5 : pm_ix (i + 5) L = true) : lc_G fb L xs i (P_L xs L 37) h := by
  obtain ⟨x, g1, g2, e1, e2, hJ⟩ := pr_judge (fb := fb) (d := 1) hI (xs (i + 1).toNatClampNeg) (xs (i + 2).toNatClampNeg)
  refine ⟨g2, hJ, ?_⟩
  have e1 : rs fb (1 + 100) n_X8_judge (.ref 0 :: [.int (xs (i + 1).toNatClampNeg), .int (xs (i + 2).toNatClampNeg)]) h = some (some (.int x), g1) := e1
  have e2 : rs fb (1 + 100) n_X9_judge (.ref 59 :: [.int (xs (i + 1).toNatClampNeg), .int (xs (i + 2).toNatClampNeg)]) g1 = some (some (.int x), g2) := e2
  simp only [pb_L_37, ev_ald0, ev_ald1, ev_ald2, ev_bin, ev_cv2, ev_i, ev_if2, ev_ild3, ev_rz, ev_sx i1, ev_sx i2, ev_sx i3, ev_sx i4, ev_sx i5, is_8_0, is_9_59, cs8_0, cs8_1, cs8_2, cs8_3, cs8_4, e1, e2, pm_bd_s, pm_tl_s, decide_eq_true_eq, lg_cmp_s, ↓reduceIte]
set_option maxRecDepth 100000 in
theorem lc_38 (hI : Inv h) (i1 : pm_ix (i + 1) L = true) (i2 : pm_ix (i + 2) L = true) (i3 : pm_ix (i + 3) L = true) (i4 : pm_ix (i + 4) L = true) (i5 : pm_ix (i + 5) L = true) : lc_G fb L xs i (P_L xs L 38) h := by
  obtain ⟨x, g1, g2, e1, e2, hJ⟩ := pr_even (fb := fb) (d := 1) hI (xs (i + 1).toNatClampNeg) (xs (i + 2).toNatClampNeg)
  refine ⟨g2, hJ, ?_⟩
  have e1 : rs fb (1 + 100) n_X8_even (.ref 0 :: [.int (xs (i + 1).toNatClampNeg), .int (xs (i + 2).toNatClampNeg)]) h = some (some (.int x), g1) := e1
  have e2 : rs fb (1 + 100) n_X9_even (.ref 59 :: [.int (xs (i + 1).toNatClampNeg), .int (xs (i + 2).toNatClampNeg)]) g1 = some (some (.int x), g2) := e2
  simp only [pb_L_38, ev_ald0, ev_ald1, ev_ald2, ev_bin, ev_cv2, ev_i, ev_if2, ev_ild3, ev_rz, ev_sx i1, ev_sx i2, ev_sx i3, ev_sx i4, ev_sx i5, is_8_0, is_9_59, cs8_0, cs8_1, cs8_2, cs8_3, cs8_4, e1, e2, pm_bd_s, pm_tl_s, decide_eq_true_eq, lg_cmp_s, ↓reduceIte]
set_option maxRecDepth 100000 in
theorem lc_39 (hI : Inv h) (i1 : pm_ix (i + 1) L = true) (i2 : pm_ix (i + 2) L = true) (i3 : pm_ix (i + 3) L = true) (i4 : pm_ix (i + 4) L = true) (i5 : pm_ix (i + 5) L = true) : lc_G fb L xs i (P_L xs L 39) h := by
  obtain ⟨x, g1, g2, e1, e2, hJ⟩ := pr_image (fb := fb) (d := 1) hI 
  refine ⟨g2, hJ, ?_⟩
  have e1 : rs fb (1 + 100) n_X8_image (.ref 0 :: []) h = some (some (.int x), g1) := e1
  have e2 : rs fb (1 + 100) n_X9_image (.ref 59 :: []) g1 = some (some (.int x), g2) := e2
  simp only [pb_L_39, ev_ald1, ev_ald2, ev_cv0, ev_i, ev_if2, ev_rz, ev_sx i1, ev_sx i2, ev_sx i3, ev_sx i4, ev_sx i5, is_8_0, is_9_59, cs8_0, cs8_1, cs8_2, cs8_3, cs8_4, e1, e2, pm_bd_s, pm_tl_s, decide_eq_true_eq, lg_cmp_s, ↓reduceIte]
set_option maxRecDepth 100000 in
theorem lc_40 (hI : Inv h) (i1 : pm_ix (i + 1) L = true) (i2 : pm_ix (i + 2) L = true) (i3 : pm_ix (i + 3) L = true) (i4 : pm_ix (i + 4) L = true) (i5 : pm_ix (i + 5) L = true) : lc_G fb L xs i (P_L xs L 40) h := by
  obtain ⟨x, g1, g2, e1, e2, hJ⟩ := pr_restore (fb := fb) (d := 1) hI 
  refine ⟨g2, hJ, ?_⟩
  have e1 : rs fb (1 + 100) n_X8_restore (.ref 0 :: []) h = some (some (.int x), g1) := e1
  have e2 : rs fb (1 + 100) n_X9_restore (.ref 59 :: []) g1 = some (some (.int x), g2) := e2
  simp only [pb_L_40, ev_ald1, ev_ald2, ev_cv0, ev_i, ev_if2, ev_rz, ev_sx i1, ev_sx i2, ev_sx i3, ev_sx i4, ev_sx i5, is_8_0, is_9_59, cs8_0, cs8_1, cs8_2, cs8_3, cs8_4, e1, e2, pm_bd_s, pm_tl_s, decide_eq_true_eq, lg_cmp_s, ↓reduceIte]
set_option maxRecDepth 100000 in
theorem lc_41 (hI : Inv h) (i1 : pm_ix (i + 1) L = true) (i2 : pm_ix (i + 2) L = true) (i3 : pm_ix (i + 3) L = true) (i4 : pm_ix (i + 4) L = true) (i5 : pm_ix (i + 5) L = true) : lc_G fb L xs i (P_L xs L 41) h := by
  obtain ⟨x, g1, g2, e1, e2, hJ⟩ := pr_tell (fb := fb) (d := 1) hI (xs (i + 1).toNatClampNeg)
  refine ⟨g2, hJ, ?_⟩
  have e1 : rs fb (1 + 100) n_X8_tell (.ref 0 :: [.int (xs (i + 1).toNatClampNeg)]) h = some (some (.int x), g1) := e1
  have e2 : rs fb (1 + 100) n_X9_tell (.ref 59 :: [.int (xs (i + 1).toNatClampNeg)]) g1 = some (some (.int x), g2) := e2
  simp only [pb_L_41, ev_ald0, ev_ald1, ev_ald2, ev_bin, ev_cv1, ev_i, ev_if2, ev_ild3, ev_rz, ev_sx i1, ev_sx i2, ev_sx i3, ev_sx i4, ev_sx i5, is_8_0, is_9_59, cs8_0, cs8_1, cs8_2, cs8_3, cs8_4, e1, e2, pm_bd_s, pm_tl_s, decide_eq_true_eq, lg_cmp_s, ↓reduceIte]
set_option maxRecDepth 100000 in
theorem lc_42 (hI : Inv h) (i1 : pm_ix (i + 1) L = true) (i2 : pm_ix (i + 2) L = true) (i3 : pm_ix (i + 3) L = true) (i4 : pm_ix (i + 4) L = true) (i5 : pm_ix (i + 5) L = true) : lc_G fb L xs i (P_L xs L 42) h := by
  obtain ⟨x, g1, g2, e1, e2, hJ⟩ := pr_check (fb := fb) (d := 1) hI 
  refine ⟨g2, hJ, ?_⟩
  have e1 : rs fb (1 + 100) n_X8_check (.ref 0 :: []) h = some (some (.int x), g1) := e1
  have e2 : rs fb (1 + 100) n_X9_check (.ref 59 :: []) g1 = some (some (.int x), g2) := e2
  simp only [pb_L_42, ev_ald1, ev_ald2, ev_cv0, ev_i, ev_if2, ev_rz, ev_sx i1, ev_sx i2, ev_sx i3, ev_sx i4, ev_sx i5, is_8_0, is_9_59, cs8_0, cs8_1, cs8_2, cs8_3, cs8_4, e1, e2, pm_bd_s, pm_tl_s, decide_eq_true_eq, lg_cmp_s, ↓reduceIte]
set_option maxRecDepth 100000 in
theorem lc_43 (hI : Inv h) (i1 : pm_ix (i + 1) L = true) (i2 : pm_ix (i + 2) L = true) (i3 : pm_ix (i + 3) L = true) (i4 : pm_ix (i + 4) L = true) (i5 : pm_ix (i + 5) L = true) : lc_G fb L xs i (P_L xs L 43) h := by
  obtain ⟨x, g1, g2, e1, e2, hJ⟩ := pr_count (fb := fb) (d := 1) hI (xs (i + 1).toNatClampNeg)
  refine ⟨g2, hJ, ?_⟩
  have e1 : rs fb (1 + 100) n_X8_count (.ref 0 :: [.int (xs (i + 1).toNatClampNeg)]) h = some (some (.int x), g1) := e1
  have e2 : rs fb (1 + 100) n_X9_count (.ref 59 :: [.int (xs (i + 1).toNatClampNeg)]) g1 = some (some (.int x), g2) := e2
  simp only [pb_L_43, ev_ald0, ev_ald1, ev_ald2, ev_bin, ev_cv1, ev_i, ev_if2, ev_ild3, ev_rz, ev_sx i1, ev_sx i2, ev_sx i3, ev_sx i4, ev_sx i5, is_8_0, is_9_59, cs8_0, cs8_1, cs8_2, cs8_3, cs8_4, e1, e2, pm_bd_s, pm_tl_s, decide_eq_true_eq, lg_cmp_s, ↓reduceIte]
set_option maxRecDepth 100000 in
theorem lc_44 (hI : Inv h) (i1 : pm_ix (i + 1) L = true) (i2 : pm_ix (i + 2) L = true) (i3 : pm_ix (i + 3) L = true) (i4 : pm_ix (i + 4) L = true) (i5 : pm_ix (i + 5) L = true) : lc_G fb L xs i (P_L xs L 44) h := by
  obtain ⟨x, g1, g2, e1, e2, hJ⟩ := pr_told (fb := fb) (d := 1) hI (xs (i + 1).toNatClampNeg)
  refine ⟨g2, hJ, ?_⟩
  have e1 : rs fb (1 + 100) n_X8_told (.ref 0 :: [.int (xs (i + 1).toNatClampNeg)]) h = some (some (.int x), g1) := e1
  have e2 : rs fb (1 + 100) n_X9_told (.ref 59 :: [.int (xs (i + 1).toNatClampNeg)]) g1 = some (some (.int x), g2) := e2
  simp only [pb_L_44, ev_ald0, ev_ald1, ev_ald2, ev_bin, ev_cv1, ev_i, ev_if2, ev_ild3, ev_rz, ev_sx i1, ev_sx i2, ev_sx i3, ev_sx i4, ev_sx i5, is_8_0, is_9_59, cs8_0, cs8_1, cs8_2, cs8_3, cs8_4, e1, e2, pm_bd_s, pm_tl_s, decide_eq_true_eq, lg_cmp_s, ↓reduceIte]
end LL
