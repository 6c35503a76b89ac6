/-! THE REFERENCE GOES THE LINE -/
section R2
variable {fb : Bool} {d : Nat} {h : pm_HP}
set_option maxRecDepth 100000 in
set_option maxHeartbeats 2000000 in
theorem sr_does0 {s i : Nat} (hs : s < 8) (hi : i < 24) (hft : rl h 1 s ≤ rl h 2 s) : rs fb (d + 2) n_X9_doesAt [.ref 59, .int (nI s), .int (nI i), .int 0] h = some (some (.int (leF (rl h 0 s) (rl h 1 s) (rl h 2 s) (rl h 3 s) (nI i))), h) := by
  rw [en_X9_doesAt]
  unfold leF
  have w0 : (0 : Int32) = 0 := rfl
  by_cases sp : rl h 1 s ≤ nI i ∧ nI i ≤ rl h 2 s
  · have spT : (rl h 1 s ≤ nI i ∧ nI i ≤ rl h 2 s) = True := eq_true sp
    have hq : (nI i = rl h 1 s) = True ∨ (nI i = rl h 1 s) = False := by
      by_cases q : nI i = rl h 1 s
      · exact Or.inl (eq_true q)
      · exact Or.inr (eq_false q)
    have hw : (rm h 2 i ≤ 0) = True ∧ (0 < rm h 2 i) = False ∨ (rm h 2 i ≤ 0) = False ∧ (0 < rm h 2 i) = True := by
      by_cases q : rm h 2 i ≤ 0
      · exact Or.inl ⟨eq_true q, eq_false (Int32.not_lt.mpr q)⟩
      · exact Or.inr ⟨eq_false q, eq_true (Int32.not_le.mp q)⟩
    rcases hq with hq | hq <;> rcases hw with ⟨hw, hw2⟩ | ⟨hw, hw2⟩ <;> simp only [c20, c2i, c2n, c2r, cs8_0, cs8_1, cs8_2, cs8_3, cs8_4, decide_eq_true_eq, ev_ald0, ev_aldn0, ev_bin, ev_cs3, ev_cv2, ev_dv, ev_go, ev_i, ev_if0, ev_if2, ev_ild1, ev_ild2, ev_ild3, ev_ild4, ev_ild5, ev_ild6, ev_ild7, ev_ist4, ev_ist5, ev_ist6, ev_ist7, ev_ri, ev_sw_0, ev_sw_1, i00, i01, i10, pm_bd_s, pm_tl_n, pm_tl_s, ↓reduceIte, pb_X9_doesAt_0, pb_X9_doesAt_1, pb_X9_doesAt_2, pb_X9_doesAt_3, pb_X9_doesAt_4, pb_X9_doesAt_5, pb_X9_doesAt_6, pb_X9_doesAt_7, pb_X9_doesAt_8, pb_X9_doesAt_9, pb_X9_doesAt_10, pb_X9_doesAt_11, pb_X9_doesAt_12, pb_X9_doesAt_13, pb_X9_doesAt_14, pb_X9_doesAt_15, pb_X9_doesAt_16, pb_X9_doesAt_17, pb_X9_doesAt_18, pb_X9_doesAt_19, pb_X9_doesAt_20, pb_X9_doesAt_21, pb_X9_doesAt_22, pb_X9_doesAt_23, pb_X9_doesAt_24, pb_X9_doesAt_25, pb_X9_doesAt_26, pb_X9_doesAt_27, kd_59, rf_59_0, rf_59_1, rf_59_3, rf_59_4, rf_59_5, rf_59_6, rf_59_7, rf_59_12, rf_59_14, rf_59_15, rf_59_16, rf_59_19, rf_59_23, rf_59_24, rf_59_25, rf_59_26, is_9_59, rl_0 hs, rl_1 hs, rl_2 hs, rl_3 hs, rm_1 hi, rm_2 hi, sr_isIn, bI_n0, spT, hq, hw, hw2, not_true_eq_false, not_false_eq_true] <;> (repeat' split) <;> simp_all
  · have spF : (rl h 1 s ≤ nI i ∧ nI i ≤ rl h 2 s) = False := eq_false sp
    simp only [c20, c2i, c2n, c2r, cs8_0, cs8_1, cs8_2, cs8_3, cs8_4, decide_eq_true_eq, ev_ald0, ev_aldn0, ev_bin, ev_cs3, ev_cv2, ev_dv, ev_go, ev_i, ev_if0, ev_if2, ev_ild1, ev_ild2, ev_ild3, ev_ild4, ev_ild5, ev_ild6, ev_ild7, ev_ist4, ev_ist5, ev_ist6, ev_ist7, ev_ri, ev_sw_0, ev_sw_1, i00, i01, i10, pm_bd_s, pm_tl_n, pm_tl_s, ↓reduceIte, pb_X9_doesAt_0, pb_X9_doesAt_1, kd_59, rf_59_0, rf_59_1, rf_59_3, rf_59_4, rf_59_5, rf_59_6, rf_59_7, rf_59_12, rf_59_14, rf_59_15, rf_59_16, rf_59_19, rf_59_23, rf_59_24, rf_59_25, rf_59_26, is_9_59, rl_1 hs, rl_2 hs, sr_isIn, bI_n0, spF]
    have q1 : ¬ (nI i = rl h 1 s) := fun q => sp ⟨by rw [q]; exact Int32.le_refl _, by rw [q]; exact hft⟩
    simp [sp, q1]
set_option maxRecDepth 100000 in
set_option maxHeartbeats 2000000 in
theorem sr_does1 {s i : Nat} (hs : s < 8) (hi : i < 24) (hft : rl h 1 s ≤ rl h 2 s) : rs fb (d + 2) n_X9_doesAt [.ref 59, .int (nI s), .int (nI i), .int 1] h = some (some (.int (puF (rl h 0 s) (rl h 1 s) (rl h 2 s) (rl h 3 s) (nI i) (rm h 2 i))), h) := by
  rw [en_X9_doesAt]
  unfold puF
  have w0 : (1 : Int32) = 1 := rfl
  by_cases sp : rl h 1 s ≤ nI i ∧ nI i ≤ rl h 2 s
  · have spT : (rl h 1 s ≤ nI i ∧ nI i ≤ rl h 2 s) = True := eq_true sp
    have hq : (nI i = rl h 1 s) = True ∨ (nI i = rl h 1 s) = False := by
      by_cases q : nI i = rl h 1 s
      · exact Or.inl (eq_true q)
      · exact Or.inr (eq_false q)
    have hw : (rm h 2 i ≤ 0) = True ∧ (0 < rm h 2 i) = False ∨ (rm h 2 i ≤ 0) = False ∧ (0 < rm h 2 i) = True := by
      by_cases q : rm h 2 i ≤ 0
      · exact Or.inl ⟨eq_true q, eq_false (Int32.not_lt.mpr q)⟩
      · exact Or.inr ⟨eq_false q, eq_true (Int32.not_le.mp q)⟩
    rcases hq with hq | hq <;> rcases hw with ⟨hw, hw2⟩ | ⟨hw, hw2⟩ <;> simp only [c20, c2i, c2n, c2r, cs8_0, cs8_1, cs8_2, cs8_3, cs8_4, decide_eq_true_eq, ev_ald0, ev_aldn0, ev_bin, ev_cs3, ev_cv2, ev_dv, ev_go, ev_i, ev_if0, ev_if2, ev_ild1, ev_ild2, ev_ild3, ev_ild4, ev_ild5, ev_ild6, ev_ild7, ev_ist4, ev_ist5, ev_ist6, ev_ist7, ev_ri, ev_sw_0, ev_sw_1, i00, i01, i10, pm_bd_s, pm_tl_n, pm_tl_s, ↓reduceIte, pb_X9_doesAt_0, pb_X9_doesAt_1, pb_X9_doesAt_2, pb_X9_doesAt_3, pb_X9_doesAt_4, pb_X9_doesAt_5, pb_X9_doesAt_6, pb_X9_doesAt_7, pb_X9_doesAt_8, pb_X9_doesAt_9, pb_X9_doesAt_10, pb_X9_doesAt_11, pb_X9_doesAt_12, pb_X9_doesAt_13, pb_X9_doesAt_14, pb_X9_doesAt_15, pb_X9_doesAt_16, pb_X9_doesAt_17, pb_X9_doesAt_18, pb_X9_doesAt_19, pb_X9_doesAt_20, pb_X9_doesAt_21, pb_X9_doesAt_22, pb_X9_doesAt_23, pb_X9_doesAt_24, pb_X9_doesAt_25, pb_X9_doesAt_26, pb_X9_doesAt_27, kd_59, rf_59_0, rf_59_1, rf_59_3, rf_59_4, rf_59_5, rf_59_6, rf_59_7, rf_59_12, rf_59_14, rf_59_15, rf_59_16, rf_59_19, rf_59_23, rf_59_24, rf_59_25, rf_59_26, is_9_59, rl_0 hs, rl_1 hs, rl_2 hs, rl_3 hs, rm_1 hi, rm_2 hi, sr_isIn, bI_n0, spT, hq, hw, hw2, not_true_eq_false, not_false_eq_true] <;> (repeat' split) <;> simp_all
  · have spF : (rl h 1 s ≤ nI i ∧ nI i ≤ rl h 2 s) = False := eq_false sp
    simp only [c20, c2i, c2n, c2r, cs8_0, cs8_1, cs8_2, cs8_3, cs8_4, decide_eq_true_eq, ev_ald0, ev_aldn0, ev_bin, ev_cs3, ev_cv2, ev_dv, ev_go, ev_i, ev_if0, ev_if2, ev_ild1, ev_ild2, ev_ild3, ev_ild4, ev_ild5, ev_ild6, ev_ild7, ev_ist4, ev_ist5, ev_ist6, ev_ist7, ev_ri, ev_sw_0, ev_sw_1, i00, i01, i10, pm_bd_s, pm_tl_n, pm_tl_s, ↓reduceIte, pb_X9_doesAt_0, pb_X9_doesAt_1, kd_59, rf_59_0, rf_59_1, rf_59_3, rf_59_4, rf_59_5, rf_59_6, rf_59_7, rf_59_12, rf_59_14, rf_59_15, rf_59_16, rf_59_19, rf_59_23, rf_59_24, rf_59_25, rf_59_26, is_9_59, rl_1 hs, rl_2 hs, sr_isIn, bI_n0, spF]
    try simp [sp]
set_option maxRecDepth 100000 in
set_option maxHeartbeats 2000000 in
theorem sr_does2 {s i : Nat} (hs : s < 8) (hi : i < 24) (hft : rl h 1 s ≤ rl h 2 s) : rs fb (d + 2) n_X9_doesAt [.ref 59, .int (nI s), .int (nI i), .int 2] h = some (some (.int (shF (rl h 0 s) (rl h 1 s) (rl h 2 s) (rl h 3 s) (nI i) (rm h 1 i))), h) := by
  rw [en_X9_doesAt]
  unfold shF
  have w0 : (2 : Int32) = 2 := rfl
  by_cases sp : rl h 1 s ≤ nI i ∧ nI i ≤ rl h 2 s
  · have spT : (rl h 1 s ≤ nI i ∧ nI i ≤ rl h 2 s) = True := eq_true sp
    have hq : (nI i = rl h 1 s) = True ∨ (nI i = rl h 1 s) = False := by
      by_cases q : nI i = rl h 1 s
      · exact Or.inl (eq_true q)
      · exact Or.inr (eq_false q)
    have hw : (rm h 2 i ≤ 0) = True ∧ (0 < rm h 2 i) = False ∨ (rm h 2 i ≤ 0) = False ∧ (0 < rm h 2 i) = True := by
      by_cases q : rm h 2 i ≤ 0
      · exact Or.inl ⟨eq_true q, eq_false (Int32.not_lt.mpr q)⟩
      · exact Or.inr ⟨eq_false q, eq_true (Int32.not_le.mp q)⟩
    rcases hq with hq | hq <;> rcases hw with ⟨hw, hw2⟩ | ⟨hw, hw2⟩ <;> simp only [c20, c2i, c2n, c2r, cs8_0, cs8_1, cs8_2, cs8_3, cs8_4, decide_eq_true_eq, ev_ald0, ev_aldn0, ev_bin, ev_cs3, ev_cv2, ev_dv, ev_go, ev_i, ev_if0, ev_if2, ev_ild1, ev_ild2, ev_ild3, ev_ild4, ev_ild5, ev_ild6, ev_ild7, ev_ist4, ev_ist5, ev_ist6, ev_ist7, ev_ri, ev_sw_0, ev_sw_1, i00, i01, i10, pm_bd_s, pm_tl_n, pm_tl_s, ↓reduceIte, pb_X9_doesAt_0, pb_X9_doesAt_1, pb_X9_doesAt_2, pb_X9_doesAt_3, pb_X9_doesAt_4, pb_X9_doesAt_5, pb_X9_doesAt_6, pb_X9_doesAt_7, pb_X9_doesAt_8, pb_X9_doesAt_9, pb_X9_doesAt_10, pb_X9_doesAt_11, pb_X9_doesAt_12, pb_X9_doesAt_13, pb_X9_doesAt_14, pb_X9_doesAt_15, pb_X9_doesAt_16, pb_X9_doesAt_17, pb_X9_doesAt_18, pb_X9_doesAt_19, pb_X9_doesAt_20, pb_X9_doesAt_21, pb_X9_doesAt_22, pb_X9_doesAt_23, pb_X9_doesAt_24, pb_X9_doesAt_25, pb_X9_doesAt_26, pb_X9_doesAt_27, kd_59, rf_59_0, rf_59_1, rf_59_3, rf_59_4, rf_59_5, rf_59_6, rf_59_7, rf_59_12, rf_59_14, rf_59_15, rf_59_16, rf_59_19, rf_59_23, rf_59_24, rf_59_25, rf_59_26, is_9_59, rl_0 hs, rl_1 hs, rl_2 hs, rl_3 hs, rm_1 hi, rm_2 hi, sr_isIn, bI_n0, spT, hq, hw, hw2, not_true_eq_false, not_false_eq_true] <;> (repeat' split) <;> simp_all
  · have spF : (rl h 1 s ≤ nI i ∧ nI i ≤ rl h 2 s) = False := eq_false sp
    simp only [c20, c2i, c2n, c2r, cs8_0, cs8_1, cs8_2, cs8_3, cs8_4, decide_eq_true_eq, ev_ald0, ev_aldn0, ev_bin, ev_cs3, ev_cv2, ev_dv, ev_go, ev_i, ev_if0, ev_if2, ev_ild1, ev_ild2, ev_ild3, ev_ild4, ev_ild5, ev_ild6, ev_ild7, ev_ist4, ev_ist5, ev_ist6, ev_ist7, ev_ri, ev_sw_0, ev_sw_1, i00, i01, i10, pm_bd_s, pm_tl_n, pm_tl_s, ↓reduceIte, pb_X9_doesAt_0, pb_X9_doesAt_1, kd_59, rf_59_0, rf_59_1, rf_59_3, rf_59_4, rf_59_5, rf_59_6, rf_59_7, rf_59_12, rf_59_14, rf_59_15, rf_59_16, rf_59_19, rf_59_23, rf_59_24, rf_59_25, rf_59_26, is_9_59, rl_1 hs, rl_2 hs, sr_isIn, bI_n0, spF]
    try simp [sp]
def rLe (h : pm_HP) (u : Nat) (i : Nat) : Int32 := smA (fun s => decide (rl h 4 s = 1)) (fun s => leF (rl h 0 s) (rl h 1 s) (rl h 2 s) (rl h 3 s) (nI i)) 0 u 0
set_option maxRecDepth 100000 in
theorem lp_all0 {i u : Nat} (hi : i < 24) (hu : h.1 60 1 = nI u) (hu8 : u ≤ 8) (hft : ∀ s, s < 8 → rl h 1 s ≤ rl h 2 s) : ∀ (k s : Nat) (a : Int32), s + k = u → pm_ev P_X9_allThat (rs fb (d + 2)) (P_X9_allThat 1) [some (.ref 59), some (.int (nI i)), some (.int 0), some (.int a), some (.int (nI s))] [] h = some (some (.int (smA (fun s => decide (rl h 4 s = 1)) (fun s => leF (rl h 0 s) (rl h 1 s) (rl h 2 s) (rl h 3 s) (nI i)) s k a)), h) := by
  have ix1 : pm_ix (1 : Int32) 440 = true := by decide
  have cl1 : (1 : Int32).toNatClampNeg = 1 := by decide
  intro k
  induction k with
  | zero =>
    intro s a hs
    have e1 : nI u ≤ nI s := nI_le (by omega) (by omega)
    rw [pb_X9_allThat_1]
    simp only [c20, c2i, c2n, c2r, cs8_0, cs8_1, cs8_2, cs8_3, cs8_4, decide_eq_true_eq, ev_ald0, ev_aldn0, ev_bin, ev_cv2, ev_cv3, ev_go, ev_gr, ev_i, ev_ia, ev_if2, ev_ild1, ev_ild2, ev_ild3, ev_ild4, ev_inc4, ev_ist3, ev_ist4, ev_ri, i00, i01, i10, pm_bd_s, pm_tl_n, pm_tl_s, ↓reduceIte, pb_X9_allThat_4, kd_59, rf_59_0, rf_59_1, rf_59_3, rf_59_4, rf_59_5, rf_59_6, rf_59_7, rf_59_12, rf_59_14, rf_59_15, rf_59_16, rf_59_19, rf_59_23, rf_59_24, rf_59_25, rf_59_26, is_9_59, kd_60, al_60, ix1, cl1, hu, e1, smA]
  | succ k ih =>
    intro s a hs
    have e1 : ¬ nI u ≤ nI s := nI_ge (by omega) (by omega)
    have hs8 : s < 8 := by omega
    rw [pb_X9_allThat_1, smA]
    by_cases q : rl h 4 s = 1
    · simp only [c20, c2i, c2n, c2r, cs8_0, cs8_1, cs8_2, cs8_3, cs8_4, decide_eq_true_eq, ev_ald0, ev_aldn0, ev_bin, ev_cv2, ev_cv3, ev_go, ev_gr, ev_i, ev_ia, ev_if2, ev_ild1, ev_ild2, ev_ild3, ev_ild4, ev_inc4, ev_ist3, ev_ist4, ev_ri, i00, i01, i10, pm_bd_s, pm_tl_n, pm_tl_s, ↓reduceIte, pb_X9_allThat_2, pb_X9_allThat_3, kd_59, rf_59_0, rf_59_1, rf_59_3, rf_59_4, rf_59_5, rf_59_6, rf_59_7, rf_59_12, rf_59_14, rf_59_15, rf_59_16, rf_59_19, rf_59_23, rf_59_24, rf_59_25, rf_59_26, is_9_59, kd_60, al_60, ix1, cl1, hu, e1, rl_4 hs8, q, sr_does0 hs8 hi (hft s hs8), nI_1, not_true_eq_false, decide_true]
      exact ih (s + 1) _ (by omega)
    · simp only [c20, c2i, c2n, c2r, cs8_0, cs8_1, cs8_2, cs8_3, cs8_4, decide_eq_true_eq, ev_ald0, ev_aldn0, ev_bin, ev_cv2, ev_cv3, ev_go, ev_gr, ev_i, ev_ia, ev_if2, ev_ild1, ev_ild2, ev_ild3, ev_ild4, ev_inc4, ev_ist3, ev_ist4, ev_ri, i00, i01, i10, pm_bd_s, pm_tl_n, pm_tl_s, ↓reduceIte, pb_X9_allThat_2, pb_X9_allThat_3, kd_59, rf_59_0, rf_59_1, rf_59_3, rf_59_4, rf_59_5, rf_59_6, rf_59_7, rf_59_12, rf_59_14, rf_59_15, rf_59_16, rf_59_19, rf_59_23, rf_59_24, rf_59_25, rf_59_26, is_9_59, kd_60, al_60, ix1, cl1, hu, e1, rl_4 hs8, q, nI_1, not_false_eq_true, decide_false, Bool.false_eq_true, add0]
      exact ih (s + 1) _ (by omega)
theorem sr_all0 {i u : Nat} (hi : i < 24) (hu : h.1 60 1 = nI u) (hu8 : u ≤ 8) (hft : ∀ s, s < 8 → rl h 1 s ≤ rl h 2 s) : rs fb (d + 3) n_X9_allThat [.ref 59, .int (nI i), .int 0] h = some (some (.int (rLe h u i)), h) := by
  rw [en_X9_allThat]
  simp only [c20, c2i, c2n, c2r, cs8_0, cs8_1, cs8_2, cs8_3, cs8_4, decide_eq_true_eq, ev_ald0, ev_aldn0, ev_bin, ev_cv2, ev_cv3, ev_go, ev_gr, ev_i, ev_ia, ev_if2, ev_ild1, ev_ild2, ev_ild3, ev_ild4, ev_inc4, ev_ist3, ev_ist4, ev_ri, i00, i01, i10, pm_bd_s, pm_tl_n, pm_tl_s, ↓reduceIte, pb_X9_allThat_0]
  have e := lp_all0 (fb := fb) (d := d) hi hu hu8 hft u 0 0 (by omega)
  rw [nI_0] at e
  exact e
def rPu (h : pm_HP) (u : Nat) (i : Nat) : Int32 := smA (fun s => decide (rl h 4 s = 1)) (fun s => puF (rl h 0 s) (rl h 1 s) (rl h 2 s) (rl h 3 s) (nI i) (rm h 2 i)) 0 u 0
set_option maxRecDepth 100000 in
theorem lp_all1 {i u : Nat} (hi : i < 24) (hu : h.1 60 1 = nI u) (hu8 : u ≤ 8) (hft : ∀ s, s < 8 → rl h 1 s ≤ rl h 2 s) : ∀ (k s : Nat) (a : Int32), s + k = u → pm_ev P_X9_allThat (rs fb (d + 2)) (P_X9_allThat 1) [some (.ref 59), some (.int (nI i)), some (.int 1), some (.int a), some (.int (nI s))] [] h = some (some (.int (smA (fun s => decide (rl h 4 s = 1)) (fun s => puF (rl h 0 s) (rl h 1 s) (rl h 2 s) (rl h 3 s) (nI i) (rm h 2 i)) s k a)), h) := by
  have ix1 : pm_ix (1 : Int32) 440 = true := by decide
  have cl1 : (1 : Int32).toNatClampNeg = 1 := by decide
  intro k
  induction k with
  | zero =>
    intro s a hs
    have e1 : nI u ≤ nI s := nI_le (by omega) (by omega)
    rw [pb_X9_allThat_1]
    simp only [c20, c2i, c2n, c2r, cs8_0, cs8_1, cs8_2, cs8_3, cs8_4, decide_eq_true_eq, ev_ald0, ev_aldn0, ev_bin, ev_cv2, ev_cv3, ev_go, ev_gr, ev_i, ev_ia, ev_if2, ev_ild1, ev_ild2, ev_ild3, ev_ild4, ev_inc4, ev_ist3, ev_ist4, ev_ri, i00, i01, i10, pm_bd_s, pm_tl_n, pm_tl_s, ↓reduceIte, pb_X9_allThat_4, kd_59, rf_59_0, rf_59_1, rf_59_3, rf_59_4, rf_59_5, rf_59_6, rf_59_7, rf_59_12, rf_59_14, rf_59_15, rf_59_16, rf_59_19, rf_59_23, rf_59_24, rf_59_25, rf_59_26, is_9_59, kd_60, al_60, ix1, cl1, hu, e1, smA]
  | succ k ih =>
    intro s a hs
    have e1 : ¬ nI u ≤ nI s := nI_ge (by omega) (by omega)
    have hs8 : s < 8 := by omega
    rw [pb_X9_allThat_1, smA]
    by_cases q : rl h 4 s = 1
    · simp only [c20, c2i, c2n, c2r, cs8_0, cs8_1, cs8_2, cs8_3, cs8_4, decide_eq_true_eq, ev_ald0, ev_aldn0, ev_bin, ev_cv2, ev_cv3, ev_go, ev_gr, ev_i, ev_ia, ev_if2, ev_ild1, ev_ild2, ev_ild3, ev_ild4, ev_inc4, ev_ist3, ev_ist4, ev_ri, i00, i01, i10, pm_bd_s, pm_tl_n, pm_tl_s, ↓reduceIte, pb_X9_allThat_2, pb_X9_allThat_3, kd_59, rf_59_0, rf_59_1, rf_59_3, rf_59_4, rf_59_5, rf_59_6, rf_59_7, rf_59_12, rf_59_14, rf_59_15, rf_59_16, rf_59_19, rf_59_23, rf_59_24, rf_59_25, rf_59_26, is_9_59, kd_60, al_60, ix1, cl1, hu, e1, rl_4 hs8, q, sr_does1 hs8 hi (hft s hs8), nI_1, not_true_eq_false, decide_true]
      exact ih (s + 1) _ (by omega)
    · simp only [c20, c2i, c2n, c2r, cs8_0, cs8_1, cs8_2, cs8_3, cs8_4, decide_eq_true_eq, ev_ald0, ev_aldn0, ev_bin, ev_cv2, ev_cv3, ev_go, ev_gr, ev_i, ev_ia, ev_if2, ev_ild1, ev_ild2, ev_ild3, ev_ild4, ev_inc4, ev_ist3, ev_ist4, ev_ri, i00, i01, i10, pm_bd_s, pm_tl_n, pm_tl_s, ↓reduceIte, pb_X9_allThat_2, pb_X9_allThat_3, kd_59, rf_59_0, rf_59_1, rf_59_3, rf_59_4, rf_59_5, rf_59_6, rf_59_7, rf_59_12, rf_59_14, rf_59_15, rf_59_16, rf_59_19, rf_59_23, rf_59_24, rf_59_25, rf_59_26, is_9_59, kd_60, al_60, ix1, cl1, hu, e1, rl_4 hs8, q, nI_1, not_false_eq_true, decide_false, Bool.false_eq_true, add0]
      exact ih (s + 1) _ (by omega)
theorem sr_all1 {i u : Nat} (hi : i < 24) (hu : h.1 60 1 = nI u) (hu8 : u ≤ 8) (hft : ∀ s, s < 8 → rl h 1 s ≤ rl h 2 s) : rs fb (d + 3) n_X9_allThat [.ref 59, .int (nI i), .int 1] h = some (some (.int (rPu h u i)), h) := by
  rw [en_X9_allThat]
  simp only [c20, c2i, c2n, c2r, cs8_0, cs8_1, cs8_2, cs8_3, cs8_4, decide_eq_true_eq, ev_ald0, ev_aldn0, ev_bin, ev_cv2, ev_cv3, ev_go, ev_gr, ev_i, ev_ia, ev_if2, ev_ild1, ev_ild2, ev_ild3, ev_ild4, ev_inc4, ev_ist3, ev_ist4, ev_ri, i00, i01, i10, pm_bd_s, pm_tl_n, pm_tl_s, ↓reduceIte, pb_X9_allThat_0]
  have e := lp_all1 (fb := fb) (d := d) hi hu hu8 hft u 0 0 (by omega)
  rw [nI_0] at e
  exact e
def rSh (h : pm_HP) (u : Nat) (i : Nat) : Int32 := smA (fun s => decide (rl h 4 s = 1)) (fun s => shF (rl h 0 s) (rl h 1 s) (rl h 2 s) (rl h 3 s) (nI i) (rm h 1 i)) 0 u 0
set_option maxRecDepth 100000 in
theorem lp_all2 {i u : Nat} (hi : i < 24) (hu : h.1 60 1 = nI u) (hu8 : u ≤ 8) (hft : ∀ s, s < 8 → rl h 1 s ≤ rl h 2 s) : ∀ (k s : Nat) (a : Int32), s + k = u → pm_ev P_X9_allThat (rs fb (d + 2)) (P_X9_allThat 1) [some (.ref 59), some (.int (nI i)), some (.int 2), some (.int a), some (.int (nI s))] [] h = some (some (.int (smA (fun s => decide (rl h 4 s = 1)) (fun s => shF (rl h 0 s) (rl h 1 s) (rl h 2 s) (rl h 3 s) (nI i) (rm h 1 i)) s k a)), h) := by
  have ix1 : pm_ix (1 : Int32) 440 = true := by decide
  have cl1 : (1 : Int32).toNatClampNeg = 1 := by decide
  intro k
  induction k with
  | zero =>
    intro s a hs
    have e1 : nI u ≤ nI s := nI_le (by omega) (by omega)
    rw [pb_X9_allThat_1]
    simp only [c20, c2i, c2n, c2r, cs8_0, cs8_1, cs8_2, cs8_3, cs8_4, decide_eq_true_eq, ev_ald0, ev_aldn0, ev_bin, ev_cv2, ev_cv3, ev_go, ev_gr, ev_i, ev_ia, ev_if2, ev_ild1, ev_ild2, ev_ild3, ev_ild4, ev_inc4, ev_ist3, ev_ist4, ev_ri, i00, i01, i10, pm_bd_s, pm_tl_n, pm_tl_s, ↓reduceIte, pb_X9_allThat_4, kd_59, rf_59_0, rf_59_1, rf_59_3, rf_59_4, rf_59_5, rf_59_6, rf_59_7, rf_59_12, rf_59_14, rf_59_15, rf_59_16, rf_59_19, rf_59_23, rf_59_24, rf_59_25, rf_59_26, is_9_59, kd_60, al_60, ix1, cl1, hu, e1, smA]
  | succ k ih =>
    intro s a hs
    have e1 : ¬ nI u ≤ nI s := nI_ge (by omega) (by omega)
    have hs8 : s < 8 := by omega
    rw [pb_X9_allThat_1, smA]
    by_cases q : rl h 4 s = 1
    · simp only [c20, c2i, c2n, c2r, cs8_0, cs8_1, cs8_2, cs8_3, cs8_4, decide_eq_true_eq, ev_ald0, ev_aldn0, ev_bin, ev_cv2, ev_cv3, ev_go, ev_gr, ev_i, ev_ia, ev_if2, ev_ild1, ev_ild2, ev_ild3, ev_ild4, ev_inc4, ev_ist3, ev_ist4, ev_ri, i00, i01, i10, pm_bd_s, pm_tl_n, pm_tl_s, ↓reduceIte, pb_X9_allThat_2, pb_X9_allThat_3, kd_59, rf_59_0, rf_59_1, rf_59_3, rf_59_4, rf_59_5, rf_59_6, rf_59_7, rf_59_12, rf_59_14, rf_59_15, rf_59_16, rf_59_19, rf_59_23, rf_59_24, rf_59_25, rf_59_26, is_9_59, kd_60, al_60, ix1, cl1, hu, e1, rl_4 hs8, q, sr_does2 hs8 hi (hft s hs8), nI_1, not_true_eq_false, decide_true]
      exact ih (s + 1) _ (by omega)
    · simp only [c20, c2i, c2n, c2r, cs8_0, cs8_1, cs8_2, cs8_3, cs8_4, decide_eq_true_eq, ev_ald0, ev_aldn0, ev_bin, ev_cv2, ev_cv3, ev_go, ev_gr, ev_i, ev_ia, ev_if2, ev_ild1, ev_ild2, ev_ild3, ev_ild4, ev_inc4, ev_ist3, ev_ist4, ev_ri, i00, i01, i10, pm_bd_s, pm_tl_n, pm_tl_s, ↓reduceIte, pb_X9_allThat_2, pb_X9_allThat_3, kd_59, rf_59_0, rf_59_1, rf_59_3, rf_59_4, rf_59_5, rf_59_6, rf_59_7, rf_59_12, rf_59_14, rf_59_15, rf_59_16, rf_59_19, rf_59_23, rf_59_24, rf_59_25, rf_59_26, is_9_59, kd_60, al_60, ix1, cl1, hu, e1, rl_4 hs8, q, nI_1, not_false_eq_true, decide_false, Bool.false_eq_true, add0]
      exact ih (s + 1) _ (by omega)
theorem sr_all2 {i u : Nat} (hi : i < 24) (hu : h.1 60 1 = nI u) (hu8 : u ≤ 8) (hft : ∀ s, s < 8 → rl h 1 s ≤ rl h 2 s) : rs fb (d + 3) n_X9_allThat [.ref 59, .int (nI i), .int 2] h = some (some (.int (rSh h u i)), h) := by
  rw [en_X9_allThat]
  simp only [c20, c2i, c2n, c2r, cs8_0, cs8_1, cs8_2, cs8_3, cs8_4, decide_eq_true_eq, ev_ald0, ev_aldn0, ev_bin, ev_cv2, ev_cv3, ev_go, ev_gr, ev_i, ev_ia, ev_if2, ev_ild1, ev_ild2, ev_ild3, ev_ild4, ev_inc4, ev_ist3, ev_ist4, ev_ri, i00, i01, i10, pm_bd_s, pm_tl_n, pm_tl_s, ↓reduceIte, pb_X9_allThat_0]
  have e := lp_all2 (fb := fb) (d := d) hi hu hu8 hft u 0 0 (by omega)
  rw [nI_0] at e
  exact e
/-- what stands in the reference's rows, up to mile i -/
def rkI (h : pm_HP) (M : Nat → Nat → Int32) (L P S : Nat → Int32) (i : Nat) : Prop :=
  (∀ j, j ≤ i → h.1 63 j = sdF M L P j ∧ h.1 64 j = alF M S j) ∧ ∀ j, j < i → h.1 65 j = tnF M L (j + 1)
def ro1 (h : pm_HP) (i : Nat) (t0 l p s : Int32) : pm_HP :=
  pm_si (pm_si (pm_si h 65 i ((if rm h 3 i = 1 then 0 else t0) + l)) 63 (i + 1) (h.1 63 i + ((if rm h 3 i = 1 then 0 else t0) + l) + rm h 0 i + p + rm h 4 i)) 64 (i + 1) (h.1 64 i + 1760 - 3 * rm h 1 i - s)
theorem ro1_frm (h : pm_HP) (i : Nat) (t0 l p s : Int32) : frm [63, 64, 65] h (ro1 h i t0 l p s) := by
  unfold ro1
  exact (((frm.rf _ h).si (by decide)).si (by decide)).si (by decide)
theorem frm_rm {cs : List Nat} {h h' : pm_HP} (hf : frm cs h h') (hc : 60 ∉ cs) : rm h' = rm h := by
  funext c i; unfold rm; rw [hf.1 60 hc]
theorem frm_rl {cs : List Nat} {h h' : pm_HP} (hf : frm cs h h') (hc : 60 ∉ cs) : rl h' = rl h := by
  funext c i; unfold rl; rw [hf.1 60 hc]
theorem frm_rLe {cs : List Nat} {h h' : pm_HP} (hf : frm cs h h') (hc : 60 ∉ cs) (u : Nat) : rLe h' u = rLe h u := by
  funext i; unfold rLe; rw [frm_rl hf hc]
theorem frm_rPu {cs : List Nat} {h h' : pm_HP} (hf : frm cs h h') (hc : 60 ∉ cs) (u : Nat) : rPu h' u = rPu h u := by
  funext i; unfold rPu; rw [frm_rl hf hc, frm_rm hf hc]
theorem frm_rSh {cs : List Nat} {h h' : pm_HP} (hf : frm cs h h') (hc : 60 ∉ cs) (u : Nat) : rSh h' u = rSh h u := by
  funext i; unfold rSh; rw [frm_rl hf hc, frm_rm hf hc]
theorem si_rm {h : pm_HP} {a k : Nat} {v : Int32} (ha : ¬ a = 60) : rm (pm_si h a k v) = rm h := by
  funext c i; unfold rm; exact si_ne _ _ (fun q => ha q.1.symm)
theorem si_rl {h : pm_HP} {a k : Nat} {v : Int32} (ha : ¬ a = 60) : rl (pm_si h a k v) = rl h := by
  funext c i; unfold rl; exact si_ne _ _ (fun q => ha q.1.symm)
set_option maxRecDepth 100000 in
set_option maxHeartbeats 4000000 in
theorem ro1_run {i n u : Nat} {t0 : Int32} (hi : i < n) (hn : n ≤ 24) (hu8 : u ≤ 8) (hu : h.1 60 1 = nI u) (hn0 : h.1 60 0 = nI n) (hft : ∀ s, s < 8 → rl h 1 s ≤ rl h 2 s) :
    pm_ev P_X9_goes (rs fb (d + 3)) (P_X9_goes 1) [some (.ref 59), some (.int t0), some (.int (nI i))] [] h = pm_ev P_X9_goes (rs fb (d + 3)) (P_X9_goes 1) [some (.ref 59), some (.int ((if rm h 3 i = 1 then 0 else t0) + rLe h u i)), some (.int (nI (i + 1)))] [] (ro1 h i t0 (rLe h u i) (rPu h u i) (rSh h u i)) := by
  have e1 : ¬ nI n ≤ nI i := nI_ge hi (by omega)
  have hi24 : i < 24 := by omega
  have hix : pm_ix (nI i) 24 = true := pm_ix_n hi24 (by omega)
  have hix5 : pm_ix (nI i) 25 = true := pm_ix_n (by omega) (by omega)
  have hix6 : pm_ix (nI (i + 1)) 25 = true := pm_ix_n (by omega) (by omega)
  have hcl := nI_clamp (show i < 2 ^ 31 by omega)
  have hcl2 := nI_clamp (show i + 1 < 2 ^ 31 by omega)
  have ne1 : (i = i + 1) = False := by simp
  have ix0 : pm_ix (0 : Int32) 440 = true := by decide
  have cl0 : (0 : Int32).toNatClampNeg = 0 := by decide
  have A : ∀ h' : pm_HP, frm [63, 64, 65] h h' → (∀ d, rs fb (d + 3) n_X9_allThat [.ref 59, .int (nI i), .int 0] h' = some (some (.int (rLe h u i)), h')) ∧ (∀ d, rs fb (d + 3) n_X9_allThat [.ref 59, .int (nI i), .int 1] h' = some (some (.int (rPu h u i)), h')) ∧ (∀ d, rs fb (d + 3) n_X9_allThat [.ref 59, .int (nI i), .int 2] h' = some (some (.int (rSh h u i)), h')) := by
    intro h' hf
    have g1 : h'.1 60 1 = nI u := by rw [hf.1 60 (by decide)]; exact hu
    have g2 : ∀ s, s < 8 → rl h' 1 s ≤ rl h' 2 s := by rw [frm_rl hf (by decide)]; exact hft
    refine ⟨fun d => ?_, fun d => ?_, fun d => ?_⟩
    · rw [sr_all0 hi24 g1 hu8 g2, frm_rLe hf (by decide)]
    · rw [sr_all1 hi24 g1 hu8 g2, frm_rPu hf (by decide)]
    · rw [sr_all2 hi24 g1 hu8 g2, frm_rSh hf (by decide)]
  have f0 : frm [63, 64, 65] h h := frm.rf _ h
  have n60 : ∀ a : Nat, a = 63 ∨ a = 64 ∨ a = 65 → ¬ a = 60 := by omega
  generalize rLe h u i = x at A ⊢
  generalize rPu h u i = y at A ⊢
  generalize rSh h u i = z at A ⊢
  have A0 := A h f0
  unfold ro1
  by_cases hc : rm h 3 i = 1
  · rw [if_pos hc]
    have A1 := A _ (f0.si (i := 65) (k := i) (v := 0 + x) (by decide))
    have A2 := A _ ((f0.si (i := 65) (k := i) (v := 0 + x) (by decide)).si (i := 63) (k := i + 1) (v := h.1 63 i + (0 + x) + rm h 0 i + y + rm h 4 i) (by decide))
    conv => lhs; rw [pb_X9_goes_1]
    simp only [c20, c2i, c2n, c2r, cs8_0, cs8_1, cs8_2, cs8_3, cs8_4, decide_eq_true_eq, ev_ald0, ev_aldn0, ev_bin, ev_cv2, ev_go, ev_gr, ev_i, ev_ia, ev_ias, ev_if2, ev_ild1, ev_ild2, ev_inc2, ev_ist1, ev_ist2, ev_rv, i00, i01, i10, pm_bd_s, pm_tl_n, pm_tl_s, ↓reduceIte, pb_X9_goes_2, pb_X9_goes_3, kd_59, rf_59_0, rf_59_1, rf_59_3, rf_59_4, rf_59_5, rf_59_6, rf_59_7, rf_59_12, rf_59_14, rf_59_15, rf_59_16, rf_59_19, rf_59_23, rf_59_24, rf_59_25, rf_59_26, is_9_59, kd_60, al_60, kd_63, al_63, kd_64, al_64, kd_65, al_65, hn0, ix0, cl0, e1, rm_0 hi24, rm_1 hi24, rm_3 hi24, rm_4 hi24, hc, A0.1, A1.2.1, A2.2.2, hix, hix5, hix6, hcl, hcl2, si_at, si_rm (n60 63 (Or.inl rfl)), si_rm (n60 65 (Or.inr (Or.inr rfl))), si_rm (n60 64 (Or.inr (Or.inl rfl))), Nat.reduceEqDiff, false_and, nI_1, not_true_eq_false]
  · rw [if_neg hc]
    have A1 := A _ (f0.si (i := 65) (k := i) (v := t0 + x) (by decide))
    have A2 := A _ ((f0.si (i := 65) (k := i) (v := t0 + x) (by decide)).si (i := 63) (k := i + 1) (v := h.1 63 i + (t0 + x) + rm h 0 i + y + rm h 4 i) (by decide))
    conv => lhs; rw [pb_X9_goes_1]
    simp only [c20, c2i, c2n, c2r, cs8_0, cs8_1, cs8_2, cs8_3, cs8_4, decide_eq_true_eq, ev_ald0, ev_aldn0, ev_bin, ev_cv2, ev_go, ev_gr, ev_i, ev_ia, ev_ias, ev_if2, ev_ild1, ev_ild2, ev_inc2, ev_ist1, ev_ist2, ev_rv, i00, i01, i10, pm_bd_s, pm_tl_n, pm_tl_s, ↓reduceIte, pb_X9_goes_2, pb_X9_goes_3, kd_59, rf_59_0, rf_59_1, rf_59_3, rf_59_4, rf_59_5, rf_59_6, rf_59_7, rf_59_12, rf_59_14, rf_59_15, rf_59_16, rf_59_19, rf_59_23, rf_59_24, rf_59_25, rf_59_26, is_9_59, kd_60, al_60, kd_63, al_63, kd_64, al_64, kd_65, al_65, hn0, ix0, cl0, e1, rm_0 hi24, rm_1 hi24, rm_3 hi24, rm_4 hi24, hc, A0.1, A1.2.1, A2.2.2, hix, hix5, hix6, hcl, hcl2, si_at, si_rm (n60 63 (Or.inl rfl)), si_rm (n60 65 (Or.inr (Or.inr rfl))), si_rm (n60 64 (Or.inr (Or.inl rfl))), Nat.reduceEqDiff, false_and, nI_1, not_false_eq_true]
end R2
