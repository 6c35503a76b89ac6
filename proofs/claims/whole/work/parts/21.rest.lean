/-! THE CLASS: the rest of its helpers -/
theorem fail_1 {fb : Bool} {d : Nat} {h : pm_HP} : rs fb (d + 2) n_X8_fail [.ref 0, .int 1] h = some (some (.int (-1000000000 - 1)), pm_si h 28 1 (h.1 28 1 + 1)) := by
  have e : (1 ≤ (1 : Int32) ∧ (1 : Int32) ≤ 6) = True := eq_true ⟨by decide, by decide⟩
  have hix : pm_ix (1 : Int32) 7 = true := by decide
  have hcl : (1 : Int32).toNatClampNeg = 1 := by decide
  rw [en_X8_fail]
  simp only [cs8_0, cs8_1, cs8_2, cs8_3, cs8_4, decide_eq_true_eq, ev_ald0, ev_aldn0, ev_bin, ev_cs3, ev_dup2_ii, ev_dup2_ir, ev_go, ev_gr, ev_i, ev_ia, ev_ias, ev_if0, ev_ild1, ev_ri, i00, i01, i10, pm_bd_s, pm_tl_n, pm_tl_s, ↓reduceIte, pb_X8_fail_0, pb_X8_fail_1, kd_0, rf_0_0, rf_0_1, rf_0_2, rf_0_3, rf_0_4, rf_0_5, rf_0_6, rf_0_7, rf_0_8, is_8_0, kd_28, al_28, sp_isIn, bI_0, e, hix, hcl, not_true_eq_false]
theorem fail_2 {fb : Bool} {d : Nat} {h : pm_HP} : rs fb (d + 2) n_X8_fail [.ref 0, .int 2] h = some (some (.int (-1000000000 - 2)), pm_si h 28 2 (h.1 28 2 + 1)) := by
  have e : (1 ≤ (2 : Int32) ∧ (2 : Int32) ≤ 6) = True := eq_true ⟨by decide, by decide⟩
  have hix : pm_ix (2 : Int32) 7 = true := by decide
  have hcl : (2 : Int32).toNatClampNeg = 2 := by decide
  rw [en_X8_fail]
  simp only [cs8_0, cs8_1, cs8_2, cs8_3, cs8_4, decide_eq_true_eq, ev_ald0, ev_aldn0, ev_bin, ev_cs3, ev_dup2_ii, ev_dup2_ir, ev_go, ev_gr, ev_i, ev_ia, ev_ias, ev_if0, ev_ild1, ev_ri, i00, i01, i10, pm_bd_s, pm_tl_n, pm_tl_s, ↓reduceIte, pb_X8_fail_0, pb_X8_fail_1, kd_0, rf_0_0, rf_0_1, rf_0_2, rf_0_3, rf_0_4, rf_0_5, rf_0_6, rf_0_7, rf_0_8, is_8_0, kd_28, al_28, sp_isIn, bI_0, e, hix, hcl, not_true_eq_false]
theorem fail_3 {fb : Bool} {d : Nat} {h : pm_HP} : rs fb (d + 2) n_X8_fail [.ref 0, .int 3] h = some (some (.int (-1000000000 - 3)), pm_si h 28 3 (h.1 28 3 + 1)) := by
  have e : (1 ≤ (3 : Int32) ∧ (3 : Int32) ≤ 6) = True := eq_true ⟨by decide, by decide⟩
  have hix : pm_ix (3 : Int32) 7 = true := by decide
  have hcl : (3 : Int32).toNatClampNeg = 3 := by decide
  rw [en_X8_fail]
  simp only [cs8_0, cs8_1, cs8_2, cs8_3, cs8_4, decide_eq_true_eq, ev_ald0, ev_aldn0, ev_bin, ev_cs3, ev_dup2_ii, ev_dup2_ir, ev_go, ev_gr, ev_i, ev_ia, ev_ias, ev_if0, ev_ild1, ev_ri, i00, i01, i10, pm_bd_s, pm_tl_n, pm_tl_s, ↓reduceIte, pb_X8_fail_0, pb_X8_fail_1, kd_0, rf_0_0, rf_0_1, rf_0_2, rf_0_3, rf_0_4, rf_0_5, rf_0_6, rf_0_7, rf_0_8, is_8_0, kd_28, al_28, sp_isIn, bI_0, e, hix, hcl, not_true_eq_false]
theorem fail_4 {fb : Bool} {d : Nat} {h : pm_HP} : rs fb (d + 2) n_X8_fail [.ref 0, .int 4] h = some (some (.int (-1000000000 - 4)), pm_si h 28 4 (h.1 28 4 + 1)) := by
  have e : (1 ≤ (4 : Int32) ∧ (4 : Int32) ≤ 6) = True := eq_true ⟨by decide, by decide⟩
  have hix : pm_ix (4 : Int32) 7 = true := by decide
  have hcl : (4 : Int32).toNatClampNeg = 4 := by decide
  rw [en_X8_fail]
  simp only [cs8_0, cs8_1, cs8_2, cs8_3, cs8_4, decide_eq_true_eq, ev_ald0, ev_aldn0, ev_bin, ev_cs3, ev_dup2_ii, ev_dup2_ir, ev_go, ev_gr, ev_i, ev_ia, ev_ias, ev_if0, ev_ild1, ev_ri, i00, i01, i10, pm_bd_s, pm_tl_n, pm_tl_s, ↓reduceIte, pb_X8_fail_0, pb_X8_fail_1, kd_0, rf_0_0, rf_0_1, rf_0_2, rf_0_3, rf_0_4, rf_0_5, rf_0_6, rf_0_7, rf_0_8, is_8_0, kd_28, al_28, sp_isIn, bI_0, e, hix, hcl, not_true_eq_false]
theorem fail_5 {fb : Bool} {d : Nat} {h : pm_HP} : rs fb (d + 2) n_X8_fail [.ref 0, .int 5] h = some (some (.int (-1000000000 - 5)), pm_si h 28 5 (h.1 28 5 + 1)) := by
  have e : (1 ≤ (5 : Int32) ∧ (5 : Int32) ≤ 6) = True := eq_true ⟨by decide, by decide⟩
  have hix : pm_ix (5 : Int32) 7 = true := by decide
  have hcl : (5 : Int32).toNatClampNeg = 5 := by decide
  rw [en_X8_fail]
  simp only [cs8_0, cs8_1, cs8_2, cs8_3, cs8_4, decide_eq_true_eq, ev_ald0, ev_aldn0, ev_bin, ev_cs3, ev_dup2_ii, ev_dup2_ir, ev_go, ev_gr, ev_i, ev_ia, ev_ias, ev_if0, ev_ild1, ev_ri, i00, i01, i10, pm_bd_s, pm_tl_n, pm_tl_s, ↓reduceIte, pb_X8_fail_0, pb_X8_fail_1, kd_0, rf_0_0, rf_0_1, rf_0_2, rf_0_3, rf_0_4, rf_0_5, rf_0_6, rf_0_7, rf_0_8, is_8_0, kd_28, al_28, sp_isIn, bI_0, e, hix, hcl, not_true_eq_false]
theorem fail_6 {fb : Bool} {d : Nat} {h : pm_HP} : rs fb (d + 2) n_X8_fail [.ref 0, .int 6] h = some (some (.int (-1000000000 - 6)), pm_si h 28 6 (h.1 28 6 + 1)) := by
  have e : (1 ≤ (6 : Int32) ∧ (6 : Int32) ≤ 6) = True := eq_true ⟨by decide, by decide⟩
  have hix : pm_ix (6 : Int32) 7 = true := by decide
  have hcl : (6 : Int32).toNatClampNeg = 6 := by decide
  rw [en_X8_fail]
  simp only [cs8_0, cs8_1, cs8_2, cs8_3, cs8_4, decide_eq_true_eq, ev_ald0, ev_aldn0, ev_bin, ev_cs3, ev_dup2_ii, ev_dup2_ir, ev_go, ev_gr, ev_i, ev_ia, ev_ias, ev_if0, ev_ild1, ev_ri, i00, i01, i10, pm_bd_s, pm_tl_n, pm_tl_s, ↓reduceIte, pb_X8_fail_0, pb_X8_fail_1, kd_0, rf_0_0, rf_0_1, rf_0_2, rf_0_3, rf_0_4, rf_0_5, rf_0_6, rf_0_7, rf_0_8, is_8_0, kd_28, al_28, sp_isIn, bI_0, e, hix, hcl, not_true_eq_false]
theorem sp_lawOf0 {fb : Bool} {d : Nat} {h : pm_HP} : rs fb (d + 1) n_X8_lawOf [.ref 0, .int 0] h = some (some (.ref 8), h) := by
  rw [en_X8_lawOf]
  simp only [decide_eq_true_eq, ev_ald0, ev_aldn0, ev_go, ev_gr, ev_if0, ev_ild1, ev_ra, ev_ra0, i00, i01, i10, ↓reduceIte, pb_X8_lawOf_0, pb_X8_lawOf_1, pb_X8_lawOf_2, kd_0, rf_0_0, rf_0_1, rf_0_2, rf_0_3, rf_0_4, rf_0_5, rf_0_6, rf_0_7, rf_0_8, is_8_0, kd_1, rf_1_0, rf_1_1, rf_1_2, rf_1_3, rf_1_4, rf_1_5, rf_1_6, is_5_1, kd_8, rf_8_0, is_0_8, not_true_eq_false]
theorem sp_lawOf1 {fb : Bool} {d : Nat} {h : pm_HP} : rs fb (d + 1) n_X8_lawOf [.ref 0, .int 1] h = some (some (.ref 9), h) := by
  rw [en_X8_lawOf]
  simp only [decide_eq_true_eq, ev_ald0, ev_aldn0, ev_go, ev_gr, ev_if0, ev_ild1, ev_ra, ev_ra0, i00, i01, i10, ↓reduceIte, pb_X8_lawOf_0, pb_X8_lawOf_1, pb_X8_lawOf_2, kd_0, rf_0_0, rf_0_1, rf_0_2, rf_0_3, rf_0_4, rf_0_5, rf_0_6, rf_0_7, rf_0_8, is_8_0, kd_1, rf_1_0, rf_1_1, rf_1_2, rf_1_3, rf_1_4, rf_1_5, rf_1_6, is_5_1, kd_9, rf_9_0, is_0_9, not_true_eq_false, not_false_eq_true]
theorem sh_facts : ∀ k, k < 4 → pm_is [2] (23 + k) = true ∧ pm_rf (23 + k) 0 = 48 + k ∧ pm_kd (48 + k) = 20 ∧ pm_al (48 + k) = 24 ∧ pm_rf 27 k = 23 + k := by decide +kernel
theorem sp_sheetOf {fb : Bool} {d k : Nat} {h : pm_HP} (hk : k < 4) : rs fb (d + 2) n_X8_sheetOf [.ref 0, .int (nI k)] h = some (some (.ref (23 + k)), h) := by
  have e : (0 ≤ nI k ∧ nI k ≤ 3) = True := eq_true ⟨nI_pos' (by omega), nI_le (a := k) (b := 3) (by omega) (by omega)⟩
  have hix : pm_ix (nI k) 4 = true := pm_ix_n hk (by omega)
  have hcl := nI_clamp (show k < 2 ^ 31 by omega)
  obtain ⟨f1, f2, f3, f4, f5⟩ := sh_facts k hk
  rw [en_X8_sheetOf]
  simp only [cs8_0, cs8_1, cs8_2, cs8_3, cs8_4, decide_eq_true_eq, ev_aa, ev_ald0, ev_aldn0, ev_cs3, ev_go, ev_gr, ev_i, ev_if0, ev_ild1, ev_ra, ev_ra0, ev_v, i00, i01, i10, pm_bd_s, pm_tl_n, pm_tl_s, ↓reduceIte, pb_X8_sheetOf_0, pb_X8_sheetOf_1, pb_X8_sheetOf_2, kd_0, rf_0_0, rf_0_1, rf_0_2, rf_0_3, rf_0_4, rf_0_5, rf_0_6, rf_0_7, rf_0_8, is_8_0, kd_27, al_27, rf_27_0, rf_27_1, rf_27_2, rf_27_3, sp_isIn, bI_0, e, hix, hcl, f5, not_true_eq_false, Nat.reduceEqDiff, true_or]
theorem sp_sheetOfN {fb : Bool} {d : Nat} {v : Int32} {h : pm_HP} (hv : ¬ (0 ≤ v ∧ v ≤ 3)) : rs fb (d + 2) n_X8_sheetOf [.ref 0, .int v] h = some (some .null, h) := by
  have e : (0 ≤ v ∧ v ≤ 3) = False := eq_false hv
  rw [en_X8_sheetOf]
  simp only [cs8_0, cs8_1, cs8_2, cs8_3, cs8_4, decide_eq_true_eq, ev_aa, ev_ald0, ev_aldn0, ev_cs3, ev_go, ev_gr, ev_i, ev_if0, ev_ild1, ev_ra, ev_ra0, ev_v, i00, i01, i10, pm_bd_s, pm_tl_n, pm_tl_s, ↓reduceIte, pb_X8_sheetOf_0, pb_X8_sheetOf_1, pb_X8_sheetOf_2, kd_0, rf_0_0, rf_0_1, rf_0_2, rf_0_3, rf_0_4, rf_0_5, rf_0_6, rf_0_7, rf_0_8, is_8_0, kd_27, al_27, rf_27_0, rf_27_1, rf_27_2, rf_27_3, sp_isIn, bI_0, e, not_false_eq_true]
theorem sp_draw {fb : Bool} {d : Nat} {h : pm_HP} : rs fb (d + 1) n_X5_draw [.ref 1] h = some (some (.int (((h.1 1 9 * 1103515245 + 12345).toUInt32 >>> ((8 : Int32).toUInt32 &&& Int32.toUInt32 31)).toInt32)), pm_si h 1 9 (h.1 1 9 * 1103515245 + 12345)) := by
  rw [en_X5_draw]
  simp only [ev_ald0, ev_aldn0, ev_bin, ev_gi, ev_i, ev_pi, ev_ri, pb_X5_draw_0, kd_1, rf_1_0, rf_1_1, rf_1_2, rf_1_3, rf_1_4, rf_1_5, rf_1_6, is_5_1, si_at, and_self, ↓reduceIte]
section SH
variable {fb : Bool} {d k : Nat} {h : pm_HP}
theorem sp_isMissing (hk : k < 4) : rs fb (d + 1) n_X2_isMissing [.ref (23 + k)] h = some (some (.int (bI (h.1 (23 + k) 1 = 0))), h) := by
  obtain ⟨f1, f2, f3, f4, f5⟩ := sh_facts k hk
  rw [en_X2_isMissing]
  simp only [decide_eq_true_eq, ev_ald0, ev_aldn0, ev_gi, ev_go, ev_i, ev_if0, ev_rz, i00, i01, i10, ↓reduceIte, pb_X2_isMissing_0, pb_X2_isMissing_1, pb_X2_isMissing_2, f1]
  by_cases q : h.1 (23 + k) 1 = 0 <;> simp [q, bI]
theorem sp_stand {i n : Int32} (hk : k < 4) : rs fb (d + 1) n_X2_stand [.ref (23 + k), .int i, .int n] h = some (some (.int (bI (0 ≤ i ∧ 0 ≤ n ∧ i ≤ h.1 (23 + k) 2 ∧ n ≤ h.1 (23 + k) 2 - i))), h) := by
  obtain ⟨f1, f2, f3, f4, f5⟩ := sh_facts k hk
  rw [en_X2_stand]
  simp only [decide_eq_true_eq, ev_ald0, ev_aldn0, ev_bin, ev_gi, ev_go, ev_i, ev_if0, ev_if2, ev_ild1, ev_ild2, ev_rz, i00, i01, i10, ↓reduceIte, pb_X2_stand_0, pb_X2_stand_1, pb_X2_stand_2, f1]
  by_cases q1 : i < 0
  · simp [q1, bI, Int32.not_le.mpr q1]
  · by_cases q2 : n < 0
    · simp [q1, q2, bI, Int32.not_le.mpr q2]
    · by_cases q3 : h.1 (23 + k) 2 < i
      · simp [q1, q2, q3, bI, Int32.not_le.mpr q3]
      · by_cases q4 : h.1 (23 + k) 2 - i < n
        · simp [q1, q2, q3, q4, bI, Int32.not_le.mpr q4]
        · simp [q1, q2, q3, q4, bI, Int32.not_lt.mp q1, Int32.not_lt.mp q2, Int32.not_lt.mp q3, Int32.not_lt.mp q4]
theorem isIn_z {z : Nat} (hz : z ≤ 24) (i : Int32) : (0 ≤ i ∧ i ≤ nI z - 1) = (0 ≤ i ∧ i < nI z) := by
  have e1 := nI_toInt (show z < 2 ^ 31 by omega)
  have e2 : (nI z - 1).toInt = (z : Int) - 1 := by
    rw [Int32.toInt_sub, e1]
    show ((z : Int) - 1).bmod (2 ^ 32) = _
    rw [Int.bmod_eq_of_le] <;> omega
  rw [Int32.le_iff_toInt_le (x := i), Int32.lt_iff_toInt_lt (x := i), e1, e2]
  exact propext ⟨fun ⟨g1, g2⟩ => ⟨g1, by omega⟩, fun ⟨g1, g2⟩ => ⟨g1, by omega⟩⟩
/-- a number of a sheet, or 0 -/
def nuF (h : pm_HP) (k : Nat) (i : Int32) : Int32 := if 0 ≤ i ∧ i < h.1 (23 + k) 2 then h.1 (48 + k) i.toNatClampNeg else 0
theorem sp_number {z : Nat} {i : Int32} (hk : k < 4) (hz : h.1 (23 + k) 2 = nI z) (hz2 : z ≤ 24) : rs fb (d + 2) n_X2_number [.ref (23 + k), .int i] h = some (some (.int (nuF h k i)), h) := by
  obtain ⟨f1, f2, f3, f4, f5⟩ := sh_facts k hk
  rw [en_X2_number]
  unfold nuF
  simp only [cs8_0, cs8_1, cs8_2, cs8_3, cs8_4, decide_eq_true_eq, ev_ald0, ev_aldn0, ev_bin, ev_cs3, ev_gi, ev_go, ev_gr, ev_i, ev_ia, ev_if0, ev_ild1, ev_ri, i00, i01, i10, pm_bd_s, pm_tl_n, pm_tl_s, ↓reduceIte, pb_X2_number_0, pb_X2_number_1, pb_X2_number_2, f1, f2, f3, f4, sp_isIn, hz, isIn_z hz2, bI_0]
  by_cases q : 0 ≤ i ∧ i < nI z
  · obtain ⟨j, hj, rfl⟩ := nI_of (Int32.not_lt.mpr q.1)
    have hjz : j < z := (nI_ltI hj (by omega)).mp q.2
    have hix : pm_ix (nI j) 24 = true := pm_ix_n (by omega) (by omega)
    simp only [q, hix, and_self, not_true_eq_false, ↓reduceIte]
  · simp only [q, not_false_eq_true, ↓reduceIte]
theorem sp_lowest {v : Int32} (hk : k < 4) : rs fb (d + 1) n_X2_lowest [.ref (23 + k), .int v] h = some (some (.int (if h.1 (23 + k) 1 = 8 then v.toInt8.toInt32 else if h.1 (23 + k) 1 = 16 then v.toInt16.toInt32 else v)), h) := by
  obtain ⟨f1, f2, f3, f4, f5⟩ := sh_facts k hk
  rw [en_X2_lowest]
  simp only [ev_ald0, ev_aldn0, ev_gi, ev_ild1, ev_ri, ev_sw_0, ev_sw_1, ev_un, pb_X2_lowest_0, pb_X2_lowest_1, pb_X2_lowest_2, pb_X2_lowest_3, f1]
  by_cases q1 : h.1 (23 + k) 1 = 8
  · simp [q1]
  · by_cases q2 : h.1 (23 + k) 1 = 16
    · simp [q2]
    · simp [q1, q2]
theorem sp_write {z j : Nat} {v : Int32} (hk : k < 4) (hz : h.1 (23 + k) 2 = nI z) (hz2 : z ≤ 24) (hj : j < z) : rs fb (d + 2) n_X2_write [.ref (23 + k), .int (nI j), .int v] h = some (none, pm_si h (48 + k) j (if h.1 (23 + k) 1 = 8 then v.toInt8.toInt32 else if h.1 (23 + k) 1 = 16 then v.toInt16.toInt32 else v)) := by
  obtain ⟨f1, f2, f3, f4, f5⟩ := sh_facts k hk
  have e : (0 ≤ nI j ∧ nI j < nI z) = True := eq_true ⟨nI_pos' (by omega), nI_lt hj (by omega)⟩
  have hix : pm_ix (nI j) 24 = true := pm_ix_n (by omega) (by omega)
  have hcl := nI_clamp (show j < 2 ^ 31 by omega)
  rw [en_X2_write]
  simp only [cs8_0, cs8_1, cs8_2, cs8_3, cs8_4, decide_eq_true_eq, ev_ald0, ev_aldn0, ev_bin, ev_cs3, ev_cv1, ev_gi, ev_go, ev_gr, ev_i, ev_ias, ev_if0, ev_ild1, ev_ild2, ev_rv, i00, i01, i10, pm_bd_s, pm_tl_n, pm_tl_s, ↓reduceIte, pb_X2_write_0, pb_X2_write_1, f1, f2, f3, f4, sp_isIn, hz, isIn_z hz2, bI_0, e, sp_lowest hk, hix, hcl, not_true_eq_false]
def stF (h : pm_HP) (k : Nat) (i : Int32) : Int32 := nuF h k i - nuF h k (i - 1)
theorem sp_step {z : Nat} {i : Int32} (hk : k < 4) (hz : h.1 (23 + k) 2 = nI z) (hz2 : z ≤ 24) : rs fb (d + 3) n_X2_step [.ref (23 + k), .int i] h = some (some (.int (stF h k i)), h) := by
  obtain ⟨f1, f2, f3, f4, f5⟩ := sh_facts k hk
  rw [en_X2_step]
  simp only [cs8_0, cs8_1, cs8_2, cs8_3, cs8_4, ev_ald0, ev_aldn0, ev_bin, ev_cv1, ev_i, ev_ild1, ev_ri, pm_bd_s, pm_tl_n, pm_tl_s, pb_X2_step_0, f1, sp_number hk hz hz2]
  rfl
def evP (h : pm_HP) (k : Nat) (i : Int32) : Prop := 1 ≤ i ∧ stF h k i = stF h k (i - 1)
theorem sp_isEven {z j : Nat} (hk : k < 4) (hz : h.1 (23 + k) 2 = nI z) (hz2 : z ≤ 24) (hj : 1 ≤ j) (hj2 : j < 2 ^ 31) : rs fb (d + 4) n_X2_isEven [.ref (23 + k), .int (nI j)] h = some (some (.int (bI (stF h k (nI j) = stF h k (nI j - 1)))), h) := by
  obtain ⟨f1, f2, f3, f4, f5⟩ := sh_facts k hk
  have e : ¬ nI j < 1 := by
    intro q
    exact absurd q (Int32.not_lt.mpr (nI_le (a := 1) (b := j) hj hj2))
  rw [en_X2_isEven]
  simp only [cs8_0, cs8_1, cs8_2, cs8_3, cs8_4, decide_eq_true_eq, ev_ald0, ev_aldn0, ev_bin, ev_cv1, ev_go, ev_i, ev_if2, ev_ild1, ev_rz, i00, i01, i10, pm_bd_s, pm_tl_n, pm_tl_s, ↓reduceIte, pb_X2_isEven_0, pb_X2_isEven_1, pb_X2_isEven_2, f1, sp_step hk hz hz2, e]
  by_cases q : stF h k (nI j) = stF h k (nI j - 1) <;> simp [q, bI]
end SH
