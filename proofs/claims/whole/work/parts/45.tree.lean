/-! PAIRS OF CALLS: tree -/
def ntC (h : pm_HP) (u : Nat) (k f t m : Int32) : pm_HP := pm_si (pm_si (pm_si (pm_si (pm_si h 5 3 (nI (u + 1))) 33 u k) 33 (1 * 16 + u) f) 33 (2 * 16 + u) t) 33 (3 * 16 + u) m
def ntR (h : pm_HP) (u : Nat) (k f t m : Int32) : pm_HP := pm_si (pm_si (pm_si (pm_si (pm_si h 60 (168 + 4 * u + 0) k) 60 (168 + 4 * u + 1) f) 60 (168 + 4 * u + 2) t) 60 (168 + 4 * u + 3) m) 60 2 (nI (u + 1))
set_option maxHeartbeats 2000000 in
theorem Inv_nt {h : pm_HP} {n u nt nb nw : Nat} {k f t m : Int32} (hI : Inv h) (iN : RN h 3 60 n u nt nb nw) (hu : nt < 16) (hk : inB 0 24 k) : Inv (ntR (ntC h nt k f t m) nt k f t m) := by
  obtain ⟨-, iZ, iM, iS, iT, iB, iW, iX, iY⟩ := hI.1
  unfold ntR ntC
  refine Inv_now hI (now_si (now_si (now_si (now_si (now_si (now_si (now_si (now_si (now_si (now_si (fun _ _ _ => rfl) (by decide)) (by decide)) (by decide)) (by decide)) (by decide)) (by decide)) (by decide)) (by decide)) (by decide)) (by decide)) (R0_si (R0_si (R0_si (R0_si (R0_si (R0_si (R0_si (R0_si (R0_si (R0_si hI.2.2.2.2.2 (by omega)) (by omega)) (by omega)) (by omega)) (by omega)) (by omega)) (by omega)) (by omega)) (by omega)) (by omega)) ⟨⟨n, u, nt + 1, nb, nw, ?_⟩, RZ_t iZ ⟨(by repeat (rw [si_ne _ _ (by omega)])), (by repeat (rw [si_ne _ _ (by omega)])), (by repeat (rw [si_ne _ _ (by omega)]))⟩ (fun j _ _ => (by repeat (rw [si_ne _ _ (by omega)]))), RM_t iM (by funext b; simp only [si_at, Nat.reduceEqDiff, false_and, ↓reduceIte]) (fun j _ _ => (by repeat (rw [si_ne _ _ (by omega)]))), RS_t iS (by funext b; simp only [si_at, Nat.reduceEqDiff, false_and, ↓reduceIte]) (fun j _ _ => (by repeat (rw [si_ne _ _ (by omega)]))), ?_, RB_t iB (by funext b; simp only [si_at, Nat.reduceEqDiff, false_and, ↓reduceIte]) (fun j _ _ => (by repeat (rw [si_ne _ _ (by omega)]))), RW_t iW (by funext b; simp only [si_at, Nat.reduceEqDiff, false_and, ↓reduceIte]) (fun j _ _ => (by repeat (rw [si_ne _ _ (by omega)]))), RX_t iX (by repeat (rw [si_ne _ _ (by omega)])) (by funext b; simp only [si_at, Nat.reduceEqDiff, false_and, ↓reduceIte]) (fun j _ _ => (by repeat (rw [si_ne _ _ (by omega)]))), RX_t iY (by repeat (rw [si_ne _ _ (by omega)])) (by funext b; simp only [si_at, Nat.reduceEqDiff, false_and, ↓reduceIte]) (fun j _ _ => (by repeat (rw [si_ne _ _ (by omega)])))⟩
  · obtain ⟨⟨a1, a2, a3⟩, ⟨b1, b2, b3⟩, ⟨c1, c2, c3⟩, ⟨d1, d2, d3⟩, ⟨e1, e2, e3⟩⟩ := iN
    refine ⟨⟨?_, ?_, a3⟩, ⟨?_, ?_, b3⟩, ⟨?_, ?_, by omega⟩, ⟨?_, ?_, d3⟩, ⟨?_, ?_, e3⟩⟩
    · (repeat (first | rw [si_ne _ _ (by omega)] | rw [si_eq _ (by omega)])); exact a1
    · (repeat (first | rw [si_ne _ _ (by omega)] | rw [si_eq _ (by omega)])); exact a2
    · (repeat (first | rw [si_ne _ _ (by omega)] | rw [si_eq _ (by omega)])); exact b1
    · (repeat (first | rw [si_ne _ _ (by omega)] | rw [si_eq _ (by omega)])); exact b2
    · ((repeat (first | rw [si_ne _ _ (by omega)] | rw [si_eq _ (by omega)])))
    · ((repeat (first | rw [si_ne _ _ (by omega)] | rw [si_eq _ (by omega)])))
    · (repeat (first | rw [si_ne _ _ (by omega)] | rw [si_eq _ (by omega)])); exact d1
    · (repeat (first | rw [si_ne _ _ (by omega)] | rw [si_eq _ (by omega)])); exact d2
    · (repeat (first | rw [si_ne _ _ (by omega)] | rw [si_eq _ (by omega)])); exact e1
    · (repeat (first | rw [si_ne _ _ (by omega)] | rw [si_eq _ (by omega)])); exact e2
  · intro s hs
    obtain ⟨g, b0⟩ := iT s hs
    by_cases q : s = nt
    · subst q
      refine ⟨fun c hc => ?_, ?_⟩
      · rcases (show c = 0 ∨ c = 1 ∨ c = 2 ∨ c = 3 by omega) with rfl | rfl | rfl | rfl <;> ((repeat (first | rw [si_ne _ _ (by omega)] | rw [si_eq _ (by omega)])))
      · (repeat (first | rw [si_ne _ _ (by omega)] | rw [si_eq _ (by omega)])); exact hk
    · refine ⟨fun c hc => ?_, ?_⟩
      · (repeat (first | rw [si_ne _ _ (by omega)] | rw [si_eq _ (by omega)])); exact g c hc
      · (repeat (first | rw [si_ne _ _ (by omega)] | rw [si_eq _ (by omega)])); exact b0
section PF
variable {fb : Bool} {d : Nat} {h : pm_HP}
theorem tR_5' : tR 5 = 16 := by decide
theorem add_5 {u : Nat} {v : Int32} (hu : h.1 5 3 = nI u) (hu2 : u < 16) : rs fb (d + 3) n_X6_add [.ref 5, .int v] h = some (some (.int (nI u)), pm_si (pm_si h 5 3 (nI (u + 1))) 33 u v) := sp_add (t := 5) (by decide) hu (by rw [tR_5']; exact hu2)
theorem full_5 {u : Nat} (hu : h.1 5 3 = nI u) (hu2 : u ≤ 16) : rs fb (d + 1) n_X6_isFull [.ref 5] h = some (some (.int (bI (u = 16))), h) := by
  have g := sp_isFull (fb := fb) (d := d) (t := 5) (h := h) (by decide) hu (by rw [tR_5']; exact hu2)
  simp only [tR_5'] at g
  exact g
theorem n1000 : ((1000 : Int32) = 0) = False := by simp
theorem p99 {v : Int32} (hv : -99 ≤ v ∧ v ≤ 99) : ∃ a, a ≤ 199 ∧ v + 100 = nI a := by
  have h1 : -99 ≤ v.toInt := Int32.le_iff_toInt_le.mp hv.1
  have h2 : v.toInt ≤ 99 := Int32.le_iff_toInt_le.mp hv.2
  refine ⟨(v.toInt + 100).toNat, by omega, ?_⟩
  apply Int32.toInt.inj
  rw [Int32.toInt_add, show nI (v.toInt + 100).toNat = Int32.ofNat (v.toInt + 100).toNat from rfl, Int32.toInt_ofNat_of_lt (by omega)]
  show (v.toInt + 100).bmod (2 ^ 32) = _
  rw [Int.bmod_eq_of_le (by omega) (by omega)]
  omega
theorem tr_pos {x : Int32} (h1 : -99 ≤ x / 1000 - 100 ∧ x / 1000 - 100 ≤ 99) (h2 : -99 ≤ x - x / 1000 * 1000 - 100 ∧ x - x / 1000 * 1000 - 100 ≤ 99) : ¬ x < 0 := by
  obtain ⟨a, ha, ea⟩ := p99 h1
  obtain ⟨b, hb, eb⟩ := p99 h2
  rw [Int32.sub_add_cancel] at ea eb
  have e : x = nI (a * 1000 + b) := by
    have e1 : x = x / 1000 * 1000 + (x - x / 1000 * 1000) := by rw [Int32.add_comm, Int32.sub_add_cancel]
    rw [e1, eb, ea]
    show nI a * nI 1000 + nI b = _
    rw [nI_mul, nI_add]
  rw [e]
  exact nI_pos (by omega)
set_option maxHeartbeats 2000000 in
theorem pr_tree (hI : Inv h) (k f x : Int32) : Pr fb (d + 100) n_X8_tree n_X9_tree [.int k, .int f, .int x] h := by
  obtain ⟨⟨n, u, nt, nb, nw, iN⟩, iZ, iM, iS, iT, iB, iW, iX, iY⟩ := id hI.1
  have ht := iN.2.2.1
  have hc5 : h.1 5 3 = nI nt := ht.1
  have ix2 : pm_ix (2 : Int32) 440 = true := by decide
  have cl2 : (2 : Int32).toNatClampNeg = 2 := by decide
  have hu60 : (pm_si h 28 4 (h.1 28 4 + 1)).1 60 2 = nI nt := (si_ne _ _ (by omega)).trans ht.2.1
  by_cases q1 : (1 ≤ k ∧ k ≤ 24) ∧ (0 ≤ f ∧ f ≤ 5) ∧ (-99 ≤ x / 1000 - 100 ∧ x / 1000 - 100 ≤ 99) ∧ (-99 ≤ x - x / 1000 * 1000 - 100 ∧ x - x / 1000 * 1000 - 100 ≤ 99)
  · obtain ⟨qk, qf, qa, qb⟩ := q1
    have x0 := tr_pos qa qb
    by_cases q8 : nt = 16
    · refine Pr_e (e := 4) (x := -1000000004) hI (by omega) (by omega) ?_ ?_
      · rw [en_X8_tree]
        simp only [c20, c2i, c2n, c2r, cs8_0, cs8_1, cs8_2, cs8_3, cs8_4, decide_eq_true_eq, ev_ald0, ev_aldn0, ev_bin, ev_cs3, ev_cv0, ev_cv1, ev_cv3, ev_dv, ev_go, ev_gr, ev_i, ev_if0, ev_ild1, ev_ild2, ev_ild3, ev_ild4, ev_ild5, ev_ild6, ev_ist4, ev_ist5, ev_ist6, ev_ri, i00, i01, i10, is_sw, not_false_eq_true, not_true_eq_false, pm_bd_s, pm_tl_n, pm_tl_s, ↓reduceIte, pb_X8_tree_0, pb_X8_tree_1, pb_X8_tree_2, pb_X8_tree_3, kd_0, rf_0_0, rf_0_1, rf_0_2, rf_0_3, rf_0_4, rf_0_5, rf_0_6, rf_0_7, rf_0_8, is_8_0, kd_1, rf_1_0, rf_1_1, rf_1_2, rf_1_3, rf_1_4, rf_1_5, rf_1_6, is_5_1, kd_5, rf_5_2, fc_5_0, fc_5_1, is_6_3_5, is_3_6_5, n1000, sp_isIn, bI_0, bI_n0, eq_true qk, eq_true qf, eq_true qa, eq_true qb, full_5 hc5 ht.2.2, q8, fail_4, F4]
      · have e8 : (nI nt = 16) = True := eq_true (by rw [q8]; rfl)
        rw [en_X9_tree]
        simp only [c20, c2i, c2n, c2r, cs8_0, cs8_1, cs8_2, cs8_3, cs8_4, decide_eq_true_eq, ev_ald0, ev_aldn0, ev_bin, ev_cs3, ev_cv1, ev_dup2_ii, ev_dup2_ir, ev_dv, ev_go, ev_gr, ev_i, ev_ia, ev_ias, ev_if0, ev_if2, ev_ild1, ev_ild2, ev_ild3, ev_ild4, ev_ild5, ev_ild6, ev_ist4, ev_ist5, ev_ist6, ev_ri, i00, i01, i10, not_false_eq_true, not_true_eq_false, pm_bd_s, pm_tl_n, pm_tl_s, ↓reduceIte, pb_X9_tree_0, pb_X9_tree_1, pb_X9_tree_2, pb_X9_tree_3, kd_59, rf_59_0, rf_59_1, rf_59_3, rf_59_4, rf_59_5, rf_59_6, rf_59_7, rf_59_12, rf_59_14, rf_59_15, rf_59_16, rf_59_19, rf_59_23, rf_59_24, rf_59_25, rf_59_26, is_9_59, kd_60, al_60, n1000, sr_isIn, bI_0, bI_n0, eq_true qk, eq_true qf, eq_true qa, eq_true qb, x0, ix2, cl2, hu60, e8, find_4]
    · have h16 : nt < 16 := by omega
      refine ⟨nI nt, ntC h nt k f (x / 1000 - 100) (x - x / 1000 * 1000 - 100), ntR (ntC h nt k f (x / 1000 - 100) (x - x / 1000 * 1000 - 100)) nt k f (x / 1000 - 100) (x - x / 1000 * 1000 - 100), ?_, ?_, Inv_nt hI iN h16 ⟨Int32.le_trans (by decide) qk.1, qk.2⟩⟩
      · rw [en_X8_tree]
        unfold ntC
        simp only [c20, c2i, c2n, c2r, cs8_0, cs8_1, cs8_2, cs8_3, cs8_4, decide_eq_true_eq, ev_ald0, ev_aldn0, ev_bin, ev_cs3, ev_cv0, ev_cv1, ev_cv3, ev_dv, ev_go, ev_gr, ev_i, ev_if0, ev_ild1, ev_ild2, ev_ild3, ev_ild4, ev_ild5, ev_ild6, ev_ist4, ev_ist5, ev_ist6, ev_ri, i00, i01, i10, is_sw, not_false_eq_true, not_true_eq_false, pm_bd_s, pm_tl_n, pm_tl_s, ↓reduceIte, pb_X8_tree_0, pb_X8_tree_1, pb_X8_tree_2, pb_X8_tree_3, kd_0, rf_0_0, rf_0_1, rf_0_2, rf_0_3, rf_0_4, rf_0_5, rf_0_6, rf_0_7, rf_0_8, is_8_0, kd_1, rf_1_0, rf_1_1, rf_1_2, rf_1_3, rf_1_4, rf_1_5, rf_1_6, is_5_1, kd_5, rf_5_2, fc_5_0, fc_5_1, is_6_3_5, is_3_6_5, n1000, sp_isIn, bI_0, bI_n0, eq_true qk, eq_true qf, eq_true qa, eq_true qb, full_5 hc5 ht.2.2, q8, add_5 hc5 h16, set_5_1 h16, set_5_2 h16, set_5_3 h16]
      · have e8 : (nI nt = 16) = False := eq_false (fun q => q8 ((nI_eq (a := nt) (b := 16) (by omega) (by omega)).mp q))
        have hC : ∀ j, (ntC h nt k f (x / 1000 - 100) (x - x / 1000 * 1000 - 100)).1 60 j = h.1 60 j := by
          intro j
          unfold ntC
          simp only [si_at, Nat.reduceEqDiff, false_and, ↓reduceIte]
        have z0 : (168 : Int32) + 4 * nI nt = nI (168 + 4 * nt) := by
          show nI 168 + nI 4 * nI nt = _
          rw [nI_mul, nI_add]
        have z : ∀ c, c < 4 → pm_ix (nI (168 + 4 * nt + c)) 440 = true ∧ (nI (168 + 4 * nt + c)).toNatClampNeg = 168 + 4 * nt + c := fun c hc => ⟨pm_ix_n (by omega) (by omega), nI_clamp (by omega)⟩
        have zz : ∀ c, nI (168 + 4 * nt) + nI c = nI (168 + 4 * nt + c) := fun c => nI_add _ _
        have y0 : nI (168 + 4 * nt) + 0 = nI (168 + 4 * nt + 0) := zz 0
        have y1 : nI (168 + 4 * nt) + 1 = nI (168 + 4 * nt + 1) := zz 1
        have y2 : nI (168 + 4 * nt) + 2 = nI (168 + 4 * nt + 2) := zz 2
        have y3 : nI (168 + 4 * nt) + 3 = nI (168 + 4 * nt + 3) := zz 3
        have v1 : ∀ c : Nat, (2 = 168 + 4 * nt + c) = False := fun c => eq_false (by omega)
        generalize ntC h nt k f (x / 1000 - 100) (x - x / 1000 * 1000 - 100) = h1 at hC
        have hC1 : h1.1 60 2 = nI nt := by rw [hC]; exact ht.2.1
        rw [en_X9_tree]
        unfold ntR
        simp only [c20, c2i, c2n, c2r, cs8_0, cs8_1, cs8_2, cs8_3, cs8_4, decide_eq_true_eq, ev_ald0, ev_aldn0, ev_bin, ev_cs3, ev_cv1, ev_dup2_ii, ev_dup2_ir, ev_dv, ev_go, ev_gr, ev_i, ev_ia, ev_ias, ev_if0, ev_if2, ev_ild1, ev_ild2, ev_ild3, ev_ild4, ev_ild5, ev_ild6, ev_ist4, ev_ist5, ev_ist6, ev_ri, i00, i01, i10, not_false_eq_true, not_true_eq_false, pm_bd_s, pm_tl_n, pm_tl_s, ↓reduceIte, pb_X9_tree_0, pb_X9_tree_1, pb_X9_tree_2, pb_X9_tree_3, kd_59, rf_59_0, rf_59_1, rf_59_3, rf_59_4, rf_59_5, rf_59_6, rf_59_7, rf_59_12, rf_59_14, rf_59_15, rf_59_16, rf_59_19, rf_59_23, rf_59_24, rf_59_25, rf_59_26, is_9_59, kd_60, al_60, n1000, sr_isIn, bI_0, bI_n0, eq_true qk, eq_true qf, eq_true qa, eq_true qb, x0, ix2, cl2, hC1, e8, z0, y0, y1, y2, y3, (z 0 (by omega)).1, (z 1 (by omega)).1, (z 2 (by omega)).1, (z 3 (by omega)).1, (z 0 (by omega)).2, (z 1 (by omega)).2, (z 2 (by omega)).2, (z 3 (by omega)).2, si_at, v1, and_false, true_and, nI_1]
  · refine Pr_e (e := 1) (x := -1000000001) hI (by omega) (by omega) ?_ ?_
    · rw [en_X8_tree]
      by_cases a1 : 1 ≤ k ∧ k ≤ 24
      · by_cases a2 : 0 ≤ f ∧ f ≤ 5
        · by_cases a3 : -99 ≤ x / 1000 - 100 ∧ x / 1000 - 100 ≤ 99
          · have a4 : ¬ (-99 ≤ x - x / 1000 * 1000 - 100 ∧ x - x / 1000 * 1000 - 100 ≤ 99) := fun q => q1 ⟨a1, a2, a3, q⟩
            simp only [c20, c2i, c2n, c2r, cs8_0, cs8_1, cs8_2, cs8_3, cs8_4, decide_eq_true_eq, ev_ald0, ev_aldn0, ev_bin, ev_cs3, ev_cv0, ev_cv1, ev_cv3, ev_dv, ev_go, ev_gr, ev_i, ev_if0, ev_ild1, ev_ild2, ev_ild3, ev_ild4, ev_ild5, ev_ild6, ev_ist4, ev_ist5, ev_ist6, ev_ri, i00, i01, i10, is_sw, not_false_eq_true, not_true_eq_false, pm_bd_s, pm_tl_n, pm_tl_s, ↓reduceIte, pb_X8_tree_0, pb_X8_tree_1, pb_X8_tree_2, pb_X8_tree_3, kd_0, rf_0_0, rf_0_1, rf_0_2, rf_0_3, rf_0_4, rf_0_5, rf_0_6, rf_0_7, rf_0_8, is_8_0, kd_1, rf_1_0, rf_1_1, rf_1_2, rf_1_3, rf_1_4, rf_1_5, rf_1_6, is_5_1, kd_5, rf_5_2, fc_5_0, fc_5_1, is_6_3_5, is_3_6_5, n1000, sp_isIn, bI_0, bI_n0, eq_true a1, eq_true a2, eq_true a3, eq_false a4, fail_1, F1]
          · simp only [c20, c2i, c2n, c2r, cs8_0, cs8_1, cs8_2, cs8_3, cs8_4, decide_eq_true_eq, ev_ald0, ev_aldn0, ev_bin, ev_cs3, ev_cv0, ev_cv1, ev_cv3, ev_dv, ev_go, ev_gr, ev_i, ev_if0, ev_ild1, ev_ild2, ev_ild3, ev_ild4, ev_ild5, ev_ild6, ev_ist4, ev_ist5, ev_ist6, ev_ri, i00, i01, i10, is_sw, not_false_eq_true, not_true_eq_false, pm_bd_s, pm_tl_n, pm_tl_s, ↓reduceIte, pb_X8_tree_0, pb_X8_tree_1, pb_X8_tree_2, pb_X8_tree_3, kd_0, rf_0_0, rf_0_1, rf_0_2, rf_0_3, rf_0_4, rf_0_5, rf_0_6, rf_0_7, rf_0_8, is_8_0, kd_1, rf_1_0, rf_1_1, rf_1_2, rf_1_3, rf_1_4, rf_1_5, rf_1_6, is_5_1, kd_5, rf_5_2, fc_5_0, fc_5_1, is_6_3_5, is_3_6_5, n1000, sp_isIn, bI_0, bI_n0, eq_true a1, eq_true a2, eq_false a3, fail_1, F1]
        · simp only [c20, c2i, c2n, c2r, cs8_0, cs8_1, cs8_2, cs8_3, cs8_4, decide_eq_true_eq, ev_ald0, ev_aldn0, ev_bin, ev_cs3, ev_cv0, ev_cv1, ev_cv3, ev_dv, ev_go, ev_gr, ev_i, ev_if0, ev_ild1, ev_ild2, ev_ild3, ev_ild4, ev_ild5, ev_ild6, ev_ist4, ev_ist5, ev_ist6, ev_ri, i00, i01, i10, is_sw, not_false_eq_true, not_true_eq_false, pm_bd_s, pm_tl_n, pm_tl_s, ↓reduceIte, pb_X8_tree_0, pb_X8_tree_1, pb_X8_tree_2, pb_X8_tree_3, kd_0, rf_0_0, rf_0_1, rf_0_2, rf_0_3, rf_0_4, rf_0_5, rf_0_6, rf_0_7, rf_0_8, is_8_0, kd_1, rf_1_0, rf_1_1, rf_1_2, rf_1_3, rf_1_4, rf_1_5, rf_1_6, is_5_1, kd_5, rf_5_2, fc_5_0, fc_5_1, is_6_3_5, is_3_6_5, n1000, sp_isIn, bI_0, bI_n0, eq_true a1, eq_false a2, fail_1, F1]
      · simp only [c20, c2i, c2n, c2r, cs8_0, cs8_1, cs8_2, cs8_3, cs8_4, decide_eq_true_eq, ev_ald0, ev_aldn0, ev_bin, ev_cs3, ev_cv0, ev_cv1, ev_cv3, ev_dv, ev_go, ev_gr, ev_i, ev_if0, ev_ild1, ev_ild2, ev_ild3, ev_ild4, ev_ild5, ev_ild6, ev_ist4, ev_ist5, ev_ist6, ev_ri, i00, i01, i10, is_sw, not_false_eq_true, not_true_eq_false, pm_bd_s, pm_tl_n, pm_tl_s, ↓reduceIte, pb_X8_tree_0, pb_X8_tree_1, pb_X8_tree_2, pb_X8_tree_3, kd_0, rf_0_0, rf_0_1, rf_0_2, rf_0_3, rf_0_4, rf_0_5, rf_0_6, rf_0_7, rf_0_8, is_8_0, kd_1, rf_1_0, rf_1_1, rf_1_2, rf_1_3, rf_1_4, rf_1_5, rf_1_6, is_5_1, kd_5, rf_5_2, fc_5_0, fc_5_1, is_6_3_5, is_3_6_5, n1000, sp_isIn, bI_0, bI_n0, eq_false a1, fail_1, F1]
    · rw [en_X9_tree]
      by_cases a1 : 1 ≤ k ∧ k ≤ 24
      · by_cases a2 : 0 ≤ f ∧ f ≤ 5
        · by_cases a5 : x < 0
          · simp only [c20, c2i, c2n, c2r, cs8_0, cs8_1, cs8_2, cs8_3, cs8_4, decide_eq_true_eq, ev_ald0, ev_aldn0, ev_bin, ev_cs3, ev_cv1, ev_dup2_ii, ev_dup2_ir, ev_dv, ev_go, ev_gr, ev_i, ev_ia, ev_ias, ev_if0, ev_if2, ev_ild1, ev_ild2, ev_ild3, ev_ild4, ev_ild5, ev_ild6, ev_ist4, ev_ist5, ev_ist6, ev_ri, i00, i01, i10, not_false_eq_true, not_true_eq_false, pm_bd_s, pm_tl_n, pm_tl_s, ↓reduceIte, pb_X9_tree_0, pb_X9_tree_1, pb_X9_tree_2, pb_X9_tree_3, kd_59, rf_59_0, rf_59_1, rf_59_3, rf_59_4, rf_59_5, rf_59_6, rf_59_7, rf_59_12, rf_59_14, rf_59_15, rf_59_16, rf_59_19, rf_59_23, rf_59_24, rf_59_25, rf_59_26, is_9_59, kd_60, al_60, n1000, sr_isIn, bI_0, bI_n0, eq_true a1, eq_true a2, a5, find_1]
          · by_cases a3 : -99 ≤ x / 1000 - 100 ∧ x / 1000 - 100 ≤ 99
            · have a4 : ¬ (-99 ≤ x - x / 1000 * 1000 - 100 ∧ x - x / 1000 * 1000 - 100 ≤ 99) := fun q => q1 ⟨a1, a2, a3, q⟩
              simp only [c20, c2i, c2n, c2r, cs8_0, cs8_1, cs8_2, cs8_3, cs8_4, decide_eq_true_eq, ev_ald0, ev_aldn0, ev_bin, ev_cs3, ev_cv1, ev_dup2_ii, ev_dup2_ir, ev_dv, ev_go, ev_gr, ev_i, ev_ia, ev_ias, ev_if0, ev_if2, ev_ild1, ev_ild2, ev_ild3, ev_ild4, ev_ild5, ev_ild6, ev_ist4, ev_ist5, ev_ist6, ev_ri, i00, i01, i10, not_false_eq_true, not_true_eq_false, pm_bd_s, pm_tl_n, pm_tl_s, ↓reduceIte, pb_X9_tree_0, pb_X9_tree_1, pb_X9_tree_2, pb_X9_tree_3, kd_59, rf_59_0, rf_59_1, rf_59_3, rf_59_4, rf_59_5, rf_59_6, rf_59_7, rf_59_12, rf_59_14, rf_59_15, rf_59_16, rf_59_19, rf_59_23, rf_59_24, rf_59_25, rf_59_26, is_9_59, kd_60, al_60, n1000, sr_isIn, bI_0, bI_n0, eq_true a1, eq_true a2, a5, eq_true a3, eq_false a4, find_1]
            · simp only [c20, c2i, c2n, c2r, cs8_0, cs8_1, cs8_2, cs8_3, cs8_4, decide_eq_true_eq, ev_ald0, ev_aldn0, ev_bin, ev_cs3, ev_cv1, ev_dup2_ii, ev_dup2_ir, ev_dv, ev_go, ev_gr, ev_i, ev_ia, ev_ias, ev_if0, ev_if2, ev_ild1, ev_ild2, ev_ild3, ev_ild4, ev_ild5, ev_ild6, ev_ist4, ev_ist5, ev_ist6, ev_ri, i00, i01, i10, not_false_eq_true, not_true_eq_false, pm_bd_s, pm_tl_n, pm_tl_s, ↓reduceIte, pb_X9_tree_0, pb_X9_tree_1, pb_X9_tree_2, pb_X9_tree_3, kd_59, rf_59_0, rf_59_1, rf_59_3, rf_59_4, rf_59_5, rf_59_6, rf_59_7, rf_59_12, rf_59_14, rf_59_15, rf_59_16, rf_59_19, rf_59_23, rf_59_24, rf_59_25, rf_59_26, is_9_59, kd_60, al_60, n1000, sr_isIn, bI_0, bI_n0, eq_true a1, eq_true a2, a5, eq_false a3, find_1]
        · simp only [c20, c2i, c2n, c2r, cs8_0, cs8_1, cs8_2, cs8_3, cs8_4, decide_eq_true_eq, ev_ald0, ev_aldn0, ev_bin, ev_cs3, ev_cv1, ev_dup2_ii, ev_dup2_ir, ev_dv, ev_go, ev_gr, ev_i, ev_ia, ev_ias, ev_if0, ev_if2, ev_ild1, ev_ild2, ev_ild3, ev_ild4, ev_ild5, ev_ild6, ev_ist4, ev_ist5, ev_ist6, ev_ri, i00, i01, i10, not_false_eq_true, not_true_eq_false, pm_bd_s, pm_tl_n, pm_tl_s, ↓reduceIte, pb_X9_tree_0, pb_X9_tree_1, pb_X9_tree_2, pb_X9_tree_3, kd_59, rf_59_0, rf_59_1, rf_59_3, rf_59_4, rf_59_5, rf_59_6, rf_59_7, rf_59_12, rf_59_14, rf_59_15, rf_59_16, rf_59_19, rf_59_23, rf_59_24, rf_59_25, rf_59_26, is_9_59, kd_60, al_60, n1000, sr_isIn, bI_0, bI_n0, eq_true a1, eq_false a2, find_1]
      · simp only [c20, c2i, c2n, c2r, cs8_0, cs8_1, cs8_2, cs8_3, cs8_4, decide_eq_true_eq, ev_ald0, ev_aldn0, ev_bin, ev_cs3, ev_cv1, ev_dup2_ii, ev_dup2_ir, ev_dv, ev_go, ev_gr, ev_i, ev_ia, ev_ias, ev_if0, ev_if2, ev_ild1, ev_ild2, ev_ild3, ev_ild4, ev_ild5, ev_ild6, ev_ist4, ev_ist5, ev_ist6, ev_ri, i00, i01, i10, not_false_eq_true, not_true_eq_false, pm_bd_s, pm_tl_n, pm_tl_s, ↓reduceIte, pb_X9_tree_0, pb_X9_tree_1, pb_X9_tree_2, pb_X9_tree_3, kd_59, rf_59_0, rf_59_1, rf_59_3, rf_59_4, rf_59_5, rf_59_6, rf_59_7, rf_59_12, rf_59_14, rf_59_15, rf_59_16, rf_59_19, rf_59_23, rf_59_24, rf_59_25, rf_59_26, is_9_59, kd_60, al_60, n1000, sr_isIn, bI_0, bI_n0, eq_false a1, find_1]
end PF
