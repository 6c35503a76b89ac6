/-! PAIRS OF CALLS: slip, does, as -/
theorem si_eq (h : pm_HP) {a k b j : Nat} {v : Int32} (hn : b = a ∧ j = k) : (pm_si h a k v).1 b j = v := by
  rw [si_at, if_pos hn]
/-- the class's cells behind a new slip; the reference's, too -/
def nsC (h : pm_HP) (u : Nat) (k f t m : Int32) : pm_HP := pm_si (pm_si (pm_si (pm_si (pm_si (pm_si h 4 3 (nI (u + 1))) 32 u k) 32 (1 * 8 + u) f) 32 (2 * 8 + u) t) 32 (3 * 8 + u) m) 32 (4 * 8 + u) 1
def nsR (h : pm_HP) (u : Nat) (k f t m : Int32) : pm_HP := pm_si (pm_si (pm_si (pm_si (pm_si (pm_si h 60 (128 + 5 * u + 0) k) 60 (128 + 5 * u + 1) f) 60 (128 + 5 * u + 2) t) 60 (128 + 5 * u + 3) m) 60 (128 + 5 * u + 4) 1) 60 1 (nI (u + 1))
set_option maxHeartbeats 2000000 in
theorem Inv_ns {h : pm_HP} {n u nt nb nw : Nat} {k f t m : Int32} (hI : Inv h) (iN : RN h 3 60 n u nt nb nw) (hu : u < 8) (hk : inB 0 6 k) (hf : inB 0 23 f) (hft : f ≤ t) (ht : inB 0 23 t) (hm : inB (-99) 99 m) : Inv (nsR (nsC h u k f t m) u k f t m) := by
  obtain ⟨-, iZ, iM, iS, iT, iB, iW, iX, iY⟩ := hI.1
  unfold nsR nsC
  refine Inv_now hI (now_si (now_si (now_si (now_si (now_si (now_si (now_si (now_si (now_si (now_si (now_si (now_si (fun _ _ _ => rfl) (by decide)) (by decide)) (by decide)) (by decide)) (by decide)) (by decide)) (by decide)) (by decide)) (by decide)) (by decide)) (by decide)) (by decide)) (R0_si (R0_si (R0_si (R0_si (R0_si (R0_si (R0_si (R0_si (R0_si (R0_si (R0_si (R0_si hI.2.2.2.2.2 (by omega)) (by omega)) (by omega)) (by omega)) (by omega)) (by omega)) (by omega)) (by omega)) (by omega)) (by omega)) (by omega)) (by omega)) ⟨⟨n, u + 1, nt, nb, nw, ?_⟩, RZ_t iZ ⟨(by repeat (rw [si_ne _ _ (by omega)])), (by repeat (rw [si_ne _ _ (by omega)])), (by repeat (rw [si_ne _ _ (by omega)]))⟩ (fun j _ _ => (by repeat (rw [si_ne _ _ (by omega)]))), RM_t iM (by funext b; simp only [si_at, Nat.reduceEqDiff, false_and, ↓reduceIte]) (fun j _ _ => (by repeat (rw [si_ne _ _ (by omega)]))), ?_, RT_t iT (by funext b; simp only [si_at, Nat.reduceEqDiff, false_and, ↓reduceIte]) (fun j _ _ => (by repeat (rw [si_ne _ _ (by omega)]))), RB_t iB (by funext b; simp only [si_at, Nat.reduceEqDiff, false_and, ↓reduceIte]) (fun j _ _ => (by repeat (rw [si_ne _ _ (by omega)]))), RW_t iW (by funext b; simp only [si_at, Nat.reduceEqDiff, false_and, ↓reduceIte]) (fun j _ _ => (by repeat (rw [si_ne _ _ (by omega)]))), RX_t iX (by repeat (rw [si_ne _ _ (by omega)])) (by funext b; simp only [si_at, Nat.reduceEqDiff, false_and, ↓reduceIte]) (fun j _ _ => (by repeat (rw [si_ne _ _ (by omega)]))), RX_t iY (by repeat (rw [si_ne _ _ (by omega)])) (by funext b; simp only [si_at, Nat.reduceEqDiff, false_and, ↓reduceIte]) (fun j _ _ => (by repeat (rw [si_ne _ _ (by omega)])))⟩
  · obtain ⟨⟨a1, a2, a3⟩, ⟨b1, b2, b3⟩, ⟨c1, c2, c3⟩, ⟨d1, d2, d3⟩, ⟨e1, e2, e3⟩⟩ := iN
    refine ⟨⟨?_, ?_, a3⟩, ⟨?_, ?_, by omega⟩, ⟨?_, ?_, c3⟩, ⟨?_, ?_, d3⟩, ⟨?_, ?_, e3⟩⟩
    · (repeat (first | rw [si_ne _ _ (by omega)] | rw [si_eq _ (by omega)])); exact a1
    · (repeat (first | rw [si_ne _ _ (by omega)] | rw [si_eq _ (by omega)])); exact a2
    · ((repeat (first | rw [si_ne _ _ (by omega)] | rw [si_eq _ (by omega)])))
    · ((repeat (first | rw [si_ne _ _ (by omega)] | rw [si_eq _ (by omega)])))
    · (repeat (first | rw [si_ne _ _ (by omega)] | rw [si_eq _ (by omega)])); exact c1
    · (repeat (first | rw [si_ne _ _ (by omega)] | rw [si_eq _ (by omega)])); exact c2
    · (repeat (first | rw [si_ne _ _ (by omega)] | rw [si_eq _ (by omega)])); exact d1
    · (repeat (first | rw [si_ne _ _ (by omega)] | rw [si_eq _ (by omega)])); exact d2
    · (repeat (first | rw [si_ne _ _ (by omega)] | rw [si_eq _ (by omega)])); exact e1
    · (repeat (first | rw [si_ne _ _ (by omega)] | rw [si_eq _ (by omega)])); exact e2
  · intro s hs
    obtain ⟨g, b0, b1, b2, b3, b4, b5⟩ := iS s hs
    by_cases q : s = u
    · subst q
      refine ⟨fun c hc => ?_, ?_, ?_, ?_, ?_, ?_, ?_⟩
      · rcases (show c = 0 ∨ c = 1 ∨ c = 2 ∨ c = 3 ∨ c = 4 by omega) with rfl | rfl | rfl | rfl | rfl <;> ((repeat (first | rw [si_ne _ _ (by omega)] | rw [si_eq _ (by omega)])))
      · (repeat (first | rw [si_ne _ _ (by omega)] | rw [si_eq _ (by omega)])); exact hk
      · (repeat (first | rw [si_ne _ _ (by omega)] | rw [si_eq _ (by omega)])); exact hf
      · (repeat (first | rw [si_ne _ _ (by omega)] | rw [si_eq _ (by omega)])); exact hft
      · (repeat (first | rw [si_ne _ _ (by omega)] | rw [si_eq _ (by omega)])); exact ht
      · (repeat (first | rw [si_ne _ _ (by omega)] | rw [si_eq _ (by omega)])); exact hm
      · (repeat (first | rw [si_ne _ _ (by omega)] | rw [si_eq _ (by omega)])); exact Or.inr rfl
    · refine ⟨fun c hc => ?_, ?_, ?_, ?_, ?_, ?_, ?_⟩
      · (repeat (first | rw [si_ne _ _ (by omega)] | rw [si_eq _ (by omega)])); exact g c hc
      · (repeat (first | rw [si_ne _ _ (by omega)] | rw [si_eq _ (by omega)])); exact b0
      · (repeat (first | rw [si_ne _ _ (by omega)] | rw [si_eq _ (by omega)])); exact b1
      · (repeat (first | rw [si_ne _ _ (by omega)] | rw [si_eq _ (by omega)])); exact b2
      · (repeat (first | rw [si_ne _ _ (by omega)] | rw [si_eq _ (by omega)])); exact b3
      · (repeat (first | rw [si_ne _ _ (by omega)] | rw [si_eq _ (by omega)])); exact b4
      · (repeat (first | rw [si_ne _ _ (by omega)] | rw [si_eq _ (by omega)])); exact b5
section P4
variable {fb : Bool} {d : Nat} {h : pm_HP}
theorem add_4 {u : Nat} {v : Int32} (hu : h.1 4 3 = nI u) (hu2 : u < 8) : rs fb (d + 3) n_X6_add [.ref 4, .int v] h = some (some (.int (nI u)), pm_si (pm_si h 4 3 (nI (u + 1))) 32 u v) := sp_add (t := 4) (by decide) hu (by rw [tR_4]; exact hu2)
theorem full_4 {u : Nat} (hu : h.1 4 3 = nI u) (hu2 : u ≤ 8) : rs fb (d + 1) n_X6_isFull [.ref 4] h = some (some (.int (bI (u = 8))), h) := by
  have g := sp_isFull (fb := fb) (d := d) (t := 4) (h := h) (by decide) hu (by rw [tR_4]; exact hu2)
  simp only [tR_4] at g
  exact g
theorem ft_pos {x : Int32} (h1 : 0 ≤ x / 100 ∧ x / 100 ≤ 23) (h2 : 0 ≤ x - x / 100 * 100 ∧ x - x / 100 * 100 ≤ 23) : ¬ x < 0 := by
  obtain ⟨a, ha, ea⟩ := nI_of2 (M := 23) (n := 23) (by decide) (Int32.not_lt.mpr h1.1) h1.2
  obtain ⟨b, hb, eb⟩ := nI_of2 (M := 23) (n := 23) (by decide) (Int32.not_lt.mpr h2.1) h2.2
  have e : x = nI (a * 100 + b) := by
    have e1 : x = x / 100 * 100 + (x - x / 100 * 100) := by rw [Int32.add_comm, Int32.sub_add_cancel]
    rw [e1, eb, ea]
    show nI a * nI 100 + nI b = _
    rw [nI_mul, nI_add]
  rw [e]
  exact nI_pos (by omega)
theorem n100 : ((100 : Int32) = 0) = False := by simp
set_option maxHeartbeats 2000000 in
theorem pr_slip (hI : Inv h) (k x m : Int32) : Pr fb (d + 100) n_X8_slip n_X9_slip [.int k, .int x, .int m] h := by
  obtain ⟨⟨n, u, nt, nb, nw, iN⟩, iZ, iM, iS, iT, iB, iW, iX, iY⟩ := id hI.1
  have hu := iN.2.1
  have hc4 : h.1 4 3 = nI u := hu.1
  have ix1 : pm_ix (1 : Int32) 440 = true := by decide
  have cl1 : (1 : Int32).toNatClampNeg = 1 := by decide
  have hu60 : (pm_si h 28 4 (h.1 28 4 + 1)).1 60 1 = nI u := (si_ne _ _ (by omega)).trans hu.2.1
  by_cases q1 : (0 ≤ k ∧ k ≤ 6) ∧ (-99 ≤ m ∧ m ≤ 99) ∧ (0 ≤ x / 100 ∧ x / 100 ≤ 23) ∧ (x / 100 ≤ x - x / 100 * 100 ∧ x - x / 100 * 100 ≤ 23)
  · obtain ⟨qk, qm, qf, qt⟩ := q1
    have qt0 : 0 ≤ x - x / 100 * 100 ∧ x - x / 100 * 100 ≤ 23 := ⟨Int32.le_trans qf.1 qt.1, qt.2⟩
    have x0 := ft_pos qf qt0
    have qtl : ¬ x - x / 100 * 100 < x / 100 := Int32.not_lt.mpr qt.1
    by_cases q8 : u = 8
    · refine Pr_e (e := 4) (x := -1000000004) hI (by omega) (by omega) ?_ ?_
      · rw [en_X8_slip]
        simp only [c20, c2i, c2n, c2r, cs8_0, cs8_1, cs8_2, cs8_3, cs8_4, decide_eq_true_eq, ev_ald0, ev_aldn0, ev_cs3, ev_cv0, ev_cv1, ev_cv3, ev_dv, ev_go, ev_gr, ev_i, ev_if0, ev_ild1, ev_ild2, ev_ild3, ev_ild4, ev_ild5, ev_ild6, ev_ist4, ev_ist5, ev_ist6, ev_ri, i00, i01, i10, not_false_eq_true, not_true_eq_false, pm_bd_s, pm_tl_n, pm_tl_s, ↓reduceIte, pb_X8_slip_0, pb_X8_slip_1, pb_X8_slip_2, pb_X8_slip_3, kd_0, rf_0_0, rf_0_1, rf_0_2, rf_0_3, rf_0_4, rf_0_5, rf_0_6, rf_0_7, rf_0_8, is_8_0, kd_1, rf_1_0, rf_1_1, rf_1_2, rf_1_3, rf_1_4, rf_1_5, rf_1_6, is_5_1, kd_4, rf_4_2, fc_4_0, fc_4_1, is_6_3_4, is_3_6_4, is_3_4, n100, sp_isIn, bI_0, bI_n0, eq_true qk, eq_true qm, eq_true qf, eq_true qt, full_4 hc4 hu.2.2, q8, fail_4, F4]
      · have e8 : (nI u = 8) = True := eq_true (by rw [q8]; rfl)
        rw [en_X9_slip]
        simp only [c20, c2i, c2n, c2r, cs8_0, cs8_1, cs8_2, cs8_3, cs8_4, decide_eq_true_eq, ev_ald0, ev_aldn0, ev_bin, ev_cs1, ev_cs3, ev_cv1, ev_dup2_ii, ev_dup2_ir, ev_dv, ev_go, ev_gr, ev_i, ev_ia, ev_ias, ev_if0, ev_if2, ev_ild1, ev_ild2, ev_ild3, ev_ild4, ev_ild5, ev_ist4, ev_ist5, ev_ri, i00, i01, i10, not_false_eq_true, not_true_eq_false, pm_bd_s, pm_tl_n, pm_tl_s, ↓reduceIte, pb_X9_slip_0, pb_X9_slip_1, pb_X9_slip_2, pb_X9_slip_3, kd_59, rf_59_0, rf_59_1, rf_59_3, rf_59_4, rf_59_5, rf_59_6, rf_59_7, rf_59_12, rf_59_14, rf_59_15, rf_59_16, rf_59_19, rf_59_23, rf_59_24, rf_59_25, rf_59_26, is_9_59, kd_60, al_60, n100, sr_isIn, sr_isMile, bI_0, bI_n0, eq_true qk, eq_true qm, eq_true qf, eq_true qt0, x0, qtl, ix1, cl1, hu60, e8, find_4]
    · have h8 : u < 8 := by omega
      refine ⟨nI u, nsC h u k (x / 100) (x - x / 100 * 100) m, nsR (nsC h u k (x / 100) (x - x / 100 * 100) m) u k (x / 100) (x - x / 100 * 100) m, ?_, ?_, Inv_ns hI iN h8 qk qf qt.1 qt0 qm⟩
      · rw [en_X8_slip]
        unfold nsC
        simp only [c20, c2i, c2n, c2r, cs8_0, cs8_1, cs8_2, cs8_3, cs8_4, decide_eq_true_eq, ev_ald0, ev_aldn0, ev_cs3, ev_cv0, ev_cv1, ev_cv3, ev_dv, ev_go, ev_gr, ev_i, ev_if0, ev_ild1, ev_ild2, ev_ild3, ev_ild4, ev_ild5, ev_ild6, ev_ist4, ev_ist5, ev_ist6, ev_ri, i00, i01, i10, not_false_eq_true, not_true_eq_false, pm_bd_s, pm_tl_n, pm_tl_s, ↓reduceIte, pb_X8_slip_0, pb_X8_slip_1, pb_X8_slip_2, pb_X8_slip_3, kd_0, rf_0_0, rf_0_1, rf_0_2, rf_0_3, rf_0_4, rf_0_5, rf_0_6, rf_0_7, rf_0_8, is_8_0, kd_1, rf_1_0, rf_1_1, rf_1_2, rf_1_3, rf_1_4, rf_1_5, rf_1_6, is_5_1, kd_4, rf_4_2, fc_4_0, fc_4_1, is_6_3_4, is_3_6_4, is_3_4, n100, sp_isIn, bI_0, bI_n0, eq_true qk, eq_true qm, eq_true qf, eq_true qt, full_4 hc4 hu.2.2, q8, add_4 hc4 h8, set_4_1 h8, set_4_2 h8, set_4_3 h8, set_4_4 h8]
      · have e8 : (nI u = 8) = False := eq_false (fun q => q8 ((nI_eq (a := u) (b := 8) (by omega) (by omega)).mp q))
        have hC : ∀ j, (nsC h u k (x / 100) (x - x / 100 * 100) m).1 60 j = h.1 60 j := by
          intro j
          unfold nsC
          simp only [si_at, Nat.reduceEqDiff, false_and, ↓reduceIte]
        have z0 : (128 : Int32) + 5 * nI u = nI (128 + 5 * u) := by
          show nI 128 + nI 5 * nI u = _
          rw [nI_mul, nI_add]
        have z : ∀ c, c < 5 → pm_ix (nI (128 + 5 * u + c)) 440 = true ∧ (nI (128 + 5 * u + c)).toNatClampNeg = 128 + 5 * u + c := fun c hc => ⟨pm_ix_n (by omega) (by omega), nI_clamp (by omega)⟩
        have zz : ∀ c, nI (128 + 5 * u) + nI c = nI (128 + 5 * u + c) := fun c => nI_add _ _
        have y0 : nI (128 + 5 * u) + 0 = nI (128 + 5 * u + 0) := zz 0
        have y1 : nI (128 + 5 * u) + 1 = nI (128 + 5 * u + 1) := zz 1
        have y2 : nI (128 + 5 * u) + 2 = nI (128 + 5 * u + 2) := zz 2
        have y3 : nI (128 + 5 * u) + 3 = nI (128 + 5 * u + 3) := zz 3
        have y4 : nI (128 + 5 * u) + 4 = nI (128 + 5 * u + 4) := zz 4
        have v1 : ∀ c : Nat, (1 = 128 + 5 * u + c) = False := fun c => eq_false (by omega)
        generalize nsC h u k (x / 100) (x - x / 100 * 100) m = h1 at hC
        have hC1 : h1.1 60 1 = nI u := by rw [hC]; exact hu.2.1
        rw [en_X9_slip]
        unfold nsR
        simp only [c20, c2i, c2n, c2r, cs8_0, cs8_1, cs8_2, cs8_3, cs8_4, decide_eq_true_eq, ev_ald0, ev_aldn0, ev_bin, ev_cs1, ev_cs3, ev_cv1, ev_dup2_ii, ev_dup2_ir, ev_dv, ev_go, ev_gr, ev_i, ev_ia, ev_ias, ev_if0, ev_if2, ev_ild1, ev_ild2, ev_ild3, ev_ild4, ev_ild5, ev_ist4, ev_ist5, ev_ri, i00, i01, i10, not_false_eq_true, not_true_eq_false, pm_bd_s, pm_tl_n, pm_tl_s, ↓reduceIte, pb_X9_slip_0, pb_X9_slip_1, pb_X9_slip_2, pb_X9_slip_3, kd_59, rf_59_0, rf_59_1, rf_59_3, rf_59_4, rf_59_5, rf_59_6, rf_59_7, rf_59_12, rf_59_14, rf_59_15, rf_59_16, rf_59_19, rf_59_23, rf_59_24, rf_59_25, rf_59_26, is_9_59, kd_60, al_60, n100, sr_isIn, sr_isMile, bI_0, bI_n0, eq_true qk, eq_true qm, eq_true qf, eq_true qt0, x0, qtl, ix1, cl1, hC1, e8, z0, y0, y1, y2, y3, y4, (z 0 (by omega)).1, (z 1 (by omega)).1, (z 2 (by omega)).1, (z 3 (by omega)).1, (z 4 (by omega)).1, (z 0 (by omega)).2, (z 1 (by omega)).2, (z 2 (by omega)).2, (z 3 (by omega)).2, (z 4 (by omega)).2, si_at, v1, and_false, true_and, nI_1]
  · refine Pr_e (e := 1) (x := -1000000001) hI (by omega) (by omega) ?_ ?_
    · rw [en_X8_slip]
      by_cases a1 : 0 ≤ k ∧ k ≤ 6
      · by_cases a2 : -99 ≤ m ∧ m ≤ 99
        · by_cases a3 : 0 ≤ x / 100 ∧ x / 100 ≤ 23
          · have a4 : ¬ (x / 100 ≤ x - x / 100 * 100 ∧ x - x / 100 * 100 ≤ 23) := fun q => q1 ⟨a1, a2, a3, q⟩
            simp only [c20, c2i, c2n, c2r, cs8_0, cs8_1, cs8_2, cs8_3, cs8_4, decide_eq_true_eq, ev_ald0, ev_aldn0, ev_cs3, ev_cv0, ev_cv1, ev_cv3, ev_dv, ev_go, ev_gr, ev_i, ev_if0, ev_ild1, ev_ild2, ev_ild3, ev_ild4, ev_ild5, ev_ild6, ev_ist4, ev_ist5, ev_ist6, ev_ri, i00, i01, i10, not_false_eq_true, not_true_eq_false, pm_bd_s, pm_tl_n, pm_tl_s, ↓reduceIte, pb_X8_slip_0, pb_X8_slip_1, pb_X8_slip_2, pb_X8_slip_3, kd_0, rf_0_0, rf_0_1, rf_0_2, rf_0_3, rf_0_4, rf_0_5, rf_0_6, rf_0_7, rf_0_8, is_8_0, kd_1, rf_1_0, rf_1_1, rf_1_2, rf_1_3, rf_1_4, rf_1_5, rf_1_6, is_5_1, kd_4, rf_4_2, fc_4_0, fc_4_1, is_6_3_4, is_3_6_4, is_3_4, n100, sp_isIn, bI_0, bI_n0, eq_true a1, eq_true a2, eq_true a3, eq_false a4, fail_1, F1]
          · simp only [c20, c2i, c2n, c2r, cs8_0, cs8_1, cs8_2, cs8_3, cs8_4, decide_eq_true_eq, ev_ald0, ev_aldn0, ev_cs3, ev_cv0, ev_cv1, ev_cv3, ev_dv, ev_go, ev_gr, ev_i, ev_if0, ev_ild1, ev_ild2, ev_ild3, ev_ild4, ev_ild5, ev_ild6, ev_ist4, ev_ist5, ev_ist6, ev_ri, i00, i01, i10, not_false_eq_true, not_true_eq_false, pm_bd_s, pm_tl_n, pm_tl_s, ↓reduceIte, pb_X8_slip_0, pb_X8_slip_1, pb_X8_slip_2, pb_X8_slip_3, kd_0, rf_0_0, rf_0_1, rf_0_2, rf_0_3, rf_0_4, rf_0_5, rf_0_6, rf_0_7, rf_0_8, is_8_0, kd_1, rf_1_0, rf_1_1, rf_1_2, rf_1_3, rf_1_4, rf_1_5, rf_1_6, is_5_1, kd_4, rf_4_2, fc_4_0, fc_4_1, is_6_3_4, is_3_6_4, is_3_4, n100, sp_isIn, bI_0, bI_n0, eq_true a1, eq_true a2, eq_false a3, fail_1, F1]
        · simp only [c20, c2i, c2n, c2r, cs8_0, cs8_1, cs8_2, cs8_3, cs8_4, decide_eq_true_eq, ev_ald0, ev_aldn0, ev_cs3, ev_cv0, ev_cv1, ev_cv3, ev_dv, ev_go, ev_gr, ev_i, ev_if0, ev_ild1, ev_ild2, ev_ild3, ev_ild4, ev_ild5, ev_ild6, ev_ist4, ev_ist5, ev_ist6, ev_ri, i00, i01, i10, not_false_eq_true, not_true_eq_false, pm_bd_s, pm_tl_n, pm_tl_s, ↓reduceIte, pb_X8_slip_0, pb_X8_slip_1, pb_X8_slip_2, pb_X8_slip_3, kd_0, rf_0_0, rf_0_1, rf_0_2, rf_0_3, rf_0_4, rf_0_5, rf_0_6, rf_0_7, rf_0_8, is_8_0, kd_1, rf_1_0, rf_1_1, rf_1_2, rf_1_3, rf_1_4, rf_1_5, rf_1_6, is_5_1, kd_4, rf_4_2, fc_4_0, fc_4_1, is_6_3_4, is_3_6_4, is_3_4, n100, sp_isIn, bI_0, bI_n0, eq_true a1, eq_false a2, fail_1, F1]
      · simp only [c20, c2i, c2n, c2r, cs8_0, cs8_1, cs8_2, cs8_3, cs8_4, decide_eq_true_eq, ev_ald0, ev_aldn0, ev_cs3, ev_cv0, ev_cv1, ev_cv3, ev_dv, ev_go, ev_gr, ev_i, ev_if0, ev_ild1, ev_ild2, ev_ild3, ev_ild4, ev_ild5, ev_ild6, ev_ist4, ev_ist5, ev_ist6, ev_ri, i00, i01, i10, not_false_eq_true, not_true_eq_false, pm_bd_s, pm_tl_n, pm_tl_s, ↓reduceIte, pb_X8_slip_0, pb_X8_slip_1, pb_X8_slip_2, pb_X8_slip_3, kd_0, rf_0_0, rf_0_1, rf_0_2, rf_0_3, rf_0_4, rf_0_5, rf_0_6, rf_0_7, rf_0_8, is_8_0, kd_1, rf_1_0, rf_1_1, rf_1_2, rf_1_3, rf_1_4, rf_1_5, rf_1_6, is_5_1, kd_4, rf_4_2, fc_4_0, fc_4_1, is_6_3_4, is_3_6_4, is_3_4, n100, sp_isIn, bI_0, bI_n0, eq_false a1, fail_1, F1]
    · rw [en_X9_slip]
      by_cases a1 : 0 ≤ k ∧ k ≤ 6
      · by_cases a5 : x < 0
        · simp only [c20, c2i, c2n, c2r, cs8_0, cs8_1, cs8_2, cs8_3, cs8_4, decide_eq_true_eq, ev_ald0, ev_aldn0, ev_bin, ev_cs1, ev_cs3, ev_cv1, ev_dup2_ii, ev_dup2_ir, ev_dv, ev_go, ev_gr, ev_i, ev_ia, ev_ias, ev_if0, ev_if2, ev_ild1, ev_ild2, ev_ild3, ev_ild4, ev_ild5, ev_ist4, ev_ist5, ev_ri, i00, i01, i10, not_false_eq_true, not_true_eq_false, pm_bd_s, pm_tl_n, pm_tl_s, ↓reduceIte, pb_X9_slip_0, pb_X9_slip_1, pb_X9_slip_2, pb_X9_slip_3, kd_59, rf_59_0, rf_59_1, rf_59_3, rf_59_4, rf_59_5, rf_59_6, rf_59_7, rf_59_12, rf_59_14, rf_59_15, rf_59_16, rf_59_19, rf_59_23, rf_59_24, rf_59_25, rf_59_26, is_9_59, kd_60, al_60, n100, sr_isIn, sr_isMile, bI_0, bI_n0, eq_true a1, a5, find_1]
        · by_cases a3 : 0 ≤ x / 100 ∧ x / 100 ≤ 23
          · by_cases a4 : 0 ≤ x - x / 100 * 100 ∧ x - x / 100 * 100 ≤ 23
            · by_cases a6 : x - x / 100 * 100 < x / 100
              · simp only [c20, c2i, c2n, c2r, cs8_0, cs8_1, cs8_2, cs8_3, cs8_4, decide_eq_true_eq, ev_ald0, ev_aldn0, ev_bin, ev_cs1, ev_cs3, ev_cv1, ev_dup2_ii, ev_dup2_ir, ev_dv, ev_go, ev_gr, ev_i, ev_ia, ev_ias, ev_if0, ev_if2, ev_ild1, ev_ild2, ev_ild3, ev_ild4, ev_ild5, ev_ist4, ev_ist5, ev_ri, i00, i01, i10, not_false_eq_true, not_true_eq_false, pm_bd_s, pm_tl_n, pm_tl_s, ↓reduceIte, pb_X9_slip_0, pb_X9_slip_1, pb_X9_slip_2, pb_X9_slip_3, kd_59, rf_59_0, rf_59_1, rf_59_3, rf_59_4, rf_59_5, rf_59_6, rf_59_7, rf_59_12, rf_59_14, rf_59_15, rf_59_16, rf_59_19, rf_59_23, rf_59_24, rf_59_25, rf_59_26, is_9_59, kd_60, al_60, n100, sr_isIn, sr_isMile, bI_0, bI_n0, eq_true a1, a5, eq_true a3, eq_true a4, a6, find_1]
              · have a2 : ¬ (-99 ≤ m ∧ m ≤ 99) := fun q => q1 ⟨a1, q, a3, Int32.not_lt.mp a6, a4.2⟩
                simp only [c20, c2i, c2n, c2r, cs8_0, cs8_1, cs8_2, cs8_3, cs8_4, decide_eq_true_eq, ev_ald0, ev_aldn0, ev_bin, ev_cs1, ev_cs3, ev_cv1, ev_dup2_ii, ev_dup2_ir, ev_dv, ev_go, ev_gr, ev_i, ev_ia, ev_ias, ev_if0, ev_if2, ev_ild1, ev_ild2, ev_ild3, ev_ild4, ev_ild5, ev_ist4, ev_ist5, ev_ri, i00, i01, i10, not_false_eq_true, not_true_eq_false, pm_bd_s, pm_tl_n, pm_tl_s, ↓reduceIte, pb_X9_slip_0, pb_X9_slip_1, pb_X9_slip_2, pb_X9_slip_3, kd_59, rf_59_0, rf_59_1, rf_59_3, rf_59_4, rf_59_5, rf_59_6, rf_59_7, rf_59_12, rf_59_14, rf_59_15, rf_59_16, rf_59_19, rf_59_23, rf_59_24, rf_59_25, rf_59_26, is_9_59, kd_60, al_60, n100, sr_isIn, sr_isMile, bI_0, bI_n0, eq_true a1, a5, eq_true a3, eq_true a4, a6, eq_false a2, find_1]
            · simp only [c20, c2i, c2n, c2r, cs8_0, cs8_1, cs8_2, cs8_3, cs8_4, decide_eq_true_eq, ev_ald0, ev_aldn0, ev_bin, ev_cs1, ev_cs3, ev_cv1, ev_dup2_ii, ev_dup2_ir, ev_dv, ev_go, ev_gr, ev_i, ev_ia, ev_ias, ev_if0, ev_if2, ev_ild1, ev_ild2, ev_ild3, ev_ild4, ev_ild5, ev_ist4, ev_ist5, ev_ri, i00, i01, i10, not_false_eq_true, not_true_eq_false, pm_bd_s, pm_tl_n, pm_tl_s, ↓reduceIte, pb_X9_slip_0, pb_X9_slip_1, pb_X9_slip_2, pb_X9_slip_3, kd_59, rf_59_0, rf_59_1, rf_59_3, rf_59_4, rf_59_5, rf_59_6, rf_59_7, rf_59_12, rf_59_14, rf_59_15, rf_59_16, rf_59_19, rf_59_23, rf_59_24, rf_59_25, rf_59_26, is_9_59, kd_60, al_60, n100, sr_isIn, sr_isMile, bI_0, bI_n0, eq_true a1, a5, eq_true a3, eq_false a4, find_1]
          · simp only [c20, c2i, c2n, c2r, cs8_0, cs8_1, cs8_2, cs8_3, cs8_4, decide_eq_true_eq, ev_ald0, ev_aldn0, ev_bin, ev_cs1, ev_cs3, ev_cv1, ev_dup2_ii, ev_dup2_ir, ev_dv, ev_go, ev_gr, ev_i, ev_ia, ev_ias, ev_if0, ev_if2, ev_ild1, ev_ild2, ev_ild3, ev_ild4, ev_ild5, ev_ist4, ev_ist5, ev_ri, i00, i01, i10, not_false_eq_true, not_true_eq_false, pm_bd_s, pm_tl_n, pm_tl_s, ↓reduceIte, pb_X9_slip_0, pb_X9_slip_1, pb_X9_slip_2, pb_X9_slip_3, kd_59, rf_59_0, rf_59_1, rf_59_3, rf_59_4, rf_59_5, rf_59_6, rf_59_7, rf_59_12, rf_59_14, rf_59_15, rf_59_16, rf_59_19, rf_59_23, rf_59_24, rf_59_25, rf_59_26, is_9_59, kd_60, al_60, n100, sr_isIn, sr_isMile, bI_0, bI_n0, eq_true a1, a5, eq_false a3, find_1]
      · simp only [c20, c2i, c2n, c2r, cs8_0, cs8_1, cs8_2, cs8_3, cs8_4, decide_eq_true_eq, ev_ald0, ev_aldn0, ev_bin, ev_cs1, ev_cs3, ev_cv1, ev_dup2_ii, ev_dup2_ir, ev_dv, ev_go, ev_gr, ev_i, ev_ia, ev_ias, ev_if0, ev_if2, ev_ild1, ev_ild2, ev_ild3, ev_ild4, ev_ild5, ev_ist4, ev_ist5, ev_ri, i00, i01, i10, not_false_eq_true, not_true_eq_false, pm_bd_s, pm_tl_n, pm_tl_s, ↓reduceIte, pb_X9_slip_0, pb_X9_slip_1, pb_X9_slip_2, pb_X9_slip_3, kd_59, rf_59_0, rf_59_1, rf_59_3, rf_59_4, rf_59_5, rf_59_6, rf_59_7, rf_59_12, rf_59_14, rf_59_15, rf_59_16, rf_59_19, rf_59_23, rf_59_24, rf_59_25, rf_59_26, is_9_59, kd_60, al_60, n100, sr_isIn, sr_isMile, bI_0, bI_n0, eq_false a1, find_1]
end P4
