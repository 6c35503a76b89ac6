/-! TEXTS WORKED OUT, by the reference; both are the same -/
section T2
variable {fb : Bool} {d : Nat} {h : pm_HP}
theorem sp_work {w A nn k : Nat} {p N : Nat → Int32} (ht : pm_is [0] w = true) (hA : pm_rf w 0 = A) (hA30 : A ≠ 30) (hk : h.1 w 1 = nI k) (hk6 : k ≤ 60) (hp : ∀ i, i < k → h.1 A i = p i) (hN : ∀ j, j < nn → h.1 29 j = N j) (hn : nn ≤ 5) (hz : dpF nn p k = some 1) : ∃ h'', rs fb (d + 3) n_X0_workedOut [.ref w, .ref 29, .ref 30] h = some (some (.int (rnS N nn p k 0 0 (fun _ => 0))), h'') ∧ frm [30] h h'' := by
  obtain ⟨h'', r, f⟩ := lp_work (fb := fb) (d := d) ht hA hA30 hk hk6 hp hN hn hz k 0 0 (fun _ => 0) h none (by omega) rfl (frm.rf _ _) (fun j hj => absurd hj (by omega)) rfl
  refine ⟨h'', ?_, f⟩
  rw [en_X0_workedOut]
  rw [nI_0] at r
  simp only [c20, c2i, c2n, c2r, cs8_0, cs8_1, cs8_2, cs8_3, cs8_4, decide_eq_true_eq, ev_ald0, ev_ald1, ev_ald2, ev_aldn0, ev_aldn1, ev_aldn2, ev_bin, ev_cs1, ev_cs2, ev_cs3, ev_gi, ev_go, ev_gr, ev_i, ev_ia, ev_ias, ev_if0, ev_if2, ev_ild3, ev_ild4, ev_ild5, ev_inc3, ev_inc4, ev_ist3, ev_ist4, ev_ist5, ev_ln, ev_ri, i00, i01, i10, not_false_eq_true, not_true_eq_false, pm_bd_s, pm_tl_n, pm_tl_s, ↓reduceIte, pb_X0_workedOut_0]
  exact r
theorem sr_done {x a b : Int32} (g : x = 20124 ∨ x = 20038 ∨ x = 20060 ∨ x = 20061 ∨ x = 20062 ∨ x = 20043 ∨ x = 20045 ∨ x = 20042 ∨ x = 20047 ∨ x = 20037) : rs fb (d + 1) n_X9_done [.int (cod x), .int a, .int b] h = some (some (.int (joF (x - 20000) a b)), h) := by
  rw [en_X9_done]
  rcases g with rfl | rfl | rfl | rfl | rfl | rfl | rfl | rfl | rfl | rfl
  · rw [show cod 20124 = 20000 by decide, show (20124 : Int32) - 20000 = 124 by decide]
    by_cases a0 : a = 0 <;> by_cases b0 : b = 0 <;> simp [decide_eq_true_eq, ev_bin, ev_dv, ev_go, ev_i, ev_if0, ev_if2, ev_ild0, ev_ild1, ev_ild2, ev_ri, ev_sw_0, ev_sw_1, i00, i01, i10, not_false_eq_true, not_true_eq_false, ↓reduceIte, pb_X9_done_0, pb_X9_done_1, pb_X9_done_2, pb_X9_done_3, pb_X9_done_4, pb_X9_done_5, pb_X9_done_6, pb_X9_done_7, pb_X9_done_8, pb_X9_done_9, pb_X9_done_10, pb_X9_done_11, pb_X9_done_12, pb_X9_done_13, pb_X9_done_14, pb_X9_done_15, pb_X9_done_16, pb_X9_done_17, pb_X9_done_18, pb_X9_done_19, pb_X9_done_20, pb_X9_done_21, pb_X9_done_22, pb_X9_done_23, pb_X9_done_24, pb_X9_done_25, joF, bI, a0, b0]
  · rw [show cod 20038 = 20001 by decide, show (20038 : Int32) - 20000 = 38 by decide]
    by_cases a0 : a = 0 <;> by_cases b0 : b = 0 <;> simp [decide_eq_true_eq, ev_bin, ev_dv, ev_go, ev_i, ev_if0, ev_if2, ev_ild0, ev_ild1, ev_ild2, ev_ri, ev_sw_0, ev_sw_1, i00, i01, i10, not_false_eq_true, not_true_eq_false, ↓reduceIte, pb_X9_done_0, pb_X9_done_1, pb_X9_done_2, pb_X9_done_3, pb_X9_done_4, pb_X9_done_5, pb_X9_done_6, pb_X9_done_7, pb_X9_done_8, pb_X9_done_9, pb_X9_done_10, pb_X9_done_11, pb_X9_done_12, pb_X9_done_13, pb_X9_done_14, pb_X9_done_15, pb_X9_done_16, pb_X9_done_17, pb_X9_done_18, pb_X9_done_19, pb_X9_done_20, pb_X9_done_21, pb_X9_done_22, pb_X9_done_23, pb_X9_done_24, pb_X9_done_25, joF, bI, a0, b0]
  · rw [show cod 20060 = 20002 by decide, show (20060 : Int32) - 20000 = 60 by decide]
    by_cases q : b ≤ a
    · simp [decide_eq_true_eq, ev_bin, ev_dv, ev_go, ev_i, ev_if0, ev_if2, ev_ild0, ev_ild1, ev_ild2, ev_ri, ev_sw_0, ev_sw_1, i00, i01, i10, not_false_eq_true, not_true_eq_false, ↓reduceIte, pb_X9_done_0, pb_X9_done_1, pb_X9_done_2, pb_X9_done_3, pb_X9_done_4, pb_X9_done_5, pb_X9_done_6, pb_X9_done_7, pb_X9_done_8, pb_X9_done_9, pb_X9_done_10, pb_X9_done_11, pb_X9_done_12, pb_X9_done_13, pb_X9_done_14, pb_X9_done_15, pb_X9_done_16, pb_X9_done_17, pb_X9_done_18, pb_X9_done_19, pb_X9_done_20, pb_X9_done_21, pb_X9_done_22, pb_X9_done_23, pb_X9_done_24, pb_X9_done_25, joF, bI, q, Int32.not_lt.mpr q]
    · simp [decide_eq_true_eq, ev_bin, ev_dv, ev_go, ev_i, ev_if0, ev_if2, ev_ild0, ev_ild1, ev_ild2, ev_ri, ev_sw_0, ev_sw_1, i00, i01, i10, not_false_eq_true, not_true_eq_false, ↓reduceIte, pb_X9_done_0, pb_X9_done_1, pb_X9_done_2, pb_X9_done_3, pb_X9_done_4, pb_X9_done_5, pb_X9_done_6, pb_X9_done_7, pb_X9_done_8, pb_X9_done_9, pb_X9_done_10, pb_X9_done_11, pb_X9_done_12, pb_X9_done_13, pb_X9_done_14, pb_X9_done_15, pb_X9_done_16, pb_X9_done_17, pb_X9_done_18, pb_X9_done_19, pb_X9_done_20, pb_X9_done_21, pb_X9_done_22, pb_X9_done_23, pb_X9_done_24, pb_X9_done_25, joF, bI, q, Int32.not_le.mp q]
  · rw [show cod 20061 = 20003 by decide, show (20061 : Int32) - 20000 = 61 by decide]
    by_cases q : a = b <;> simp [decide_eq_true_eq, ev_bin, ev_dv, ev_go, ev_i, ev_if0, ev_if2, ev_ild0, ev_ild1, ev_ild2, ev_ri, ev_sw_0, ev_sw_1, i00, i01, i10, not_false_eq_true, not_true_eq_false, ↓reduceIte, pb_X9_done_0, pb_X9_done_1, pb_X9_done_2, pb_X9_done_3, pb_X9_done_4, pb_X9_done_5, pb_X9_done_6, pb_X9_done_7, pb_X9_done_8, pb_X9_done_9, pb_X9_done_10, pb_X9_done_11, pb_X9_done_12, pb_X9_done_13, pb_X9_done_14, pb_X9_done_15, pb_X9_done_16, pb_X9_done_17, pb_X9_done_18, pb_X9_done_19, pb_X9_done_20, pb_X9_done_21, pb_X9_done_22, pb_X9_done_23, pb_X9_done_24, pb_X9_done_25, joF, bI, q]
  · rw [show cod 20062 = 20004 by decide, show (20062 : Int32) - 20000 = 62 by decide]
    by_cases q : a ≤ b
    · simp [decide_eq_true_eq, ev_bin, ev_dv, ev_go, ev_i, ev_if0, ev_if2, ev_ild0, ev_ild1, ev_ild2, ev_ri, ev_sw_0, ev_sw_1, i00, i01, i10, not_false_eq_true, not_true_eq_false, ↓reduceIte, pb_X9_done_0, pb_X9_done_1, pb_X9_done_2, pb_X9_done_3, pb_X9_done_4, pb_X9_done_5, pb_X9_done_6, pb_X9_done_7, pb_X9_done_8, pb_X9_done_9, pb_X9_done_10, pb_X9_done_11, pb_X9_done_12, pb_X9_done_13, pb_X9_done_14, pb_X9_done_15, pb_X9_done_16, pb_X9_done_17, pb_X9_done_18, pb_X9_done_19, pb_X9_done_20, pb_X9_done_21, pb_X9_done_22, pb_X9_done_23, pb_X9_done_24, pb_X9_done_25, joF, bI, q, Int32.not_lt.mpr q]
    · simp [decide_eq_true_eq, ev_bin, ev_dv, ev_go, ev_i, ev_if0, ev_if2, ev_ild0, ev_ild1, ev_ild2, ev_ri, ev_sw_0, ev_sw_1, i00, i01, i10, not_false_eq_true, not_true_eq_false, ↓reduceIte, pb_X9_done_0, pb_X9_done_1, pb_X9_done_2, pb_X9_done_3, pb_X9_done_4, pb_X9_done_5, pb_X9_done_6, pb_X9_done_7, pb_X9_done_8, pb_X9_done_9, pb_X9_done_10, pb_X9_done_11, pb_X9_done_12, pb_X9_done_13, pb_X9_done_14, pb_X9_done_15, pb_X9_done_16, pb_X9_done_17, pb_X9_done_18, pb_X9_done_19, pb_X9_done_20, pb_X9_done_21, pb_X9_done_22, pb_X9_done_23, pb_X9_done_24, pb_X9_done_25, joF, bI, q, Int32.not_le.mp q]
  · rw [show cod 20043 = 20005 by decide, show (20043 : Int32) - 20000 = 43 by decide]
    simp [decide_eq_true_eq, ev_bin, ev_dv, ev_go, ev_i, ev_if0, ev_if2, ev_ild0, ev_ild1, ev_ild2, ev_ri, ev_sw_0, ev_sw_1, i00, i01, i10, not_false_eq_true, not_true_eq_false, ↓reduceIte, pb_X9_done_0, pb_X9_done_1, pb_X9_done_2, pb_X9_done_3, pb_X9_done_4, pb_X9_done_5, pb_X9_done_6, pb_X9_done_7, pb_X9_done_8, pb_X9_done_9, pb_X9_done_10, pb_X9_done_11, pb_X9_done_12, pb_X9_done_13, pb_X9_done_14, pb_X9_done_15, pb_X9_done_16, pb_X9_done_17, pb_X9_done_18, pb_X9_done_19, pb_X9_done_20, pb_X9_done_21, pb_X9_done_22, pb_X9_done_23, pb_X9_done_24, pb_X9_done_25, joF]
  · rw [show cod 20045 = 20006 by decide, show (20045 : Int32) - 20000 = 45 by decide]
    simp [decide_eq_true_eq, ev_bin, ev_dv, ev_go, ev_i, ev_if0, ev_if2, ev_ild0, ev_ild1, ev_ild2, ev_ri, ev_sw_0, ev_sw_1, i00, i01, i10, not_false_eq_true, not_true_eq_false, ↓reduceIte, pb_X9_done_0, pb_X9_done_1, pb_X9_done_2, pb_X9_done_3, pb_X9_done_4, pb_X9_done_5, pb_X9_done_6, pb_X9_done_7, pb_X9_done_8, pb_X9_done_9, pb_X9_done_10, pb_X9_done_11, pb_X9_done_12, pb_X9_done_13, pb_X9_done_14, pb_X9_done_15, pb_X9_done_16, pb_X9_done_17, pb_X9_done_18, pb_X9_done_19, pb_X9_done_20, pb_X9_done_21, pb_X9_done_22, pb_X9_done_23, pb_X9_done_24, pb_X9_done_25, joF]
  · rw [show cod 20042 = 20007 by decide, show (20042 : Int32) - 20000 = 42 by decide]
    simp [decide_eq_true_eq, ev_bin, ev_dv, ev_go, ev_i, ev_if0, ev_if2, ev_ild0, ev_ild1, ev_ild2, ev_ri, ev_sw_0, ev_sw_1, i00, i01, i10, not_false_eq_true, not_true_eq_false, ↓reduceIte, pb_X9_done_0, pb_X9_done_1, pb_X9_done_2, pb_X9_done_3, pb_X9_done_4, pb_X9_done_5, pb_X9_done_6, pb_X9_done_7, pb_X9_done_8, pb_X9_done_9, pb_X9_done_10, pb_X9_done_11, pb_X9_done_12, pb_X9_done_13, pb_X9_done_14, pb_X9_done_15, pb_X9_done_16, pb_X9_done_17, pb_X9_done_18, pb_X9_done_19, pb_X9_done_20, pb_X9_done_21, pb_X9_done_22, pb_X9_done_23, pb_X9_done_24, pb_X9_done_25, joF]
  · rw [show cod 20047 = 20008 by decide, show (20047 : Int32) - 20000 = 47 by decide]
    by_cases b0 : b = 0 <;> simp [decide_eq_true_eq, ev_bin, ev_dv, ev_go, ev_i, ev_if0, ev_if2, ev_ild0, ev_ild1, ev_ild2, ev_ri, ev_sw_0, ev_sw_1, i00, i01, i10, not_false_eq_true, not_true_eq_false, ↓reduceIte, pb_X9_done_0, pb_X9_done_1, pb_X9_done_2, pb_X9_done_3, pb_X9_done_4, pb_X9_done_5, pb_X9_done_6, pb_X9_done_7, pb_X9_done_8, pb_X9_done_9, pb_X9_done_10, pb_X9_done_11, pb_X9_done_12, pb_X9_done_13, pb_X9_done_14, pb_X9_done_15, pb_X9_done_16, pb_X9_done_17, pb_X9_done_18, pb_X9_done_19, pb_X9_done_20, pb_X9_done_21, pb_X9_done_22, pb_X9_done_23, pb_X9_done_24, pb_X9_done_25, joF, b0]
  · rw [show cod 20037 = 20009 by decide, show (20037 : Int32) - 20000 = 37 by decide]
    by_cases b0 : b = 0 <;> simp [decide_eq_true_eq, ev_bin, ev_dv, ev_go, ev_i, ev_if0, ev_if2, ev_ild0, ev_ild1, ev_ild2, ev_ri, ev_sw_0, ev_sw_1, i00, i01, i10, not_false_eq_true, not_true_eq_false, ↓reduceIte, pb_X9_done_0, pb_X9_done_1, pb_X9_done_2, pb_X9_done_3, pb_X9_done_4, pb_X9_done_5, pb_X9_done_6, pb_X9_done_7, pb_X9_done_8, pb_X9_done_9, pb_X9_done_10, pb_X9_done_11, pb_X9_done_12, pb_X9_done_13, pb_X9_done_14, pb_X9_done_15, pb_X9_done_16, pb_X9_done_17, pb_X9_done_18, pb_X9_done_19, pb_X9_done_20, pb_X9_done_21, pb_X9_done_22, pb_X9_done_23, pb_X9_done_24, pb_X9_done_25, joF, b0]
set_option maxRecDepth 100000 in
theorem lp_worked {b nn k : Nat} {p N : Nat → Int32} (hb : b < 379) (hk : h.1 60 b = nI k) (hk6 : k ≤ 60) (hp : ∀ i, i < k → h.1 60 (b + 1 + i) = cod (p i)) (hN : ∀ j, j < nn → h.1 68 j = N j) (hn : nn ≤ 5) (hz : dpF nn p k = some 1) :
    ∀ (m i q : Nat) (S : Nat → Int32) (h' : pm_HP) (x : Option Value), i + m = k → dpF nn p i = some q → frm [69] h h' → (∀ j, j < q → h'.1 69 j = S j) → pm_c2 x = false → ∃ h'', pm_ev P_X9_worked (rs fb (d + 1)) (P_X9_worked 1) [some (.ref 59), some (.int (nI (b + 1))), some (.int (nI q)), some (.int (nI (b + 1 + i))), x] [] h' = some (some (.int (rnS N nn p m i q S)), h'') ∧ frm [69] h h'' := by
  have xb : pm_ix (nI b) 440 = true := pm_ix_n (by omega) (by omega)
  have cb := nI_clamp (show b < 2 ^ 31 by omega)
  intro m
  induction m with
  | zero =>
    intro i q S h' x hi hq hf hS hx
    obtain rfl : i = k := by omega
    obtain rfl : 1 = q := by rw [hz] at hq; exact Option.some.inj hq
    have hk' : h'.1 60 b = nI i := by rw [hf.1 60 (by decide)]; exact hk
    have e1 : nI (b + 1 + i) ≤ nI (b + 1 + i) := Int32.le_refl _
    have ix : pm_ix (0 : Int32) 60 = true := by decide
    have cl : (0 : Int32).toNatClampNeg = 0 := by decide
    refine ⟨h', ?_, hf⟩
    rw [pb_X9_worked_1]
    simp only [c20, c2i, c2n, c2r, cs8_0, cs8_1, cs8_2, cs8_3, cs8_4, decide_eq_true_eq, ev_ald0, ev_aldn0, ev_bin, ev_cs3, ev_go, ev_gr, ev_i, ev_ia, ev_ias, ev_if0, ev_if2, ev_ild1, ev_ild2, ev_ild3, ev_ild4, ev_inc2, ev_inc3, ev_ist2, ev_ist3, ev_ist4, ev_ri, i00, i01, i10, not_false_eq_true, not_true_eq_false, pm_bd_s, pm_tl_n, pm_tl_s, ↓reduceIte, pb_X9_worked_9, kd_59, rf_59_0, rf_59_1, rf_59_3, rf_59_4, rf_59_5, rf_59_6, rf_59_7, rf_59_12, rf_59_14, rf_59_15, rf_59_16, rf_59_19, rf_59_23, rf_59_24, rf_59_25, rf_59_26, is_9_59, kd_60, al_60, kd_69, al_69, nI_p1, nI_add, hk', e1, ix, cl, hS 0 (by omega), rnS, xb, cb]
  | succ m ih =>
    intro i q S h' x hi hq hf hS hx
    have hk' : h'.1 60 b = nI k := by rw [hf.1 60 (by decide)]; exact hk
    have hp' : h'.1 60 (b + 1 + i) = cod (p i) := by rw [hf.1 60 (by decide)]; exact hp i (by omega)
    have hN' : ∀ j, j < nn → h'.1 68 j = N j := fun j hj => by rw [hf.1 68 (by decide)]; exact hN j hj
    have e1 : ¬ nI (b + 1 + k) ≤ nI (b + 1 + i) := nI_ge (by omega) (by omega)
    have hix : pm_ix (nI (b + 1 + i)) 440 = true := pm_ix_n (by omega) (by omega)
    have hcl := nI_clamp (show b + 1 + i < 2 ^ 31 by omega)
    have hq6 := dp_le hn i q hq
    obtain ⟨q', hs, hq'⟩ := dp_ok hz (by omega) hq
    have eq1 : rnS N nn p (m + 1) i q S = rnS N nn p m (i + 1) q' (stS N (p i) q S) := by rw [rnS, hs]; rfl
    rw [eq1, pb_X9_worked_1]
    have xq : pm_ix (nI q) 60 = true := pm_ix_n (by omega) (by omega)
    have cq := nI_clamp (show q < 2 ^ 31 by omega)
    rcases dp_cases hn hs with ⟨g, rfl⟩ | ⟨j, hj, g, rfl⟩ | ⟨g, g1, rfl⟩ | ⟨g, g1, rfl⟩
    · have a1 : ¬ (20000 : Int32) ≤ p i := Int32.not_le.mpr (Int32.lt_trans g.2 (by decide))
      have a2 : ¬ (10000 : Int32) ≤ p i := Int32.not_le.mpr g.2
      have a3 : p i < 20000 := Int32.not_le.mp a1
      have a4 : cod (p i) = p i := by unfold cod; rw [if_pos a3]
      rw [a4] at hp'
      obtain ⟨h'', r, f⟩ := ih (i + 1) (q + 1) (stS N (p i) q S) (pm_si h' 69 q (p i)) (some (.int (p i))) (by omega) hq' (hf.si (by decide)) (fun t htq => by
        unfold stS
        rw [si_at, if_pos a3, if_pos g.2]
        by_cases c : t = q
        · simp [c]
        · simp [c, hS t (by omega)]) rfl
      refine ⟨h'', ?_, f⟩
      simp only [c20, c2i, c2n, c2r, cs8_0, cs8_1, cs8_2, cs8_3, cs8_4, decide_eq_true_eq, ev_ald0, ev_aldn0, ev_bin, ev_cs3, ev_go, ev_gr, ev_i, ev_ia, ev_ias, ev_if0, ev_if2, ev_ild1, ev_ild2, ev_ild3, ev_ild4, ev_inc2, ev_inc3, ev_ist2, ev_ist3, ev_ist4, ev_ri, i00, i01, i10, not_false_eq_true, not_true_eq_false, pm_bd_s, pm_tl_n, pm_tl_s, ↓reduceIte, pb_X9_worked_2, pb_X9_worked_3, pb_X9_worked_4, pb_X9_worked_5, pb_X9_worked_6, pb_X9_worked_7, pb_X9_worked_8, kd_59, rf_59_0, rf_59_1, rf_59_3, rf_59_4, rf_59_5, rf_59_6, rf_59_7, rf_59_12, rf_59_14, rf_59_15, rf_59_16, rf_59_19, rf_59_23, rf_59_24, rf_59_25, rf_59_26, is_9_59, kd_60, al_60, kd_68, al_68, kd_69, al_69, nI_p1, nI_add, hk', hp', e1, hix, hcl, a1, a2, xq, cq, nI_1, hx, xb, cb]
      exact r
    · have a1 : ¬ (20000 : Int32) ≤ p i := by rw [g]; exact nI_ge (b := 20000) (by omega) (by omega)
      have a2 : (10000 : Int32) ≤ p i := by rw [g]; exact nI_le (a := 10000) (by omega) (by omega)
      have a3 : p i < 20000 := Int32.not_le.mp a1
      have a6 : p i - 10000 = nI j := by rw [g]; exact nI_s10 j
      have a5 := nI_clamp (show j < 2 ^ 31 by omega)
      have a4 : cod (p i) = p i := by unfold cod; rw [if_pos a3]
      have xj : pm_ix (nI j) 5 = true := pm_ix_n (by omega) (by omega)
      rw [a4] at hp'
      obtain ⟨h'', r, f⟩ := ih (i + 1) (q + 1) (stS N (p i) q S) (pm_si h' 69 q (N j)) (some (.int (p i))) (by omega) hq' (hf.si (by decide)) (fun t htq => by
        unfold stS
        rw [si_at, if_pos a3, if_neg (Int32.not_lt.mpr a2), a6, a5]
        by_cases c : t = q
        · simp [c]
        · simp [c, hS t (by omega)]) rfl
      refine ⟨h'', ?_, f⟩
      simp only [c20, c2i, c2n, c2r, cs8_0, cs8_1, cs8_2, cs8_3, cs8_4, decide_eq_true_eq, ev_ald0, ev_aldn0, ev_bin, ev_cs3, ev_go, ev_gr, ev_i, ev_ia, ev_ias, ev_if0, ev_if2, ev_ild1, ev_ild2, ev_ild3, ev_ild4, ev_inc2, ev_inc3, ev_ist2, ev_ist3, ev_ist4, ev_ri, i00, i01, i10, not_false_eq_true, not_true_eq_false, pm_bd_s, pm_tl_n, pm_tl_s, ↓reduceIte, pb_X9_worked_2, pb_X9_worked_3, pb_X9_worked_4, pb_X9_worked_5, pb_X9_worked_6, pb_X9_worked_7, pb_X9_worked_8, kd_59, rf_59_0, rf_59_1, rf_59_3, rf_59_4, rf_59_5, rf_59_6, rf_59_7, rf_59_12, rf_59_14, rf_59_15, rf_59_16, rf_59_19, rf_59_23, rf_59_24, rf_59_25, rf_59_26, is_9_59, kd_60, al_60, kd_68, al_68, kd_69, al_69, nI_p1, nI_add, hk', hp', e1, hix, hcl, a1, a2, a6, xq, cq, nI_1, hx, xb, cb, xj, a5, hN' j hj]
      exact r
    · obtain ⟨r', rfl⟩ : ∃ r', q' = r' + 1 := ⟨q' - 1, by omega⟩
      have a1 : (20000 : Int32) ≤ 20010 := by decide
      have a3 : ¬ (20033 : Int32) < 20000 := by decide
      have xr : pm_ix (nI r') 60 = true := pm_ix_n (by omega) (by omega)
      have cr := nI_clamp (show r' < 2 ^ 31 by omega)
      have hS1 := hS r' (by omega)
      obtain ⟨h'', r, f⟩ := ih (i + 1) (r' + 1) (stS N (p i) (r' + 1) S) (pm_si h' 69 r' (bI (S r' = 0))) (some (.int 20010)) (by omega) hq' (hf.si (by decide)) (fun t htq => by
        unfold stS
        rw [si_at, g, if_neg a3, if_pos rfl, Nat.add_sub_cancel]
        by_cases c : t = r'
        · simp [c]
        · simp [c, hS t (by omega)]) rfl
      refine ⟨h'', ?_, f⟩
      rw [g, show cod 20033 = 20010 by decide] at hp'
      by_cases z : S r' = 0
      · have w0 : bI (S r' = 0) = 1 := by simp [bI, z]
        rw [w0] at r
        simp only [c20, c2i, c2n, c2r, cs8_0, cs8_1, cs8_2, cs8_3, cs8_4, decide_eq_true_eq, ev_ald0, ev_aldn0, ev_bin, ev_cs3, ev_go, ev_gr, ev_i, ev_ia, ev_ias, ev_if0, ev_if2, ev_ild1, ev_ild2, ev_ild3, ev_ild4, ev_inc2, ev_inc3, ev_ist2, ev_ist3, ev_ist4, ev_ri, i00, i01, i10, not_false_eq_true, not_true_eq_false, pm_bd_s, pm_tl_n, pm_tl_s, ↓reduceIte, pb_X9_worked_2, pb_X9_worked_3, pb_X9_worked_4, pb_X9_worked_5, pb_X9_worked_6, pb_X9_worked_7, pb_X9_worked_8, kd_59, rf_59_0, rf_59_1, rf_59_3, rf_59_4, rf_59_5, rf_59_6, rf_59_7, rf_59_12, rf_59_14, rf_59_15, rf_59_16, rf_59_19, rf_59_23, rf_59_24, rf_59_25, rf_59_26, is_9_59, kd_60, al_60, kd_68, al_68, kd_69, al_69, nI_p1, nI_add, hk', hp', e1, hix, hcl, a1, xr, cr, nI_1, hx, hS1, z, xb, cb]
        exact r
      · have w0 : bI (S r' = 0) = 0 := by simp [bI, z]
        rw [w0] at r
        simp only [c20, c2i, c2n, c2r, cs8_0, cs8_1, cs8_2, cs8_3, cs8_4, decide_eq_true_eq, ev_ald0, ev_aldn0, ev_bin, ev_cs3, ev_go, ev_gr, ev_i, ev_ia, ev_ias, ev_if0, ev_if2, ev_ild1, ev_ild2, ev_ild3, ev_ild4, ev_inc2, ev_inc3, ev_ist2, ev_ist3, ev_ist4, ev_ri, i00, i01, i10, not_false_eq_true, not_true_eq_false, pm_bd_s, pm_tl_n, pm_tl_s, ↓reduceIte, pb_X9_worked_2, pb_X9_worked_3, pb_X9_worked_4, pb_X9_worked_5, pb_X9_worked_6, pb_X9_worked_7, pb_X9_worked_8, kd_59, rf_59_0, rf_59_1, rf_59_3, rf_59_4, rf_59_5, rf_59_6, rf_59_7, rf_59_12, rf_59_14, rf_59_15, rf_59_16, rf_59_19, rf_59_23, rf_59_24, rf_59_25, rf_59_26, is_9_59, kd_60, al_60, kd_68, al_68, kd_69, al_69, nI_p1, nI_add, hk', hp', e1, hix, hcl, a1, xr, cr, nI_1, hx, hS1, z, xb, cb]
        exact r
    · obtain ⟨r', rfl⟩ : ∃ r', q = r' + 2 := ⟨q - 2, by omega⟩
      have a1 : (20000 : Int32) ≤ cod (p i) := by rcases g with g | g | g | g | g | g | g | g | g | g <;> rw [g] <;> decide
      have a2 : ¬ cod (p i) = 20010 := by rcases g with g | g | g | g | g | g | g | g | g | g <;> rw [g] <;> decide
      have b1 : (20000 : Int32) ≤ p i := by rcases g with g | g | g | g | g | g | g | g | g | g <;> rw [g] <;> decide
      have b2 : ¬ p i = 20033 := by rcases g with g | g | g | g | g | g | g | g | g | g <;> rw [g] <;> decide
      have a3 : ¬ p i < 20000 := Int32.not_lt.mpr b1
      have xr : pm_ix (nI r') 60 = true := pm_ix_n (by omega) (by omega)
      have cr := nI_clamp (show r' < 2 ^ 31 by omega)
      have xs : pm_ix (nI (r' + 1)) 60 = true := pm_ix_n (by omega) (by omega)
      have cs := nI_clamp (show r' + 1 < 2 ^ 31 by omega)
      have d2 : nI (r' + 2) + -1 = nI (r' + 1) := nI_d1 (r' + 1)
      have hS1 := hS r' (by omega)
      have hS2 := hS (r' + 1) (by omega)
      obtain ⟨h'', r, f⟩ := ih (i + 1) (r' + 1) (stS N (p i) (r' + 2) S) (pm_si h' 69 r' (joF (p i - 20000) (S r') (S (r' + 1)))) (some (.int (cod (p i)))) (by omega) hq' (hf.si (by decide)) (fun t htq => by
        unfold stS
        rw [si_at, if_neg a3, if_neg b2, show r' + 2 - 2 = r' by omega, show r' + 2 - 1 = r' + 1 by omega]
        by_cases c : t = r'
        · simp [c]
        · simp [c, hS t (by omega)]) rfl
      refine ⟨h'', ?_, f⟩
      simp only [c20, c2i, c2n, c2r, cs8_0, cs8_1, cs8_2, cs8_3, cs8_4, decide_eq_true_eq, ev_ald0, ev_aldn0, ev_bin, ev_cs3, ev_go, ev_gr, ev_i, ev_ia, ev_ias, ev_if0, ev_if2, ev_ild1, ev_ild2, ev_ild3, ev_ild4, ev_inc2, ev_inc3, ev_ist2, ev_ist3, ev_ist4, ev_ri, i00, i01, i10, not_false_eq_true, not_true_eq_false, pm_bd_s, pm_tl_n, pm_tl_s, ↓reduceIte, pb_X9_worked_2, pb_X9_worked_3, pb_X9_worked_4, pb_X9_worked_5, pb_X9_worked_6, pb_X9_worked_7, pb_X9_worked_8, kd_59, rf_59_0, rf_59_1, rf_59_3, rf_59_4, rf_59_5, rf_59_6, rf_59_7, rf_59_12, rf_59_14, rf_59_15, rf_59_16, rf_59_19, rf_59_23, rf_59_24, rf_59_25, rf_59_26, is_9_59, kd_60, al_60, kd_68, al_68, kd_69, al_69, nI_p1, nI_add, hk', hp', e1, hix, hcl, a1, a2, d2, xr, cr, xs, cs, nI_1, hx, hS1, hS2, sr_done g, xb, cb]
      exact r
theorem sr_worked {b nn k : Nat} {p N : Nat → Int32} (hb : b < 379) (hk : h.1 60 b = nI k) (hk6 : k ≤ 60) (hp : ∀ i, i < k → h.1 60 (b + 1 + i) = cod (p i)) (hN : ∀ j, j < nn → h.1 68 j = N j) (hn : nn ≤ 5) (hz : dpF nn p k = some 1) : ∃ h'', rs fb (d + 2) n_X9_worked [.ref 59, .int (nI (b + 1))] h = some (some (.int (rnS N nn p k 0 0 (fun _ => 0))), h'') ∧ frm [69] h h'' := by
  obtain ⟨h'', r, f⟩ := lp_worked (fb := fb) (d := d) hb hk hk6 hp hN hn hz k 0 0 (fun _ => 0) h none (by omega) rfl (frm.rf _ _) (fun j hj => absurd hj (by omega)) rfl
  refine ⟨h'', ?_, f⟩
  rw [en_X9_worked]
  rw [nI_0, Nat.add_zero] at r
  simp only [c20, c2i, c2n, c2r, cs8_0, cs8_1, cs8_2, cs8_3, cs8_4, decide_eq_true_eq, ev_ald0, ev_aldn0, ev_bin, ev_cs3, ev_go, ev_gr, ev_i, ev_ia, ev_ias, ev_if0, ev_if2, ev_ild1, ev_ild2, ev_ild3, ev_ild4, ev_inc2, ev_inc3, ev_ist2, ev_ist3, ev_ist4, ev_ri, i00, i01, i10, not_false_eq_true, not_true_eq_false, pm_bd_s, pm_tl_n, pm_tl_s, ↓reduceIte, pb_X9_worked_0]
  exact r
end T2
