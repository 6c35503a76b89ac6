/-! PAIRS OF CALLS: miles, slips -/
theorem R0_si {h : pm_HP} {a k : Nat} {v : Int32} (h0 : R0 h) (ha : ¬ (a = 52 ∨ a = 53 ∨ a = 63 ∨ a = 64)) : R0 (pm_si h a k v) := by
  unfold R0
  rw [si_ne _ _ (fun q => ha (by omega)), si_ne _ _ (fun q => ha (by omega)), si_ne _ _ (fun q => ha (by omega)), si_ne _ _ (fun q => ha (by omega))]
  exact h0
theorem now_si {h h' : pm_HP} {a k : Nat} {v : Int32} (hf : ∀ a, a ∉ nowC → ¬ (a = 52 ∨ a = 53 ∨ a = 63 ∨ a = 64) → h'.1 a = h.1 a) (ha : a ∈ nowC) : ∀ a', a' ∉ nowC → ¬ (a' = 52 ∨ a' = 53 ∨ a' = 63 ∨ a' = 64) → (pm_si h' a k v).1 a' = h.1 a' := by
  intro a' h1 h2
  rw [← hf a' h1 h2]
  funext b
  exact si_ne _ _ (fun q => h1 (q.1 ▸ ha))
theorem Inv_n {h : pm_HP} {n' : Nat} (hI : Inv h) (h1 : 1 ≤ n') (h2 : n' ≤ 24) : Inv (pm_si (pm_si h 3 3 (nI n')) 60 0 (nI n')) := by
  obtain ⟨⟨n, u, nt, nb, nw, iN⟩, iZ, iM, iS, iT, iB, iW, iX, iY⟩ := hI.1
  refine Inv_now hI (now_si (now_si (fun _ _ _ => rfl) (by decide)) (by decide)) (R0_si (R0_si hI.2.2.2.2.2 (by omega)) (by omega)) ⟨⟨n', u, nt, nb, nw, ?_⟩, RZ_t iZ ⟨(by simp only [si_at, Nat.reduceEqDiff, false_and, true_and, ↓reduceIte]; repeat (rw [if_neg (by omega)])), (by simp only [si_at, Nat.reduceEqDiff, false_and, true_and, ↓reduceIte]; repeat (rw [if_neg (by omega)])), (by simp only [si_at, Nat.reduceEqDiff, false_and, true_and, ↓reduceIte]; repeat (rw [if_neg (by omega)]))⟩ (fun j _ _ => (by simp only [si_at, Nat.reduceEqDiff, false_and, true_and, ↓reduceIte]; repeat (rw [if_neg (by omega)]))), RM_t iM (by funext b; simp only [si_at, Nat.reduceEqDiff, false_and, ↓reduceIte]) (fun j _ _ => (by simp only [si_at, Nat.reduceEqDiff, false_and, true_and, ↓reduceIte]; repeat (rw [if_neg (by omega)]))), RS_t iS (by funext b; simp only [si_at, Nat.reduceEqDiff, false_and, ↓reduceIte]) (fun j _ _ => (by simp only [si_at, Nat.reduceEqDiff, false_and, true_and, ↓reduceIte]; repeat (rw [if_neg (by omega)]))), RT_t iT (by funext b; simp only [si_at, Nat.reduceEqDiff, false_and, ↓reduceIte]) (fun j _ _ => (by simp only [si_at, Nat.reduceEqDiff, false_and, true_and, ↓reduceIte]; repeat (rw [if_neg (by omega)]))), RB_t iB (by funext b; simp only [si_at, Nat.reduceEqDiff, false_and, ↓reduceIte]) (fun j _ _ => (by simp only [si_at, Nat.reduceEqDiff, false_and, true_and, ↓reduceIte]; repeat (rw [if_neg (by omega)]))), RW_t iW (by funext b; simp only [si_at, Nat.reduceEqDiff, false_and, ↓reduceIte]) (fun j _ _ => (by simp only [si_at, Nat.reduceEqDiff, false_and, true_and, ↓reduceIte]; repeat (rw [if_neg (by omega)]))), RX_t iX (by simp only [si_at, Nat.reduceEqDiff, false_and, true_and, ↓reduceIte]; repeat (rw [if_neg (by omega)])) (by funext b; simp only [si_at, Nat.reduceEqDiff, false_and, ↓reduceIte]) (fun j _ _ => (by simp only [si_at, Nat.reduceEqDiff, false_and, true_and, ↓reduceIte]; repeat (rw [if_neg (by omega)]))), RX_t iY (by simp only [si_at, Nat.reduceEqDiff, false_and, true_and, ↓reduceIte]; repeat (rw [if_neg (by omega)])) (by funext b; simp only [si_at, Nat.reduceEqDiff, false_and, ↓reduceIte]) (fun j _ _ => (by simp only [si_at, Nat.reduceEqDiff, false_and, true_and, ↓reduceIte]; repeat (rw [if_neg (by omega)])))⟩
  unfold RN at iN ⊢
  simp only [si_at, Nat.reduceEqDiff, Nat.reduceAdd, false_and, and_false, and_self, ↓reduceIte]
  exact ⟨⟨trivial, trivial, h1, h2⟩, iN.2⟩
section P1
variable {fb : Bool} {d : Nat} {h : pm_HP}
theorem pr_miles (hI : Inv h) (v : Int32) : Pr fb (d + 100) n_X8_miles n_X9_miles [.int v] h := by
  obtain ⟨⟨n, u, nt, nb, nw, iN⟩, iZ, iM, iS, iT, iB, iW, iX, iY⟩ := id hI.1
  by_cases q : 1 ≤ v ∧ v ≤ 24
  · obtain ⟨j, hj, rfl⟩ := nI_of2 (M := 24) (n := 24) (by decide) (Int32.not_lt.mpr (Int32.le_trans (by decide) q.1)) q.2
    have hj1 : 1 ≤ j := by
      have := (nI_leI (a := 1) (b := j) (by omega) (by omega)).mp q.1
      exact this
    have hqT : (1 ≤ nI j ∧ nI j ≤ 24) = True := eq_true q
    refine ⟨nI n, pm_si h 3 3 (nI j), _, ?_, ?_, Inv_n hI hj1 hj⟩
    · rw [en_X8_miles]
      simp only [c20, c2i, c2n, c2r, cs8_0, cs8_1, cs8_2, cs8_3, cs8_4, decide_eq_true_eq, ev_ald0, ev_aldn0, ev_cs3, ev_cv0, ev_cv1, ev_gr, ev_i, ev_if0, ev_ild1, ev_ild2, ev_ist2, ev_ri, i00, i01, i10, is_sw, not_false_eq_true, not_true_eq_false, pm_bd_s, pm_tl_n, pm_tl_s, ↓reduceIte, pb_X8_miles_0, pb_X8_miles_1, kd_0, rf_0_0, rf_0_1, rf_0_2, rf_0_3, rf_0_4, rf_0_5, rf_0_6, rf_0_7, rf_0_8, is_8_0, kd_1, rf_1_0, rf_1_1, rf_1_2, rf_1_3, rf_1_4, rf_1_5, rf_1_6, is_5_1, kd_3, rf_3_2, fc_3_0, fc_3_1, is_6_3_3, is_3_6_3, sp_isIn, bI_n0, hqT, sp_used, iN.1.1, sp_use (show pm_is [3, 6] 3 = true by decide) (show j ≤ tR 3 by rw [tR_3]; exact hj)]
    · rw [en_X9_miles]
      have e0 : (0 : Int32) = nI 0 := rfl
      have hb := fun d h v => sr_become (fb := fb) (d := d) (h := h) (c := 0) (v := v) (by omega)
      rw [nI_0] at hb
      simp only [cs8_0, cs8_1, cs8_2, cs8_3, cs8_4, decide_eq_true_eq, ev_ald0, ev_aldn0, ev_cs3, ev_cv1, ev_cv2, ev_go, ev_i, ev_if0, ev_ild1, ev_ri, i00, i01, i10, not_false_eq_true, not_true_eq_false, pm_bd_s, pm_tl_n, pm_tl_s, ↓reduceIte, pb_X9_miles_0, pb_X9_miles_1, pb_X9_miles_2, kd_59, rf_59_0, rf_59_1, rf_59_3, rf_59_4, rf_59_5, rf_59_6, rf_59_7, rf_59_12, rf_59_14, rf_59_15, rf_59_16, rf_59_19, rf_59_23, rf_59_24, rf_59_25, rf_59_26, is_9_59, sr_isIn, bI_0, hqT, hb, not_true_eq_false, si_at, Nat.reduceEqDiff, false_and, iN.1.2.1]
  · have hqF : (1 ≤ v ∧ v ≤ 24) = False := eq_false q
    refine Pr_e (e := 1) (x := -1000000001) hI (by omega) (by omega) ?_ ?_
    · rw [en_X8_miles]
      simp only [c20, c2i, c2n, c2r, cs8_0, cs8_1, cs8_2, cs8_3, cs8_4, decide_eq_true_eq, ev_ald0, ev_aldn0, ev_cs3, ev_cv0, ev_cv1, ev_gr, ev_i, ev_if0, ev_ild1, ev_ild2, ev_ist2, ev_ri, i00, i01, i10, is_sw, not_false_eq_true, not_true_eq_false, pm_bd_s, pm_tl_n, pm_tl_s, ↓reduceIte, pb_X8_miles_0, pb_X8_miles_1, kd_0, rf_0_0, rf_0_1, rf_0_2, rf_0_3, rf_0_4, rf_0_5, rf_0_6, rf_0_7, rf_0_8, is_8_0, kd_1, rf_1_0, rf_1_1, rf_1_2, rf_1_3, rf_1_4, rf_1_5, rf_1_6, is_5_1, kd_3, rf_3_2, fc_3_0, fc_3_1, is_6_3_3, is_3_6_3, sp_isIn, bI_n0, hqF, fail_1, F1]
    · rw [en_X9_miles]
      simp only [cs8_0, cs8_1, cs8_2, cs8_3, cs8_4, decide_eq_true_eq, ev_ald0, ev_aldn0, ev_cs3, ev_cv1, ev_cv2, ev_go, ev_i, ev_if0, ev_ild1, ev_ri, i00, i01, i10, not_false_eq_true, not_true_eq_false, pm_bd_s, pm_tl_n, pm_tl_s, ↓reduceIte, pb_X9_miles_0, pb_X9_miles_1, pb_X9_miles_2, kd_59, rf_59_0, rf_59_1, rf_59_3, rf_59_4, rf_59_5, rf_59_6, rf_59_7, rf_59_12, rf_59_14, rf_59_15, rf_59_16, rf_59_19, rf_59_23, rf_59_24, rf_59_25, rf_59_26, is_9_59, sr_isIn, bI_0, hqF, find_1, not_false_eq_true]
end P1
theorem b01 {v : Int32} (hv : 0 ≤ v ∧ v ≤ 1) : v = 0 ∨ v = 1 := by
  obtain ⟨j, hj, rfl⟩ := nI_of2 (M := 1) (n := 1) (by decide) (Int32.not_lt.mpr hv.1) hv.2
  rcases (show j = 0 ∨ j = 1 by omega) with rfl | rfl
  · exact Or.inl rfl
  · exact Or.inr rfl
theorem Inv_mi0 {h : pm_HP} {i : Nat} {v : Int32} (hI : Inv h) (hi : i < 24) (hv : -99 ≤ v ∧ v ≤ 99) : Inv (pm_si (pm_si h 31 (0 * 24 + i) v) 60 (8 + 5 * i + 0) v) := by
  obtain ⟨⟨n, u, nt, nb, nw, iN⟩, iZ, iM, iS, iT, iB, iW, iX, iY⟩ := hI.1
  refine Inv_now hI (now_si (now_si (fun _ _ _ => rfl) (by decide)) (by decide)) (R0_si (R0_si hI.2.2.2.2.2 (by omega)) (by omega)) ⟨⟨n, u, nt, nb, nw, RN_t iN (fun k hk => by rw [si_ne _ _ (by omega), si_ne _ _ (by omega)]) (fun j _ => by rw [si_ne _ _ (by omega), si_ne _ _ (by omega)])⟩, RZ_t iZ ⟨(by simp only [si_at, Nat.reduceEqDiff, false_and, true_and, ↓reduceIte]; repeat (rw [if_neg (by omega)])), (by simp only [si_at, Nat.reduceEqDiff, false_and, true_and, ↓reduceIte]; repeat (rw [if_neg (by omega)])), (by simp only [si_at, Nat.reduceEqDiff, false_and, true_and, ↓reduceIte]; repeat (rw [if_neg (by omega)]))⟩ (fun j _ _ => by rw [si_ne _ _ (by omega), si_ne _ _ (by omega)]), ?_, RS_t iS (by funext b; simp only [si_at, Nat.reduceEqDiff, false_and, ↓reduceIte]) (fun j _ _ => by rw [si_ne _ _ (by omega), si_ne _ _ (by omega)]), RT_t iT (by funext b; simp only [si_at, Nat.reduceEqDiff, false_and, ↓reduceIte]) (fun j _ _ => by rw [si_ne _ _ (by omega), si_ne _ _ (by omega)]), RB_t iB (by funext b; simp only [si_at, Nat.reduceEqDiff, false_and, ↓reduceIte]) (fun j _ _ => by rw [si_ne _ _ (by omega), si_ne _ _ (by omega)]), RW_t iW (by funext b; simp only [si_at, Nat.reduceEqDiff, false_and, ↓reduceIte]) (fun j _ _ => by rw [si_ne _ _ (by omega), si_ne _ _ (by omega)]), RX_t iX (by simp only [si_at, Nat.reduceEqDiff, false_and, true_and, ↓reduceIte]; repeat (rw [if_neg (by omega)])) (by funext b; simp only [si_at, Nat.reduceEqDiff, false_and, ↓reduceIte]) (fun j _ _ => by rw [si_ne _ _ (by omega), si_ne _ _ (by omega)]), RX_t iY (by simp only [si_at, Nat.reduceEqDiff, false_and, true_and, ↓reduceIte]; repeat (rw [if_neg (by omega)])) (by funext b; simp only [si_at, Nat.reduceEqDiff, false_and, ↓reduceIte]) (fun j _ _ => by rw [si_ne _ _ (by omega), si_ne _ _ (by omega)])⟩
  intro i' hi'
  by_cases q : i' = i
  · subst q
    refine ⟨fun c' hc' => ?_, ?_⟩
    · by_cases qc : c' = 0
      · subst qc
        rw [si_ne _ _ (by omega), si_same, si_same]
      · rw [si_ne _ _ (by omega), si_ne _ _ (by omega), si_ne _ _ (by omega), si_ne _ _ (by omega)]
        exact (iM i' hi').1 c' hc'
    · obtain ⟨-, b0, b1, b2, b3, b4⟩ := iM i' hi'
      refine ⟨?_, ?_, ?_, ?_, ?_⟩
      · rw [si_same]; exact hv
      · rw [si_ne _ _ (by omega), si_ne _ _ (by omega)]; exact b1
      · rw [si_ne _ _ (by omega), si_ne _ _ (by omega)]; exact b2
      · rw [si_ne _ _ (by omega), si_ne _ _ (by omega)]; exact b3
      · rw [si_ne _ _ (by omega), si_ne _ _ (by omega)]; exact b4
  · refine ⟨fun c' hc' => ?_, ?_⟩
    · rw [si_ne _ _ (by omega), si_ne _ _ (by omega), si_ne _ _ (by omega), si_ne _ _ (by omega)]
      exact (iM i' hi').1 c' hc'
    · rw [si_ne _ _ (by omega), si_ne _ _ (by omega), si_ne _ _ (by omega), si_ne _ _ (by omega), si_ne _ _ (by omega), si_ne _ _ (by omega), si_ne _ _ (by omega), si_ne _ _ (by omega), si_ne _ _ (by omega), si_ne _ _ (by omega)]
      exact (iM i' hi').2
theorem Inv_mi1 {h : pm_HP} {i : Nat} {v : Int32} (hI : Inv h) (hi : i < 24) (hv : 0 ≤ v ∧ v ≤ 9) : Inv (pm_si (pm_si h 31 (1 * 24 + i) v) 60 (8 + 5 * i + 1) v) := by
  obtain ⟨⟨n, u, nt, nb, nw, iN⟩, iZ, iM, iS, iT, iB, iW, iX, iY⟩ := hI.1
  refine Inv_now hI (now_si (now_si (fun _ _ _ => rfl) (by decide)) (by decide)) (R0_si (R0_si hI.2.2.2.2.2 (by omega)) (by omega)) ⟨⟨n, u, nt, nb, nw, RN_t iN (fun k hk => by rw [si_ne _ _ (by omega), si_ne _ _ (by omega)]) (fun j _ => by rw [si_ne _ _ (by omega), si_ne _ _ (by omega)])⟩, RZ_t iZ ⟨(by simp only [si_at, Nat.reduceEqDiff, false_and, true_and, ↓reduceIte]; repeat (rw [if_neg (by omega)])), (by simp only [si_at, Nat.reduceEqDiff, false_and, true_and, ↓reduceIte]; repeat (rw [if_neg (by omega)])), (by simp only [si_at, Nat.reduceEqDiff, false_and, true_and, ↓reduceIte]; repeat (rw [if_neg (by omega)]))⟩ (fun j _ _ => by rw [si_ne _ _ (by omega), si_ne _ _ (by omega)]), ?_, RS_t iS (by funext b; simp only [si_at, Nat.reduceEqDiff, false_and, ↓reduceIte]) (fun j _ _ => by rw [si_ne _ _ (by omega), si_ne _ _ (by omega)]), RT_t iT (by funext b; simp only [si_at, Nat.reduceEqDiff, false_and, ↓reduceIte]) (fun j _ _ => by rw [si_ne _ _ (by omega), si_ne _ _ (by omega)]), RB_t iB (by funext b; simp only [si_at, Nat.reduceEqDiff, false_and, ↓reduceIte]) (fun j _ _ => by rw [si_ne _ _ (by omega), si_ne _ _ (by omega)]), RW_t iW (by funext b; simp only [si_at, Nat.reduceEqDiff, false_and, ↓reduceIte]) (fun j _ _ => by rw [si_ne _ _ (by omega), si_ne _ _ (by omega)]), RX_t iX (by simp only [si_at, Nat.reduceEqDiff, false_and, true_and, ↓reduceIte]; repeat (rw [if_neg (by omega)])) (by funext b; simp only [si_at, Nat.reduceEqDiff, false_and, ↓reduceIte]) (fun j _ _ => by rw [si_ne _ _ (by omega), si_ne _ _ (by omega)]), RX_t iY (by simp only [si_at, Nat.reduceEqDiff, false_and, true_and, ↓reduceIte]; repeat (rw [if_neg (by omega)])) (by funext b; simp only [si_at, Nat.reduceEqDiff, false_and, ↓reduceIte]) (fun j _ _ => by rw [si_ne _ _ (by omega), si_ne _ _ (by omega)])⟩
  intro i' hi'
  by_cases q : i' = i
  · subst q
    refine ⟨fun c' hc' => ?_, ?_⟩
    · by_cases qc : c' = 1
      · subst qc
        rw [si_ne _ _ (by omega), si_same, si_same]
      · rw [si_ne _ _ (by omega), si_ne _ _ (by omega), si_ne _ _ (by omega), si_ne _ _ (by omega)]
        exact (iM i' hi').1 c' hc'
    · obtain ⟨-, b0, b1, b2, b3, b4⟩ := iM i' hi'
      refine ⟨?_, ?_, ?_, ?_, ?_⟩
      · rw [si_ne _ _ (by omega), si_ne _ _ (by omega)]; exact b0
      · rw [si_same]; exact hv
      · rw [si_ne _ _ (by omega), si_ne _ _ (by omega)]; exact b2
      · rw [si_ne _ _ (by omega), si_ne _ _ (by omega)]; exact b3
      · rw [si_ne _ _ (by omega), si_ne _ _ (by omega)]; exact b4
  · refine ⟨fun c' hc' => ?_, ?_⟩
    · rw [si_ne _ _ (by omega), si_ne _ _ (by omega), si_ne _ _ (by omega), si_ne _ _ (by omega)]
      exact (iM i' hi').1 c' hc'
    · rw [si_ne _ _ (by omega), si_ne _ _ (by omega), si_ne _ _ (by omega), si_ne _ _ (by omega), si_ne _ _ (by omega), si_ne _ _ (by omega), si_ne _ _ (by omega), si_ne _ _ (by omega), si_ne _ _ (by omega), si_ne _ _ (by omega)]
      exact (iM i' hi').2
theorem Inv_mi2 {h : pm_HP} {i : Nat} {v : Int32} (hI : Inv h) (hi : i < 24) (hv : 0 ≤ v ∧ v ≤ 99) : Inv (pm_si (pm_si h 31 (2 * 24 + i) v) 60 (8 + 5 * i + 2) v) := by
  obtain ⟨⟨n, u, nt, nb, nw, iN⟩, iZ, iM, iS, iT, iB, iW, iX, iY⟩ := hI.1
  refine Inv_now hI (now_si (now_si (fun _ _ _ => rfl) (by decide)) (by decide)) (R0_si (R0_si hI.2.2.2.2.2 (by omega)) (by omega)) ⟨⟨n, u, nt, nb, nw, RN_t iN (fun k hk => by rw [si_ne _ _ (by omega), si_ne _ _ (by omega)]) (fun j _ => by rw [si_ne _ _ (by omega), si_ne _ _ (by omega)])⟩, RZ_t iZ ⟨(by simp only [si_at, Nat.reduceEqDiff, false_and, true_and, ↓reduceIte]; repeat (rw [if_neg (by omega)])), (by simp only [si_at, Nat.reduceEqDiff, false_and, true_and, ↓reduceIte]; repeat (rw [if_neg (by omega)])), (by simp only [si_at, Nat.reduceEqDiff, false_and, true_and, ↓reduceIte]; repeat (rw [if_neg (by omega)]))⟩ (fun j _ _ => by rw [si_ne _ _ (by omega), si_ne _ _ (by omega)]), ?_, RS_t iS (by funext b; simp only [si_at, Nat.reduceEqDiff, false_and, ↓reduceIte]) (fun j _ _ => by rw [si_ne _ _ (by omega), si_ne _ _ (by omega)]), RT_t iT (by funext b; simp only [si_at, Nat.reduceEqDiff, false_and, ↓reduceIte]) (fun j _ _ => by rw [si_ne _ _ (by omega), si_ne _ _ (by omega)]), RB_t iB (by funext b; simp only [si_at, Nat.reduceEqDiff, false_and, ↓reduceIte]) (fun j _ _ => by rw [si_ne _ _ (by omega), si_ne _ _ (by omega)]), RW_t iW (by funext b; simp only [si_at, Nat.reduceEqDiff, false_and, ↓reduceIte]) (fun j _ _ => by rw [si_ne _ _ (by omega), si_ne _ _ (by omega)]), RX_t iX (by simp only [si_at, Nat.reduceEqDiff, false_and, true_and, ↓reduceIte]; repeat (rw [if_neg (by omega)])) (by funext b; simp only [si_at, Nat.reduceEqDiff, false_and, ↓reduceIte]) (fun j _ _ => by rw [si_ne _ _ (by omega), si_ne _ _ (by omega)]), RX_t iY (by simp only [si_at, Nat.reduceEqDiff, false_and, true_and, ↓reduceIte]; repeat (rw [if_neg (by omega)])) (by funext b; simp only [si_at, Nat.reduceEqDiff, false_and, ↓reduceIte]) (fun j _ _ => by rw [si_ne _ _ (by omega), si_ne _ _ (by omega)])⟩
  intro i' hi'
  by_cases q : i' = i
  · subst q
    refine ⟨fun c' hc' => ?_, ?_⟩
    · by_cases qc : c' = 2
      · subst qc
        rw [si_ne _ _ (by omega), si_same, si_same]
      · rw [si_ne _ _ (by omega), si_ne _ _ (by omega), si_ne _ _ (by omega), si_ne _ _ (by omega)]
        exact (iM i' hi').1 c' hc'
    · obtain ⟨-, b0, b1, b2, b3, b4⟩ := iM i' hi'
      refine ⟨?_, ?_, ?_, ?_, ?_⟩
      · rw [si_ne _ _ (by omega), si_ne _ _ (by omega)]; exact b0
      · rw [si_ne _ _ (by omega), si_ne _ _ (by omega)]; exact b1
      · rw [si_same]; exact hv
      · rw [si_ne _ _ (by omega), si_ne _ _ (by omega)]; exact b3
      · rw [si_ne _ _ (by omega), si_ne _ _ (by omega)]; exact b4
  · refine ⟨fun c' hc' => ?_, ?_⟩
    · rw [si_ne _ _ (by omega), si_ne _ _ (by omega), si_ne _ _ (by omega), si_ne _ _ (by omega)]
      exact (iM i' hi').1 c' hc'
    · rw [si_ne _ _ (by omega), si_ne _ _ (by omega), si_ne _ _ (by omega), si_ne _ _ (by omega), si_ne _ _ (by omega), si_ne _ _ (by omega), si_ne _ _ (by omega), si_ne _ _ (by omega), si_ne _ _ (by omega), si_ne _ _ (by omega)]
      exact (iM i' hi').2
theorem Inv_mi3 {h : pm_HP} {i : Nat} {v : Int32} (hI : Inv h) (hi : i < 24) (hv : 0 ≤ v ∧ v ≤ 1) : Inv (pm_si (pm_si h 31 (3 * 24 + i) v) 60 (8 + 5 * i + 3) v) := by
  obtain ⟨⟨n, u, nt, nb, nw, iN⟩, iZ, iM, iS, iT, iB, iW, iX, iY⟩ := hI.1
  refine Inv_now hI (now_si (now_si (fun _ _ _ => rfl) (by decide)) (by decide)) (R0_si (R0_si hI.2.2.2.2.2 (by omega)) (by omega)) ⟨⟨n, u, nt, nb, nw, RN_t iN (fun k hk => by rw [si_ne _ _ (by omega), si_ne _ _ (by omega)]) (fun j _ => by rw [si_ne _ _ (by omega), si_ne _ _ (by omega)])⟩, RZ_t iZ ⟨(by simp only [si_at, Nat.reduceEqDiff, false_and, true_and, ↓reduceIte]; repeat (rw [if_neg (by omega)])), (by simp only [si_at, Nat.reduceEqDiff, false_and, true_and, ↓reduceIte]; repeat (rw [if_neg (by omega)])), (by simp only [si_at, Nat.reduceEqDiff, false_and, true_and, ↓reduceIte]; repeat (rw [if_neg (by omega)]))⟩ (fun j _ _ => by rw [si_ne _ _ (by omega), si_ne _ _ (by omega)]), ?_, RS_t iS (by funext b; simp only [si_at, Nat.reduceEqDiff, false_and, ↓reduceIte]) (fun j _ _ => by rw [si_ne _ _ (by omega), si_ne _ _ (by omega)]), RT_t iT (by funext b; simp only [si_at, Nat.reduceEqDiff, false_and, ↓reduceIte]) (fun j _ _ => by rw [si_ne _ _ (by omega), si_ne _ _ (by omega)]), RB_t iB (by funext b; simp only [si_at, Nat.reduceEqDiff, false_and, ↓reduceIte]) (fun j _ _ => by rw [si_ne _ _ (by omega), si_ne _ _ (by omega)]), RW_t iW (by funext b; simp only [si_at, Nat.reduceEqDiff, false_and, ↓reduceIte]) (fun j _ _ => by rw [si_ne _ _ (by omega), si_ne _ _ (by omega)]), RX_t iX (by simp only [si_at, Nat.reduceEqDiff, false_and, true_and, ↓reduceIte]; repeat (rw [if_neg (by omega)])) (by funext b; simp only [si_at, Nat.reduceEqDiff, false_and, ↓reduceIte]) (fun j _ _ => by rw [si_ne _ _ (by omega), si_ne _ _ (by omega)]), RX_t iY (by simp only [si_at, Nat.reduceEqDiff, false_and, true_and, ↓reduceIte]; repeat (rw [if_neg (by omega)])) (by funext b; simp only [si_at, Nat.reduceEqDiff, false_and, ↓reduceIte]) (fun j _ _ => by rw [si_ne _ _ (by omega), si_ne _ _ (by omega)])⟩
  intro i' hi'
  by_cases q : i' = i
  · subst q
    refine ⟨fun c' hc' => ?_, ?_⟩
    · by_cases qc : c' = 3
      · subst qc
        rw [si_ne _ _ (by omega), si_same, si_same]
      · rw [si_ne _ _ (by omega), si_ne _ _ (by omega), si_ne _ _ (by omega), si_ne _ _ (by omega)]
        exact (iM i' hi').1 c' hc'
    · obtain ⟨-, b0, b1, b2, b3, b4⟩ := iM i' hi'
      refine ⟨?_, ?_, ?_, ?_, ?_⟩
      · rw [si_ne _ _ (by omega), si_ne _ _ (by omega)]; exact b0
      · rw [si_ne _ _ (by omega), si_ne _ _ (by omega)]; exact b1
      · rw [si_ne _ _ (by omega), si_ne _ _ (by omega)]; exact b2
      · rw [si_same]; exact b01 hv
      · rw [si_ne _ _ (by omega), si_ne _ _ (by omega)]; exact b4
  · refine ⟨fun c' hc' => ?_, ?_⟩
    · rw [si_ne _ _ (by omega), si_ne _ _ (by omega), si_ne _ _ (by omega), si_ne _ _ (by omega)]
      exact (iM i' hi').1 c' hc'
    · rw [si_ne _ _ (by omega), si_ne _ _ (by omega), si_ne _ _ (by omega), si_ne _ _ (by omega), si_ne _ _ (by omega), si_ne _ _ (by omega), si_ne _ _ (by omega), si_ne _ _ (by omega), si_ne _ _ (by omega), si_ne _ _ (by omega)]
      exact (iM i' hi').2
theorem Inv_mi4 {h : pm_HP} {i : Nat} {v : Int32} (hI : Inv h) (hi : i < 24) (hv : -99 ≤ v ∧ v ≤ 99) : Inv (pm_si (pm_si h 31 (4 * 24 + i) v) 60 (8 + 5 * i + 4) v) := by
  obtain ⟨⟨n, u, nt, nb, nw, iN⟩, iZ, iM, iS, iT, iB, iW, iX, iY⟩ := hI.1
  refine Inv_now hI (now_si (now_si (fun _ _ _ => rfl) (by decide)) (by decide)) (R0_si (R0_si hI.2.2.2.2.2 (by omega)) (by omega)) ⟨⟨n, u, nt, nb, nw, RN_t iN (fun k hk => by rw [si_ne _ _ (by omega), si_ne _ _ (by omega)]) (fun j _ => by rw [si_ne _ _ (by omega), si_ne _ _ (by omega)])⟩, RZ_t iZ ⟨(by simp only [si_at, Nat.reduceEqDiff, false_and, true_and, ↓reduceIte]; repeat (rw [if_neg (by omega)])), (by simp only [si_at, Nat.reduceEqDiff, false_and, true_and, ↓reduceIte]; repeat (rw [if_neg (by omega)])), (by simp only [si_at, Nat.reduceEqDiff, false_and, true_and, ↓reduceIte]; repeat (rw [if_neg (by omega)]))⟩ (fun j _ _ => by rw [si_ne _ _ (by omega), si_ne _ _ (by omega)]), ?_, RS_t iS (by funext b; simp only [si_at, Nat.reduceEqDiff, false_and, ↓reduceIte]) (fun j _ _ => by rw [si_ne _ _ (by omega), si_ne _ _ (by omega)]), RT_t iT (by funext b; simp only [si_at, Nat.reduceEqDiff, false_and, ↓reduceIte]) (fun j _ _ => by rw [si_ne _ _ (by omega), si_ne _ _ (by omega)]), RB_t iB (by funext b; simp only [si_at, Nat.reduceEqDiff, false_and, ↓reduceIte]) (fun j _ _ => by rw [si_ne _ _ (by omega), si_ne _ _ (by omega)]), RW_t iW (by funext b; simp only [si_at, Nat.reduceEqDiff, false_and, ↓reduceIte]) (fun j _ _ => by rw [si_ne _ _ (by omega), si_ne _ _ (by omega)]), RX_t iX (by simp only [si_at, Nat.reduceEqDiff, false_and, true_and, ↓reduceIte]; repeat (rw [if_neg (by omega)])) (by funext b; simp only [si_at, Nat.reduceEqDiff, false_and, ↓reduceIte]) (fun j _ _ => by rw [si_ne _ _ (by omega), si_ne _ _ (by omega)]), RX_t iY (by simp only [si_at, Nat.reduceEqDiff, false_and, true_and, ↓reduceIte]; repeat (rw [if_neg (by omega)])) (by funext b; simp only [si_at, Nat.reduceEqDiff, false_and, ↓reduceIte]) (fun j _ _ => by rw [si_ne _ _ (by omega), si_ne _ _ (by omega)])⟩
  intro i' hi'
  by_cases q : i' = i
  · subst q
    refine ⟨fun c' hc' => ?_, ?_⟩
    · by_cases qc : c' = 4
      · subst qc
        rw [si_ne _ _ (by omega), si_same, si_same]
      · rw [si_ne _ _ (by omega), si_ne _ _ (by omega), si_ne _ _ (by omega), si_ne _ _ (by omega)]
        exact (iM i' hi').1 c' hc'
    · obtain ⟨-, b0, b1, b2, b3, b4⟩ := iM i' hi'
      refine ⟨?_, ?_, ?_, ?_, ?_⟩
      · rw [si_ne _ _ (by omega), si_ne _ _ (by omega)]; exact b0
      · rw [si_ne _ _ (by omega), si_ne _ _ (by omega)]; exact b1
      · rw [si_ne _ _ (by omega), si_ne _ _ (by omega)]; exact b2
      · rw [si_ne _ _ (by omega), si_ne _ _ (by omega)]; exact b3
      · rw [si_same]; exact hv
  · refine ⟨fun c' hc' => ?_, ?_⟩
    · rw [si_ne _ _ (by omega), si_ne _ _ (by omega), si_ne _ _ (by omega), si_ne _ _ (by omega)]
      exact (iM i' hi').1 c' hc'
    · rw [si_ne _ _ (by omega), si_ne _ _ (by omega), si_ne _ _ (by omega), si_ne _ _ (by omega), si_ne _ _ (by omega), si_ne _ _ (by omega), si_ne _ _ (by omega), si_ne _ _ (by omega), si_ne _ _ (by omega), si_ne _ _ (by omega)]
      exact (iM i' hi').2
section P2
variable {fb : Bool} {d : Nat} {h : pm_HP}
theorem pr_mile0 (hI : Inv h) (m v : Int32) : Pr fb (d + 100) n_X8_mile n_X9_mile [.int m, .int 0, .int v] h := by
  obtain ⟨⟨n, u, nt, nb, nw, iN⟩, iZ, iM, iS, iT, iB, iW, iX, iY⟩ := id hI.1
  have w1 : (0 ≤ (0 : Int32) ∧ (0 : Int32) ≤ 3) = True := eq_true ⟨by decide, by decide⟩
  have x1 : pm_ix (0 : Int32) 4 = true := by decide
  have s1 : pm_sv 76 (0 : Int32).toNatClampNeg = -99 := by decide
  have s2 : pm_sv 77 (0 : Int32).toNatClampNeg = 99 := by decide
  have F : ∀ q : Prop, q = False → True := fun _ _ => trivial
  by_cases qm : 0 ≤ m ∧ m ≤ 23
  · obtain ⟨i, hi, rfl⟩ := nI_of2 (M := 23) (n := 23) (by decide) (Int32.not_lt.mpr qm.1) qm.2
    have qmT : (0 ≤ nI i ∧ nI i ≤ 23) = True := eq_true qm
    by_cases qv : -99 ≤ v ∧ v ≤ 99
    · have qvT : (-99 ≤ v ∧ v ≤ 99) = True := eq_true qv
      have hi24 : i < 24 := by omega
      have e : (8 : Int32) + 5 * nI i + 0 = nI (8 + 5 * i + 0) := by
        show nI 8 + nI 5 * nI i + nI 0 = _
        rw [nI_mul, nI_add, nI_add]
      have hb := fun d h => sr_become (fb := fb) (d := d) (h := h) (c := 8 + 5 * i + 0) (v := v) (by omega)
      refine ⟨mi h 0 i, pm_si h 31 (0 * 24 + i) v, _, ?_, ?_, Inv_mi0 hI hi24 qv⟩
      · rw [en_X8_mile]
        simp only [c20, c2i, c2n, c2r, cs8_0, cs8_1, cs8_2, cs8_3, cs8_4, decide_eq_true_eq, ev_ald0, ev_aldn0, ev_cs3, ev_cv1, ev_cv2, ev_cv3, ev_go, ev_gr, ev_i, ev_if0, ev_ild1, ev_ild2, ev_ild3, ev_ild4, ev_is, ev_ist4, ev_ri, ev_v, i00, i01, i10, is_sw, not_false_eq_true, not_true_eq_false, pm_bd_s, pm_tl_n, pm_tl_s, ↓reduceIte, pb_X8_mile_0, pb_X8_mile_1, pb_X8_mile_2, kd_0, rf_0_0, rf_0_1, rf_0_2, rf_0_3, rf_0_4, rf_0_5, rf_0_6, rf_0_7, rf_0_8, is_8_0, kd_1, rf_1_0, rf_1_1, rf_1_2, rf_1_3, rf_1_4, rf_1_5, rf_1_6, is_5_1, kd_3, rf_3_2, fc_3_0, fc_3_1, is_6_3_3, is_3_6_3, kd_76, al_76, kd_77, al_77, sp_isIn, bI_0, bI_n0, qmT, w1, x1, s1, s2, qvT, at_3_0 hi24, set_3_0 hi24, not_true_eq_false]
      · rw [en_X9_mile]
        simp only [c20, c2i, c2n, c2r, cs8_0, cs8_1, cs8_2, cs8_3, cs8_4, decide_eq_true_eq, ev_ald0, ev_aldn0, ev_bin, ev_cs1, ev_cs3, ev_cv1, ev_cv2, ev_go, ev_i, ev_if0, ev_ild1, ev_ild2, ev_ild3, ev_ild4, ev_ist4, ev_ri, ev_sw_0, ev_sw_1, i00, i01, i10, not_false_eq_true, not_true_eq_false, pm_bd_s, pm_tl_n, pm_tl_s, ↓reduceIte, pb_X9_mile_0, pb_X9_mile_1, pb_X9_mile_2, pb_X9_mile_3, pb_X9_mile_4, pb_X9_mile_5, pb_X9_mile_6, pb_X9_mile_7, pb_X9_mile_8, pb_X9_mile_9, pb_X9_mile_10, pb_X9_mile_11, pb_X9_mile_12, pb_X9_mile_13, pb_X9_mile_14, pb_X9_mile_15, pb_X9_mile_16, nl_0_1, nl_0_2, nl_0_3, nl_0_4, nl_0_5, nl_0_6, nl_0_7, nl_0_8, nl_1_0, nl_1_2, nl_1_3, nl_1_4, nl_1_5, nl_1_6, nl_1_7, nl_1_8, nl_2_0, nl_2_1, nl_2_3, nl_2_4, nl_2_5, nl_2_6, nl_2_7, nl_2_8, nl_3_0, nl_3_1, nl_3_2, nl_3_4, nl_3_5, nl_3_6, nl_3_7, nl_3_8, nl_4_0, nl_4_1, nl_4_2, nl_4_3, nl_4_5, nl_4_6, nl_4_7, nl_4_8, nl_5_0, nl_5_1, nl_5_2, nl_5_3, nl_5_4, nl_5_6, nl_5_7, nl_5_8, nl_6_0, nl_6_1, nl_6_2, nl_6_3, nl_6_4, nl_6_5, nl_6_7, nl_6_8, nl_7_0, nl_7_1, nl_7_2, nl_7_3, nl_7_4, nl_7_5, nl_7_6, nl_7_8, nl_8_0, nl_8_1, nl_8_2, nl_8_3, nl_8_4, nl_8_5, nl_8_6, nl_8_7, kd_59, rf_59_0, rf_59_1, rf_59_3, rf_59_4, rf_59_5, rf_59_6, rf_59_7, rf_59_12, rf_59_14, rf_59_15, rf_59_16, rf_59_19, rf_59_23, rf_59_24, rf_59_25, rf_59_26, is_9_59, sr_isMile, sr_isIn, bI_0, qmT, qvT, e, hb, not_true_eq_false, si_at, Nat.reduceEqDiff, false_and]
        unfold mi
        rw [(iM i hi24).1 0 (by omega)]
    · have qvF : (-99 ≤ v ∧ v ≤ 99) = False := eq_false qv
      refine Pr_e (e := 1) (x := -1000000001) hI (by omega) (by omega) ?_ ?_
      · rw [en_X8_mile]
        simp only [c20, c2i, c2n, c2r, cs8_0, cs8_1, cs8_2, cs8_3, cs8_4, decide_eq_true_eq, ev_ald0, ev_aldn0, ev_cs3, ev_cv1, ev_cv2, ev_cv3, ev_go, ev_gr, ev_i, ev_if0, ev_ild1, ev_ild2, ev_ild3, ev_ild4, ev_is, ev_ist4, ev_ri, ev_v, i00, i01, i10, is_sw, not_false_eq_true, not_true_eq_false, pm_bd_s, pm_tl_n, pm_tl_s, ↓reduceIte, pb_X8_mile_0, pb_X8_mile_1, pb_X8_mile_2, kd_0, rf_0_0, rf_0_1, rf_0_2, rf_0_3, rf_0_4, rf_0_5, rf_0_6, rf_0_7, rf_0_8, is_8_0, kd_1, rf_1_0, rf_1_1, rf_1_2, rf_1_3, rf_1_4, rf_1_5, rf_1_6, is_5_1, kd_3, rf_3_2, fc_3_0, fc_3_1, is_6_3_3, is_3_6_3, kd_76, al_76, kd_77, al_77, sp_isIn, bI_0, bI_n0, qmT, w1, x1, s1, s2, qvF, not_true_eq_false, fail_1, F1]
      · rw [en_X9_mile]
        simp only [c20, c2i, c2n, c2r, cs8_0, cs8_1, cs8_2, cs8_3, cs8_4, decide_eq_true_eq, ev_ald0, ev_aldn0, ev_bin, ev_cs1, ev_cs3, ev_cv1, ev_cv2, ev_go, ev_i, ev_if0, ev_ild1, ev_ild2, ev_ild3, ev_ild4, ev_ist4, ev_ri, ev_sw_0, ev_sw_1, i00, i01, i10, not_false_eq_true, not_true_eq_false, pm_bd_s, pm_tl_n, pm_tl_s, ↓reduceIte, pb_X9_mile_0, pb_X9_mile_1, pb_X9_mile_2, pb_X9_mile_3, pb_X9_mile_4, pb_X9_mile_5, pb_X9_mile_6, pb_X9_mile_7, pb_X9_mile_8, pb_X9_mile_9, pb_X9_mile_10, pb_X9_mile_11, pb_X9_mile_12, pb_X9_mile_13, pb_X9_mile_14, pb_X9_mile_15, pb_X9_mile_16, nl_0_1, nl_0_2, nl_0_3, nl_0_4, nl_0_5, nl_0_6, nl_0_7, nl_0_8, nl_1_0, nl_1_2, nl_1_3, nl_1_4, nl_1_5, nl_1_6, nl_1_7, nl_1_8, nl_2_0, nl_2_1, nl_2_3, nl_2_4, nl_2_5, nl_2_6, nl_2_7, nl_2_8, nl_3_0, nl_3_1, nl_3_2, nl_3_4, nl_3_5, nl_3_6, nl_3_7, nl_3_8, nl_4_0, nl_4_1, nl_4_2, nl_4_3, nl_4_5, nl_4_6, nl_4_7, nl_4_8, nl_5_0, nl_5_1, nl_5_2, nl_5_3, nl_5_4, nl_5_6, nl_5_7, nl_5_8, nl_6_0, nl_6_1, nl_6_2, nl_6_3, nl_6_4, nl_6_5, nl_6_7, nl_6_8, nl_7_0, nl_7_1, nl_7_2, nl_7_3, nl_7_4, nl_7_5, nl_7_6, nl_7_8, nl_8_0, nl_8_1, nl_8_2, nl_8_3, nl_8_4, nl_8_5, nl_8_6, nl_8_7, kd_59, rf_59_0, rf_59_1, rf_59_3, rf_59_4, rf_59_5, rf_59_6, rf_59_7, rf_59_12, rf_59_14, rf_59_15, rf_59_16, rf_59_19, rf_59_23, rf_59_24, rf_59_25, rf_59_26, is_9_59, sr_isMile, sr_isIn, bI_0, qmT, qvF, not_true_eq_false, not_false_eq_true, find_1]
  · have qmF : (0 ≤ m ∧ m ≤ 23) = False := eq_false qm
    refine Pr_e (e := 1) (x := -1000000001) hI (by omega) (by omega) ?_ ?_
    · rw [en_X8_mile]
      simp only [c20, c2i, c2n, c2r, cs8_0, cs8_1, cs8_2, cs8_3, cs8_4, decide_eq_true_eq, ev_ald0, ev_aldn0, ev_cs3, ev_cv1, ev_cv2, ev_cv3, ev_go, ev_gr, ev_i, ev_if0, ev_ild1, ev_ild2, ev_ild3, ev_ild4, ev_is, ev_ist4, ev_ri, ev_v, i00, i01, i10, is_sw, not_false_eq_true, not_true_eq_false, pm_bd_s, pm_tl_n, pm_tl_s, ↓reduceIte, pb_X8_mile_0, pb_X8_mile_1, pb_X8_mile_2, kd_0, rf_0_0, rf_0_1, rf_0_2, rf_0_3, rf_0_4, rf_0_5, rf_0_6, rf_0_7, rf_0_8, is_8_0, kd_1, rf_1_0, rf_1_1, rf_1_2, rf_1_3, rf_1_4, rf_1_5, rf_1_6, is_5_1, kd_3, rf_3_2, fc_3_0, fc_3_1, is_6_3_3, is_3_6_3, kd_76, al_76, kd_77, al_77, sp_isIn, bI_0, qmF, not_false_eq_true, fail_1, F1]
    · rw [en_X9_mile]
      simp only [c20, c2i, c2n, c2r, cs8_0, cs8_1, cs8_2, cs8_3, cs8_4, decide_eq_true_eq, ev_ald0, ev_aldn0, ev_bin, ev_cs1, ev_cs3, ev_cv1, ev_cv2, ev_go, ev_i, ev_if0, ev_ild1, ev_ild2, ev_ild3, ev_ild4, ev_ist4, ev_ri, ev_sw_0, ev_sw_1, i00, i01, i10, not_false_eq_true, not_true_eq_false, pm_bd_s, pm_tl_n, pm_tl_s, ↓reduceIte, pb_X9_mile_0, pb_X9_mile_1, pb_X9_mile_2, pb_X9_mile_3, pb_X9_mile_4, pb_X9_mile_5, pb_X9_mile_6, pb_X9_mile_7, pb_X9_mile_8, pb_X9_mile_9, pb_X9_mile_10, pb_X9_mile_11, pb_X9_mile_12, pb_X9_mile_13, pb_X9_mile_14, pb_X9_mile_15, pb_X9_mile_16, nl_0_1, nl_0_2, nl_0_3, nl_0_4, nl_0_5, nl_0_6, nl_0_7, nl_0_8, nl_1_0, nl_1_2, nl_1_3, nl_1_4, nl_1_5, nl_1_6, nl_1_7, nl_1_8, nl_2_0, nl_2_1, nl_2_3, nl_2_4, nl_2_5, nl_2_6, nl_2_7, nl_2_8, nl_3_0, nl_3_1, nl_3_2, nl_3_4, nl_3_5, nl_3_6, nl_3_7, nl_3_8, nl_4_0, nl_4_1, nl_4_2, nl_4_3, nl_4_5, nl_4_6, nl_4_7, nl_4_8, nl_5_0, nl_5_1, nl_5_2, nl_5_3, nl_5_4, nl_5_6, nl_5_7, nl_5_8, nl_6_0, nl_6_1, nl_6_2, nl_6_3, nl_6_4, nl_6_5, nl_6_7, nl_6_8, nl_7_0, nl_7_1, nl_7_2, nl_7_3, nl_7_4, nl_7_5, nl_7_6, nl_7_8, nl_8_0, nl_8_1, nl_8_2, nl_8_3, nl_8_4, nl_8_5, nl_8_6, nl_8_7, kd_59, rf_59_0, rf_59_1, rf_59_3, rf_59_4, rf_59_5, rf_59_6, rf_59_7, rf_59_12, rf_59_14, rf_59_15, rf_59_16, rf_59_19, rf_59_23, rf_59_24, rf_59_25, rf_59_26, is_9_59, sr_isMile, sr_isIn, bI_0, qmF, not_false_eq_true, find_1]
theorem pr_mile1 (hI : Inv h) (m v : Int32) : Pr fb (d + 100) n_X8_mile n_X9_mile [.int m, .int 1, .int v] h := by
  obtain ⟨⟨n, u, nt, nb, nw, iN⟩, iZ, iM, iS, iT, iB, iW, iX, iY⟩ := id hI.1
  have w1 : (0 ≤ (1 : Int32) ∧ (1 : Int32) ≤ 3) = True := eq_true ⟨by decide, by decide⟩
  have x1 : pm_ix (1 : Int32) 4 = true := by decide
  have s1 : pm_sv 76 (1 : Int32).toNatClampNeg = 0 := by decide
  have s2 : pm_sv 77 (1 : Int32).toNatClampNeg = 9 := by decide
  have F : ∀ q : Prop, q = False → True := fun _ _ => trivial
  by_cases qm : 0 ≤ m ∧ m ≤ 23
  · obtain ⟨i, hi, rfl⟩ := nI_of2 (M := 23) (n := 23) (by decide) (Int32.not_lt.mpr qm.1) qm.2
    have qmT : (0 ≤ nI i ∧ nI i ≤ 23) = True := eq_true qm
    by_cases qv : 0 ≤ v ∧ v ≤ 9
    · have qvT : (0 ≤ v ∧ v ≤ 9) = True := eq_true qv
      have hi24 : i < 24 := by omega
      have e : (8 : Int32) + 5 * nI i + 1 = nI (8 + 5 * i + 1) := by
        show nI 8 + nI 5 * nI i + nI 1 = _
        rw [nI_mul, nI_add, nI_add]
      have hb := fun d h => sr_become (fb := fb) (d := d) (h := h) (c := 8 + 5 * i + 1) (v := v) (by omega)
      refine ⟨mi h 1 i, pm_si h 31 (1 * 24 + i) v, _, ?_, ?_, Inv_mi1 hI hi24 qv⟩
      · rw [en_X8_mile]
        simp only [c20, c2i, c2n, c2r, cs8_0, cs8_1, cs8_2, cs8_3, cs8_4, decide_eq_true_eq, ev_ald0, ev_aldn0, ev_cs3, ev_cv1, ev_cv2, ev_cv3, ev_go, ev_gr, ev_i, ev_if0, ev_ild1, ev_ild2, ev_ild3, ev_ild4, ev_is, ev_ist4, ev_ri, ev_v, i00, i01, i10, is_sw, not_false_eq_true, not_true_eq_false, pm_bd_s, pm_tl_n, pm_tl_s, ↓reduceIte, pb_X8_mile_0, pb_X8_mile_1, pb_X8_mile_2, kd_0, rf_0_0, rf_0_1, rf_0_2, rf_0_3, rf_0_4, rf_0_5, rf_0_6, rf_0_7, rf_0_8, is_8_0, kd_1, rf_1_0, rf_1_1, rf_1_2, rf_1_3, rf_1_4, rf_1_5, rf_1_6, is_5_1, kd_3, rf_3_2, fc_3_0, fc_3_1, is_6_3_3, is_3_6_3, kd_76, al_76, kd_77, al_77, sp_isIn, bI_0, bI_n0, qmT, w1, x1, s1, s2, qvT, at_3_1 hi24, set_3_1 hi24, not_true_eq_false]
      · rw [en_X9_mile]
        simp only [c20, c2i, c2n, c2r, cs8_0, cs8_1, cs8_2, cs8_3, cs8_4, decide_eq_true_eq, ev_ald0, ev_aldn0, ev_bin, ev_cs1, ev_cs3, ev_cv1, ev_cv2, ev_go, ev_i, ev_if0, ev_ild1, ev_ild2, ev_ild3, ev_ild4, ev_ist4, ev_ri, ev_sw_0, ev_sw_1, i00, i01, i10, not_false_eq_true, not_true_eq_false, pm_bd_s, pm_tl_n, pm_tl_s, ↓reduceIte, pb_X9_mile_0, pb_X9_mile_1, pb_X9_mile_2, pb_X9_mile_3, pb_X9_mile_4, pb_X9_mile_5, pb_X9_mile_6, pb_X9_mile_7, pb_X9_mile_8, pb_X9_mile_9, pb_X9_mile_10, pb_X9_mile_11, pb_X9_mile_12, pb_X9_mile_13, pb_X9_mile_14, pb_X9_mile_15, pb_X9_mile_16, nl_0_1, nl_0_2, nl_0_3, nl_0_4, nl_0_5, nl_0_6, nl_0_7, nl_0_8, nl_1_0, nl_1_2, nl_1_3, nl_1_4, nl_1_5, nl_1_6, nl_1_7, nl_1_8, nl_2_0, nl_2_1, nl_2_3, nl_2_4, nl_2_5, nl_2_6, nl_2_7, nl_2_8, nl_3_0, nl_3_1, nl_3_2, nl_3_4, nl_3_5, nl_3_6, nl_3_7, nl_3_8, nl_4_0, nl_4_1, nl_4_2, nl_4_3, nl_4_5, nl_4_6, nl_4_7, nl_4_8, nl_5_0, nl_5_1, nl_5_2, nl_5_3, nl_5_4, nl_5_6, nl_5_7, nl_5_8, nl_6_0, nl_6_1, nl_6_2, nl_6_3, nl_6_4, nl_6_5, nl_6_7, nl_6_8, nl_7_0, nl_7_1, nl_7_2, nl_7_3, nl_7_4, nl_7_5, nl_7_6, nl_7_8, nl_8_0, nl_8_1, nl_8_2, nl_8_3, nl_8_4, nl_8_5, nl_8_6, nl_8_7, kd_59, rf_59_0, rf_59_1, rf_59_3, rf_59_4, rf_59_5, rf_59_6, rf_59_7, rf_59_12, rf_59_14, rf_59_15, rf_59_16, rf_59_19, rf_59_23, rf_59_24, rf_59_25, rf_59_26, is_9_59, sr_isMile, sr_isIn, bI_0, qmT, qvT, e, hb, not_true_eq_false, si_at, Nat.reduceEqDiff, false_and]
        unfold mi
        rw [(iM i hi24).1 1 (by omega)]
    · have qvF : (0 ≤ v ∧ v ≤ 9) = False := eq_false qv
      refine Pr_e (e := 1) (x := -1000000001) hI (by omega) (by omega) ?_ ?_
      · rw [en_X8_mile]
        simp only [c20, c2i, c2n, c2r, cs8_0, cs8_1, cs8_2, cs8_3, cs8_4, decide_eq_true_eq, ev_ald0, ev_aldn0, ev_cs3, ev_cv1, ev_cv2, ev_cv3, ev_go, ev_gr, ev_i, ev_if0, ev_ild1, ev_ild2, ev_ild3, ev_ild4, ev_is, ev_ist4, ev_ri, ev_v, i00, i01, i10, is_sw, not_false_eq_true, not_true_eq_false, pm_bd_s, pm_tl_n, pm_tl_s, ↓reduceIte, pb_X8_mile_0, pb_X8_mile_1, pb_X8_mile_2, kd_0, rf_0_0, rf_0_1, rf_0_2, rf_0_3, rf_0_4, rf_0_5, rf_0_6, rf_0_7, rf_0_8, is_8_0, kd_1, rf_1_0, rf_1_1, rf_1_2, rf_1_3, rf_1_4, rf_1_5, rf_1_6, is_5_1, kd_3, rf_3_2, fc_3_0, fc_3_1, is_6_3_3, is_3_6_3, kd_76, al_76, kd_77, al_77, sp_isIn, bI_0, bI_n0, qmT, w1, x1, s1, s2, qvF, not_true_eq_false, fail_1, F1]
      · rw [en_X9_mile]
        simp only [c20, c2i, c2n, c2r, cs8_0, cs8_1, cs8_2, cs8_3, cs8_4, decide_eq_true_eq, ev_ald0, ev_aldn0, ev_bin, ev_cs1, ev_cs3, ev_cv1, ev_cv2, ev_go, ev_i, ev_if0, ev_ild1, ev_ild2, ev_ild3, ev_ild4, ev_ist4, ev_ri, ev_sw_0, ev_sw_1, i00, i01, i10, not_false_eq_true, not_true_eq_false, pm_bd_s, pm_tl_n, pm_tl_s, ↓reduceIte, pb_X9_mile_0, pb_X9_mile_1, pb_X9_mile_2, pb_X9_mile_3, pb_X9_mile_4, pb_X9_mile_5, pb_X9_mile_6, pb_X9_mile_7, pb_X9_mile_8, pb_X9_mile_9, pb_X9_mile_10, pb_X9_mile_11, pb_X9_mile_12, pb_X9_mile_13, pb_X9_mile_14, pb_X9_mile_15, pb_X9_mile_16, nl_0_1, nl_0_2, nl_0_3, nl_0_4, nl_0_5, nl_0_6, nl_0_7, nl_0_8, nl_1_0, nl_1_2, nl_1_3, nl_1_4, nl_1_5, nl_1_6, nl_1_7, nl_1_8, nl_2_0, nl_2_1, nl_2_3, nl_2_4, nl_2_5, nl_2_6, nl_2_7, nl_2_8, nl_3_0, nl_3_1, nl_3_2, nl_3_4, nl_3_5, nl_3_6, nl_3_7, nl_3_8, nl_4_0, nl_4_1, nl_4_2, nl_4_3, nl_4_5, nl_4_6, nl_4_7, nl_4_8, nl_5_0, nl_5_1, nl_5_2, nl_5_3, nl_5_4, nl_5_6, nl_5_7, nl_5_8, nl_6_0, nl_6_1, nl_6_2, nl_6_3, nl_6_4, nl_6_5, nl_6_7, nl_6_8, nl_7_0, nl_7_1, nl_7_2, nl_7_3, nl_7_4, nl_7_5, nl_7_6, nl_7_8, nl_8_0, nl_8_1, nl_8_2, nl_8_3, nl_8_4, nl_8_5, nl_8_6, nl_8_7, kd_59, rf_59_0, rf_59_1, rf_59_3, rf_59_4, rf_59_5, rf_59_6, rf_59_7, rf_59_12, rf_59_14, rf_59_15, rf_59_16, rf_59_19, rf_59_23, rf_59_24, rf_59_25, rf_59_26, is_9_59, sr_isMile, sr_isIn, bI_0, qmT, qvF, not_true_eq_false, not_false_eq_true, find_1]
  · have qmF : (0 ≤ m ∧ m ≤ 23) = False := eq_false qm
    refine Pr_e (e := 1) (x := -1000000001) hI (by omega) (by omega) ?_ ?_
    · rw [en_X8_mile]
      simp only [c20, c2i, c2n, c2r, cs8_0, cs8_1, cs8_2, cs8_3, cs8_4, decide_eq_true_eq, ev_ald0, ev_aldn0, ev_cs3, ev_cv1, ev_cv2, ev_cv3, ev_go, ev_gr, ev_i, ev_if0, ev_ild1, ev_ild2, ev_ild3, ev_ild4, ev_is, ev_ist4, ev_ri, ev_v, i00, i01, i10, is_sw, not_false_eq_true, not_true_eq_false, pm_bd_s, pm_tl_n, pm_tl_s, ↓reduceIte, pb_X8_mile_0, pb_X8_mile_1, pb_X8_mile_2, kd_0, rf_0_0, rf_0_1, rf_0_2, rf_0_3, rf_0_4, rf_0_5, rf_0_6, rf_0_7, rf_0_8, is_8_0, kd_1, rf_1_0, rf_1_1, rf_1_2, rf_1_3, rf_1_4, rf_1_5, rf_1_6, is_5_1, kd_3, rf_3_2, fc_3_0, fc_3_1, is_6_3_3, is_3_6_3, kd_76, al_76, kd_77, al_77, sp_isIn, bI_0, qmF, not_false_eq_true, fail_1, F1]
    · rw [en_X9_mile]
      simp only [c20, c2i, c2n, c2r, cs8_0, cs8_1, cs8_2, cs8_3, cs8_4, decide_eq_true_eq, ev_ald0, ev_aldn0, ev_bin, ev_cs1, ev_cs3, ev_cv1, ev_cv2, ev_go, ev_i, ev_if0, ev_ild1, ev_ild2, ev_ild3, ev_ild4, ev_ist4, ev_ri, ev_sw_0, ev_sw_1, i00, i01, i10, not_false_eq_true, not_true_eq_false, pm_bd_s, pm_tl_n, pm_tl_s, ↓reduceIte, pb_X9_mile_0, pb_X9_mile_1, pb_X9_mile_2, pb_X9_mile_3, pb_X9_mile_4, pb_X9_mile_5, pb_X9_mile_6, pb_X9_mile_7, pb_X9_mile_8, pb_X9_mile_9, pb_X9_mile_10, pb_X9_mile_11, pb_X9_mile_12, pb_X9_mile_13, pb_X9_mile_14, pb_X9_mile_15, pb_X9_mile_16, nl_0_1, nl_0_2, nl_0_3, nl_0_4, nl_0_5, nl_0_6, nl_0_7, nl_0_8, nl_1_0, nl_1_2, nl_1_3, nl_1_4, nl_1_5, nl_1_6, nl_1_7, nl_1_8, nl_2_0, nl_2_1, nl_2_3, nl_2_4, nl_2_5, nl_2_6, nl_2_7, nl_2_8, nl_3_0, nl_3_1, nl_3_2, nl_3_4, nl_3_5, nl_3_6, nl_3_7, nl_3_8, nl_4_0, nl_4_1, nl_4_2, nl_4_3, nl_4_5, nl_4_6, nl_4_7, nl_4_8, nl_5_0, nl_5_1, nl_5_2, nl_5_3, nl_5_4, nl_5_6, nl_5_7, nl_5_8, nl_6_0, nl_6_1, nl_6_2, nl_6_3, nl_6_4, nl_6_5, nl_6_7, nl_6_8, nl_7_0, nl_7_1, nl_7_2, nl_7_3, nl_7_4, nl_7_5, nl_7_6, nl_7_8, nl_8_0, nl_8_1, nl_8_2, nl_8_3, nl_8_4, nl_8_5, nl_8_6, nl_8_7, kd_59, rf_59_0, rf_59_1, rf_59_3, rf_59_4, rf_59_5, rf_59_6, rf_59_7, rf_59_12, rf_59_14, rf_59_15, rf_59_16, rf_59_19, rf_59_23, rf_59_24, rf_59_25, rf_59_26, is_9_59, sr_isMile, sr_isIn, bI_0, qmF, not_false_eq_true, find_1]
theorem pr_mile2 (hI : Inv h) (m v : Int32) : Pr fb (d + 100) n_X8_mile n_X9_mile [.int m, .int 2, .int v] h := by
  obtain ⟨⟨n, u, nt, nb, nw, iN⟩, iZ, iM, iS, iT, iB, iW, iX, iY⟩ := id hI.1
  have w1 : (0 ≤ (2 : Int32) ∧ (2 : Int32) ≤ 3) = True := eq_true ⟨by decide, by decide⟩
  have x1 : pm_ix (2 : Int32) 4 = true := by decide
  have s1 : pm_sv 76 (2 : Int32).toNatClampNeg = 0 := by decide
  have s2 : pm_sv 77 (2 : Int32).toNatClampNeg = 99 := by decide
  have F : ∀ q : Prop, q = False → True := fun _ _ => trivial
  by_cases qm : 0 ≤ m ∧ m ≤ 23
  · obtain ⟨i, hi, rfl⟩ := nI_of2 (M := 23) (n := 23) (by decide) (Int32.not_lt.mpr qm.1) qm.2
    have qmT : (0 ≤ nI i ∧ nI i ≤ 23) = True := eq_true qm
    by_cases qv : 0 ≤ v ∧ v ≤ 99
    · have qvT : (0 ≤ v ∧ v ≤ 99) = True := eq_true qv
      have hi24 : i < 24 := by omega
      have e : (8 : Int32) + 5 * nI i + 2 = nI (8 + 5 * i + 2) := by
        show nI 8 + nI 5 * nI i + nI 2 = _
        rw [nI_mul, nI_add, nI_add]
      have hb := fun d h => sr_become (fb := fb) (d := d) (h := h) (c := 8 + 5 * i + 2) (v := v) (by omega)
      refine ⟨mi h 2 i, pm_si h 31 (2 * 24 + i) v, _, ?_, ?_, Inv_mi2 hI hi24 qv⟩
      · rw [en_X8_mile]
        simp only [c20, c2i, c2n, c2r, cs8_0, cs8_1, cs8_2, cs8_3, cs8_4, decide_eq_true_eq, ev_ald0, ev_aldn0, ev_cs3, ev_cv1, ev_cv2, ev_cv3, ev_go, ev_gr, ev_i, ev_if0, ev_ild1, ev_ild2, ev_ild3, ev_ild4, ev_is, ev_ist4, ev_ri, ev_v, i00, i01, i10, is_sw, not_false_eq_true, not_true_eq_false, pm_bd_s, pm_tl_n, pm_tl_s, ↓reduceIte, pb_X8_mile_0, pb_X8_mile_1, pb_X8_mile_2, kd_0, rf_0_0, rf_0_1, rf_0_2, rf_0_3, rf_0_4, rf_0_5, rf_0_6, rf_0_7, rf_0_8, is_8_0, kd_1, rf_1_0, rf_1_1, rf_1_2, rf_1_3, rf_1_4, rf_1_5, rf_1_6, is_5_1, kd_3, rf_3_2, fc_3_0, fc_3_1, is_6_3_3, is_3_6_3, kd_76, al_76, kd_77, al_77, sp_isIn, bI_0, bI_n0, qmT, w1, x1, s1, s2, qvT, at_3_2 hi24, set_3_2 hi24, not_true_eq_false]
      · rw [en_X9_mile]
        simp only [c20, c2i, c2n, c2r, cs8_0, cs8_1, cs8_2, cs8_3, cs8_4, decide_eq_true_eq, ev_ald0, ev_aldn0, ev_bin, ev_cs1, ev_cs3, ev_cv1, ev_cv2, ev_go, ev_i, ev_if0, ev_ild1, ev_ild2, ev_ild3, ev_ild4, ev_ist4, ev_ri, ev_sw_0, ev_sw_1, i00, i01, i10, not_false_eq_true, not_true_eq_false, pm_bd_s, pm_tl_n, pm_tl_s, ↓reduceIte, pb_X9_mile_0, pb_X9_mile_1, pb_X9_mile_2, pb_X9_mile_3, pb_X9_mile_4, pb_X9_mile_5, pb_X9_mile_6, pb_X9_mile_7, pb_X9_mile_8, pb_X9_mile_9, pb_X9_mile_10, pb_X9_mile_11, pb_X9_mile_12, pb_X9_mile_13, pb_X9_mile_14, pb_X9_mile_15, pb_X9_mile_16, nl_0_1, nl_0_2, nl_0_3, nl_0_4, nl_0_5, nl_0_6, nl_0_7, nl_0_8, nl_1_0, nl_1_2, nl_1_3, nl_1_4, nl_1_5, nl_1_6, nl_1_7, nl_1_8, nl_2_0, nl_2_1, nl_2_3, nl_2_4, nl_2_5, nl_2_6, nl_2_7, nl_2_8, nl_3_0, nl_3_1, nl_3_2, nl_3_4, nl_3_5, nl_3_6, nl_3_7, nl_3_8, nl_4_0, nl_4_1, nl_4_2, nl_4_3, nl_4_5, nl_4_6, nl_4_7, nl_4_8, nl_5_0, nl_5_1, nl_5_2, nl_5_3, nl_5_4, nl_5_6, nl_5_7, nl_5_8, nl_6_0, nl_6_1, nl_6_2, nl_6_3, nl_6_4, nl_6_5, nl_6_7, nl_6_8, nl_7_0, nl_7_1, nl_7_2, nl_7_3, nl_7_4, nl_7_5, nl_7_6, nl_7_8, nl_8_0, nl_8_1, nl_8_2, nl_8_3, nl_8_4, nl_8_5, nl_8_6, nl_8_7, kd_59, rf_59_0, rf_59_1, rf_59_3, rf_59_4, rf_59_5, rf_59_6, rf_59_7, rf_59_12, rf_59_14, rf_59_15, rf_59_16, rf_59_19, rf_59_23, rf_59_24, rf_59_25, rf_59_26, is_9_59, sr_isMile, sr_isIn, bI_0, qmT, qvT, e, hb, not_true_eq_false, si_at, Nat.reduceEqDiff, false_and]
        unfold mi
        rw [(iM i hi24).1 2 (by omega)]
    · have qvF : (0 ≤ v ∧ v ≤ 99) = False := eq_false qv
      refine Pr_e (e := 1) (x := -1000000001) hI (by omega) (by omega) ?_ ?_
      · rw [en_X8_mile]
        simp only [c20, c2i, c2n, c2r, cs8_0, cs8_1, cs8_2, cs8_3, cs8_4, decide_eq_true_eq, ev_ald0, ev_aldn0, ev_cs3, ev_cv1, ev_cv2, ev_cv3, ev_go, ev_gr, ev_i, ev_if0, ev_ild1, ev_ild2, ev_ild3, ev_ild4, ev_is, ev_ist4, ev_ri, ev_v, i00, i01, i10, is_sw, not_false_eq_true, not_true_eq_false, pm_bd_s, pm_tl_n, pm_tl_s, ↓reduceIte, pb_X8_mile_0, pb_X8_mile_1, pb_X8_mile_2, kd_0, rf_0_0, rf_0_1, rf_0_2, rf_0_3, rf_0_4, rf_0_5, rf_0_6, rf_0_7, rf_0_8, is_8_0, kd_1, rf_1_0, rf_1_1, rf_1_2, rf_1_3, rf_1_4, rf_1_5, rf_1_6, is_5_1, kd_3, rf_3_2, fc_3_0, fc_3_1, is_6_3_3, is_3_6_3, kd_76, al_76, kd_77, al_77, sp_isIn, bI_0, bI_n0, qmT, w1, x1, s1, s2, qvF, not_true_eq_false, fail_1, F1]
      · rw [en_X9_mile]
        simp only [c20, c2i, c2n, c2r, cs8_0, cs8_1, cs8_2, cs8_3, cs8_4, decide_eq_true_eq, ev_ald0, ev_aldn0, ev_bin, ev_cs1, ev_cs3, ev_cv1, ev_cv2, ev_go, ev_i, ev_if0, ev_ild1, ev_ild2, ev_ild3, ev_ild4, ev_ist4, ev_ri, ev_sw_0, ev_sw_1, i00, i01, i10, not_false_eq_true, not_true_eq_false, pm_bd_s, pm_tl_n, pm_tl_s, ↓reduceIte, pb_X9_mile_0, pb_X9_mile_1, pb_X9_mile_2, pb_X9_mile_3, pb_X9_mile_4, pb_X9_mile_5, pb_X9_mile_6, pb_X9_mile_7, pb_X9_mile_8, pb_X9_mile_9, pb_X9_mile_10, pb_X9_mile_11, pb_X9_mile_12, pb_X9_mile_13, pb_X9_mile_14, pb_X9_mile_15, pb_X9_mile_16, nl_0_1, nl_0_2, nl_0_3, nl_0_4, nl_0_5, nl_0_6, nl_0_7, nl_0_8, nl_1_0, nl_1_2, nl_1_3, nl_1_4, nl_1_5, nl_1_6, nl_1_7, nl_1_8, nl_2_0, nl_2_1, nl_2_3, nl_2_4, nl_2_5, nl_2_6, nl_2_7, nl_2_8, nl_3_0, nl_3_1, nl_3_2, nl_3_4, nl_3_5, nl_3_6, nl_3_7, nl_3_8, nl_4_0, nl_4_1, nl_4_2, nl_4_3, nl_4_5, nl_4_6, nl_4_7, nl_4_8, nl_5_0, nl_5_1, nl_5_2, nl_5_3, nl_5_4, nl_5_6, nl_5_7, nl_5_8, nl_6_0, nl_6_1, nl_6_2, nl_6_3, nl_6_4, nl_6_5, nl_6_7, nl_6_8, nl_7_0, nl_7_1, nl_7_2, nl_7_3, nl_7_4, nl_7_5, nl_7_6, nl_7_8, nl_8_0, nl_8_1, nl_8_2, nl_8_3, nl_8_4, nl_8_5, nl_8_6, nl_8_7, kd_59, rf_59_0, rf_59_1, rf_59_3, rf_59_4, rf_59_5, rf_59_6, rf_59_7, rf_59_12, rf_59_14, rf_59_15, rf_59_16, rf_59_19, rf_59_23, rf_59_24, rf_59_25, rf_59_26, is_9_59, sr_isMile, sr_isIn, bI_0, qmT, qvF, not_true_eq_false, not_false_eq_true, find_1]
  · have qmF : (0 ≤ m ∧ m ≤ 23) = False := eq_false qm
    refine Pr_e (e := 1) (x := -1000000001) hI (by omega) (by omega) ?_ ?_
    · rw [en_X8_mile]
      simp only [c20, c2i, c2n, c2r, cs8_0, cs8_1, cs8_2, cs8_3, cs8_4, decide_eq_true_eq, ev_ald0, ev_aldn0, ev_cs3, ev_cv1, ev_cv2, ev_cv3, ev_go, ev_gr, ev_i, ev_if0, ev_ild1, ev_ild2, ev_ild3, ev_ild4, ev_is, ev_ist4, ev_ri, ev_v, i00, i01, i10, is_sw, not_false_eq_true, not_true_eq_false, pm_bd_s, pm_tl_n, pm_tl_s, ↓reduceIte, pb_X8_mile_0, pb_X8_mile_1, pb_X8_mile_2, kd_0, rf_0_0, rf_0_1, rf_0_2, rf_0_3, rf_0_4, rf_0_5, rf_0_6, rf_0_7, rf_0_8, is_8_0, kd_1, rf_1_0, rf_1_1, rf_1_2, rf_1_3, rf_1_4, rf_1_5, rf_1_6, is_5_1, kd_3, rf_3_2, fc_3_0, fc_3_1, is_6_3_3, is_3_6_3, kd_76, al_76, kd_77, al_77, sp_isIn, bI_0, qmF, not_false_eq_true, fail_1, F1]
    · rw [en_X9_mile]
      simp only [c20, c2i, c2n, c2r, cs8_0, cs8_1, cs8_2, cs8_3, cs8_4, decide_eq_true_eq, ev_ald0, ev_aldn0, ev_bin, ev_cs1, ev_cs3, ev_cv1, ev_cv2, ev_go, ev_i, ev_if0, ev_ild1, ev_ild2, ev_ild3, ev_ild4, ev_ist4, ev_ri, ev_sw_0, ev_sw_1, i00, i01, i10, not_false_eq_true, not_true_eq_false, pm_bd_s, pm_tl_n, pm_tl_s, ↓reduceIte, pb_X9_mile_0, pb_X9_mile_1, pb_X9_mile_2, pb_X9_mile_3, pb_X9_mile_4, pb_X9_mile_5, pb_X9_mile_6, pb_X9_mile_7, pb_X9_mile_8, pb_X9_mile_9, pb_X9_mile_10, pb_X9_mile_11, pb_X9_mile_12, pb_X9_mile_13, pb_X9_mile_14, pb_X9_mile_15, pb_X9_mile_16, nl_0_1, nl_0_2, nl_0_3, nl_0_4, nl_0_5, nl_0_6, nl_0_7, nl_0_8, nl_1_0, nl_1_2, nl_1_3, nl_1_4, nl_1_5, nl_1_6, nl_1_7, nl_1_8, nl_2_0, nl_2_1, nl_2_3, nl_2_4, nl_2_5, nl_2_6, nl_2_7, nl_2_8, nl_3_0, nl_3_1, nl_3_2, nl_3_4, nl_3_5, nl_3_6, nl_3_7, nl_3_8, nl_4_0, nl_4_1, nl_4_2, nl_4_3, nl_4_5, nl_4_6, nl_4_7, nl_4_8, nl_5_0, nl_5_1, nl_5_2, nl_5_3, nl_5_4, nl_5_6, nl_5_7, nl_5_8, nl_6_0, nl_6_1, nl_6_2, nl_6_3, nl_6_4, nl_6_5, nl_6_7, nl_6_8, nl_7_0, nl_7_1, nl_7_2, nl_7_3, nl_7_4, nl_7_5, nl_7_6, nl_7_8, nl_8_0, nl_8_1, nl_8_2, nl_8_3, nl_8_4, nl_8_5, nl_8_6, nl_8_7, kd_59, rf_59_0, rf_59_1, rf_59_3, rf_59_4, rf_59_5, rf_59_6, rf_59_7, rf_59_12, rf_59_14, rf_59_15, rf_59_16, rf_59_19, rf_59_23, rf_59_24, rf_59_25, rf_59_26, is_9_59, sr_isMile, sr_isIn, bI_0, qmF, not_false_eq_true, find_1]
theorem pr_mile3 (hI : Inv h) (m v : Int32) : Pr fb (d + 100) n_X8_mile n_X9_mile [.int m, .int 3, .int v] h := by
  obtain ⟨⟨n, u, nt, nb, nw, iN⟩, iZ, iM, iS, iT, iB, iW, iX, iY⟩ := id hI.1
  have w1 : (0 ≤ (3 : Int32) ∧ (3 : Int32) ≤ 3) = True := eq_true ⟨by decide, by decide⟩
  have x1 : pm_ix (3 : Int32) 4 = true := by decide
  have s1 : pm_sv 76 (3 : Int32).toNatClampNeg = 0 := by decide
  have s2 : pm_sv 77 (3 : Int32).toNatClampNeg = 1 := by decide
  have F : ∀ q : Prop, q = False → True := fun _ _ => trivial
  by_cases qm : 0 ≤ m ∧ m ≤ 23
  · obtain ⟨i, hi, rfl⟩ := nI_of2 (M := 23) (n := 23) (by decide) (Int32.not_lt.mpr qm.1) qm.2
    have qmT : (0 ≤ nI i ∧ nI i ≤ 23) = True := eq_true qm
    by_cases qv : 0 ≤ v ∧ v ≤ 1
    · have qvT : (0 ≤ v ∧ v ≤ 1) = True := eq_true qv
      have hi24 : i < 24 := by omega
      have e : (8 : Int32) + 5 * nI i + 3 = nI (8 + 5 * i + 3) := by
        show nI 8 + nI 5 * nI i + nI 3 = _
        rw [nI_mul, nI_add, nI_add]
      have hb := fun d h => sr_become (fb := fb) (d := d) (h := h) (c := 8 + 5 * i + 3) (v := v) (by omega)
      refine ⟨mi h 3 i, pm_si h 31 (3 * 24 + i) v, _, ?_, ?_, Inv_mi3 hI hi24 qv⟩
      · rw [en_X8_mile]
        simp only [c20, c2i, c2n, c2r, cs8_0, cs8_1, cs8_2, cs8_3, cs8_4, decide_eq_true_eq, ev_ald0, ev_aldn0, ev_cs3, ev_cv1, ev_cv2, ev_cv3, ev_go, ev_gr, ev_i, ev_if0, ev_ild1, ev_ild2, ev_ild3, ev_ild4, ev_is, ev_ist4, ev_ri, ev_v, i00, i01, i10, is_sw, not_false_eq_true, not_true_eq_false, pm_bd_s, pm_tl_n, pm_tl_s, ↓reduceIte, pb_X8_mile_0, pb_X8_mile_1, pb_X8_mile_2, kd_0, rf_0_0, rf_0_1, rf_0_2, rf_0_3, rf_0_4, rf_0_5, rf_0_6, rf_0_7, rf_0_8, is_8_0, kd_1, rf_1_0, rf_1_1, rf_1_2, rf_1_3, rf_1_4, rf_1_5, rf_1_6, is_5_1, kd_3, rf_3_2, fc_3_0, fc_3_1, is_6_3_3, is_3_6_3, kd_76, al_76, kd_77, al_77, sp_isIn, bI_0, bI_n0, qmT, w1, x1, s1, s2, qvT, at_3_3 hi24, set_3_3 hi24, not_true_eq_false]
      · rw [en_X9_mile]
        simp only [c20, c2i, c2n, c2r, cs8_0, cs8_1, cs8_2, cs8_3, cs8_4, decide_eq_true_eq, ev_ald0, ev_aldn0, ev_bin, ev_cs1, ev_cs3, ev_cv1, ev_cv2, ev_go, ev_i, ev_if0, ev_ild1, ev_ild2, ev_ild3, ev_ild4, ev_ist4, ev_ri, ev_sw_0, ev_sw_1, i00, i01, i10, not_false_eq_true, not_true_eq_false, pm_bd_s, pm_tl_n, pm_tl_s, ↓reduceIte, pb_X9_mile_0, pb_X9_mile_1, pb_X9_mile_2, pb_X9_mile_3, pb_X9_mile_4, pb_X9_mile_5, pb_X9_mile_6, pb_X9_mile_7, pb_X9_mile_8, pb_X9_mile_9, pb_X9_mile_10, pb_X9_mile_11, pb_X9_mile_12, pb_X9_mile_13, pb_X9_mile_14, pb_X9_mile_15, pb_X9_mile_16, nl_0_1, nl_0_2, nl_0_3, nl_0_4, nl_0_5, nl_0_6, nl_0_7, nl_0_8, nl_1_0, nl_1_2, nl_1_3, nl_1_4, nl_1_5, nl_1_6, nl_1_7, nl_1_8, nl_2_0, nl_2_1, nl_2_3, nl_2_4, nl_2_5, nl_2_6, nl_2_7, nl_2_8, nl_3_0, nl_3_1, nl_3_2, nl_3_4, nl_3_5, nl_3_6, nl_3_7, nl_3_8, nl_4_0, nl_4_1, nl_4_2, nl_4_3, nl_4_5, nl_4_6, nl_4_7, nl_4_8, nl_5_0, nl_5_1, nl_5_2, nl_5_3, nl_5_4, nl_5_6, nl_5_7, nl_5_8, nl_6_0, nl_6_1, nl_6_2, nl_6_3, nl_6_4, nl_6_5, nl_6_7, nl_6_8, nl_7_0, nl_7_1, nl_7_2, nl_7_3, nl_7_4, nl_7_5, nl_7_6, nl_7_8, nl_8_0, nl_8_1, nl_8_2, nl_8_3, nl_8_4, nl_8_5, nl_8_6, nl_8_7, kd_59, rf_59_0, rf_59_1, rf_59_3, rf_59_4, rf_59_5, rf_59_6, rf_59_7, rf_59_12, rf_59_14, rf_59_15, rf_59_16, rf_59_19, rf_59_23, rf_59_24, rf_59_25, rf_59_26, is_9_59, sr_isMile, sr_isIn, bI_0, qmT, qvT, e, hb, not_true_eq_false, si_at, Nat.reduceEqDiff, false_and]
        unfold mi
        rw [(iM i hi24).1 3 (by omega)]
    · have qvF : (0 ≤ v ∧ v ≤ 1) = False := eq_false qv
      refine Pr_e (e := 1) (x := -1000000001) hI (by omega) (by omega) ?_ ?_
      · rw [en_X8_mile]
        simp only [c20, c2i, c2n, c2r, cs8_0, cs8_1, cs8_2, cs8_3, cs8_4, decide_eq_true_eq, ev_ald0, ev_aldn0, ev_cs3, ev_cv1, ev_cv2, ev_cv3, ev_go, ev_gr, ev_i, ev_if0, ev_ild1, ev_ild2, ev_ild3, ev_ild4, ev_is, ev_ist4, ev_ri, ev_v, i00, i01, i10, is_sw, not_false_eq_true, not_true_eq_false, pm_bd_s, pm_tl_n, pm_tl_s, ↓reduceIte, pb_X8_mile_0, pb_X8_mile_1, pb_X8_mile_2, kd_0, rf_0_0, rf_0_1, rf_0_2, rf_0_3, rf_0_4, rf_0_5, rf_0_6, rf_0_7, rf_0_8, is_8_0, kd_1, rf_1_0, rf_1_1, rf_1_2, rf_1_3, rf_1_4, rf_1_5, rf_1_6, is_5_1, kd_3, rf_3_2, fc_3_0, fc_3_1, is_6_3_3, is_3_6_3, kd_76, al_76, kd_77, al_77, sp_isIn, bI_0, bI_n0, qmT, w1, x1, s1, s2, qvF, not_true_eq_false, fail_1, F1]
      · rw [en_X9_mile]
        simp only [c20, c2i, c2n, c2r, cs8_0, cs8_1, cs8_2, cs8_3, cs8_4, decide_eq_true_eq, ev_ald0, ev_aldn0, ev_bin, ev_cs1, ev_cs3, ev_cv1, ev_cv2, ev_go, ev_i, ev_if0, ev_ild1, ev_ild2, ev_ild3, ev_ild4, ev_ist4, ev_ri, ev_sw_0, ev_sw_1, i00, i01, i10, not_false_eq_true, not_true_eq_false, pm_bd_s, pm_tl_n, pm_tl_s, ↓reduceIte, pb_X9_mile_0, pb_X9_mile_1, pb_X9_mile_2, pb_X9_mile_3, pb_X9_mile_4, pb_X9_mile_5, pb_X9_mile_6, pb_X9_mile_7, pb_X9_mile_8, pb_X9_mile_9, pb_X9_mile_10, pb_X9_mile_11, pb_X9_mile_12, pb_X9_mile_13, pb_X9_mile_14, pb_X9_mile_15, pb_X9_mile_16, nl_0_1, nl_0_2, nl_0_3, nl_0_4, nl_0_5, nl_0_6, nl_0_7, nl_0_8, nl_1_0, nl_1_2, nl_1_3, nl_1_4, nl_1_5, nl_1_6, nl_1_7, nl_1_8, nl_2_0, nl_2_1, nl_2_3, nl_2_4, nl_2_5, nl_2_6, nl_2_7, nl_2_8, nl_3_0, nl_3_1, nl_3_2, nl_3_4, nl_3_5, nl_3_6, nl_3_7, nl_3_8, nl_4_0, nl_4_1, nl_4_2, nl_4_3, nl_4_5, nl_4_6, nl_4_7, nl_4_8, nl_5_0, nl_5_1, nl_5_2, nl_5_3, nl_5_4, nl_5_6, nl_5_7, nl_5_8, nl_6_0, nl_6_1, nl_6_2, nl_6_3, nl_6_4, nl_6_5, nl_6_7, nl_6_8, nl_7_0, nl_7_1, nl_7_2, nl_7_3, nl_7_4, nl_7_5, nl_7_6, nl_7_8, nl_8_0, nl_8_1, nl_8_2, nl_8_3, nl_8_4, nl_8_5, nl_8_6, nl_8_7, kd_59, rf_59_0, rf_59_1, rf_59_3, rf_59_4, rf_59_5, rf_59_6, rf_59_7, rf_59_12, rf_59_14, rf_59_15, rf_59_16, rf_59_19, rf_59_23, rf_59_24, rf_59_25, rf_59_26, is_9_59, sr_isMile, sr_isIn, bI_0, qmT, qvF, not_true_eq_false, not_false_eq_true, find_1]
  · have qmF : (0 ≤ m ∧ m ≤ 23) = False := eq_false qm
    refine Pr_e (e := 1) (x := -1000000001) hI (by omega) (by omega) ?_ ?_
    · rw [en_X8_mile]
      simp only [c20, c2i, c2n, c2r, cs8_0, cs8_1, cs8_2, cs8_3, cs8_4, decide_eq_true_eq, ev_ald0, ev_aldn0, ev_cs3, ev_cv1, ev_cv2, ev_cv3, ev_go, ev_gr, ev_i, ev_if0, ev_ild1, ev_ild2, ev_ild3, ev_ild4, ev_is, ev_ist4, ev_ri, ev_v, i00, i01, i10, is_sw, not_false_eq_true, not_true_eq_false, pm_bd_s, pm_tl_n, pm_tl_s, ↓reduceIte, pb_X8_mile_0, pb_X8_mile_1, pb_X8_mile_2, kd_0, rf_0_0, rf_0_1, rf_0_2, rf_0_3, rf_0_4, rf_0_5, rf_0_6, rf_0_7, rf_0_8, is_8_0, kd_1, rf_1_0, rf_1_1, rf_1_2, rf_1_3, rf_1_4, rf_1_5, rf_1_6, is_5_1, kd_3, rf_3_2, fc_3_0, fc_3_1, is_6_3_3, is_3_6_3, kd_76, al_76, kd_77, al_77, sp_isIn, bI_0, qmF, not_false_eq_true, fail_1, F1]
    · rw [en_X9_mile]
      simp only [c20, c2i, c2n, c2r, cs8_0, cs8_1, cs8_2, cs8_3, cs8_4, decide_eq_true_eq, ev_ald0, ev_aldn0, ev_bin, ev_cs1, ev_cs3, ev_cv1, ev_cv2, ev_go, ev_i, ev_if0, ev_ild1, ev_ild2, ev_ild3, ev_ild4, ev_ist4, ev_ri, ev_sw_0, ev_sw_1, i00, i01, i10, not_false_eq_true, not_true_eq_false, pm_bd_s, pm_tl_n, pm_tl_s, ↓reduceIte, pb_X9_mile_0, pb_X9_mile_1, pb_X9_mile_2, pb_X9_mile_3, pb_X9_mile_4, pb_X9_mile_5, pb_X9_mile_6, pb_X9_mile_7, pb_X9_mile_8, pb_X9_mile_9, pb_X9_mile_10, pb_X9_mile_11, pb_X9_mile_12, pb_X9_mile_13, pb_X9_mile_14, pb_X9_mile_15, pb_X9_mile_16, nl_0_1, nl_0_2, nl_0_3, nl_0_4, nl_0_5, nl_0_6, nl_0_7, nl_0_8, nl_1_0, nl_1_2, nl_1_3, nl_1_4, nl_1_5, nl_1_6, nl_1_7, nl_1_8, nl_2_0, nl_2_1, nl_2_3, nl_2_4, nl_2_5, nl_2_6, nl_2_7, nl_2_8, nl_3_0, nl_3_1, nl_3_2, nl_3_4, nl_3_5, nl_3_6, nl_3_7, nl_3_8, nl_4_0, nl_4_1, nl_4_2, nl_4_3, nl_4_5, nl_4_6, nl_4_7, nl_4_8, nl_5_0, nl_5_1, nl_5_2, nl_5_3, nl_5_4, nl_5_6, nl_5_7, nl_5_8, nl_6_0, nl_6_1, nl_6_2, nl_6_3, nl_6_4, nl_6_5, nl_6_7, nl_6_8, nl_7_0, nl_7_1, nl_7_2, nl_7_3, nl_7_4, nl_7_5, nl_7_6, nl_7_8, nl_8_0, nl_8_1, nl_8_2, nl_8_3, nl_8_4, nl_8_5, nl_8_6, nl_8_7, kd_59, rf_59_0, rf_59_1, rf_59_3, rf_59_4, rf_59_5, rf_59_6, rf_59_7, rf_59_12, rf_59_14, rf_59_15, rf_59_16, rf_59_19, rf_59_23, rf_59_24, rf_59_25, rf_59_26, is_9_59, sr_isMile, sr_isIn, bI_0, qmF, not_false_eq_true, find_1]
theorem pr_mileN (hI : Inv h) (m w v : Int32) (h0 : ¬ w = 0) (h1 : ¬ w = 1) (h2 : ¬ w = 2) (h3 : ¬ w = 3) : Pr fb (d + 100) n_X8_mile n_X9_mile [.int m, .int w, .int v] h := by
  have w1 : (0 ≤ w ∧ w ≤ 3) = False := by
    refine eq_false (fun q => ?_)
    obtain ⟨j, hj, rfl⟩ := nI_of2 (M := 3) (n := 3) (by decide) (Int32.not_lt.mpr q.1) q.2
    rcases (show j = 0 ∨ j = 1 ∨ j = 2 ∨ j = 3 by omega) with rfl | rfl | rfl | rfl
    · exact h0 rfl
    · exact h1 rfl
    · exact h2 rfl
    · exact h3 rfl
  refine Pr_e (e := 1) (x := -1000000001) hI (by omega) (by omega) ?_ ?_
  · rw [en_X8_mile]
    by_cases qm : 0 ≤ m ∧ m ≤ 23
    · simp only [c20, c2i, c2n, c2r, cs8_0, cs8_1, cs8_2, cs8_3, cs8_4, decide_eq_true_eq, ev_ald0, ev_aldn0, ev_cs3, ev_cv1, ev_cv2, ev_cv3, ev_go, ev_gr, ev_i, ev_if0, ev_ild1, ev_ild2, ev_ild3, ev_ild4, ev_is, ev_ist4, ev_ri, ev_v, i00, i01, i10, is_sw, not_false_eq_true, not_true_eq_false, pm_bd_s, pm_tl_n, pm_tl_s, ↓reduceIte, pb_X8_mile_0, pb_X8_mile_1, pb_X8_mile_2, kd_0, rf_0_0, rf_0_1, rf_0_2, rf_0_3, rf_0_4, rf_0_5, rf_0_6, rf_0_7, rf_0_8, is_8_0, kd_1, rf_1_0, rf_1_1, rf_1_2, rf_1_3, rf_1_4, rf_1_5, rf_1_6, is_5_1, kd_3, rf_3_2, fc_3_0, fc_3_1, is_6_3_3, is_3_6_3, kd_76, al_76, kd_77, al_77, sp_isIn, bI_0, eq_true qm, w1, not_true_eq_false, not_false_eq_true, fail_1, F1]
    · simp only [c20, c2i, c2n, c2r, cs8_0, cs8_1, cs8_2, cs8_3, cs8_4, decide_eq_true_eq, ev_ald0, ev_aldn0, ev_cs3, ev_cv1, ev_cv2, ev_cv3, ev_go, ev_gr, ev_i, ev_if0, ev_ild1, ev_ild2, ev_ild3, ev_ild4, ev_is, ev_ist4, ev_ri, ev_v, i00, i01, i10, is_sw, not_false_eq_true, not_true_eq_false, pm_bd_s, pm_tl_n, pm_tl_s, ↓reduceIte, pb_X8_mile_0, pb_X8_mile_1, pb_X8_mile_2, kd_0, rf_0_0, rf_0_1, rf_0_2, rf_0_3, rf_0_4, rf_0_5, rf_0_6, rf_0_7, rf_0_8, is_8_0, kd_1, rf_1_0, rf_1_1, rf_1_2, rf_1_3, rf_1_4, rf_1_5, rf_1_6, is_5_1, kd_3, rf_3_2, fc_3_0, fc_3_1, is_6_3_3, is_3_6_3, kd_76, al_76, kd_77, al_77, sp_isIn, bI_0, eq_false qm, not_false_eq_true, fail_1, F1]
  · rw [en_X9_mile]
    simp only [c20, c2i, c2n, c2r, cs8_0, cs8_1, cs8_2, cs8_3, cs8_4, decide_eq_true_eq, ev_ald0, ev_aldn0, ev_bin, ev_cs1, ev_cs3, ev_cv1, ev_cv2, ev_go, ev_i, ev_if0, ev_ild1, ev_ild2, ev_ild3, ev_ild4, ev_ist4, ev_ri, ev_sw_0, ev_sw_1, i00, i01, i10, not_false_eq_true, not_true_eq_false, pm_bd_s, pm_tl_n, pm_tl_s, ↓reduceIte, pb_X9_mile_0, pb_X9_mile_1, pb_X9_mile_2, pb_X9_mile_3, pb_X9_mile_4, pb_X9_mile_5, pb_X9_mile_6, pb_X9_mile_7, pb_X9_mile_8, pb_X9_mile_9, pb_X9_mile_10, pb_X9_mile_11, pb_X9_mile_12, pb_X9_mile_13, pb_X9_mile_14, pb_X9_mile_15, pb_X9_mile_16, kd_59, rf_59_0, rf_59_1, rf_59_3, rf_59_4, rf_59_5, rf_59_6, rf_59_7, rf_59_12, rf_59_14, rf_59_15, rf_59_16, rf_59_19, rf_59_23, rf_59_24, rf_59_25, rf_59_26, is_9_59, sr_isMile, sr_isIn, h0, h1, h2, h3, find_1]
theorem pr_mile (hI : Inv h) (m w v : Int32) : Pr fb (d + 100) n_X8_mile n_X9_mile [.int m, .int w, .int v] h := by
  by_cases h0 : w = 0
  · subst h0; exact pr_mile0 hI m v
  by_cases h1 : w = 1
  · subst h1; exact pr_mile1 hI m v
  by_cases h2 : w = 2
  · subst h2; exact pr_mile2 hI m v
  by_cases h3 : w = 3
  · subst h3; exact pr_mile3 hI m v
  exact pr_mileN hI m w v h0 h1 h2 h3
end P2
