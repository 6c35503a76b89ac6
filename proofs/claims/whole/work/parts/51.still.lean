/-! PAIRS OF CALLS: still, body, check -/
theorem Inv_all {h h' : pm_HP} (hI : Inv h) (hf : ∀ a, a ∉ nowC → ¬ (a = 52 ∨ a = 53 ∨ a = 63 ∨ a = 64) → ¬ (a = 59 ∨ a = 22 ∨ a = 47 ∨ a = 71) → h'.1 a = h.1 a) (h59 : h'.1 59 2 = h.1 59 2) (hv : RV h') (h0 : R0 h') (hs : SR h' 1 3 31 60) : Inv h' := by
  obtain ⟨i1, i2, i3, i4, i5, i6⟩ := hI
  have E : ∀ a : Nat, (a = 0 ∨ a = 2 ∨ (10 ≤ a ∧ a < 17) ∨ a = 23 ∨ a = 24 ∨ a = 25 ∨ a = 26 ∨ a = 28 ∨ (38 ≤ a ∧ a < 45) ∨ (48 ≤ a ∧ a < 52) ∨ a = 61 ∨ a = 62 ∨ a = 72 ∨ a = 73 ∨ a = 74) → h'.1 a = h.1 a := by
    intro a ha
    refine hf a ?_ (by omega) (by omega)
    simp only [nowC, scr, List.cons_append, List.nil_append, List.mem_cons, List.not_mem_nil, or_false]
    omega
  refine ⟨hs, ?_, ?_, hv, ?_, h0⟩
  · unfold RI
    rw [E 0 (by omega), h59]
    refine ⟨i2.1, i2.2.imp id (fun q => SR_eq q (E _ (by omega)) (E _ (by omega)) (fun k hk => E _ (by omega)) (fun k hk => E _ (by omega)))⟩
  · unfold RE
    rw [E 28 (by omega), E 62 (by omega)]
    exact i3
  · intro k hk
    obtain ⟨z, g1, g2, g3, g4, g5, g6⟩ := i5 k hk
    refine ⟨z, g1, ?_, ?_, ?_, ?_, ?_⟩
    · rw [E (23 + k) (by omega)]; exact g2
    · rw [E 73 (by omega)]; exact g3
    · rw [E (23 + k) (by omega), E 72 (by omega)]; exact g4
    · rw [E 72 (by omega)]; exact g5
    · intro i hi
      rw [E (48 + k) (by omega), E 74 (by omega)]; exact g6 i hi
def stC (h : pm_HP) (i : Nat) : pm_HP := (fun a b => if a = 31 ∧ 4 * 24 ≤ b ∧ b < 4 * 24 + i then 0 else h.1 a b, h.2)
def stR (h : pm_HP) (i : Nat) : pm_HP := (fun a b => if a = 60 ∧ 8 ≤ b ∧ b < 8 + 5 * i ∧ b % 5 = 2 then 0 else h.1 a b, h.2)
theorem stC_at (h : pm_HP) (i a b : Nat) : (stC h i).1 a b = if a = 31 ∧ 4 * 24 ≤ b ∧ b < 4 * 24 + i then 0 else h.1 a b := rfl
theorem stR_at (h : pm_HP) (i a b : Nat) : (stR h i).1 a b = if a = 60 ∧ 8 ≤ b ∧ b < 8 + 5 * i ∧ b % 5 = 2 then 0 else h.1 a b := rfl
theorem stC_0 (h : pm_HP) : stC h 0 = h := by
  unfold stC
  congr 1
  funext a b
  rw [if_neg (by omega)]
theorem stR_0 (h : pm_HP) : stR h 0 = h := by
  unfold stR
  congr 1
  funext a b
  rw [if_neg (by omega)]
theorem stC_s (h : pm_HP) (i : Nat) : pm_si (stC h i) 31 (4 * 24 + i) 0 = stC h (i + 1) := by
  unfold stC pm_si
  congr 1
  funext a b
  dsimp only
  by_cases q : a = 31 ∧ b = 4 * 24 + i
  · rw [if_pos q, if_pos ⟨q.1, by omega, by omega⟩]
  · rw [if_neg q]
    by_cases q2 : a = 31 ∧ 4 * 24 ≤ b ∧ b < 4 * 24 + i
    · rw [if_pos q2, if_pos ⟨q2.1, by omega, by omega⟩]
    · rw [if_neg q2, if_neg (by omega)]
theorem stR_s (h : pm_HP) (i : Nat) : pm_si (stR h i) 60 (8 + 5 * i + 4) 0 = stR h (i + 1) := by
  unfold stR pm_si
  congr 1
  funext a b
  dsimp only
  by_cases q : a = 60 ∧ b = 8 + 5 * i + 4
  · rw [if_pos q, if_pos ⟨q.1, by omega, by omega, by omega⟩]
  · rw [if_neg q]
    by_cases q2 : a = 60 ∧ 8 ≤ b ∧ b < 8 + 5 * i ∧ b % 5 = 2
    · rw [if_pos q2, if_pos ⟨q2.1, by omega, by omega, by omega⟩]
    · rw [if_neg q2, if_neg (by omega)]
def nzB (h : pm_HP) (i : Nat) : Bool := decide (¬ rm h 4 i = 0)
theorem Inv_still {h : pm_HP} (hI : Inv h) : Inv (stR (stC h 24) 24) := by
  obtain ⟨⟨n, u, nt, nb, nw, iN⟩, iZ, iM, iS, iT, iB, iW, iX, iY⟩ := hI.1
  have V : ∀ a b, (stR (stC h 24) 24).1 a b = if a = 60 ∧ 8 ≤ b ∧ b < 8 + 5 * 24 ∧ b % 5 = 2 then 0 else if a = 31 ∧ 4 * 24 ≤ b ∧ b < 4 * 24 + 24 then 0 else h.1 a b := fun _ _ => rfl
  have E : ∀ a, ¬ a = 31 → ¬ a = 60 → (stR (stC h 24) 24).1 a = h.1 a := by
    intro a h1 h2
    funext b
    rw [V, if_neg (by omega), if_neg (by omega)]
  have B : ∀ j, (j < 8 ∨ 128 ≤ j) → (stR (stC h 24) 24).1 60 j = h.1 60 j := by
    intro j hj
    rw [V, if_neg (by omega), if_neg (by omega)]
  refine Inv_now hI (fun a h1 h2 => E a (fun q => h1 (by subst q; decide)) (fun q => h1 (by subst q; decide))) ?_ ⟨⟨n, u, nt, nb, nw, RN_t iN (fun k hk => by rw [E _ (by omega) (by omega)]) (fun j hj => B j (by omega))⟩, RZ_t iZ (by rw [E 1 (by omega) (by omega)]; exact ⟨rfl, rfl, rfl⟩) (fun j h1 h2 => B j (by omega)), ?_, RS_t iS (E _ (by omega) (by omega)) (fun j h1 h2 => B j (by omega)), RT_t iT (E _ (by omega) (by omega)) (fun j h1 h2 => B j (by omega)), RB_t iB (E _ (by omega) (by omega)) (fun j h1 h2 => B j (by omega)), RW_t iW (E _ (by omega) (by omega)) (fun j h1 h2 => B j (by omega)), RX_t iX (by rw [E _ (by omega) (by omega)]) (E _ (by omega) (by omega)) (fun j h1 h2 => B j (by omega)), RX_t iY (by rw [E _ (by omega) (by omega)]) (E _ (by omega) (by omega)) (fun j h1 h2 => B j (by omega))⟩
  · unfold R0
    rw [E 52 (by omega) (by omega), E 53 (by omega) (by omega), E 63 (by omega) (by omega), E 64 (by omega) (by omega)]
    exact hI.2.2.2.2.2
  · intro i hi
    obtain ⟨g1, g2, g3, g4, g5, g6⟩ := iM i hi
    have N : ∀ c, c < 4 → (stR (stC h 24) 24).1 60 (8 + 5 * i + c) = h.1 60 (8 + 5 * i + c) := fun c hc => by rw [V, if_neg (by omega), if_neg (by omega)]
    have Z : (stR (stC h 24) 24).1 60 (8 + 5 * i + 4) = 0 := by rw [V, if_pos ⟨rfl, by omega, by omega, by omega⟩]
    refine ⟨fun c hc => ?_, ?_, ?_, ?_, ?_, ?_⟩
    · by_cases q : c = 4
      · subst q
        rw [Z, V, if_neg (by omega), if_pos ⟨rfl, by omega, by omega⟩]
      · rw [N c (by omega), V, if_neg (by omega), if_neg (by omega)]
        exact g1 c hc
    · rw [N 0 (by omega)]; exact g2
    · rw [N 1 (by omega)]; exact g3
    · rw [N 2 (by omega)]; exact g4
    · rw [N 3 (by omega)]; exact g5
    · rw [Z]; exact ⟨by decide, by decide⟩
section PL
variable {fb : Bool} {d : Nat} {h : pm_HP}
set_option maxRecDepth 100000 in
theorem lp_stillC (iM : RM h 31 60) : ∀ (k i : Nat) (a : Int32), i + k = 24 → pm_ev P_X8_still (rs fb (d + 2)) (P_X8_still 1) [some (.ref 0), some (.int a), some (.int (nI i))] [] (stC h i) = some (some (.int (smA (nzB h) (fun _ => 1) i k a)), stC h 24) := by
  intro k
  induction k with
  | zero =>
    intro i a hi
    have e1 : (24 : Int32) ≤ nI i := nI_le (a := 24) (by omega) (by omega)
    rw [pb_X8_still_1]
    simp only [c20, c2i, c2n, c2r, cs8_0, cs8_1, cs8_2, cs8_3, cs8_4, decide_eq_true_eq, ev_ald0, ev_aldn0, ev_cv2, ev_cv3, ev_go, ev_gr, ev_i, ev_if0, ev_if2, ev_ild1, ev_ild2, ev_inc1, ev_inc2, ev_ist1, ev_ist2, ev_ri, i00, i01, i10, is_sw, not_false_eq_true, not_true_eq_false, pm_bd_s, pm_tl_n, pm_tl_s, ↓reduceIte, pb_X8_still_3, kd_0, rf_0_0, rf_0_1, rf_0_2, rf_0_3, rf_0_4, rf_0_5, rf_0_6, rf_0_7, rf_0_8, is_8_0, e1, smA]
    rw [show i = 24 by omega]
  | succ k ih =>
    intro i a hi
    have e1 : ¬ (24 : Int32) ≤ nI i := nI_ge (b := 24) (by omega) (by omega)
    have em : mi (stC h i) 4 i = rm h 4 i := by
      rw [← eq_mi iM (by omega) (by omega)]
      show (stC h i).1 31 (4 * 24 + i) = _
      rw [stC_at, if_neg (by omega)]
      rfl
    have a1 := at_3_4 (fb := fb) (d := d) (h := stC h i) (s := i) (by omega)
    rw [em] at a1
    have a2 := set_3_4 (fb := fb) (d := d) (h := stC h i) (s := i) (v := 0) (by omega)
    rw [stC_s] at a2
    rw [pb_X8_still_1, smA]
    by_cases q : rm h 4 i = 0
    · have e : nzB h i = false := by unfold nzB; simp [q]
      simp only [c20, c2i, c2n, c2r, cs8_0, cs8_1, cs8_2, cs8_3, cs8_4, decide_eq_true_eq, ev_ald0, ev_aldn0, ev_cv2, ev_cv3, ev_go, ev_gr, ev_i, ev_if0, ev_if2, ev_ild1, ev_ild2, ev_inc1, ev_inc2, ev_ist1, ev_ist2, ev_ri, i00, i01, i10, is_sw, not_false_eq_true, not_true_eq_false, pm_bd_s, pm_tl_n, pm_tl_s, ↓reduceIte, pb_X8_still_2, kd_0, rf_0_0, rf_0_1, rf_0_2, rf_0_3, rf_0_4, rf_0_5, rf_0_6, rf_0_7, rf_0_8, is_8_0, kd_1, rf_1_0, rf_1_1, rf_1_2, rf_1_3, rf_1_4, rf_1_5, rf_1_6, is_5_1, kd_3, rf_3_2, fc_3_0, fc_3_1, is_6_3_3, is_3_6_3, e1, a1, a2, nI_1, q, e, Bool.false_eq_true, if_true, if_false]
      exact ih (i + 1) a (by omega)
    · have e : nzB h i = true := by unfold nzB; simp [q]
      simp only [c20, c2i, c2n, c2r, cs8_0, cs8_1, cs8_2, cs8_3, cs8_4, decide_eq_true_eq, ev_ald0, ev_aldn0, ev_cv2, ev_cv3, ev_go, ev_gr, ev_i, ev_if0, ev_if2, ev_ild1, ev_ild2, ev_inc1, ev_inc2, ev_ist1, ev_ist2, ev_ri, i00, i01, i10, is_sw, not_false_eq_true, not_true_eq_false, pm_bd_s, pm_tl_n, pm_tl_s, ↓reduceIte, pb_X8_still_2, kd_0, rf_0_0, rf_0_1, rf_0_2, rf_0_3, rf_0_4, rf_0_5, rf_0_6, rf_0_7, rf_0_8, is_8_0, kd_1, rf_1_0, rf_1_1, rf_1_2, rf_1_3, rf_1_4, rf_1_5, rf_1_6, is_5_1, kd_3, rf_3_2, fc_3_0, fc_3_1, is_6_3_3, is_3_6_3, e1, a1, a2, nI_1, q, e, Bool.false_eq_true, if_true, if_false]
      exact ih (i + 1) (a + 1) (by omega)
set_option maxRecDepth 100000 in
theorem lp_stillR {h0 : pm_HP} (hr : h.1 60 = h0.1 60) : ∀ (k i : Nat) (a : Int32), i + k = 24 → pm_ev P_X9_still (rs fb (d + 2)) (P_X9_still 1) [some (.ref 59), some (.int a), some (.int (nI i))] [] (stR h i) = some (some (.int (smA (nzB h0) (fun _ => 1) i k a)), stR h 24) := by
  intro k
  induction k with
  | zero =>
    intro i a hi
    have e1 : (24 : Int32) ≤ nI i := nI_le (a := 24) (by omega) (by omega)
    rw [pb_X9_still_1]
    simp only [c20, c2i, c2n, c2r, cs8_0, cs8_1, cs8_2, cs8_3, cs8_4, decide_eq_true_eq, ev_ald0, ev_aldn0, ev_bin, ev_cv2, ev_go, ev_i, ev_if0, ev_if2, ev_ild1, ev_ild2, ev_inc2, ev_ist1, ev_ist2, ev_ri, i00, i01, i10, not_false_eq_true, not_true_eq_false, pm_bd_s, pm_tl_n, pm_tl_s, ↓reduceIte, pb_X9_still_4, kd_59, rf_59_0, rf_59_1, rf_59_3, rf_59_4, rf_59_5, rf_59_6, rf_59_7, rf_59_12, rf_59_14, rf_59_15, rf_59_16, rf_59_19, rf_59_23, rf_59_24, rf_59_25, rf_59_26, is_9_59, e1, smA]
    rw [show i = 24 by omega]
  | succ k ih =>
    intro i a hi
    have e1 : ¬ (24 : Int32) ≤ nI i := nI_ge (b := 24) (by omega) (by omega)
    have e : (8 : Int32) + 5 * nI i + 4 = nI (8 + 5 * i + 4) := by
      show nI 8 + nI 5 * nI i + nI 4 = _
      rw [nI_mul, nI_add, nI_add]
    have em : (stR h i).1 60 (8 + 5 * i + 4) = rm h0 4 i := by
      rw [stR_at, if_neg (by omega), hr]
      rfl
    have a1 := sr_become (fb := fb) (d := d + 1) (h := stR h i) (c := 8 + 5 * i + 4) (v := 0) (by omega)
    rw [em, stR_s] at a1
    rw [pb_X9_still_1, smA]
    by_cases q : rm h0 4 i = 0
    · have e' : nzB h0 i = false := by unfold nzB; simp [q]
      simp only [c20, c2i, c2n, c2r, cs8_0, cs8_1, cs8_2, cs8_3, cs8_4, decide_eq_true_eq, ev_ald0, ev_aldn0, ev_bin, ev_cv2, ev_go, ev_i, ev_if0, ev_if2, ev_ild1, ev_ild2, ev_inc2, ev_ist1, ev_ist2, ev_ri, i00, i01, i10, not_false_eq_true, not_true_eq_false, pm_bd_s, pm_tl_n, pm_tl_s, ↓reduceIte, pb_X9_still_2, pb_X9_still_3, kd_59, rf_59_0, rf_59_1, rf_59_3, rf_59_4, rf_59_5, rf_59_6, rf_59_7, rf_59_12, rf_59_14, rf_59_15, rf_59_16, rf_59_19, rf_59_23, rf_59_24, rf_59_25, rf_59_26, is_9_59, e1, e, a1, nI_1, q, e', Bool.false_eq_true, not_true_eq_false, if_true, if_false, add0]
      exact ih (i + 1) a (by omega)
    · have e' : nzB h0 i = true := by unfold nzB; simp [q]
      simp only [c20, c2i, c2n, c2r, cs8_0, cs8_1, cs8_2, cs8_3, cs8_4, decide_eq_true_eq, ev_ald0, ev_aldn0, ev_bin, ev_cv2, ev_go, ev_i, ev_if0, ev_if2, ev_ild1, ev_ild2, ev_inc2, ev_ist1, ev_ist2, ev_ri, i00, i01, i10, not_false_eq_true, not_true_eq_false, pm_bd_s, pm_tl_n, pm_tl_s, ↓reduceIte, pb_X9_still_2, pb_X9_still_3, kd_59, rf_59_0, rf_59_1, rf_59_3, rf_59_4, rf_59_5, rf_59_6, rf_59_7, rf_59_12, rf_59_14, rf_59_15, rf_59_16, rf_59_19, rf_59_23, rf_59_24, rf_59_25, rf_59_26, is_9_59, e1, e, a1, nI_1, q, e', Bool.false_eq_true, not_false_eq_true, if_true, if_false]
      exact ih (i + 1) (a + 1) (by omega)
theorem pr_still (hI : Inv h) : Pr fb (d + 100) n_X8_still n_X9_still [] h := by
  have iM := hI.1.2.2.1
  refine ⟨smA (nzB h) (fun _ => 1) 0 24 0, stC h 24, stR (stC h 24) 24, ?_, ?_, Inv_still hI⟩
  · have e := lp_stillC (fb := fb) (d := d + 97) iM 24 0 0 (by omega)
    rw [nI_0, stC_0] at e
    rw [en_X8_still]
    simp only [c20, c2i, c2n, c2r, cs8_0, cs8_1, cs8_2, cs8_3, cs8_4, decide_eq_true_eq, ev_ald0, ev_aldn0, ev_cv2, ev_cv3, ev_go, ev_gr, ev_i, ev_if0, ev_if2, ev_ild1, ev_ild2, ev_inc1, ev_inc2, ev_ist1, ev_ist2, ev_ri, i00, i01, i10, is_sw, not_false_eq_true, not_true_eq_false, pm_bd_s, pm_tl_n, pm_tl_s, ↓reduceIte, pb_X8_still_0, kd_0, rf_0_0, rf_0_1, rf_0_2, rf_0_3, rf_0_4, rf_0_5, rf_0_6, rf_0_7, rf_0_8, is_8_0]
    exact e
  · have e := lp_stillR (fb := fb) (d := d + 97) (h := stC h 24) (h0 := h) (by funext b; rw [stC_at, if_neg (by omega)]) 24 0 0 (by omega)
    rw [nI_0, stR_0] at e
    rw [en_X9_still]
    simp only [c20, c2i, c2n, c2r, cs8_0, cs8_1, cs8_2, cs8_3, cs8_4, decide_eq_true_eq, ev_ald0, ev_aldn0, ev_bin, ev_cv2, ev_go, ev_i, ev_if0, ev_if2, ev_ild1, ev_ild2, ev_inc2, ev_ist1, ev_ist2, ev_ri, i00, i01, i10, not_false_eq_true, not_true_eq_false, pm_bd_s, pm_tl_n, pm_tl_s, ↓reduceIte, pb_X9_still_0, kd_59, rf_59_0, rf_59_1, rf_59_3, rf_59_4, rf_59_5, rf_59_6, rf_59_7, rf_59_12, rf_59_14, rf_59_15, rf_59_16, rf_59_19, rf_59_23, rf_59_24, rf_59_25, rf_59_26, is_9_59]
    exact e
theorem has_22 {u : Nat} {v : Int32} (hu : h.1 22 3 = nI u) (hu2 : u ≤ 60) : rs fb (d + 2) n_X6_has [.ref 22, .int v] h = some (some (.int (bI (0 ≤ v ∧ v < nI u))), h) := sp_has (by decide) hu hu2
theorem isIn_z' {z : Nat} (hz : z ≤ 1000) (i : Int32) : (0 ≤ i ∧ i ≤ nI z - 1) = (0 ≤ i ∧ i < nI z) := by
  have e1 := nI_toInt (show z < 2 ^ 31 by omega)
  have e2 : (nI z - 1).toInt = (z : Int) - 1 := by
    rw [Int32.toInt_sub, e1]
    show ((z : Int) - 1).bmod (2 ^ 32) = _
    rw [Int.bmod_eq_of_le] <;> omega
  rw [Int32.le_iff_toInt_le (x := i), Int32.lt_iff_toInt_lt (x := i), e1, e2]
  exact propext ⟨fun ⟨g1, g2⟩ => ⟨g1, by omega⟩, fun ⟨g1, g2⟩ => ⟨g1, by omega⟩⟩
theorem pr_body (hI : Inv h) (x : Int32) : Pr fb (d + 100) n_X8_body n_X9_body_ [.int x] h := by
  obtain ⟨v, hv, v1, v2, v3⟩ := hI.2.2.2.1
  by_cases q : 0 ≤ x ∧ x < nI v
  · obtain ⟨s, hs, rfl⟩ := i_lt (by omega) q
    have xs : pm_ix (nI s) 30 = true := pm_ix_n (by omega) (by omega)
    have cs := nI_clamp (show s < 2 ^ 31 by omega)
    refine ⟨h.1 71 s, h, h, ?_, ?_, hI⟩
    · have a := at_22_0 (fb := fb) (d := d + 97) (h := h) (s := s) (by omega)
      have ea : tc h s = h.1 71 s := v3 s hs
      rw [ea] at a
      rw [en_X8_body]
      simp only [cs8_0, cs8_1, cs8_2, cs8_3, cs8_4, decide_eq_true_eq, ev_ald0, ev_aldn0, ev_cv1, ev_cv2, ev_go, ev_gr, ev_i, ev_if0, ev_ild1, ev_ri, i00, i01, i10, is_sw, not_false_eq_true, not_true_eq_false, pm_bd_s, pm_tl_n, pm_tl_s, ↓reduceIte, pb_X8_body_0, pb_X8_body_1, pb_X8_body_2, kd_0, rf_0_0, rf_0_1, rf_0_2, rf_0_3, rf_0_4, rf_0_5, rf_0_6, rf_0_7, rf_0_8, is_8_0, kd_19, rf_19_0, is_4_19, kd_22, rf_22_2, fc_22_0, fc_22_1, is_6_3_22, is_3_6_22, has_22 v1 (show v ≤ 60 by omega), bI_0, bI_n0, eq_true q, not_true_eq_false, if_true, if_false, a]
    · rw [en_X9_body_]
      simp only [cs8_0, cs8_1, cs8_2, cs8_3, cs8_4, decide_eq_true_eq, ev_ald0, ev_aldn0, ev_bin, ev_cs3, ev_cv1, ev_gi, ev_go, ev_gr, ev_i, ev_ia, ev_if0, ev_ild1, ev_ri, i00, i01, i10, not_false_eq_true, not_true_eq_false, pm_bd_s, pm_tl_n, pm_tl_s, ↓reduceIte, pb_X9_body__0, pb_X9_body__1, pb_X9_body__2, kd_59, rf_59_0, rf_59_1, rf_59_3, rf_59_4, rf_59_5, rf_59_6, rf_59_7, rf_59_12, rf_59_14, rf_59_15, rf_59_16, rf_59_19, rf_59_23, rf_59_24, rf_59_25, rf_59_26, is_9_59, kd_71, al_71, v2, sr_isIn, isIn_z' (show v ≤ 1000 by omega), bI_0, bI_n0, eq_true q, not_true_eq_false, if_true, if_false, xs, cs]
  · refine Pr_e (e := 2) (x := -1000000002) hI (by omega) (by omega) ?_ ?_
    · rw [en_X8_body]
      simp only [cs8_0, cs8_1, cs8_2, cs8_3, cs8_4, decide_eq_true_eq, ev_ald0, ev_aldn0, ev_cv1, ev_cv2, ev_go, ev_gr, ev_i, ev_if0, ev_ild1, ev_ri, i00, i01, i10, is_sw, not_false_eq_true, not_true_eq_false, pm_bd_s, pm_tl_n, pm_tl_s, ↓reduceIte, pb_X8_body_0, pb_X8_body_1, pb_X8_body_2, kd_0, rf_0_0, rf_0_1, rf_0_2, rf_0_3, rf_0_4, rf_0_5, rf_0_6, rf_0_7, rf_0_8, is_8_0, kd_19, rf_19_0, is_4_19, kd_22, rf_22_2, fc_22_0, fc_22_1, is_6_3_22, is_3_6_22, has_22 v1 (show v ≤ 60 by omega), bI_0, bI_n0, eq_false q, not_false_eq_true, if_true, if_false, fail_2, F2]
    · have v2' : (pm_si h 28 2 (h.1 28 2 + 1)).1 59 20 = nI v := v2
      rw [en_X9_body_]
      simp only [cs8_0, cs8_1, cs8_2, cs8_3, cs8_4, decide_eq_true_eq, ev_ald0, ev_aldn0, ev_bin, ev_cs3, ev_cv1, ev_gi, ev_go, ev_gr, ev_i, ev_ia, ev_if0, ev_ild1, ev_ri, i00, i01, i10, not_false_eq_true, not_true_eq_false, pm_bd_s, pm_tl_n, pm_tl_s, ↓reduceIte, pb_X9_body__0, pb_X9_body__1, pb_X9_body__2, kd_59, rf_59_0, rf_59_1, rf_59_3, rf_59_4, rf_59_5, rf_59_6, rf_59_7, rf_59_12, rf_59_14, rf_59_15, rf_59_16, rf_59_19, rf_59_23, rf_59_24, rf_59_25, rf_59_26, is_9_59, v2', sr_isIn, isIn_z' (show v ≤ 1000 by omega), bI_0, bI_n0, eq_false q, not_false_eq_true, if_true, if_false, find_2]
/-- the first number that waits and isn't so -/
def ckA (W S : Nat → Int32) (w n : Nat) : Nat → Nat → Int32
  | i, 0 => if w = n then 0 else 1 + nI i
  | i, k + 1 => if W i = S (i + 1) then ckA W S w n (i + 1) k else 1 + nI i
set_option maxRecDepth 100000 in
theorem lp_checkC {n w : Nat} {W S : Nat → Int32} (h7 : h.1 17 7 = nI n) (hn : n ≤ 24) (hw : w ≤ 24) (hS : ∀ j, j ≤ n → h.1 52 j = S j) (hW : ∀ j, j < 24 → wt h j = W j) : ∀ (k i : Nat), i + k = min w n → pm_ev P_X8_check (rs fb (d + 2)) (P_X8_check 1) [some (.ref 0), some (.int (nI w)), some (.int (nI n)), some (.int (nI i))] [] h = some (some (.int (ckA W S w n i k)), h) := by
  intro k
  induction k with
  | zero =>
    intro i hi
    rw [pb_X8_check_1, ckA]
    by_cases q : w = n
    · subst q
      have e1 : nI w ≤ nI i := nI_le (by omega) (by omega)
      simp only [c20, c2i, c2n, c2r, cs8_0, cs8_1, cs8_2, cs8_3, cs8_4, decide_eq_true_eq, ev_ald0, ev_aldn0, ev_bin, ev_cv0, ev_cv1, ev_cv2, ev_go, ev_gr, ev_i, ev_if2, ev_ild1, ev_ild2, ev_ild3, ev_inc3, ev_ist1, ev_ist2, ev_ist3, ev_m2, ev_ri, i00, i01, i10, is_sw, not_false_eq_true, not_true_eq_false, pm_bd_s, pm_tl_n, pm_tl_s, ↓reduceIte, pb_X8_check_3, pb_X8_check_4, pb_X8_check_5, e1, not_true_eq_false, if_true, if_false]
    · have nq : (nI w = nI n) = False := eq_false (fun c => q ((nI_eq (by omega) (by omega)).mp c))
      rcases Nat.lt_or_ge w n with c | c
      · have e1 : nI w ≤ nI i := nI_le (by omega) (by omega)
        have e2 : ¬ nI n < nI w := nI_nlt (by omega) (by omega)
        obtain rfl : i = w := by omega
        simp only [c20, c2i, c2n, c2r, cs8_0, cs8_1, cs8_2, cs8_3, cs8_4, decide_eq_true_eq, ev_ald0, ev_aldn0, ev_bin, ev_cv0, ev_cv1, ev_cv2, ev_go, ev_gr, ev_i, ev_if2, ev_ild1, ev_ild2, ev_ild3, ev_inc3, ev_ist1, ev_ist2, ev_ist3, ev_m2, ev_ri, i00, i01, i10, is_sw, not_false_eq_true, not_true_eq_false, pm_bd_s, pm_tl_n, pm_tl_s, ↓reduceIte, pb_X8_check_3, pb_X8_check_4, pb_X8_check_5, e1, e2, nq, q, not_false_eq_true, if_true, if_false]
      · have e1 : ¬ nI w ≤ nI i := nI_ge (by omega) (by omega)
        have e3 : nI n ≤ nI i := nI_le (by omega) (by omega)
        have e2 : nI n < nI w := nI_lt (by omega) (by omega)
        obtain rfl : i = n := by omega
        simp only [c20, c2i, c2n, c2r, cs8_0, cs8_1, cs8_2, cs8_3, cs8_4, decide_eq_true_eq, ev_ald0, ev_aldn0, ev_bin, ev_cv0, ev_cv1, ev_cv2, ev_go, ev_gr, ev_i, ev_if2, ev_ild1, ev_ild2, ev_ild3, ev_inc3, ev_ist1, ev_ist2, ev_ist3, ev_m2, ev_ri, i00, i01, i10, is_sw, not_false_eq_true, not_true_eq_false, pm_bd_s, pm_tl_n, pm_tl_s, ↓reduceIte, pb_X8_check_3, pb_X8_check_4, pb_X8_check_5, e1, e2, e3, nq, q, not_false_eq_true, if_true, if_false]
  | succ k ih =>
    intro i hi
    have e1 : ¬ nI w ≤ nI i := nI_ge (by omega) (by omega)
    have e2 : ¬ nI n ≤ nI i := nI_ge (by omega) (by omega)
    have a1 := at_7_0 (fb := fb) (d := d) (h := h) (s := i) (by omega)
    rw [hW i (by omega)] at a1
    have s1 := sp_sideOf (fb := fb) (d := d) (h := h) (j := i + 1) h7 hn (by omega)
    rw [hS (i + 1) (by omega)] at s1
    rw [pb_X8_check_1, ckA]
    by_cases q : W i = S (i + 1)
    · simp only [c20, c2i, c2n, c2r, cs8_0, cs8_1, cs8_2, cs8_3, cs8_4, decide_eq_true_eq, ev_ald0, ev_aldn0, ev_bin, ev_cv0, ev_cv1, ev_cv2, ev_go, ev_gr, ev_i, ev_if2, ev_ild1, ev_ild2, ev_ild3, ev_inc3, ev_ist1, ev_ist2, ev_ist3, ev_m2, ev_ri, i00, i01, i10, is_sw, not_false_eq_true, not_true_eq_false, pm_bd_s, pm_tl_n, pm_tl_s, ↓reduceIte, pb_X8_check_2, kd_0, rf_0_0, rf_0_1, rf_0_2, rf_0_3, rf_0_4, rf_0_5, rf_0_6, rf_0_7, rf_0_8, is_8_0, kd_1, rf_1_0, rf_1_1, rf_1_2, rf_1_3, rf_1_4, rf_1_5, rf_1_6, is_5_1, kd_7, rf_7_2, fc_7_0, fc_7_1, is_6_3_7, is_3_6_7, kd_17, rf_17_0, rf_17_1, rf_17_2, rf_17_3, rf_17_4, rf_17_5, rf_17_6, is_7_17, e1, e2, a1, nI_1, s1, q, if_true, if_false]
      exact ih (i + 1) (by omega)
    · simp only [c20, c2i, c2n, c2r, cs8_0, cs8_1, cs8_2, cs8_3, cs8_4, decide_eq_true_eq, ev_ald0, ev_aldn0, ev_bin, ev_cv0, ev_cv1, ev_cv2, ev_go, ev_gr, ev_i, ev_if2, ev_ild1, ev_ild2, ev_ild3, ev_inc3, ev_ist1, ev_ist2, ev_ist3, ev_m2, ev_ri, i00, i01, i10, is_sw, not_false_eq_true, not_true_eq_false, pm_bd_s, pm_tl_n, pm_tl_s, ↓reduceIte, pb_X8_check_2, kd_0, rf_0_0, rf_0_1, rf_0_2, rf_0_3, rf_0_4, rf_0_5, rf_0_6, rf_0_7, rf_0_8, is_8_0, kd_1, rf_1_0, rf_1_1, rf_1_2, rf_1_3, rf_1_4, rf_1_5, rf_1_6, is_5_1, kd_7, rf_7_2, fc_7_0, fc_7_1, is_6_3_7, is_3_6_7, kd_17, rf_17_0, rf_17_1, rf_17_2, rf_17_3, rf_17_4, rf_17_5, rf_17_6, is_7_17, e1, e2, a1, nI_1, s1, q, if_true, if_false]
set_option maxRecDepth 100000 in
theorem lp_checkR {n w : Nat} {W S : Nat → Int32} (hn0 : h.1 60 0 = nI n) (hn : n ≤ 24) (hw : w ≤ 24) (hS : ∀ j, j ≤ n → h.1 63 j = S j) (hW : ∀ j, j < 24 → h.1 60 (292 + j) = W j) : ∀ (k i : Nat), i + k = min w n → pm_ev P_X9_check (rs fb (d + 2)) (P_X9_check 1) [some (.ref 59), some (.int (nI w)), some (.int (nI i))] [] h = some (some (.int (ckA W S w n i k)), h) := by
  have ix0 : pm_ix (0 : Int32) 440 = true := by decide
  have cl0 : (0 : Int32).toNatClampNeg = 0 := by decide
  intro k
  induction k with
  | zero =>
    intro i hi
    rw [pb_X9_check_1, ckA]
    by_cases q : w = n
    · subst q
      obtain rfl : i = w := by omega
      have e1 : nI i ≤ nI i := Int32.le_refl _
      simp only [c20, c2i, c2n, c2r, cs8_0, cs8_1, cs8_2, cs8_3, cs8_4, decide_eq_true_eq, ev_ald0, ev_aldn0, ev_bin, ev_cv0, ev_go, ev_gr, ev_i, ev_ia, ev_ias, ev_if2, ev_ild1, ev_ild2, ev_inc2, ev_ist1, ev_ist2, ev_ri, i00, i01, i10, not_false_eq_true, not_true_eq_false, pm_bd_s, pm_tl_n, pm_tl_s, ↓reduceIte, pb_X9_check_2, pb_X9_check_3, pb_X9_check_4, kd_59, rf_59_0, rf_59_1, rf_59_3, rf_59_4, rf_59_5, rf_59_6, rf_59_7, rf_59_12, rf_59_14, rf_59_15, rf_59_16, rf_59_19, rf_59_23, rf_59_24, rf_59_25, rf_59_26, is_9_59, kd_60, al_60, ix0, cl0, hn0, e1, not_true_eq_false, if_true, if_false]
    · rcases Nat.lt_or_ge w n with c | c
      · obtain rfl : i = w := by omega
        have e1 : nI i ≤ nI i := Int32.le_refl _
        have nq : (nI i = nI n) = False := eq_false (fun c => q ((nI_eq (by omega) (by omega)).mp c))
        simp only [c20, c2i, c2n, c2r, cs8_0, cs8_1, cs8_2, cs8_3, cs8_4, decide_eq_true_eq, ev_ald0, ev_aldn0, ev_bin, ev_cv0, ev_go, ev_gr, ev_i, ev_ia, ev_ias, ev_if2, ev_ild1, ev_ild2, ev_inc2, ev_ist1, ev_ist2, ev_ri, i00, i01, i10, not_false_eq_true, not_true_eq_false, pm_bd_s, pm_tl_n, pm_tl_s, ↓reduceIte, pb_X9_check_2, pb_X9_check_3, pb_X9_check_4, kd_59, rf_59_0, rf_59_1, rf_59_3, rf_59_4, rf_59_5, rf_59_6, rf_59_7, rf_59_12, rf_59_14, rf_59_15, rf_59_16, rf_59_19, rf_59_23, rf_59_24, rf_59_25, rf_59_26, is_9_59, kd_60, al_60, ix0, cl0, hn0, e1, nq, q, not_true_eq_false, not_false_eq_true, if_true, if_false]
      · obtain rfl : i = n := by omega
        have e1 : ¬ nI w ≤ nI i := nI_ge (by omega) (by omega)
        have e3 : nI i ≤ nI i := Int32.le_refl _
        have nq : (nI i = nI w) = False := eq_false (fun c => q ((nI_eq (by omega) (by omega)).mp c).symm)
        simp only [c20, c2i, c2n, c2r, cs8_0, cs8_1, cs8_2, cs8_3, cs8_4, decide_eq_true_eq, ev_ald0, ev_aldn0, ev_bin, ev_cv0, ev_go, ev_gr, ev_i, ev_ia, ev_ias, ev_if2, ev_ild1, ev_ild2, ev_inc2, ev_ist1, ev_ist2, ev_ri, i00, i01, i10, not_false_eq_true, not_true_eq_false, pm_bd_s, pm_tl_n, pm_tl_s, ↓reduceIte, pb_X9_check_2, pb_X9_check_3, pb_X9_check_4, kd_59, rf_59_0, rf_59_1, rf_59_3, rf_59_4, rf_59_5, rf_59_6, rf_59_7, rf_59_12, rf_59_14, rf_59_15, rf_59_16, rf_59_19, rf_59_23, rf_59_24, rf_59_25, rf_59_26, is_9_59, kd_60, al_60, ix0, cl0, hn0, e1, e3, nq, q, not_true_eq_false, not_false_eq_true, if_true, if_false]
  | succ k ih =>
    intro i hi
    have e1 : ¬ nI w ≤ nI i := nI_ge (by omega) (by omega)
    have e2 : ¬ nI n ≤ nI i := nI_ge (by omega) (by omega)
    have e3 : (nI i = nI w) = False := eq_false (fun c => absurd ((nI_eq (by omega) (by omega)).mp c) (by omega))
    have e : (292 : Int32) + nI i = nI (292 + i) := nI_add 292 i
    have x1 : pm_ix (nI (292 + i)) 440 = true := pm_ix_n (by omega) (by omega)
    have c1 := nI_clamp (show 292 + i < 2 ^ 31 by omega)
    have x2 : pm_ix (nI (i + 1)) 25 = true := pm_ix_n (by omega) (by omega)
    have c2 := nI_clamp (show i + 1 < 2 ^ 31 by omega)
    have s1 := hS (i + 1) (by omega)
    have s2 := hW i (by omega)
    have ec : (1 : Int32) + nI i = nI i + 1 := Int32.add_comm _ _
    rw [pb_X9_check_1, ckA]
    by_cases q : W i = S (i + 1)
    · simp only [c20, c2i, c2n, c2r, cs8_0, cs8_1, cs8_2, cs8_3, cs8_4, decide_eq_true_eq, ev_ald0, ev_aldn0, ev_bin, ev_cv0, ev_go, ev_gr, ev_i, ev_ia, ev_ias, ev_if2, ev_ild1, ev_ild2, ev_inc2, ev_ist1, ev_ist2, ev_ri, i00, i01, i10, not_false_eq_true, not_true_eq_false, pm_bd_s, pm_tl_n, pm_tl_s, ↓reduceIte, pb_X9_check_2, kd_59, rf_59_0, rf_59_1, rf_59_3, rf_59_4, rf_59_5, rf_59_6, rf_59_7, rf_59_12, rf_59_14, rf_59_15, rf_59_16, rf_59_19, rf_59_23, rf_59_24, rf_59_25, rf_59_26, is_9_59, kd_60, al_60, kd_63, al_63, ix0, cl0, hn0, e1, e2, e, x1, c1, x2, c2, nI_1, s1, s2, q, not_true_eq_false, if_true, if_false]
      exact ih (i + 1) (by omega)
    · simp only [c20, c2i, c2n, c2r, cs8_0, cs8_1, cs8_2, cs8_3, cs8_4, decide_eq_true_eq, ev_ald0, ev_aldn0, ev_bin, ev_cv0, ev_go, ev_gr, ev_i, ev_ia, ev_ias, ev_if2, ev_ild1, ev_ild2, ev_inc2, ev_ist1, ev_ist2, ev_ri, i00, i01, i10, not_false_eq_true, not_true_eq_false, pm_bd_s, pm_tl_n, pm_tl_s, ↓reduceIte, pb_X9_check_2, pb_X9_check_3, pb_X9_check_4, kd_59, rf_59_0, rf_59_1, rf_59_3, rf_59_4, rf_59_5, rf_59_6, rf_59_7, rf_59_12, rf_59_14, rf_59_15, rf_59_16, rf_59_19, rf_59_23, rf_59_24, rf_59_25, rf_59_26, is_9_59, kd_60, al_60, kd_63, al_63, ix0, cl0, hn0, e1, e2, e3, e, x1, c1, x2, c2, nI_1, s1, s2, q, not_false_eq_true, if_true, if_false, ec]
theorem RN_w0 {n u nt nb nw : Nat} (iN : RN h 3 60 n u nt nb nw) : RN (pm_si (pm_si h 7 3 0) 60 4 0) 3 60 n u nt nb 0 := by
  unfold RN at iN ⊢
  simp only [si_at, Nat.reduceEqDiff, Nat.reduceAdd, false_and, and_false, and_self, ↓reduceIte]
  exact ⟨iN.1, iN.2.1, iN.2.2.1, iN.2.2.2.1, rfl, rfl, by omega⟩
theorem Inv_w0 (hI : Inv h) : Inv (pm_si (pm_si h 7 3 0) 60 4 0) := by
  obtain ⟨⟨n, u, nt, nb, nw, iN⟩, iZ, iM, iS, iT, iB, iW, iX, iY⟩ := hI.1
  refine Inv_now hI (now_si (now_si (fun _ _ _ => rfl) (by decide)) (by decide)) (R0_si (R0_si hI.2.2.2.2.2 (by omega)) (by omega)) ⟨⟨n, u, nt, nb, 0, RN_w0 iN⟩, RZ_t iZ ⟨(by simp only [si_at, Nat.reduceEqDiff, false_and, true_and, ↓reduceIte]; repeat (rw [if_neg (by omega)])), (by simp only [si_at, Nat.reduceEqDiff, false_and, true_and, ↓reduceIte]; repeat (rw [if_neg (by omega)])), (by simp only [si_at, Nat.reduceEqDiff, false_and, true_and, ↓reduceIte]; repeat (rw [if_neg (by omega)]))⟩ (fun j _ _ => (by simp only [si_at, Nat.reduceEqDiff, false_and, true_and, ↓reduceIte]; repeat (rw [if_neg (by omega)]))), RM_t iM (by funext b; simp only [si_at, Nat.reduceEqDiff, false_and, ↓reduceIte]) (fun j _ _ => (by simp only [si_at, Nat.reduceEqDiff, false_and, true_and, ↓reduceIte]; repeat (rw [if_neg (by omega)]))), RS_t iS (by funext b; simp only [si_at, Nat.reduceEqDiff, false_and, ↓reduceIte]) (fun j _ _ => (by simp only [si_at, Nat.reduceEqDiff, false_and, true_and, ↓reduceIte]; repeat (rw [if_neg (by omega)]))), RT_t iT (by funext b; simp only [si_at, Nat.reduceEqDiff, false_and, ↓reduceIte]) (fun j _ _ => (by simp only [si_at, Nat.reduceEqDiff, false_and, true_and, ↓reduceIte]; repeat (rw [if_neg (by omega)]))), RB_t iB (by funext b; simp only [si_at, Nat.reduceEqDiff, false_and, ↓reduceIte]) (fun j _ _ => (by simp only [si_at, Nat.reduceEqDiff, false_and, true_and, ↓reduceIte]; repeat (rw [if_neg (by omega)]))), RW_t iW (by funext b; simp only [si_at, Nat.reduceEqDiff, false_and, ↓reduceIte]) (fun j _ _ => (by simp only [si_at, Nat.reduceEqDiff, false_and, true_and, ↓reduceIte]; repeat (rw [if_neg (by omega)]))), RX_t iX (by simp only [si_at, Nat.reduceEqDiff, false_and, true_and, ↓reduceIte]; repeat (rw [if_neg (by omega)])) (by funext b; simp only [si_at, Nat.reduceEqDiff, false_and, ↓reduceIte]) (fun j _ _ => (by simp only [si_at, Nat.reduceEqDiff, false_and, true_and, ↓reduceIte]; repeat (rw [if_neg (by omega)]))), RX_t iY (by simp only [si_at, Nat.reduceEqDiff, false_and, true_and, ↓reduceIte]; repeat (rw [if_neg (by omega)])) (by funext b; simp only [si_at, Nat.reduceEqDiff, false_and, ↓reduceIte]) (fun j _ _ => (by simp only [si_at, Nat.reduceEqDiff, false_and, true_and, ↓reduceIte]; repeat (rw [if_neg (by omega)])))⟩
theorem ln_eq {h h' : pm_HP} (u : Nat) (hr : rm h' = rm h) (hl : rl h' = rl h) : SDf h' u = SDf h u ∧ ALf h' u = ALf h u ∧ TNf h' u = TNf h u := by
  have e1 : rLe h' u = rLe h u := by funext i; unfold rLe; rw [hl]
  have e2 : rPu h' u = rPu h u := by funext i; unfold rPu; rw [hl, hr]
  have e3 : rSh h' u = rSh h u := by funext i; unfold rSh; rw [hl, hr]
  unfold SDf ALf TNf
  rw [hr, e1, e2, e3]
  exact ⟨rfl, rfl, rfl⟩
theorem pr_check (hI : Inv h) : Pr fb (d + 100) n_X8_check n_X9_check [] h := by
  obtain ⟨⟨n, u, nt, nb, nw, iN⟩, iZ, iM, iS, iT, iB, iW, iX, iY⟩ := id hI.1
  have hn := iN.1.2.2.2
  have hw := iN.2.2.2.2.2.2
  obtain ⟨h1, r1, g1⟩ := go_c (fb := fb) (d := d) hI iN
  have hw7 : h1.1 7 3 = nI nw := by rw [g1.1.1 7 (by decide)]; exact iN.2.2.2.2.1
  have hn3 : h1.1 3 3 = nI n := by rw [g1.1.1 3 (by decide)]; exact iN.1.1
  have us := sp_use (fb := fb) (d := d + 97) (t := 7) (n := 0) (h := h1) (by decide) (Nat.zero_le _)
  rw [nI_0] at us
  have I' := Inv_w0 hI
  have f1 : frm wkC (pm_si (pm_si h 7 3 0) 60 4 0) (pm_si (pm_si h1 7 3 0) 60 4 0) := ⟨fun a ha => by funext b; rw [si_at, si_at, si_at, si_at, g1.1.1 a ha], g1.1.2⟩
  have z := Gn_0 g1
  have z3 : h1.1 63 0 = 0 := by rw [g1.1.1 63 (by decide)]; exact hI.2.2.2.2.2.2.2.1
  have z4 : h1.1 64 0 = 0 := by rw [g1.1.1 64 (by decide)]; exact hI.2.2.2.2.2.2.2.2
  have I1 : Inv (pm_si (pm_si h1 7 3 0) 60 4 0) := Inv_frm I' f1 (by decide) (R0_si (R0_si ⟨z.1, z.2, z3, z4⟩ (by omega)) (by omega))
  obtain ⟨h2, r2, g2⟩ := go_r (fb := fb) (d := d) (h := pm_si (pm_si h 7 3 0) 60 4 0) (h1 := pm_si (pm_si h1 7 3 0) 60 4 0) I' (RN_w0 iN) (f1.1 60 (by decide)) z3 z4
  have er : rm (pm_si (pm_si h 7 3 0) 60 4 0) = rm h := by
    funext c i
    unfold rm
    rw [si_ne _ _ (by omega), si_ne _ _ (by omega)]
  have el : rl (pm_si (pm_si h 7 3 0) 60 4 0) = rl h := by
    funext c i
    unfold rl
    rw [si_ne _ _ (by omega), si_ne _ _ (by omega)]
  have eS := (ln_eq u er el).1
  refine ⟨ckA (fun j => h.1 60 (292 + j)) (SDf h u) nw n 0 (min nw n), pm_si h1 7 3 0, h2, ?_, ?_, Inv_gr I1 g2⟩
  · have e := lp_checkC (fb := fb) (d := d + 97) (h := pm_si h1 7 3 0) (n := n) (w := nw) (W := fun j => h.1 60 (292 + j)) (S := SDf h u) g1.2.1 hn hw (fun j hj => (g1.2.2.2.2.1 j hj).1) (fun j hj => by
      show h1.1 35 j = _
      rw [g1.1.1 35 (by decide)]
      exact iW j hj) (min nw n) 0 (by omega)
    rw [nI_0] at e
    rw [en_X8_check]
    simp only [c20, c2i, c2n, c2r, cs8_0, cs8_1, cs8_2, cs8_3, cs8_4, decide_eq_true_eq, ev_ald0, ev_aldn0, ev_bin, ev_cv0, ev_cv1, ev_cv2, ev_go, ev_gr, ev_i, ev_if2, ev_ild1, ev_ild2, ev_ild3, ev_inc3, ev_ist1, ev_ist2, ev_ist3, ev_m2, ev_ri, i00, i01, i10, is_sw, not_false_eq_true, not_true_eq_false, pm_bd_s, pm_tl_n, pm_tl_s, ↓reduceIte, pb_X8_check_0, kd_0, rf_0_0, rf_0_1, rf_0_2, rf_0_3, rf_0_4, rf_0_5, rf_0_6, rf_0_7, rf_0_8, is_8_0, kd_1, rf_1_0, rf_1_1, rf_1_2, rf_1_3, rf_1_4, rf_1_5, rf_1_6, is_5_1, kd_3, rf_3_2, fc_3_0, fc_3_1, is_6_3_3, is_3_6_3, kd_7, rf_7_2, fc_7_0, fc_7_1, is_6_3_7, is_3_6_7, kd_17, rf_17_0, rf_17_1, rf_17_2, rf_17_3, rf_17_4, rf_17_5, rf_17_6, is_7_17, r1, sp_used, hw7, hn3, us]
    exact e
  · have hn0 : h2.1 60 0 = nI n := by
      rw [g2.1.1 60 (by decide)]
      show (pm_si (pm_si h1 7 3 0) 60 4 0).1 60 0 = _
      rw [si_ne _ _ (by omega), si_ne _ _ (by omega), g1.1.1 60 (by decide)]
      exact iN.1.2.1
    have e := lp_checkR (fb := fb) (d := d + 97) (h := h2) (n := n) (w := nw) (W := fun j => h.1 60 (292 + j)) (S := SDf h u) hn0 hn hw (fun j hj => by rw [(g2.2.1 j hj).1, eS]) (fun j hj => by
      rw [g2.1.1 60 (by decide)]
      show (pm_si (pm_si h1 7 3 0) 60 4 0).1 60 (292 + j) = _
      rw [si_ne _ _ (by omega), si_ne _ _ (by omega), g1.1.1 60 (by decide)]) (min nw n) 0 (by omega)
    rw [nI_0] at e
    have ix4 : pm_ix (4 : Int32) 440 = true := by decide
    have cl4 : (4 : Int32).toNatClampNeg = 4 := by decide
    have w4 : (pm_si h1 7 3 0).1 60 4 = nI nw := by
      rw [si_ne _ _ (by omega), g1.1.1 60 (by decide)]
      exact iN.2.2.2.2.2.1
    rw [en_X9_check]
    simp only [c20, c2i, c2n, c2r, cs8_0, cs8_1, cs8_2, cs8_3, cs8_4, decide_eq_true_eq, ev_ald0, ev_aldn0, ev_bin, ev_cv0, ev_go, ev_gr, ev_i, ev_ia, ev_ias, ev_if2, ev_ild1, ev_ild2, ev_inc2, ev_ist1, ev_ist2, ev_ri, i00, i01, i10, not_false_eq_true, not_true_eq_false, pm_bd_s, pm_tl_n, pm_tl_s, ↓reduceIte, pb_X9_check_0, kd_59, rf_59_0, rf_59_1, rf_59_3, rf_59_4, rf_59_5, rf_59_6, rf_59_7, rf_59_12, rf_59_14, rf_59_15, rf_59_16, rf_59_19, rf_59_23, rf_59_24, rf_59_25, rf_59_26, is_9_59, kd_60, al_60, ix4, cl4, w4, if_true, r2]
    exact e
end PL
