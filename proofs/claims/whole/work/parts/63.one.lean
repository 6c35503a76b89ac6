/-! TEXTS ARE READ: numbers, names, ! and ( ) -/
def nnF (use : Nat) : Nat := if use = 0 then 5 else 4
def PO (hc hr : pm_HP) (nn nb a o k q : Nat) : Prop := (∃ a' k', PS hc hr nn a' o k' (q + 1) ∧ a < a' ∧ a' ≤ nb ∧ k' + a ≤ a' + k) ∨ PZ hc hr nb
def RdL (fb : Bool) (mc mr e nb use o : Nat) (b : Nat → Int32) : Prop := ∀ (dc dr a k q : Nat) (hc hr : pm_HP), e ≤ dc → e ≤ dr → PXc hc nb use b → PXr hr nb use b → PS hc hr (nnF use) a o k q → k ≤ a → a ≤ nb → ∃ hc' hr', rs fb dc mc [.ref 18] hc = some (none, hc') ∧ rs fb dr mr [.ref 59] hr = some (none, hr') ∧ FPc hc hc' ∧ FPr hr hr' ∧ PO hc' hr' (nnF use) nb a o k q
theorem si_comm (h : pm_HP) {a k a' k' : Nat} {v w : Int32} (hn : ¬ (a = a' ∧ k = k')) : pm_si (pm_si h a k v) a' k' w = pm_si (pm_si h a' k' w) a k v := by
  unfold pm_si
  congr 1
  funext x y
  dsimp only
  by_cases q : x = a ∧ y = k
  · rw [if_neg (fun t => hn ⟨q.1.symm.trans t.1, q.2.symm.trans t.2⟩), if_pos q, if_pos q]
  · rw [if_neg q, if_neg q]
theorem nm_b : ∀ u, u < 2 → ∀ c, c < 256 → nmF u (nI c) = -1 ∨ (0 ≤ nmF u (nI c) ∧ nmF u (nI c) < nI (nnF u)) := by decide +kernel
theorem nm_33 : ∀ u, u < 2 → nmF u 33 = -1 ∧ nmF u 40 = -1 := by decide +kernel
theorem cod_lt {x : Int32} (h : x < 20000) : cod x = x := by
  unfold cod
  rw [if_pos h]
section ON
variable {fb : Bool} {d : Nat} {nb use : Nat} {b : Nat → Int32}
set_option maxRecDepth 100000 in
theorem lp_num {c : Int32} {nn o k q : Nat} (B : PBk nb use b) (hk : k < 60) : ∀ (m j a w dc dr : Nat) (hc hr : pm_HP), j + m = 4 → PXc hc nb use b → PXr hr nb use b → PS hc hr nn a o k q → a ≤ nb → w < 10 ^ j → ∃ hc' hr' a' w', pm_ev P_X1_readNumber (rs fb (dc + 4)) (P_X1_readNumber 1) [some (.ref 18), some (.int (nI w)), some (.int (nI j))] [] hc = some (none, adC hc' k (nI w')) ∧ pm_ev P_X9_one (rs fb (dr + 4)) (P_X9_one 9) [some (.ref 59), some (.int c), some (.int (nI w)), some (.int (nI j))] [] hr = some (none, adR hr' k (nI w')) ∧ PS hc' hr' nn a' o k q ∧ a ≤ a' ∧ a' ≤ nb ∧ w' < 10000 ∧ FPc hc hc' ∧ FPr hr hr' ∧ (1 ≤ m → (48 ≤ nxF b nb a ∧ nxF b nb a ≤ 57) → a < a') := by
  intro m
  induction m with
  | zero =>
    intro j a w dc dr hc hr hj Xc Xr P ha hw
    obtain rfl : j = 4 := by omega
    have e1 : (4 : Int32) ≤ nI 4 := Int32.le_refl _
    refine ⟨hc, hr, a, w, ?_, ?_, P, Nat.le_refl _, ha, hw, FPc.rf _, FPr.rf _, fun t => absurd t (by omega)⟩
    · rw [pb_X1_readNumber_1]
      simp only [c20, c2i, c2n, c2r, cs8_0, cs8_1, cs8_2, cs8_3, cs8_4, decide_eq_true_eq, ev_ald0, ev_aldn0, ev_bin, ev_cs1, ev_cv0, ev_cv1, ev_dup_i, ev_dup_r, ev_gi, ev_go, ev_gr, ev_i, ev_if0, ev_if2, ev_ild1, ev_ild2, ev_inc2, ev_ist1, ev_ist2, ev_pi, ev_rv, i00, i01, i10, not_false_eq_true, not_true_eq_false, pm_bd_s, pm_tl_n, pm_tl_s, ↓reduceIte, pb_X1_readNumber_2, kd_18, rf_18_0, rf_18_1, is_1_18, kd_20, rf_20_0, is_0_20, e1, add_20 P.2.2.2.2.2.2.1 hk, if_true]
    · rw [pb_X9_one_9]
      simp only [c20, c2i, c2n, c2r, cs8_0, cs8_1, cs8_2, cs8_3, cs8_4, decide_eq_true_eq, ev_ald0, ev_aldn0, ev_bin, ev_cs3, ev_cv0, ev_cv1, ev_dup_i, ev_dup_r, ev_gi, ev_go, ev_i, ev_if0, ev_if2, ev_ild1, ev_ild2, ev_ild3, ev_inc3, ev_ist1, ev_ist2, ev_ist3, ev_pi, ev_pz, ev_rv, i00, i01, i10, not_false_eq_true, not_true_eq_false, pm_bd_s, pm_tl_n, pm_tl_s, ↓reduceIte, pb_X9_one_10, pb_X9_one_17, kd_59, rf_59_0, rf_59_1, rf_59_3, rf_59_4, rf_59_5, rf_59_6, rf_59_7, rf_59_12, rf_59_14, rf_59_15, rf_59_16, rf_59_19, rf_59_23, rf_59_24, rf_59_25, rf_59_26, is_9_59, e1, sr_codes P.2.2.2.2.2.1 P.2.2.2.2.2.2.2.1 hk, if_true]
  | succ m ih =>
    intro j a w dc dr hc hr hj Xc Xr P ha hw
    have e1 : ¬ (4 : Int32) ≤ nI j := nI_ge (b := 4) (by omega) (by omega)
    obtain ⟨p1, p2, p3, p4, p5, p6, p7, p8, p9, p10⟩ := id P
    by_cases dg : 48 ≤ nxF b nb a ∧ nxF b nb a ≤ 57
    · have dgT := eq_true dg
      rcases nx_c (a := a) B with ⟨x1, x2⟩ | ⟨c', c1, cx, c3⟩
      · rw [x1] at dg
        exact absurd dg.1 (by decide)
      · rw [cx] at dg dgT
        have g1 : 48 ≤ c' := (nI_leI (a := 48) (by omega) (by omega)).mp dg.1
        have g2 : c' ≤ 57 := (nI_leI (b := 57) (by omega) (by omega)).mp dg.2
        have ev : (10 : Int32) * nI w + nI c' - 48 = nI (10 * w + (c' - 48)) := by
          show nI 10 * nI w + nI c' - nI 48 = _
          rw [nI_mul, nI_add, sub_n (by omega), show 10 * w + c' - 48 = 10 * w + (c' - 48) by omega]
        have hw' : 10 * w + (c' - 48) < 10 ^ (j + 1) := by
          rw [Nat.pow_succ]
          omega
        obtain ⟨hc', hr', a', w', t1, t2, t3, t4, t5, t6, t7, t8, t9⟩ := ih (j + 1) (a + 1) (10 * w + (c' - 48)) dc dr (pm_si hc 18 3 (nI (a + 1))) (pm_si hr 59 8 (nI (a + 1))) (by omega) (PXc_t Xc (FPc_18 (by omega))) (PXr_t Xr (FPr_59 (by omega))) (PS_at P) (by omega) hw'
        refine ⟨hc', hr', a', w', ?_, ?_, t3, by omega, t5, t6, (FPc_18 (by omega)).tr t7, (FPr_59 (by omega)).tr t8, fun _ _ => by omega⟩
        · rw [pb_X1_readNumber_1]
          simp only [c20, c2i, c2n, c2r, cs8_0, cs8_1, cs8_2, cs8_3, cs8_4, decide_eq_true_eq, ev_ald0, ev_aldn0, ev_bin, ev_cs1, ev_cv0, ev_cv1, ev_dup_i, ev_dup_r, ev_gi, ev_go, ev_gr, ev_i, ev_if0, ev_if2, ev_ild1, ev_ild2, ev_inc2, ev_ist1, ev_ist2, ev_pi, ev_rv, i00, i01, i10, not_false_eq_true, not_true_eq_false, pm_bd_s, pm_tl_n, pm_tl_s, ↓reduceIte, kd_18, rf_18_0, rf_18_1, is_1_18, kd_20, rf_20_0, is_0_20, e1, sp_next B Xc p1 ha, cx, sp_isDigit, bI_0, dgT, ev, p1, nI_1, not_true_eq_false, if_true, if_false]
          exact t1
        · rw [pb_X9_one_9]
          simp only [c20, c2i, c2n, c2r, cs8_0, cs8_1, cs8_2, cs8_3, cs8_4, decide_eq_true_eq, ev_ald0, ev_aldn0, ev_bin, ev_cs3, ev_cv0, ev_cv1, ev_dup_i, ev_dup_r, ev_gi, ev_go, ev_i, ev_if0, ev_if2, ev_ild1, ev_ild2, ev_ild3, ev_inc3, ev_ist1, ev_ist2, ev_ist3, ev_pi, ev_pz, ev_rv, i00, i01, i10, not_false_eq_true, not_true_eq_false, pm_bd_s, pm_tl_n, pm_tl_s, ↓reduceIte, kd_59, rf_59_0, rf_59_1, rf_59_3, rf_59_4, rf_59_5, rf_59_6, rf_59_7, rf_59_12, rf_59_14, rf_59_15, rf_59_16, rf_59_19, rf_59_23, rf_59_24, rf_59_25, rf_59_26, is_9_59, e1, sr_here B Xr p2 ha p6, cx, sr_isIn, bI_0, dgT, ev, p2, nI_1, not_true_eq_false, if_true, if_false]
          exact t2
    · have dgF := eq_false dg
      have w4 : w < 10000 := Nat.lt_of_lt_of_le hw (by
        have : 10 ^ j ≤ 10 ^ 4 := Nat.pow_le_pow_right (by omega) (by omega)
        exact this)
      refine ⟨hc, hr, a, w, ?_, ?_, P, Nat.le_refl _, ha, w4, FPc.rf _, FPr.rf _, fun _ t => absurd t dg⟩
      · rw [pb_X1_readNumber_1]
        simp only [c20, c2i, c2n, c2r, cs8_0, cs8_1, cs8_2, cs8_3, cs8_4, decide_eq_true_eq, ev_ald0, ev_aldn0, ev_bin, ev_cs1, ev_cv0, ev_cv1, ev_dup_i, ev_dup_r, ev_gi, ev_go, ev_gr, ev_i, ev_if0, ev_if2, ev_ild1, ev_ild2, ev_inc2, ev_ist1, ev_ist2, ev_pi, ev_rv, i00, i01, i10, not_false_eq_true, not_true_eq_false, pm_bd_s, pm_tl_n, pm_tl_s, ↓reduceIte, pb_X1_readNumber_2, kd_18, rf_18_0, rf_18_1, is_1_18, kd_20, rf_20_0, is_0_20, e1, sp_next B Xc p1 ha, sp_isDigit, bI_0, dgF, not_false_eq_true, add_20 p7 hk, if_true, if_false]
      · rw [pb_X9_one_9]
        simp only [c20, c2i, c2n, c2r, cs8_0, cs8_1, cs8_2, cs8_3, cs8_4, decide_eq_true_eq, ev_ald0, ev_aldn0, ev_bin, ev_cs3, ev_cv0, ev_cv1, ev_dup_i, ev_dup_r, ev_gi, ev_go, ev_i, ev_if0, ev_if2, ev_ild1, ev_ild2, ev_ild3, ev_inc3, ev_ist1, ev_ist2, ev_ist3, ev_pi, ev_pz, ev_rv, i00, i01, i10, not_false_eq_true, not_true_eq_false, pm_bd_s, pm_tl_n, pm_tl_s, ↓reduceIte, pb_X9_one_10, pb_X9_one_17, kd_59, rf_59_0, rf_59_1, rf_59_3, rf_59_4, rf_59_5, rf_59_6, rf_59_7, rf_59_12, rf_59_14, rf_59_15, rf_59_16, rf_59_19, rf_59_23, rf_59_24, rf_59_25, rf_59_26, is_9_59, e1, sr_here B Xr p2 ha p6, sr_isIn, bI_0, dgF, not_false_eq_true, sr_codes p6 p8 hk, if_true, if_false]
theorem dp_num {w nn q : Nat} (hw : w < 10000) : dpS nn (nI w) q = some (q + 1) := by
  unfold dpS
  rw [if_pos (Or.inl ⟨nI_pos' (by omega), nI_lt (b := 10000) hw (by omega)⟩)]
theorem dp_name {j nn q : Nat} (hj : j < nn) (hn : nn ≤ 5) : dpS nn (nI (10000 + j)) q = some (q + 1) := by
  unfold dpS
  have e : (10000 : Int32) + nI nn = nI (10000 + nn) := nI_add 10000 nn
  rw [e, if_pos (Or.inr ⟨nI_le (a := 10000) (by omega) (by omega), nI_lt (by omega) (by omega)⟩)]
theorem dp_not {nn q : Nat} (hn : nn ≤ 5) (hq : 1 ≤ q) : dpS nn 20033 q = some q := by
  unfold dpS
  have e : (10000 : Int32) + nI nn = nI (10000 + nn) := nI_add 10000 nn
  rw [e, if_neg (by
    rintro (t | t)
    · exact absurd t.2 (by decide)
    · exact absurd t.2 (Int32.not_lt.mpr (nI_le (b := 20033) (by omega) (by omega)))), if_pos rfl, if_pos hq]
theorem nn_5 (use : Nat) : nnF use ≤ 5 := by
  unfold nnF
  by_cases q : use = 0
  · rw [if_pos q]; omega
  · rw [if_neg q]; omega
set_option maxRecDepth 100000 in
theorem QL {o e eq et : Nat} (B : PBk nb use b) (ho : o ≤ 5) (h8 : 7 ≤ e) (hq : eq ≤ e) (ht : et ≤ e) (HQ : o < 5 → RdL fb n_X1_readQ n_X9_one eq nb use (o + 1) b) (HT : o < 5 → RdL fb n_X1_readT n_X9_either et nb use (o + 1) b) : RdL fb n_X1_readQ n_X9_one (e + 1) nb use o b := by
  intro dc dr a k q hc hr hdc hdr Xc Xr P hk ha
  obtain ⟨D, rfl⟩ : ∃ D, dc = D + 8 := ⟨dc - 8, by omega⟩
  obtain ⟨E, rfl⟩ : ∃ E, dr = E + 8 := ⟨dr - 8, by omega⟩
  obtain ⟨p1, p2, p3, p4, p5, p6, p7, p8, p9, p10⟩ := id P
  have hb := B.1
  have e11 : pm_si hr 59 11 0 = hr := si_selfv p6
  have stC : ∀ {x : Int32}, nxF b nb a = x → ¬ (48 ≤ x ∧ x ≤ 57) → nmF use x = -1 → (x = -1 ∨ ∃ c, c < 256 ∧ x = nI c) → (x = 33 → o = 5) → (x = 40 → o = 5) → rs fb (D + 8) n_X1_readQ [.ref 18] hc = some (none, pm_si hc 18 5 1) ∧ rs fb (E + 8) n_X9_one [.ref 59] hr = some (none, pm_si hr 59 11 1) := by
    intro x hx hd hm hc2 h33 h40
    have dF := eq_false hd
    have m1 : (-1 : Int32) < 0 := by decide
    have m2 : ¬ (0 : Int32) ≤ -1 := by decide
    have z10 : ((1 : Int32) = 0) = False := by decide
    have nm := sp_nameOf (fb := fb) (d := D + 1) B Xc hc2
    rw [hm] at nm
    by_cases q33 : x = 33
    · subst q33
      have o5 : nI o = 5 := by rw [h33 rfl]; rfl
      have le5 : (5 : Int32) ≤ 5 := Int32.le_refl _
      have n40 : ((33 : Int32) = 40) = False := by decide
      refine ⟨?_, ?_⟩
      · rw [en_X1_readQ]
        simp only [c20, c2i, c2n, c2r, cs8_0, cs8_1, cs8_2, cs8_3, cs8_4, decide_eq_true_eq, ev_ald0, ev_aldn0, ev_bin, ev_cs1, ev_cv0, ev_cv1, ev_dup_i, ev_dup_r, ev_gi, ev_go, ev_gr, ev_i, ev_if0, ev_if2, ev_ild1, ev_ist1, ev_pi, ev_pz, ev_rv, i00, i01, i10, not_false_eq_true, not_true_eq_false, pm_bd_s, pm_tl_n, pm_tl_s, ↓reduceIte, pb_X1_readQ_0, pb_X1_readQ_1, pb_X1_readQ_2, pb_X1_readQ_3, pb_X1_readQ_8, pb_X1_readQ_9, kd_18, rf_18_0, rf_18_1, is_1_18, kd_20, rf_20_0, is_0_20, sp_next B Xc p1 ha, hx, sp_isDigit, bI_0, dF, nm, m1, p3, o5, le5, n40, not_true_eq_false, not_false_eq_true, or_true, if_true, if_false]
      · rw [en_X9_one]
        simp only [c20, c2i, c2n, c2r, cs8_0, cs8_1, cs8_2, cs8_3, cs8_4, decide_eq_true_eq, ev_ald0, ev_aldn0, ev_bin, ev_cs3, ev_cv0, ev_cv1, ev_dup_i, ev_dup_r, ev_gi, ev_go, ev_i, ev_if0, ev_if2, ev_ild1, ev_ild2, ev_ild3, ev_inc3, ev_ist1, ev_ist2, ev_ist3, ev_pi, ev_pz, ev_rv, i00, i01, i10, not_false_eq_true, not_true_eq_false, pm_bd_s, pm_tl_n, pm_tl_s, ↓reduceIte, pb_X9_one_0, pb_X9_one_1, pb_X9_one_2, pb_X9_one_3, pb_X9_one_17, kd_59, rf_59_0, rf_59_1, rf_59_3, rf_59_4, rf_59_5, rf_59_6, rf_59_7, rf_59_12, rf_59_14, rf_59_15, rf_59_16, rf_59_19, rf_59_23, rf_59_24, rf_59_25, rf_59_26, is_9_59, sr_here B Xr p2 ha p6, hx, p4, o5, z10, si_same, not_true_eq_false, not_false_eq_true, or_true, if_true, if_false]
    · by_cases q40 : x = 40
      · subst q40
        have o5 : nI o = 5 := by rw [h40 rfl]; rfl
        have le5 : (5 : Int32) ≤ 5 := Int32.le_refl _
        have n33 : ((40 : Int32) = 33) = False := by decide
        refine ⟨?_, ?_⟩
        · rw [en_X1_readQ]
          simp only [c20, c2i, c2n, c2r, cs8_0, cs8_1, cs8_2, cs8_3, cs8_4, decide_eq_true_eq, ev_ald0, ev_aldn0, ev_bin, ev_cs1, ev_cv0, ev_cv1, ev_dup_i, ev_dup_r, ev_gi, ev_go, ev_gr, ev_i, ev_if0, ev_if2, ev_ild1, ev_ist1, ev_pi, ev_pz, ev_rv, i00, i01, i10, not_false_eq_true, not_true_eq_false, pm_bd_s, pm_tl_n, pm_tl_s, ↓reduceIte, pb_X1_readQ_0, pb_X1_readQ_1, pb_X1_readQ_2, pb_X1_readQ_3, pb_X1_readQ_8, pb_X1_readQ_9, kd_18, rf_18_0, rf_18_1, is_1_18, kd_20, rf_20_0, is_0_20, sp_next B Xc p1 ha, hx, sp_isDigit, bI_0, dF, nm, m1, p3, o5, le5, n33, not_true_eq_false, not_false_eq_true, or_true, if_true, if_false]
        · rw [en_X9_one]
          simp only [c20, c2i, c2n, c2r, cs8_0, cs8_1, cs8_2, cs8_3, cs8_4, decide_eq_true_eq, ev_ald0, ev_aldn0, ev_bin, ev_cs3, ev_cv0, ev_cv1, ev_dup_i, ev_dup_r, ev_gi, ev_go, ev_i, ev_if0, ev_if2, ev_ild1, ev_ild2, ev_ild3, ev_inc3, ev_ist1, ev_ist2, ev_ist3, ev_pi, ev_pz, ev_rv, i00, i01, i10, not_false_eq_true, not_true_eq_false, pm_bd_s, pm_tl_n, pm_tl_s, ↓reduceIte, pb_X9_one_0, pb_X9_one_1, pb_X9_one_2, pb_X9_one_3, pb_X9_one_17, kd_59, rf_59_0, rf_59_1, rf_59_3, rf_59_4, rf_59_5, rf_59_6, rf_59_7, rf_59_12, rf_59_14, rf_59_15, rf_59_16, rf_59_19, rf_59_23, rf_59_24, rf_59_25, rf_59_26, is_9_59, sr_here B Xr p2 ha p6, hx, p4, o5, z10, n33, si_same, not_true_eq_false, not_false_eq_true, or_true, if_true, if_false]
      · have f33 := eq_false q33
        have f40 := eq_false q40
        refine ⟨?_, ?_⟩
        · rw [en_X1_readQ]
          simp only [c20, c2i, c2n, c2r, cs8_0, cs8_1, cs8_2, cs8_3, cs8_4, decide_eq_true_eq, ev_ald0, ev_aldn0, ev_bin, ev_cs1, ev_cv0, ev_cv1, ev_dup_i, ev_dup_r, ev_gi, ev_go, ev_gr, ev_i, ev_if0, ev_if2, ev_ild1, ev_ist1, ev_pi, ev_pz, ev_rv, i00, i01, i10, not_false_eq_true, not_true_eq_false, pm_bd_s, pm_tl_n, pm_tl_s, ↓reduceIte, pb_X1_readQ_0, pb_X1_readQ_1, pb_X1_readQ_2, pb_X1_readQ_3, pb_X1_readQ_8, pb_X1_readQ_9, kd_18, rf_18_0, rf_18_1, is_1_18, kd_20, rf_20_0, is_0_20, sp_next B Xc p1 ha, hx, sp_isDigit, bI_0, dF, nm, m1, f33, f40, not_true_eq_false, not_false_eq_true, or_true, if_true, if_false]
        · have nr := sr_nameOf (fb := fb) (d := E + 1) (x := x) B Xr
          rw [hm] at nr
          rw [en_X9_one]
          by_cases x0 : 0 ≤ x
          · simp only [c20, c2i, c2n, c2r, cs8_0, cs8_1, cs8_2, cs8_3, cs8_4, decide_eq_true_eq, ev_ald0, ev_aldn0, ev_bin, ev_cs3, ev_cv0, ev_cv1, ev_dup_i, ev_dup_r, ev_gi, ev_go, ev_i, ev_if0, ev_if2, ev_ild1, ev_ild2, ev_ild3, ev_inc3, ev_ist1, ev_ist2, ev_ist3, ev_pi, ev_pz, ev_rv, i00, i01, i10, not_false_eq_true, not_true_eq_false, pm_bd_s, pm_tl_n, pm_tl_s, ↓reduceIte, pb_X9_one_0, pb_X9_one_8, pb_X9_one_11, pb_X9_one_12, pb_X9_one_13, pb_X9_one_14, pb_X9_one_16, pb_X9_one_17, kd_59, rf_59_0, rf_59_1, rf_59_3, rf_59_4, rf_59_5, rf_59_6, rf_59_7, rf_59_12, rf_59_14, rf_59_15, rf_59_16, rf_59_19, rf_59_23, rf_59_24, rf_59_25, rf_59_26, is_9_59, sr_here B Xr p2 ha p6, hx, f33, f40, sr_isIn, bI_0, dF, x0, nr, p6, m2, z10, si_same, not_true_eq_false, not_false_eq_true, or_true, if_true, if_false]
          · simp only [c20, c2i, c2n, c2r, cs8_0, cs8_1, cs8_2, cs8_3, cs8_4, decide_eq_true_eq, ev_ald0, ev_aldn0, ev_bin, ev_cs3, ev_cv0, ev_cv1, ev_dup_i, ev_dup_r, ev_gi, ev_go, ev_i, ev_if0, ev_if2, ev_ild1, ev_ild2, ev_ild3, ev_inc3, ev_ist1, ev_ist2, ev_ist3, ev_pi, ev_pz, ev_rv, i00, i01, i10, not_false_eq_true, not_true_eq_false, pm_bd_s, pm_tl_n, pm_tl_s, ↓reduceIte, pb_X9_one_0, pb_X9_one_8, pb_X9_one_11, pb_X9_one_12, pb_X9_one_13, pb_X9_one_14, pb_X9_one_16, pb_X9_one_17, kd_59, rf_59_0, rf_59_1, rf_59_3, rf_59_4, rf_59_5, rf_59_6, rf_59_7, rf_59_12, rf_59_14, rf_59_15, rf_59_16, rf_59_19, rf_59_23, rf_59_24, rf_59_25, rf_59_26, is_9_59, sr_here B Xr p2 ha p6, hx, f33, f40, sr_isIn, bI_0, dF, x0, p6, m2, z10, si_same, not_true_eq_false, not_false_eq_true, or_true, if_true, if_false]
  rcases nx_c (a := a) B with ⟨x1, x2⟩ | ⟨c, c1, cx, c3⟩
  · obtain ⟨r1, r2⟩ := stC x1 (by decide) (nm_m1 use B.2.1) (Or.inl rfl) (fun t => absurd t (by decide)) (fun t => absurd t (by decide))
    exact ⟨_, _, r1, r2, FPc_18 (by omega), FPr_59 (by omega), Or.inr (PZ_of P ha (by omega))⟩
  · by_cases dg : 48 ≤ nI c ∧ nI c ≤ 57
    · have dgT := eq_true dg
      have g1 : 48 ≤ c := (nI_leI (a := 48) (by omega) (by omega)).mp dg.1
      have n33 : (nI c = 33) = False := eq_false (fun t => by
        have := (nI_eq (b := 33) (by omega) (by omega)).mp t
        omega)
      have n40 : (nI c = 40) = False := eq_false (fun t => by
        have := (nI_eq (b := 40) (by omega) (by omega)).mp t
        omega)
      obtain ⟨hc', hr', a', w', t1, t2, t3, t4, t5, t6, t7, t8, t9⟩ := lp_num (fb := fb) (c := nI c) (nn := nnF use) (o := o) (k := k) (q := q) B (by omega) 4 0 a 0 (D + 2) (E + 3) hc hr (by omega) Xc Xr P ha (by omega)
      rw [nI_0] at t1 t2
      have al := t9 (by omega) (by rw [cx]; exact dg)
      refine ⟨_, _, ?_, ?_, t7.tr (adC_f _ _ _), t8.tr (adR_f _ _ _), Or.inl ⟨a', k + 1, PS_add (v := nI w') (w := nI w') t3 (dp_num t6) (cod_lt (nI_lt (b := 20000) (by omega) (by omega))), al, t5, by omega⟩⟩
      · have rn : rs fb (D + 7) n_X1_readNumber [.ref 18] hc = some (none, adC hc' k (nI w')) := by
          rw [en_X1_readNumber]
          simp only [c20, c2i, c2n, c2r, cs8_0, cs8_1, cs8_2, cs8_3, cs8_4, decide_eq_true_eq, ev_ald0, ev_aldn0, ev_bin, ev_cs1, ev_cv0, ev_cv1, ev_dup_i, ev_dup_r, ev_gi, ev_go, ev_gr, ev_i, ev_if0, ev_if2, ev_ild1, ev_ild2, ev_inc2, ev_ist1, ev_ist2, ev_pi, ev_rv, i00, i01, i10, not_false_eq_true, not_true_eq_false, pm_bd_s, pm_tl_n, pm_tl_s, ↓reduceIte, pb_X1_readNumber_0]
          exact t1
        rw [en_X1_readQ]
        simp only [c20, c2i, c2n, c2r, cs8_0, cs8_1, cs8_2, cs8_3, cs8_4, decide_eq_true_eq, ev_ald0, ev_aldn0, ev_bin, ev_cs1, ev_cv0, ev_cv1, ev_dup_i, ev_dup_r, ev_gi, ev_go, ev_gr, ev_i, ev_if0, ev_if2, ev_ild1, ev_ist1, ev_pi, ev_pz, ev_rv, i00, i01, i10, not_false_eq_true, not_true_eq_false, pm_bd_s, pm_tl_n, pm_tl_s, ↓reduceIte, pb_X1_readQ_0, pb_X1_readQ_9, kd_18, rf_18_0, rf_18_1, is_1_18, kd_20, rf_20_0, is_0_20, sp_next B Xc p1 ha, cx, sp_isDigit, bI_0, dgT, rn, not_true_eq_false, if_true, if_false]
      · rw [en_X9_one]
        simp only [c20, c2i, c2n, c2r, cs8_0, cs8_1, cs8_2, cs8_3, cs8_4, decide_eq_true_eq, ev_ald0, ev_aldn0, ev_bin, ev_cs3, ev_cv0, ev_cv1, ev_dup_i, ev_dup_r, ev_gi, ev_go, ev_i, ev_if0, ev_if2, ev_ild1, ev_ild2, ev_ild3, ev_inc3, ev_ist1, ev_ist2, ev_ist3, ev_pi, ev_pz, ev_rv, i00, i01, i10, not_false_eq_true, not_true_eq_false, pm_bd_s, pm_tl_n, pm_tl_s, ↓reduceIte, pb_X9_one_0, pb_X9_one_8, kd_59, rf_59_0, rf_59_1, rf_59_3, rf_59_4, rf_59_5, rf_59_6, rf_59_7, rf_59_12, rf_59_14, rf_59_15, rf_59_16, rf_59_19, rf_59_23, rf_59_24, rf_59_25, rf_59_26, is_9_59, sr_here B Xr p2 ha p6, cx, n33, n40, sr_isIn, bI_0, dgT, not_true_eq_false, not_false_eq_true, if_true, if_false]
        exact t2
    · have dgF := eq_false dg
      by_cases nm : nmF use (nI c) = -1
      · by_cases q5 : o < 5
        · by_cases c33 : c = 33
          · subst c33
            have P1 := PS_at (a' := a + 1) (PS_op (o' := o + 1) P)
            have Xc1 : PXc (pm_si (pm_si hc 18 4 (nI (o + 1))) 18 3 (nI (a + 1))) nb use b := PXc_t Xc ((FPc_18 (by omega)).tr (FPc_18 (by omega)))
            have Xr1 : PXr (pm_si (pm_si hr 59 9 (nI (o + 1))) 59 8 (nI (a + 1))) nb use b := PXr_t Xr ((FPr_59 (by omega)).tr (FPr_59 (by omega)))
            obtain ⟨hc2, hr2, r1, r2, f1, f2, out⟩ := HQ q5 (D + 7) (E + 7) (a + 1) k q _ _ (by omega) (by omega) Xc1 Xr1 P1 (by omega) (by omega)
            have F1 : FPc hc hc2 := ((FPc_18 (by omega)).tr (FPc_18 (by omega))).tr f1
            have F2 : FPr hr hr2 := ((FPr_59 (by omega)).tr (FPr_59 (by omega))).tr f2
            have nmc := sp_nameOf (fb := fb) (d := D + 1) B Xc (x := nI 33) (Or.inr ⟨33, by omega, rfl⟩)
            rw [nm] at nmc
            have m1 : (-1 : Int32) < 0 := by decide
            have le5 : ¬ (5 : Int32) ≤ nI o := nI_ge (b := 5) (by omega) (by omega)
            have ne5 : (nI o = 5) = False := eq_false (fun t => by
              have := (nI_eq (b := 5) (by omega) (by omega)).mp t
              omega)
            have l33 : nI 33 = 33 := rfl
            rw [l33] at cx dgF nmc
            have k3 : (pm_si hc 18 4 (nI (o + 1))).1 18 3 = nI a := (si_ne _ _ (by omega)).trans p1
            have k4 : (pm_si hr 59 9 (nI (o + 1))).1 59 8 = nI a := (si_ne _ _ (by omega)).trans p2
            rcases out with ⟨a2, k2, P2, u1, u2, u3⟩ | Z
            · obtain ⟨s1, s2, s3, s4, s5, s6, s7, s8, s9, s10⟩ := id P2
              have k5 : (pm_si hc2 18 4 (nI o)).1 20 1 = nI k2 := (si_ne _ _ (by omega)).trans s7
              have k6 : (adR hr2 k2 20010).1 59 9 = nI (o + 1) := by
                unfold adR
                rw [si_ne _ _ (by omega), si_ne _ _ (by omega)]
                exact s4
              have P3 := PS_add (v := 20033) (w := 20010) (PS_op (o' := o) P2) (dp_not (nn_5 use) (by omega)) (by decide)
              have cm : adR (pm_si hr2 59 9 (nI o)) k2 20010 = pm_si (adR hr2 k2 20010) 59 9 (nI o) := by
                unfold adR
                rw [si_comm hr2 (show ¬ (59 = 67 ∧ 9 = k2) by omega), si_comm _ (show ¬ (59 = 59 ∧ 9 = 13) by omega)]
              rw [cm] at P3
              refine ⟨adC (pm_si hc2 18 4 (nI o)) k2 20033, pm_si (adR hr2 k2 20010) 59 9 (nI o), ?_, ?_, (F1.tr (FPc_18 (by omega))).tr (adC_f _ _ _), (F2.tr (adR_f _ _ _)).tr (FPr_59 (by omega)), Or.inl ⟨a2, k2 + 1, P3, by omega, u2, by omega⟩⟩
              · rw [en_X1_readQ]
                simp only [c20, c2i, c2n, c2r, cs8_0, cs8_1, cs8_2, cs8_3, cs8_4, decide_eq_true_eq, ev_ald0, ev_aldn0, ev_bin, ev_cs1, ev_cv0, ev_cv1, ev_dup_i, ev_dup_r, ev_gi, ev_go, ev_gr, ev_i, ev_if0, ev_if2, ev_ild1, ev_ist1, ev_pi, ev_pz, ev_rv, i00, i01, i10, not_false_eq_true, not_true_eq_false, pm_bd_s, pm_tl_n, pm_tl_s, ↓reduceIte, pb_X1_readQ_0, pb_X1_readQ_1, pb_X1_readQ_2, pb_X1_readQ_9, kd_18, rf_18_0, rf_18_1, is_1_18, kd_20, rf_20_0, is_0_20, sp_next B Xc p1 ha, cx, sp_isDigit, bI_0, dgF, nmc, m1, p3, le5, nI_1, k3, r1, s3, nI_p1, add_20 k5 (show k2 < 60 by omega), not_true_eq_false, not_false_eq_true, if_true, if_false]
              · rw [en_X9_one]
                simp only [c20, c2i, c2n, c2r, cs8_0, cs8_1, cs8_2, cs8_3, cs8_4, decide_eq_true_eq, ev_ald0, ev_aldn0, ev_bin, ev_cs3, ev_cv0, ev_cv1, ev_dup_i, ev_dup_r, ev_gi, ev_go, ev_i, ev_if0, ev_if2, ev_ild1, ev_ild2, ev_ild3, ev_inc3, ev_ist1, ev_ist2, ev_ist3, ev_pi, ev_pz, ev_rv, i00, i01, i10, not_false_eq_true, not_true_eq_false, pm_bd_s, pm_tl_n, pm_tl_s, ↓reduceIte, pb_X9_one_0, pb_X9_one_1, pb_X9_one_2, pb_X9_one_3, pb_X9_one_7, pb_X9_one_17, kd_59, rf_59_0, rf_59_1, rf_59_3, rf_59_4, rf_59_5, rf_59_6, rf_59_7, rf_59_12, rf_59_14, rf_59_15, rf_59_16, rf_59_19, rf_59_23, rf_59_24, rf_59_25, rf_59_26, is_9_59, sr_here B Xr p2 ha p6, cx, p4, ne5, p6, e11, nI_1, k4, r2, sr_codes s6 s8 (show k2 < 60 by omega), k6, nI_p1, true_or, not_true_eq_false, not_false_eq_true, if_true, if_false]
            · have Z1 := PZ_op (v := hc2.1 18 4 - 1) (w := hr2.1 59 9 - 1) Z
              obtain ⟨hc3, r3, Z2, F3⟩ := PZ_add (fb := fb) (v := 20033) Z1
              obtain ⟨-, -, -, -, -, -, -, z6, -⟩ := id Z
              refine ⟨hc3, pm_si hr2 59 9 (hr2.1 59 9 - 1), ?_, ?_, (F1.tr (FPc_18 (by omega))).tr F3, F2.tr (FPr_59 (by omega)), Or.inr Z2⟩
              · rw [en_X1_readQ]
                simp only [c20, c2i, c2n, c2r, cs8_0, cs8_1, cs8_2, cs8_3, cs8_4, decide_eq_true_eq, ev_ald0, ev_aldn0, ev_bin, ev_cs1, ev_cv0, ev_cv1, ev_dup_i, ev_dup_r, ev_gi, ev_go, ev_gr, ev_i, ev_if0, ev_if2, ev_ild1, ev_ist1, ev_pi, ev_pz, ev_rv, i00, i01, i10, not_false_eq_true, not_true_eq_false, pm_bd_s, pm_tl_n, pm_tl_s, ↓reduceIte, pb_X1_readQ_0, pb_X1_readQ_1, pb_X1_readQ_2, pb_X1_readQ_9, kd_18, rf_18_0, rf_18_1, is_1_18, kd_20, rf_20_0, is_0_20, sp_next B Xc p1 ha, cx, sp_isDigit, bI_0, dgF, nmc, m1, p3, le5, nI_1, k3, r1, r3, not_true_eq_false, not_false_eq_true, if_true, if_false]
              · rw [en_X9_one]
                simp only [c20, c2i, c2n, c2r, cs8_0, cs8_1, cs8_2, cs8_3, cs8_4, decide_eq_true_eq, ev_ald0, ev_aldn0, ev_bin, ev_cs3, ev_cv0, ev_cv1, ev_dup_i, ev_dup_r, ev_gi, ev_go, ev_i, ev_if0, ev_if2, ev_ild1, ev_ild2, ev_ild3, ev_inc3, ev_ist1, ev_ist2, ev_ist3, ev_pi, ev_pz, ev_rv, i00, i01, i10, not_false_eq_true, not_true_eq_false, pm_bd_s, pm_tl_n, pm_tl_s, ↓reduceIte, pb_X9_one_0, pb_X9_one_1, pb_X9_one_2, pb_X9_one_3, pb_X9_one_7, pb_X9_one_17, kd_59, rf_59_0, rf_59_1, rf_59_3, rf_59_4, rf_59_5, rf_59_6, rf_59_7, rf_59_12, rf_59_14, rf_59_15, rf_59_16, rf_59_19, rf_59_23, rf_59_24, rf_59_25, rf_59_26, is_9_59, sr_here B Xr p2 ha p6, cx, p4, ne5, p6, e11, nI_1, k4, r2, sr_codesZ z6, true_or, not_true_eq_false, not_false_eq_true, if_true, if_false]
          · by_cases c40 : c = 40
            · subst c40
              have P1 := PS_at (a' := a + 1) (PS_op (o' := o + 1) P)
              have Xc1 : PXc (pm_si (pm_si hc 18 4 (nI (o + 1))) 18 3 (nI (a + 1))) nb use b := PXc_t Xc ((FPc_18 (by omega)).tr (FPc_18 (by omega)))
              have Xr1 : PXr (pm_si (pm_si hr 59 9 (nI (o + 1))) 59 8 (nI (a + 1))) nb use b := PXr_t Xr ((FPr_59 (by omega)).tr (FPr_59 (by omega)))
              obtain ⟨hc2, hr2, r1, r2, f1, f2, out⟩ := HT q5 (D + 7) (E + 7) (a + 1) k q _ _ (by omega) (by omega) Xc1 Xr1 P1 (by omega) (by omega)
              have F1 : FPc hc hc2 := ((FPc_18 (by omega)).tr (FPc_18 (by omega))).tr f1
              have F2 : FPr hr hr2 := ((FPr_59 (by omega)).tr (FPr_59 (by omega))).tr f2
              have nmc := sp_nameOf (fb := fb) (d := D + 1) B Xc (x := nI 40) (Or.inr ⟨40, by omega, rfl⟩)
              rw [nm] at nmc
              have m1 : (-1 : Int32) < 0 := by decide
              have le5 : ¬ (5 : Int32) ≤ nI o := nI_ge (b := 5) (by omega) (by omega)
              have ne5 : (nI o = 5) = False := eq_false (fun t => by
                have := (nI_eq (b := 5) (by omega) (by omega)).mp t
                omega)
              have l40 : nI 40 = 40 := rfl
              have l43 : ((40 : Int32) = 33) = False := by decide
              have m41 : ¬ (-1 : Int32) = 41 := by decide
              have z10 : ((1 : Int32) = 0) = False := by decide
              rw [l40] at cx dgF nmc
              have k3 : (pm_si hc 18 4 (nI (o + 1))).1 18 3 = nI a := (si_ne _ _ (by omega)).trans p1
              have k4 : (pm_si hr 59 9 (nI (o + 1))).1 59 8 = nI a := (si_ne _ _ (by omega)).trans p2
              rcases out with ⟨a2, k2, P2, u1, u2, u3⟩ | Z
              · obtain ⟨s1, s2, s3, s4, s5, s6, s7, s8, s9, s10⟩ := id P2
                have P3 := PS_op (o' := o) P2
                have Xc3 : PXc (pm_si hc2 18 4 (nI o)) nb use b := PXc_t Xc (F1.tr (FPc_18 (by omega)))
                have Xr2 : PXr hr2 nb use b := PXr_t Xr F2
                obtain ⟨v1, v2, v3, v4, v5, v6, v7, v8, v9, v10⟩ := id P3
                by_cases q41 : nxF b nb a2 = 41
                · have a2n : a2 < nb := nx_lt q41 (by decide)
                  have i1 : pm_si (pm_si hc2 18 4 (nI o)) 18 5 0 = pm_si hc2 18 4 (nI o) := si_selfv v5
                  have i2 : pm_si (pm_si hr2 59 8 (nI (a2 + 1))) 59 11 0 = pm_si hr2 59 8 (nI (a2 + 1)) := si_selfv ((si_ne _ _ (by omega)).trans s6)
                  have i3 : (pm_si hr2 59 8 (nI (a2 + 1))).1 59 9 = nI (o + 1) := (si_ne _ _ (by omega)).trans s4
                  have P4 := PS_at (a' := a2 + 1) P3
                  rw [si_comm hr2 (show ¬ (59 = 59 ∧ 9 = 8) by omega)] at P4
                  refine ⟨pm_si (pm_si hc2 18 4 (nI o)) 18 3 (nI (a2 + 1)), pm_si (pm_si hr2 59 8 (nI (a2 + 1))) 59 9 (nI o), ?_, ?_, (F1.tr (FPc_18 (by omega))).tr (FPc_18 (by omega)), (F2.tr (FPr_59 (by omega))).tr (FPr_59 (by omega)), Or.inl ⟨a2 + 1, k2, P4, by omega, by omega, by omega⟩⟩
                  · rw [en_X1_readQ]
                    simp only [c20, c2i, c2n, c2r, cs8_0, cs8_1, cs8_2, cs8_3, cs8_4, decide_eq_true_eq, ev_ald0, ev_aldn0, ev_bin, ev_cs1, ev_cv0, ev_cv1, ev_dup_i, ev_dup_r, ev_gi, ev_go, ev_gr, ev_i, ev_if0, ev_if2, ev_ild1, ev_ist1, ev_pi, ev_pz, ev_rv, i00, i01, i10, not_false_eq_true, not_true_eq_false, pm_bd_s, pm_tl_n, pm_tl_s, ↓reduceIte, pb_X1_readQ_0, pb_X1_readQ_1, pb_X1_readQ_2, pb_X1_readQ_3, pb_X1_readQ_4, pb_X1_readQ_5, pb_X1_readQ_6, pb_X1_readQ_7, pb_X1_readQ_9, kd_18, rf_18_0, rf_18_1, is_1_18, kd_20, rf_20_0, is_0_20, sp_next B Xc p1 ha, cx, sp_isDigit, bI_0, dgF, nmc, m1, p3, le5, l43, nI_1, k3, r1, s3, nI_p1, sp_isNext B Xc3 v1 u2 v5, q41, i1, v1, v5, true_or, not_true_eq_false, not_false_eq_true, if_true, if_false]
                  · rw [en_X9_one]
                    simp only [c20, c2i, c2n, c2r, cs8_0, cs8_1, cs8_2, cs8_3, cs8_4, decide_eq_true_eq, ev_ald0, ev_aldn0, ev_bin, ev_cs3, ev_cv0, ev_cv1, ev_dup_i, ev_dup_r, ev_gi, ev_go, ev_i, ev_if0, ev_if2, ev_ild1, ev_ild2, ev_ild3, ev_inc3, ev_ist1, ev_ist2, ev_ist3, ev_pi, ev_pz, ev_rv, i00, i01, i10, not_false_eq_true, not_true_eq_false, pm_bd_s, pm_tl_n, pm_tl_s, ↓reduceIte, pb_X9_one_0, pb_X9_one_1, pb_X9_one_2, pb_X9_one_3, pb_X9_one_4, pb_X9_one_5, pb_X9_one_6, pb_X9_one_7, pb_X9_one_17, kd_59, rf_59_0, rf_59_1, rf_59_3, rf_59_4, rf_59_5, rf_59_6, rf_59_7, rf_59_12, rf_59_14, rf_59_15, rf_59_16, rf_59_19, rf_59_23, rf_59_24, rf_59_25, rf_59_26, is_9_59, sr_here B Xr p2 ha p6, cx, p4, ne5, p6, e11, l43, nI_1, k4, r2, sr_takes1 B Xr2 s2 u2 s6 q41, z10, i2, i3, nI_p1, true_or, not_true_eq_false, not_false_eq_true, if_true, if_false]
                · have i1 : (pm_si (pm_si hc2 18 4 (nI o)) 18 5 1).1 18 3 = nI a2 := (si_ne _ _ (by omega)).trans v1
                  have i2 : pm_si (pm_si (pm_si hc2 18 4 (nI o)) 18 5 1) 18 3 (nI a2) = pm_si (pm_si hc2 18 4 (nI o)) 18 5 1 := si_selfv i1
                  have i3 : (pm_si hr2 59 11 1).1 59 9 = nI (o + 1) := (si_ne _ _ (by omega)).trans s4
                  have Z4 := PZ_of P3 u2 (show k2 ≤ 60 by omega)
                  rw [si_comm hr2 (show ¬ (59 = 59 ∧ 9 = 11) by omega)] at Z4
                  have q41F := eq_false q41
                  refine ⟨pm_si (pm_si hc2 18 4 (nI o)) 18 5 1, pm_si (pm_si hr2 59 11 1) 59 9 (nI o), ?_, ?_, (F1.tr (FPc_18 (by omega))).tr (FPc_18 (by omega)), (F2.tr (FPr_59 (by omega))).tr (FPr_59 (by omega)), Or.inr Z4⟩
                  · rw [en_X1_readQ]
                    simp only [c20, c2i, c2n, c2r, cs8_0, cs8_1, cs8_2, cs8_3, cs8_4, decide_eq_true_eq, ev_ald0, ev_aldn0, ev_bin, ev_cs1, ev_cv0, ev_cv1, ev_dup_i, ev_dup_r, ev_gi, ev_go, ev_gr, ev_i, ev_if0, ev_if2, ev_ild1, ev_ist1, ev_pi, ev_pz, ev_rv, i00, i01, i10, not_false_eq_true, not_true_eq_false, pm_bd_s, pm_tl_n, pm_tl_s, ↓reduceIte, pb_X1_readQ_0, pb_X1_readQ_1, pb_X1_readQ_2, pb_X1_readQ_3, pb_X1_readQ_4, pb_X1_readQ_5, pb_X1_readQ_6, pb_X1_readQ_7, pb_X1_readQ_9, kd_18, rf_18_0, rf_18_1, is_1_18, kd_20, rf_20_0, is_0_20, sp_next B Xc p1 ha, cx, sp_isDigit, bI_0, dgF, nmc, m1, p3, le5, l43, nI_1, k3, r1, s3, nI_p1, sp_isNext B Xc3 v1 u2 v5, q41F, i1, i2, si_same, z10, add0, or_true, not_true_eq_false, not_false_eq_true, if_true, if_false]
                  · rw [en_X9_one]
                    simp only [c20, c2i, c2n, c2r, cs8_0, cs8_1, cs8_2, cs8_3, cs8_4, decide_eq_true_eq, ev_ald0, ev_aldn0, ev_bin, ev_cs3, ev_cv0, ev_cv1, ev_dup_i, ev_dup_r, ev_gi, ev_go, ev_i, ev_if0, ev_if2, ev_ild1, ev_ild2, ev_ild3, ev_inc3, ev_ist1, ev_ist2, ev_ist3, ev_pi, ev_pz, ev_rv, i00, i01, i10, not_false_eq_true, not_true_eq_false, pm_bd_s, pm_tl_n, pm_tl_s, ↓reduceIte, pb_X9_one_0, pb_X9_one_1, pb_X9_one_2, pb_X9_one_3, pb_X9_one_4, pb_X9_one_5, pb_X9_one_6, pb_X9_one_7, pb_X9_one_17, kd_59, rf_59_0, rf_59_1, rf_59_3, rf_59_4, rf_59_5, rf_59_6, rf_59_7, rf_59_12, rf_59_14, rf_59_15, rf_59_16, rf_59_19, rf_59_23, rf_59_24, rf_59_25, rf_59_26, is_9_59, sr_here B Xr p2 ha p6, cx, p4, ne5, p6, e11, l43, nI_1, k4, r2, sr_takes0 B Xr2 s2 u2 s6 q41, i3, nI_p1, true_or, or_true, not_true_eq_false, not_false_eq_true, if_true, if_false]
              · have Z1 := PZ_op (v := hc2.1 18 4 - 1) (w := hr2.1 59 9 - 1) Z
                obtain ⟨a3, k3', z1, z2, z3, z4, z5, z6, z7⟩ := id Z
                obtain ⟨a4, k4', y1, y2, y3, y4, y5, y6, y7⟩ := id Z1
                have i1 : pm_si (pm_si hc2 18 4 (hc2.1 18 4 - 1)) 18 5 1 = pm_si hc2 18 4 (hc2.1 18 4 - 1) := si_selfv y5
                have i2 : pm_si (pm_si hc2 18 4 (hc2.1 18 4 - 1)) 18 3 (nI a4) = pm_si hc2 18 4 (hc2.1 18 4 - 1) := si_selfv y3
                have i3 : pm_si hr2 59 11 1 = hr2 := si_selfv z6
                refine ⟨pm_si hc2 18 4 (hc2.1 18 4 - 1), pm_si hr2 59 9 (hr2.1 59 9 - 1), ?_, ?_, F1.tr (FPc_18 (by omega)), F2.tr (FPr_59 (by omega)), Or.inr Z1⟩
                · rw [en_X1_readQ]
                  simp only [c20, c2i, c2n, c2r, cs8_0, cs8_1, cs8_2, cs8_3, cs8_4, decide_eq_true_eq, ev_ald0, ev_aldn0, ev_bin, ev_cs1, ev_cv0, ev_cv1, ev_dup_i, ev_dup_r, ev_gi, ev_go, ev_gr, ev_i, ev_if0, ev_if2, ev_ild1, ev_ist1, ev_pi, ev_pz, ev_rv, i00, i01, i10, not_false_eq_true, not_true_eq_false, pm_bd_s, pm_tl_n, pm_tl_s, ↓reduceIte, pb_X1_readQ_0, pb_X1_readQ_1, pb_X1_readQ_2, pb_X1_readQ_3, pb_X1_readQ_4, pb_X1_readQ_5, pb_X1_readQ_6, pb_X1_readQ_7, pb_X1_readQ_9, kd_18, rf_18_0, rf_18_1, is_1_18, kd_20, rf_20_0, is_0_20, sp_next B Xc p1 ha, cx, sp_isDigit, bI_0, dgF, nmc, m1, p3, le5, l43, nI_1, k3, r1, sp_isNextZ y5, i1, y3, y5, i2, z10, add0, or_true, not_true_eq_false, not_false_eq_true, if_true, if_false]
                · rw [en_X9_one]
                  simp only [c20, c2i, c2n, c2r, cs8_0, cs8_1, cs8_2, cs8_3, cs8_4, decide_eq_true_eq, ev_ald0, ev_aldn0, ev_bin, ev_cs3, ev_cv0, ev_cv1, ev_dup_i, ev_dup_r, ev_gi, ev_go, ev_i, ev_if0, ev_if2, ev_ild1, ev_ild2, ev_ild3, ev_inc3, ev_ist1, ev_ist2, ev_ist3, ev_pi, ev_pz, ev_rv, i00, i01, i10, not_false_eq_true, not_true_eq_false, pm_bd_s, pm_tl_n, pm_tl_s, ↓reduceIte, pb_X9_one_0, pb_X9_one_1, pb_X9_one_2, pb_X9_one_3, pb_X9_one_4, pb_X9_one_5, pb_X9_one_6, pb_X9_one_7, pb_X9_one_17, kd_59, rf_59_0, rf_59_1, rf_59_3, rf_59_4, rf_59_5, rf_59_6, rf_59_7, rf_59_12, rf_59_14, rf_59_15, rf_59_16, rf_59_19, rf_59_23, rf_59_24, rf_59_25, rf_59_26, is_9_59, sr_here B Xr p2 ha p6, cx, p4, ne5, p6, e11, l43, nI_1, k4, r2, sr_takesZ z6 m41, i3, true_or, or_true, not_true_eq_false, not_false_eq_true, if_true, if_false]
            · obtain ⟨r1, r2⟩ := stC cx dg nm (Or.inr ⟨c, c1, rfl⟩) (fun t => absurd ((nI_eq (b := 33) (by omega) (by omega)).mp t) c33) (fun t => absurd ((nI_eq (b := 40) (by omega) (by omega)).mp t) c40)
              exact ⟨_, _, r1, r2, FPc_18 (by omega), FPr_59 (by omega), Or.inr (PZ_of P ha (by omega))⟩
        · obtain ⟨r1, r2⟩ := stC cx dg nm (Or.inr ⟨c, c1, rfl⟩) (fun _ => by omega) (fun _ => by omega)
          exact ⟨_, _, r1, r2, FPc_18 (by omega), FPr_59 (by omega), Or.inr (PZ_of P ha (by omega))⟩
      · have nb' := (nm_b use B.2.1 c c1).resolve_left nm
        obtain ⟨j, hj, ej⟩ := nI_of (Int32.not_lt.mpr nb'.1)
        have n5 := nn_5 use
        have jn : j < nnF use := by
          have t := nb'.2
          rw [ej] at t
          exact (nI_ltI hj (by omega)).mp t
        have n33 : (nI c = 33) = False := eq_false (fun t => by
          rw [t] at nm
          exact nm (nm_33 use B.2.1).1)
        have n40 : (nI c = 40) = False := eq_false (fun t => by
          rw [t] at nm
          exact nm (nm_33 use B.2.1).2)
        have nmc := sp_nameOf (fb := fb) (d := D + 1) B Xc (x := nI c) (Or.inr ⟨c, c1, rfl⟩)
        have nmr := sr_nameOf (fb := fb) (d := E + 1) (x := nI c) B Xr
        rw [ej] at nmc nmr
        have j0 : ¬ nI j < 0 := nI_pos hj
        have j1 : 0 ≤ nI j := nI_pos' hj
        have c0 : 0 ≤ nI c := nI_pos' (by omega)
        have ev : (10000 : Int32) + nI j = nI (10000 + j) := nI_add 10000 j
        have k3 : (adC hc k (nI (10000 + j))).1 18 3 = nI a := by
          unfold adC
          rw [si_ne _ _ (by omega), si_ne _ _ (by omega)]
          exact p1
        have k4 : (adR hr k (nI (10000 + j))).1 59 8 = nI a := by
          unfold adR
          rw [si_ne _ _ (by omega), si_ne _ _ (by omega)]
          exact p2
        have P2 := PS_at (a' := a + 1) (PS_add (v := nI (10000 + j)) (w := nI (10000 + j)) P (dp_name jn n5) (cod_lt (nI_lt (b := 20000) (by omega) (by omega))))
        refine ⟨_, _, ?_, ?_, (adC_f _ _ _).tr (FPc_18 (by omega)), (adR_f _ _ _).tr (FPr_59 (by omega)), Or.inl ⟨a + 1, k + 1, P2, by omega, by omega, by omega⟩⟩
        · rw [en_X1_readQ]
          simp only [c20, c2i, c2n, c2r, cs8_0, cs8_1, cs8_2, cs8_3, cs8_4, decide_eq_true_eq, ev_ald0, ev_aldn0, ev_bin, ev_cs1, ev_cv0, ev_cv1, ev_dup_i, ev_dup_r, ev_gi, ev_go, ev_gr, ev_i, ev_if0, ev_if2, ev_ild1, ev_ist1, ev_pi, ev_pz, ev_rv, i00, i01, i10, not_false_eq_true, not_true_eq_false, pm_bd_s, pm_tl_n, pm_tl_s, ↓reduceIte, pb_X1_readQ_0, pb_X1_readQ_1, pb_X1_readQ_9, kd_18, rf_18_0, rf_18_1, is_1_18, kd_20, rf_20_0, is_0_20, sp_next B Xc p1 ha, cx, sp_isDigit, bI_0, dgF, nmc, j0, ev, add_20 p7 (show k < 60 by omega), k3, nI_1, not_false_eq_true, if_true, if_false]
        · rw [en_X9_one]
          simp only [c20, c2i, c2n, c2r, cs8_0, cs8_1, cs8_2, cs8_3, cs8_4, decide_eq_true_eq, ev_ald0, ev_aldn0, ev_bin, ev_cs3, ev_cv0, ev_cv1, ev_dup_i, ev_dup_r, ev_gi, ev_go, ev_i, ev_if0, ev_if2, ev_ild1, ev_ild2, ev_ild3, ev_inc3, ev_ist1, ev_ist2, ev_ist3, ev_pi, ev_pz, ev_rv, i00, i01, i10, not_false_eq_true, not_true_eq_false, pm_bd_s, pm_tl_n, pm_tl_s, ↓reduceIte, pb_X9_one_0, pb_X9_one_8, pb_X9_one_11, pb_X9_one_12, pb_X9_one_13, pb_X9_one_15, pb_X9_one_16, pb_X9_one_17, kd_59, rf_59_0, rf_59_1, rf_59_3, rf_59_4, rf_59_5, rf_59_6, rf_59_7, rf_59_12, rf_59_14, rf_59_15, rf_59_16, rf_59_19, rf_59_23, rf_59_24, rf_59_25, rf_59_26, is_9_59, sr_here B Xr p2 ha p6, cx, n33, n40, sr_isIn, bI_0, dgF, c0, nmr, p6, e11, j1, ev, sr_codes p6 p8 (show k < 60 by omega), k4, nI_1, true_or, not_true_eq_false, not_false_eq_true, if_true, if_false]
end ON
