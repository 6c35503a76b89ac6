/-! WHAT IS ASKED OF A LINE THAT WAS GONE (the class) -/
def ab32 (x : Int32) : Int32 := if 0 ≤ x then x else 0 - x
def ab64 (x : Int64) : Int64 := if 0 < x then x else -x
section W2
variable {fb : Bool} {d n : Nat} {h : pm_HP}
theorem sp_sideOf {j : Nat} (hn : h.1 17 7 = nI n) (hn24 : n ≤ 24) (hj : j ≤ n) : rs fb (d + 2) n_X7_sideOf [.ref 17, .int (nI j)] h = some (some (.int (h.1 52 j)), h) := by
  have e : (0 ≤ nI j ∧ nI j ≤ nI n) = True := eq_true ⟨nI_pos' (by omega), nI_le hj (by omega)⟩
  have hix : pm_ix (nI j) 25 = true := pm_ix_n (by omega) (by omega)
  have hcl := nI_clamp (show j < 2 ^ 31 by omega)
  rw [en_X7_sideOf]
  simp only [cs8_0, cs8_1, cs8_2, cs8_3, cs8_4, decide_eq_true_eq, ev_ald0, ev_aldn0, ev_cs3, ev_gi, ev_go, ev_gr, ev_i, ev_ia, ev_if0, ev_ild1, ev_ri, i00, i01, i10, pm_bd_s, pm_tl_n, pm_tl_s, ↓reduceIte, pb_X7_sideOf_0, pb_X7_sideOf_1, pb_X7_sideOf_2, kd_17, rf_17_0, rf_17_1, rf_17_2, rf_17_3, rf_17_4, rf_17_5, rf_17_6, is_7_17, kd_52, al_52, sp_isIn, hn, bI_0, e, hix, hcl, not_true_eq_false]
theorem sp_alongOf {j : Nat} (hn : h.1 17 7 = nI n) (hn24 : n ≤ 24) (hj : j ≤ n) : rs fb (d + 2) n_X7_alongOf [.ref 17, .int (nI j)] h = some (some (.int (h.1 53 j)), h) := by
  have e : (0 ≤ nI j ∧ nI j ≤ nI n) = True := eq_true ⟨nI_pos' (by omega), nI_le hj (by omega)⟩
  have hix : pm_ix (nI j) 25 = true := pm_ix_n (by omega) (by omega)
  have hcl := nI_clamp (show j < 2 ^ 31 by omega)
  rw [en_X7_alongOf]
  simp only [cs8_0, cs8_1, cs8_2, cs8_3, cs8_4, decide_eq_true_eq, ev_ald0, ev_aldn0, ev_cs3, ev_gi, ev_go, ev_gr, ev_i, ev_ia, ev_if0, ev_ild1, ev_ri, i00, i01, i10, pm_bd_s, pm_tl_n, pm_tl_s, ↓reduceIte, pb_X7_alongOf_0, pb_X7_alongOf_1, pb_X7_alongOf_2, kd_17, rf_17_0, rf_17_1, rf_17_2, rf_17_3, rf_17_4, rf_17_5, rf_17_6, is_7_17, kd_53, al_53, sp_isIn, hn, bI_0, e, hix, hcl, not_true_eq_false]
theorem nI_m1 {n : Nat} (h : 0 < n) : nI n - 1 = nI (n - 1) := by
  obtain ⟨m, rfl⟩ : ∃ m, n = m + 1 := ⟨n - 1, by omega⟩
  exact nI_pred m
theorem sp_headingIn {j : Nat} (hn : h.1 17 7 = nI n) (hn24 : n ≤ 24) (hj : j < n) : rs fb (d + 2) n_X7_headingIn [.ref 17, .int (nI j)] h = some (some (.int (h.1 54 j)), h) := by
  have e : (0 ≤ nI j ∧ nI j ≤ nI n - 1) = True := eq_true ⟨nI_pos' (by omega), by rw [nI_m1 (by omega)]; exact nI_le (by omega) (by omega)⟩
  have hix : pm_ix (nI j) 24 = true := pm_ix_n (by omega) (by omega)
  have hcl := nI_clamp (show j < 2 ^ 31 by omega)
  rw [en_X7_headingIn]
  simp only [cs8_0, cs8_1, cs8_2, cs8_3, cs8_4, decide_eq_true_eq, ev_ald0, ev_aldn0, ev_bin, ev_cs3, ev_gi, ev_go, ev_gr, ev_i, ev_ia, ev_if0, ev_ild1, ev_ri, i00, i01, i10, pm_bd_s, pm_tl_n, pm_tl_s, ↓reduceIte, pb_X7_headingIn_0, pb_X7_headingIn_1, pb_X7_headingIn_2, kd_17, rf_17_0, rf_17_1, rf_17_2, rf_17_3, rf_17_4, rf_17_5, rf_17_6, is_7_17, kd_54, al_54, sp_isIn, hn, bI_0, e, hix, hcl, not_true_eq_false]
theorem sp_pushesIn {j : Nat} (hn : h.1 17 7 = nI n) (hn24 : n ≤ 24) (hj : j < n) : rs fb (d + 2) n_X7_pushesIn [.ref 17, .int (nI j)] h = some (some (.int (h.1 56 j)), h) := by
  have e : (0 ≤ nI j ∧ nI j ≤ nI n - 1) = True := eq_true ⟨nI_pos' (by omega), by rw [nI_m1 (by omega)]; exact nI_le (by omega) (by omega)⟩
  have hix : pm_ix (nI j) 24 = true := pm_ix_n (by omega) (by omega)
  have hcl := nI_clamp (show j < 2 ^ 31 by omega)
  rw [en_X7_pushesIn]
  simp only [cs8_0, cs8_1, cs8_2, cs8_3, cs8_4, decide_eq_true_eq, ev_ald0, ev_aldn0, ev_bin, ev_cs3, ev_gi, ev_go, ev_gr, ev_i, ev_ia, ev_if0, ev_ild1, ev_ri, i00, i01, i10, pm_bd_s, pm_tl_n, pm_tl_s, ↓reduceIte, pb_X7_pushesIn_0, pb_X7_pushesIn_1, pb_X7_pushesIn_2, kd_17, rf_17_0, rf_17_1, rf_17_2, rf_17_3, rf_17_4, rf_17_5, rf_17_6, is_7_17, kd_56, al_56, sp_isIn, hn, bI_0, e, hix, hcl, not_true_eq_false]
theorem sp_shortensIn {j : Nat} (hn : h.1 17 7 = nI n) (hn24 : n ≤ 24) (hj : j < n) : rs fb (d + 2) n_X7_shortensIn [.ref 17, .int (nI j)] h = some (some (.int (h.1 57 j)), h) := by
  have e : (0 ≤ nI j ∧ nI j ≤ nI n - 1) = True := eq_true ⟨nI_pos' (by omega), by rw [nI_m1 (by omega)]; exact nI_le (by omega) (by omega)⟩
  have hix : pm_ix (nI j) 24 = true := pm_ix_n (by omega) (by omega)
  have hcl := nI_clamp (show j < 2 ^ 31 by omega)
  rw [en_X7_shortensIn]
  simp only [cs8_0, cs8_1, cs8_2, cs8_3, cs8_4, decide_eq_true_eq, ev_ald0, ev_aldn0, ev_bin, ev_cs3, ev_gi, ev_go, ev_gr, ev_i, ev_ia, ev_if0, ev_ild1, ev_ri, i00, i01, i10, pm_bd_s, pm_tl_n, pm_tl_s, ↓reduceIte, pb_X7_shortensIn_0, pb_X7_shortensIn_1, pb_X7_shortensIn_2, kd_17, rf_17_0, rf_17_1, rf_17_2, rf_17_3, rf_17_4, rf_17_5, rf_17_6, is_7_17, kd_57, al_57, sp_isIn, hn, bI_0, e, hix, hcl, not_true_eq_false]
theorem sp_missSide (hn : h.1 17 7 = nI n) (hn24 : n ≤ 24) : rs fb (d + 1) n_X7_missSide [.ref 17] h = some (some (.int (h.1 52 n - h.1 17 8)), h) := by
  have hix : pm_ix (nI n) 25 = true := pm_ix_n (by omega) (by omega)
  have hcl := nI_clamp (show n < 2 ^ 31 by omega)
  rw [en_X7_missSide]
  simp only [ev_ald0, ev_aldn0, ev_bin, ev_gi, ev_gr, ev_ia, ev_ri, pb_X7_missSide_0, kd_17, rf_17_0, rf_17_1, rf_17_2, rf_17_3, rf_17_4, rf_17_5, rf_17_6, is_7_17, kd_52, al_52, hn, hix, hcl, ↓reduceIte]
theorem sp_missAlong (hn : h.1 17 7 = nI n) (hn24 : n ≤ 24) : rs fb (d + 1) n_X7_missAlong [.ref 17] h = some (some (.int (h.1 53 n - h.1 17 9)), h) := by
  have hix : pm_ix (nI n) 25 = true := pm_ix_n (by omega) (by omega)
  have hcl := nI_clamp (show n < 2 ^ 31 by omega)
  rw [en_X7_missAlong]
  simp only [ev_ald0, ev_aldn0, ev_bin, ev_gi, ev_gr, ev_ia, ev_ri, pb_X7_missAlong_0, kd_17, rf_17_0, rf_17_1, rf_17_2, rf_17_3, rf_17_4, rf_17_5, rf_17_6, is_7_17, kd_53, al_53, hn, hix, hcl, ↓reduceIte]
theorem sp_wholeMiss (hn : h.1 17 7 = nI n) (hn24 : n ≤ 24) : rs fb (d + 2) n_X7_wholeMiss [.ref 17] h = some (some (.int (ab32 (h.1 52 n - h.1 17 8) + ab32 (h.1 53 n - h.1 17 9))), h) := by
  rw [en_X7_wholeMiss]
  simp only [cs8_0, cs8_1, cs8_2, cs8_3, cs8_4, ev_ald0, ev_aldn0, ev_bin, ev_cv0, ev_m1, ev_ri, pm_bd_s, pm_tl_n, pm_tl_s, pb_X7_wholeMiss_0, kd_17, rf_17_0, rf_17_1, rf_17_2, rf_17_3, rf_17_4, rf_17_5, rf_17_6, is_7_17, sp_missSide hn hn24, sp_missAlong hn hn24, ↓reduceIte]
  rfl
theorem sp_distanceOf {j : Nat} {x y : Int32} (hn : h.1 17 7 = nI n) (hn24 : n ≤ 24) (hj : j ≤ n) : rs fb (d + 3) n_X7_distanceOf [.ref 17, .int (nI j), .int x, .int y] h = some (some (.int (ab32 (h.1 52 j - x) + ab32 (h.1 53 j - y))), h) := by
  rw [en_X7_distanceOf]
  simp only [cs8_0, cs8_1, cs8_2, cs8_3, cs8_4, ev_ald0, ev_aldn0, ev_bin, ev_cv1, ev_ild1, ev_ild2, ev_ild3, ev_m1, ev_ri, pm_bd_s, pm_tl_n, pm_tl_s, pb_X7_distanceOf_0, kd_17, rf_17_0, rf_17_1, rf_17_2, rf_17_3, rf_17_4, rf_17_5, rf_17_6, is_7_17, sp_sideOf hn hn24 hj, sp_alongOf hn hn24 hj, ↓reduceIte]
  rfl
/-- with a set of miles as the only checks -/
def btF (set : Int32) (i : Nat) : Int32 := (set.toUInt32 >>> ((nI i).toUInt32 &&& Int32.toUInt32 31)).toInt32 &&& 1
def owA (set : Int32) (L D : Nat → Int32) : Nat → Nat → Int32 → Int32 → Int32
  | _, 0, _, a => a
  | i, k + 1, t, a => owA set L D (i + 1) k ((if btF set i = 1 then 0 else t) + L i) (a + (((if btF set i = 1 then 0 else t) + L i) + D i))
set_option maxRecDepth 100000 in
theorem lp_offW {set : Int32} (hn : h.1 17 7 = nI n) (hn24 : n ≤ 24) : ∀ (k i : Nat) (t a : Int32), i + k = n → pm_ev P_X7_offWithChecks (rs fb d) (P_X7_offWithChecks 1) [some (.ref 17), some (.int set), some (.int t), some (.int a), some (.int (nI i))] [] h = some (some (.int (ab32 (owA set (h.1 55) (h.1 58) i k t a - h.1 17 8))), h) := by
  intro k
  induction k with
  | zero =>
    intro i t a hi
    have e1 : nI n ≤ nI i := nI_le (by omega) (by omega)
    rw [pb_X7_offWithChecks_1]
    simp only [c20, c2i, c2n, c2r, cs8_0, cs8_1, cs8_2, cs8_3, cs8_4, decide_eq_true_eq, ev_ald0, ev_aldn0, ev_bin, ev_gi, ev_go, ev_gr, ev_i, ev_ia, ev_if2, ev_ild1, ev_ild2, ev_ild3, ev_ild4, ev_inc4, ev_ist2, ev_ist3, ev_ist4, ev_m1, ev_ri, i00, i01, i10, ↓reduceIte, pb_X7_offWithChecks_3, kd_17, rf_17_0, rf_17_1, rf_17_2, rf_17_3, rf_17_4, rf_17_5, rf_17_6, is_7_17, hn, e1]
    rfl
  | succ k ih =>
    intro i t a hi
    have e1 : ¬ nI n ≤ nI i := nI_ge (by omega) (by omega)
    have hix : pm_ix (nI i) 24 = true := pm_ix_n (by omega) (by omega)
    have hcl := nI_clamp (show i < 2 ^ 31 by omega)
    rw [pb_X7_offWithChecks_1, owA]
    by_cases hb : btF set i = 1
    · have hb2 : (((set.toUInt32 >>> ((nI i).toUInt32 &&& Int32.toUInt32 31)).toInt32 &&& 1) = 1) = True := eq_true hb
      simp only [c20, c2i, c2n, c2r, cs8_0, cs8_1, cs8_2, cs8_3, cs8_4, decide_eq_true_eq, ev_ald0, ev_aldn0, ev_bin, ev_gi, ev_go, ev_gr, ev_i, ev_ia, ev_if2, ev_ild1, ev_ild2, ev_ild3, ev_ild4, ev_inc4, ev_ist2, ev_ist3, ev_ist4, ev_m1, ev_ri, i00, i01, i10, ↓reduceIte, pb_X7_offWithChecks_2, kd_17, rf_17_0, rf_17_1, rf_17_2, rf_17_3, rf_17_4, rf_17_5, rf_17_6, is_7_17, kd_55, al_55, kd_58, al_58, hn, e1, hb2, hix, hcl, nI_1, not_true_eq_false]
      rw [ih (i + 1) _ _ (by omega)]
      simp only [hb, ↓reduceIte]
    · have hb2 : (((set.toUInt32 >>> ((nI i).toUInt32 &&& Int32.toUInt32 31)).toInt32 &&& 1) = 1) = False := eq_false hb
      simp only [c20, c2i, c2n, c2r, cs8_0, cs8_1, cs8_2, cs8_3, cs8_4, decide_eq_true_eq, ev_ald0, ev_aldn0, ev_bin, ev_gi, ev_go, ev_gr, ev_i, ev_ia, ev_if2, ev_ild1, ev_ild2, ev_ild3, ev_ild4, ev_inc4, ev_ist2, ev_ist3, ev_ist4, ev_m1, ev_ri, i00, i01, i10, ↓reduceIte, pb_X7_offWithChecks_2, kd_17, rf_17_0, rf_17_1, rf_17_2, rf_17_3, rf_17_4, rf_17_5, rf_17_6, is_7_17, kd_55, al_55, kd_58, al_58, hn, e1, hb2, hix, hcl, nI_1, not_false_eq_true]
      rw [ih (i + 1) _ _ (by omega)]
      simp only [hb, ↓reduceIte]
def ofW (h : pm_HP) (n : Nat) (set : Int32) : Int32 := ab32 (owA set (h.1 55) (h.1 58) 0 n 0 0 - h.1 17 8)
theorem sp_offW {set : Int32} (hn : h.1 17 7 = nI n) (hn24 : n ≤ 24) : rs fb (d + 1) n_X7_offWithChecks [.ref 17, .int set] h = some (some (.int (ofW h n set)), h) := by
  rw [en_X7_offWithChecks]
  simp only [c20, c2i, c2n, c2r, cs8_0, cs8_1, cs8_2, cs8_3, cs8_4, decide_eq_true_eq, ev_ald0, ev_aldn0, ev_bin, ev_gi, ev_go, ev_gr, ev_i, ev_ia, ev_if2, ev_ild1, ev_ild2, ev_ild3, ev_ild4, ev_inc4, ev_ist2, ev_ist3, ev_ist4, ev_m1, ev_ri, i00, i01, i10, ↓reduceIte, pb_X7_offWithChecks_0]
  have e := lp_offW (fb := fb) (d := d) (set := set) hn hn24 n 0 0 0 (by omega)
  rw [nI_0] at e
  exact e
/-- the first set that is least -/
def bsA (off : Int32 → Int32) (cand : Nat → Int32) : Nat → Nat → Int32 × Int32 → Int32 × Int32
  | _, 0, b => b
  | i, k + 1, b => bsA off cand (i + 1) k (if off (cand i) < b.2 then (cand i, off (cand i)) else b)
def c1F (i : Nat) : Int32 := 1 <<< (nI i &&& 31)
set_option maxRecDepth 100000 in
theorem lp_bestCheck (hn : h.1 17 7 = nI n) (hn24 : n ≤ 24) : ∀ (k i : Nat) (b : Int32 × Int32) (x : Option Value), i + k = n → (pm_c2 x = false) → pm_ev P_X7_bestCheck (rs fb (d + 1)) (P_X7_bestCheck 1) [some (.ref 17), some (.int b.1), some (.int b.2), some (.int (nI i)), x] [] h = some (some (.int (bsA (ofW h n) c1F i k b).1), h) := by
  intro k
  induction k with
  | zero =>
    intro i b x hi hx
    have e1 : nI n ≤ nI i := nI_le (by omega) (by omega)
    rw [pb_X7_bestCheck_1]
    simp only [c20, c2i, c2n, c2r, cs8_0, cs8_1, cs8_2, cs8_3, cs8_4, decide_eq_true_eq, ev_ald0, ev_aldn0, ev_bin, ev_cv1, ev_gi, ev_go, ev_i, ev_if2, ev_ild1, ev_ild2, ev_ild3, ev_ild4, ev_inc3, ev_ist1, ev_ist2, ev_ist3, ev_ist4, ev_ri, i00, i01, i10, pm_bd_s, pm_tl_n, pm_tl_s, ↓reduceIte, pb_X7_bestCheck_3, kd_17, rf_17_0, rf_17_1, rf_17_2, rf_17_3, rf_17_4, rf_17_5, rf_17_6, is_7_17, hn, e1, bsA]
  | succ k ih =>
    intro i b x hi hx
    have e1 : ¬ nI n ≤ nI i := nI_ge (by omega) (by omega)
    have ec : (1 : Int32) <<< (nI i &&& 31) = c1F i := rfl
    rw [pb_X7_bestCheck_1, bsA]
    by_cases hb : b.2 ≤ ofW h n (c1F i)
    · have hb3 : ¬ ofW h n (c1F i) < b.2 := Int32.not_lt.mpr hb
      simp only [c20, c2i, c2n, c2r, cs8_0, cs8_1, cs8_2, cs8_3, cs8_4, decide_eq_true_eq, ev_ald0, ev_aldn0, ev_bin, ev_cv1, ev_gi, ev_go, ev_i, ev_if2, ev_ild1, ev_ild2, ev_ild3, ev_ild4, ev_inc3, ev_ist1, ev_ist2, ev_ist3, ev_ist4, ev_ri, i00, i01, i10, pm_bd_s, pm_tl_n, pm_tl_s, ↓reduceIte, pb_X7_bestCheck_2, kd_17, rf_17_0, rf_17_1, rf_17_2, rf_17_3, rf_17_4, rf_17_5, rf_17_6, is_7_17, hn, e1, ec, sp_offW hn hn24, hb, hb3, nI_1]
      exact ih (i + 1) b _ (by omega) rfl
    · have hb3 : ofW h n (c1F i) < b.2 := Int32.not_le.mp hb
      simp only [c20, c2i, c2n, c2r, cs8_0, cs8_1, cs8_2, cs8_3, cs8_4, decide_eq_true_eq, ev_ald0, ev_aldn0, ev_bin, ev_cv1, ev_gi, ev_go, ev_i, ev_if2, ev_ild1, ev_ild2, ev_ild3, ev_ild4, ev_inc3, ev_ist1, ev_ist2, ev_ist3, ev_ist4, ev_ri, i00, i01, i10, pm_bd_s, pm_tl_n, pm_tl_s, ↓reduceIte, pb_X7_bestCheck_2, kd_17, rf_17_0, rf_17_1, rf_17_2, rf_17_3, rf_17_4, rf_17_5, rf_17_6, is_7_17, hn, e1, ec, sp_offW hn hn24, hb, hb3, nI_1]
      exact ih (i + 1) (c1F i, ofW h n (c1F i)) _ (by omega) rfl
theorem sp_bestCheck (hn : h.1 17 7 = nI n) (hn24 : n ≤ 24) (hn1 : 1 ≤ n) : rs fb (d + 2) n_X7_bestCheck [.ref 17] h = some (some (.int (bsA (ofW h n) c1F 1 (n - 1) (1, ofW h n 1)).1), h) := by
  rw [en_X7_bestCheck]
  simp only [c20, c2i, c2n, c2r, cs8_0, cs8_1, cs8_2, cs8_3, cs8_4, decide_eq_true_eq, ev_ald0, ev_aldn0, ev_bin, ev_cv1, ev_gi, ev_go, ev_i, ev_if2, ev_ild1, ev_ild2, ev_ild3, ev_ild4, ev_inc3, ev_ist1, ev_ist2, ev_ist3, ev_ist4, ev_ri, i00, i01, i10, pm_bd_s, pm_tl_n, pm_tl_s, ↓reduceIte, pb_X7_bestCheck_0, kd_17, rf_17_0, rf_17_1, rf_17_2, rf_17_3, rf_17_4, rf_17_5, rf_17_6, is_7_17, sp_offW hn hn24]
  exact lp_bestCheck (fb := fb) (d := d) hn hn24 (n - 1) 1 (1, ofW h n 1) none (by omega) rfl
def c2F (l i : Nat) : Int32 := c1F l ||| c1F i
set_option maxRecDepth 100000 in
theorem lp_pairI (hn : h.1 17 7 = nI n) (hn24 : n ≤ 24) {l : Nat} (hl : l < n) : ∀ (k i : Nat) (b : Int32 × Int32) (x y : Option Value), i + k = l → (pm_c2 x = false) → (pm_c2 y = false) → ∃ x' y', pm_c2 x' = false ∧ pm_c2 y' = false ∧ pm_ev P_X7_bestPairOfChecks (rs fb (d + 1)) (P_X7_bestPairOfChecks 2) [some (.ref 17), some (.int b.1), some (.int b.2), some (.int (nI l)), some (.int (nI i)), x, y] [] h = pm_ev P_X7_bestPairOfChecks (rs fb (d + 1)) (P_X7_bestPairOfChecks 1) [some (.ref 17), some (.int (bsA (ofW h n) (c2F l) i k b).1), some (.int (bsA (ofW h n) (c2F l) i k b).2), some (.int (nI (l + 1))), some (.int (nI l)), x', y'] [] h := by
  intro k
  induction k with
  | zero =>
    intro i b x y hi hx hy
    have e1 : nI l ≤ nI i := nI_le (by omega) (by omega)
    refine ⟨x, y, hx, hy, ?_⟩
    conv => lhs; rw [pb_X7_bestPairOfChecks_2]
    simp only [c20, c2i, c2n, c2r, cs8_0, cs8_1, cs8_2, cs8_3, cs8_4, decide_eq_true_eq, ev_ald0, ev_aldn0, ev_bin, ev_cv1, ev_gi, ev_go, ev_i, ev_if2, ev_ild1, ev_ild2, ev_ild3, ev_ild4, ev_ild5, ev_ild6, ev_inc3, ev_inc4, ev_ist1, ev_ist2, ev_ist3, ev_ist4, ev_ist5, ev_ist6, ev_ri, i00, i01, i10, pm_bd_s, pm_tl_n, pm_tl_s, ↓reduceIte, pb_X7_bestPairOfChecks_4, kd_17, rf_17_0, rf_17_1, rf_17_2, rf_17_3, rf_17_4, rf_17_5, rf_17_6, is_7_17, e1, bsA, nI_1]
    rw [show i = l by omega]
  | succ k ih =>
    intro i b x y hi hx hy
    have e1 : ¬ nI l ≤ nI i := nI_ge (by omega) (by omega)
    have ec : (1 : Int32) <<< (nI i &&& 31) = c1F i := rfl
    have ed : (1 : Int32) <<< (nI l &&& 31) = c1F l := rfl
    have ee : c1F l ||| c1F i = c2F l i := rfl
    rw [bsA]
    by_cases hb : b.2 ≤ ofW h n (c2F l i)
    · have hb3 : ¬ ofW h n (c2F l i) < b.2 := Int32.not_lt.mpr hb
      rw [if_neg hb3]
      obtain ⟨x', y', hx', hy', r⟩ := ih (i + 1) b (some (.int (c2F l i))) (some (.int (ofW h n (c2F l i)))) (by omega) rfl rfl
      refine ⟨x', y', hx', hy', ?_⟩
      rw [← r]
      conv => lhs; rw [pb_X7_bestPairOfChecks_2]
      simp only [c20, c2i, c2n, c2r, cs8_0, cs8_1, cs8_2, cs8_3, cs8_4, decide_eq_true_eq, ev_ald0, ev_aldn0, ev_bin, ev_cv1, ev_gi, ev_go, ev_i, ev_if2, ev_ild1, ev_ild2, ev_ild3, ev_ild4, ev_ild5, ev_ild6, ev_inc3, ev_inc4, ev_ist1, ev_ist2, ev_ist3, ev_ist4, ev_ist5, ev_ist6, ev_ri, i00, i01, i10, pm_bd_s, pm_tl_n, pm_tl_s, ↓reduceIte, pb_X7_bestPairOfChecks_3, kd_17, rf_17_0, rf_17_1, rf_17_2, rf_17_3, rf_17_4, rf_17_5, rf_17_6, is_7_17, hn, e1, ec, ed, ee, sp_offW hn hn24, hb, nI_1]
    · have hb3 : ofW h n (c2F l i) < b.2 := Int32.not_le.mp hb
      rw [if_pos hb3]
      obtain ⟨x', y', hx', hy', r⟩ := ih (i + 1) (c2F l i, ofW h n (c2F l i)) (some (.int (c2F l i))) (some (.int (ofW h n (c2F l i)))) (by omega) rfl rfl
      refine ⟨x', y', hx', hy', ?_⟩
      rw [← r]
      conv => lhs; rw [pb_X7_bestPairOfChecks_2]
      simp only [c20, c2i, c2n, c2r, cs8_0, cs8_1, cs8_2, cs8_3, cs8_4, decide_eq_true_eq, ev_ald0, ev_aldn0, ev_bin, ev_cv1, ev_gi, ev_go, ev_i, ev_if2, ev_ild1, ev_ild2, ev_ild3, ev_ild4, ev_ild5, ev_ild6, ev_inc3, ev_inc4, ev_ist1, ev_ist2, ev_ist3, ev_ist4, ev_ist5, ev_ist6, ev_ri, i00, i01, i10, pm_bd_s, pm_tl_n, pm_tl_s, ↓reduceIte, pb_X7_bestPairOfChecks_3, kd_17, rf_17_0, rf_17_1, rf_17_2, rf_17_3, rf_17_4, rf_17_5, rf_17_6, is_7_17, hn, e1, ec, ed, ee, sp_offW hn hn24, hb, nI_1]
/-- all pairs, the later mile outside -/
def bpA (off : Int32 → Int32) : Nat → Nat → Int32 × Int32 → Int32 × Int32
  | _, 0, b => b
  | l, k + 1, b => bpA off (l + 1) k (bsA off (c2F l) 0 l b)
set_option maxRecDepth 100000 in
theorem lp_pairO (hn : h.1 17 7 = nI n) (hn24 : n ≤ 24) : ∀ (k l : Nat) (b : Int32 × Int32) (z x y : Option Value), l + k = n → (pm_c2 z = false) → (pm_c2 x = false) → (pm_c2 y = false) → pm_ev P_X7_bestPairOfChecks (rs fb (d + 1)) (P_X7_bestPairOfChecks 1) [some (.ref 17), some (.int b.1), some (.int b.2), some (.int (nI l)), z, x, y] [] h = some (some (.int (bpA (ofW h n) l k b).1), h) := by
  intro k
  induction k with
  | zero =>
    intro l b z x y hi hz hx hy
    have e1 : nI n ≤ nI l := nI_le (by omega) (by omega)
    rw [pb_X7_bestPairOfChecks_1]
    simp only [c20, c2i, c2n, c2r, cs8_0, cs8_1, cs8_2, cs8_3, cs8_4, decide_eq_true_eq, ev_ald0, ev_aldn0, ev_bin, ev_cv1, ev_gi, ev_go, ev_i, ev_if2, ev_ild1, ev_ild2, ev_ild3, ev_ild4, ev_ild5, ev_ild6, ev_inc3, ev_inc4, ev_ist1, ev_ist2, ev_ist3, ev_ist4, ev_ist5, ev_ist6, ev_ri, i00, i01, i10, pm_bd_s, pm_tl_n, pm_tl_s, ↓reduceIte, pb_X7_bestPairOfChecks_5, kd_17, rf_17_0, rf_17_1, rf_17_2, rf_17_3, rf_17_4, rf_17_5, rf_17_6, is_7_17, hn, e1, bpA]
  | succ k ih =>
    intro l b z x y hi hz hx hy
    have e1 : ¬ nI n ≤ nI l := nI_ge (by omega) (by omega)
    obtain ⟨x', y', hx', hy', r⟩ := lp_pairI (fb := fb) (d := d) hn hn24 (show l < n by omega) l 0 b x y (by omega) hx hy
    rw [nI_0] at r
    rw [pb_X7_bestPairOfChecks_1, bpA]
    simp only [c20, c2i, c2n, c2r, cs8_0, cs8_1, cs8_2, cs8_3, cs8_4, decide_eq_true_eq, ev_ald0, ev_aldn0, ev_bin, ev_cv1, ev_gi, ev_go, ev_i, ev_if2, ev_ild1, ev_ild2, ev_ild3, ev_ild4, ev_ild5, ev_ild6, ev_inc3, ev_inc4, ev_ist1, ev_ist2, ev_ist3, ev_ist4, ev_ist5, ev_ist6, ev_ri, i00, i01, i10, pm_bd_s, pm_tl_n, pm_tl_s, ↓reduceIte, pb_X7_bestPairOfChecks_5, kd_17, rf_17_0, rf_17_1, rf_17_2, rf_17_3, rf_17_4, rf_17_5, rf_17_6, is_7_17, hn, e1, r]
    exact ih (l + 1) _ _ _ _ (by omega) rfl hx' hy'
theorem sp_bestPair (hn : h.1 17 7 = nI n) (hn24 : n ≤ 24) (hn1 : 2 ≤ n) : rs fb (d + 2) n_X7_bestPairOfChecks [.ref 17] h = some (some (.int (bpA (ofW h n) 2 (n - 2) (3, ofW h n 3)).1), h) := by
  rw [en_X7_bestPairOfChecks]
  simp only [c20, c2i, c2n, c2r, cs8_0, cs8_1, cs8_2, cs8_3, cs8_4, decide_eq_true_eq, ev_ald0, ev_aldn0, ev_bin, ev_cv1, ev_gi, ev_go, ev_i, ev_if2, ev_ild1, ev_ild2, ev_ild3, ev_ild4, ev_ild5, ev_ild6, ev_inc3, ev_inc4, ev_ist1, ev_ist2, ev_ist3, ev_ist4, ev_ist5, ev_ist6, ev_ri, i00, i01, i10, pm_bd_s, pm_tl_n, pm_tl_s, ↓reduceIte, pb_X7_bestPairOfChecks_0, kd_17, rf_17_0, rf_17_1, rf_17_2, rf_17_3, rf_17_4, rf_17_5, rf_17_6, is_7_17, sp_offW hn hn24]
  exact lp_pairO (fb := fb) (d := d) hn hn24 (n - 2) 2 (3, ofW h n 3) none none none (by omega) rfl rfl rfl
/-- sums in longs -/
def lsA (g : Nat → Int64) : Nat → Nat → Int64 → Int64
  | _, 0, a => a
  | i, k + 1, a => lsA g (i + 1) k (a + g i)
set_option maxRecDepth 100000 in
theorem lp_sumSides (hn : h.1 17 7 = nI n) (hn24 : n ≤ 24) : ∀ (k i : Nat) (a : Int64), i + k = n + 1 → pm_ev P_X7_sumOfSides (rs fb d) (P_X7_sumOfSides 1) [some (.ref 17), some (.long a), none, some (.int (nI i))] [] h = some (some (.long (lsA (fun j => (nI j).toInt64 * (h.1 52 j).toInt64) i k a)), h) := by
  intro k
  induction k with
  | zero =>
    intro i a hi
    have e1 : nI n < nI i := nI_lt (by omega) (by omega)
    rw [pb_X7_sumOfSides_1]
    simp only [c20, c2i, c2n, c2r, decide_eq_true_eq, ev_ald0, ev_aldn0, ev_gi, ev_go, ev_gr, ev_i, ev_i2l, ev_ia, ev_if2, ev_ild3, ev_inc3, ev_ist3, ev_l, ev_lbin, ev_lld1, ev_lst1, ev_rl, i00, i01, i10, ↓reduceIte, pb_X7_sumOfSides_2, kd_17, rf_17_0, rf_17_1, rf_17_2, rf_17_3, rf_17_4, rf_17_5, rf_17_6, is_7_17, hn, e1, lsA]
  | succ k ih =>
    intro i a hi
    have e1 : ¬ nI n < nI i := nI_nlt (by omega) (by omega)
    have hix : pm_ix (nI i) 25 = true := pm_ix_n (by omega) (by omega)
    have hcl := nI_clamp (show i < 2 ^ 31 by omega)
    rw [pb_X7_sumOfSides_1, lsA]
    simp only [c20, c2i, c2n, c2r, decide_eq_true_eq, ev_ald0, ev_aldn0, ev_gi, ev_go, ev_gr, ev_i, ev_i2l, ev_ia, ev_if2, ev_ild3, ev_inc3, ev_ist3, ev_l, ev_lbin, ev_lld1, ev_lst1, ev_rl, i00, i01, i10, ↓reduceIte, pb_X7_sumOfSides_2, kd_17, rf_17_0, rf_17_1, rf_17_2, rf_17_3, rf_17_4, rf_17_5, rf_17_6, is_7_17, kd_52, al_52, hn, e1, hix, hcl, nI_1]
    exact ih (i + 1) _ (by omega)
theorem sp_sumSides (hn : h.1 17 7 = nI n) (hn24 : n ≤ 24) : rs fb (d + 1) n_X7_sumOfSides [.ref 17] h = some (some (.long (lsA (fun j => (nI j).toInt64 * (h.1 52 j).toInt64) 1 n 0)), h) := by
  rw [en_X7_sumOfSides]
  simp only [c20, c2i, c2n, c2r, decide_eq_true_eq, ev_ald0, ev_aldn0, ev_gi, ev_go, ev_gr, ev_i, ev_i2l, ev_ia, ev_if2, ev_ild3, ev_inc3, ev_ist3, ev_l, ev_lbin, ev_lld1, ev_lst1, ev_rl, i00, i01, i10, ↓reduceIte, pb_X7_sumOfSides_0]
  exact lp_sumSides (fb := fb) (d := d) hn hn24 n 1 0 (by omega)
set_option maxRecDepth 100000 in
theorem lp_sumSq (hn : h.1 17 7 = nI n) (hn24 : n ≤ 24) : ∀ (k i : Nat) (a : Int64), i + k = n + 1 → pm_ev P_X7_sumOfSquares (rs fb d) (P_X7_sumOfSquares 1) [some (.ref 17), some (.long a), none, some (.int (nI i))] [] h = some (some (.long (lsA (fun j => (nI j).toInt64 * (nI j).toInt64) i k a)), h) := by
  intro k
  induction k with
  | zero =>
    intro i a hi
    have e1 : nI n < nI i := nI_lt (by omega) (by omega)
    rw [pb_X7_sumOfSquares_1]
    simp only [c20, c2i, c2n, c2r, decide_eq_true_eq, ev_ald0, ev_aldn0, ev_gi, ev_go, ev_i, ev_i2l, ev_if2, ev_ild3, ev_inc3, ev_ist3, ev_l, ev_lbin, ev_lld1, ev_lst1, ev_rl, i00, i01, i10, ↓reduceIte, pb_X7_sumOfSquares_2, kd_17, rf_17_0, rf_17_1, rf_17_2, rf_17_3, rf_17_4, rf_17_5, rf_17_6, is_7_17, hn, e1, lsA]
  | succ k ih =>
    intro i a hi
    have e1 : ¬ nI n < nI i := nI_nlt (by omega) (by omega)
    rw [pb_X7_sumOfSquares_1, lsA]
    simp only [c20, c2i, c2n, c2r, decide_eq_true_eq, ev_ald0, ev_aldn0, ev_gi, ev_go, ev_i, ev_i2l, ev_if2, ev_ild3, ev_inc3, ev_ist3, ev_l, ev_lbin, ev_lld1, ev_lst1, ev_rl, i00, i01, i10, ↓reduceIte, pb_X7_sumOfSquares_2, kd_17, rf_17_0, rf_17_1, rf_17_2, rf_17_3, rf_17_4, rf_17_5, rf_17_6, is_7_17, hn, e1, nI_1]
    exact ih (i + 1) _ (by omega)
theorem sp_sumSq (hn : h.1 17 7 = nI n) (hn24 : n ≤ 24) : rs fb (d + 1) n_X7_sumOfSquares [.ref 17] h = some (some (.long (lsA (fun j => (nI j).toInt64 * (nI j).toInt64) 1 n 0)), h) := by
  rw [en_X7_sumOfSquares]
  simp only [c20, c2i, c2n, c2r, decide_eq_true_eq, ev_ald0, ev_aldn0, ev_gi, ev_go, ev_i, ev_i2l, ev_if2, ev_ild3, ev_inc3, ev_ist3, ev_l, ev_lbin, ev_lld1, ev_lst1, ev_rl, i00, i01, i10, ↓reduceIte, pb_X7_sumOfSquares_0]
  exact lp_sumSq (fb := fb) (d := d) hn hn24 n 1 0 (by omega)
theorem sp_offStraight {j : Nat} (hn : h.1 17 7 = nI n) (hn24 : n ≤ 24) (hj : j ≤ n) : rs fb (d + 3) n_X7_offStraight [.ref 17, .int (nI j)] h = some (some (.long (ab64 ((h.1 52 j).toInt64 * lsA (fun j => (nI j).toInt64 * (nI j).toInt64) 1 n 0 - lsA (fun j => (nI j).toInt64 * (h.1 52 j).toInt64) 1 n 0 * (nI j).toInt64))), h) := by
  rw [en_X7_offStraight]
  simp only [cs8_0, cs8_1, cs8_2, cs8_3, cs8_4, ev_ald0, ev_aldn0, ev_cv0, ev_cv1, ev_i2l, ev_ild1, ev_lbin, ev_ml, ev_rl, pm_bd_s, pm_tl_n, pm_tl_s, pb_X7_offStraight_0, kd_17, rf_17_0, rf_17_1, rf_17_2, rf_17_3, rf_17_4, rf_17_5, rf_17_6, is_7_17, sp_sideOf hn hn24 hj, sp_sumSq hn hn24, sp_sumSides hn hn24, ↓reduceIte]
  rfl
end W2
