/-! PAIRS OF CALLS: even -/
def sp4 (h : pm_HP) (k : Nat) : Nat → Int32
  | 0 => h.1 74 (24 * k + 0) - 0
  | j + 1 => h.1 74 (24 * k + (j + 1)) - h.1 74 (24 * k + j)
def pB4 (h : pm_HP) (k j : Nat) : Bool := decide (sp4 h k j = sp4 h k (j - 1))
def fiE (y a l : Int32) : Int32 := if y = 0 then a else if l < 3 then 0 else 1
theorem lgA_congr {p q : Nat → Bool} : ∀ (m i : Nat) (l r : Int32), (∀ s, i ≤ s → s < i + m → p s = q s) → lgA p i m l r = lgA q i m l r
  | 0, i, l, r, _ => rfl
  | m + 1, i, l, r, h => by
    rw [lgA, lgA, h i (by omega) (by omega)]
    exact lgA_congr m (i + 1) _ _ (fun s h1 h2 => h s (by omega) (by omega))
section PI
variable {fb : Bool} {d : Nat} {h : pm_HP}
theorem nu_eq {k z j : Nat} (hz : h.1 (23 + k) 2 = nI z) (hz2 : z ≤ 24) (hr : ∀ i, i < 24 → h.1 (48 + k) i = h.1 74 (24 * k + i)) (hj : j < z) : nuF h k (nI j) = h.1 74 (24 * k + j) := by
  unfold nuF
  rw [hz, if_pos ⟨nI_pos' (by omega), nI_lt hj (by omega)⟩, nI_clamp (by omega), hr j (by omega)]
theorem st_eq {k z j : Nat} (hz : h.1 (23 + k) 2 = nI z) (hz2 : z ≤ 24) (hr : ∀ i, i < 24 → h.1 (48 + k) i = h.1 74 (24 * k + i)) (hj : j < z) : stF h k (nI j) = sp4 h k j := by
  unfold stF
  rw [nu_eq hz hz2 hr hj]
  cases j with
  | zero =>
    have e : nuF h k (nI 0 - 1) = 0 := by
      unfold nuF
      rw [if_neg (fun c => absurd c.1 (by decide))]
    rw [e]; rfl
  | succ t =>
    rw [nI_p1, nu_eq hz hz2 hr (by omega)]; rfl
theorem ev_eq {k z j : Nat} (hz : h.1 (23 + k) 2 = nI z) (hz2 : z ≤ 24) (hr : ∀ i, i < 24 → h.1 (48 + k) i = h.1 74 (24 * k + i)) (h1 : 1 ≤ j) (hj : j < z) : evB h k j = pB4 h k j := by
  obtain ⟨t, rfl⟩ : ∃ t, j = t + 1 := ⟨j - 1, by omega⟩
  unfold evB pB4
  rw [nI_p1, st_eq hz hz2 hr hj, st_eq hz hz2 hr (by omega)]
  rfl
set_option maxRecDepth 100000 in
theorem lp_even {k z : Nat} {y : Int32} (hk : k < 4) (hy : y = 0 ∨ y = 1) (hz : h.1 73 k = nI z) (hz2 : z ≤ 24) : ∀ (m t : Nat) (a r l : Int32) (p8 p9 : Option Value), t + 1 + m = z → pm_c2 p8 = false → pm_c2 p9 = false → pm_ev P_X9_even (rs fb (d + 2)) (P_X9_even 4) [some (.ref 59), some (.int (nI k)), some (.int y), some (.int a), some (.int r), some (.int l), some (.int (sp4 h k t)), some (.int (nI (t + 1))), p8, p9] [] h = some (some (.int (fiE y (smA (pB4 h k) (fun _ => 1) (t + 1) m a) (lgA (pB4 h k) (t + 1) m l r))), h) := by
  have xk : pm_ix (nI k) 4 = true := pm_ix_n hk (by omega)
  have ck := nI_clamp (show k < 2 ^ 31 by omega)
  intro m
  induction m with
  | zero =>
    intro t a r l p8 p9 hi h8 h9
    have e1 : nI z ≤ nI (t + 1) := nI_le (by omega) (by omega)
    have z10 : ((1 : Int32) = 0) = False := by decide
    rw [pb_X9_even_4]
    rcases hy with rfl | rfl
    · simp only [c20, c2i, c2n, c2r, cs8_0, cs8_1, cs8_2, cs8_3, cs8_4, decide_eq_true_eq, ev_ald0, ev_aldn0, ev_bin, ev_cs1, ev_cs3, ev_cv1, ev_go, ev_gr, ev_i, ev_ia, ev_if0, ev_if2, ev_ild1, ev_ild2, ev_ild3, ev_ild4, ev_ild5, ev_ild6, ev_ild7, ev_ild8, ev_ild9, ev_inc7, ev_ist3, ev_ist4, ev_ist5, ev_ist6, ev_ist7, ev_ist8, ev_ist9, ev_m2, ev_ri, i00, i01, i10, not_false_eq_true, not_true_eq_false, pm_bd_s, pm_tl_n, pm_tl_s, ↓reduceIte, pb_X9_even_13, pb_X9_even_14, pb_X9_even_15, pb_X9_even_16, kd_59, rf_59_0, rf_59_1, rf_59_3, rf_59_4, rf_59_5, rf_59_6, rf_59_7, rf_59_12, rf_59_14, rf_59_15, rf_59_16, rf_59_19, rf_59_23, rf_59_24, rf_59_25, rf_59_26, is_9_59, kd_73, al_73, xk, ck, hz, e1, smA, lgA, fiE, not_true_eq_false, if_true, if_false]
    · by_cases q : l < 3
      · simp only [c20, c2i, c2n, c2r, cs8_0, cs8_1, cs8_2, cs8_3, cs8_4, decide_eq_true_eq, ev_ald0, ev_aldn0, ev_bin, ev_cs1, ev_cs3, ev_cv1, ev_go, ev_gr, ev_i, ev_ia, ev_if0, ev_if2, ev_ild1, ev_ild2, ev_ild3, ev_ild4, ev_ild5, ev_ild6, ev_ild7, ev_ild8, ev_ild9, ev_inc7, ev_ist3, ev_ist4, ev_ist5, ev_ist6, ev_ist7, ev_ist8, ev_ist9, ev_m2, ev_ri, i00, i01, i10, not_false_eq_true, not_true_eq_false, pm_bd_s, pm_tl_n, pm_tl_s, ↓reduceIte, pb_X9_even_13, pb_X9_even_14, pb_X9_even_15, pb_X9_even_16, kd_59, rf_59_0, rf_59_1, rf_59_3, rf_59_4, rf_59_5, rf_59_6, rf_59_7, rf_59_12, rf_59_14, rf_59_15, rf_59_16, rf_59_19, rf_59_23, rf_59_24, rf_59_25, rf_59_26, is_9_59, kd_73, al_73, xk, ck, hz, e1, smA, lgA, fiE, z10, not_false_eq_true, q, if_true, if_false]
      · simp only [c20, c2i, c2n, c2r, cs8_0, cs8_1, cs8_2, cs8_3, cs8_4, decide_eq_true_eq, ev_ald0, ev_aldn0, ev_bin, ev_cs1, ev_cs3, ev_cv1, ev_go, ev_gr, ev_i, ev_ia, ev_if0, ev_if2, ev_ild1, ev_ild2, ev_ild3, ev_ild4, ev_ild5, ev_ild6, ev_ild7, ev_ild8, ev_ild9, ev_inc7, ev_ist3, ev_ist4, ev_ist5, ev_ist6, ev_ist7, ev_ist8, ev_ist9, ev_m2, ev_ri, i00, i01, i10, not_false_eq_true, not_true_eq_false, pm_bd_s, pm_tl_n, pm_tl_s, ↓reduceIte, pb_X9_even_13, pb_X9_even_14, pb_X9_even_15, pb_X9_even_16, kd_59, rf_59_0, rf_59_1, rf_59_3, rf_59_4, rf_59_5, rf_59_6, rf_59_7, rf_59_12, rf_59_14, rf_59_15, rf_59_16, rf_59_19, rf_59_23, rf_59_24, rf_59_25, rf_59_26, is_9_59, kd_73, al_73, xk, ck, hz, e1, smA, lgA, fiE, z10, not_false_eq_true, q, if_true, if_false]
  | succ m ih =>
    intro t a r l p8 p9 hi h8 h9
    have e1 : ¬ nI z ≤ nI (t + 1) := nI_ge (by omega) (by omega)
    have e : (24 : Int32) * nI k + nI (t + 1) = nI (24 * k + (t + 1)) := by
      show nI 24 * nI k + nI (t + 1) = _
      rw [nI_mul, nI_add]
    have e2 : nI (24 * k + (t + 1)) - 1 = nI (24 * k + t) := nI_p1 (24 * k + t)
    have x1 : pm_ix (nI (24 * k + (t + 1))) 96 = true := pm_ix_n (by omega) (by omega)
    have c1 := nI_clamp (show 24 * k + (t + 1) < 2 ^ 31 by omega)
    have x2 : pm_ix (nI (24 * k + t)) 96 = true := pm_ix_n (by omega) (by omega)
    have c2 := nI_clamp (show 24 * k + t < 2 ^ 31 by omega)
    have n0 : (nI (t + 1) = 0) = False := nz_of (by omega) (by omega)
    have np : ¬ nI (t + 1) ≤ 0 := nI_ge (a := 0) (by omega) (by omega)
    have es : h.1 74 (24 * k + (t + 1)) - h.1 74 (24 * k + t) = sp4 h k (t + 1) := rfl
    have pb : pB4 h k (t + 1) = decide (sp4 h k (t + 1) = sp4 h k t) := rfl
    rw [pb_X9_even_4, smA, lgA]
    by_cases q : sp4 h k (t + 1) = sp4 h k t
    · have pt : pB4 h k (t + 1) = true := by rw [pb]; simp [q]
      have i1 := ih (t + 1) (a + 1) (r + 1) (if l < r + 1 then r + 1 else l) (some (.int (sp4 h k t))) (some (.int 1)) (by omega) rfl rfl
      simp only [pt, if_true]
      rw [← i1]
      simp only [c20, c2i, c2n, c2r, cs8_0, cs8_1, cs8_2, cs8_3, cs8_4, decide_eq_true_eq, ev_ald0, ev_aldn0, ev_bin, ev_cs1, ev_cs3, ev_cv1, ev_go, ev_gr, ev_i, ev_ia, ev_if0, ev_if2, ev_ild1, ev_ild2, ev_ild3, ev_ild4, ev_ild5, ev_ild6, ev_ild7, ev_ild8, ev_ild9, ev_inc7, ev_ist3, ev_ist4, ev_ist5, ev_ist6, ev_ist7, ev_ist8, ev_ist9, ev_m2, ev_ri, i00, i01, i10, not_false_eq_true, not_true_eq_false, pm_bd_s, pm_tl_n, pm_tl_s, ↓reduceIte, pb_X9_even_5, pb_X9_even_6, pb_X9_even_7, pb_X9_even_8, pb_X9_even_9, pb_X9_even_10, pb_X9_even_11, pb_X9_even_12, nl_0_1, nl_0_2, nl_0_3, nl_0_4, nl_0_5, nl_0_6, nl_0_7, nl_0_8, nl_1_0, nl_1_2, nl_1_3, nl_1_4, nl_1_5, nl_1_6, nl_1_7, nl_1_8, nl_2_0, nl_2_1, nl_2_3, nl_2_4, nl_2_5, nl_2_6, nl_2_7, nl_2_8, nl_3_0, nl_3_1, nl_3_2, nl_3_4, nl_3_5, nl_3_6, nl_3_7, nl_3_8, nl_4_0, nl_4_1, nl_4_2, nl_4_3, nl_4_5, nl_4_6, nl_4_7, nl_4_8, nl_5_0, nl_5_1, nl_5_2, nl_5_3, nl_5_4, nl_5_6, nl_5_7, nl_5_8, nl_6_0, nl_6_1, nl_6_2, nl_6_3, nl_6_4, nl_6_5, nl_6_7, nl_6_8, nl_7_0, nl_7_1, nl_7_2, nl_7_3, nl_7_4, nl_7_5, nl_7_6, nl_7_8, nl_8_0, nl_8_1, nl_8_2, nl_8_3, nl_8_4, nl_8_5, nl_8_6, nl_8_7, kd_59, rf_59_0, rf_59_1, rf_59_3, rf_59_4, rf_59_5, rf_59_6, rf_59_7, rf_59_12, rf_59_14, rf_59_15, rf_59_16, rf_59_19, rf_59_23, rf_59_24, rf_59_25, rf_59_26, is_9_59, kd_73, al_73, kd_74, al_74, xk, ck, hz, e1, e, e2, x1, c1, x2, c2, n0, np, es, q, h8, h9, nI_1, not_true_eq_false, not_false_eq_true, if_true, if_false]
    · have pt : pB4 h k (t + 1) = false := by rw [pb]; simp [q]
      have i1 := ih (t + 1) a 0 (if l < 0 then 0 else l) (some (.int (sp4 h k t))) (some (.int 0)) (by omega) rfl rfl
      simp only [pt, Bool.false_eq_true, if_false]
      rw [← i1]
      simp only [c20, c2i, c2n, c2r, cs8_0, cs8_1, cs8_2, cs8_3, cs8_4, decide_eq_true_eq, ev_ald0, ev_aldn0, ev_bin, ev_cs1, ev_cs3, ev_cv1, ev_go, ev_gr, ev_i, ev_ia, ev_if0, ev_if2, ev_ild1, ev_ild2, ev_ild3, ev_ild4, ev_ild5, ev_ild6, ev_ild7, ev_ild8, ev_ild9, ev_inc7, ev_ist3, ev_ist4, ev_ist5, ev_ist6, ev_ist7, ev_ist8, ev_ist9, ev_m2, ev_ri, i00, i01, i10, not_false_eq_true, not_true_eq_false, pm_bd_s, pm_tl_n, pm_tl_s, ↓reduceIte, pb_X9_even_5, pb_X9_even_6, pb_X9_even_7, pb_X9_even_8, pb_X9_even_9, pb_X9_even_10, pb_X9_even_11, pb_X9_even_12, nl_0_1, nl_0_2, nl_0_3, nl_0_4, nl_0_5, nl_0_6, nl_0_7, nl_0_8, nl_1_0, nl_1_2, nl_1_3, nl_1_4, nl_1_5, nl_1_6, nl_1_7, nl_1_8, nl_2_0, nl_2_1, nl_2_3, nl_2_4, nl_2_5, nl_2_6, nl_2_7, nl_2_8, nl_3_0, nl_3_1, nl_3_2, nl_3_4, nl_3_5, nl_3_6, nl_3_7, nl_3_8, nl_4_0, nl_4_1, nl_4_2, nl_4_3, nl_4_5, nl_4_6, nl_4_7, nl_4_8, nl_5_0, nl_5_1, nl_5_2, nl_5_3, nl_5_4, nl_5_6, nl_5_7, nl_5_8, nl_6_0, nl_6_1, nl_6_2, nl_6_3, nl_6_4, nl_6_5, nl_6_7, nl_6_8, nl_7_0, nl_7_1, nl_7_2, nl_7_3, nl_7_4, nl_7_5, nl_7_6, nl_7_8, nl_8_0, nl_8_1, nl_8_2, nl_8_3, nl_8_4, nl_8_5, nl_8_6, nl_8_7, kd_59, rf_59_0, rf_59_1, rf_59_3, rf_59_4, rf_59_5, rf_59_6, rf_59_7, rf_59_12, rf_59_14, rf_59_15, rf_59_16, rf_59_19, rf_59_23, rf_59_24, rf_59_25, rf_59_26, is_9_59, kd_73, al_73, kd_74, al_74, xk, ck, hz, e1, e, e2, x1, c1, x2, c2, n0, np, es, q, h8, h9, nI_1, not_true_eq_false, not_false_eq_true, if_true, if_false, add0]
end PI
