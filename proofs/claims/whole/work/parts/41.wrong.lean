/-! PAIRS OF CALLS: wronged -/
/-- 1 where post j moves by x or more -/
def bbF (h : pm_HP) (n u nt k : Nat) (x : Int32) (j : Nat) : Int32 := if ab32 ((SDf h u n - h.1 60 6) * mvF h n u nt k j / 100) < x then 0 else 1
def wrA (B : Nat → Int32) : Nat → Nat → Int32 → Int32
  | _, 0, s => s
  | i, k + 1, s => wrA B (i + 1) k (if B i = 0 ∧ B (i + 1) = 0 then s else s ||| c1F i)
section PB
variable {fb : Bool} {d : Nat} {h : pm_HP}
theorem bb_01 {n u nt k j : Nat} {x : Int32} : bbF h n u nt k x j = 0 ∨ bbF h n u nt k x j = 1 := by
  unfold bbF
  by_cases q : ab32 ((SDf h u n - h.1 60 6) * mvF h n u nt k j / 100) < x
  · rw [if_pos q]; exact Or.inl rfl
  · rw [if_neg q]; exact Or.inr rfl
theorem mb_c {h1 : pm_HP} {n u nt nb nw k j : Nat} {x : Int32} (iN : RN h 3 60 n u nt nb nw) (iT : RT h 33 60) (g : Gm h h1 n u) (hk : h.1 8 1 = nI k) (hk6 : k ≤ 60) (hz : k = 0 ∨ dpF 5 (h.1 36) k = some 1) (hj : j ≤ n) : ∃ h2, rs fb (d + 8) n_X8_isMovedBy [.ref 0, .int (nI j), .int x] h1 = some (some (.int (bbF h n u nt k x j)), h2) ∧ frm [29, 30] h1 h2 := by
  obtain ⟨h2, r, f⟩ := mv_c (fb := fb) (d := d) (j := j) iN iT g hk hk6 hz hj
  refine ⟨h2, ?_, f⟩
  obtain ⟨w7, w8, w9, w5⟩ := Gm_w g
  have z100 : ((100 : Int32) = 0) = False := by decide
  have ms := sp_missSide (fb := fb) (d := d + 6) w7 iN.1.2.2.2
  rw [(w5 n (Nat.le_refl _)).1, w8] at ms
  have mb : ∀ m : Int32, rs fb (d + 7) n_X8_movedBy [.ref 0, .int (nI j), .int m] h1 = some (some (.int (m * mvF h n u nt k j / 100)), h2) := by
    intro m
    rw [en_X8_movedBy]
    simp only [cs8_0, cs8_1, cs8_2, cs8_3, cs8_4, ev_ald0, ev_aldn0, ev_bin, ev_cv1, ev_dv, ev_i, ev_ild1, ev_ild2, ev_ri, pm_bd_s, pm_tl_n, pm_tl_s, pb_X8_movedBy_0, kd_0, rf_0_0, rf_0_1, rf_0_2, rf_0_3, rf_0_4, rf_0_5, rf_0_6, rf_0_7, rf_0_8, is_8_0, r, z100, if_false]
  have a0 : (0 : Int32) &&& 1 = 0 := by decide
  have a1 : (1 : Int32) &&& 1 = 1 := by decide
  have ab : ∀ x : Int32, (if 0 ≤ x then x else 0 - x) = ab32 x := fun _ => rfl
  rw [en_X8_isMovedBy]
  unfold bbF
  by_cases q : ab32 ((SDf h u n - h.1 60 6) * mvF h n u nt k j / 100) < x
  · simp only [cs8_0, cs8_1, cs8_2, cs8_3, cs8_4, decide_eq_true_eq, ev_ald0, ev_aldn0, ev_cv0, ev_cv2, ev_go, ev_gr, ev_i, ev_if2, ev_ild1, ev_ild2, ev_m1, ev_rz, i00, i01, i10, not_false_eq_true, not_true_eq_false, pm_bd_s, pm_tl_n, pm_tl_s, ↓reduceIte, pb_X8_isMovedBy_0, pb_X8_isMovedBy_1, pb_X8_isMovedBy_2, kd_0, rf_0_0, rf_0_1, rf_0_2, rf_0_3, rf_0_4, rf_0_5, rf_0_6, rf_0_7, rf_0_8, is_8_0, kd_17, rf_17_0, rf_17_1, rf_17_2, rf_17_3, rf_17_4, rf_17_5, rf_17_6, is_7_17, ms, mb, ab, q, a0]
  · simp only [cs8_0, cs8_1, cs8_2, cs8_3, cs8_4, decide_eq_true_eq, ev_ald0, ev_aldn0, ev_cv0, ev_cv2, ev_go, ev_gr, ev_i, ev_if2, ev_ild1, ev_ild2, ev_m1, ev_rz, i00, i01, i10, not_false_eq_true, not_true_eq_false, pm_bd_s, pm_tl_n, pm_tl_s, ↓reduceIte, pb_X8_isMovedBy_0, pb_X8_isMovedBy_1, pb_X8_isMovedBy_2, kd_0, rf_0_0, rf_0_1, rf_0_2, rf_0_3, rf_0_4, rf_0_5, rf_0_6, rf_0_7, rf_0_8, is_8_0, kd_17, rf_17_0, rf_17_1, rf_17_2, rf_17_3, rf_17_4, rf_17_5, rf_17_6, is_7_17, ms, mb, ab, q, a1]
set_option maxRecDepth 100000 in
theorem lp_wrC {n u nt nb nw k : Nat} {x : Int32} (iN : RN h 3 60 n u nt nb nw) (iT : RT h 33 60) (hk : h.1 8 1 = nI k) (hk6 : k ≤ 60) (hz : k = 0 ∨ dpF 5 (h.1 36) k = some 1) : ∀ (m i : Nat) (s : Int32) (h' : pm_HP) (y : Option Value), i + m = n → Gm h h' n u → pm_c2 y = false → ∃ h'', pm_ev P_X8_wronged (rs fb (d + 8)) (P_X8_wronged 2) [some (.ref 0), some (.int x), some (.int s), some (.int (bbF h n u nt k x i)), some (.int (nI i)), y] [] h' = some (some (.int (wrA (bbF h n u nt k x) i m s)), h'') ∧ Gm h h'' n u := by
  have hn := iN.1.2.2.2
  intro m
  induction m with
  | zero =>
    intro i s h' y hi g hy
    have e1 : nI n ≤ nI i := nI_le (by omega) (by omega)
    have hn' : h'.1 3 3 = nI n := by rw [(Gm_f g).1 3 (by decide)]; exact iN.1.1
    refine ⟨h', ?_, g⟩
    rw [pb_X8_wronged_2]
    simp only [c20, c2i, c2n, c2r, cs8_0, cs8_1, cs8_2, cs8_3, cs8_4, decide_eq_true_eq, ev_ald0, ev_aldn0, ev_bin, ev_cs3, ev_cv0, ev_cv1, ev_cv2, ev_go, ev_gr, ev_i, ev_if0, ev_if2, ev_ild1, ev_ild2, ev_ild3, ev_ild4, ev_ild5, ev_inc4, ev_ist2, ev_ist3, ev_ist4, ev_ist5, ev_ri, i00, i01, i10, is_sw, not_false_eq_true, not_true_eq_false, pm_bd_s, pm_tl_n, pm_tl_s, ↓reduceIte, pb_X8_wronged_5, kd_0, rf_0_0, rf_0_1, rf_0_2, rf_0_3, rf_0_4, rf_0_5, rf_0_6, rf_0_7, rf_0_8, is_8_0, kd_1, rf_1_0, rf_1_1, rf_1_2, rf_1_3, rf_1_4, rf_1_5, rf_1_6, is_5_1, kd_3, rf_3_2, fc_3_0, fc_3_1, is_6_3_3, is_3_6_3, sp_used, hn', e1, wrA]
  | succ m ih =>
    intro i s h' y hi g hy
    have e1 : ¬ nI n ≤ nI i := nI_ge (by omega) (by omega)
    have hn' : h'.1 3 3 = nI n := by rw [(Gm_f g).1 3 (by decide)]; exact iN.1.1
    obtain ⟨h1, r1, f1⟩ := mb_c (fb := fb) (d := d) (x := x) (j := i + 1) iN iT g hk hk6 hz (by omega)
    have sh : (1 : Int32) <<< (nI i &&& 31) = c1F i := rfl
    rw [pb_X8_wronged_2, wrA]
    rcases bb_01 (h := h) (n := n) (u := u) (nt := nt) (k := k) (x := x) (j := i) with b0 | b0 <;> rcases bb_01 (h := h) (n := n) (u := u) (nt := nt) (k := k) (x := x) (j := i + 1) with b1 | b1
    · obtain ⟨h2, r2, f2⟩ := ih (i + 1) s h1 (some (.int (bbF h n u nt k x (i + 1)))) (by omega) (Gm_t g f1) rfl
      refine ⟨h2, ?_, f2⟩
      rw [b1] at r1 r2
      simp only [c20, c2i, c2n, c2r, cs8_0, cs8_1, cs8_2, cs8_3, cs8_4, decide_eq_true_eq, ev_ald0, ev_aldn0, ev_bin, ev_cs3, ev_cv0, ev_cv1, ev_cv2, ev_go, ev_gr, ev_i, ev_if0, ev_if2, ev_ild1, ev_ild2, ev_ild3, ev_ild4, ev_ild5, ev_inc4, ev_ist2, ev_ist3, ev_ist4, ev_ist5, ev_ri, i00, i01, i10, is_sw, not_false_eq_true, not_true_eq_false, pm_bd_s, pm_tl_n, pm_tl_s, ↓reduceIte, pb_X8_wronged_3, pb_X8_wronged_4, nl_0_1, nl_0_2, nl_0_3, nl_0_4, nl_0_5, nl_0_6, nl_0_7, nl_0_8, nl_1_0, nl_1_2, nl_1_3, nl_1_4, nl_1_5, nl_1_6, nl_1_7, nl_1_8, nl_2_0, nl_2_1, nl_2_3, nl_2_4, nl_2_5, nl_2_6, nl_2_7, nl_2_8, nl_3_0, nl_3_1, nl_3_2, nl_3_4, nl_3_5, nl_3_6, nl_3_7, nl_3_8, nl_4_0, nl_4_1, nl_4_2, nl_4_3, nl_4_5, nl_4_6, nl_4_7, nl_4_8, nl_5_0, nl_5_1, nl_5_2, nl_5_3, nl_5_4, nl_5_6, nl_5_7, nl_5_8, nl_6_0, nl_6_1, nl_6_2, nl_6_3, nl_6_4, nl_6_5, nl_6_7, nl_6_8, nl_7_0, nl_7_1, nl_7_2, nl_7_3, nl_7_4, nl_7_5, nl_7_6, nl_7_8, nl_8_0, nl_8_1, nl_8_2, nl_8_3, nl_8_4, nl_8_5, nl_8_6, nl_8_7, kd_0, rf_0_0, rf_0_1, rf_0_2, rf_0_3, rf_0_4, rf_0_5, rf_0_6, rf_0_7, rf_0_8, is_8_0, kd_1, rf_1_0, rf_1_1, rf_1_2, rf_1_3, rf_1_4, rf_1_5, rf_1_6, is_5_1, kd_3, rf_3_2, fc_3_0, fc_3_1, is_6_3_3, is_3_6_3, sp_used, hn', e1, nI_1, r1, b0, b1, hy, and_self, ↓reduceIte, sh]
      exact r2
    all_goals
      obtain ⟨h2, r2, f2⟩ := ih (i + 1) (s ||| c1F i) h1 (some (.int (bbF h n u nt k x (i + 1)))) (by omega) (Gm_t g f1) rfl
      refine ⟨h2, ?_, f2⟩
      rw [b1] at r1 r2
      simp only [c20, c2i, c2n, c2r, cs8_0, cs8_1, cs8_2, cs8_3, cs8_4, decide_eq_true_eq, ev_ald0, ev_aldn0, ev_bin, ev_cs3, ev_cv0, ev_cv1, ev_cv2, ev_go, ev_gr, ev_i, ev_if0, ev_if2, ev_ild1, ev_ild2, ev_ild3, ev_ild4, ev_ild5, ev_inc4, ev_ist2, ev_ist3, ev_ist4, ev_ist5, ev_ri, i00, i01, i10, is_sw, not_false_eq_true, not_true_eq_false, pm_bd_s, pm_tl_n, pm_tl_s, ↓reduceIte, pb_X8_wronged_3, pb_X8_wronged_4, nl_0_1, nl_0_2, nl_0_3, nl_0_4, nl_0_5, nl_0_6, nl_0_7, nl_0_8, nl_1_0, nl_1_2, nl_1_3, nl_1_4, nl_1_5, nl_1_6, nl_1_7, nl_1_8, nl_2_0, nl_2_1, nl_2_3, nl_2_4, nl_2_5, nl_2_6, nl_2_7, nl_2_8, nl_3_0, nl_3_1, nl_3_2, nl_3_4, nl_3_5, nl_3_6, nl_3_7, nl_3_8, nl_4_0, nl_4_1, nl_4_2, nl_4_3, nl_4_5, nl_4_6, nl_4_7, nl_4_8, nl_5_0, nl_5_1, nl_5_2, nl_5_3, nl_5_4, nl_5_6, nl_5_7, nl_5_8, nl_6_0, nl_6_1, nl_6_2, nl_6_3, nl_6_4, nl_6_5, nl_6_7, nl_6_8, nl_7_0, nl_7_1, nl_7_2, nl_7_3, nl_7_4, nl_7_5, nl_7_6, nl_7_8, nl_8_0, nl_8_1, nl_8_2, nl_8_3, nl_8_4, nl_8_5, nl_8_6, nl_8_7, kd_0, rf_0_0, rf_0_1, rf_0_2, rf_0_3, rf_0_4, rf_0_5, rf_0_6, rf_0_7, rf_0_8, is_8_0, kd_1, rf_1_0, rf_1_1, rf_1_2, rf_1_3, rf_1_4, rf_1_5, rf_1_6, is_5_1, kd_3, rf_3_2, fc_3_0, fc_3_1, is_6_3_3, is_3_6_3, sp_used, hn', e1, nI_1, r1, b0, b1, hy, and_false, false_and, ↓reduceIte, sh]
      exact r2
set_option maxRecDepth 100000 in
theorem lp_wrR {h0 : pm_HP} {n u nt nb nw k : Nat} {x : Int32} (iN : RN h 3 60 n u nt nb nw) (h60 : h0.1 60 = h.1 60) (g : h0.1 63 n = SDf h u n ∧ h0.1 64 n = ALf h u n) (hk : h.1 60 316 = nI k) (hk6 : k ≤ 60) (hp : ∀ i, i < k → h.1 60 (317 + i) = cod (h.1 36 i)) (hz : k = 0 ∨ dpF 5 (h.1 36) k = some 1) : ∀ (m t : Nat) (s : Int32) (h' : pm_HP) (y : Option Value), t + m = n → frm [68, 69] h0 h' → pm_c2 y = false → ∃ h'', pm_ev P_X9_wronged (rs fb (d + 6)) (P_X9_wronged 2) [some (.ref 59), some (.int x), some (.int s), some (.int (bbF h n u nt k x t)), some (.int (nI (t + 1))), y] [] h' = some (some (.int (wrA (bbF h n u nt k x) t m s)), h'') ∧ frm [68, 69] h0 h'' := by
  have hn := iN.1.2.2.2
  have ix0 : pm_ix (0 : Int32) 440 = true := by decide
  have cl0 : (0 : Int32).toNatClampNeg = 0 := by decide
  have z100 : ((100 : Int32) = 0) = False := by decide
  have ab : ∀ x : Int32, (if 0 ≤ x then x else 0 - x) = ab32 x := fun _ => rfl
  intro m
  induction m with
  | zero =>
    intro t s h' y ht hf hy
    have e1 : nI n < nI (t + 1) := nI_lt (by omega) (by omega)
    have hn' : h'.1 60 0 = nI n := by rw [hf.1 60 (by decide), h60]; exact iN.1.2.1
    refine ⟨h', ?_, hf⟩
    rw [pb_X9_wronged_2]
    simp only [c20, c2i, c2n, c2r, cs8_0, cs8_1, cs8_2, cs8_3, cs8_4, decide_eq_true_eq, ev_ald0, ev_aldn0, ev_bin, ev_cs3, ev_cv0, ev_cv1, ev_dv, ev_go, ev_gr, ev_i, ev_ia, ev_if0, ev_if2, ev_ild1, ev_ild2, ev_ild3, ev_ild4, ev_ild5, ev_inc4, ev_ist2, ev_ist3, ev_ist4, ev_ist5, ev_m1, ev_ri, i00, i01, i10, not_false_eq_true, not_true_eq_false, pm_bd_s, pm_tl_n, pm_tl_s, ↓reduceIte, pb_X9_wronged_8, kd_59, rf_59_0, rf_59_1, rf_59_3, rf_59_4, rf_59_5, rf_59_6, rf_59_7, rf_59_12, rf_59_14, rf_59_15, rf_59_16, rf_59_19, rf_59_23, rf_59_24, rf_59_25, rf_59_26, is_9_59, kd_60, al_60, ix0, cl0, hn', e1, wrA]
  | succ m ih =>
    intro t s h' y ht hf hy
    have e1 : ¬ nI n < nI (t + 1) := Int32.not_lt.mpr (nI_le (by omega) (by omega))
    have f60 : h'.1 60 = h.1 60 := by rw [hf.1 60 (by decide), h60]
    have g' : h'.1 63 n = SDf h u n ∧ h'.1 64 n = ALf h u n := by rw [hf.1 63 (by decide), hf.1 64 (by decide)]; exact g
    have hn' : h'.1 60 0 = nI n := by rw [f60]; exact iN.1.2.1
    obtain ⟨h1, r1, f1⟩ := mv_r (fb := fb) (d := d) (j := t + 1) iN f60 g' hk hk6 hp hz (by omega)
    have s0 := sr_miss0 (fb := fb) (d := d + 5) hn' hn
    rw [g'.1, f60] at s0
    have np : ¬ nI (t + 1) ≤ 0 := nI_ge (a := 0) (by omega) (by omega)
    have sh : (1 : Int32) <<< (nI t &&& 31) = c1F t := rfl
    have b1d : bbF h n u nt k x (t + 1) = if ab32 ((SDf h u n - h.1 60 6) * mvF h n u nt k (t + 1) / 100) < x then 0 else 1 := rfl
    rw [pb_X9_wronged_2, wrA]
    by_cases q : ab32 ((SDf h u n - h.1 60 6) * mvF h n u nt k (t + 1) / 100) < x
    · rw [if_pos q] at b1d
      rcases bb_01 (h := h) (n := n) (u := u) (nt := nt) (k := k) (x := x) (j := t) with b0 | b0
      · obtain ⟨h2, r2, f2⟩ := ih (t + 1) s h1 (some (.int (bbF h n u nt k x (t + 1)))) (by omega) (hf.tr f1) rfl
        refine ⟨h2, ?_, f2⟩
        rw [b1d] at r2
        simp only [c20, c2i, c2n, c2r, cs8_0, cs8_1, cs8_2, cs8_3, cs8_4, decide_eq_true_eq, ev_ald0, ev_aldn0, ev_bin, ev_cs3, ev_cv0, ev_cv1, ev_dv, ev_go, ev_gr, ev_i, ev_ia, ev_if0, ev_if2, ev_ild1, ev_ild2, ev_ild3, ev_ild4, ev_ild5, ev_inc4, ev_ist2, ev_ist3, ev_ist4, ev_ist5, ev_m1, ev_ri, i00, i01, i10, not_false_eq_true, not_true_eq_false, pm_bd_s, pm_tl_n, pm_tl_s, ↓reduceIte, pb_X9_wronged_3, pb_X9_wronged_4, pb_X9_wronged_5, pb_X9_wronged_6, pb_X9_wronged_7, nl_0_1, nl_0_2, nl_0_3, nl_0_4, nl_0_5, nl_0_6, nl_0_7, nl_0_8, nl_1_0, nl_1_2, nl_1_3, nl_1_4, nl_1_5, nl_1_6, nl_1_7, nl_1_8, nl_2_0, nl_2_1, nl_2_3, nl_2_4, nl_2_5, nl_2_6, nl_2_7, nl_2_8, nl_3_0, nl_3_1, nl_3_2, nl_3_4, nl_3_5, nl_3_6, nl_3_7, nl_3_8, nl_4_0, nl_4_1, nl_4_2, nl_4_3, nl_4_5, nl_4_6, nl_4_7, nl_4_8, nl_5_0, nl_5_1, nl_5_2, nl_5_3, nl_5_4, nl_5_6, nl_5_7, nl_5_8, nl_6_0, nl_6_1, nl_6_2, nl_6_3, nl_6_4, nl_6_5, nl_6_7, nl_6_8, nl_7_0, nl_7_1, nl_7_2, nl_7_3, nl_7_4, nl_7_5, nl_7_6, nl_7_8, nl_8_0, nl_8_1, nl_8_2, nl_8_3, nl_8_4, nl_8_5, nl_8_6, nl_8_7, kd_59, rf_59_0, rf_59_1, rf_59_3, rf_59_4, rf_59_5, rf_59_6, rf_59_7, rf_59_12, rf_59_14, rf_59_15, rf_59_16, rf_59_19, rf_59_23, rf_59_24, rf_59_25, rf_59_26, is_9_59, kd_60, al_60, ix0, cl0, hn', e1, nI_1, s0, r1, z100, ab, q, np, b0, b1d, hy, and_self, ↓reduceIte, Int32.or_zero]
        exact r2
      · obtain ⟨h2, r2, f2⟩ := ih (t + 1) (s ||| c1F t) h1 (some (.int (bbF h n u nt k x (t + 1)))) (by omega) (hf.tr f1) rfl
        refine ⟨h2, ?_, f2⟩
        rw [b1d] at r2
        simp only [c20, c2i, c2n, c2r, cs8_0, cs8_1, cs8_2, cs8_3, cs8_4, decide_eq_true_eq, ev_ald0, ev_aldn0, ev_bin, ev_cs3, ev_cv0, ev_cv1, ev_dv, ev_go, ev_gr, ev_i, ev_ia, ev_if0, ev_if2, ev_ild1, ev_ild2, ev_ild3, ev_ild4, ev_ild5, ev_inc4, ev_ist2, ev_ist3, ev_ist4, ev_ist5, ev_m1, ev_ri, i00, i01, i10, not_false_eq_true, not_true_eq_false, pm_bd_s, pm_tl_n, pm_tl_s, ↓reduceIte, pb_X9_wronged_3, pb_X9_wronged_4, pb_X9_wronged_5, pb_X9_wronged_6, pb_X9_wronged_7, nl_0_1, nl_0_2, nl_0_3, nl_0_4, nl_0_5, nl_0_6, nl_0_7, nl_0_8, nl_1_0, nl_1_2, nl_1_3, nl_1_4, nl_1_5, nl_1_6, nl_1_7, nl_1_8, nl_2_0, nl_2_1, nl_2_3, nl_2_4, nl_2_5, nl_2_6, nl_2_7, nl_2_8, nl_3_0, nl_3_1, nl_3_2, nl_3_4, nl_3_5, nl_3_6, nl_3_7, nl_3_8, nl_4_0, nl_4_1, nl_4_2, nl_4_3, nl_4_5, nl_4_6, nl_4_7, nl_4_8, nl_5_0, nl_5_1, nl_5_2, nl_5_3, nl_5_4, nl_5_6, nl_5_7, nl_5_8, nl_6_0, nl_6_1, nl_6_2, nl_6_3, nl_6_4, nl_6_5, nl_6_7, nl_6_8, nl_7_0, nl_7_1, nl_7_2, nl_7_3, nl_7_4, nl_7_5, nl_7_6, nl_7_8, nl_8_0, nl_8_1, nl_8_2, nl_8_3, nl_8_4, nl_8_5, nl_8_6, nl_8_7, kd_59, rf_59_0, rf_59_1, rf_59_3, rf_59_4, rf_59_5, rf_59_6, rf_59_7, rf_59_12, rf_59_14, rf_59_15, rf_59_16, rf_59_19, rf_59_23, rf_59_24, rf_59_25, rf_59_26, is_9_59, kd_60, al_60, ix0, cl0, hn', e1, nI_1, nI_p1, s0, r1, z100, ab, q, np, b0, b1d, hy, false_and, ↓reduceIte, sh]
        exact r2
    · rw [if_neg q] at b1d
      obtain ⟨h2, r2, f2⟩ := ih (t + 1) (s ||| c1F t) h1 (some (.int (bbF h n u nt k x (t + 1)))) (by omega) (hf.tr f1) rfl
      refine ⟨h2, ?_, f2⟩
      rw [b1d] at r2
      rcases bb_01 (h := h) (n := n) (u := u) (nt := nt) (k := k) (x := x) (j := t) with b0 | b0 <;>
        simp only [c20, c2i, c2n, c2r, cs8_0, cs8_1, cs8_2, cs8_3, cs8_4, decide_eq_true_eq, ev_ald0, ev_aldn0, ev_bin, ev_cs3, ev_cv0, ev_cv1, ev_dv, ev_go, ev_gr, ev_i, ev_ia, ev_if0, ev_if2, ev_ild1, ev_ild2, ev_ild3, ev_ild4, ev_ild5, ev_inc4, ev_ist2, ev_ist3, ev_ist4, ev_ist5, ev_m1, ev_ri, i00, i01, i10, not_false_eq_true, not_true_eq_false, pm_bd_s, pm_tl_n, pm_tl_s, ↓reduceIte, pb_X9_wronged_3, pb_X9_wronged_4, pb_X9_wronged_5, pb_X9_wronged_6, pb_X9_wronged_7, nl_0_1, nl_0_2, nl_0_3, nl_0_4, nl_0_5, nl_0_6, nl_0_7, nl_0_8, nl_1_0, nl_1_2, nl_1_3, nl_1_4, nl_1_5, nl_1_6, nl_1_7, nl_1_8, nl_2_0, nl_2_1, nl_2_3, nl_2_4, nl_2_5, nl_2_6, nl_2_7, nl_2_8, nl_3_0, nl_3_1, nl_3_2, nl_3_4, nl_3_5, nl_3_6, nl_3_7, nl_3_8, nl_4_0, nl_4_1, nl_4_2, nl_4_3, nl_4_5, nl_4_6, nl_4_7, nl_4_8, nl_5_0, nl_5_1, nl_5_2, nl_5_3, nl_5_4, nl_5_6, nl_5_7, nl_5_8, nl_6_0, nl_6_1, nl_6_2, nl_6_3, nl_6_4, nl_6_5, nl_6_7, nl_6_8, nl_7_0, nl_7_1, nl_7_2, nl_7_3, nl_7_4, nl_7_5, nl_7_6, nl_7_8, nl_8_0, nl_8_1, nl_8_2, nl_8_3, nl_8_4, nl_8_5, nl_8_6, nl_8_7, kd_59, rf_59_0, rf_59_1, rf_59_3, rf_59_4, rf_59_5, rf_59_6, rf_59_7, rf_59_12, rf_59_14, rf_59_15, rf_59_16, rf_59_19, rf_59_23, rf_59_24, rf_59_25, rf_59_26, is_9_59, kd_60, al_60, ix0, cl0, hn', e1, nI_1, nI_p1, s0, r1, z100, ab, q, np, b0, b1d, hy, and_false, false_and, ↓reduceIte, sh] <;>
        exact r2
theorem pr_wronged (hI : Inv h) (x : Int32) : Pr fb (d + 100) n_X8_wronged n_X9_wronged [.int x] h := by
  obtain ⟨⟨n, u, nt, nb, nw, iN⟩, iZ, iM, iS, iT, iB, iW, iX, iY⟩ := id hI.1
  obtain ⟨k, hk6, hk, hk2, hp, hz⟩ := iX
  by_cases q1 : 1 ≤ x ∧ x ≤ 9999
  · obtain ⟨h1, r1, g1⟩ := go_c (fb := fb) (d := d) hI iN
    obtain ⟨ha, ra, fa⟩ := mb_c (fb := fb) (d := d + 91) (x := x) (j := 0) iN iT (Gm_0 g1) hk hk6 hz (by omega)
    obtain ⟨hb, rb, gb⟩ := lp_wrC (fb := fb) (d := d + 91) (x := x) iN iT hk hk6 hz n 0 0 ha none (by omega) (Gm_t (Gm_0 g1) fa) rfl
    obtain ⟨h2, r2, g2⟩ := go_s (fb := fb) (d := d) hI iN gb
    have hn := iN.1.2.2.2
    have e60 : h2.1 60 = h.1 60 := by rw [g2.1.1 60 (by decide), (Gm_f gb).1 60 (by decide)]
    obtain ⟨h3, r3, f3⟩ := mv_r (fb := fb) (d := d + 93) (h2 := h2) (j := 0) iN e60 (g2.2.1 n (Nat.le_refl _)) hk2 hk6 (fun i hi => (hp i hi).symm) hz (by omega)
    obtain ⟨h4, r4, f4⟩ := lp_wrR (fb := fb) (d := d + 93) (x := x) (h0 := h2) iN e60 (g2.2.1 n (Nat.le_refl _)) hk2 hk6 (fun i hi => (hp i hi).symm) hz n 0 0 h3 (some (.int (bbF h n u nt k x 0))) (by omega) f3 rfl
    have ix0 : pm_ix (0 : Int32) 440 = true := by decide
    have cl0 : (0 : Int32).toNatClampNeg = 0 := by decide
    have z100 : ((100 : Int32) = 0) = False := by decide
    have ab : ∀ x : Int32, (if 0 ≤ x then x else 0 - x) = ab32 x := fun _ => rfl
    have hn2 : h2.1 60 0 = nI n := by rw [e60]; exact iN.1.2.1
    have s0 := sr_miss0 (fb := fb) (d := d + 98) hn2 hn
    rw [(g2.2.1 n (Nat.le_refl _)).1, e60] at s0
    have np : ¬ nI n < 0 := nI_pos (by omega)
    have z0 : (0 : Int32) ||| 0 = 0 := by decide
    have z1 : (0 : Int32) + 1 = nI (0 + 1) := by decide
    have le0 : (0 : Int32) ≤ 0 := by decide
    rw [nI_0] at ra rb r3
    refine ⟨wrA (bbF h n u nt k x) 0 n 0, hb, h4, ?_, ?_, Inv_gs (Inv_gm hI gb) ⟨h2, g2, f4⟩⟩
    · rw [en_X8_wronged]
      simp only [c20, c2i, c2n, c2r, cs8_0, cs8_1, cs8_2, cs8_3, cs8_4, decide_eq_true_eq, ev_ald0, ev_aldn0, ev_bin, ev_cs3, ev_cv0, ev_cv1, ev_cv2, ev_go, ev_gr, ev_i, ev_if0, ev_if2, ev_ild1, ev_ild2, ev_ild3, ev_ild4, ev_ild5, ev_inc4, ev_ist2, ev_ist3, ev_ist4, ev_ist5, ev_ri, i00, i01, i10, is_sw, not_false_eq_true, not_true_eq_false, pm_bd_s, pm_tl_n, pm_tl_s, ↓reduceIte, pb_X8_wronged_0, pb_X8_wronged_1, kd_0, rf_0_0, rf_0_1, rf_0_2, rf_0_3, rf_0_4, rf_0_5, rf_0_6, rf_0_7, rf_0_8, is_8_0, kd_1, rf_1_0, rf_1_1, rf_1_2, rf_1_3, rf_1_4, rf_1_5, rf_1_6, is_5_1, kd_17, rf_17_0, rf_17_1, rf_17_2, rf_17_3, rf_17_4, rf_17_5, rf_17_6, is_7_17, sp_isIn, bI_n0, eq_true q1, r1, ra]
      exact rb
    · have b1d : bbF h n u nt k x 0 = if ab32 ((SDf h u n - h.1 60 6) * mvF h n u nt k 0 / 100) < x then 0 else 1 := rfl
      rw [en_X9_wronged]
      simp only [c20, c2i, c2n, c2r, cs8_0, cs8_1, cs8_2, cs8_3, cs8_4, decide_eq_true_eq, ev_ald0, ev_aldn0, ev_bin, ev_cs3, ev_cv0, ev_cv1, ev_dv, ev_go, ev_gr, ev_i, ev_ia, ev_if0, ev_if2, ev_ild1, ev_ild2, ev_ild3, ev_ild4, ev_ild5, ev_inc4, ev_ist2, ev_ist3, ev_ist4, ev_ist5, ev_m1, ev_ri, i00, i01, i10, not_false_eq_true, not_true_eq_false, pm_bd_s, pm_tl_n, pm_tl_s, ↓reduceIte, pb_X9_wronged_0, pb_X9_wronged_1, kd_59, rf_59_0, rf_59_1, rf_59_3, rf_59_4, rf_59_5, rf_59_6, rf_59_7, rf_59_12, rf_59_14, rf_59_15, rf_59_16, rf_59_19, rf_59_23, rf_59_24, rf_59_25, rf_59_26, is_9_59, sr_isIn, bI_n0, eq_true q1, r2]
      rw [pb_X9_wronged_2]
      by_cases q : ab32 ((SDf h u n - h.1 60 6) * mvF h n u nt k 0 / 100) < x
      · rw [if_pos q] at b1d
        rw [b1d] at r4
        simp only [c20, c2i, c2n, c2r, cs8_0, cs8_1, cs8_2, cs8_3, cs8_4, decide_eq_true_eq, ev_ald0, ev_aldn0, ev_bin, ev_cs3, ev_cv0, ev_cv1, ev_dv, ev_go, ev_gr, ev_i, ev_ia, ev_if0, ev_if2, ev_ild1, ev_ild2, ev_ild3, ev_ild4, ev_ild5, ev_inc4, ev_ist2, ev_ist3, ev_ist4, ev_ist5, ev_m1, ev_ri, i00, i01, i10, not_false_eq_true, not_true_eq_false, pm_bd_s, pm_tl_n, pm_tl_s, ↓reduceIte, pb_X9_wronged_3, pb_X9_wronged_4, pb_X9_wronged_5, pb_X9_wronged_6, pb_X9_wronged_7, nl_0_1, nl_0_2, nl_0_3, nl_0_4, nl_0_5, nl_0_6, nl_0_7, nl_0_8, nl_1_0, nl_1_2, nl_1_3, nl_1_4, nl_1_5, nl_1_6, nl_1_7, nl_1_8, nl_2_0, nl_2_1, nl_2_3, nl_2_4, nl_2_5, nl_2_6, nl_2_7, nl_2_8, nl_3_0, nl_3_1, nl_3_2, nl_3_4, nl_3_5, nl_3_6, nl_3_7, nl_3_8, nl_4_0, nl_4_1, nl_4_2, nl_4_3, nl_4_5, nl_4_6, nl_4_7, nl_4_8, nl_5_0, nl_5_1, nl_5_2, nl_5_3, nl_5_4, nl_5_6, nl_5_7, nl_5_8, nl_6_0, nl_6_1, nl_6_2, nl_6_3, nl_6_4, nl_6_5, nl_6_7, nl_6_8, nl_7_0, nl_7_1, nl_7_2, nl_7_3, nl_7_4, nl_7_5, nl_7_6, nl_7_8, nl_8_0, nl_8_1, nl_8_2, nl_8_3, nl_8_4, nl_8_5, nl_8_6, nl_8_7, kd_59, rf_59_0, rf_59_1, rf_59_3, rf_59_4, rf_59_5, rf_59_6, rf_59_7, rf_59_12, rf_59_14, rf_59_15, rf_59_16, rf_59_19, rf_59_23, rf_59_24, rf_59_25, rf_59_26, is_9_59, kd_60, al_60, ix0, cl0, hn2, np, s0, r3, z100, ab, q, le0, z0, z1]
        exact r4
      · rw [if_neg q] at b1d
        rw [b1d] at r4
        simp only [c20, c2i, c2n, c2r, cs8_0, cs8_1, cs8_2, cs8_3, cs8_4, decide_eq_true_eq, ev_ald0, ev_aldn0, ev_bin, ev_cs3, ev_cv0, ev_cv1, ev_dv, ev_go, ev_gr, ev_i, ev_ia, ev_if0, ev_if2, ev_ild1, ev_ild2, ev_ild3, ev_ild4, ev_ild5, ev_inc4, ev_ist2, ev_ist3, ev_ist4, ev_ist5, ev_m1, ev_ri, i00, i01, i10, not_false_eq_true, not_true_eq_false, pm_bd_s, pm_tl_n, pm_tl_s, ↓reduceIte, pb_X9_wronged_3, pb_X9_wronged_4, pb_X9_wronged_5, pb_X9_wronged_6, pb_X9_wronged_7, nl_0_1, nl_0_2, nl_0_3, nl_0_4, nl_0_5, nl_0_6, nl_0_7, nl_0_8, nl_1_0, nl_1_2, nl_1_3, nl_1_4, nl_1_5, nl_1_6, nl_1_7, nl_1_8, nl_2_0, nl_2_1, nl_2_3, nl_2_4, nl_2_5, nl_2_6, nl_2_7, nl_2_8, nl_3_0, nl_3_1, nl_3_2, nl_3_4, nl_3_5, nl_3_6, nl_3_7, nl_3_8, nl_4_0, nl_4_1, nl_4_2, nl_4_3, nl_4_5, nl_4_6, nl_4_7, nl_4_8, nl_5_0, nl_5_1, nl_5_2, nl_5_3, nl_5_4, nl_5_6, nl_5_7, nl_5_8, nl_6_0, nl_6_1, nl_6_2, nl_6_3, nl_6_4, nl_6_5, nl_6_7, nl_6_8, nl_7_0, nl_7_1, nl_7_2, nl_7_3, nl_7_4, nl_7_5, nl_7_6, nl_7_8, nl_8_0, nl_8_1, nl_8_2, nl_8_3, nl_8_4, nl_8_5, nl_8_6, nl_8_7, kd_59, rf_59_0, rf_59_1, rf_59_3, rf_59_4, rf_59_5, rf_59_6, rf_59_7, rf_59_12, rf_59_14, rf_59_15, rf_59_16, rf_59_19, rf_59_23, rf_59_24, rf_59_25, rf_59_26, is_9_59, kd_60, al_60, ix0, cl0, hn2, np, s0, r3, z100, ab, q, le0, z0, z1]
        exact r4
  · refine Pr_e (e := 1) (x := -1000000001) hI (by omega) (by omega) ?_ ?_
    · rw [en_X8_wronged]
      simp only [c20, c2i, c2n, c2r, cs8_0, cs8_1, cs8_2, cs8_3, cs8_4, decide_eq_true_eq, ev_ald0, ev_aldn0, ev_bin, ev_cs3, ev_cv0, ev_cv1, ev_cv2, ev_go, ev_gr, ev_i, ev_if0, ev_if2, ev_ild1, ev_ild2, ev_ild3, ev_ild4, ev_ild5, ev_inc4, ev_ist2, ev_ist3, ev_ist4, ev_ist5, ev_ri, i00, i01, i10, is_sw, not_false_eq_true, not_true_eq_false, pm_bd_s, pm_tl_n, pm_tl_s, ↓reduceIte, pb_X8_wronged_0, kd_0, rf_0_0, rf_0_1, rf_0_2, rf_0_3, rf_0_4, rf_0_5, rf_0_6, rf_0_7, rf_0_8, is_8_0, sp_isIn, bI_n0, eq_false q1, fail_1, F1]
    · rw [en_X9_wronged]
      simp only [c20, c2i, c2n, c2r, cs8_0, cs8_1, cs8_2, cs8_3, cs8_4, decide_eq_true_eq, ev_ald0, ev_aldn0, ev_bin, ev_cs3, ev_cv0, ev_cv1, ev_dv, ev_go, ev_gr, ev_i, ev_ia, ev_if0, ev_if2, ev_ild1, ev_ild2, ev_ild3, ev_ild4, ev_ild5, ev_inc4, ev_ist2, ev_ist3, ev_ist4, ev_ist5, ev_m1, ev_ri, i00, i01, i10, not_false_eq_true, not_true_eq_false, pm_bd_s, pm_tl_n, pm_tl_s, ↓reduceIte, pb_X9_wronged_0, kd_59, rf_59_0, rf_59_1, rf_59_3, rf_59_4, rf_59_5, rf_59_6, rf_59_7, rf_59_12, rf_59_14, rf_59_15, rf_59_16, rf_59_19, rf_59_23, rf_59_24, rf_59_25, rf_59_26, is_9_59, sr_isIn, bI_n0, eq_false q1, find_1]
end PB
