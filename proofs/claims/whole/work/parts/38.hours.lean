/-! HOURS: hoursOf; pairs hours, within, mileIs -/
abbrev cHr : List Nat := [29, 30] ++ wkC
def hrF (h : pm_HP) (k i : Nat) : Int32 := if k = 0 then 8 + rm h 1 i + rm h 2 i / 9 + 3 * rm h 3 i else txF h 37 4 k (nm5 (nI i) (rm h 1 i) (rm h 2 i) (rm h 3 i) 0) 999
def hsA (g : Nat → Int32) : Nat → Nat → Int32 → Int32
  | _, 0, a => a
  | i, k + 1, a => hsA g (i + 1) k (a + g i)
def wiA (x : Int32) (g : Nat → Int32) : Nat → Nat → Int32 → Nat
  | i, 0, _ => i
  | i, k + 1, a => if x < a + g i then i else wiA x g (i + 1) k (a + g i)
section H1
variable {fb : Bool} {d : Nat} {h : pm_HP}
theorem Gm_f {h1 : pm_HP} {n u : Nat} (g : Gm h h1 n u) : frm cHr h h1 := by
  obtain ⟨g0, x, y⟩ := g
  exact (x.1.sub (by decide)).tr (y.sub (by decide))
theorem Inv_2 {h1 h2 : pm_HP} (hI : Inv h) (f1 : frm [29, 30] h h1) (f2 : frm [68, 69] h1 h2) : Inv h2 := by
  have z := hI.2.2.2.2.2
  have f : frm [29, 30, 68, 69] h h2 := (f1.sub (by decide)).tr (f2.sub (by decide))
  refine Inv_frm hI f (by decide) ?_
  unfold R0
  rw [f.1 52 (by decide), f.1 53 (by decide), f.1 63 (by decide), f.1 64 (by decide)]
  exact z
theorem hdR_m {n m : Nat} (hn : n ≤ m) (hm : m < 2 ^ 31) : hdR (nI n) 0 (nI m) = nI n := by
  unfold hdR
  have e : (if nI n < nI m then nI n else nI m) = nI n := by
    by_cases q : n < m
    · rw [if_pos (nI_lt q hm)]
    · have : n = m := by omega
      subst this
      rw [if_neg (Int32.lt_irrefl)]
  rw [e]
  by_cases c : 0 < n
  · have c0 : (0 : Int32) < nI n := nI_lt (a := 0) c (by omega)
    rw [if_pos c0]
  · have : n = 0 := by omega
    subst this
    rfl
theorem hr_held {i : Nat} (iM : RM h 31 60) (hi : i < 24) : hdR (8 + rm h 1 i + rm h 2 i / 9 + 3 * rm h 3 i) 0 999 = 8 + rm h 1 i + rm h 2 i / 9 + 3 * rm h 3 i := by
  obtain ⟨-, -, b1, b2, b3, -⟩ := iM i hi
  obtain ⟨a, ha, ea⟩ := nI_of2 (M := 9) (n := 9) (by decide) (Int32.not_lt.mpr b1.1) b1.2
  obtain ⟨b, hb, eb⟩ := nI_of2 (M := 99) (n := 99) (by decide) (Int32.not_lt.mpr b2.1) b2.2
  have hc : ∃ c, c ≤ 1 ∧ h.1 60 (8 + 5 * i + 3) = nI c := by
    rcases b3 with e | e
    · exact ⟨0, by omega, e⟩
    · exact ⟨1, by omega, e⟩
  obtain ⟨c, hc, ec⟩ := hc
  unfold rm
  rw [ea, eb, ec]
  have e : (8 : Int32) + nI a + nI b / 9 + 3 * nI c = nI (8 + a + b / 9 + 3 * c) := by
    show nI 8 + nI a + nI b / nI 9 + nI 3 * nI c = _
    rw [div_n (by omega) (by omega), nI_mul, nI_add, nI_add, nI_add]
  rw [e]
  exact hdR_m (m := 999) (by omega) (by omega)
theorem hr_c {h1 : pm_HP} {k i : Nat} (iM : RM h 31 60) (hf : frm cHr h h1) (hk : h.1 9 1 = nI k) (hk6 : k ≤ 60) (hz : k = 0 ∨ dpF 4 (h.1 37) k = some 1) (hi : i < 24) : ∃ h2, rs fb (d + 6) n_X8_hoursOf [.ref 0, .int (nI i)] h1 = some (some (.int (hrF h k i)), h2) ∧ frm [29, 30] h1 h2 := by
  have hk1 : h1.1 9 1 = nI k := by rw [hf.1 9 (by decide)]; exact hk
  have em : ∀ c, c < 5 → mi h1 c i = rm h c i := fun c hc => by
    unfold mi
    rw [hf.1 31 (by decide)]
    exact eq_mi iM hi hc
  have m1 := em 1 (by omega)
  have m2 := em 2 (by omega)
  have m3 := em 3 (by omega)
  unfold hrF
  by_cases q : k = 0
  · subst q
    refine ⟨h1, ?_, frm.rf _ _⟩
    have e2 : (0 < nI 0) = False := by decide
    have z9 : ((9 : Int32) = 0) = False := by decide
    rw [en_X8_hoursOf]
    simp only [c20, c2i, c2n, c2r, cs8_0, cs8_1, cs8_2, cs8_3, cs8_4, decide_eq_true_eq, ev_ald0, ev_aldn0, ev_bin, ev_cs2, ev_cv0, ev_cv2, ev_dv, ev_gr, ev_i, ev_ias, ev_if0, ev_ild1, ev_ild2, ev_ild3, ev_ild4, ev_ist2, ev_ist3, ev_ist4, ev_ri, i00, i01, i10, is_sw, not_false_eq_true, not_true_eq_false, pm_bd_s, pm_tl_n, pm_tl_s, ↓reduceIte, pb_X8_hoursOf_0, pb_X8_hoursOf_1, kd_0, rf_0_0, rf_0_1, rf_0_2, rf_0_3, rf_0_4, rf_0_5, rf_0_6, rf_0_7, rf_0_8, is_8_0, kd_1, rf_1_0, rf_1_1, rf_1_2, rf_1_3, rf_1_4, rf_1_5, rf_1_6, is_5_1, kd_3, rf_3_2, fc_3_0, fc_3_1, is_6_3_3, is_3_6_3, kd_9, rf_9_0, is_0_9, at_3_1 hi, at_3_2 hi, at_3_3 hi, m1, m2, m3, sp_isTold (t := 9) (by decide), hk1, bI_n0, e2, z9]
  · have e2 : (0 < nI k) = True := eq_true (nI_lt (a := 0) (by omega) (by omega))
    have z := (hz.resolve_left q)
    rw [if_neg q]
    have ix : pm_ix (0 : Int32) 5 = true ∧ pm_ix (1 : Int32) 5 = true ∧ pm_ix (2 : Int32) 5 = true ∧ pm_ix (3 : Int32) 5 = true := by decide
    have cl : (0 : Int32).toNatClampNeg = 0 ∧ (1 : Int32).toNatClampNeg = 1 ∧ (2 : Int32).toNatClampNeg = 2 ∧ (3 : Int32).toNatClampNeg = 3 := by decide
    have h37 : h1.1 37 = h.1 37 := hf.1 37 (by decide)
    obtain ⟨h2, r, f⟩ := sp_work (fb := fb) (d := d + 2) (h := pm_si (pm_si (pm_si (pm_si h1 29 0 (nI i)) 29 1 (rm h 1 i)) 29 2 (rm h 2 i)) 29 3 (rm h 3 i)) (w := 9) (A := 37) (nn := 4) (k := k) (p := h.1 37) (N := nm5 (nI i) (rm h 1 i) (rm h 2 i) (rm h 3 i) 0) (by decide) (by decide) (by decide) hk1 hk6 (fun i hi => by simp only [si_at, Nat.reduceEqDiff, false_and, ↓reduceIte]; rw [h37]) (fun i hi => by
      unfold nm5
      simp only [si_at, true_and]
      rcases (show i = 0 ∨ i = 1 ∨ i = 2 ∨ i = 3 by omega) with rfl | rfl | rfl | rfl <;> simp) (by omega) z
    refine ⟨h2, ?_, ((((frm.rf _ _).si (by decide)).si (by decide)).si (by decide)).si (by decide) |>.tr (f.sub (by decide))⟩
    rw [en_X8_hoursOf]
    simp only [c20, c2i, c2n, c2r, cs8_0, cs8_1, cs8_2, cs8_3, cs8_4, decide_eq_true_eq, ev_ald0, ev_aldn0, ev_bin, ev_cs2, ev_cv0, ev_cv2, ev_dv, ev_gr, ev_i, ev_ias, ev_if0, ev_ild1, ev_ild2, ev_ild3, ev_ild4, ev_ist2, ev_ist3, ev_ist4, ev_ri, i00, i01, i10, is_sw, not_false_eq_true, not_true_eq_false, pm_bd_s, pm_tl_n, pm_tl_s, ↓reduceIte, pb_X8_hoursOf_0, pb_X8_hoursOf_1, kd_0, rf_0_0, rf_0_1, rf_0_2, rf_0_3, rf_0_4, rf_0_5, rf_0_6, rf_0_7, rf_0_8, is_8_0, kd_1, rf_1_0, rf_1_1, rf_1_2, rf_1_3, rf_1_4, rf_1_5, rf_1_6, is_5_1, kd_3, rf_3_2, fc_3_0, fc_3_1, is_6_3_3, is_3_6_3, kd_9, rf_9_0, is_0_9, kd_29, al_29, kd_30, al_30, at_3_1 hi, at_3_2 hi, at_3_3 hi, m1, m2, m3, sp_isTold (t := 9) (by decide), hk1, bI_n0, e2, ix, cl, r, sp_held, held_eq]
    rfl
theorem hr_r {h2 : pm_HP} {k i : Nat} (iM : RM h 31 60) (h60 : h2.1 60 = h.1 60) (hk : h.1 60 378 = nI k) (hk6 : k ≤ 60) (hp : ∀ i, i < k → h.1 60 (379 + i) = cod (h.1 37 i)) (hz : k = 0 ∨ dpF 4 (h.1 37) k = some 1) (hi : i < 24) : ∃ h3, rs fb (d + 6) n_X9_hoursOf [.ref 59, .int (nI i)] h2 = some (some (.int (hrF h k i)), h3) ∧ frm [68, 69] h2 h3 := by
  have hk1 : h2.1 60 378 = nI k := by rw [h60]; exact hk
  have er : ∀ c, rm h2 c i = rm h c i := fun c => by unfold rm; rw [h60]
  unfold hrF
  by_cases q : k = 0
  · subst q
    refine ⟨h2, ?_, frm.rf _ _⟩
    have e2 : (0 < nI 0) = False := by decide
    have z9 : ((9 : Int32) = 0) = False := by decide
    rw [en_X9_hoursOf]
    simp only [c20, c2i, c2n, c2r, cs8_0, cs8_1, cs8_2, cs8_3, cs8_4, decide_eq_true_eq, ev_ald0, ev_aldn0, ev_bin, ev_cs3, ev_cv1, ev_cv2, ev_cv6, ev_dv, ev_go, ev_i, ev_if0, ev_ild1, ev_ild2, ev_ild3, ev_ild4, ev_ist2, ev_ist3, ev_ist4, ev_ri, i00, i01, i10, not_false_eq_true, not_true_eq_false, pm_bd_s, pm_tl_n, pm_tl_s, ↓reduceIte, pb_X9_hoursOf_0, pb_X9_hoursOf_1, pb_X9_hoursOf_2, kd_59, rf_59_0, rf_59_1, rf_59_3, rf_59_4, rf_59_5, rf_59_6, rf_59_7, rf_59_12, rf_59_14, rf_59_15, rf_59_16, rf_59_19, rf_59_23, rf_59_24, rf_59_25, rf_59_26, is_9_59, rm_1 hi, rm_2 hi, rm_3 hi, er, sr_hasText1, hk1, bI_0, e2, z9, not_false_eq_true, sr_held, hr_held iM hi]
  · have e2 : (0 < nI k) = True := eq_true (nI_lt (a := 0) (by omega) (by omega))
    have z := (hz.resolve_left q)
    rw [if_neg q]
    obtain ⟨h3, r, f⟩ := sr_given (fb := fb) (d := d + 2) (h := h2) (w := 1) (b := 378) (nn := 4) (k := k) (p := h.1 37) (v0 := nI i) (v1 := rm h 1 i) (v2 := rm h 2 i) (v3 := rm h 3 i) (v4 := 0) (Or.inr ⟨rfl, rfl⟩) hk1 hk6 (fun i hi => by rw [h60]; exact hp i hi) (by omega) z
    refine ⟨h3, ?_, f⟩
    rw [show nI 1 = 1 from rfl] at r
    rw [en_X9_hoursOf]
    simp only [c20, c2i, c2n, c2r, cs8_0, cs8_1, cs8_2, cs8_3, cs8_4, decide_eq_true_eq, ev_ald0, ev_aldn0, ev_bin, ev_cs3, ev_cv1, ev_cv2, ev_cv6, ev_dv, ev_go, ev_i, ev_if0, ev_ild1, ev_ild2, ev_ild3, ev_ild4, ev_ist2, ev_ist3, ev_ist4, ev_ri, i00, i01, i10, not_false_eq_true, not_true_eq_false, pm_bd_s, pm_tl_n, pm_tl_s, ↓reduceIte, pb_X9_hoursOf_0, pb_X9_hoursOf_1, pb_X9_hoursOf_2, kd_59, rf_59_0, rf_59_1, rf_59_3, rf_59_4, rf_59_5, rf_59_6, rf_59_7, rf_59_12, rf_59_14, rf_59_15, rf_59_16, rf_59_19, rf_59_23, rf_59_24, rf_59_25, rf_59_26, is_9_59, rm_1 hi, rm_2 hi, rm_3 hi, er, sr_hasText1, hk1, bI_0, e2, not_true_eq_false, r, sr_held]
    rfl
set_option maxRecDepth 100000 in
theorem lp_hoursC {n k : Nat} (iM : RM h 31 60) (hn3 : h.1 3 3 = nI n) (hn : n ≤ 24) (hk : h.1 9 1 = nI k) (hk6 : k ≤ 60) (hz : k = 0 ∨ dpF 4 (h.1 37) k = some 1) : ∀ (m i : Nat) (a : Int32) (h' : pm_HP), i + m = n → frm [29, 30] h h' → ∃ h'', pm_ev P_X8_hours (rs fb (d + 6)) (P_X8_hours 1) [some (.ref 0), some (.int a), some (.int (nI i))] [] h' = some (some (.int (hsA (hrF h k) i m a)), h'') ∧ frm [29, 30] h h'' := by
  intro m
  induction m with
  | zero =>
    intro i a h' hi hf
    have e1 : nI n ≤ nI i := nI_le (by omega) (by omega)
    have hn' : h'.1 3 3 = nI n := by rw [hf.1 3 (by decide)]; exact hn3
    refine ⟨h', ?_, hf⟩
    rw [pb_X8_hours_1]
    simp only [c20, c2i, c2n, c2r, cs8_0, cs8_1, cs8_2, cs8_3, cs8_4, decide_eq_true_eq, ev_ald0, ev_aldn0, ev_bin, ev_cv0, ev_cv1, ev_go, ev_gr, ev_i, ev_if2, ev_ild1, ev_ild2, ev_inc2, ev_ist1, ev_ist2, ev_ri, i00, i01, i10, is_sw, not_false_eq_true, not_true_eq_false, pm_bd_s, pm_tl_n, pm_tl_s, ↓reduceIte, pb_X8_hours_2, kd_0, rf_0_0, rf_0_1, rf_0_2, rf_0_3, rf_0_4, rf_0_5, rf_0_6, rf_0_7, rf_0_8, is_8_0, kd_1, rf_1_0, rf_1_1, rf_1_2, rf_1_3, rf_1_4, rf_1_5, rf_1_6, is_5_1, kd_3, rf_3_2, fc_3_0, fc_3_1, is_6_3_3, is_3_6_3, sp_used, hn', e1, hsA]
  | succ m ih =>
    intro i a h' hi hf
    have e1 : ¬ nI n ≤ nI i := nI_ge (by omega) (by omega)
    have hn' : h'.1 3 3 = nI n := by rw [hf.1 3 (by decide)]; exact hn3
    obtain ⟨h1, r1, f1⟩ := hr_c (fb := fb) (d := d) (h1 := h') iM (hf.sub (by decide)) hk hk6 hz (show i < 24 by omega)
    obtain ⟨h2, r2, f2⟩ := ih (i + 1) (a + hrF h k i) h1 (by omega) (hf.tr f1)
    refine ⟨h2, ?_, f2⟩
    rw [pb_X8_hours_1, hsA]
    simp only [c20, c2i, c2n, c2r, cs8_0, cs8_1, cs8_2, cs8_3, cs8_4, decide_eq_true_eq, ev_ald0, ev_aldn0, ev_bin, ev_cv0, ev_cv1, ev_go, ev_gr, ev_i, ev_if2, ev_ild1, ev_ild2, ev_inc2, ev_ist1, ev_ist2, ev_ri, i00, i01, i10, is_sw, not_false_eq_true, not_true_eq_false, pm_bd_s, pm_tl_n, pm_tl_s, ↓reduceIte, pb_X8_hours_2, kd_0, rf_0_0, rf_0_1, rf_0_2, rf_0_3, rf_0_4, rf_0_5, rf_0_6, rf_0_7, rf_0_8, is_8_0, kd_1, rf_1_0, rf_1_1, rf_1_2, rf_1_3, rf_1_4, rf_1_5, rf_1_6, is_5_1, kd_3, rf_3_2, fc_3_0, fc_3_1, is_6_3_3, is_3_6_3, sp_used, hn', e1, r1, nI_1]
    exact r2
set_option maxRecDepth 100000 in
theorem lp_hoursR {h0 : pm_HP} {n k : Nat} (iM : RM h 31 60) (h60 : h0.1 60 = h.1 60) (hn0 : h.1 60 0 = nI n) (hn : n ≤ 24) (hk : h.1 60 378 = nI k) (hk6 : k ≤ 60) (hp : ∀ i, i < k → h.1 60 (379 + i) = cod (h.1 37 i)) (hz : k = 0 ∨ dpF 4 (h.1 37) k = some 1) : ∀ (m i : Nat) (a : Int32) (h' : pm_HP), i + m = n → frm [68, 69] h0 h' → ∃ h'', pm_ev P_X9_hours (rs fb (d + 6)) (P_X9_hours 1) [some (.ref 59), some (.int a), some (.int (nI i))] [] h' = some (some (.int (hsA (hrF h k) i m a)), h'') ∧ frm [68, 69] h0 h'' := by
  have ix0 : pm_ix (0 : Int32) 440 = true := by decide
  have cl0 : (0 : Int32).toNatClampNeg = 0 := by decide
  intro m
  induction m with
  | zero =>
    intro i a h' hi hf
    have e1 : nI n ≤ nI i := nI_le (by omega) (by omega)
    have hn' : h'.1 60 0 = nI n := by rw [hf.1 60 (by decide), h60]; exact hn0
    refine ⟨h', ?_, hf⟩
    rw [pb_X9_hours_1]
    simp only [c20, c2i, c2n, c2r, cs8_0, cs8_1, cs8_2, cs8_3, cs8_4, decide_eq_true_eq, ev_ald0, ev_aldn0, ev_bin, ev_cv1, ev_go, ev_gr, ev_i, ev_ia, ev_if2, ev_ild1, ev_ild2, ev_inc2, ev_ist1, ev_ist2, ev_ri, i00, i01, i10, not_false_eq_true, not_true_eq_false, pm_bd_s, pm_tl_n, pm_tl_s, ↓reduceIte, pb_X9_hours_2, kd_59, rf_59_0, rf_59_1, rf_59_3, rf_59_4, rf_59_5, rf_59_6, rf_59_7, rf_59_12, rf_59_14, rf_59_15, rf_59_16, rf_59_19, rf_59_23, rf_59_24, rf_59_25, rf_59_26, is_9_59, kd_60, al_60, ix0, cl0, hn', e1, hsA]
  | succ m ih =>
    intro i a h' hi hf
    have e1 : ¬ nI n ≤ nI i := nI_ge (by omega) (by omega)
    have hn' : h'.1 60 0 = nI n := by rw [hf.1 60 (by decide), h60]; exact hn0
    obtain ⟨h1, r1, f1⟩ := hr_r (fb := fb) (d := d) (h2 := h') iM (by rw [hf.1 60 (by decide), h60]) hk hk6 hp hz (show i < 24 by omega)
    obtain ⟨h2, r2, f2⟩ := ih (i + 1) (a + hrF h k i) h1 (by omega) (hf.tr f1)
    refine ⟨h2, ?_, f2⟩
    rw [pb_X9_hours_1, hsA]
    simp only [c20, c2i, c2n, c2r, cs8_0, cs8_1, cs8_2, cs8_3, cs8_4, decide_eq_true_eq, ev_ald0, ev_aldn0, ev_bin, ev_cv1, ev_go, ev_gr, ev_i, ev_ia, ev_if2, ev_ild1, ev_ild2, ev_inc2, ev_ist1, ev_ist2, ev_ri, i00, i01, i10, not_false_eq_true, not_true_eq_false, pm_bd_s, pm_tl_n, pm_tl_s, ↓reduceIte, pb_X9_hours_2, kd_59, rf_59_0, rf_59_1, rf_59_3, rf_59_4, rf_59_5, rf_59_6, rf_59_7, rf_59_12, rf_59_14, rf_59_15, rf_59_16, rf_59_19, rf_59_23, rf_59_24, rf_59_25, rf_59_26, is_9_59, kd_60, al_60, ix0, cl0, hn', e1, r1, nI_1]
    exact r2
theorem pr_hours (hI : Inv h) : Pr fb (d + 100) n_X8_hours n_X9_hours [] h := by
  obtain ⟨⟨n, u, nt, nb, nw, iN⟩, iZ, iM, iS, iT, iB, iW, iX, iY⟩ := id hI.1
  obtain ⟨k, hk6, hk, hk2, hp, hz⟩ := iY
  obtain ⟨h1, r1, f1⟩ := lp_hoursC (fb := fb) (d := d + 93) iM iN.1.1 iN.1.2.2.2 hk hk6 hz n 0 0 h (by omega) (frm.rf _ _)
  obtain ⟨h2, r2, f2⟩ := lp_hoursR (fb := fb) (d := d + 93) (h0 := h1) iM (f1.1 60 (by decide)) iN.1.2.1 iN.1.2.2.2 hk2 hk6 (fun i hi => (hp i hi).symm) hz n 0 0 h1 (by omega) (frm.rf _ _)
  rw [nI_0] at r1 r2
  refine ⟨hsA (hrF h k) 0 n 0, h1, h2, ?_, ?_, Inv_2 hI f1 f2⟩
  · rw [en_X8_hours]
    simp only [c20, c2i, c2n, c2r, cs8_0, cs8_1, cs8_2, cs8_3, cs8_4, decide_eq_true_eq, ev_ald0, ev_aldn0, ev_bin, ev_cv0, ev_cv1, ev_go, ev_gr, ev_i, ev_if2, ev_ild1, ev_ild2, ev_inc2, ev_ist1, ev_ist2, ev_ri, i00, i01, i10, is_sw, not_false_eq_true, not_true_eq_false, pm_bd_s, pm_tl_n, pm_tl_s, ↓reduceIte, pb_X8_hours_0]
    exact r1
  · rw [en_X9_hours]
    simp only [c20, c2i, c2n, c2r, cs8_0, cs8_1, cs8_2, cs8_3, cs8_4, decide_eq_true_eq, ev_ald0, ev_aldn0, ev_bin, ev_cv1, ev_go, ev_gr, ev_i, ev_ia, ev_if2, ev_ild1, ev_ild2, ev_inc2, ev_ist1, ev_ist2, ev_ri, i00, i01, i10, not_false_eq_true, not_true_eq_false, pm_bd_s, pm_tl_n, pm_tl_s, ↓reduceIte, pb_X9_hours_0]
    exact r2
set_option maxRecDepth 100000 in
theorem lp_withinC {x : Int32} {n k : Nat} (iM : RM h 31 60) (hn3 : h.1 3 3 = nI n) (hn : n ≤ 24) (hk : h.1 9 1 = nI k) (hk6 : k ≤ 60) (hz : k = 0 ∨ dpF 4 (h.1 37) k = some 1) : ∀ (m i : Nat) (a : Int32) (h' : pm_HP), i + m = n → frm [29, 30] h h' → ∃ h'', pm_ev P_X8_within (rs fb (d + 6)) (P_X8_within 2) [some (.ref 0), some (.int x), some (.int a), some (.int (nI i))] [] h' = some (some (.int (nI (wiA x (hrF h k) i m a))), h'') ∧ frm [29, 30] h h'' := by
  intro m
  induction m with
  | zero =>
    intro i a h' hi hf
    have e1 : nI n ≤ nI i := nI_le (by omega) (by omega)
    have hn' : h'.1 3 3 = nI n := by rw [hf.1 3 (by decide)]; exact hn3
    obtain rfl : i = n := by omega
    refine ⟨h', ?_, hf⟩
    rw [pb_X8_within_2]
    simp only [c20, c2i, c2n, c2r, cs8_0, cs8_1, cs8_2, cs8_3, cs8_4, decide_eq_true_eq, ev_ald0, ev_aldn0, ev_bin, ev_cs3, ev_cv0, ev_cv1, ev_go, ev_gr, ev_i, ev_if0, ev_if2, ev_ild1, ev_ild2, ev_ild3, ev_inc3, ev_ist2, ev_ist3, ev_ri, i00, i01, i10, is_sw, not_false_eq_true, not_true_eq_false, pm_bd_s, pm_tl_n, pm_tl_s, ↓reduceIte, pb_X8_within_4, kd_0, rf_0_0, rf_0_1, rf_0_2, rf_0_3, rf_0_4, rf_0_5, rf_0_6, rf_0_7, rf_0_8, is_8_0, kd_1, rf_1_0, rf_1_1, rf_1_2, rf_1_3, rf_1_4, rf_1_5, rf_1_6, is_5_1, kd_3, rf_3_2, fc_3_0, fc_3_1, is_6_3_3, is_3_6_3, sp_used, hn', e1, wiA]
  | succ m ih =>
    intro i a h' hi hf
    have e1 : ¬ nI n ≤ nI i := nI_ge (by omega) (by omega)
    have hn' : h'.1 3 3 = nI n := by rw [hf.1 3 (by decide)]; exact hn3
    obtain ⟨h1, r1, f1⟩ := hr_c (fb := fb) (d := d) (h1 := h') iM (hf.sub (by decide)) hk hk6 hz (show i < 24 by omega)
    rw [pb_X8_within_2, wiA]
    by_cases q : x < a + hrF h k i
    · have q' : ¬ a + hrF h k i ≤ x := Int32.not_le.mpr q
      refine ⟨h1, ?_, hf.tr f1⟩
      simp only [c20, c2i, c2n, c2r, cs8_0, cs8_1, cs8_2, cs8_3, cs8_4, decide_eq_true_eq, ev_ald0, ev_aldn0, ev_bin, ev_cs3, ev_cv0, ev_cv1, ev_go, ev_gr, ev_i, ev_if0, ev_if2, ev_ild1, ev_ild2, ev_ild3, ev_inc3, ev_ist2, ev_ist3, ev_ri, i00, i01, i10, is_sw, not_false_eq_true, not_true_eq_false, pm_bd_s, pm_tl_n, pm_tl_s, ↓reduceIte, pb_X8_within_3, kd_0, rf_0_0, rf_0_1, rf_0_2, rf_0_3, rf_0_4, rf_0_5, rf_0_6, rf_0_7, rf_0_8, is_8_0, kd_1, rf_1_0, rf_1_1, rf_1_2, rf_1_3, rf_1_4, rf_1_5, rf_1_6, is_5_1, kd_3, rf_3_2, fc_3_0, fc_3_1, is_6_3_3, is_3_6_3, sp_used, hn', e1, r1, q', q]
    · have q' : a + hrF h k i ≤ x := Int32.not_lt.mp q
      obtain ⟨h2, r2, f2⟩ := ih (i + 1) (a + hrF h k i) h1 (by omega) (hf.tr f1)
      refine ⟨h2, ?_, f2⟩
      simp only [c20, c2i, c2n, c2r, cs8_0, cs8_1, cs8_2, cs8_3, cs8_4, decide_eq_true_eq, ev_ald0, ev_aldn0, ev_bin, ev_cs3, ev_cv0, ev_cv1, ev_go, ev_gr, ev_i, ev_if0, ev_if2, ev_ild1, ev_ild2, ev_ild3, ev_inc3, ev_ist2, ev_ist3, ev_ri, i00, i01, i10, is_sw, not_false_eq_true, not_true_eq_false, pm_bd_s, pm_tl_n, pm_tl_s, ↓reduceIte, pb_X8_within_3, kd_0, rf_0_0, rf_0_1, rf_0_2, rf_0_3, rf_0_4, rf_0_5, rf_0_6, rf_0_7, rf_0_8, is_8_0, kd_1, rf_1_0, rf_1_1, rf_1_2, rf_1_3, rf_1_4, rf_1_5, rf_1_6, is_5_1, kd_3, rf_3_2, fc_3_0, fc_3_1, is_6_3_3, is_3_6_3, sp_used, hn', e1, r1, q', q, nI_1]
      exact r2
set_option maxRecDepth 100000 in
theorem lp_withinR {x : Int32} {h0 : pm_HP} {n k : Nat} (iM : RM h 31 60) (h60 : h0.1 60 = h.1 60) (hn0 : h.1 60 0 = nI n) (hn : n ≤ 24) (hk : h.1 60 378 = nI k) (hk6 : k ≤ 60) (hp : ∀ i, i < k → h.1 60 (379 + i) = cod (h.1 37 i)) (hz : k = 0 ∨ dpF 4 (h.1 37) k = some 1) : ∀ (m i : Nat) (a : Int32) (h' : pm_HP), i + m = n → frm [68, 69] h0 h' → ∃ h'', pm_ev P_X9_within (rs fb (d + 6)) (P_X9_within 2) [some (.ref 59), some (.int x), some (.int (nI i)), some (.int a)] [] h' = some (some (.int (nI (wiA x (hrF h k) i m a))), h'') ∧ frm [68, 69] h0 h'' := by
  have ix0 : pm_ix (0 : Int32) 440 = true := by decide
  have cl0 : (0 : Int32).toNatClampNeg = 0 := by decide
  intro m
  induction m with
  | zero =>
    intro i a h' hi hf
    have e1 : nI n ≤ nI i := nI_le (by omega) (by omega)
    have hn' : h'.1 60 0 = nI n := by rw [hf.1 60 (by decide), h60]; exact hn0
    obtain rfl : i = n := by omega
    refine ⟨h', ?_, hf⟩
    rw [pb_X9_within_2]
    simp only [c20, c2i, c2n, c2r, cs8_0, cs8_1, cs8_2, cs8_3, cs8_4, decide_eq_true_eq, ev_ald0, ev_aldn0, ev_bin, ev_cs3, ev_cv1, ev_go, ev_gr, ev_i, ev_ia, ev_if0, ev_if2, ev_ild1, ev_ild2, ev_ild3, ev_inc2, ev_ist2, ev_ist3, ev_ri, i00, i01, i10, not_false_eq_true, not_true_eq_false, pm_bd_s, pm_tl_n, pm_tl_s, ↓reduceIte, pb_X9_within_3, kd_59, rf_59_0, rf_59_1, rf_59_3, rf_59_4, rf_59_5, rf_59_6, rf_59_7, rf_59_12, rf_59_14, rf_59_15, rf_59_16, rf_59_19, rf_59_23, rf_59_24, rf_59_25, rf_59_26, is_9_59, kd_60, al_60, ix0, cl0, hn', e1, wiA]
  | succ m ih =>
    intro i a h' hi hf
    have e1 : ¬ nI n ≤ nI i := nI_ge (by omega) (by omega)
    have hn' : h'.1 60 0 = nI n := by rw [hf.1 60 (by decide), h60]; exact hn0
    obtain ⟨h1, r1, f1⟩ := hr_r (fb := fb) (d := d) (h2 := h') iM (by rw [hf.1 60 (by decide), h60]) hk hk6 hp hz (show i < 24 by omega)
    rw [pb_X9_within_2, wiA]
    by_cases q : x < a + hrF h k i
    · refine ⟨h1, ?_, hf.tr f1⟩
      simp only [c20, c2i, c2n, c2r, cs8_0, cs8_1, cs8_2, cs8_3, cs8_4, decide_eq_true_eq, ev_ald0, ev_aldn0, ev_bin, ev_cs3, ev_cv1, ev_go, ev_gr, ev_i, ev_ia, ev_if0, ev_if2, ev_ild1, ev_ild2, ev_ild3, ev_inc2, ev_ist2, ev_ist3, ev_ri, i00, i01, i10, not_false_eq_true, not_true_eq_false, pm_bd_s, pm_tl_n, pm_tl_s, ↓reduceIte, pb_X9_within_3, kd_59, rf_59_0, rf_59_1, rf_59_3, rf_59_4, rf_59_5, rf_59_6, rf_59_7, rf_59_12, rf_59_14, rf_59_15, rf_59_16, rf_59_19, rf_59_23, rf_59_24, rf_59_25, rf_59_26, is_9_59, kd_60, al_60, ix0, cl0, hn', e1, r1, q]
    · obtain ⟨h3, r3, f3⟩ := hr_r (fb := fb) (d := d) (h2 := h1) iM (by rw [f1.1 60 (by decide), hf.1 60 (by decide), h60]) hk hk6 hp hz (show i < 24 by omega)
      obtain ⟨h2, r2, f2⟩ := ih (i + 1) (a + hrF h k i) h3 (by omega) ((hf.tr f1).tr f3)
      refine ⟨h2, ?_, f2⟩
      simp only [c20, c2i, c2n, c2r, cs8_0, cs8_1, cs8_2, cs8_3, cs8_4, decide_eq_true_eq, ev_ald0, ev_aldn0, ev_bin, ev_cs3, ev_cv1, ev_go, ev_gr, ev_i, ev_ia, ev_if0, ev_if2, ev_ild1, ev_ild2, ev_ild3, ev_inc2, ev_ist2, ev_ist3, ev_ri, i00, i01, i10, not_false_eq_true, not_true_eq_false, pm_bd_s, pm_tl_n, pm_tl_s, ↓reduceIte, pb_X9_within_3, kd_59, rf_59_0, rf_59_1, rf_59_3, rf_59_4, rf_59_5, rf_59_6, rf_59_7, rf_59_12, rf_59_14, rf_59_15, rf_59_16, rf_59_19, rf_59_23, rf_59_24, rf_59_25, rf_59_26, is_9_59, kd_60, al_60, ix0, cl0, hn', e1, r1, q, r3, nI_1]
      exact r2
theorem pr_within (hI : Inv h) (x : Int32) : Pr fb (d + 100) n_X8_within n_X9_within [.int x] h := by
  obtain ⟨⟨n, u, nt, nb, nw, iN⟩, iZ, iM, iS, iT, iB, iW, iX, iY⟩ := id hI.1
  obtain ⟨k, hk6, hk, hk2, hp, hz⟩ := iY
  by_cases q : 0 ≤ x ∧ x ≤ 99999
  · obtain ⟨h1, r1, f1⟩ := lp_withinC (fb := fb) (d := d + 93) (x := x) iM iN.1.1 iN.1.2.2.2 hk hk6 hz n 0 0 h (by omega) (frm.rf _ _)
    obtain ⟨h2, r2, f2⟩ := lp_withinR (fb := fb) (d := d + 93) (x := x) (h0 := h1) iM (f1.1 60 (by decide)) iN.1.2.1 iN.1.2.2.2 hk2 hk6 (fun i hi => (hp i hi).symm) hz n 0 0 h1 (by omega) (frm.rf _ _)
    rw [nI_0] at r1 r2
    refine ⟨nI (wiA x (hrF h k) 0 n 0), h1, h2, ?_, ?_, Inv_2 hI f1 f2⟩
    · rw [en_X8_within]
      simp only [c20, c2i, c2n, c2r, cs8_0, cs8_1, cs8_2, cs8_3, cs8_4, decide_eq_true_eq, ev_ald0, ev_aldn0, ev_bin, ev_cs3, ev_cv0, ev_cv1, ev_go, ev_gr, ev_i, ev_if0, ev_if2, ev_ild1, ev_ild2, ev_ild3, ev_inc3, ev_ist2, ev_ist3, ev_ri, i00, i01, i10, is_sw, not_false_eq_true, not_true_eq_false, pm_bd_s, pm_tl_n, pm_tl_s, ↓reduceIte, pb_X8_within_0, pb_X8_within_1, kd_0, rf_0_0, rf_0_1, rf_0_2, rf_0_3, rf_0_4, rf_0_5, rf_0_6, rf_0_7, rf_0_8, is_8_0, sp_isIn, bI_n0, eq_true q]
      exact r1
    · rw [en_X9_within]
      simp only [c20, c2i, c2n, c2r, cs8_0, cs8_1, cs8_2, cs8_3, cs8_4, decide_eq_true_eq, ev_ald0, ev_aldn0, ev_bin, ev_cs3, ev_cv1, ev_go, ev_gr, ev_i, ev_ia, ev_if0, ev_if2, ev_ild1, ev_ild2, ev_ild3, ev_inc2, ev_ist2, ev_ist3, ev_ri, i00, i01, i10, not_false_eq_true, not_true_eq_false, pm_bd_s, pm_tl_n, pm_tl_s, ↓reduceIte, pb_X9_within_0, pb_X9_within_1, kd_59, rf_59_0, rf_59_1, rf_59_3, rf_59_4, rf_59_5, rf_59_6, rf_59_7, rf_59_12, rf_59_14, rf_59_15, rf_59_16, rf_59_19, rf_59_23, rf_59_24, rf_59_25, rf_59_26, is_9_59, sr_isIn, bI_n0, eq_true q]
      exact r2
  · refine Pr_e (e := 1) (x := -1000000001) hI (by omega) (by omega) ?_ ?_
    · rw [en_X8_within]
      simp only [c20, c2i, c2n, c2r, cs8_0, cs8_1, cs8_2, cs8_3, cs8_4, decide_eq_true_eq, ev_ald0, ev_aldn0, ev_bin, ev_cs3, ev_cv0, ev_cv1, ev_go, ev_gr, ev_i, ev_if0, ev_if2, ev_ild1, ev_ild2, ev_ild3, ev_inc3, ev_ist2, ev_ist3, ev_ri, i00, i01, i10, is_sw, not_false_eq_true, not_true_eq_false, pm_bd_s, pm_tl_n, pm_tl_s, ↓reduceIte, pb_X8_within_0, kd_0, rf_0_0, rf_0_1, rf_0_2, rf_0_3, rf_0_4, rf_0_5, rf_0_6, rf_0_7, rf_0_8, is_8_0, sp_isIn, bI_n0, eq_false q, fail_1, F1]
    · rw [en_X9_within]
      simp only [c20, c2i, c2n, c2r, cs8_0, cs8_1, cs8_2, cs8_3, cs8_4, decide_eq_true_eq, ev_ald0, ev_aldn0, ev_bin, ev_cs3, ev_cv1, ev_go, ev_gr, ev_i, ev_ia, ev_if0, ev_if2, ev_ild1, ev_ild2, ev_ild3, ev_inc2, ev_ist2, ev_ist3, ev_ri, i00, i01, i10, not_false_eq_true, not_true_eq_false, pm_bd_s, pm_tl_n, pm_tl_s, ↓reduceIte, pb_X9_within_0, kd_59, rf_59_0, rf_59_1, rf_59_3, rf_59_4, rf_59_5, rf_59_6, rf_59_7, rf_59_12, rf_59_14, rf_59_15, rf_59_16, rf_59_19, rf_59_23, rf_59_24, rf_59_25, rf_59_26, is_9_59, sr_isIn, bI_n0, eq_false q, find_1]
end H1
