/-! WHAT A POST MOVES; THE HOURS OF A MILE -/
/-- names -/
def nm5 (a b c e f : Int32) : Nat → Int32 := fun j => if j = 0 then a else if j = 1 then b else if j = 2 then c else if j = 3 then e else f
theorem held_eq (v m : Int32) : (if 0 < (if m < v then m else v) then (if m < v then m else v) else 0) = hdR v 0 m := by
  unfold hdR
  by_cases q : m < v
  · rw [if_pos q, if_neg (show ¬ v < m from Int32.not_lt.mpr (Int32.le_of_lt q))]
  · rw [if_neg q]
    by_cases c : v < m
    · rw [if_pos c]
    · rw [if_neg c]
      have e : v = m := Int32.le_antisymm (Int32.not_lt.mp q) (Int32.not_lt.mp c)
      rw [e]
/-- a text's value for names N, held -/
def txF (h : pm_HP) (A nn k : Nat) (N : Nat → Int32) (hi : Int32) : Int32 := hdR (rnS N nn (h.1 A) k 0 0 (fun _ => 0)) 0 hi
def N5 (h : pm_HP) (n u nt j : Nat) : Nat → Int32 := nm5 (nI j) (nI n) (SDf h u n - h.1 60 6) (ALf h u n - h.1 60 7) (smA (fun i => decide (rt h 0 i = nI j)) (fun _ => 1) 0 nt 0)
/-- what post j moves -/
def mvF (h : pm_HP) (n u nt k j : Nat) : Int32 := if k = 0 then nI (100 * j / n) else txF h 36 5 k (N5 h n u nt j) 100
/-- class's cells behind a walk and some workings-out -/
def Gm (h h1 : pm_HP) (n u : Nat) : Prop := ∃ g, Gn h g n u ∧ frm [29, 30] g h1
def Gs (h h1 h2 : pm_HP) (n u : Nat) : Prop := ∃ g, Gr h h1 g n u ∧ frm [68, 69] g h2
section M1
variable {fb : Bool} {d : Nat} {h : pm_HP}
theorem cs_i5 {a b c e : Int32} {f : Nat} : (pm_cs [.int a, .int b, .int c, .int e, .ref f] ≤ 8) = True := eq_true (show 5 ≤ 8 by decide)
theorem cs_i6 {a b c e g : Int32} {f : Nat} : (pm_cs [.int a, .int b, .int c, .int e, .int g, .ref f] ≤ 8) = True := eq_true (show 6 ≤ 8 by decide)
theorem Gm_0 {h1 : pm_HP} {n u : Nat} (g : Gn h h1 n u) : Gm h h1 n u := ⟨h1, g, frm.rf _ _⟩
theorem Gm_t {h1 h2 : pm_HP} {n u : Nat} (g : Gm h h1 n u) (f : frm [29, 30] h1 h2) : Gm h h2 n u := by
  obtain ⟨g0, a, b⟩ := g
  exact ⟨g0, a, b.tr f⟩
theorem Gm_e {h1 : pm_HP} {n u : Nat} (g : Gm h h1 n u) {a : Nat} (ha : a ∉ wkC) (hb : a ∉ [29, 30]) : h1.1 a = h.1 a := by
  obtain ⟨g0, x, y⟩ := g
  rw [y.1 a hb, x.1.1 a ha]
theorem Gm_w {h1 : pm_HP} {n u : Nat} (g : Gm h h1 n u) : h1.1 17 7 = nI n ∧ h1.1 17 8 = h.1 60 6 ∧ h1.1 17 9 = h.1 60 7 ∧ (∀ j, j ≤ n → h1.1 52 j = SDf h u j ∧ h1.1 53 j = ALf h u j) := by
  obtain ⟨g0, x, y⟩ := g
  rw [y.1 17 (by decide), y.1 52 (by decide), y.1 53 (by decide)]
  exact ⟨x.2.1, x.2.2.1, x.2.2.2.1, x.2.2.2.2.1⟩
theorem Gs_t {h1 h2 h3 : pm_HP} {n u : Nat} (g : Gs h h1 h2 n u) (f : frm [68, 69] h2 h3) : Gs h h1 h3 n u := by
  obtain ⟨g0, a, b⟩ := g
  exact ⟨g0, a, b.tr f⟩
theorem Gs_e {h1 h2 : pm_HP} {n u : Nat} (g : Gs h h1 h2 n u) {a : Nat} (ha : a ∉ [63, 64, 65]) (hb : a ∉ [68, 69]) : h2.1 a = h1.1 a := by
  obtain ⟨g0, x, y⟩ := g
  rw [y.1 a hb, x.1.1 a ha]
theorem Gs_w {h1 h2 : pm_HP} {n u : Nat} (g : Gs h h1 h2 n u) : ∀ j, j ≤ n → h2.1 63 j = SDf h u j ∧ h2.1 64 j = ALf h u j := by
  obtain ⟨g0, x, y⟩ := g
  rw [y.1 63 (by decide), y.1 64 (by decide)]
  exact x.2.1
theorem nz_of {n : Nat} (h1 : 1 ≤ n) (h2 : n < 2 ^ 31) : (nI n = 0) = False := by
  apply eq_false
  intro c
  exact (nI_ge (a := 0) (b := n) (by omega) (by omega) : ¬ nI n ≤ nI 0) (by rw [c]; exact Int32.le_refl _)
theorem div_n {a b : Nat} (ha : a < 2 ^ 31) (hb : b < 2 ^ 31) : nI a / nI b = nI (a / b) := (Int32.ofNat_div ha hb).symm
/-- the class's posts move -/
theorem mv_c {h1 : pm_HP} {n u nt nb nw k j : Nat} (iN : RN h 3 60 n u nt nb nw) (iT : RT h 33 60) (g : Gm h h1 n u) (hk : h.1 8 1 = nI k) (hk6 : k ≤ 60) (hz : k = 0 ∨ dpF 5 (h.1 36) k = some 1) (hj : j ≤ n) : ∃ h2, rs fb (d + 6) n_X8_movingOf [.ref 0, .int (nI j)] h1 = some (some (.int (mvF h n u nt k j)), h2) ∧ frm [29, 30] h1 h2 := by
  have hn := iN.1.2.2.2
  have hn3 : h1.1 3 3 = nI n := by rw [Gm_e g (by decide) (by decide)]; exact iN.1.1
  have hk1 : h1.1 8 1 = nI k := by rw [Gm_e g (by decide) (by decide)]; exact hk
  have nz := nz_of iN.1.2.2.1 (show n < 2 ^ 31 by omega)
  have np : ¬ nI n ≤ 0 := nI_ge (a := 0) iN.1.2.2.1 (by omega)
  unfold mvF
  by_cases q : k = 0
  · subst q
    refine ⟨h1, ?_, frm.rf _ _⟩
    have e1 : (100 : Int32) * nI j / nI n = nI (100 * j / n) := by
      show nI 100 * nI j / nI n = _
      rw [nI_mul, div_n (by omega) (by omega)]
    have e2 : (0 < nI 0) = False := by decide
    rw [en_X8_movingOf]
    simp only [c20, c2i, c2n, c2r, cs8_0, cs8_1, cs8_2, cs8_3, cs8_4, decide_eq_true_eq, ev_ald0, ev_aldn0, ev_bin, ev_cs2, ev_cv0, ev_cv2, ev_dv, ev_go, ev_gr, ev_i, ev_ias, ev_if0, ev_ild1, ev_ild2, ev_ist2, ev_ri, i00, i01, i10, is_sw, not_false_eq_true, not_true_eq_false, pm_bd_s, pm_tl_n, pm_tl_s, ↓reduceIte, pb_X8_movingOf_0, pb_X8_movingOf_1, pb_X8_movingOf_2, pb_X8_movingOf_3, kd_0, rf_0_0, rf_0_1, rf_0_2, rf_0_3, rf_0_4, rf_0_5, rf_0_6, rf_0_7, rf_0_8, is_8_0, kd_1, rf_1_0, rf_1_1, rf_1_2, rf_1_3, rf_1_4, rf_1_5, rf_1_6, is_5_1, kd_3, rf_3_2, fc_3_0, fc_3_1, is_6_3_3, is_3_6_3, kd_8, rf_8_0, is_0_8, sp_used, hn3, sp_isTold (t := 8) (by decide), hk1, bI_n0, e2, nz, np, e1]
  · have e2 : (0 < nI k) = True := eq_true (nI_lt (a := 0) (by omega) (by omega))
    have z := (hz.resolve_left q)
    rw [if_neg q]
    obtain ⟨w7, w8, w9, w5⟩ := Gm_w g
    have ix : pm_ix (0 : Int32) 5 = true ∧ pm_ix (1 : Int32) 5 = true ∧ pm_ix (2 : Int32) 5 = true ∧ pm_ix (3 : Int32) 5 = true ∧ pm_ix (4 : Int32) 5 = true := by decide
    have cl : (0 : Int32).toNatClampNeg = 0 ∧ (1 : Int32).toNatClampNeg = 1 ∧ (2 : Int32).toNatClampNeg = 2 ∧ (3 : Int32).toNatClampNeg = 3 ∧ (4 : Int32).toNatClampNeg = 4 := by decide
    have et : ∀ i, (decide (h1.1 33 i = nI j)) = (decide (h1.1 33 (0 * 16 + i) = nI j)) := fun i => by rw [Nat.zero_mul, Nat.zero_add]
    have hm := fun (h' : pm_HP) (hu : h'.1 5 3 = nI nt) => sp_howMany (fb := fb) (d := d + 2) (t := 5) (c := 0) (u := nt) (v := nI j) (h := h') (by decide) (by decide) hu (by show nt ≤ 16; exact iN.2.2.1.2.2)
    have em : ∀ h' : pm_HP, h'.1 33 = h.1 33 → smA (fun i => decide (h'.1 (pm_rf 5 2) (0 * tR 5 + i) = nI j)) (fun _ => 1) 0 nt 0 = smA (fun i => decide (rt h 0 i = nI j)) (fun _ => 1) 0 nt 0 := by
      intro h' e3
      refine smA_congr nt 0 0 (fun s _ hs => ⟨?_, rfl⟩)
      show decide (h'.1 33 (0 * 16 + s) = nI j) = _
      rw [e3, (iT s (by have := iN.2.2.1.2.2; omega)).1 0 (by omega)]
      rfl
    have hc5 : h1.1 5 3 = nI nt := by rw [Gm_e g (by decide) (by decide)]; exact iN.2.2.1.1
    have h33 : h1.1 33 = h.1 33 := Gm_e g (by decide) (by decide)
    have h36 : h1.1 36 = h.1 36 := Gm_e g (by decide) (by decide)
    obtain ⟨h2, r, f⟩ := sp_work (fb := fb) (d := d + 2) (h := pm_si (pm_si (pm_si (pm_si (pm_si h1 29 0 (nI j)) 29 1 (nI n)) 29 2 (SDf h u n - h.1 60 6)) 29 3 (ALf h u n - h.1 60 7)) 29 4 (smA (fun i => decide (rt h 0 i = nI j)) (fun _ => 1) 0 nt 0)) (w := 8) (A := 36) (nn := 5) (k := k) (p := h.1 36) (N := N5 h n u nt j) (by decide) (by decide) (by decide) hk1 hk6 (fun i hi => by simp only [si_at, Nat.reduceEqDiff, false_and, ↓reduceIte]; rw [h36]) (fun i hi => by
      unfold N5 nm5
      simp only [si_at, true_and]
      rcases (show i = 0 ∨ i = 1 ∨ i = 2 ∨ i = 3 ∨ i = 4 by omega) with rfl | rfl | rfl | rfl | rfl <;> simp) (by omega) z
    refine ⟨h2, ?_, (((((frm.rf _ _).si (by decide)).si (by decide)).si (by decide)).si (by decide)).si (by decide) |>.tr (f.sub (by decide))⟩
    rw [nI_0] at hm
    have hmS := fun (v0 v1 v2 v3 : Int32) => hm (pm_si (pm_si (pm_si (pm_si h1 29 0 v0) 29 1 v1) 29 2 v2) 29 3 v3) hc5
    have emS := fun (v0 v1 v2 v3 : Int32) => em (pm_si (pm_si (pm_si (pm_si h1 29 0 v0) 29 1 v1) 29 2 v2) 29 3 v3) h33
    have m1 := fun (v0 v1 : Int32) => sp_missSide (fb := fb) (d := d + 4) (h := pm_si (pm_si h1 29 0 v0) 29 1 v1) (n := n) w7 hn
    have m2 := fun (v0 v1 v2 : Int32) => sp_missAlong (fb := fb) (d := d + 4) (h := pm_si (pm_si (pm_si h1 29 0 v0) 29 1 v1) 29 2 v2) (n := n) w7 hn
    have k1 : ∀ v0 v1 : Int32, (pm_si (pm_si h1 29 0 v0) 29 1 v1).1 52 n - (pm_si (pm_si h1 29 0 v0) 29 1 v1).1 17 8 = SDf h u n - h.1 60 6 := fun v0 v1 => by
      show h1.1 52 n - h1.1 17 8 = _
      rw [(w5 n (Nat.le_refl _)).1, w8]
    have k2 : ∀ v0 v1 v2 : Int32, (pm_si (pm_si (pm_si h1 29 0 v0) 29 1 v1) 29 2 v2).1 53 n - (pm_si (pm_si (pm_si h1 29 0 v0) 29 1 v1) 29 2 v2).1 17 9 = ALf h u n - h.1 60 7 := fun v0 v1 v2 => by
      show h1.1 53 n - h1.1 17 9 = _
      rw [(w5 n (Nat.le_refl _)).2, w9]
    simp only [emS] at hmS
    simp only [k1] at m1
    simp only [k2] at m2
    rw [en_X8_movingOf]
    simp only [c20, c2i, c2n, c2r, cs8_0, cs8_1, cs8_2, cs8_3, cs8_4, decide_eq_true_eq, ev_ald0, ev_aldn0, ev_bin, ev_cs2, ev_cv0, ev_cv2, ev_dv, ev_go, ev_gr, ev_i, ev_ias, ev_if0, ev_ild1, ev_ild2, ev_ist2, ev_ri, i00, i01, i10, is_sw, not_false_eq_true, not_true_eq_false, pm_bd_s, pm_tl_n, pm_tl_s, ↓reduceIte, pb_X8_movingOf_0, pb_X8_movingOf_1, pb_X8_movingOf_2, pb_X8_movingOf_3, kd_0, rf_0_0, rf_0_1, rf_0_2, rf_0_3, rf_0_4, rf_0_5, rf_0_6, rf_0_7, rf_0_8, is_8_0, kd_1, rf_1_0, rf_1_1, rf_1_2, rf_1_3, rf_1_4, rf_1_5, rf_1_6, is_5_1, kd_3, rf_3_2, fc_3_0, fc_3_1, is_6_3_3, is_3_6_3, kd_5, rf_5_2, fc_5_0, fc_5_1, is_6_3_5, is_3_6_5, kd_8, rf_8_0, is_0_8, kd_17, rf_17_0, rf_17_1, rf_17_2, rf_17_3, rf_17_4, rf_17_5, rf_17_6, is_7_17, kd_29, al_29, kd_30, al_30, sp_used, hn3, sp_isTold (t := 8) (by decide), hk1, bI_n0, e2, ix, cl, m1, m2, hmS, r, sp_held, held_eq]
    rfl
/-- the reference's -/
theorem sr_given {w b nn k : Nat} {p : Nat → Int32} {v0 v1 v2 v3 v4 : Int32} (hw : (w = 0 ∧ b = 316) ∨ (w = 1 ∧ b = 378)) (hk : h.1 60 b = nI k) (hk6 : k ≤ 60) (hp : ∀ i, i < k → h.1 60 (b + 1 + i) = cod (p i)) (hn : nn ≤ 5) (hz : dpF nn p k = some 1) : ∃ h2, rs fb (d + 3) n_X9_given [.ref 59, .int (nI w), .int v0, .int v1, .int v2, .int v3, .int v4] h = some (some (.int (rnS (nm5 v0 v1 v2 v3 v4) nn p k 0 0 (fun _ => 0))), h2) ∧ frm [68, 69] h h2 := by
  have ix : pm_ix (0 : Int32) 5 = true ∧ pm_ix (1 : Int32) 5 = true ∧ pm_ix (2 : Int32) 5 = true ∧ pm_ix (3 : Int32) 5 = true ∧ pm_ix (4 : Int32) 5 = true := by decide
  have cl : (0 : Int32).toNatClampNeg = 0 ∧ (1 : Int32).toNatClampNeg = 1 ∧ (2 : Int32).toNatClampNeg = 2 ∧ (3 : Int32).toNatClampNeg = 3 ∧ (4 : Int32).toNatClampNeg = 4 := by decide
  obtain ⟨h2, r, f⟩ := sr_worked (fb := fb) (d := d) (h := pm_si (pm_si (pm_si (pm_si (pm_si h 68 0 v0) 68 1 v1) 68 2 v2) 68 3 v3) 68 4 v4) (b := b) (nn := nn) (k := k) (p := p) (N := nm5 v0 v1 v2 v3 v4) (by omega) hk hk6 hp (fun i hi => by
    unfold nm5
    simp only [si_at, true_and]
    rcases (show i = 0 ∨ i = 1 ∨ i = 2 ∨ i = 3 ∨ i = 4 by omega) with rfl | rfl | rfl | rfl | rfl <;> simp) hn hz
  refine ⟨h2, ?_, (((((frm.rf _ _).si (by decide)).si (by decide)).si (by decide)).si (by decide)).si (by decide) |>.tr (f.sub (by decide))⟩
  have e : (316 : Int32) + 62 * nI w + 1 = nI (b + 1) := by
    rcases hw with ⟨rfl, rfl⟩ | ⟨rfl, rfl⟩ <;> decide
  rw [en_X9_given]
  simp only [cs8_0, cs8_1, cs8_2, cs8_3, cs8_4, ev_ald0, ev_aldn0, ev_bin, ev_cv1, ev_gr, ev_i, ev_ias, ev_ild1, ev_ild2, ev_ild3, ev_ild4, ev_ild5, ev_ild6, ev_ri, pm_bd_s, pm_tl_n, pm_tl_s, pb_X9_given_0, kd_59, rf_59_0, rf_59_1, rf_59_3, rf_59_4, rf_59_5, rf_59_6, rf_59_7, rf_59_12, rf_59_14, rf_59_15, rf_59_16, rf_59_19, rf_59_23, rf_59_24, rf_59_25, rf_59_26, is_9_59, kd_68, al_68, ix, cl, e, r, if_true]
theorem hdR_n {n : Nat} (hn : n ≤ 100) : hdR (nI n) 0 100 = nI n := by
  unfold hdR
  by_cases q : n < 100
  · have a : nI n < 100 := nI_lt (b := 100) q (by omega)
    rw [if_pos a]
    by_cases c : 0 < n
    · have c0 : (0 : Int32) < nI n := nI_lt (a := 0) c (by omega)
      rw [if_pos c0]
    · have : n = 0 := by omega
      subst this
      decide
  · have : n = 100 := by omega
    subst this
    decide
theorem mv_r {h2 : pm_HP} {n u nt nb nw k j : Nat} (iN : RN h 3 60 n u nt nb nw) (h60 : h2.1 60 = h.1 60) (g : h2.1 63 n = SDf h u n ∧ h2.1 64 n = ALf h u n) (hk : h.1 60 316 = nI k) (hk6 : k ≤ 60) (hp : ∀ i, i < k → h.1 60 (317 + i) = cod (h.1 36 i)) (hz : k = 0 ∨ dpF 5 (h.1 36) k = some 1) (hj : j ≤ n) : ∃ h3, rs fb (d + 6) n_X9_movingOf [.ref 59, .int (nI j)] h2 = some (some (.int (mvF h n u nt k j)), h3) ∧ frm [68, 69] h2 h3 := by
  have hn := iN.1.2.2.2
  have ix0 : pm_ix (0 : Int32) 440 = true := by decide
  have cl0 : (0 : Int32).toNatClampNeg = 0 := by decide
  have hn0 : h2.1 60 0 = nI n := by rw [h60]; exact iN.1.2.1
  have ht2 : h2.1 60 2 = nI nt := by rw [h60]; exact iN.2.2.1.2.1
  have hk1 : h2.1 60 316 = nI k := by rw [h60]; exact hk
  have nz := nz_of iN.1.2.2.1 (show n < 2 ^ 31 by omega)
  unfold mvF
  by_cases q : k = 0
  · subst q
    refine ⟨h2, ?_, frm.rf _ _⟩
    have e1 : (100 : Int32) * nI j / nI n = nI (100 * j / n) := by
      show nI 100 * nI j / nI n = _
      rw [nI_mul, div_n (by omega) (by omega)]
    have e2 : (0 < nI 0) = False := by decide
    have e3 : 100 * j / n ≤ 100 := by
      refine Nat.div_le_of_le_mul ?_
      rw [Nat.mul_comm n 100]
      exact Nat.mul_le_mul_left 100 hj
    rw [en_X9_movingOf]
    simp only [c20, c2i, c2n, c2r, cs8_0, cs8_1, cs8_2, cs8_3, cs8_4, decide_eq_true_eq, ev_ald0, ev_aldn0, ev_bin, ev_cs3, ev_cv1, ev_cv6, ev_dv, ev_go, ev_gr, ev_i, ev_ia, ev_if0, ev_ild1, ev_ild2, ev_ist2, ev_ri, i00, i01, i10, not_false_eq_true, not_true_eq_false, pm_bd_s, pm_tl_n, pm_tl_s, ↓reduceIte, pb_X9_movingOf_0, pb_X9_movingOf_1, pb_X9_movingOf_2, kd_59, rf_59_0, rf_59_1, rf_59_3, rf_59_4, rf_59_5, rf_59_6, rf_59_7, rf_59_12, rf_59_14, rf_59_15, rf_59_16, rf_59_19, rf_59_23, rf_59_24, rf_59_25, rf_59_26, is_9_59, kd_60, al_60, ix0, cl0, hn0, sr_hasText0, hk1, bI_0, e2, nz, e1, sr_held, hdR_n e3]
  · have e2 : (0 < nI k) = True := eq_true (nI_lt (a := 0) (by omega) (by omega))
    have z := (hz.resolve_left q)
    rw [if_neg q]
    obtain ⟨h3, r, f⟩ := sr_given (fb := fb) (d := d + 2) (h := h2) (w := 0) (b := 316) (nn := 5) (k := k) (p := h.1 36) (v0 := nI j) (v1 := nI n) (v2 := SDf h u n - h.1 60 6) (v3 := ALf h u n - h.1 60 7) (v4 := smA (fun i => decide (rt h 0 i = nI j)) (fun _ => 1) 0 nt 0) (Or.inl ⟨rfl, rfl⟩) hk1 hk6 (fun i hi => by rw [h60]; exact hp i hi) (by omega) z
    refine ⟨h3, ?_, f⟩
    rw [nI_0] at r
    have er : ∀ i, rt h2 0 i = rt h 0 i := fun i => by unfold rt; rw [h60]
    have m0 := sr_miss0 (fb := fb) (d := d + 4) hn0 hn
    have m1 := sr_miss1 (fb := fb) (d := d + 4) hn0 hn
    rw [g.1, h60] at m0
    rw [g.2, h60] at m1
    have mt := sr_treesAt (fb := fb) (d := d + 3) (v := nI j) ht2 (show nt ≤ 16 from iN.2.2.1.2.2)
    simp only [er] at mt
    rw [en_X9_movingOf]
    simp only [c20, c2i, c2n, c2r, cs8_0, cs8_1, cs8_2, cs8_3, cs8_4, decide_eq_true_eq, ev_ald0, ev_aldn0, ev_bin, ev_cs3, ev_cv1, ev_cv6, ev_dv, ev_go, ev_gr, ev_i, ev_ia, ev_if0, ev_ild1, ev_ild2, ev_ist2, ev_ri, i00, i01, i10, not_false_eq_true, not_true_eq_false, pm_bd_s, pm_tl_n, pm_tl_s, ↓reduceIte, pb_X9_movingOf_0, pb_X9_movingOf_1, pb_X9_movingOf_2, kd_59, rf_59_0, rf_59_1, rf_59_3, rf_59_4, rf_59_5, rf_59_6, rf_59_7, rf_59_12, rf_59_14, rf_59_15, rf_59_16, rf_59_19, rf_59_23, rf_59_24, rf_59_25, rf_59_26, is_9_59, kd_60, al_60, ix0, cl0, hn0, sr_hasText0, hk1, bI_0, e2, not_true_eq_false, not_false_eq_true, m0, m1, mt, r, sr_held, cs_i5, cs_i6]
    rfl
end M1
