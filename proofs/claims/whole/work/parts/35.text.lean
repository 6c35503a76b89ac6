/-! TEXTS WORKED OUT -/
section T1
/-- the stack behind a part -/
def stS (N : Nat → Int32) (x : Int32) (q : Nat) (S : Nat → Int32) : Nat → Int32 := fun j => if x < 20000 then (if j = q then (if x < 10000 then x else N (x - 10000).toNatClampNeg) else S j) else if x = 20033 then (if j = q - 1 then bI (S (q - 1) = 0) else S j) else (if j = q - 2 then joF (x - 20000) (S (q - 2)) (S (q - 1)) else S j)
def rnS (N : Nat → Int32) (nn : Nat) (p : Nat → Int32) : Nat → Nat → Nat → (Nat → Int32) → Int32
  | 0, _, _, S => S 0
  | m + 1, i, q, S => rnS N nn p m (i + 1) ((dpS nn (p i) q).getD 0) (stS N (p i) q S)
theorem dp_pre {nn : Nat} {p : Nat → Int32} {a : Nat} : ∀ (b z : Nat), dpF nn p (a + b) = some z → ∃ y, dpF nn p a = some y
  | 0, z, h => ⟨z, h⟩
  | b + 1, z, h => by
    rw [← Nat.add_assoc, dpF] at h
    cases e : dpF nn p (a + b) with
    | none => rw [e] at h; cases h
    | some y => exact dp_pre b y e
theorem dp_ok {nn : Nat} {p : Nat → Int32} {k z i q : Nat} (hz : dpF nn p k = some z) (hi : i < k) (hq : dpF nn p i = some q) : ∃ q', dpS nn (p i) q = some q' ∧ dpF nn p (i + 1) = some q' := by
  obtain ⟨y, hy⟩ := dp_pre (nn := nn) (p := p) (a := i + 1) (k - (i + 1)) z (by rw [show i + 1 + (k - (i + 1)) = k by omega]; exact hz)
  have e := hy
  rw [dpF, hq] at e
  exact ⟨y, e, hy⟩
/-- the four kinds of parts -/
theorem dp_cases {nn : Nat} {x : Int32} {q q' : Nat} (hn : nn ≤ 5) (h : dpS nn x q = some q') : ((0 ≤ x ∧ x < 10000) ∧ q' = q + 1) ∨ (∃ j, j < nn ∧ x = nI (10000 + j) ∧ q' = q + 1) ∨ (x = 20033 ∧ 1 ≤ q ∧ q' = q) ∨ ((x = 20124 ∨ x = 20038 ∨ x = 20060 ∨ x = 20061 ∨ x = 20062 ∨ x = 20043 ∨ x = 20045 ∨ x = 20042 ∨ x = 20047 ∨ x = 20037) ∧ 2 ≤ q ∧ q' = q - 1) := by
  unfold dpS at h
  split at h
  · rename_i g
    cases h
    rcases g with g | g
    · exact Or.inl ⟨g, rfl⟩
    · refine Or.inr (Or.inl ?_)
      have g0 : ¬ x < 0 := Int32.not_lt.mpr (Int32.le_trans (by decide) g.1)
      obtain ⟨t, ht, rfl⟩ := nI_of g0
      have g1 : 10000 ≤ t := by
        rcases Nat.lt_or_ge t 10000 with c | c
        · exact absurd g.1 (nI_ge (a := t) (b := 10000) c (by omega))
        · exact c
      have g2 : nI t < nI (10000 + nn) := by rw [← nI_add]; exact g.2
      have g3 : t < 10000 + nn := (nI_ltI ht (by omega)).mp g2
      exact ⟨t - 10000, by omega, by rw [show 10000 + (t - 10000) = t by omega], rfl⟩
  · split at h
    · split at h
      · cases h; rename_i e g _; exact Or.inr (Or.inr (Or.inl ⟨g, by assumption, rfl⟩))
      · cases h
    · split at h
      · split at h
        · cases h; exact Or.inr (Or.inr (Or.inr ⟨by assumption, by assumption, rfl⟩))
        · cases h
      · cases h
theorem dp_le {nn : Nat} {p : Nat → Int32} (hn : nn ≤ 5) : ∀ (i q : Nat), dpF nn p i = some q → q ≤ i
  | 0, q, h => by cases h; exact Nat.le_refl _
  | i + 1, q, h => by
    rw [dpF] at h
    cases e : dpF nn p i with
    | none => rw [e] at h; cases h
    | some y =>
      rw [e] at h
      have a := dp_le hn i y e
      rcases dp_cases hn h with g | ⟨j, _, _, g⟩ | ⟨_, _, g⟩ | ⟨_, _, g⟩ <;> omega
theorem nI_s10 (j : Nat) : nI (10000 + j) - 10000 = nI j := by
  rw [← nI_add, Int32.add_comm]
  exact Int32.add_sub_cancel _ _
theorem nI_p1 (r : Nat) : nI (r + 1) - 1 = nI r := by
  rw [nI_m1 (by omega)]; rfl
theorem nI_d1 (r : Nat) : nI (r + 1) + -1 = nI r := by
  rw [← Int32.sub_eq_add_neg]; exact nI_p1 r
variable {fb : Bool} {d : Nat} {h : pm_HP}
set_option maxRecDepth 100000 in
theorem lp_work {w A nn k : Nat} {p N : Nat → Int32} (ht : pm_is [0] w = true) (hA : pm_rf w 0 = A) (hA30 : A ≠ 30) (hk : h.1 w 1 = nI k) (hk6 : k ≤ 60) (hp : ∀ i, i < k → h.1 A i = p i) (hN : ∀ j, j < nn → h.1 29 j = N j) (hn : nn ≤ 5) (hz : dpF nn p k = some 1) :
    ∀ (m i q : Nat) (S : Nat → Int32) (h' : pm_HP) (x : Option Value), i + m = k → dpF nn p i = some q → frm [30] h h' → (∀ j, j < q → h'.1 30 j = S j) → pm_c2 x = false → ∃ h'', pm_ev P_X0_workedOut (rs fb (d + 2)) (P_X0_workedOut 1) [some (.ref w), some (.ref 29), some (.ref 30), some (.int (nI q)), some (.int (nI i)), x] [] h' = some (some (.int (rnS N nn p m i q S)), h'') ∧ frm [30] h h'' := by
  obtain ⟨f1, f2⟩ := w_facts w (w_lt ht) ht
  rw [hA] at f1 f2
  have hw30 : w ≠ 30 := by rintro rfl; exact absurd ht (by decide)
  intro m
  induction m with
  | zero =>
    intro i q S h' x hi hq hf hS hx
    obtain rfl : i = k := by omega
    obtain rfl : 1 = q := by rw [hz] at hq; exact Option.some.inj hq
    have hk' : h'.1 w 1 = nI i := by rw [hf.1 w (by simp [hw30])]; exact hk
    have e1 : nI i ≤ nI i := Int32.le_refl _
    have e2 : ¬ nI 1 ≤ 0 := by decide
    have ix : pm_ix (0 : Int32) 60 = true := by decide
    have cl : (0 : Int32).toNatClampNeg = 0 := by decide
    refine ⟨h', ?_, hf⟩
    rw [pb_X0_workedOut_1]
    simp only [c20, c2i, c2n, c2r, cs8_0, cs8_1, cs8_2, cs8_3, cs8_4, decide_eq_true_eq, ev_ald0, ev_ald1, ev_ald2, ev_aldn0, ev_aldn1, ev_aldn2, ev_bin, ev_cs1, ev_cs2, ev_cs3, ev_gi, ev_go, ev_gr, ev_i, ev_ia, ev_ias, ev_if0, ev_if2, ev_ild3, ev_ild4, ev_ild5, ev_inc3, ev_inc4, ev_ist3, ev_ist4, ev_ist5, ev_ln, ev_ri, i00, i01, i10, not_false_eq_true, not_true_eq_false, pm_bd_s, pm_tl_n, pm_tl_s, ↓reduceIte, pb_X0_workedOut_9, pb_X0_workedOut_10, pb_X0_workedOut_11, kd_29, al_29, kd_30, al_30, ht, hA, f1, f2, hk', e1, e2, ix, cl, hS 0 (by omega), rnS]
  | succ m ih =>
    intro i q S h' x hi hq hf hS hx
    have hk' : h'.1 w 1 = nI k := by rw [hf.1 w (by simp [hw30])]; exact hk
    have hp' : h'.1 A i = p i := by rw [hf.1 A (by simp [hA30])]; exact hp i (by omega)
    have hN' : ∀ j, j < nn → h'.1 29 j = N j := fun j hj => by rw [hf.1 29 (by decide)]; exact hN j hj
    have e1 : ¬ nI k ≤ nI i := nI_ge (by omega) (by omega)
    have hix : pm_ix (nI i) 60 = true := pm_ix_n (by omega) (by omega)
    have hcl := nI_clamp (show i < 2 ^ 31 by omega)
    have hq6 := dp_le hn i q hq
    obtain ⟨q', hs, hq'⟩ := dp_ok hz (by omega) hq
    have e60 : ¬ nI 60 ≤ nI q := nI_ge (by omega) (by omega)
    have eq1 : rnS N nn p (m + 1) i q S = rnS N nn p m (i + 1) q' (stS N (p i) q S) := by rw [rnS, hs]; rfl
    rw [eq1, pb_X0_workedOut_1]
    have xq : pm_ix (nI q) 60 = true := pm_ix_n (by omega) (by omega)
    have cq := nI_clamp (show q < 2 ^ 31 by omega)
    rcases dp_cases hn hs with ⟨g, rfl⟩ | ⟨j, hj, g, rfl⟩ | ⟨g, g1, rfl⟩ | ⟨g, g1, rfl⟩
    · have a1 : ¬ (20000 : Int32) ≤ p i := Int32.not_le.mpr (Int32.lt_trans g.2 (by decide))
      have a2 : ¬ (10000 : Int32) ≤ p i := Int32.not_le.mpr g.2
      have a3 : p i < 20000 := Int32.not_le.mp a1
      obtain ⟨h'', r, f⟩ := ih (i + 1) (q + 1) (stS N (p i) q S) (pm_si h' 30 q (p i)) (some (.int (p i))) (by omega) hq' (hf.si (by decide)) (fun t htq => by
        unfold stS
        rw [si_at, if_pos a3, if_pos g.2]
        by_cases c : t = q
        · simp [c]
        · simp [c, hS t (by omega)]) rfl
      refine ⟨h'', ?_, f⟩
      simp only [c20, c2i, c2n, c2r, cs8_0, cs8_1, cs8_2, cs8_3, cs8_4, decide_eq_true_eq, ev_ald0, ev_ald1, ev_ald2, ev_aldn0, ev_aldn1, ev_aldn2, ev_bin, ev_cs1, ev_cs2, ev_cs3, ev_gi, ev_go, ev_gr, ev_i, ev_ia, ev_ias, ev_if0, ev_if2, ev_ild3, ev_ild4, ev_ild5, ev_inc3, ev_inc4, ev_ist3, ev_ist4, ev_ist5, ev_ln, ev_ri, i00, i01, i10, not_false_eq_true, not_true_eq_false, pm_bd_s, pm_tl_n, pm_tl_s, ↓reduceIte, pb_X0_workedOut_2, pb_X0_workedOut_3, pb_X0_workedOut_4, pb_X0_workedOut_5, pb_X0_workedOut_6, pb_X0_workedOut_7, pb_X0_workedOut_8, kd_29, al_29, kd_30, al_30, ht, hA, f1, f2, hk', hp', e1, hix, hcl, a1, a2, e60, xq, cq, nI_1, hx]
      exact r
    · have a1 : ¬ (20000 : Int32) ≤ p i := by rw [g]; exact nI_ge (b := 20000) (by omega) (by omega)
      have a2 : (10000 : Int32) ≤ p i := by rw [g]; exact nI_le (a := 10000) (by omega) (by omega)
      have a3 : p i < 20000 := Int32.not_le.mp a1
      have a4 : p i - 10000 = nI j := by rw [g]; exact nI_s10 j
      have a5 := nI_clamp (show j < 2 ^ 31 by omega)
      obtain ⟨h'', r, f⟩ := ih (i + 1) (q + 1) (stS N (p i) q S) (pm_si h' 30 q (N j)) (some (.int (p i))) (by omega) hq' (hf.si (by decide)) (fun t htq => by
        unfold stS
        rw [si_at, if_pos a3, if_neg (Int32.not_lt.mpr a2), a4, a5]
        by_cases c : t = q
        · simp [c]
        · simp [c, hS t (by omega)]) rfl
      refine ⟨h'', ?_, f⟩
      simp only [c20, c2i, c2n, c2r, cs8_0, cs8_1, cs8_2, cs8_3, cs8_4, decide_eq_true_eq, ev_ald0, ev_ald1, ev_ald2, ev_aldn0, ev_aldn1, ev_aldn2, ev_bin, ev_cs1, ev_cs2, ev_cs3, ev_gi, ev_go, ev_gr, ev_i, ev_ia, ev_ias, ev_if0, ev_if2, ev_ild3, ev_ild4, ev_ild5, ev_inc3, ev_inc4, ev_ist3, ev_ist4, ev_ist5, ev_ln, ev_ri, i00, i01, i10, not_false_eq_true, not_true_eq_false, pm_bd_s, pm_tl_n, pm_tl_s, ↓reduceIte, pb_X0_workedOut_2, pb_X0_workedOut_3, pb_X0_workedOut_4, pb_X0_workedOut_5, pb_X0_workedOut_6, pb_X0_workedOut_7, pb_X0_workedOut_8, kd_29, al_29, kd_30, al_30, ht, hA, f1, f2, hk', hp', e1, hix, hcl, a1, a2, a4, e60, xq, cq, nI_1, hx, sp_named (show j < 5 by omega), hN' j hj]
      exact r
    · obtain ⟨r', rfl⟩ : ∃ r', q' = r' + 1 := ⟨q' - 1, by omega⟩
      have a1 : (20000 : Int32) ≤ 20033 := by decide
      have a3 : ¬ (20033 : Int32) < 20000 := by decide
      have a4 : ¬ nI (r' + 1) < 1 := Int32.not_lt.mpr (nI_le (a := 1) (by omega) (by omega))
      have xr : pm_ix (nI r') 60 = true := pm_ix_n (by omega) (by omega)
      have cr := nI_clamp (show r' < 2 ^ 31 by omega)
      have hS1 := hS r' (by omega)
      obtain ⟨h'', r, f⟩ := ih (i + 1) (r' + 1) (stS N (p i) (r' + 1) S) (pm_si h' 30 r' (bI (S r' = 0))) (some (.int 20033)) (by omega) hq' (hf.si (by decide)) (fun t htq => by
        unfold stS
        rw [si_at, g, if_neg a3, if_pos rfl, Nat.add_sub_cancel]
        by_cases c : t = r'
        · simp [c]
        · simp [c, hS t (by omega)]) rfl
      refine ⟨h'', ?_, f⟩
      rw [g] at hp'
      have b10 : (1 : Int32) = 0 ↔ False := by decide
      by_cases z : S r' = 0
      · have w0 : bI (S r' = 0) = bI (¬ (1 : Int32) = 0) := by simp [bI, z]
        rw [w0] at r
        simp only [c20, c2i, c2n, c2r, cs8_0, cs8_1, cs8_2, cs8_3, cs8_4, decide_eq_true_eq, ev_ald0, ev_ald1, ev_ald2, ev_aldn0, ev_aldn1, ev_aldn2, ev_bin, ev_cs1, ev_cs2, ev_cs3, ev_gi, ev_go, ev_gr, ev_i, ev_ia, ev_ias, ev_if0, ev_if2, ev_ild3, ev_ild4, ev_ild5, ev_inc3, ev_inc4, ev_ist3, ev_ist4, ev_ist5, ev_ln, ev_ri, i00, i01, i10, not_false_eq_true, not_true_eq_false, pm_bd_s, pm_tl_n, pm_tl_s, ↓reduceIte, pb_X0_workedOut_2, pb_X0_workedOut_3, pb_X0_workedOut_4, pb_X0_workedOut_5, pb_X0_workedOut_6, pb_X0_workedOut_7, pb_X0_workedOut_8, kd_29, al_29, kd_30, al_30, ht, hA, f1, f2, hk', hp', e1, hix, hcl, a1, a4, nI_p1, xr, cr, nI_1, hx, hS1, z, sp_truth]
        exact r
      · have w0 : bI (S r' = 0) = bI (¬ (0 : Int32) = 0) := by simp [bI, z]
        rw [w0] at r
        simp only [c20, c2i, c2n, c2r, cs8_0, cs8_1, cs8_2, cs8_3, cs8_4, decide_eq_true_eq, ev_ald0, ev_ald1, ev_ald2, ev_aldn0, ev_aldn1, ev_aldn2, ev_bin, ev_cs1, ev_cs2, ev_cs3, ev_gi, ev_go, ev_gr, ev_i, ev_ia, ev_ias, ev_if0, ev_if2, ev_ild3, ev_ild4, ev_ild5, ev_inc3, ev_inc4, ev_ist3, ev_ist4, ev_ist5, ev_ln, ev_ri, i00, i01, i10, not_false_eq_true, not_true_eq_false, pm_bd_s, pm_tl_n, pm_tl_s, ↓reduceIte, pb_X0_workedOut_2, pb_X0_workedOut_3, pb_X0_workedOut_4, pb_X0_workedOut_5, pb_X0_workedOut_6, pb_X0_workedOut_7, pb_X0_workedOut_8, kd_29, al_29, kd_30, al_30, ht, hA, f1, f2, hk', hp', e1, hix, hcl, a1, a4, nI_p1, xr, cr, nI_1, hx, hS1, z, sp_truth]
        exact r
    · obtain ⟨r', rfl⟩ : ∃ r', q = r' + 2 := ⟨q - 2, by omega⟩
      have a1 : (20000 : Int32) ≤ p i := by rcases g with g | g | g | g | g | g | g | g | g | g <;> rw [g] <;> decide
      have a2 : ¬ p i = 20033 := by rcases g with g | g | g | g | g | g | g | g | g | g <;> rw [g] <;> decide
      have a3 : ¬ p i < 20000 := Int32.not_lt.mpr a1
      have a4 : ¬ nI (r' + 2) < 2 := Int32.not_lt.mpr (nI_le (a := 2) (by omega) (by omega))
      have xr : pm_ix (nI r') 60 = true := pm_ix_n (by omega) (by omega)
      have cr := nI_clamp (show r' < 2 ^ 31 by omega)
      have xs : pm_ix (nI (r' + 1)) 60 = true := pm_ix_n (by omega) (by omega)
      have cs := nI_clamp (show r' + 1 < 2 ^ 31 by omega)
      have d2 : nI (r' + 2) + -1 = nI (r' + 1) := nI_d1 (r' + 1)
      have hS1 := hS r' (by omega)
      have hS2 := hS (r' + 1) (by omega)
      obtain ⟨h'', r, f⟩ := ih (i + 1) (r' + 1) (stS N (p i) (r' + 2) S) (pm_si h' 30 r' (joF (p i - 20000) (S r') (S (r' + 1)))) (some (.int (p i))) (by omega) hq' (hf.si (by decide)) (fun t htq => by
        unfold stS
        rw [si_at, if_neg a3, if_neg a2, show r' + 2 - 2 = r' by omega, show r' + 2 - 1 = r' + 1 by omega]
        by_cases c : t = r'
        · simp [c]
        · simp [c, hS t (by omega)]) rfl
      refine ⟨h'', ?_, f⟩
      simp only [c20, c2i, c2n, c2r, cs8_0, cs8_1, cs8_2, cs8_3, cs8_4, decide_eq_true_eq, ev_ald0, ev_ald1, ev_ald2, ev_aldn0, ev_aldn1, ev_aldn2, ev_bin, ev_cs1, ev_cs2, ev_cs3, ev_gi, ev_go, ev_gr, ev_i, ev_ia, ev_ias, ev_if0, ev_if2, ev_ild3, ev_ild4, ev_ild5, ev_inc3, ev_inc4, ev_ist3, ev_ist4, ev_ist5, ev_ln, ev_ri, i00, i01, i10, not_false_eq_true, not_true_eq_false, pm_bd_s, pm_tl_n, pm_tl_s, ↓reduceIte, pb_X0_workedOut_2, pb_X0_workedOut_3, pb_X0_workedOut_4, pb_X0_workedOut_5, pb_X0_workedOut_6, pb_X0_workedOut_7, pb_X0_workedOut_8, kd_29, al_29, kd_30, al_30, ht, hA, f1, f2, hk', hp', e1, hix, hcl, a1, a2, a4, d2, nI_p1, xr, cr, xs, cs, nI_1, hx, hS1, hS2, sp_joined]
      exact r
end T1
