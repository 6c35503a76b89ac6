/-! PAIRS OF CALLS: sheet -/
def szR (h h' : pm_HP) (k i : Nat) : Prop := frm [74] h h' ∧ ∀ b, h'.1 74 b = if 24 * k ≤ b ∧ b < 24 * k + i then 0 else h.1 74 b
section PH
variable {fb : Bool} {d : Nat} {h : pm_HP}
set_option maxRecDepth 100000 in
theorem lp_sheet {k : Nat} {x y : Int32} (hk : k < 4) : ∀ (m i : Nat) (h' : pm_HP), i + m = 24 → szR h h' k i → ∃ h1, pm_ev P_X9_sheet (rs fb d) (P_X9_sheet 7) [some (.ref 59), some (.int (nI k)), some (.int x), some (.int y), some (.int (nI i))] [] h' = some (some (.int 1), h1) ∧ szR h h1 k 24 := by
  intro m
  induction m with
  | zero =>
    intro i h' hi g
    obtain rfl : i = 24 := by omega
    have e1 : (24 : Int32) ≤ nI 24 := Int32.le_refl _
    refine ⟨h', ?_, g⟩
    rw [pb_X9_sheet_7]
    simp only [c20, c2i, c2n, c2r, cs8_0, cs8_1, cs8_2, cs8_3, cs8_4, decide_eq_true_eq, ev_ald0, ev_aldn0, ev_bin, ev_cs1, ev_cv1, ev_go, ev_gr, ev_i, ev_ias, ev_if0, ev_if2, ev_ild1, ev_ild2, ev_ild3, ev_ild4, ev_inc4, ev_ist4, ev_ri, i00, i01, i10, not_false_eq_true, not_true_eq_false, pm_bd_s, pm_tl_n, pm_tl_s, ↓reduceIte, pb_X9_sheet_8, kd_59, rf_59_0, rf_59_1, rf_59_3, rf_59_4, rf_59_5, rf_59_6, rf_59_7, rf_59_12, rf_59_14, rf_59_15, rf_59_16, rf_59_19, rf_59_23, rf_59_24, rf_59_25, rf_59_26, is_9_59, e1]
  | succ m ih =>
    intro i h' hi g
    have e1 : ¬ (24 : Int32) ≤ nI i := nI_ge (a := i) (b := 24) (by omega) (by omega)
    have xj : pm_ix (nI (24 * k + i)) 96 = true := pm_ix_n (by omega) (by omega)
    have cj := nI_clamp (show 24 * k + i < 2 ^ 31 by omega)
    have e : (24 : Int32) * nI k + nI i = nI (24 * k + i) := by
      show nI 24 * nI k + nI i = _
      rw [nI_mul, nI_add]
    obtain ⟨h1, r, f⟩ := ih (i + 1) (pm_si h' 74 (24 * k + i) 0) (by omega) ⟨g.1.si (by decide), fun b => by
      rw [si_at, g.2]
      by_cases q : b = 24 * k + i
      · rw [if_pos ⟨rfl, q⟩, if_pos ⟨by omega, by omega⟩]
      · rw [if_neg (by omega)]
        by_cases q2 : 24 * k ≤ b ∧ b < 24 * k + i
        · rw [if_pos q2, if_pos ⟨q2.1, by omega⟩]
        · rw [if_neg q2, if_neg (by omega)]⟩
    refine ⟨h1, ?_, f⟩
    rw [pb_X9_sheet_7]
    simp only [c20, c2i, c2n, c2r, cs8_0, cs8_1, cs8_2, cs8_3, cs8_4, decide_eq_true_eq, ev_ald0, ev_aldn0, ev_bin, ev_cs1, ev_cv1, ev_go, ev_gr, ev_i, ev_ias, ev_if0, ev_if2, ev_ild1, ev_ild2, ev_ild3, ev_ild4, ev_inc4, ev_ist4, ev_ri, i00, i01, i10, not_false_eq_true, not_true_eq_false, pm_bd_s, pm_tl_n, pm_tl_s, ↓reduceIte, pb_X9_sheet_8, kd_59, rf_59_0, rf_59_1, rf_59_3, rf_59_4, rf_59_5, rf_59_6, rf_59_7, rf_59_12, rf_59_14, rf_59_15, rf_59_16, rf_59_19, rf_59_23, rf_59_24, rf_59_25, rf_59_26, is_9_59, kd_74, al_74, e1, e, xj, cj, nI_1]
    exact r
theorem zr_a2 (a n x b : Nat) : (zr h a n).1 x b = if x = a ∧ b < n then 0 else h.1 x b := rfl
/-- a sheet laid, both -/
theorem Inv_lay {k z : Nat} {w : Int32} {h2 : pm_HP} (hI : Inv h) (hk : k < 4) (hz : z ≤ 24) (hw : w = 0 ∨ w = 8 ∨ w = 16 ∨ w = 32) (g : szR (pm_si (pm_si (zr (pm_si (pm_si h (23 + k) 1 w) (23 + k) 2 (nI z)) (48 + k) 24) 72 k w) 73 k (nI z)) h2 k 24) : Inv h2 := by
  have V : ∀ a b, ¬ a = 74 → h2.1 a b = if a = 73 ∧ b = k then nI z else if a = 72 ∧ b = k then w else if a = 48 + k ∧ b < 24 then 0 else if a = 23 + k ∧ b = 2 then nI z else if a = 23 + k ∧ b = 1 then w else h.1 a b := by
    intro a b ha
    rw [g.1.1 a (by simp [ha]), si_at, si_at, zr_a2, si_at, si_at]
  have W : ∀ b, h2.1 74 b = if 24 * k ≤ b ∧ b < 24 * k + 24 then 0 else h.1 74 b := by
    intro b
    rw [g.2, si_ne _ _ (by omega), si_ne _ _ (by omega), zr_a2, if_neg (show ¬ (74 = 48 + k ∧ b < 24) by omega), si_ne _ _ (by omega), si_ne _ _ (by omega)]
  refine Inv_sh hI (fun a h1 h3 h4 => ?_) ?_
  · funext b
    rw [V a b (by omega), if_neg (by omega), if_neg (by omega), if_neg (by omega), if_neg (by omega), if_neg (by omega)]
  · intro k' hk'
    by_cases q : k' = k
    · subst q
      refine ⟨z, hz, ?_, ?_, ?_, ?_, ?_⟩
      · rw [V _ _ (by omega), if_neg (by omega), if_neg (by omega), if_neg (by omega), if_pos ⟨rfl, rfl⟩]
      · rw [V _ _ (by omega), if_pos ⟨rfl, rfl⟩]
      · rw [V _ _ (by omega), if_neg (by omega), if_neg (by omega), if_neg (by omega), if_neg (by omega), if_pos ⟨rfl, rfl⟩, V _ _ (by omega), if_neg (by omega), if_pos ⟨rfl, rfl⟩]
      · rw [V _ _ (by omega), if_neg (by omega), if_pos ⟨rfl, rfl⟩]; exact hw
      · intro i hi
        rw [V _ _ (by omega), if_neg (by omega), if_neg (by omega), if_pos ⟨rfl, hi⟩, W, if_pos ⟨by omega, by omega⟩]
    · obtain ⟨z', g1, g2, g3, g4, g5, g6⟩ := hI.2.2.2.2.1 k' hk'
      refine ⟨z', g1, ?_, ?_, ?_, ?_, ?_⟩
      · rw [V _ _ (by omega), if_neg (by omega), if_neg (by omega), if_neg (by omega), if_neg (by omega), if_neg (by omega)]; exact g2
      · rw [V _ _ (by omega), if_neg (by omega), if_neg (by omega), if_neg (by omega), if_neg (by omega), if_neg (by omega)]; exact g3
      · rw [V _ _ (by omega), if_neg (by omega), if_neg (by omega), if_neg (by omega), if_neg (by omega), if_neg (by omega), V _ _ (by omega), if_neg (by omega), if_neg (by omega), if_neg (by omega), if_neg (by omega), if_neg (by omega)]; exact g4
      · rw [V _ _ (by omega), if_neg (by omega), if_neg (by omega), if_neg (by omega), if_neg (by omega), if_neg (by omega)]; exact g5
      · intro i hi
        rw [V _ _ (by omega), if_neg (by omega), if_neg (by omega), if_neg (by omega), if_neg (by omega), if_neg (by omega), W, if_neg (by omega)]; exact g6 i hi
theorem pr_sheet (hI : Inv h) (x w y : Int32) : Pr fb (d + 100) n_X8_sheet n_X9_sheet [.int x, .int w, .int y] h := by
  by_cases q1 : 0 ≤ x ∧ x ≤ 3
  · obtain ⟨k, hk, rfl⟩ := k_of q1
    obtain ⟨f1, f2, f3, f4, f5⟩ := sh_facts k hk
    have xk : pm_ix (nI k) 4 = true := pm_ix_n hk (by omega)
    have ck := nI_clamp (show k < 2 ^ 31 by omega)
    have q1' := eq_true q1
    have D : ∀ (z : Nat) (v : Int32), z ≤ 24 → (v = 0 ∨ v = 8 ∨ v = 16 ∨ v = 32) → ∃ h2, pm_ev P_X9_sheet (rs fb (d + 99)) (P_X9_sheet 7) [some (.ref 59), some (.int (nI k)), some (.int v), some (.int y), some (.int 0)] [] (pm_si (pm_si (zr (pm_si (pm_si h (23 + k) 1 v) (23 + k) 2 (nI z)) (48 + k) 24) 72 k v) 73 k (nI z)) = some (some (.int 1), h2) ∧ Inv h2 := by
      intro z v hz hv
      obtain ⟨h2, r, g⟩ := lp_sheet (fb := fb) (d := d + 99) (k := k) (x := v) (y := y) (h := pm_si (pm_si (zr (pm_si (pm_si h (23 + k) 1 v) (23 + k) 2 (nI z)) (48 + k) 24) 72 k v) 73 k (nI z)) hk 24 0 _ (by omega) ⟨frm.rf _ _, fun b => by rw [if_neg (by omega)]⟩
      exact ⟨h2, r, Inv_lay hI hk hz hv g⟩
    by_cases w0 : w = 0
    · subst w0
      obtain ⟨h2, r, hI2⟩ := D 0 0 (by omega) (Or.inl rfl)
      have la := sp_lay (fb := fb) (d := d + 97) (h := h) (x := 0) (z := 0) hk (by omega)
      rw [nI_0] at la r
      refine ⟨1, zr (pm_si (pm_si h (23 + k) 1 0) (23 + k) 2 0) (48 + k) 24, h2, ?_, ?_, hI2⟩
      · rw [en_X8_sheet]
        simp only [c20, c2i, c2n, c2r, cs8_0, cs8_1, cs8_2, cs8_3, cs8_4, decide_eq_true_eq, ev_ald0, ev_ald4, ev_aldn0, ev_aldn4, ev_ast4, ev_astn4, ev_cv1, ev_cv2, ev_go, ev_i, ev_if0, ev_if2, ev_ifn_0, ev_ifn_1, ev_ifn_2, ev_ifn_3, ev_ild1, ev_ild2, ev_ild3, ev_ri, i00, i01, i10, not_false_eq_true, not_true_eq_false, pm_bd_s, pm_tl_n, pm_tl_s, ↓reduceIte, pb_X8_sheet_0, pb_X8_sheet_1, pb_X8_sheet_2, pb_X8_sheet_3, pb_X8_sheet_4, pb_X8_sheet_5, pb_X8_sheet_6, kd_0, rf_0_0, rf_0_1, rf_0_2, rf_0_3, rf_0_4, rf_0_5, rf_0_6, rf_0_7, rf_0_8, is_8_0, f1, sp_sheetOf hk, not_true_eq_false, if_true, if_false, la]
      · rw [en_X9_sheet]
        simp only [c20, c2i, c2n, c2r, cs8_0, cs8_1, cs8_2, cs8_3, cs8_4, decide_eq_true_eq, ev_ald0, ev_aldn0, ev_bin, ev_cs1, ev_cv1, ev_go, ev_gr, ev_i, ev_ias, ev_if0, ev_if2, ev_ild1, ev_ild2, ev_ild3, ev_ild4, ev_inc4, ev_ist4, ev_ri, i00, i01, i10, not_false_eq_true, not_true_eq_false, pm_bd_s, pm_tl_n, pm_tl_s, ↓reduceIte, pb_X9_sheet_0, pb_X9_sheet_1, pb_X9_sheet_2, pb_X9_sheet_3, pb_X9_sheet_4, pb_X9_sheet_5, pb_X9_sheet_6, kd_59, rf_59_0, rf_59_1, rf_59_3, rf_59_4, rf_59_5, rf_59_6, rf_59_7, rf_59_12, rf_59_14, rf_59_15, rf_59_16, rf_59_19, rf_59_23, rf_59_24, rf_59_25, rf_59_26, is_9_59, kd_72, al_72, kd_73, al_73, sr_isSheet, bI_0, bI_n0, q1', xk, ck, not_true_eq_false, if_true, if_false]
        exact r
    · by_cases w8 : w = 8 ∨ w = 16 ∨ w = 32
      · have wn : (w = 8) = True ∨ (w = 8) = False := by by_cases c : w = 8 <;> simp [c]
        have t8 : ((8 : Int32) = 0) = False ∧ ((16 : Int32) = 0) = False ∧ ((32 : Int32) = 0) = False ∧ ((16 : Int32) = 8) = False ∧ ((32 : Int32) = 8) = False ∧ ((32 : Int32) = 16) = False := by decide
        by_cases y0 : 0 ≤ y
        · by_cases y24 : y ≤ 24
          · obtain ⟨z, hz, rfl⟩ := nI_of2 (M := 24) (n := 24) (by decide) (Int32.not_lt.mpr y0) y24
            obtain ⟨h2, r, hI2⟩ := D z w hz (Or.inr w8)
            have la := sp_lay (fb := fb) (d := d + 97) (h := h) (x := w) (z := z) hk hz
            refine ⟨1, zr (pm_si (pm_si h (23 + k) 1 w) (23 + k) 2 (nI z)) (48 + k) 24, h2, ?_, ?_, hI2⟩
            · rw [en_X8_sheet]
              rcases w8 with rfl | rfl | rfl <;> simp only [c20, c2i, c2n, c2r, cs8_0, cs8_1, cs8_2, cs8_3, cs8_4, decide_eq_true_eq, ev_ald0, ev_ald4, ev_aldn0, ev_aldn4, ev_ast4, ev_astn4, ev_cv1, ev_cv2, ev_go, ev_i, ev_if0, ev_if2, ev_ifn_0, ev_ifn_1, ev_ifn_2, ev_ifn_3, ev_ild1, ev_ild2, ev_ild3, ev_ri, i00, i01, i10, not_false_eq_true, not_true_eq_false, pm_bd_s, pm_tl_n, pm_tl_s, ↓reduceIte, pb_X8_sheet_0, pb_X8_sheet_1, pb_X8_sheet_2, pb_X8_sheet_3, pb_X8_sheet_4, pb_X8_sheet_5, pb_X8_sheet_6, kd_0, rf_0_0, rf_0_1, rf_0_2, rf_0_3, rf_0_4, rf_0_5, rf_0_6, rf_0_7, rf_0_8, is_8_0, f1, sp_sheetOf hk, t8, not_true_eq_false, not_false_eq_true, if_true, if_false, y0, y24, la]
            · rw [en_X9_sheet]
              rcases w8 with rfl | rfl | rfl <;> simp only [c20, c2i, c2n, c2r, cs8_0, cs8_1, cs8_2, cs8_3, cs8_4, decide_eq_true_eq, ev_ald0, ev_aldn0, ev_bin, ev_cs1, ev_cv1, ev_go, ev_gr, ev_i, ev_ias, ev_if0, ev_if2, ev_ild1, ev_ild2, ev_ild3, ev_ild4, ev_inc4, ev_ist4, ev_ri, i00, i01, i10, not_false_eq_true, not_true_eq_false, pm_bd_s, pm_tl_n, pm_tl_s, ↓reduceIte, pb_X9_sheet_0, pb_X9_sheet_1, pb_X9_sheet_2, pb_X9_sheet_3, pb_X9_sheet_4, pb_X9_sheet_5, pb_X9_sheet_6, kd_59, rf_59_0, rf_59_1, rf_59_3, rf_59_4, rf_59_5, rf_59_6, rf_59_7, rf_59_12, rf_59_14, rf_59_15, rf_59_16, rf_59_19, rf_59_23, rf_59_24, rf_59_25, rf_59_26, is_9_59, kd_72, al_72, kd_73, al_73, sr_isSheet, bI_0, bI_n0, q1', xk, ck, t8, not_true_eq_false, not_false_eq_true, if_true, if_false, y0, y24] <;> exact r
          · refine Pr_e (e := 1) (x := -1000000001) hI (by omega) (by omega) ?_ ?_
            · rw [en_X8_sheet]
              rcases w8 with rfl | rfl | rfl <;> simp only [c20, c2i, c2n, c2r, cs8_0, cs8_1, cs8_2, cs8_3, cs8_4, decide_eq_true_eq, ev_ald0, ev_ald4, ev_aldn0, ev_aldn4, ev_ast4, ev_astn4, ev_cv1, ev_cv2, ev_go, ev_i, ev_if0, ev_if2, ev_ifn_0, ev_ifn_1, ev_ifn_2, ev_ifn_3, ev_ild1, ev_ild2, ev_ild3, ev_ri, i00, i01, i10, not_false_eq_true, not_true_eq_false, pm_bd_s, pm_tl_n, pm_tl_s, ↓reduceIte, pb_X8_sheet_0, pb_X8_sheet_1, pb_X8_sheet_2, pb_X8_sheet_3, pb_X8_sheet_4, pb_X8_sheet_5, pb_X8_sheet_6, kd_0, rf_0_0, rf_0_1, rf_0_2, rf_0_3, rf_0_4, rf_0_5, rf_0_6, rf_0_7, rf_0_8, is_8_0, f1, sp_sheetOf hk, t8, not_true_eq_false, not_false_eq_true, if_true, if_false, y0, y24, fail_1, F1]
            · rw [en_X9_sheet]
              rcases w8 with rfl | rfl | rfl <;> simp only [c20, c2i, c2n, c2r, cs8_0, cs8_1, cs8_2, cs8_3, cs8_4, decide_eq_true_eq, ev_ald0, ev_aldn0, ev_bin, ev_cs1, ev_cv1, ev_go, ev_gr, ev_i, ev_ias, ev_if0, ev_if2, ev_ild1, ev_ild2, ev_ild3, ev_ild4, ev_inc4, ev_ist4, ev_ri, i00, i01, i10, not_false_eq_true, not_true_eq_false, pm_bd_s, pm_tl_n, pm_tl_s, ↓reduceIte, pb_X9_sheet_0, pb_X9_sheet_1, pb_X9_sheet_2, pb_X9_sheet_3, pb_X9_sheet_4, pb_X9_sheet_5, pb_X9_sheet_6, kd_59, rf_59_0, rf_59_1, rf_59_3, rf_59_4, rf_59_5, rf_59_6, rf_59_7, rf_59_12, rf_59_14, rf_59_15, rf_59_16, rf_59_19, rf_59_23, rf_59_24, rf_59_25, rf_59_26, is_9_59, kd_72, al_72, kd_73, al_73, sr_isSheet, bI_0, bI_n0, q1', xk, ck, t8, not_true_eq_false, not_false_eq_true, if_true, if_false, y0, y24, find_1]
        · refine Pr_e (e := 3) (x := -1000000003) hI (by omega) (by omega) ?_ ?_
          · rw [en_X8_sheet]
            rcases w8 with rfl | rfl | rfl <;> simp only [c20, c2i, c2n, c2r, cs8_0, cs8_1, cs8_2, cs8_3, cs8_4, decide_eq_true_eq, ev_ald0, ev_ald4, ev_aldn0, ev_aldn4, ev_ast4, ev_astn4, ev_cv1, ev_cv2, ev_go, ev_i, ev_if0, ev_if2, ev_ifn_0, ev_ifn_1, ev_ifn_2, ev_ifn_3, ev_ild1, ev_ild2, ev_ild3, ev_ri, i00, i01, i10, not_false_eq_true, not_true_eq_false, pm_bd_s, pm_tl_n, pm_tl_s, ↓reduceIte, pb_X8_sheet_0, pb_X8_sheet_1, pb_X8_sheet_2, pb_X8_sheet_3, pb_X8_sheet_4, pb_X8_sheet_5, pb_X8_sheet_6, kd_0, rf_0_0, rf_0_1, rf_0_2, rf_0_3, rf_0_4, rf_0_5, rf_0_6, rf_0_7, rf_0_8, is_8_0, f1, sp_sheetOf hk, t8, not_true_eq_false, not_false_eq_true, if_true, if_false, y0, fail_3, F3]
          · rw [en_X9_sheet]
            rcases w8 with rfl | rfl | rfl <;> simp only [c20, c2i, c2n, c2r, cs8_0, cs8_1, cs8_2, cs8_3, cs8_4, decide_eq_true_eq, ev_ald0, ev_aldn0, ev_bin, ev_cs1, ev_cv1, ev_go, ev_gr, ev_i, ev_ias, ev_if0, ev_if2, ev_ild1, ev_ild2, ev_ild3, ev_ild4, ev_inc4, ev_ist4, ev_ri, i00, i01, i10, not_false_eq_true, not_true_eq_false, pm_bd_s, pm_tl_n, pm_tl_s, ↓reduceIte, pb_X9_sheet_0, pb_X9_sheet_1, pb_X9_sheet_2, pb_X9_sheet_3, pb_X9_sheet_4, pb_X9_sheet_5, pb_X9_sheet_6, kd_59, rf_59_0, rf_59_1, rf_59_3, rf_59_4, rf_59_5, rf_59_6, rf_59_7, rf_59_12, rf_59_14, rf_59_15, rf_59_16, rf_59_19, rf_59_23, rf_59_24, rf_59_25, rf_59_26, is_9_59, kd_72, al_72, kd_73, al_73, sr_isSheet, bI_0, bI_n0, q1', xk, ck, t8, not_true_eq_false, not_false_eq_true, if_true, if_false, y0, find_3]
      · have n8 : ¬ w = 8 := fun c => w8 (Or.inl c)
        have n16 : ¬ w = 16 := fun c => w8 (Or.inr (Or.inl c))
        have n32 : ¬ w = 32 := fun c => w8 (Or.inr (Or.inr c))
        refine Pr_e (e := 1) (x := -1000000001) hI (by omega) (by omega) ?_ ?_
        · rw [en_X8_sheet]
          simp only [c20, c2i, c2n, c2r, cs8_0, cs8_1, cs8_2, cs8_3, cs8_4, decide_eq_true_eq, ev_ald0, ev_ald4, ev_aldn0, ev_aldn4, ev_ast4, ev_astn4, ev_cv1, ev_cv2, ev_go, ev_i, ev_if0, ev_if2, ev_ifn_0, ev_ifn_1, ev_ifn_2, ev_ifn_3, ev_ild1, ev_ild2, ev_ild3, ev_ri, i00, i01, i10, not_false_eq_true, not_true_eq_false, pm_bd_s, pm_tl_n, pm_tl_s, ↓reduceIte, pb_X8_sheet_0, pb_X8_sheet_1, pb_X8_sheet_2, pb_X8_sheet_3, pb_X8_sheet_4, pb_X8_sheet_5, pb_X8_sheet_6, kd_0, rf_0_0, rf_0_1, rf_0_2, rf_0_3, rf_0_4, rf_0_5, rf_0_6, rf_0_7, rf_0_8, is_8_0, f1, sp_sheetOf hk, w0, n8, n16, n32, if_false, fail_1, F1]
        · rw [en_X9_sheet]
          simp only [c20, c2i, c2n, c2r, cs8_0, cs8_1, cs8_2, cs8_3, cs8_4, decide_eq_true_eq, ev_ald0, ev_aldn0, ev_bin, ev_cs1, ev_cv1, ev_go, ev_gr, ev_i, ev_ias, ev_if0, ev_if2, ev_ild1, ev_ild2, ev_ild3, ev_ild4, ev_inc4, ev_ist4, ev_ri, i00, i01, i10, not_false_eq_true, not_true_eq_false, pm_bd_s, pm_tl_n, pm_tl_s, ↓reduceIte, pb_X9_sheet_0, pb_X9_sheet_1, kd_59, rf_59_0, rf_59_1, rf_59_3, rf_59_4, rf_59_5, rf_59_6, rf_59_7, rf_59_12, rf_59_14, rf_59_15, rf_59_16, rf_59_19, rf_59_23, rf_59_24, rf_59_25, rf_59_26, is_9_59, sr_isSheet, bI_0, bI_n0, q1', w0, n8, n16, n32, not_true_eq_false, if_false, find_1]
  · refine Pr_e (e := 1) (x := -1000000001) hI (by omega) (by omega) ?_ ?_
    · rw [en_X8_sheet]
      simp only [c20, c2i, c2n, c2r, cs8_0, cs8_1, cs8_2, cs8_3, cs8_4, decide_eq_true_eq, ev_ald0, ev_ald4, ev_aldn0, ev_aldn4, ev_ast4, ev_astn4, ev_cv1, ev_cv2, ev_go, ev_i, ev_if0, ev_if2, ev_ifn_0, ev_ifn_1, ev_ifn_2, ev_ifn_3, ev_ild1, ev_ild2, ev_ild3, ev_ri, i00, i01, i10, not_false_eq_true, not_true_eq_false, pm_bd_s, pm_tl_n, pm_tl_s, ↓reduceIte, pb_X8_sheet_0, pb_X8_sheet_1, pb_X8_sheet_2, pb_X8_sheet_3, pb_X8_sheet_4, pb_X8_sheet_5, pb_X8_sheet_6, kd_0, rf_0_0, rf_0_1, rf_0_2, rf_0_3, rf_0_4, rf_0_5, rf_0_6, rf_0_7, rf_0_8, is_8_0, sp_sheetOfN q1, fail_1, F1]
    · rw [en_X9_sheet]
      simp only [c20, c2i, c2n, c2r, cs8_0, cs8_1, cs8_2, cs8_3, cs8_4, decide_eq_true_eq, ev_ald0, ev_aldn0, ev_bin, ev_cs1, ev_cv1, ev_go, ev_gr, ev_i, ev_ias, ev_if0, ev_if2, ev_ild1, ev_ild2, ev_ild3, ev_ild4, ev_inc4, ev_ist4, ev_ri, i00, i01, i10, not_false_eq_true, not_true_eq_false, pm_bd_s, pm_tl_n, pm_tl_s, ↓reduceIte, pb_X9_sheet_0, pb_X9_sheet_1, kd_59, rf_59_0, rf_59_1, rf_59_3, rf_59_4, rf_59_5, rf_59_6, rf_59_7, rf_59_12, rf_59_14, rf_59_15, rf_59_16, rf_59_19, rf_59_23, rf_59_24, rf_59_25, rf_59_26, is_9_59, sr_isSheet, bI_0, bI_n0, eq_false q1, not_false_eq_true, if_true, find_1]
end PH
