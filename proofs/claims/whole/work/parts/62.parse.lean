/-! TEXTS ARE READ: what stands between the two readers -/
def PXc (hc : pm_HP) (nb use : Nat) (b : Nat → Int32) : Prop := hc.1 21 3 = nI nb ∧ hc.1 18 2 = nI use ∧ ∀ i, i < 60 → hc.1 46 i = b i
def PXr (hr : pm_HP) (nb use : Nat) (b : Nat → Int32) : Prop := hr.1 60 3 = nI nb ∧ hr.1 59 10 = nI use ∧ ∀ i, i < 60 → hr.1 60 (232 + i) = b i
def PBk (nb use : Nat) (b : Nat → Int32) : Prop := nb ≤ 60 ∧ use < 2 ∧ ∀ i, i < 60 → ∃ c, c < 256 ∧ b i = nI c
def PS (hc hr : pm_HP) (nn a o k q : Nat) : Prop := hc.1 18 3 = nI a ∧ hr.1 59 8 = nI a ∧ hc.1 18 4 = nI o ∧ hr.1 59 9 = nI o ∧ hc.1 18 5 = 0 ∧ hr.1 59 11 = 0 ∧ hc.1 20 1 = nI k ∧ hr.1 59 13 = nI k ∧ (∀ i, i < k → cod (hc.1 45 i) = hr.1 67 i) ∧ dpF nn (hc.1 45) k = some q
def PZ (hc hr : pm_HP) (nb : Nat) : Prop := ∃ a k, a ≤ nb ∧ k ≤ 60 ∧ hc.1 18 3 = nI a ∧ hr.1 59 8 = nI a ∧ hc.1 18 5 = 1 ∧ hr.1 59 11 = 1 ∧ hc.1 20 1 = nI k
def FPc (h h' : pm_HP) : Prop := ∀ x y, ¬ (x = 18 ∧ (y = 3 ∨ y = 4 ∨ y = 5)) → ¬ (x = 20 ∧ y = 1) → ¬ x = 45 → h'.1 x y = h.1 x y
def FPr (h h' : pm_HP) : Prop := ∀ x y, ¬ (x = 59 ∧ (y = 8 ∨ y = 9 ∨ y = 11 ∨ y = 13)) → ¬ x = 67 → h'.1 x y = h.1 x y
theorem FPc.rf (h : pm_HP) : FPc h h := fun _ _ _ _ _ => rfl
theorem FPr.rf (h : pm_HP) : FPr h h := fun _ _ _ _ => rfl
theorem FPc.tr {h h' h'' : pm_HP} (a : FPc h h') (b : FPc h' h'') : FPc h h'' := fun x y h1 h2 h3 => (b x y h1 h2 h3).trans (a x y h1 h2 h3)
theorem FPr.tr {h h' h'' : pm_HP} (a : FPr h h') (b : FPr h' h'') : FPr h h'' := fun x y h1 h2 => (b x y h1 h2).trans (a x y h1 h2)
theorem PXc_t {hc hc' : pm_HP} {nb use : Nat} {b : Nat → Int32} (p : PXc hc nb use b) (f : FPc hc hc') : PXc hc' nb use b := by
  obtain ⟨p1, p2, p3⟩ := p
  exact ⟨by rw [f 21 3 (by omega) (by omega) (by omega)]; exact p1, by rw [f 18 2 (by omega) (by omega) (by omega)]; exact p2, fun i hi => by rw [f 46 i (by omega) (by omega) (by omega)]; exact p3 i hi⟩
theorem PXr_t {hr hr' : pm_HP} {nb use : Nat} {b : Nat → Int32} (p : PXr hr nb use b) (f : FPr hr hr') : PXr hr' nb use b := by
  obtain ⟨p1, p2, p3⟩ := p
  exact ⟨by rw [f 60 3 (by omega) (by omega)]; exact p1, by rw [f 59 10 (by omega) (by omega)]; exact p2, fun i hi => by rw [f 60 _ (by omega) (by omega)]; exact p3 i hi⟩
theorem si_self (h : pm_HP) (a k : Nat) : pm_si h a k (h.1 a k) = h := by
  obtain ⟨f, g⟩ := h
  unfold pm_si
  congr 1
  funext x y
  by_cases q : x = a ∧ y = k
  · rw [if_pos q, q.1, q.2]
  · rw [if_neg q]
theorem si_selfv {h : pm_HP} {a k : Nat} {v : Int32} (e : h.1 a k = v) : pm_si h a k v = h := by
  rw [← e]; exact si_self h a k
def adC (h : pm_HP) (u : Nat) (v : Int32) : pm_HP := pm_si (pm_si h 45 u v) 20 1 (nI (u + 1))
def adR (h : pm_HP) (u : Nat) (w : Int32) : pm_HP := pm_si (pm_si h 67 u w) 59 13 (nI (u + 1))
theorem adC_f (h : pm_HP) (u : Nat) (v : Int32) : FPc h (adC h u v) := fun x y h1 h2 h3 => by
  unfold adC
  rw [si_ne _ _ (by omega), si_ne _ _ (by omega)]
theorem adR_f (h : pm_HP) (u : Nat) (v : Int32) : FPr h (adR h u v) := fun x y h1 h2 => by
  unfold adR
  rw [si_ne _ _ (by omega), si_ne _ _ (by omega)]
theorem FPc_18 {h : pm_HP} {k : Nat} {v : Int32} (hk : k = 3 ∨ k = 4 ∨ k = 5) : FPc h (pm_si h 18 k v) := fun x y h1 h2 h3 => by
  rw [si_ne _ _ (by omega)]
theorem FPr_59 {h : pm_HP} {k : Nat} {v : Int32} (hk : k = 8 ∨ k = 9 ∨ k = 11 ∨ k = 13) : FPr h (pm_si h 59 k v) := fun x y h1 h2 => by
  rw [si_ne _ _ (by omega)]
theorem PS_add {hc hr : pm_HP} {nn a o k q q' : Nat} {v w : Int32} (p : PS hc hr nn a o k q) (hd : dpS nn v q = some q') (hw : cod v = w) : PS (adC hc k v) (adR hr k w) nn a o (k + 1) q' := by
  obtain ⟨p1, p2, p3, p4, p5, p6, p7, p8, p9, p10⟩ := p
  unfold adC adR
  refine ⟨?_, ?_, ?_, ?_, ?_, ?_, si_same _ _ _ _, si_same _ _ _ _, fun i hi => ?_, ?_⟩
  · rw [si_ne _ _ (by omega), si_ne _ _ (by omega)]; exact p1
  · rw [si_ne _ _ (by omega), si_ne _ _ (by omega)]; exact p2
  · rw [si_ne _ _ (by omega), si_ne _ _ (by omega)]; exact p3
  · rw [si_ne _ _ (by omega), si_ne _ _ (by omega)]; exact p4
  · rw [si_ne _ _ (by omega), si_ne _ _ (by omega)]; exact p5
  · rw [si_ne _ _ (by omega), si_ne _ _ (by omega)]; exact p6
  · by_cases c : i = k
    · subst c
      rw [si_ne (a := 20) _ _ (by omega), si_same, si_ne (a := 59) _ _ (by omega), si_same]
      exact hw
    · rw [si_ne (a := 20) _ _ (by omega), si_ne (a := 45) _ _ (by omega), si_ne (a := 59) _ _ (by omega), si_ne (a := 67) _ _ (by omega)]
      exact p9 i (by omega)
  · have e : ∀ i, (pm_si (pm_si hc 45 k v) 20 1 (nI (k + 1))).1 45 i = if i = k then v else hc.1 45 i := by
      intro i
      rw [si_ne _ _ (by omega), si_at]
      by_cases c : i = k
      · rw [if_pos ⟨rfl, c⟩, if_pos c]
      · rw [if_neg (fun t => c t.2), if_neg c]
    rw [dpF, e k, if_pos rfl, dp_congr (q := hc.1 45) (fun i hi => by rw [e i, if_neg (by omega)]), p10]
    exact hd
theorem PS_at {hc hr : pm_HP} {nn a a' o k q : Nat} (p : PS hc hr nn a o k q) : PS (pm_si hc 18 3 (nI a')) (pm_si hr 59 8 (nI a')) nn a' o k q := by
  obtain ⟨p1, p2, p3, p4, p5, p6, p7, p8, p9, p10⟩ := p
  refine ⟨si_same _ _ _ _, si_same _ _ _ _, ?_, ?_, ?_, ?_, ?_, ?_, fun i hi => ?_, ?_⟩
  · rw [si_ne _ _ (by omega)]; exact p3
  · rw [si_ne _ _ (by omega)]; exact p4
  · rw [si_ne _ _ (by omega)]; exact p5
  · rw [si_ne _ _ (by omega)]; exact p6
  · rw [si_ne _ _ (by omega)]; exact p7
  · rw [si_ne _ _ (by omega)]; exact p8
  · rw [si_ne _ _ (by omega), si_ne _ _ (by omega)]; exact p9 i hi
  · rw [dp_congr (q := hc.1 45) (fun i hi => by rw [si_ne _ _ (by omega)])]; exact p10
theorem PS_op {hc hr : pm_HP} {nn a o o' k q : Nat} (p : PS hc hr nn a o k q) : PS (pm_si hc 18 4 (nI o')) (pm_si hr 59 9 (nI o')) nn a o' k q := by
  obtain ⟨p1, p2, p3, p4, p5, p6, p7, p8, p9, p10⟩ := p
  refine ⟨?_, ?_, si_same _ _ _ _, si_same _ _ _ _, ?_, ?_, ?_, ?_, fun i hi => ?_, ?_⟩
  · rw [si_ne _ _ (by omega)]; exact p1
  · rw [si_ne _ _ (by omega)]; exact p2
  · rw [si_ne _ _ (by omega)]; exact p5
  · rw [si_ne _ _ (by omega)]; exact p6
  · rw [si_ne _ _ (by omega)]; exact p7
  · rw [si_ne _ _ (by omega)]; exact p8
  · rw [si_ne _ _ (by omega), si_ne _ _ (by omega)]; exact p9 i hi
  · rw [dp_congr (q := hc.1 45) (fun i hi => by rw [si_ne _ _ (by omega)])]; exact p10
theorem PZ_op {hc hr : pm_HP} {nb : Nat} {v w : Int32} (p : PZ hc hr nb) : PZ (pm_si hc 18 4 v) (pm_si hr 59 9 w) nb := by
  obtain ⟨a, k, p1, p2, p3, p4, p5, p6, p7⟩ := p
  refine ⟨a, k, p1, p2, ?_, ?_, ?_, ?_, ?_⟩
  · rw [si_ne _ _ (by omega)]; exact p3
  · rw [si_ne _ _ (by omega)]; exact p4
  · rw [si_ne _ _ (by omega)]; exact p5
  · rw [si_ne _ _ (by omega)]; exact p6
  · rw [si_ne _ _ (by omega)]; exact p7
/-- stuck from now on -/
theorem PZ_of {hc hr : pm_HP} {nn a o k q nb : Nat} (p : PS hc hr nn a o k q) (ha : a ≤ nb) (hk : k ≤ 60) : PZ (pm_si hc 18 5 1) (pm_si hr 59 11 1) nb := by
  obtain ⟨p1, p2, p3, p4, p5, p6, p7, p8, p9, p10⟩ := p
  refine ⟨a, k, ha, hk, ?_, ?_, si_same _ _ _ _, si_same _ _ _ _, ?_⟩
  · rw [si_ne _ _ (by omega)]; exact p1
  · rw [si_ne _ _ (by omega)]; exact p2
  · rw [si_ne _ _ (by omega)]; exact p7
def nxF (b : Nat → Int32) (nb a : Nat) : Int32 := if a < nb then b a else -1
theorem nx_c {b : Nat → Int32} {nb use a : Nat} (B : PBk nb use b) : (nxF b nb a = -1 ∧ nb ≤ a) ∨ (∃ c, c < 256 ∧ nxF b nb a = nI c ∧ a < nb) := by
  unfold nxF
  by_cases q : a < nb
  · rw [if_pos q]
    obtain ⟨c, hc, e⟩ := B.2.2 a (by have := B.1; omega)
    exact Or.inr ⟨c, hc, e, q⟩
  · rw [if_neg q]
    exact Or.inl ⟨rfl, by omega⟩
theorem nx_lt {b : Nat → Int32} {nb a : Nat} {x : Int32} (e : nxF b nb a = x) (hx : ¬ x = -1) : a < nb := by
  unfold nxF at e
  by_cases q : a < nb
  · exact q
  · rw [if_neg q] at e
    exact absurd e.symm hx
section PSm
variable {fb : Bool} {d : Nat} {h : pm_HP} {nb use : Nat} {b : Nat → Int32}
theorem sp_next {a : Nat} (B : PBk nb use b) (X : PXc h nb use b) (ha : h.1 18 3 = nI a) (hn : a ≤ nb) : rs fb (d + 3) n_X1_next [.ref 18] h = some (some (.int (nxF b nb a)), h) := by
  have hb := B.1
  unfold nxF
  rw [en_X1_next]
  by_cases q : a < nb
  · have e1 : ¬ nI nb ≤ nI a := nI_ge (by omega) (by omega)
    have a1 := at_21_0 (fb := fb) (d := d) (h := h) (s := a) (by omega)
    have e2 : pt h a = b a := X.2.2 a (by omega)
    rw [e2] at a1
    simp only [cs8_0, cs8_1, cs8_2, cs8_3, cs8_4, decide_eq_true_eq, ev_ald0, ev_aldn0, ev_cv0, ev_cv2, ev_gi, ev_go, ev_gr, ev_i, ev_if2, ev_ri, i00, i01, i10, is_sw, not_false_eq_true, not_true_eq_false, pm_bd_s, pm_tl_n, pm_tl_s, ↓reduceIte, pb_X1_next_0, pb_X1_next_1, pb_X1_next_2, kd_18, rf_18_0, rf_18_1, is_1_18, kd_21, rf_21_2, fc_21_0, fc_21_1, is_6_3_21, is_3_6_21, sp_used, X.1, ha, e1, a1, q, if_true, if_false]
  · have e1 : nI nb ≤ nI a := nI_le (by omega) (by omega)
    simp only [cs8_0, cs8_1, cs8_2, cs8_3, cs8_4, decide_eq_true_eq, ev_ald0, ev_aldn0, ev_cv0, ev_cv2, ev_gi, ev_go, ev_gr, ev_i, ev_if2, ev_ri, i00, i01, i10, is_sw, not_false_eq_true, not_true_eq_false, pm_bd_s, pm_tl_n, pm_tl_s, ↓reduceIte, pb_X1_next_0, pb_X1_next_1, pb_X1_next_2, kd_18, rf_18_0, rf_18_1, is_1_18, kd_21, rf_21_2, fc_21_0, fc_21_1, is_6_3_21, is_3_6_21, sp_used, X.1, ha, e1, q, if_true, if_false]
theorem sp_isNext {a : Nat} {c : Int32} (B : PBk nb use b) (X : PXc h nb use b) (ha : h.1 18 3 = nI a) (hn : a ≤ nb) (hs : h.1 18 5 = 0) : rs fb (d + 4) n_X1_isNext [.ref 18, .int c] h = some (some (.int (bI (nxF b nb a = c))), h) := by
  have a0 : (0 : Int32) &&& 1 = 0 := by decide
  have a1 : (1 : Int32) &&& 1 = 1 := by decide
  rw [en_X1_isNext]
  by_cases q : nxF b nb a = c
  · simp only [cs8_0, cs8_1, cs8_2, cs8_3, cs8_4, decide_eq_true_eq, ev_ald0, ev_aldn0, ev_cv0, ev_gi, ev_go, ev_i, ev_if0, ev_if2, ev_ild1, ev_rz, i00, i01, i10, not_false_eq_true, not_true_eq_false, pm_bd_s, pm_tl_n, pm_tl_s, ↓reduceIte, pb_X1_isNext_0, pb_X1_isNext_1, pb_X1_isNext_2, kd_18, rf_18_0, rf_18_1, is_1_18, hs, sp_next B X ha hn, q, a1, not_true_eq_false, if_true, if_false]
    unfold bI
    simp only [if_true]
  · simp only [cs8_0, cs8_1, cs8_2, cs8_3, cs8_4, decide_eq_true_eq, ev_ald0, ev_aldn0, ev_cv0, ev_gi, ev_go, ev_i, ev_if0, ev_if2, ev_ild1, ev_rz, i00, i01, i10, not_false_eq_true, not_true_eq_false, pm_bd_s, pm_tl_n, pm_tl_s, ↓reduceIte, pb_X1_isNext_0, pb_X1_isNext_1, pb_X1_isNext_2, kd_18, rf_18_0, rf_18_1, is_1_18, hs, sp_next B X ha hn, q, a0, not_true_eq_false, not_false_eq_true, if_true, if_false]
    unfold bI
    simp only [if_false]
theorem sp_isNextZ {c : Int32} (hs : h.1 18 5 = 1) : rs fb (d + 1) n_X1_isNext [.ref 18, .int c] h = some (some (.int 0), h) := by
  have a0 : (0 : Int32) &&& 1 = 0 := by decide
  rw [en_X1_isNext]
  simp only [cs8_0, cs8_1, cs8_2, cs8_3, cs8_4, decide_eq_true_eq, ev_ald0, ev_aldn0, ev_cv0, ev_gi, ev_go, ev_i, ev_if0, ev_if2, ev_ild1, ev_rz, i00, i01, i10, not_false_eq_true, not_true_eq_false, pm_bd_s, pm_tl_n, pm_tl_s, ↓reduceIte, pb_X1_isNext_0, pb_X1_isNext_1, pb_X1_isNext_2, kd_18, rf_18_0, rf_18_1, is_1_18, hs, i10, a0, not_false_eq_true, if_true, if_false]
theorem sp_isDigit {x : Int32} : rs fb (d + 2) n_X1_isDigit [.int x] h = some (some (.int (bI (48 ≤ x ∧ x ≤ 57))), h) := by
  rw [en_X1_isDigit]
  simp only [cs8_0, cs8_1, cs8_2, cs8_3, cs8_4, ev_cs3, ev_i, ev_ild0, ev_rz, pm_bd_s, pm_tl_n, pm_tl_s, pb_X1_isDigit_0, sp_isIn, bI_a, if_true]
theorem nm_m1 : ∀ u, u < 2 → nmF u (-1) = -1 := by decide
theorem sp_nameOf {x : Int32} (B : PBk nb use b) (X : PXc h nb use b) (hx : x = -1 ∨ ∃ c, c < 256 ∧ x = nI c) : rs fb (d + 6) n_X1_nameOf [.ref 18, .int x] h = some (some (.int (nmF use x)), h) := by
  rw [en_X1_nameOf]
  rcases hx with rfl | ⟨c, hc, rfl⟩
  · have q : (0 ≤ (-1 : Int32) ∧ (-1 : Int32) ≤ 255) = False := by decide
    simp only [cs8_0, cs8_1, cs8_2, cs8_3, cs8_4, decide_eq_true_eq, ev_ald0, ev_aldn0, ev_cs3, ev_ct1, ev_go, ev_gs, ev_i, ev_if0, ev_ild1, ev_ri, ev_un, i00, i01, i10, not_false_eq_true, not_true_eq_false, pm_bd_s, pm_tl_n, pm_tl_s, ↓reduceIte, pb_X1_nameOf_0, pb_X1_nameOf_1, pb_X1_nameOf_2, kd_18, rf_18_0, rf_18_1, is_1_18, sp_isIn, bI_0, q, not_false_eq_true, if_true, if_false, nm_m1 use B.2.1]
  · have q : (0 ≤ nI c ∧ nI c ≤ 255) = True := eq_true ⟨nI_pos' (by omega), nI_le (b := 255) (by omega) (by omega)⟩
    have u2 := B.2.1
    have X2 := X.2.1
    rcases (show use = 0 ∨ use = 1 by omega) with rfl | rfl
    · have e : pm_sd (nI 0) = 80 := by decide
      simp only [cs8_0, cs8_1, cs8_2, cs8_3, cs8_4, decide_eq_true_eq, ev_ald0, ev_aldn0, ev_cs3, ev_ct1, ev_go, ev_gs, ev_i, ev_if0, ev_ild1, ev_ri, ev_un, i00, i01, i10, not_false_eq_true, not_true_eq_false, pm_bd_s, pm_tl_n, pm_tl_s, ↓reduceIte, pb_X1_nameOf_0, pb_X1_nameOf_1, pb_X1_nameOf_2, kd_18, rf_18_0, rf_18_1, is_1_18, kd_80, rf_80_0, sp_isIn, bI_0, q, X2, e, ch_c c hc, j_idx0 hc, not_true_eq_false, if_true, if_false]
    · have e : pm_sd (nI 1) = 81 := by decide
      simp only [cs8_0, cs8_1, cs8_2, cs8_3, cs8_4, decide_eq_true_eq, ev_ald0, ev_aldn0, ev_cs3, ev_ct1, ev_go, ev_gs, ev_i, ev_if0, ev_ild1, ev_ri, ev_un, i00, i01, i10, not_false_eq_true, not_true_eq_false, pm_bd_s, pm_tl_n, pm_tl_s, ↓reduceIte, pb_X1_nameOf_0, pb_X1_nameOf_1, pb_X1_nameOf_2, kd_18, rf_18_0, rf_18_1, is_1_18, kd_81, rf_81_0, sp_isIn, bI_0, q, X2, e, ch_c c hc, j_idx1 hc, not_true_eq_false, if_true, if_false]
theorem add_20 {u : Nat} {v : Int32} (hu : h.1 20 1 = nI u) (hu2 : u < 60) : rs fb (d + 1) n_X0_add [.ref 20, .int v] h = some (none, adC h u v) := sp_ladd (t := 20) (by decide) hu hu2
theorem add_any {u : Nat} {v : Int32} (hu : h.1 20 1 = nI u) (hu2 : u ≤ 60) : ∃ h' u', (∀ D, rs fb (D + 1) n_X0_add [.ref 20, .int v] h = some (none, h')) ∧ u' ≤ 60 ∧ h'.1 20 1 = nI u' ∧ ∀ x y, ¬ (x = 20 ∧ y = 1) → ¬ x = 45 → h'.1 x y = h.1 x y := by
  by_cases q : u < 60
  · refine ⟨adC h u v, u + 1, fun D => add_20 hu q, by omega, si_same _ _ _ _, fun x y h1 h2 => ?_⟩
    unfold adC
    rw [si_ne _ _ (by omega), si_ne _ _ (by omega)]
  · obtain rfl : u = 60 := by omega
    exact ⟨h, 60, fun D => sp_ladd_full (t := 20) (by decide) hu, by omega, hu, fun _ _ _ _ => rfl⟩
/-- more parts of a reader that is stuck -/
theorem PZ_add {hr : pm_HP} {v : Int32} (p : PZ h hr nb) : ∃ h', (∀ D, rs fb (D + 1) n_X0_add [.ref 20, .int v] h = some (none, h')) ∧ PZ h' hr nb ∧ FPc h h' := by
  obtain ⟨a, k, p1, p2, p3, p4, p5, p6, p7⟩ := p
  obtain ⟨h', u', r, e1, e2, f⟩ := add_any (fb := fb) (v := v) p7 p2
  exact ⟨h', r, ⟨a, u', p1, e1, by rw [f 18 3 (by omega) (by omega)]; exact p3, p4, by rw [f 18 5 (by omega) (by omega)]; exact p5, p6, e2⟩, fun x y h1 h2 h3 => f x y h2 h3⟩
theorem sr_here {a : Nat} (B : PBk nb use b) (X : PXr h nb use b) (ha : h.1 59 8 = nI a) (hn : a ≤ nb) (hs : h.1 59 11 = 0) : rs fb (d + 1) n_X9_here [.ref 59] h = some (some (.int (nxF b nb a)), h) := by
  have hb := B.1
  have ix3 : pm_ix (3 : Int32) 440 = true := by decide
  have cl3 : (3 : Int32).toNatClampNeg = 3 := by decide
  unfold nxF
  rw [en_X9_here]
  by_cases q : a < nb
  · have e1 : ¬ nI nb ≤ nI a := nI_ge (by omega) (by omega)
    have e : (232 : Int32) + nI a = nI (232 + a) := nI_add 232 a
    have x1 : pm_ix (nI (232 + a)) 440 = true := pm_ix_n (by omega) (by omega)
    have c1 := nI_clamp (show 232 + a < 2 ^ 31 by omega)
    have e2 := X.2.2 a (by omega)
    simp only [decide_eq_true_eq, ev_ald0, ev_aldn0, ev_bin, ev_gi, ev_go, ev_gr, ev_i, ev_ia, ev_if0, ev_if2, ev_ri, i00, i01, i10, not_false_eq_true, not_true_eq_false, ↓reduceIte, pb_X9_here_0, pb_X9_here_1, pb_X9_here_2, kd_59, rf_59_0, rf_59_1, rf_59_3, rf_59_4, rf_59_5, rf_59_6, rf_59_7, rf_59_12, rf_59_14, rf_59_15, rf_59_16, rf_59_19, rf_59_23, rf_59_24, rf_59_25, rf_59_26, is_9_59, kd_60, al_60, hs, ix3, cl3, X.1, ha, e1, e, x1, c1, e2, q, not_true_eq_false, if_true, if_false]
  · have e1 : nI nb ≤ nI a := nI_le (by omega) (by omega)
    simp only [decide_eq_true_eq, ev_ald0, ev_aldn0, ev_bin, ev_gi, ev_go, ev_gr, ev_i, ev_ia, ev_if0, ev_if2, ev_ri, i00, i01, i10, not_false_eq_true, not_true_eq_false, ↓reduceIte, pb_X9_here_0, pb_X9_here_1, pb_X9_here_2, kd_59, rf_59_0, rf_59_1, rf_59_3, rf_59_4, rf_59_5, rf_59_6, rf_59_7, rf_59_12, rf_59_14, rf_59_15, rf_59_16, rf_59_19, rf_59_23, rf_59_24, rf_59_25, rf_59_26, is_9_59, kd_60, al_60, hs, ix3, cl3, X.1, ha, e1, q, not_true_eq_false, if_true, if_false]
theorem sr_takes1 {a : Nat} {c : Int32} (B : PBk nb use b) (X : PXr h nb use b) (ha : h.1 59 8 = nI a) (hn : a ≤ nb) (hs : h.1 59 11 = 0) (hc : nxF b nb a = c) : rs fb (d + 2) n_X9_takes [.ref 59, .int c] h = some (some (.int 1), pm_si h 59 8 (nI (a + 1))) := by
  have a1 : ((1 : Int32) &&& 1 = 1) = True := by decide
  rw [en_X9_takes]
  simp only [c20, c2i, c2n, c2r, cs8_0, cs8_1, cs8_2, cs8_3, cs8_4, decide_eq_true_eq, ev_ald0, ev_aldn0, ev_bin, ev_cv0, ev_dup_i, ev_dup_r, ev_gi, ev_go, ev_i, ev_if0, ev_if2, ev_ild1, ev_ild2, ev_ist2, ev_pi, ev_rz, i00, i01, i10, not_false_eq_true, not_true_eq_false, pm_bd_s, pm_tl_n, pm_tl_s, ↓reduceIte, pb_X9_takes_0, pb_X9_takes_1, pb_X9_takes_2, pb_X9_takes_3, pb_X9_takes_4, kd_59, rf_59_0, rf_59_1, rf_59_3, rf_59_4, rf_59_5, rf_59_6, rf_59_7, rf_59_12, rf_59_14, rf_59_15, rf_59_16, rf_59_19, rf_59_23, rf_59_24, rf_59_25, rf_59_26, is_9_59, sr_here B X ha hn hs, hc, ha, nI_1, i10, a1, not_true_eq_false, if_true, if_false]
theorem sr_takes0 {a : Nat} {c : Int32} (B : PBk nb use b) (X : PXr h nb use b) (ha : h.1 59 8 = nI a) (hn : a ≤ nb) (hs : h.1 59 11 = 0) (hc : ¬ nxF b nb a = c) : rs fb (d + 2) n_X9_takes [.ref 59, .int c] h = some (some (.int 0), h) := by
  have a1 : ((0 : Int32) &&& 1 = 0) = True := by decide
  have e : pm_si h 59 8 (h.1 59 8) = h := si_self h 59 8
  rw [en_X9_takes]
  simp only [c20, c2i, c2n, c2r, cs8_0, cs8_1, cs8_2, cs8_3, cs8_4, decide_eq_true_eq, ev_ald0, ev_aldn0, ev_bin, ev_cv0, ev_dup_i, ev_dup_r, ev_gi, ev_go, ev_i, ev_if0, ev_if2, ev_ild1, ev_ild2, ev_ist2, ev_pi, ev_rz, i00, i01, i10, not_false_eq_true, not_true_eq_false, pm_bd_s, pm_tl_n, pm_tl_s, ↓reduceIte, pb_X9_takes_0, pb_X9_takes_1, pb_X9_takes_2, pb_X9_takes_3, pb_X9_takes_4, kd_59, rf_59_0, rf_59_1, rf_59_3, rf_59_4, rf_59_5, rf_59_6, rf_59_7, rf_59_12, rf_59_14, rf_59_15, rf_59_16, rf_59_19, rf_59_23, rf_59_24, rf_59_25, rf_59_26, is_9_59, sr_here B X ha hn hs, hc, add0, e, a1, not_false_eq_true, if_true, if_false]
theorem sr_hereZ (hs : h.1 59 11 = 1) : rs fb (d + 1) n_X9_here [.ref 59] h = some (some (.int (-1)), h) := by
  rw [en_X9_here]
  simp only [decide_eq_true_eq, ev_ald0, ev_aldn0, ev_bin, ev_gi, ev_go, ev_gr, ev_i, ev_ia, ev_if0, ev_if2, ev_ri, i00, i01, i10, not_false_eq_true, not_true_eq_false, ↓reduceIte, pb_X9_here_0, pb_X9_here_1, pb_X9_here_2, kd_59, rf_59_0, rf_59_1, rf_59_3, rf_59_4, rf_59_5, rf_59_6, rf_59_7, rf_59_12, rf_59_14, rf_59_15, rf_59_16, rf_59_19, rf_59_23, rf_59_24, rf_59_25, rf_59_26, is_9_59, hs, i10, not_false_eq_true, if_true, if_false]
theorem sr_takesZ {c : Int32} (hs : h.1 59 11 = 1) (hc : ¬ (-1 : Int32) = c) : rs fb (d + 2) n_X9_takes [.ref 59, .int c] h = some (some (.int 0), h) := by
  have a1 : ((0 : Int32) &&& 1 = 0) = True := by decide
  have e : pm_si h 59 8 (h.1 59 8) = h := si_self h 59 8
  rw [en_X9_takes]
  simp only [c20, c2i, c2n, c2r, cs8_0, cs8_1, cs8_2, cs8_3, cs8_4, decide_eq_true_eq, ev_ald0, ev_aldn0, ev_bin, ev_cv0, ev_dup_i, ev_dup_r, ev_gi, ev_go, ev_i, ev_if0, ev_if2, ev_ild1, ev_ild2, ev_ist2, ev_pi, ev_rz, i00, i01, i10, not_false_eq_true, not_true_eq_false, pm_bd_s, pm_tl_n, pm_tl_s, ↓reduceIte, pb_X9_takes_0, pb_X9_takes_1, pb_X9_takes_2, pb_X9_takes_3, pb_X9_takes_4, kd_59, rf_59_0, rf_59_1, rf_59_3, rf_59_4, rf_59_5, rf_59_6, rf_59_7, rf_59_12, rf_59_14, rf_59_15, rf_59_16, rf_59_19, rf_59_23, rf_59_24, rf_59_25, rf_59_26, is_9_59, sr_hereZ hs, hc, add0, e, a1, not_false_eq_true, if_true, if_false]
theorem sr_codes {k : Nat} {w : Int32} (hs : h.1 59 11 = 0) (hk : h.1 59 13 = nI k) (hk2 : k < 60) : rs fb (d + 1) n_X9_codes [.ref 59, .int w] h = some (none, adR h k w) := by
  have x1 : pm_ix (nI k) 60 = true := pm_ix_n (by omega) (by omega)
  have c1 := nI_clamp (show k < 2 ^ 31 by omega)
  have e : (pm_si h 67 k w).1 59 13 = nI k := (si_ne _ _ (by omega)).trans hk
  unfold adR
  rw [en_X9_codes]
  simp only [decide_eq_true_eq, ev_ald0, ev_aldn0, ev_bin, ev_dup_i, ev_dup_r, ev_gi, ev_go, ev_gr, ev_i, ev_ias, ev_if0, ev_ild1, ev_pi, ev_rv, i00, i01, i10, not_false_eq_true, not_true_eq_false, ↓reduceIte, pb_X9_codes_0, pb_X9_codes_1, kd_59, rf_59_0, rf_59_1, rf_59_3, rf_59_4, rf_59_5, rf_59_6, rf_59_7, rf_59_12, rf_59_14, rf_59_15, rf_59_16, rf_59_19, rf_59_23, rf_59_24, rf_59_25, rf_59_26, is_9_59, kd_67, al_67, hs, hk, x1, c1, e, nI_1, not_true_eq_false, if_true, if_false]
theorem sr_codesZ {w : Int32} (hs : h.1 59 11 = 1) : rs fb (d + 1) n_X9_codes [.ref 59, .int w] h = some (none, h) := by
  rw [en_X9_codes]
  simp only [decide_eq_true_eq, ev_ald0, ev_aldn0, ev_bin, ev_dup_i, ev_dup_r, ev_gi, ev_go, ev_gr, ev_i, ev_ias, ev_if0, ev_ild1, ev_pi, ev_rv, i00, i01, i10, not_false_eq_true, not_true_eq_false, ↓reduceIte, pb_X9_codes_0, pb_X9_codes_1, kd_59, rf_59_0, rf_59_1, rf_59_3, rf_59_4, rf_59_5, rf_59_6, rf_59_7, rf_59_12, rf_59_14, rf_59_15, rf_59_16, rf_59_19, rf_59_23, rf_59_24, rf_59_25, rf_59_26, is_9_59, hs, i10, not_false_eq_true, if_true, if_false]
set_option maxRecDepth 100000 in
theorem sr_nameOf0 {x : Int32} (hu : h.1 59 10 = 0) : rs fb (d + 6) n_X9_nameOf [.ref 59, .int x] h = some (some (.int (nmF 0 x)), h) := by
  have xu : pm_ix (0 : Int32) 2 = true := by decide
  have cu : (0 : Int32).toNatClampNeg = 0 := by decide
  have l0 : ¬ (5 : Int32) ≤ 0 := by decide
  have s0 : (0 : Int32) + 1 = 1 := by decide
  have l1 : ¬ (5 : Int32) ≤ 1 := by decide
  have s1 : (1 : Int32) + 1 = 2 := by decide
  have l2 : ¬ (5 : Int32) ≤ 2 := by decide
  have s2 : (2 : Int32) + 1 = 3 := by decide
  have l3 : ¬ (5 : Int32) ≤ 3 := by decide
  have s3 : (3 : Int32) + 1 = 4 := by decide
  have l4 : ¬ (5 : Int32) ≤ 4 := by decide
  have s4 : (4 : Int32) + 1 = 5 := by decide
  have lz : (5 : Int32) ≤ 5 := by decide
  rw [en_X9_nameOf]
  by_cases q0 : x = 105
  · subst q0
    have fs : ((110 : Int32) = 105) = False ∧ ((115 : Int32) = 105) = False ∧ ((97 : Int32) = 105) = False ∧ ((116 : Int32) = 105) = False := by decide
    have nv : nmF 0 105 = 0 := by decide
    simp only [c20, c2i, c2n, c2r, cs8_0, cs8_1, cs8_2, cs8_3, cs8_4, decide_eq_true_eq, ev_aa, ev_ald0, ev_aldn0, ev_ct0, ev_ct1, ev_gi, ev_go, ev_gr, ev_i, ev_if2, ev_ild1, ev_ild2, ev_ild3, ev_inc3, ev_ist2, ev_ist3, ev_ri, i00, i01, i10, not_false_eq_true, not_true_eq_false, pm_bd_s, pm_tl_n, pm_tl_s, ↓reduceIte, pb_X9_nameOf_0, pb_X9_nameOf_1, pb_X9_nameOf_2, pb_X9_nameOf_3, pb_X9_nameOf_4, kd_59, rf_59_0, rf_59_1, rf_59_3, rf_59_4, rf_59_5, rf_59_6, rf_59_7, rf_59_12, rf_59_14, rf_59_15, rf_59_16, rf_59_19, rf_59_23, rf_59_24, rf_59_25, rf_59_26, is_9_59, kd_66, al_66, rf_66_0, rf_66_1, kd_80, rf_80_0, hu, xu, cu, j_len0, l0, s0, j_chr0_0, l1, s1, j_chr0_1, l2, s2, j_chr0_2, l3, s3, j_chr0_3, l4, s4, j_chr0_4, lz, fs, nv, or_true, not_true_eq_false, not_false_eq_true, if_true, if_false]
  · have f0 : ((105 : Int32) = x) = False := eq_false (fun t => q0 t.symm)
    by_cases q1 : x = 110
    · subst q1
      have fs : ((105 : Int32) = 110) = False ∧ ((115 : Int32) = 110) = False ∧ ((97 : Int32) = 110) = False ∧ ((116 : Int32) = 110) = False := by decide
      have nv : nmF 0 110 = 1 := by decide
      simp only [c20, c2i, c2n, c2r, cs8_0, cs8_1, cs8_2, cs8_3, cs8_4, decide_eq_true_eq, ev_aa, ev_ald0, ev_aldn0, ev_ct0, ev_ct1, ev_gi, ev_go, ev_gr, ev_i, ev_if2, ev_ild1, ev_ild2, ev_ild3, ev_inc3, ev_ist2, ev_ist3, ev_ri, i00, i01, i10, not_false_eq_true, not_true_eq_false, pm_bd_s, pm_tl_n, pm_tl_s, ↓reduceIte, pb_X9_nameOf_0, pb_X9_nameOf_1, pb_X9_nameOf_2, pb_X9_nameOf_3, pb_X9_nameOf_4, kd_59, rf_59_0, rf_59_1, rf_59_3, rf_59_4, rf_59_5, rf_59_6, rf_59_7, rf_59_12, rf_59_14, rf_59_15, rf_59_16, rf_59_19, rf_59_23, rf_59_24, rf_59_25, rf_59_26, is_9_59, kd_66, al_66, rf_66_0, rf_66_1, kd_80, rf_80_0, hu, xu, cu, j_len0, l0, s0, j_chr0_0, l1, s1, j_chr0_1, l2, s2, j_chr0_2, l3, s3, j_chr0_3, l4, s4, j_chr0_4, lz, fs, nv, or_true, not_true_eq_false, not_false_eq_true, if_true, if_false]
    · have f1 : ((110 : Int32) = x) = False := eq_false (fun t => q1 t.symm)
      by_cases q2 : x = 115
      · subst q2
        have fs : ((105 : Int32) = 115) = False ∧ ((110 : Int32) = 115) = False ∧ ((97 : Int32) = 115) = False ∧ ((116 : Int32) = 115) = False := by decide
        have nv : nmF 0 115 = 2 := by decide
        simp only [c20, c2i, c2n, c2r, cs8_0, cs8_1, cs8_2, cs8_3, cs8_4, decide_eq_true_eq, ev_aa, ev_ald0, ev_aldn0, ev_ct0, ev_ct1, ev_gi, ev_go, ev_gr, ev_i, ev_if2, ev_ild1, ev_ild2, ev_ild3, ev_inc3, ev_ist2, ev_ist3, ev_ri, i00, i01, i10, not_false_eq_true, not_true_eq_false, pm_bd_s, pm_tl_n, pm_tl_s, ↓reduceIte, pb_X9_nameOf_0, pb_X9_nameOf_1, pb_X9_nameOf_2, pb_X9_nameOf_3, pb_X9_nameOf_4, kd_59, rf_59_0, rf_59_1, rf_59_3, rf_59_4, rf_59_5, rf_59_6, rf_59_7, rf_59_12, rf_59_14, rf_59_15, rf_59_16, rf_59_19, rf_59_23, rf_59_24, rf_59_25, rf_59_26, is_9_59, kd_66, al_66, rf_66_0, rf_66_1, kd_80, rf_80_0, hu, xu, cu, j_len0, l0, s0, j_chr0_0, l1, s1, j_chr0_1, l2, s2, j_chr0_2, l3, s3, j_chr0_3, l4, s4, j_chr0_4, lz, fs, nv, or_true, not_true_eq_false, not_false_eq_true, if_true, if_false]
      · have f2 : ((115 : Int32) = x) = False := eq_false (fun t => q2 t.symm)
        by_cases q3 : x = 97
        · subst q3
          have fs : ((105 : Int32) = 97) = False ∧ ((110 : Int32) = 97) = False ∧ ((115 : Int32) = 97) = False ∧ ((116 : Int32) = 97) = False := by decide
          have nv : nmF 0 97 = 3 := by decide
          simp only [c20, c2i, c2n, c2r, cs8_0, cs8_1, cs8_2, cs8_3, cs8_4, decide_eq_true_eq, ev_aa, ev_ald0, ev_aldn0, ev_ct0, ev_ct1, ev_gi, ev_go, ev_gr, ev_i, ev_if2, ev_ild1, ev_ild2, ev_ild3, ev_inc3, ev_ist2, ev_ist3, ev_ri, i00, i01, i10, not_false_eq_true, not_true_eq_false, pm_bd_s, pm_tl_n, pm_tl_s, ↓reduceIte, pb_X9_nameOf_0, pb_X9_nameOf_1, pb_X9_nameOf_2, pb_X9_nameOf_3, pb_X9_nameOf_4, kd_59, rf_59_0, rf_59_1, rf_59_3, rf_59_4, rf_59_5, rf_59_6, rf_59_7, rf_59_12, rf_59_14, rf_59_15, rf_59_16, rf_59_19, rf_59_23, rf_59_24, rf_59_25, rf_59_26, is_9_59, kd_66, al_66, rf_66_0, rf_66_1, kd_80, rf_80_0, hu, xu, cu, j_len0, l0, s0, j_chr0_0, l1, s1, j_chr0_1, l2, s2, j_chr0_2, l3, s3, j_chr0_3, l4, s4, j_chr0_4, lz, fs, nv, or_true, not_true_eq_false, not_false_eq_true, if_true, if_false]
        · have f3 : ((97 : Int32) = x) = False := eq_false (fun t => q3 t.symm)
          by_cases q4 : x = 116
          · subst q4
            have fs : ((105 : Int32) = 116) = False ∧ ((110 : Int32) = 116) = False ∧ ((115 : Int32) = 116) = False ∧ ((97 : Int32) = 116) = False := by decide
            have nv : nmF 0 116 = 4 := by decide
            simp only [c20, c2i, c2n, c2r, cs8_0, cs8_1, cs8_2, cs8_3, cs8_4, decide_eq_true_eq, ev_aa, ev_ald0, ev_aldn0, ev_ct0, ev_ct1, ev_gi, ev_go, ev_gr, ev_i, ev_if2, ev_ild1, ev_ild2, ev_ild3, ev_inc3, ev_ist2, ev_ist3, ev_ri, i00, i01, i10, not_false_eq_true, not_true_eq_false, pm_bd_s, pm_tl_n, pm_tl_s, ↓reduceIte, pb_X9_nameOf_0, pb_X9_nameOf_1, pb_X9_nameOf_2, pb_X9_nameOf_3, pb_X9_nameOf_4, kd_59, rf_59_0, rf_59_1, rf_59_3, rf_59_4, rf_59_5, rf_59_6, rf_59_7, rf_59_12, rf_59_14, rf_59_15, rf_59_16, rf_59_19, rf_59_23, rf_59_24, rf_59_25, rf_59_26, is_9_59, kd_66, al_66, rf_66_0, rf_66_1, kd_80, rf_80_0, hu, xu, cu, j_len0, l0, s0, j_chr0_0, l1, s1, j_chr0_1, l2, s2, j_chr0_2, l3, s3, j_chr0_3, l4, s4, j_chr0_4, lz, fs, nv, or_true, not_true_eq_false, not_false_eq_true, if_true, if_false]
          · have f4 : ((116 : Int32) = x) = False := eq_false (fun t => q4 t.symm)
            have nv : nmF 0 x = -1 := by
              unfold nmF
              simp only [q0, q1, q2, q3, q4, Nat.one_ne_zero, if_true, if_false]
            simp only [c20, c2i, c2n, c2r, cs8_0, cs8_1, cs8_2, cs8_3, cs8_4, decide_eq_true_eq, ev_aa, ev_ald0, ev_aldn0, ev_ct0, ev_ct1, ev_gi, ev_go, ev_gr, ev_i, ev_if2, ev_ild1, ev_ild2, ev_ild3, ev_inc3, ev_ist2, ev_ist3, ev_ri, i00, i01, i10, not_false_eq_true, not_true_eq_false, pm_bd_s, pm_tl_n, pm_tl_s, ↓reduceIte, pb_X9_nameOf_0, pb_X9_nameOf_1, pb_X9_nameOf_2, pb_X9_nameOf_3, pb_X9_nameOf_4, kd_59, rf_59_0, rf_59_1, rf_59_3, rf_59_4, rf_59_5, rf_59_6, rf_59_7, rf_59_12, rf_59_14, rf_59_15, rf_59_16, rf_59_19, rf_59_23, rf_59_24, rf_59_25, rf_59_26, is_9_59, kd_66, al_66, rf_66_0, rf_66_1, kd_80, rf_80_0, hu, xu, cu, j_len0, l0, s0, j_chr0_0, l1, s1, j_chr0_1, l2, s2, j_chr0_2, l3, s3, j_chr0_3, l4, s4, j_chr0_4, lz, f0, f1, f2, f3, f4, nv, or_true, not_false_eq_true, if_true, if_false]
set_option maxRecDepth 100000 in
theorem sr_nameOf1 {x : Int32} (hu : h.1 59 10 = 1) : rs fb (d + 6) n_X9_nameOf [.ref 59, .int x] h = some (some (.int (nmF 1 x)), h) := by
  have xu : pm_ix (1 : Int32) 2 = true := by decide
  have cu : (1 : Int32).toNatClampNeg = 1 := by decide
  have l0 : ¬ (4 : Int32) ≤ 0 := by decide
  have s0 : (0 : Int32) + 1 = 1 := by decide
  have l1 : ¬ (4 : Int32) ≤ 1 := by decide
  have s1 : (1 : Int32) + 1 = 2 := by decide
  have l2 : ¬ (4 : Int32) ≤ 2 := by decide
  have s2 : (2 : Int32) + 1 = 3 := by decide
  have l3 : ¬ (4 : Int32) ≤ 3 := by decide
  have s3 : (3 : Int32) + 1 = 4 := by decide
  have lz : (4 : Int32) ≤ 4 := by decide
  rw [en_X9_nameOf]
  by_cases q0 : x = 105
  · subst q0
    have fs : ((108 : Int32) = 105) = False ∧ ((119 : Int32) = 105) = False ∧ ((99 : Int32) = 105) = False := by decide
    have nv : nmF 1 105 = 0 := by decide
    simp only [c20, c2i, c2n, c2r, cs8_0, cs8_1, cs8_2, cs8_3, cs8_4, decide_eq_true_eq, ev_aa, ev_ald0, ev_aldn0, ev_ct0, ev_ct1, ev_gi, ev_go, ev_gr, ev_i, ev_if2, ev_ild1, ev_ild2, ev_ild3, ev_inc3, ev_ist2, ev_ist3, ev_ri, i00, i01, i10, not_false_eq_true, not_true_eq_false, pm_bd_s, pm_tl_n, pm_tl_s, ↓reduceIte, pb_X9_nameOf_0, pb_X9_nameOf_1, pb_X9_nameOf_2, pb_X9_nameOf_3, pb_X9_nameOf_4, kd_59, rf_59_0, rf_59_1, rf_59_3, rf_59_4, rf_59_5, rf_59_6, rf_59_7, rf_59_12, rf_59_14, rf_59_15, rf_59_16, rf_59_19, rf_59_23, rf_59_24, rf_59_25, rf_59_26, is_9_59, kd_66, al_66, rf_66_0, rf_66_1, kd_81, rf_81_0, hu, xu, cu, j_len1, l0, s0, j_chr1_0, l1, s1, j_chr1_1, l2, s2, j_chr1_2, l3, s3, j_chr1_3, lz, fs, nv, or_true, not_true_eq_false, not_false_eq_true, if_true, if_false]
  · have f0 : ((105 : Int32) = x) = False := eq_false (fun t => q0 t.symm)
    by_cases q1 : x = 108
    · subst q1
      have fs : ((105 : Int32) = 108) = False ∧ ((119 : Int32) = 108) = False ∧ ((99 : Int32) = 108) = False := by decide
      have nv : nmF 1 108 = 1 := by decide
      simp only [c20, c2i, c2n, c2r, cs8_0, cs8_1, cs8_2, cs8_3, cs8_4, decide_eq_true_eq, ev_aa, ev_ald0, ev_aldn0, ev_ct0, ev_ct1, ev_gi, ev_go, ev_gr, ev_i, ev_if2, ev_ild1, ev_ild2, ev_ild3, ev_inc3, ev_ist2, ev_ist3, ev_ri, i00, i01, i10, not_false_eq_true, not_true_eq_false, pm_bd_s, pm_tl_n, pm_tl_s, ↓reduceIte, pb_X9_nameOf_0, pb_X9_nameOf_1, pb_X9_nameOf_2, pb_X9_nameOf_3, pb_X9_nameOf_4, kd_59, rf_59_0, rf_59_1, rf_59_3, rf_59_4, rf_59_5, rf_59_6, rf_59_7, rf_59_12, rf_59_14, rf_59_15, rf_59_16, rf_59_19, rf_59_23, rf_59_24, rf_59_25, rf_59_26, is_9_59, kd_66, al_66, rf_66_0, rf_66_1, kd_81, rf_81_0, hu, xu, cu, j_len1, l0, s0, j_chr1_0, l1, s1, j_chr1_1, l2, s2, j_chr1_2, l3, s3, j_chr1_3, lz, fs, nv, or_true, not_true_eq_false, not_false_eq_true, if_true, if_false]
    · have f1 : ((108 : Int32) = x) = False := eq_false (fun t => q1 t.symm)
      by_cases q2 : x = 119
      · subst q2
        have fs : ((105 : Int32) = 119) = False ∧ ((108 : Int32) = 119) = False ∧ ((99 : Int32) = 119) = False := by decide
        have nv : nmF 1 119 = 2 := by decide
        simp only [c20, c2i, c2n, c2r, cs8_0, cs8_1, cs8_2, cs8_3, cs8_4, decide_eq_true_eq, ev_aa, ev_ald0, ev_aldn0, ev_ct0, ev_ct1, ev_gi, ev_go, ev_gr, ev_i, ev_if2, ev_ild1, ev_ild2, ev_ild3, ev_inc3, ev_ist2, ev_ist3, ev_ri, i00, i01, i10, not_false_eq_true, not_true_eq_false, pm_bd_s, pm_tl_n, pm_tl_s, ↓reduceIte, pb_X9_nameOf_0, pb_X9_nameOf_1, pb_X9_nameOf_2, pb_X9_nameOf_3, pb_X9_nameOf_4, kd_59, rf_59_0, rf_59_1, rf_59_3, rf_59_4, rf_59_5, rf_59_6, rf_59_7, rf_59_12, rf_59_14, rf_59_15, rf_59_16, rf_59_19, rf_59_23, rf_59_24, rf_59_25, rf_59_26, is_9_59, kd_66, al_66, rf_66_0, rf_66_1, kd_81, rf_81_0, hu, xu, cu, j_len1, l0, s0, j_chr1_0, l1, s1, j_chr1_1, l2, s2, j_chr1_2, l3, s3, j_chr1_3, lz, fs, nv, or_true, not_true_eq_false, not_false_eq_true, if_true, if_false]
      · have f2 : ((119 : Int32) = x) = False := eq_false (fun t => q2 t.symm)
        by_cases q3 : x = 99
        · subst q3
          have fs : ((105 : Int32) = 99) = False ∧ ((108 : Int32) = 99) = False ∧ ((119 : Int32) = 99) = False := by decide
          have nv : nmF 1 99 = 3 := by decide
          simp only [c20, c2i, c2n, c2r, cs8_0, cs8_1, cs8_2, cs8_3, cs8_4, decide_eq_true_eq, ev_aa, ev_ald0, ev_aldn0, ev_ct0, ev_ct1, ev_gi, ev_go, ev_gr, ev_i, ev_if2, ev_ild1, ev_ild2, ev_ild3, ev_inc3, ev_ist2, ev_ist3, ev_ri, i00, i01, i10, not_false_eq_true, not_true_eq_false, pm_bd_s, pm_tl_n, pm_tl_s, ↓reduceIte, pb_X9_nameOf_0, pb_X9_nameOf_1, pb_X9_nameOf_2, pb_X9_nameOf_3, pb_X9_nameOf_4, kd_59, rf_59_0, rf_59_1, rf_59_3, rf_59_4, rf_59_5, rf_59_6, rf_59_7, rf_59_12, rf_59_14, rf_59_15, rf_59_16, rf_59_19, rf_59_23, rf_59_24, rf_59_25, rf_59_26, is_9_59, kd_66, al_66, rf_66_0, rf_66_1, kd_81, rf_81_0, hu, xu, cu, j_len1, l0, s0, j_chr1_0, l1, s1, j_chr1_1, l2, s2, j_chr1_2, l3, s3, j_chr1_3, lz, fs, nv, or_true, not_true_eq_false, not_false_eq_true, if_true, if_false]
        · have f3 : ((99 : Int32) = x) = False := eq_false (fun t => q3 t.symm)
          have nv : nmF 1 x = -1 := by
            unfold nmF
            simp only [q0, q1, q2, q3, Nat.one_ne_zero, if_true, if_false]
          simp only [c20, c2i, c2n, c2r, cs8_0, cs8_1, cs8_2, cs8_3, cs8_4, decide_eq_true_eq, ev_aa, ev_ald0, ev_aldn0, ev_ct0, ev_ct1, ev_gi, ev_go, ev_gr, ev_i, ev_if2, ev_ild1, ev_ild2, ev_ild3, ev_inc3, ev_ist2, ev_ist3, ev_ri, i00, i01, i10, not_false_eq_true, not_true_eq_false, pm_bd_s, pm_tl_n, pm_tl_s, ↓reduceIte, pb_X9_nameOf_0, pb_X9_nameOf_1, pb_X9_nameOf_2, pb_X9_nameOf_3, pb_X9_nameOf_4, kd_59, rf_59_0, rf_59_1, rf_59_3, rf_59_4, rf_59_5, rf_59_6, rf_59_7, rf_59_12, rf_59_14, rf_59_15, rf_59_16, rf_59_19, rf_59_23, rf_59_24, rf_59_25, rf_59_26, is_9_59, kd_66, al_66, rf_66_0, rf_66_1, kd_81, rf_81_0, hu, xu, cu, j_len1, l0, s0, j_chr1_0, l1, s1, j_chr1_1, l2, s2, j_chr1_2, l3, s3, j_chr1_3, lz, f0, f1, f2, f3, nv, or_true, not_false_eq_true, if_true, if_false]
theorem sr_nameOf {x : Int32} (B : PBk nb use b) (X : PXr h nb use b) : rs fb (d + 6) n_X9_nameOf [.ref 59, .int x] h = some (some (.int (nmF use x)), h) := by
  have u2 := B.2.1
  have X2 := X.2.1
  rcases (show use = 0 ∨ use = 1 by omega) with rfl | rfl
  · exact sr_nameOf0 X2
  · exact sr_nameOf1 X2
end PSm
